/-- the first two of a set, one by one -/
theorem pick_inv {S : Nat → Nat → Nat} {r used F : Nat} (hF : ∀ t, F / 2 ^ t % 2 = 1 ↔ t < S 0 4 ∧ S 1 t / 2 ^ r % 2 = 1 ∧ used / 2 ^ t % 2 = 0) : ∀ t, t ≤ S 0 4 → (((itr (mPickF S r used) 0 (0, 0) t).2 = 0 ∧ F % 2 ^ t = 0 ∧ (F &&& (F - 1)) % 2 ^ t = 0) ∨ ((itr (mPickF S r used) 0 (0, 0) t).2 = 1 ∧ ¬ F % 2 ^ t = 0 ∧ (F &&& (F - 1)) % 2 ^ t = 0) ∨ ((itr (mPickF S r used) 0 (0, 0) t).2 = 2 ∧ ¬ (F &&& (F - 1)) % 2 ^ t = 0)) ∧ ∀ i, (itr (mPickF S r used) 0 (0, 0) t).1 / 2 ^ i % 2 = 1 ↔ i < t ∧ F / 2 ^ i % 2 = 1 ∧ (F &&& (F - 1)) % 2 ^ i = 0
  | 0, _ => by
    refine ⟨Or.inl ⟨rfl, Nat.mod_one _, Nat.mod_one _⟩, fun i => ?_⟩
    show 0 / 2 ^ i % 2 = 1 ↔ _
    rw [bt_zero]
    exact ⟨fun q => (by cases q), fun q => absurd q.1 (Nat.not_lt_zero _)⟩
  | t + 1, ht => by
    obtain ⟨h1, h2⟩ := pick_inv (S := S) (r := r) (used := used) hF t (by omega)
    have hp : 0 < 2 ^ t := Nat.two_pow_pos t
    have g := low_bit F t
    have b01 := bt01 F t
    have c01 := bt01 (F &&& (F - 1)) t
    have hFt := hF t
    have mF := mod_s F t
    have mG := mod_s (F &&& (F - 1)) t
    rw [itr_z]
    generalize itr (mPickF S r used) 0 (0, 0) t = q at h1 h2
    unfold mPickF
    by_cases hb : F / 2 ^ t % 2 = 1
    · have hcond := hFt.mp hb
      rw [hb, Nat.mul_one] at mF
      rcases h1 with ⟨k1, k2, k3⟩ | ⟨k1, k2, k3⟩ | ⟨k1, k2⟩
      · have g0 : ¬ (F &&& (F - 1)) / 2 ^ t % 2 = 1 := fun z => (g.mp z).2 k2
        have g0' : (F &&& (F - 1)) / 2 ^ t % 2 = 0 := by omega
        rw [g0', Nat.mul_zero, k3] at mG
        rw [if_pos ⟨by omega, hcond.2.1, hcond.2.2⟩]
        refine ⟨Or.inr (Or.inl ⟨by show q.2 + 1 = 1; omega, by omega, by omega⟩), fun i => ?_⟩
        rw [or_bit, h2 i]
        constructor
        · rintro (⟨z1, z2⟩ | rfl)
          · exact ⟨by omega, z2⟩
          · exact ⟨by omega, hb, k3⟩
        · rintro ⟨z1, z2⟩
          by_cases hi : t = i
          · exact Or.inr hi
          · exact Or.inl ⟨by omega, z2⟩
      · have g1 : (F &&& (F - 1)) / 2 ^ t % 2 = 1 := g.mpr ⟨hb, k2⟩
        rw [g1, Nat.mul_one, k3] at mG
        rw [if_pos ⟨by omega, hcond.2.1, hcond.2.2⟩]
        refine ⟨Or.inr (Or.inr ⟨by show q.2 + 1 = 2; omega, by omega⟩), fun i => ?_⟩
        rw [or_bit, h2 i]
        constructor
        · rintro (⟨z1, z2⟩ | rfl)
          · exact ⟨by omega, z2⟩
          · exact ⟨by omega, hb, k3⟩
        · rintro ⟨z1, z2⟩
          by_cases hi : t = i
          · exact Or.inr hi
          · exact Or.inl ⟨by omega, z2⟩
      · rw [if_neg (by omega)]
        refine ⟨Or.inr (Or.inr ⟨k1, by omega⟩), fun i => ?_⟩
        rw [h2 i]
        constructor
        · rintro ⟨z1, z2⟩
          exact ⟨by omega, z2⟩
        · rintro ⟨z1, z2⟩
          by_cases hi : t = i
          · subst hi
            exact absurd z2.2 k2
          · exact ⟨by omega, z2⟩
    · have hb0 : F / 2 ^ t % 2 = 0 := by omega
      have g0 : ¬ (F &&& (F - 1)) / 2 ^ t % 2 = 1 := fun z => hb (g.mp z).1
      have g0' : (F &&& (F - 1)) / 2 ^ t % 2 = 0 := by omega
      rw [g0', Nat.mul_zero, Nat.add_zero] at mG
      rw [hb0, Nat.mul_zero, Nat.add_zero] at mF
      rw [if_neg (fun z => hb (hFt.mpr ⟨by omega, z.2⟩)), mF, mG]
      refine ⟨h1, fun i => ?_⟩
      rw [h2 i]
      constructor
      · rintro ⟨z1, z2⟩
        exact ⟨by omega, z2⟩
      · rintro ⟨z1, z2⟩
        by_cases hi : t = i
        · subst hi
          exact absurd z2.1 hb
        · exact ⟨by omega, z2⟩
theorem pick_eq {S : Nat → Nat → Nat} {r used F : Nat} (hF : ∀ t, F / 2 ^ t % 2 = 1 ↔ t < S 0 4 ∧ S 1 t / 2 ^ r % 2 = 1 ∧ used / 2 ^ t % 2 = 0) (hl : F < 2 ^ 32) : cLeast F 2 = mPick S r used := by
  apply bt_ext
  intro i
  rw [least2_bit hl]
  unfold mPick
  rw [(pick_inv hF (S 0 4) (Nat.le_refl _)).2 i]
  constructor
  · rintro ⟨h1, h2⟩
    exact ⟨((hF i).mp h1).1, h1, h2⟩
  · rintro ⟨-, h1, h2⟩
    exact ⟨h1, h2⟩
-- the walk down a chain
theorem pth_s (S : Nat → Nat → Nat) (x : Nat) : ∀ j, pth S x (j + 1) = pth S (S 6 x) j
  | 0 => rfl
  | j + 1 => by
    show S 6 (pth S x (j + 1)) = S 6 (pth S (S 6 x) j)
    rw [pth_s S x j]
theorem pth_0 {S : Nat → Nat → Nat} (h0 : S 6 0 = 0) : ∀ j, pth S 0 j = 0
  | 0 => rfl
  | j + 1 => by
    show S 6 (pth S 0 j) = 0
    rw [pth_0 h0 j, h0]
theorem used_it (S : Nat → Nat → Nat) (b : Nat) : ∀ k, (itr (mUsedF S) 0 (0, b) k).2 = pth S b k ∧ ∀ t, (itr (mUsedF S) 0 (0, b) k).1 / 2 ^ t % 2 = 1 ↔ ∃ j, j < k ∧ S 7 (pth S b j) / 2 ^ t % 2 = 1
  | 0 => by
    refine ⟨rfl, fun t => ?_⟩
    show 0 / 2 ^ t % 2 = 1 ↔ _
    rw [bt_zero]
    exact ⟨fun q => (by cases q), fun ⟨j, q, _⟩ => absurd q (Nat.not_lt_zero _)⟩
  | k + 1 => by
    obtain ⟨h1, h2⟩ := used_it S b k
    rw [itr_z]
    generalize itr (mUsedF S) 0 (0, b) k = q at h1 h2
    unfold mUsedF
    refine ⟨by show S 6 q.2 = S 6 (pth S b k); rw [h1], fun t => ?_⟩
    show (q.1 ||| S 7 q.2) / 2 ^ t % 2 = 1 ↔ _
    rw [bt_or1, h2 t, h1]
    constructor
    · rintro (⟨j, j1, j2⟩ | z)
      · exact ⟨j, by omega, j2⟩
      · exact ⟨k, by omega, z⟩
    · rintro ⟨j, j1, j2⟩
      by_cases hj : j = k
      · subst hj
        exact Or.inr j2
      · exact Or.inl ⟨j, by omega, j2⟩
theorem pth_anc {S : Nat → Nat → Nat} {bl : Nat} (h : ParOk S bl) (hbl : bl ≤ 40) : ∀ j b, b < bl → anc S (pth S b j) b = true ∧ pth S b j < bl
  | 0, b, hb => ⟨anc_self b, hb⟩
  | j + 1, b, hb => by
    by_cases h0 : b = 0
    · subst h0
      rw [pth_0 h.1]
      exact ⟨anc_self 0, hb⟩
    · obtain ⟨a1, a2⟩ := pth_anc h hbl j (S 6 b) (h.lt hb)
      rw [pth_s]
      refine ⟨?_, a2⟩
      rw [anc_step h hb hbl h0, a1, Bool.or_true]
theorem anc_pth {S : Nat → Nat → Nat} {bl : Nat} (h : ParOk S bl) (hbl : bl ≤ 40) {a : Nat} : ∀ b, b < bl → anc S a b = true → ∃ j, j ≤ b ∧ pth S b j = a := by
  intro b
  induction b using Nat.strongRecOn with
  | ind b ih =>
    intro hb ha
    by_cases h0 : b = 0
    · subst h0
      rw [anc_0] at ha
      have := of_decide_eq_true ha
      exact ⟨0, Nat.le_refl _, this.symm⟩
    · rw [anc_step h hb hbl h0, Bool.or_eq_true, decide_eq_true_iff] at ha
      rcases ha with rfl | ha
      · exact ⟨0, Nat.zero_le _, rfl⟩
      · have hlt := h.2 b (by omega) hb
        obtain ⟨j, j1, j2⟩ := ih (S 6 b) hlt (h.lt hb) ha
        exact ⟨j + 1, by omega, by rw [pth_s]; exact j2⟩
theorem used_bit {S : Nat → Nat → Nat} {bl b t : Nat} (h : ParOk S bl) (hbl : bl ≤ 40) (hb : b < bl) : mUsed S b / 2 ^ t % 2 = 1 ↔ ∃ a, a < 40 ∧ anc S a b = true ∧ S 7 a / 2 ^ t % 2 = 1 := by
  unfold mUsed
  rw [(used_it S b 40).2 t]
  constructor
  · rintro ⟨j, -, j2⟩
    obtain ⟨a1, a2⟩ := pth_anc h hbl j b hb
    exact ⟨_, by omega, a1, j2⟩
  · rintro ⟨a, -, a2, a3⟩
    obtain ⟨j, j1, rfl⟩ := anc_pth h hbl b hb a2
    exact ⟨j, by omega, a3⟩
theorem JV.pick {V n : Nat} {M C : Nat → Nat → Nat} (h : JV V n M C) {r : Nat} (hr : r < n) : cLeast (cFresh C r) 2 = mPick M r (mUsed M (mHigh M r)) := by
  have hI := h.1
  have hS := h.2.2.1
  have hbl := hI.b
  have hhi := mHigh_ok h hr
  have he := h.high_eq hr
  have rg := h.2.2.2.2.2.2.2.2.2.1 r hr
  have rd := h.2.2.2.2.2.2.1
  have hh : C (3 * r + 44) 5 < 2 ^ 24 := by
    apply Nat.lt_of_not_le
    intro hle
    have ht := hI.t
    have : C (3 * r + 44) 5 % 2 ^ 24 = C (3 * r + 44) 5 := by
      apply bt_ext
      intro i
      rw [← tb1, ← tb1, Nat.testBit_mod_two_pow, Bool.and_eq_true, decide_eq_true_iff]
      constructor
      · exact fun z => z.2
      · intro z
        refine ⟨?_, z⟩
        have := ((rg i).mp ((tb1 _ _).mp z)).1
        omega
    have h2 := Nat.mod_lt (C (3 * r + 44) 5) (show 0 < 2 ^ 24 by decide)
    omega
  apply pick_eq
  · intro t
    unfold cFresh
    rw [not_bit (Nat.lt_trans hh (by decide)), rg t, he, (rd _ hhi.1).2 t, ← used_bit hS.par hbl.2 hhi.1]
    have := bt01 (mUsed M (mHigh M r)) t
    constructor
    · rintro ⟨⟨a1, a2⟩, a3⟩
      exact ⟨a1, a2, by omega⟩
    · rintro ⟨a1, a2, a3⟩
      exact ⟨⟨a1, a2⟩, by omega⟩
  · unfold cFresh
    exact Nat.lt_of_le_of_lt Nat.and_le_left (Nat.lt_trans hh (by decide))
theorem JV.lead_ok {V n : Nat} {M C : Nat → Nat → Nat} (h : JV V n M C) (r : Int32) : qLeadOk C n r = mLeadOk M r := by
  unfold qLeadOk mLeadOk
  rw [h.correct_eq]
  by_cases hc : mCorrect M r = true
  · obtain ⟨j, hj, -, ej, -⟩ := h.r_ex hc
    obtain ⟨f0, f1, f2, f3, f4⟩ := h.2.2.2.2.2.2.2.2.1 j hj
    rw [hc, ej]
    unfold cMay
    rw [f0, f4, cLeader_eq h.2.2.2, h.high_eq hj, h.push_eq hj, h.2.2.2.2.2.1.1, h.2.2.2.2.2.1.2.1]
    simp only [Bool.true_and]
    have e1 : decide (¬ M 18 j = M 14 j) = !decide (M 18 j = M 14 j) := by by_cases z : M 18 j = M 14 j <;> simp [z]
    have e2 : decide (¬ 40 ≤ M 0 5) = decide (M 0 5 < 40) := by by_cases z : M 0 5 < 40 <;> simp [z]
    rw [e1, e2]
    cases decide (mLeader M (M 14 j) = j) <;> cases decide (M 18 j = M 14 j) <;> cases decide (M 0 5 < 40) <;> simp
  · rw [Bool.eq_false_iff.mpr hc]
    simp
theorem JV.leads {V n b : Nat} {M C : Nat → Nat → Nat} (h : JV V n M C) (hb : 1 ≤ b ∧ b < M 0 5) : ∀ k, k ≤ n → JV V n (itr (fun q Z => mSend Z 0 0 q b 0) 0 M k) (itr (fun q Z => cSend Z 0 q 0 b 0) 0 C k) ∧ itr (fun q Z => mSend Z 0 0 q b 0) 0 M k 0 5 = M 0 5
  | 0, _ => ⟨h, rfl⟩
  | k + 1, hk => by
    obtain ⟨ih, e5⟩ := JV.leads h hb k (by omega)
    rw [itr_z, itr_z]
    refine ⟨ih.send (by decide) (by omega) (by omega) (by rw [e5]; exact hb.2) (by decide) (fun _ => Nat.zero_le _) (fun _ => hb.1) (fun q => by cases q) (fun q => by cases q), ?_⟩
    rw [← e5]
    show mSend _ 0 0 k b 0 0 5 = _
    unfold mSend
    split <;> rfl
theorem JV.lead {V n : Nat} {M C : Nat → Nat → Nat} (h : JV V n M C) (hV : V + 1 ≤ 20000) (r : Int32) : qLead C n r = rLead M r ∧ JV (V + 1) n (mLead M r) (pLead C n r) := by
  have hn := h.n
  have hnn := h.1.n
  have h' := h.mono (Nat.le_succ V) hV
  unfold qLead rLead mLead pLead
  rw [h.lead_ok]
  by_cases hc : mLeadOk M r = true
  · rw [if_pos hc, if_pos hc, if_pos hc, if_pos hc, h.2.2.2.2.2.1.1]
    refine ⟨rfl, ?_⟩
    have hc' := hc
    unfold mLeadOk at hc'
    simp only [Bool.and_eq_true] at hc'
    obtain ⟨⟨⟨⟨c1, c2⟩, c3⟩, c4⟩, c5⟩ := hc'
    have hbl := of_decide_eq_true c4
    have hb1 := h.1.b
    obtain ⟨j, hj, -, ej, -⟩ := h.r_ex c1
    rw [ej]
    obtain ⟨f0, f1, f2, f3, f4⟩ := h.2.2.2.2.2.2.2.2.1 j hj
    have hh := mHigh_ok h hj
    have h14 := (show M 14 j ≤ V ∧ (j < M 0 1 → 1 ≤ M 14 j) from h.1.c 14 j)
    have ht := h.1.t
    have hpk := (mPick_lt (S := M) (r := j) (used := mUsed M (mHigh M j)) (M 0 4) ht).1
    have l1 : JV (V + 1) n (mLead1 M j) (cLead1 C j) := by
      unfold mLead1 cLead1
      rw [h.pick hj, h.high_eq hj, f0]
      have nb := h'.newBlock (v := M 14 j) (p := mHigh M j) (set := mPick M j (mUsed M (mHigh M j))) hbl (by omega) hh.1 hh.2.1 hh.2.2 hpk
      exact nb.sc hj (Or.inr (Or.inr ⟨rfl, rfl⟩)) ⟨fun _ => by omega, fun q => by cases q⟩
    have e5 : mLead1 M j 0 5 = M 0 5 + 1 := rfl
    rw [hn]
    exact (l1.leads (b := M 0 5) ⟨by omega, by omega⟩ n (Nat.le_refl _)).1
  · rw [if_neg hc, if_neg hc, if_neg hc, if_neg hc]
    exact ⟨rfl, h'⟩
