/-- both sides changed in the messages and the replicas' rows alone -/
theorem Rl.ofR {n : Nat} {M C T D : Nat → Nat → Nat} (h : Rl n M C) (m0 : ∀ j, j ≤ 5 → T 0 j = M 0 j) (m1 : T 1 = M 1) (m2 : T 2 = M 2) (m3 : T 3 = M 3) (m4 : T 4 = M 4) (m5 : T 5 = M 5) (m6 : T 6 = M 6) (m7 : T 7 = M 7) (m8 : T 8 = M 8) (k : ∀ row, 25 ≤ row → row < 38 → D row = C row) (e : RE T D) (f : RF n T D) (g5 : ∀ r, r < n → D (3 * r + 44) 5 = C (3 * r + 44) 5) (hh : RH n T D) (i : RI n T D) : Rl n T D := by
  obtain ⟨a, b, c, d, -, -, g, -, -⟩ := h
  refine ⟨?_, ?_, ?_, ?_, e, f, fun q hq t => ?_, hh, i⟩
  · unfold RA
    rw [k 25 (by decide) (by decide), m0 0 (by decide), m0 1 (by decide), m0 2 (by decide), m0 3 (by decide)]
    exact a
  · unfold RB
    rw [k 27 (by decide) (by decide), k 28 (by decide) (by decide), k 29 (by decide) (by decide), k 30 (by decide) (by decide), m0 4 (by decide), m2, m3, m4]
    exact b
  · unfold RC
    rw [k 31 (by decide) (by decide), k 32 (by decide) (by decide), k 33 (by decide) (by decide), k 34 (by decide) (by decide), k 35 (by decide) (by decide), m0 5 (by decide), m5, m6, m7, m8]
    exact c
  · unfold RD
    rw [k 37 (by decide) (by decide), k 36 (by decide) (by decide), m0 5 (by decide), m7]
    intro x hx
    obtain ⟨d1, d2⟩ := d x hx
    refine ⟨fun y hy => ?_, fun t => ?_⟩
    · rw [anc_of m6]
      exact d1 y hy
    · rw [d2 t]
      simp only [anc_of m6]
  · rw [g5 q hq, m0 4 (by decide), m1]
    exact g q hq t
theorem cSee_o {C : Nat → Nat → Nat} {r q x j : Nat} (hq : q ≠ r) : cSee C r x (3 * q + 44) j = C (3 * q + 44) j := by rw [cSee_ne (by omega)]
theorem cSee_6 {C : Nat → Nat → Nat} {r x : Nat} : cSee C r x (3 * r + 44) 6 = cLater C (C (3 * r + 44) 6) x := by
  unfold cSee cSee2 cSee1 cEnter
  split <;> split <;> simp [up2_at]
theorem cSee_7 {C : Nat → Nat → Nat} {r x : Nat} : cSee C r x (3 * r + 44) 7 = cLater C (C (3 * r + 44) 7) (C 33 x) := by
  unfold cSee cSee2 cSee1 cEnter
  split <;> split <;> simp [up2_at]
theorem cSee_8 {C : Nat → Nat → Nat} {r x : Nat} : cSee C r x (3 * r + 44) 8 = if cFol C x = true ∧ cFol C (C 33 x) = true then cLater C (C (3 * r + 44) 8) (C 33 (C 33 x)) else C (3 * r + 44) 8 := by
  unfold cSee cSee2 cSee1 cEnter
  by_cases h : cFol C x = true ∧ cFol C (C 33 x) = true
  · rw [if_pos h, if_pos h]
    split <;> simp [up2_at]
  · rw [if_neg h, if_neg h]
    split <;> simp [up2_at]
theorem cSee_345 {C : Nat → Nat → Nat} {r x j : Nat} (hj : j = 3 ∨ j = 4 ∨ j = 5) : cSee C r x (3 * r + 44) j = C (3 * r + 44) j := by
  unfold cSee cSee2 cSee1 cEnter
  rcases hj with rfl | rfl | rfl
  · split <;> split <;> simp [up2_at]
  · split <;> split <;> simp [up2_at]
  · split <;> split <;> simp [up2_at]
theorem cSee_012 {C : Nat → Nat → Nat} {r x : Nat} : cSee C r x (3 * r + 44) 0 = (if C 32 x < C (3 * r + 44) 0 then C (3 * r + 44) 0 else C 32 x + 1) ∧ cSee C r x (3 * r + 44) 1 = (if C 32 x < C (3 * r + 44) 0 then C (3 * r + 44) 1 else 0) ∧ cSee C r x (3 * r + 44) 2 = (if C 32 x < C (3 * r + 44) 0 then C (3 * r + 44) 2 else 2) := by
  by_cases h : C 32 x < C (3 * r + 44) 0
  · rw [if_pos h, if_pos h, if_pos h]
    unfold cSee
    rw [if_pos h]
    exact ⟨cSee2_0 (by decide) (by decide) (by decide), cSee2_0 (by decide) (by decide) (by decide), cSee2_0 (by decide) (by decide) (by decide)⟩
  · rw [if_neg h, if_neg h, if_neg h]
    unfold cSee cEnter
    rw [if_neg h]
    simp [up2_at]
theorem mSee_14 {M : Nat → Nat → Nat} {r x q : Nat} : mSee M r x 14 q = (if q = r ∧ ¬ M 5 x < M 14 r then M 5 x + 1 else M 14 q) ∧ mSee M r x 15 q = (if q = r ∧ ¬ M 5 x < M 14 r then 0 else M 15 q) ∧ mSee M r x 16 q = (if q = r ∧ ¬ M 5 x < M 14 r then 2 else M 16 q) := by
  by_cases h : M 5 x < M 14 r
  · unfold mSee
    rw [if_pos h, if_neg (fun z => z.2 h), if_neg (fun z => z.2 h), if_neg (fun z => z.2 h)]
    exact ⟨rfl, rfl, rfl⟩
  · unfold mSee mEnter
    rw [if_neg h]
    by_cases hq : q = r
    · subst hq
      simp [up2_at, h]
    · simp [up2_at, hq]
theorem Rl.see {V n : Nat} {M C : Nat → Nat → Nat} {r x : Nat} (hI : IW V M) (hS : SV M) (h : Rl n M C) (hr : r < n) (hx : x < M 0 5) : Rl n (mSee M r x) (cSee C r x) := by
  have hbl := hI.b
  have m : ∀ row, row ≠ 14 → row ≠ 15 → row ≠ 16 → row ≠ 19 → mSee M r x row = M row := fun row a b c d => mSee_ne a b c d
  have k : ∀ row, (∀ q, row ≠ 3 * q + 44) → cSee C r x row = C row := fun row z => cSee_ne (z r)
  have hh := h
  obtain ⟨ra, rb, rc, rd, re, rf, rg, rh, ri⟩ := hh
  have m0 := m 0 (by decide) (by decide) (by decide) (by decide)
  have m5 := m 5 (by decide) (by decide) (by decide) (by decide)
  have m6 := m 6 (by decide) (by decide) (by decide) (by decide)
  have lat : ∀ a b, cLater C a b = if M 5 a < M 5 b then b else a := fun a b => by
    unfold cLater
    rw [rc.2.1]
  refine h.ofR (fun j _ => by rw [m0]) (m 1 (by decide) (by decide) (by decide) (by decide)) (m 2 (by decide) (by decide) (by decide) (by decide)) (m 3 (by decide) (by decide) (by decide) (by decide)) (m 4 (by decide) (by decide) (by decide) (by decide)) m5 m6 (m 7 (by decide) (by decide) (by decide) (by decide)) (m 8 (by decide) (by decide) (by decide) (by decide)) (fun row a b => k row (fun q => by omega)) ?_ (fun q hq => ?_) (fun q hq => ?_) (fun q hq => ?_) (fun q hq => ?_)
  · unfold RE
    rw [k 38 (fun q => by omega), k 39 (fun q => by omega), k 40 (fun q => by omega), m0, m 9 (by decide) (by decide) (by decide) (by decide), m 10 (by decide) (by decide) (by decide) (by decide), m 11 (by decide) (by decide) (by decide) (by decide), m 12 (by decide) (by decide) (by decide) (by decide), m 13 (by decide) (by decide) (by decide) (by decide)]
    exact re
  · obtain ⟨f0, f1, f2, f3, f4⟩ := rf q hq
    rw [m 17 (by decide) (by decide) (by decide) (by decide), m 18 (by decide) (by decide) (by decide) (by decide), mSee_14.1, mSee_14.2.1, mSee_14.2.2]
    by_cases hqr : q = r
    · subst hqr
      rw [cSee_012.1, cSee_012.2.1, cSee_012.2.2, cSee_345 (Or.inl rfl), cSee_345 (Or.inr (Or.inl rfl)), rc.2.1, f0, f1, f2]
      by_cases hv : M 5 x < M 14 q
      · simp [hv, f3, f4]
      · simp [hv, f3, f4]
    · rw [cSee_o hqr, cSee_o hqr, cSee_o hqr, cSee_o hqr, cSee_o hqr]
      simp [hqr, f0, f1, f2, f3, f4]
  · by_cases hqr : q = r
    · subst hqr
      exact cSee_345 (Or.inr (Or.inr rfl))
    · exact cSee_o hqr
  · rw [k (3 * q + 45) (fun z => by omega), k (3 * q + 46) (fun z => by omega), m 20 (by decide) (by decide) (by decide) (by decide), m 21 (by decide) (by decide) (by decide) (by decide)]
    exact rh q hq
  · obtain ⟨i1, i2, i3⟩ := ri q hq
    unfold HiMax at i1
    unfold LoMax at i2
    unfold TiMax at i3
    unfold HiMax LoMax TiMax
    have m05 : mSee M r x 0 5 = M 0 5 := by rw [m0]
    rw [m05, m5, m6]
    have th : ∀ b, threeP (mSee M r x) b ↔ threeP M b := fun b => by
      unfold threeP
      rw [m5, m6]
    by_cases hqr : q = r
    · subst hqr
      rw [cSee_6, cSee_7, cSee_8, lat, lat, lat, rc.2.2.1]
      refine ⟨?_, ?_, ?_⟩
      · exact AMax.grow (g := fun b => b) hbl.2 i1 hx hS.1.2.1 (fun b b1 b2 => sawP_see (by omega) b2)
      · exact AMax.grow (g := fun b => M 6 b) hbl.2 i2 hx (by show M 5 (M 6 0) = 0; rw [hS.1.1]; exact hS.1.2.1) (fun b b1 b2 => sawP_see (by omega) b2)
      · have fol : (cFol C x = true ∧ cFol C (M 6 x) = true) ↔ threeP M x := by
          unfold cFol threeP
          rw [rc.2.1, rc.2.2.1]
          simp only [decide_eq_true_eq]
          constructor
          · rintro ⟨q1, q2⟩
            refine ⟨?_, q1, q2⟩
            apply Nat.pos_of_ne_zero
            intro h0
            rw [h0, hS.1.1, hS.1.2.1] at q2
            omega
          · rintro ⟨-, q1, q2⟩
            exact ⟨q1, q2⟩
        by_cases ht : threeP M x
        · rw [if_pos (fol.mpr ht)]
          refine AMax.grow (g := fun b => M 6 (M 6 b)) hbl.2 i3 hx (by show M 5 (M 6 (M 6 0)) = 0; rw [hS.1.1, hS.1.1]; exact hS.1.2.1) (fun b b1 b2 => ?_)
          rw [th, sawP_see (by omega) b2]
          constructor
          · rintro ⟨z | z, z2⟩
            · exact Or.inl ⟨z, z2⟩
            · exact Or.inr z
          · rintro (⟨z, z2⟩ | rfl)
            · exact ⟨Or.inl z, z2⟩
            · exact ⟨Or.inr rfl, ht⟩
        · rw [if_neg (fun z => ht (fol.mp z))]
          refine i3.same (Nat.le_refl _) (fun b b1 b2 b3 => ⟨b2, ?_⟩) (fun b b1 b2 b3 => ⟨(sawP_see (by omega) (by omega)).mpr (Or.inl b3.1), (th b).mpr b3.2⟩) (fun _ _ => rfl) (fun _ _ _ => rfl) rfl
          have t2 := (th b).mp b3.2
          rcases (sawP_see (by omega) (by omega)).mp b3.1 with z | z
          · exact ⟨z, t2⟩
          · rw [z] at t2
            exact absurd t2 ht
    · rw [cSee_o hqr, cSee_o hqr, cSee_o hqr]
      refine ⟨?_, ?_, ?_⟩
      · exact i1.same (Nat.le_refl _) (fun b b1 b2 b3 => ⟨b2, (sawP_seeo hqr (by omega) (by omega)).mp b3⟩) (fun b b1 b2 b3 => (sawP_seeo hqr (by omega) (by omega)).mpr b3) (fun _ _ => rfl) (fun _ _ _ => rfl) rfl
      · exact i2.same (Nat.le_refl _) (fun b b1 b2 b3 => ⟨b2, (sawP_seeo hqr (by omega) (by omega)).mp b3⟩) (fun b b1 b2 b3 => (sawP_seeo hqr (by omega) (by omega)).mpr b3) (fun _ _ => rfl) (fun _ _ _ => rfl) rfl
      · exact i3.same (Nat.le_refl _) (fun b b1 b2 b3 => ⟨b2, (sawP_seeo hqr (by omega) (by omega)).mp b3.1, (th b).mp b3.2⟩) (fun b b1 b2 b3 => ⟨(sawP_seeo hqr (by omega) (by omega)).mpr b3.1, (th b).mpr b3.2⟩) (fun _ _ => rfl) (fun _ _ _ => rfl) rfl
