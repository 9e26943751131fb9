theorem JV.r_ex {V n : Nat} {M C : Nat → Nat → Nat} (h : JV V n M C) {r : Int32} (hc : mCorrect M r = true) : ∃ j, j < n ∧ r = nI j ∧ r.toNatClampNeg = j ∧ M 0 3 / 2 ^ j % 2 = 0 := by
  have hn := h.n
  have hnn := h.1.n
  obtain ⟨j, h1, h2, h3⟩ := mCorrect_ex (by omega) hc
  exact ⟨j, by omega, h2, by rw [h2, nI_clamp (by omega)], h3⟩
theorem JV.tickN {V n : Nat} {M C : Nat → Nat → Nat} (h : JV V n M C) (hV : V + 1 ≤ 20000) {r : Nat} (hr : r < n) : JV (V + 1) n (mTickN M r) (cTickN C r) := by
  have hn := h.n
  have hnn := h.1.n
  have hh := mHigh_ok h hr
  have he := h.high_eq hr
  obtain ⟨f0, f1, f2, f3, f4⟩ := h.2.2.2.2.2.2.2.2.1 r hr
  have h14 := (show M 14 r ≤ V ∧ (r < M 0 1 → 1 ≤ M 14 r) from h.1.c 14 r)
  have h15 := (show M 15 r ≤ V from h.1.c 15 r)
  have h16 := (show M 16 r ≤ 32 from h.1.c 16 r)
  have hVV := h.1.c 5 0
  have hV1 : 1 ≤ V := Nat.le_trans (h14.2 (by omega)) h14.1
  have h' := h.mono (Nat.le_succ V) hV
  have s1 : JV (V + 1) n (up2 M 15 r (M 15 r + 1)) (up2 C (3 * r + 44) 1 (C (3 * r + 44) 1 + 1)) := by
    rw [f1]
    exact h'.sc hr (Or.inl ⟨rfl, rfl⟩) ⟨fun _ => by omega, fun q => by omega⟩
  unfold mTickN cTickN
  rw [f1, f2]
  split
  · rename_i hc
    have e14 : up2 M 15 r (M 15 r + 1) 14 r = M 14 r := rfl
    have s2 := s1.enter (r := r) (v := M 14 r + 1) hr (by omega) (by omega) (by rw [e14]; omega)
    have s3 : JV (V + 1) n (mTick1 M r) (cTick1 C r) := by
      unfold mTick1 cTick1
      have ep : (if 32 < 2 * C (3 * r + 44) 2 then 32 else 2 * C (3 * r + 44) 2) = (if 16 < M 16 r then 32 else 2 * M 16 r) := by
        rw [f2]
        by_cases hp : 16 < M 16 r
        · rw [if_pos hp, if_pos (by omega)]
        · rw [if_neg hp, if_neg (by omega)]
      rw [ep, f0]
      refine s2.sc hr (Or.inr (Or.inl ⟨rfl, rfl⟩)) ?_
      have hle : M 16 r = M 15 r + 1 := by omega
      have hb : (if 16 < M 16 r then 32 else 2 * M 16 r) ≤ 32 := by split <;> omega
      exact ⟨fun q => absurd rfl q, fun _ => hb⟩
    have k5 : mTick1 M r 0 = M 0 := mTick1_rows (by decide) (by decide) (by decide)
    have k8 : mTick1 M r 8 = M 8 := mTick1_rows (by decide) (by decide) (by decide)
    have hc2 : mCert (mTick1 M r) (mHigh M r) = true := (mCert_congr (by rw [k5]) (by rw [k5]) (by rw [k8])).trans hh.2.1
    rw [cLeader_eq h.2.2.2, he, f0]
    refine s3.send (by decide) hr ?_ ?_ (by omega) (fun _ => by omega) (fun q => by cases q) (fun q => by cases q) (fun _ => hc2)
    · have := mLeader_lt h.1 (M 14 r + 1)
      omega
    · rw [k5]
      exact hh.1
  · rw [f1] at s1
    exact s1
theorem JV.tick {V n : Nat} {M C : Nat → Nat → Nat} (h : JV V n M C) (hV : V + 1 ≤ 20000) (r : Int32) : qTick C r = rTick M r ∧ JV (V + 1) n (mTick M r) (pTick C r) := by
  unfold qTick rTick mTick pTick
  rw [h.correct_eq]
  by_cases hc : mCorrect M r = true
  · rw [if_pos hc, if_pos hc, if_pos hc, if_pos hc]
    obtain ⟨j, hj, -, ej, -⟩ := h.r_ex hc
    rw [ej]
    have ht := h.tickN hV hj
    exact ⟨by rw [(ht.2.2.2.2.2.2.2.2.1 j hj).1], ht⟩
  · rw [if_neg hc, if_neg hc, if_neg hc, if_neg hc]
    exact ⟨rfl, h.mono (Nat.le_succ V) hV⟩
-- the least two members of a set
theorem low_bit (x i : Nat) : (x &&& (x - 1)) / 2 ^ i % 2 = 1 ↔ x / 2 ^ i % 2 = 1 ∧ ¬ x % 2 ^ i = 0 := by
  rw [bt_and1]
  have hp : 0 < 2 ^ i := Nat.two_pow_pos i
  constructor
  · rintro ⟨h1, h2⟩
    refine ⟨h1, fun h0 => ?_⟩
    have hx := Nat.div_add_mod x (2 ^ i)
    rw [h0, Nat.add_zero] at hx
    generalize x / 2 ^ i = q at h1 hx
    obtain ⟨q', rfl⟩ : ∃ q', q = q' + 1 := ⟨q - 1, by omega⟩
    have e : x - 1 = 2 ^ i * q' + (2 ^ i - 1) := by
      rw [← hx, Nat.mul_add, Nat.mul_one]
      omega
    rw [e, Nat.mul_add_div hp, Nat.div_eq_of_lt (by omega), Nat.add_zero] at h2
    omega
  · rintro ⟨h1, h0⟩
    refine ⟨h1, ?_⟩
    have hx := Nat.div_add_mod x (2 ^ i)
    have hl := Nat.mod_lt x hp
    generalize hq : x / 2 ^ i = q at h1 hx
    have e : x - 1 = 2 ^ i * q + (x % 2 ^ i - 1) := by omega
    rw [e, Nat.mul_add_div hp, Nat.div_eq_of_lt (by omega), Nat.add_zero]
    exact h1
theorem mod_s (x t : Nat) : x % 2 ^ (t + 1) = x % 2 ^ t + 2 ^ t * (x / 2 ^ t % 2) := Nat.mod_pow_succ
theorem not_bit {a m i : Nat} (ha : a < 2 ^ 32) : (a &&& (m ^^^ 4294967295)) / 2 ^ i % 2 = 1 ↔ a / 2 ^ i % 2 = 1 ∧ ¬ m / 2 ^ i % 2 = 1 := by
  rw [← tb1, ← tb1, ← tb1, Nat.testBit_and, Nat.testBit_xor, full_bit, Bool.and_eq_true]
  constructor
  · rintro ⟨h1, h2⟩
    refine ⟨h1, fun h3 => ?_⟩
    have hi : i < 32 := by
      apply Nat.lt_of_not_le
      intro hle
      rw [tb1, bt_big ha hle] at h1
      cases h1
    rw [h3, decide_eq_true hi] at h2
    cases h2
  · rintro ⟨h1, h2⟩
    refine ⟨h1, ?_⟩
    have hi : i < 32 := by
      apply Nat.lt_of_not_le
      intro hle
      rw [tb1, bt_big ha hle] at h1
      cases h1
    rw [Bool.eq_false_iff.mpr h2, decide_eq_true hi]
    rfl
theorem least2_bit {F i : Nat} (hF : F < 2 ^ 32) : cLeast F 2 / 2 ^ i % 2 = 1 ↔ F / 2 ^ i % 2 = 1 ∧ (F &&& (F - 1)) % 2 ^ i = 0 := by
  unfold cLeast
  rw [not_bit hF]
  have e : cRest F 2 = (F &&& (F - 1)) &&& ((F &&& (F - 1)) - 1) := rfl
  rw [e, low_bit, low_bit]
  constructor
  · rintro ⟨h1, h2⟩
    refine ⟨h1, ?_⟩
    apply Classical.byContradiction
    intro h3
    apply h2
    refine ⟨⟨h1, fun h4 => h3 ?_⟩, h3⟩
    have : F % 2 ^ i = 0 := h4
    have h5 : (F &&& (F - 1)) % 2 ^ i = F % 2 ^ i &&& (F - 1) % 2 ^ i := Nat.and_mod_two_pow
    rw [h5, this, Nat.zero_and]
  · rintro ⟨h1, h2⟩
    exact ⟨h1, fun h3 => h3.2 h2⟩
