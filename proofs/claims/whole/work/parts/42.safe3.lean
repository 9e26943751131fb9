theorem SV.send {M : Nat → Nat → Nat} {k x to b v : Nat} (h : SV M) (h0 : k = 0 → 1 ≤ b) (h1 : k = 1 → 1 ≤ b ∧ (M 0 3 / 2 ^ x % 2 = 1 ∨ M 8 b / 2 ^ x % 2 = 1)) (h2 : k = 2 → mCert M b = true) : SV (mSend M k x to b v) := by
  obtain ⟨g1, g2, g3, g4, g5, g6, g7⟩ := h
  unfold mSend
  split
  · have hcc : ∀ c, mCert (up2 M 0 7 (M 0 7 + 1)) c = mCert M c := fun c => mCert_congr rfl rfl rfl
    refine SV.of6 (M := M) ⟨g1, g2, g3, g4, g5, g6, g7⟩ rfl rfl rfl rfl rfl rfl rfl rfl rfl rfl (fun q c k1 k2 k3 => ?_) (fun i k1 => ?_)
    · rw [hcc]
      exact g4 q c k1 k2 k3
    · rw [hcc]
      exact g6 i k1
  · rename_i hm
    generalize hT : up2 (up2 (up2 (up2 (up2 (up2 M 9 (M 0 6) k) 11 (M 0 6) x) 10 (M 0 6) to) 12 (M 0 6) b) 13 (M 0 6) v) 0 6 (M 0 6 + 1) = T
    have e9 : ∀ i, T 9 i = if i = M 0 6 then k else M 9 i := fun i => by rw [← hT]; simp [up2_at]
    have e11 : ∀ i, T 11 i = if i = M 0 6 then x else M 11 i := fun i => by rw [← hT]; simp [up2_at]
    have e12 : ∀ i, T 12 i = if i = M 0 6 then b else M 12 i := fun i => by rw [← hT]; simp [up2_at]
    have e06 : T 0 6 = M 0 6 + 1 := by rw [← hT]; rfl
    have e00 : T 0 0 = M 0 0 := by rw [← hT]; rfl
    have e01 : T 0 1 = M 0 1 := by rw [← hT]; rfl
    have e03 : T 0 3 = M 0 3 := by rw [← hT]; rfl
    have e05 : T 0 5 = M 0 5 := by rw [← hT]; rfl
    have e5 : T 5 = M 5 := by rw [← hT]; rfl
    have e6 : T 6 = M 6 := by rw [← hT]; rfl
    have e7 : T 7 = M 7 := by rw [← hT]; rfl
    have e8 : T 8 = M 8 := by rw [← hT]; rfl
    have e14 : T 14 = M 14 := by rw [← hT]; rfl
    have e17 : T 17 = M 17 := by rw [← hT]; rfl
    have e19 : T 19 = M 19 := by rw [← hT]; rfl
    have e20 : T 20 = M 20 := by rw [← hT]; rfl
    have hcc : ∀ c, mCert T c = mCert M c := fun c => mCert_congr e00 e03 (by rw [e8])
    refine SV.of6 (M := M) ⟨g1, g2, g3, g4, g5, g6, g7⟩ e00 e01 e03 e05 e5 e6 e7 e8 e17 e20 (fun q c k1 k2 k3 => ?_) (fun i k1 => ?_)
    · rw [hcc, e05, e5, e14]
      rw [e01] at k1
      rw [e19] at k3
      exact g4 q c k1 k2 k3
    · rw [e06] at k1
      rw [e9, e11, e12, e8, e03, hcc]
      by_cases hi : i = M 0 6
      · simp only [hi, if_true]
        exact ⟨h0, h1, h2⟩
      · simp only [hi, if_false]
        exact g6 i (by omega)
theorem SV.take {M : Nat → Nat → Nat} {i : Nat} (h : SV M) (hi : i < M 0 6) : SV (mTake M i) := by
  have e : ∀ row x, row ≠ 0 → (row < 9 ∨ 13 < row) → mTake M i row x = M row x := fun row x a b => by
    rw [mTake_at, if_neg (by omega), if_neg (by omega)]
  have er : ∀ row, row ≠ 0 → (row < 9 ∨ 13 < row) → mTake M i row = M row := fun row a b => funext (fun x => e row x a b)
  have e00 : mTake M i 0 0 = M 0 0 := mTake_0 (by decide)
  have e03 : mTake M i 0 3 = M 0 3 := mTake_0 (by decide)
  have e01 : mTake M i 0 1 = M 0 1 := mTake_0 (by decide)
  have e05 : mTake M i 0 5 = M 0 5 := mTake_0 (by decide)
  have e06 : mTake M i 0 6 = M 0 6 - 1 := by rw [mTake_at, if_neg (by omega), if_pos ⟨rfl, rfl⟩]
  have hcc : ∀ c, mCert (mTake M i) c = mCert M c := fun c => mCert_congr e00 e03 (e 8 c (by decide) (by decide))
  have h' := h
  obtain ⟨g1, g2, g3, g4, g5, g6, g7⟩ := h'
  refine h.of6 e00 e01 e03 e05 (er 5 (by decide) (by decide)) (er 6 (by decide) (by decide)) (er 7 (by decide) (by decide)) (er 8 (by decide) (by decide)) (er 17 (by decide) (by decide)) (er 20 (by decide) (by decide)) (fun q c k1 k2 k3 => ?_) (fun j k1 => ?_)
  · rw [hcc, e05, er 5 (by decide) (by decide), er 14 (by decide) (by decide)]
    rw [e01] at k1
    rw [er 19 (by decide) (by decide)] at k3
    exact g4 q c k1 k2 k3
  · rw [e06] at k1
    rw [hcc, e03, er 8 (by decide) (by decide), mTake_at, mTake_at, mTake_at]
    by_cases hj : i ≤ j ∧ j < i + (M 0 6 - 1 - i)
    · rw [if_pos (by omega), if_pos (by omega), if_pos (by omega)]
      exact g6 (j + 1) (by omega)
    · rw [if_neg (by omega), if_neg (by omega), if_neg (by omega), if_neg (by omega), if_neg (by omega), if_neg (by omega)]
      exact g6 j (by omega)
theorem SV.newBlock {V : Nat} {M : Nat → Nat → Nat} {v p set : Nat} (hI : IW V M) (h : SV M) (hp : p < M 0 5) (hc : mCert M p = true) (hv : M 5 p < v) : SV (mNewBlock M v p set) := by
  have hbl := hI.b
  generalize hT : mNewBlock M v p set = T
  have e00 : T 0 0 = M 0 0 := by rw [← hT]; rfl
  have e01 : T 0 1 = M 0 1 := by rw [← hT]; rfl
  have e03 : T 0 3 = M 0 3 := by rw [← hT]; rfl
  have e05 : T 0 5 = M 0 5 + 1 := by rw [← hT]; rfl
  have e06 : T 0 6 = M 0 6 := by rw [← hT]; rfl
  have e5 : ∀ c, T 5 c = if c = M 0 5 then v else M 5 c := fun c => by rw [← hT]; unfold mNewBlock; simp [up2_at]
  have e6 : ∀ c, T 6 c = if c = M 0 5 then p else M 6 c := fun c => by rw [← hT]; unfold mNewBlock; simp [up2_at]
  have e7 : ∀ c, T 7 c = if c = M 0 5 then set else M 7 c := fun c => by rw [← hT]; unfold mNewBlock; simp [up2_at]
  have e8 : T 8 = M 8 := by rw [← hT]; rfl
  have e9 : T 9 = M 9 := by rw [← hT]; rfl
  have e11 : T 11 = M 11 := by rw [← hT]; rfl
  have e12 : T 12 = M 12 := by rw [← hT]; rfl
  have e14 : T 14 = M 14 := by rw [← hT]; rfl
  have e17 : T 17 = M 17 := by rw [← hT]; rfl
  have e19 : T 19 = M 19 := by rw [← hT]; rfl
  have e20 : T 20 = M 20 := by rw [← hT]; rfl
  have hcc : ∀ c, mCert T c = mCert M c := fun c => mCert_congr e00 e03 (by rw [e8])
  obtain ⟨g1, g2, g3, g4, g5, g6, g7⟩ := h
  have n8 : ∀ r, ¬ M 8 (M 0 5) / 2 ^ r % 2 = 1 := fun r => by
    rw [g7.2.1 (M 0 5) (Nat.le_refl _), bt_zero]
    decide
  have in8 : ∀ c r, c < M 0 5 + 1 → M 8 c / 2 ^ r % 2 = 1 → c < M 0 5 := fun c r k1 k2 => by
    by_cases hcb : c = M 0 5
    · subst hcb
      exact absurd k2 (n8 r)
    · omega
  refine ⟨⟨?_, ?_, fun b b1 b2 => ?_⟩, fun b r k1 k2 k3 k4 => ?_, fun b c r k1 k2 k3 k4 k5 k6 k7 => ?_, fun q c k1 k2 k3 => ?_, fun q c x k1 k2 k3 => ?_, fun i k1 => ?_, ?_, ?_, ?_⟩
  · rw [e6, if_neg (by omega)]
    exact g1.1
  · rw [e5, if_neg (by omega)]
    exact g1.2.1
  · rw [e05] at b2
    rw [hcc, e6, e5 b]
    by_cases hb : b = M 0 5
    · rw [if_pos hb, if_pos hb, e5, if_neg (by omega)]
      exact ⟨by omega, hv, hc⟩
    · obtain ⟨a1, a2, a3⟩ := g1.2.2 b b1 (by omega)
      rw [if_neg hb, if_neg hb, e5, if_neg (by omega)]
      exact ⟨a1, a2, a3⟩
  · rw [e05] at k1
    rw [e8] at k4
    rw [e01] at k2
    rw [e03] at k3
    have hb := in8 b r k1 k4
    rw [e5, if_neg (by omega), e17]
    exact g2 b r hb k2 k3 k4
  · rw [e05] at k1 k2
    rw [e8] at k5 k6
    rw [e01] at k3
    rw [e03] at k4
    have hb := in8 b r k1 k5
    have hb' := in8 c r k2 k6
    rw [e5, e5, if_neg (by omega), if_neg (by omega)] at k7
    exact g3 b c r hb hb' k3 k4 k5 k6 k7
  · rw [e01] at k1
    rw [e19] at k3
    obtain ⟨a1, a2, a3⟩ := g4 q c k1 k2 k3
    rw [hcc, e05, e5, if_neg (by omega), e14]
    exact ⟨by omega, a2, a3⟩
  · rw [e01] at k1
    rw [e20] at k3
    rw [e03, e8]
    exact g5 q c x k1 k2 k3
  · rw [e06] at k1
    rw [e9, e11, e12, e8, e03, hcc]
    exact g6 i k1
  · rw [e8, e01]
    exact g7.1
  · rw [e8, e05]
    exact fun b hb => g7.2.1 b (by omega)
  · rw [e05]
    intro b hb
    rw [e5, e6, e7, if_neg (by omega), if_neg (by omega), if_neg (by omega)]
    exact g7.2.2 b (by omega)
