theorem up2_comm (M : Nat → Nat → Nat) {k k' : Nat} (j v j' v' : Nat) (h : k ≠ k') : up2 (up2 M k j v) k' j' v' = up2 (up2 M k' j' v') k j v := by
  funext a x
  simp only [up2_at]
  by_cases h1 : a = k'
  · subst h1
    have hak : ¬ a = k := fun q => h q.symm
    simp [hak]
  · by_cases h2 : a = k
    · subst h2
      simp [h1]
    · simp [h1, h2]
/-- SV by its parts, where only some rows have changed -/
theorem SV.of6 {M T : Nat → Nat → Nat} (h : SV M) (h00 : T 0 0 = M 0 0) (h01 : T 0 1 = M 0 1) (h03 : T 0 3 = M 0 3) (h05 : T 0 5 = M 0 5) (h5 : T 5 = M 5) (h6 : T 6 = M 6) (h7 : T 7 = M 7) (h8 : T 8 = M 8) (h17 : T 17 = M 17) (h20 : T 20 = M 20) (k4 : S4 T) (k6 : S6 T) : SV T := by
  have hc : ∀ b, mCert T b = mCert M b := fun b => mCert_congr h00 h03 (by rw [h8])
  obtain ⟨g1, g2, g3, g4, g5, g6, g7⟩ := h
  refine ⟨?_, ?_, ?_, k4, ?_, k6, ?_⟩
  · unfold S1
    rw [h05, h5, h6]
    refine ⟨g1.1, g1.2.1, fun b b1 b2 => ?_⟩
    rw [hc]
    exact g1.2.2 b b1 b2
  · unfold S2
    rw [h05, h01, h03, h5, h8, h17]
    exact g2
  · unfold S3
    rw [h05, h01, h03, h5, h8]
    exact g3
  · unfold S5
    rw [h01, h03, h8, h20]
    exact g5
  · unfold S7
    rw [h01, h05, h5, h6, h7, h8]
    exact g7
theorem SV.mark {M : Nat → Nat → Nat} {r x : Nat} (h : SV M) (hx : x < M 0 5) (hx40 : x < 40) (hc : mCert M x = true) (hv : M 5 x < M 14 r) : SV (up2 M 19 (40 * r + x) 1) := by
  have e : ∀ row, row ≠ 19 → up2 M 19 (40 * r + x) 1 row = M row := fun row a => up2_ne _ _ _ a
  have hcc : ∀ b, mCert (up2 M 19 (40 * r + x) 1) b = mCert M b := fun b => mCert_congr rfl rfl rfl
  refine h.of6 rfl rfl rfl rfl rfl rfl rfl rfl rfl rfl ?_ ?_
  · intro q b hq hb hs
    rw [hcc]
    show b < M 0 5 ∧ mCert M b = true ∧ M 5 b < M 14 q
    rw [up2_at] at hs
    by_cases he : 40 * q + b = 40 * r + x
    · have h1 : q = r := by omega
      have h2 : b = x := by omega
      subst h1
      subst h2
      exact ⟨hx, hc, hv⟩
    · rw [if_neg (by omega)] at hs
      exact h.2.2.2.1 q b hq hb hs
  · intro i hi
    rw [hcc]
    exact h.2.2.2.2.2.1 i hi
theorem SV.see {M : Nat → Nat → Nat} {r x : Nat} (h : SV M) (hx : x < M 0 5) (hx40 : x < 40) (hc : mCert M x = true) : SV (mSee M r x) := by
  unfold mSee
  split
  · rename_i hv
    exact h.mark hx hx40 hc hv
  · rename_i hv
    have h1 : SV (mEnter M r (M 5 x + 1)) := h.enter (by omega)
    have h2 : SV (up2 (mEnter M r (M 5 x + 1)) 19 (40 * r + x) 1) := by
      refine h1.mark hx hx40 ((mCert_congr rfl rfl rfl).trans hc) ?_
      show M 5 x < mEnter M r (M 5 x + 1) 14 r
      unfold mEnter
      simp [up2_at]
    have e : mEnter (up2 M 19 (40 * r + x) 1) r (M 5 x + 1) = up2 (mEnter M r (M 5 x + 1)) 19 (40 * r + x) 1 := by
      unfold mEnter
      rw [up2_comm M _ _ _ _ (show 19 ≠ 14 by decide), up2_comm _ _ _ _ _ (show 19 ≠ 15 by decide)]
    rw [e]
    exact h2.up (by decide)
theorem or_bit {a r i : Nat} : (a ||| 1 * 2 ^ r) / 2 ^ i % 2 = 1 ↔ a / 2 ^ i % 2 = 1 ∨ r = i := by
  rw [bt_or1, Nat.one_mul, bt_pow1]
theorem SV.voted {M : Nat → Nat → Nat} {r b : Nat} (h : SV M) (hr : r < M 0 1) (hb : 1 ≤ b ∧ b < M 0 5) (hv : M 17 r < M 5 b) : SV (up2 (up2 M 17 r (M 5 b)) 8 b (M 8 b ||| 1 * 2 ^ r)) := by
  obtain ⟨g1, g2, g3, g4, g5, g6, g7⟩ := h
  have e8 : ∀ c, up2 (up2 M 17 r (M 5 b)) 8 b (M 8 b ||| 1 * 2 ^ r) 8 c = if c = b then M 8 b ||| 1 * 2 ^ r else M 8 c := fun c => by
    rw [up2_at]
    by_cases hc : c = b
    · simp [hc]
    · simp [hc]
      rfl
  have e17 : ∀ q, up2 (up2 M 17 r (M 5 b)) 8 b (M 8 b ||| 1 * 2 ^ r) 17 q = if q = r then M 5 b else M 17 q := fun q => by
    rw [up2_ne _ _ _ (by decide), up2_at]
    by_cases hc : q = r
    · simp [hc]
    · simp [hc]
  have mono : ∀ c i, M 8 c / 2 ^ i % 2 = 1 → up2 (up2 M 17 r (M 5 b)) 8 b (M 8 b ||| 1 * 2 ^ r) 8 c / 2 ^ i % 2 = 1 := by
    intro c i hi
    rw [e8]
    split
    · rename_i hc
      subst hc
      exact or_bit.mpr (Or.inl hi)
    · exact hi
  have hc : ∀ c, mCert M c = true → mCert (up2 (up2 M 17 r (M 5 b)) 8 b (M 8 b ||| 1 * 2 ^ r)) c = true := fun c hc => mCert_mono (M := M) rfl rfl (mono c) hc
  have bit : ∀ c i, up2 (up2 M 17 r (M 5 b)) 8 b (M 8 b ||| 1 * 2 ^ r) 8 c / 2 ^ i % 2 = 1 → M 8 c / 2 ^ i % 2 = 1 ∨ (c = b ∧ i = r) := by
    intro c i hi
    rw [e8] at hi
    split at hi
    · rename_i hcb
      subst hcb
      rcases or_bit.mp hi with q | q
      · exact Or.inl q
      · exact Or.inr ⟨rfl, q.symm⟩
    · exact Or.inl hi
  have low : ∀ q, M 17 q ≤ up2 (up2 M 17 r (M 5 b)) 8 b (M 8 b ||| 1 * 2 ^ r) 17 q := by
    intro q
    rw [e17]
    split
    · rename_i hq
      subst hq
      omega
    · exact Nat.le_refl _
  refine ⟨⟨g1.1, g1.2.1, fun c c1 c2 => ?_⟩, fun c q k1 k2 k3 k4 => ?_, fun c d q k1 k2 k3 k4 k5 k6 k7 => ?_, fun q c k1 k2 k3 => ?_, fun q c x k1 k2 k3 => ?_, fun i k1 => ?_, ?_⟩
  · obtain ⟨a1, a2, a3⟩ := g1.2.2 c c1 c2
    exact ⟨a1, a2, hc _ a3⟩
  · rcases bit c q k4 with k | ⟨rfl, rfl⟩
    · obtain ⟨a1, a2⟩ := g2 c q k1 k2 k3 k
      exact ⟨a1, Nat.le_trans a2 (low q)⟩
    · refine ⟨hb.1, ?_⟩
      rw [e17, if_pos rfl]
      exact Nat.le_refl _
  · rcases bit c q k5 with k | ⟨rfl, rfl⟩
    · rcases bit d q k6 with k' | ⟨rfl, rfl⟩
      · exact g3 c d q k1 k2 k3 k4 k k' k7
      · have := (g2 c q k1 k3 k4 k).2
        have e7 : M 5 c = M 5 d := k7
        omega
    · rcases bit d q k6 with k' | ⟨rfl, -⟩
      · have := (g2 d q k2 k3 k4 k').2
        have e7 : M 5 c = M 5 d := k7
        omega
      · rfl
  · obtain ⟨a1, a2, a3⟩ := g4 q c k1 k2 k3
    exact ⟨a1, hc _ a2, a3⟩
  · rcases g5 q c x k1 k2 k3 with a | a
    · exact Or.inl a
    · exact Or.inr (mono c x a)
  · obtain ⟨a1, a2, a3⟩ := g6 i k1
    refine ⟨a1, fun k => ?_, fun k => hc _ (a3 k)⟩
    obtain ⟨b1, b2⟩ := a2 k
    refine ⟨b1, ?_⟩
    rcases b2 with b2 | b2
    · exact Or.inl b2
    · exact Or.inr (mono _ _ b2)
  · obtain ⟨a1, a2, a3⟩ := g7
    refine ⟨fun c => ?_, fun c hc' => ?_, a3⟩
    · rw [e8]
      split
      · exact Nat.or_lt_two_pow (a1 b) (by rw [Nat.one_mul]; exact Nat.pow_lt_pow_right (by decide) hr)
      · exact a1 c
    · have hc'' : M 0 5 ≤ c := hc'
      rw [e8, if_neg (by omega)]
      exact a2 c hc''
theorem SV.got {M : Nat → Nat → Nat} {r b x : Nat} (h : SV M) (hb : b < 40) (hx : M 0 3 / 2 ^ x % 2 = 1 ∨ M 8 b / 2 ^ x % 2 = 1) : SV (up2 M 20 (40 * r + b) (M 20 (40 * r + b) ||| 1 * 2 ^ x)) := by
  have hcc : ∀ c, mCert (up2 M 20 (40 * r + b) (M 20 (40 * r + b) ||| 1 * 2 ^ x)) c = mCert M c := fun c => mCert_congr rfl rfl rfl
  obtain ⟨g1, g2, g3, g4, g5, g6, g7⟩ := h
  refine ⟨⟨g1.1, g1.2.1, fun c c1 c2 => ?_⟩, g2, g3, fun q c k1 k2 k3 => ?_, fun q c y k1 k2 k3 => ?_, fun i k1 => ?_, g7⟩
  · rw [hcc]
    exact g1.2.2 c c1 c2
  · rw [hcc]
    exact g4 q c k1 k2 k3
  · rw [up2_at] at k3
    by_cases he : 40 * q + c = 40 * r + b
    · rw [if_pos ⟨rfl, he⟩] at k3
      have h1 : q = r := by omega
      have h2 : c = b := by omega
      subst h1
      subst h2
      rcases or_bit.mp k3 with k | k
      · exact g5 q c y k1 k2 k
      · subst k
        exact hx
    · rw [if_neg (by omega)] at k3
      exact g5 q c y k1 k2 k3
  · rw [hcc]
    exact g6 i k1
