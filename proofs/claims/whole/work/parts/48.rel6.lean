theorem up2_self (M : Nat → Nat → Nat) (k j : Nat) : up2 M k j (M k j) = M := by
  funext a x
  rw [up2_at]
  split
  · rename_i h
    rw [h.1, h.2]
  · rfl
theorem mSee_c21 {M : Nat → Nat → Nat} {r b a w : Nat} : mSee (up2 M 21 a w) r b = up2 (mSee M r b) 21 a w := by
  have e5 : up2 M 21 a w 5 b = M 5 b := rfl
  have e14 : up2 M 21 a w 14 r = M 14 r := rfl
  unfold mSee mEnter
  rw [e5, e14]
  split
  · exact up2_comm M _ _ _ _ (by decide)
  · rw [up2_comm M _ _ _ _ (show 21 ≠ 19 by decide), up2_comm _ _ _ _ _ (show 21 ≠ 14 by decide), up2_comm _ _ _ _ _ (show 21 ≠ 15 by decide), up2_comm _ _ _ _ _ (show 21 ≠ 16 by decide)]
theorem mGN1_eq {M : Nat → Nat → Nat} {r x b v : Nat} : mGN1 M r x b v = mSee (up2 M 21 (7 * r + x) (if M 21 (7 * r + x) < v then v else M 21 (7 * r + x))) r b := by
  have e : mSee M r b 21 = M 21 := mSee_ne (by decide) (by decide) (by decide) (by decide)
  unfold mGN1
  rw [mSee_c21, e]
  split
  · rfl
  · rw [← e, up2_self]
theorem JV.newview {V n : Nat} {M C : Nat → Nat → Nat} {r x b v : Nat} (h : JV V n M C) (hr : r < n) (hx : x < n) (hb : b < M 0 5) (hc : mCert M b = true) (hv : v < 2147483648) (hvc : M 0 3 / 2 ^ x % 2 = 0 → v ≤ V) : JV V n (mGetNewView M r x b v) (cGetNewView C n r x b v) := by
  have hn := h.n
  have hnn := h.1.n
  have h21 := (show M 21 (7 * r + x) < 2147483648 ∧ (7 * r + x < 49 → M 0 3 / 2 ^ ((7 * r + x) % 7) % 2 = 0 → M 21 (7 * r + x) ≤ V) from h.1.c 21 (7 * r + x))
  have e46 : C (3 * r + 46) x = M 21 (7 * r + x) := (h.2.2.2.2.2.2.2.2.2.2.1 r hr).2 x hx
  have h1 : JV V n (up2 M 21 (7 * r + x) (if M 21 (7 * r + x) < v then v else M 21 (7 * r + x))) (up2 C (3 * r + 46) x (if M 21 (7 * r + x) < v then v else M 21 (7 * r + x))) := by
    refine ⟨h.1.up (k := 21) (by decide) ?_, h.2.1.of rfl rfl rfl, h.2.2.1.up (by decide), h.2.2.2.claim (by omega) hr hx⟩
    show (if M 21 (7 * r + x) < v then v else M 21 (7 * r + x)) < 2147483648 ∧ (7 * r + x < 49 → M 0 3 / 2 ^ ((7 * r + x) % 7) % 2 = 0 → (if M 21 (7 * r + x) < v then v else M 21 (7 * r + x)) ≤ V)
    have e7 : (7 * r + x) % 7 = x := by omega
    rw [e7] at h21 ⊢
    split
    · exact ⟨hv, fun _ => hvc⟩
    · exact h21
  have h2 : JV V n (mGN1 M r x b v) (cGN1 C r x b v) := by
    rw [mGN1_eq]
    unfold cGN1
    rw [e46]
    exact h1.see hr hb ((mCert_congr rfl rfl rfl).trans hc)
  unfold mGetNewView cGetNewView
  generalize mGN1 M r x b v = T at h2
  generalize cGN1 C r x b v = D at h2
  have hq : D 25 1 = 2 * T 0 0 + 1 := h2.2.2.2.1.2.1
  have hp : cPush D n r (2 * T 0 0 + 1) = mPush T r := cPush_eq h2.n (h2.2.2.2.2.2.2.2.2.2.2.1 r hr).2
  have f := (h2.2.2.2.2.2.2.2.2.1 r hr).1
  rw [hq, hp, f]
  split
  · rename_i hlt
    exact h2.enter hr (by omega) (mPush_le h2.1 (by omega)) (by omega)
  · exact h2
theorem code_parts {k to fr b : Nat} (hk : k ≤ 2) (ht : to < 8) (hf : fr < 8) : (k + 4 * to + 32 * fr + 256 * b) % 4 = k ∧ (k + 4 * to + 32 * fr + 256 * b) / 4 % 8 = to ∧ (k + 4 * to + 32 * fr + 256 * b) / 32 % 8 = fr ∧ (k + 4 * to + 32 * fr + 256 * b) / 256 = b := by omega
theorem cCorrect_eq {V n : Nat} {M C : Nat → Nat → Nat} (h : JV V n M C) {r : Nat} (hr : r < n) : cCorrect C (nI r) = decide (M 0 3 / 2 ^ r % 2 = 0) := by
  have hn := h.n
  have hnn := h.1.n
  have ra := h.2.2.2.1
  unfold cCorrect cRepl
  rw [ra.1, ra.2.2.2.1, nI_toInt (by omega), nI_clamp (by omega), decide_eq_true (by omega), Bool.true_and]
  have := bt01 (M 0 3) r
  by_cases hc : M 0 3 / 2 ^ r % 2 = 0
  · rw [decide_eq_true hc, decide_eq_true (by omega)]
  · rw [decide_eq_false hc, decide_eq_false (by omega)]
theorem JV.hand {V n : Nat} {M C : Nat → Nat → Nat} {i : Nat} (h : JV V n M C) (hi : i < M 0 6) : JV V n (mHand M i) (cHand C n i) ∧ cCorrect C (nI (C 39 i / 4 % 8)) = decide (¬ M 0 3 / 2 ^ M 10 i % 2 = 1) := by
  have hn := h.n
  have hnn := h.1.n
  have h9 := (show M 9 i ≤ 2 from h.1.c 9 i)
  have h10 := (show M 10 i < M 0 1 from h.1.c 10 i)
  have h11 := (show M 11 i < M 0 1 from h.1.c 11 i)
  have h12 := (show M 12 i < M 0 5 from h.1.c 12 i)
  have h13 := (show M 13 i < 2147483648 from h.1.c 13 i)
  obtain ⟨c39, c40⟩ := h.2.2.2.2.2.2.2.1.2.2 i hi
  obtain ⟨p1, p2, p3, p4⟩ := code_parts (b := M 12 i) h9 (show M 10 i < 8 by omega) (show M 11 i < 8 by omega)
  rw [← c39] at p1 p2 p3 p4
  have h01 := bt01 (M 0 3) (M 10 i)
  obtain ⟨s0, s1, s2⟩ := h.2.2.1.2.2.2.2.2.1 i hi
  have hcor := cCorrect_eq h (r := M 10 i) (by omega)
  have hT : JV V n (mTake M i) (cRem C i) := ⟨h.1.take, h.2.1.take, h.2.2.1.take hi, h.2.2.2.take hi⟩
  have e03 : mTake M i 0 3 = M 0 3 := mTake_0 (by decide)
  have e05 : mTake M i 0 5 = M 0 5 := mTake_0 (by decide)
  have e00 : mTake M i 0 0 = M 0 0 := mTake_0 (by decide)
  have e8 : mTake M i 8 = M 8 := funext (fun x => by rw [mTake_at, if_neg (by omega), if_neg (by omega)])
  unfold mHand cHand
  rw [p1, p2, p3, p4, c40, hcor]
  by_cases hc : M 0 3 / 2 ^ M 10 i % 2 = 1
  · rw [if_pos hc, decide_eq_false (show ¬ M 0 3 / 2 ^ M 10 i % 2 = 0 by omega), decide_eq_false (show ¬ ¬ M 0 3 / 2 ^ M 10 i % 2 = 1 from fun q => q hc)]
    exact ⟨hT, rfl⟩
  · rw [if_neg hc, decide_eq_true (show M 0 3 / 2 ^ M 10 i % 2 = 0 by omega), decide_eq_true (show ¬ M 0 3 / 2 ^ M 10 i % 2 = 1 from hc)]
    refine ⟨?_, rfl⟩
    rw [if_pos rfl]
    by_cases k0 : M 9 i = 0
    · rw [if_pos k0, if_pos k0]
      exact hT.proposal (by omega) ⟨s0 k0, by omega⟩
    · rw [if_neg k0, if_neg k0]
      by_cases k1 : M 9 i = 1
      · rw [if_pos k1, if_pos k1]
        refine hT.vote (by omega) (by omega) (by omega) ?_
        rw [e03, e8]
        exact (s1 k1).2
      · rw [if_neg k1, if_neg k1]
        refine hT.newview (by omega) (by omega) (by omega) ((mCert_congr e00 e03 (by rw [e8])).trans (s2 (by omega))) h13 (fun q => h.2.1 i ?_)
        rw [e03] at q
        exact q
