def MI (V : Nat) (S : Nat → Nat → Nat) : Prop := ∀ i, S 0 3 / 2 ^ (S 11 i) % 2 = 0 → S 13 i ≤ V
theorem rSub_no {S : Nat → Nat → Nat} {h fr to am : Int32} (q : ¬ ((0 ≤ h.toInt ∧ h.toInt < ((2 ^ S 0 1 : Nat) : Int)) ∧ (0 ≤ fr.toInt ∧ fr.toInt ≤ 3) ∧ (0 ≤ to.toInt ∧ to.toInt ≤ 3) ∧ ¬ fr = to ∧ (1 ≤ am.toInt ∧ am.toInt ≤ 1000) ∧ S 0 4 < 24)) : rSubOk S h fr to am = false := decide_eq_false q
theorem rMsg_no {S : Nat → Nat → Nat} {i : Int32} (q : ¬ (0 ≤ i.toInt ∧ i.toInt < (S 0 6 : Int))) : rMsg S i = false := decide_eq_false q
theorem rMsg_yes {S : Nat → Nat → Nat} {j : Nat} (hm : S 0 6 ≤ 40) (q : j < S 0 6) : rMsg S (nI j) = true := decide_eq_true (by rw [nI_toInt (by omega)]; omega)
theorem mCorrect_ex {S : Nat → Nat → Nat} {r : Int32} (hn : S 0 1 < 2 ^ 31) (h : mCorrect S r = true) : ∃ j, j < S 0 1 ∧ r = nI j ∧ S 0 3 / 2 ^ j % 2 = 0 := by
  have h1 : mRep S r = true := by
    simp only [mCorrect, Bool.and_eq_true] at h
    exact h.1
  obtain ⟨j, hj, rfl⟩ := mRep_nI hn h1
  rw [mCorrect_nI hn hj] at h
  exact ⟨j, hj, rfl, of_decide_eq_true h⟩
theorem mCorrupt_ex {S : Nat → Nat → Nat} {r : Int32} (hn : S 0 1 < 2 ^ 31) (h : mCorrupt S r = true) : ∃ j, j < S 0 1 ∧ r = nI j ∧ S 0 3 / 2 ^ j % 2 = 1 := by
  have h1 : mRep S r = true := by
    simp only [mCorrupt, Bool.and_eq_true] at h
    exact h.1
  obtain ⟨j, hj, rfl⟩ := mRep_nI hn h1
  rw [mCorrupt_nI hn hj] at h
  exact ⟨j, hj, rfl, of_decide_eq_true h⟩
theorem mHigh_congr {S T : Nat → Nat → Nat} {r : Nat} (h0 : T 0 5 = S 0 5) (h5 : T 5 = S 5) (h19 : T 19 = S 19) : mHigh T r = mHigh S r := by
  have e : mHighF T r = mHighF S r := by
    funext b best
    simp only [mHighF, h5, h19]
  unfold mHigh
  rw [e, h0]
theorem mLeader_congr {S T : Nat → Nat → Nat} {v : Nat} (h1 : T 0 1 = S 0 1) (h2 : T 0 2 = S 0 2) : mLeader T v = mLeader S v := by
  unfold mLeader
  rw [h1, h2]
theorem mTake_0 {S : Nat → Nat → Nat} {i x : Nat} (hx : x ≠ 6) : mTake S i 0 x = S 0 x := by
  rw [mTake_at, if_neg (by omega), if_neg (by omega)]
theorem IW.gp1 {V : Nat} {S : Nat → Nat → Nat} {r b : Nat} (h : IW V S) : IW V (mGP1 S r b) := by
  have h5 := (show S 5 b + 1 ≤ V from h.c 5 b)
  unfold mGP1
  split
  · exact h.see.enter (by omega) (by omega)
  · exact h.see
theorem IW.proposal {V : Nat} {S : Nat → Nat → Nat} {r b : Nat} (h : IW V S) (hr : r < S 0 1) (hb : b < S 0 5) : IW V (mGetProposal S r b) := by
  have h5 := (show S 5 b + 1 ≤ V from h.c 5 b)
  have hn := h.n
  have h1 := h.gp1 (r := r) (b := b)
  have e0 : mGP1 S r b 0 = S 0 := mGP1_ne (by decide) (by decide) (by decide) (by decide)
  unfold mGetProposal
  split
  · have h2 := (h1.up (k := 17) (j := r) (v := S 5 b) (by decide) (show S 5 b ≤ V by omega)).up (k := 8) (j := b) (v := mGP1 S r b 8 b ||| 1 * 2 ^ r) (by decide) (or_lt128 (h1.c 8 b) (p2_128 r (by omega)))
    refine h2.send (by decide) ?_ ?_ ?_ (by decide)
    · show r < mGP1 S r b 0 1
      rw [e0]
      exact hr
    · show mLeader (mGP1 S r b) (S 5 b + 1) < mGP1 S r b 0 1
      exact mLeader_lt h1 _
    · show b < mGP1 S r b 0 5
      rw [e0]
      exact hb
  · exact h1
theorem IW.getvote {V : Nat} {S : Nat → Nat → Nat} {r x b : Nat} (h : IW V S) (hx : x < 7) : IW V (mGetVote S r x b) := by
  have h1 : IW V (up2 S 20 (40 * r + b) (S 20 (40 * r + b) ||| 1 * 2 ^ x)) := h.up (k := 20) (by decide) (or_lt128 (h.c 20 (40 * r + b)) (p2_128 x hx))
  unfold mGetVote
  split
  · exact h1.see
  · exact h1
theorem IW.newview {V : Nat} {S : Nat → Nat → Nat} {r x b v : Nat} (h : IW V S) (hr : r < 7) (hx : x < 7) (hv : v < 2147483648) (hc : S 0 3 / 2 ^ x % 2 = 0 → v ≤ V) : IW V (mGetNewView S r x b v) := by
  have e0 : mSee S r b 0 = S 0 := mSee_ne (by decide) (by decide) (by decide) (by decide)
  have h1 : IW V (mGN1 S r x b v) := by
    unfold mGN1
    split
    · refine h.see.up (k := 21) (by decide) ?_
      show v < 2147483648 ∧ (7 * r + x < 49 → mSee S r b 0 3 / 2 ^ ((7 * r + x) % 7) % 2 = 0 → v ≤ V)
      rw [e0, show (7 * r + x) % 7 = x by omega]
      exact ⟨hv, fun _ q => hc q⟩
    · exact h.see
  unfold mGetNewView
  split
  · exact h1.enter (by omega) (mPush_le h1 hr)
  · exact h1
theorem MI.take {V : Nat} {S : Nat → Nat → Nat} {i : Nat} (h : MI V S) : MI V (mTake S i) := by
  intro k
  rw [mTake_0 (by decide), mTake_at, mTake_at]
  by_cases hc : i ≤ k ∧ k < i + (S 0 6 - 1 - i)
  · rw [if_pos (by omega), if_pos (by omega)]
    exact h (k + 1)
  · rw [if_neg (by omega), if_neg (by omega), if_neg (by omega), if_neg (by omega)]
    exact h k
theorem MI.send {V : Nat} {S : Nat → Nat → Nat} {a0 a1 a2 a3 a4 : Nat} (h : MI V S) (ha : S 0 3 / 2 ^ a1 % 2 = 0 → a4 ≤ V) : MI V (mSend S a0 a1 a2 a3 a4) := by
  intro k
  unfold mSend
  split
  · simp only [up2_at]
    simpa using h k
  · simp only [up2_at]
    by_cases hk : k = S 0 6
    · subst hk
      simpa using ha
    · simpa [hk] using h k
theorem MI.of {V : Nat} {S T : Nat → Nat → Nat} (h : MI V S) (h0 : T 0 3 = S 0 3) (h11 : T 11 = S 11) (h13 : T 13 = S 13) : MI V T := by
  intro k
  rw [h0, h11, h13]
  exact h k
theorem hand_keeps {V : Nat} {S : Nat → Nat → Nat} {i : Nat} (h : IW V S) (hM : MI V S) (hi : i < S 0 6) : IW V (mHand S i) ∧ MI V (mHand S i) := by
  have hn := h.n
  have h10 := (show S 10 i < S 0 1 from h.c 10 i)
  have h11 := (show S 11 i < S 0 1 from h.c 11 i)
  have h12 := (show S 12 i < S 0 5 from h.c 12 i)
  have h13 := (show S 13 i < 2147483648 from h.c 13 i)
  have hT := h.take (i := i)
  have hMT := hM.take (i := i)
  have e01 : mTake S i 0 1 = S 0 1 := mTake_0 (by decide)
  have e03 : mTake S i 0 3 = S 0 3 := mTake_0 (by decide)
  have e05 : mTake S i 0 5 = S 0 5 := mTake_0 (by decide)
  unfold mHand
  generalize mTake S i = T at hT hMT e01 e03 e05
  split
  · exact ⟨hT, hMT⟩
  · split
    · refine ⟨hT.proposal (by omega) (by omega), ?_⟩
      have hg : MI V (mGP1 T (S 10 i) (S 12 i)) := hMT.of (by rw [mGP1_ne (by decide) (by decide) (by decide) (by decide)]) (mGP1_ne (by decide) (by decide) (by decide) (by decide)) (mGP1_ne (by decide) (by decide) (by decide) (by decide))
      unfold mGetProposal
      split
      · exact MI.send (hg.of rfl rfl rfl) (fun _ => Nat.zero_le _)
      · exact hg
    · split
      · refine ⟨hT.getvote (by omega), ?_⟩
        unfold mGetVote
        split
        · exact hMT.of (by rw [mSee_ne (by decide) (by decide) (by decide) (by decide)]; rfl) (by rw [mSee_ne (by decide) (by decide) (by decide) (by decide)]; rfl) (by rw [mSee_ne (by decide) (by decide) (by decide) (by decide)]; rfl)
        · exact hMT.of rfl rfl rfl
      · refine ⟨hT.newview (by omega) (by omega) h13 (fun q => hM i (by rw [← e03]; exact q)), ?_⟩
        have e : ∀ row, row ≠ 14 → row ≠ 15 → row ≠ 16 → row ≠ 19 → row ≠ 21 → mGetNewView T (S 10 i) (S 11 i) (S 12 i) (S 13 i) row = T row := by
          intro row q1 q2 q3 q4 q5
          have e1 : mGN1 T (S 10 i) (S 11 i) (S 12 i) (S 13 i) row = T row := by
            unfold mGN1
            split
            · rw [up2_ne _ _ _ q5, mSee_ne q1 q2 q3 q4]
            · rw [mSee_ne q1 q2 q3 q4]
          unfold mGetNewView
          split
          · rw [mEnter_ne q1 q2, e1]
          · rw [e1]
        exact hMT.of (by rw [e 0 (by decide) (by decide) (by decide) (by decide) (by decide)]) (e 11 (by decide) (by decide) (by decide) (by decide) (by decide)) (e 13 (by decide) (by decide) (by decide) (by decide) (by decide))
