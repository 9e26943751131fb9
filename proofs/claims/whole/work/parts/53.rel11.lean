theorem JV.place_eq {V n : Nat} {M C : Nat → Nat → Nat} (h : JV V n M C) (i : Int32) : cPlace C i = rMsg M i := by
  unfold cPlace rMsg
  rw [h.2.2.2.2.2.2.2.1.1]
theorem rMsg_ex {M : Nat → Nat → Nat} {i : Int32} (h : rMsg M i = true) : ∃ j, j < M 0 6 ∧ i = nI j ∧ i.toNatClampNeg = j := by
  have h' := of_decide_eq_true h
  obtain ⟨j, -, e1, e2, e3⟩ := i_nat h'.1
  exact ⟨j, by omega, e1, e3⟩
theorem JV.take {V n : Nat} {M C : Nat → Nat → Nat} {i : Nat} (h : JV V n M C) (hi : i < M 0 6) : JV V n (mTake M i) (cRem C i) := ⟨h.1.take, h.2.1.take, h.2.2.1.take hi, h.2.2.2.take hi⟩
theorem JV.drop {V n : Nat} {M C : Nat → Nat → Nat} (h : JV V n M C) (i : Int32) : cPlace C i = rMsg M i ∧ JV V n (mDrop M i) (pDrop C i) := by
  refine ⟨h.place_eq i, ?_⟩
  unfold mDrop pDrop
  rw [h.place_eq]
  by_cases hc : rMsg M i = true
  · rw [if_pos hc, if_pos hc]
    obtain ⟨j, hj, -, ej⟩ := rMsg_ex hc
    rw [ej]
    exact h.take hj
  · rw [if_neg hc, if_neg hc]
    exact h
theorem JV.deliver {V n : Nat} {M C : Nat → Nat → Nat} (h : JV V n M C) (i : Int32) : qDeliver C i = rDeliver M i ∧ JV V n (mDeliver M i) (pDeliver C n i) := by
  unfold qDeliver rDeliver mDeliver pDeliver
  rw [h.place_eq]
  by_cases hc : rMsg M i = true
  · rw [if_pos hc, if_pos hc, if_pos hc, if_pos hc]
    obtain ⟨j, hj, -, ej⟩ := rMsg_ex hc
    rw [ej]
    obtain ⟨h1, h2⟩ := h.hand hj
    refine ⟨?_, h1⟩
    rw [h2]
    by_cases hz : M 0 3 / 2 ^ M 10 j % 2 = 1
    · rw [if_pos hz, decide_eq_false (fun q => q hz)]
      rfl
    · rw [if_neg hz, decide_eq_true hz]
      rfl
  · rw [if_neg hc, if_neg hc, if_neg hc, if_neg hc]
    exact ⟨rfl, h⟩
-- flow
def mFl (S : Nat → Nat → Nat) : Nat → (Nat → Nat → Nat)
  | 0 => S
  | k + 1 => if 0 < mFl S k 0 6 then mHand (mFl S k) 0 else mFl S k
def mFlC (S : Nat → Nat → Nat) : Nat → Nat
  | 0 => 0
  | k + 1 => if 0 < mFl S k 0 6 then mFlC S k + 1 else mFlC S k
theorem mFl_front (S : Nat → Nat → Nat) (h : 0 < S 0 6) : ∀ k, mFl S (k + 1) = mFl (mHand S 0) k ∧ mFlC S (k + 1) = mFlC (mHand S 0) k + 1
  | 0 => by
    refine ⟨?_, ?_⟩
    · show (if 0 < S 0 6 then mHand S 0 else S) = mHand S 0
      rw [if_pos h]
    · show (if 0 < S 0 6 then 0 + 1 else 0) = 0 + 1
      rw [if_pos h]
  | k + 1 => by
    obtain ⟨h1, h2⟩ := mFl_front S h k
    refine ⟨?_, ?_⟩
    · show (if 0 < mFl S (k + 1) 0 6 then mHand (mFl S (k + 1)) 0 else mFl S (k + 1)) = _
      rw [h1]
      rfl
    · show (if 0 < mFl S (k + 1) 0 6 then mFlC S (k + 1) + 1 else mFlC S (k + 1)) = (if 0 < mFl (mHand S 0) k 0 6 then mFlC (mHand S 0) k + 1 else mFlC (mHand S 0) k) + 1
      rw [h1, h2]
      split <;> rfl
theorem mFl_stop (S : Nat → Nat → Nat) (h : ¬ 0 < S 0 6) : ∀ k, mFl S k = S ∧ mFlC S k = 0
  | 0 => ⟨rfl, rfl⟩
  | k + 1 => by
    obtain ⟨h1, h2⟩ := mFl_stop S h k
    refine ⟨?_, ?_⟩
    · show (if 0 < mFl S k 0 6 then mHand (mFl S k) 0 else mFl S k) = S
      rw [h1, if_neg h]
    · show (if 0 < mFl S k 0 6 then mFlC S k + 1 else mFlC S k) = 0
      rw [h1, if_neg h, h2]
theorem mFl_eq : ∀ (k : Nat) (S : Nat → Nat → Nat), mFlowS k S = mFl S k ∧ mFlowN k S = mFlC S k
  | 0, S => ⟨rfl, rfl⟩
  | k + 1, S => by
    by_cases h : 0 < S 0 6
    · obtain ⟨h1, h2⟩ := mFl_front S h k
      obtain ⟨i1, i2⟩ := mFl_eq k (mHand S 0)
      refine ⟨?_, ?_⟩
      · show (if 0 < S 0 6 then mFlowS k (mHand S 0) else S) = _
        rw [if_pos h, h1, i1]
      · show (if 0 < S 0 6 then mFlowN k (mHand S 0) + 1 else 0) = _
        rw [if_pos h, h2, i2]
    · obtain ⟨h1, h2⟩ := mFl_stop S h (k + 1)
      refine ⟨?_, ?_⟩
      · show (if 0 < S 0 6 then mFlowS k (mHand S 0) else S) = _
        rw [if_neg h, h1]
      · show (if 0 < S 0 6 then mFlowN k (mHand S 0) + 1 else 0) = _
        rw [if_neg h, h2]
theorem JV.fl {V n : Nat} {M C : Nat → Nat → Nat} (h : JV V n M C) : ∀ k, JV V n (mFl M k) (cFl C n k) ∧ cFlN C n k = mFlC M k
  | 0 => ⟨h, rfl⟩
  | k + 1 => by
    obtain ⟨h1, h2⟩ := JV.fl h k
    have e : cFl C n k 38 0 = mFl M k 0 6 := h1.2.2.2.2.2.2.2.1.1
    show JV V n (if 0 < mFl M k 0 6 then mHand (mFl M k) 0 else mFl M k) (if 0 < cFl C n k 38 0 then cHand (cFl C n k) n 0 else cFl C n k) ∧ (if 0 < cFl C n k 38 0 then cFlN C n k + 1 else cFlN C n k) = (if 0 < mFl M k 0 6 then mFlC M k + 1 else mFlC M k)
    rw [e, h2]
    refine ⟨?_, rfl⟩
    split
    · rename_i hc
      exact (h1.hand hc).1
    · exact h1
theorem JV.flow {V n : Nat} {M C : Nat → Nat → Nat} (h : JV V n M C) (m : Int32) : qFlow C n m = rFlow M m ∧ JV V n (mFlow M m) (pFlow C n m) := by
  unfold qFlow rFlow mFlow pFlow
  by_cases hc : 0 ≤ m.toInt ∧ m.toInt ≤ 40
  · rw [if_pos hc, if_pos hc, if_pos hc, if_pos hc]
    obtain ⟨h1, h2⟩ := h.fl m.toNatClampNeg
    obtain ⟨e1, e2⟩ := mFl_eq m.toNatClampNeg M
    rw [e1, e2, h2]
    exact ⟨rfl, h1⟩
  · rw [if_neg hc, if_neg hc, if_neg hc, if_neg hc]
    exact ⟨rfl, h⟩
-- what the corrupt ones send
theorem JV.full_eq {V n : Nat} {M C : Nat → Nat → Nat} (h : JV V n M C) : decide (¬ 40 ≤ C 38 0) = decide (M 0 6 < 40) := by
  rw [h.2.2.2.2.2.2.2.1.1]
  exact decide_eq_decide.mpr (by omega)
theorem JV.maysend_eq {V n : Nat} {M C : Nat → Nat → Nat} (h : JV V n M C) (b r : Int32) : cMaySend C b r = (decide (¬ b.toInt = 0) && mBlock M b && mRep M r && decide (M 0 6 < 40)) := by
  unfold cMaySend
  rw [h.has_eq, h.rep_eq, h.full_eq]
theorem JV.rep_ex {V n : Nat} {M C : Nat → Nat → Nat} (h : JV V n M C) {r : Int32} (hc : mRep M r = true) : ∃ j, j < n ∧ r.toNatClampNeg = j := by
  have hn := h.n
  have hnn := h.1.n
  obtain ⟨j, h1, h2⟩ := mRep_nI (by omega) hc
  exact ⟨j, by omega, by rw [h2, nI_clamp (by omega)]⟩
theorem JV.blk_ex {V n : Nat} {M C : Nat → Nat → Nat} (h : JV V n M C) {b : Int32} (hc : mBlock M b = true) : ∃ j, j < M 0 5 ∧ b.toNatClampNeg = j ∧ b.toInt = (j : Int) := by
  have hb := h.1.b
  obtain ⟨j, h1, h2⟩ := mBlock_nI (by omega) hc
  exact ⟨j, h1, by rw [h2, nI_clamp (by omega)], by rw [h2, nI_toInt (by omega)]⟩
theorem JV.cor_ex {V n : Nat} {M C : Nat → Nat → Nat} (h : JV V n M C) {x : Int32} (hc : mCorrupt M x = true) : ∃ j, j < n ∧ x.toNatClampNeg = j ∧ M 0 3 / 2 ^ j % 2 = 1 := by
  have hn := h.n
  have hnn := h.1.n
  obtain ⟨j, h1, h2, h3⟩ := mCorrupt_ex (by omega) hc
  exact ⟨j, by omega, by rw [h2, nI_clamp (by omega)], h3⟩
theorem JV.offer {V n : Nat} {M C : Nat → Nat → Nat} (h : JV V n M C) (b r : Int32) : qOffer C b r = rOffer M b r ∧ JV V n (mOffer M b r) (pOffer C b r) := by
  have hn := h.n
  have hnn := h.1.n
  have e : qOffer C b r = rOffer M b r := by
    unfold qOffer rOffer
    rw [h.maysend_eq, h.2.2.2.1.2.2.2.1]
    simp only [Bool.and_assoc]
  refine ⟨e, ?_⟩
  unfold mOffer pOffer
  rw [e]
  by_cases hc : rOffer M b r = true
  · rw [if_pos hc, if_pos hc]
    unfold rOffer at hc
    simp only [Bool.and_eq_true] at hc
    obtain ⟨⟨⟨⟨c1, c2⟩, c3⟩, c4⟩, c5⟩ := hc
    obtain ⟨jb, hb, eb, ib⟩ := h.blk_ex c3
    obtain ⟨jr, hr, er⟩ := h.rep_ex c4
    have c2' := of_decide_eq_true c2
    rw [eb, er]
    exact h.send (by decide) (by omega) hr hb (by decide) (fun _ => Nat.zero_le _) (fun _ => by omega) (fun q => by cases q) (fun q => by cases q)
  · rw [if_neg hc, if_neg hc]
    exact h
theorem JV.vote' {V n : Nat} {M C : Nat → Nat → Nat} (h : JV V n M C) (x b r : Int32) : qVote C x b r = rVote M x b r ∧ JV V n (mVote M x b r) (pVote C x b r) := by
  have hn := h.n
  have hnn := h.1.n
  have e : qVote C x b r = rVote M x b r := by
    unfold qVote rVote
    rw [h.maysend_eq, h.corrupt_eq]
    simp only [Bool.and_assoc]
  refine ⟨e, ?_⟩
  unfold mVote pVote
  rw [e]
  by_cases hc : rVote M x b r = true
  · rw [if_pos hc, if_pos hc]
    unfold rVote at hc
    simp only [Bool.and_eq_true] at hc
    obtain ⟨⟨⟨⟨c1, c2⟩, c3⟩, c4⟩, c5⟩ := hc
    obtain ⟨jx, hx, ex, cx⟩ := h.cor_ex c1
    obtain ⟨jb, hb, eb, ib⟩ := h.blk_ex c3
    obtain ⟨jr, hr, er⟩ := h.rep_ex c4
    have c2' := of_decide_eq_true c2
    rw [eb, er, ex]
    exact h.send (by decide) hx hr hb (by decide) (fun _ => Nat.zero_le _) (fun q => by cases q) (fun _ => ⟨by omega, Or.inl cx⟩) (fun q => by cases q)
  · rw [if_neg hc, if_neg hc]
    exact h
theorem JV.cert_eq {V n : Nat} {M C : Nat → Nat → Nat} (h : JV V n M C) (b : Int32) : cHasCert C b = (mBlock M b && mCert M b.toNatClampNeg) := by
  unfold cHasCert
  rw [h.has_eq]
  by_cases hb : mBlock M b = true
  · obtain ⟨j, hj, ej, ij⟩ := h.blk_ex hb
    unfold mCert
    rw [hb, ej, ij, h.2.2.2.1.2.1, h.2.2.2.1.2.2.2.1, h.2.2.2.2.2.1.2.2.2.2]
    congr 2
    exact decide_eq_decide.mpr (by omega)
  · rw [Bool.eq_false_iff.mpr hb, Bool.false_and, Bool.false_and]
theorem JV.claim' {V n : Nat} {M C : Nat → Nat → Nat} (h : JV V n M C) (x v b r : Int32) : qClaim C x v b r = rClaim M x v b r ∧ JV V n (mClaim M x v b r) (pClaim C x v b r) := by
  have hn := h.n
  have hnn := h.1.n
  have e : qClaim C x v b r = rClaim M x v b r := by
    unfold qClaim rClaim
    rw [h.corrupt_eq, h.cert_eq, h.rep_eq, h.full_eq]
    simp only [Bool.and_assoc]
  refine ⟨e, ?_⟩
  unfold mClaim pClaim
  rw [e]
  by_cases hc : rClaim M x v b r = true
  · rw [if_pos hc, if_pos hc]
    unfold rClaim at hc
    simp only [Bool.and_eq_true] at hc
    obtain ⟨⟨⟨⟨⟨c1, c2⟩, c3⟩, c4⟩, c5⟩, c6⟩ := hc
    obtain ⟨jx, hx, ex, cx⟩ := h.cor_ex c1
    obtain ⟨jb, hb, eb, ib⟩ := h.blk_ex c3
    obtain ⟨jr, hr, er⟩ := h.rep_ex c5
    have c2' := of_decide_eq_true c2
    obtain ⟨jv, hv, -, -, ev⟩ := i_nat (show 0 ≤ v.toInt by omega)
    rw [eb] at c4
    rw [eb, er, ex, ev]
    exact h.send (by decide) hx hr hb hv (fun q => by omega) (fun q => by cases q) (fun q => by cases q) (fun _ => c4)
  · rw [if_neg hc, if_neg hc]
    exact h
theorem JV.forge {V n : Nat} {M C : Nat → Nat → Nat} (h : JV V n M C) (hV : 10000 ≤ V) (p v set : Int32) : qForge C p v set = rForge M p v set ∧ JV V n (mForge M p v set) (pForge C p v set) := by
  have hn := h.n
  have hnn := h.1.n
  have e : qForgeOk C p v set = rForgeOk M p v set := by
    unfold qForgeOk rForgeOk
    rw [h.cert_eq, h.2.2.2.2.2.1.1, h.2.2.2.2.2.1.2.1, h.2.2.2.2.1.1, h.corrupt_eq, cLeader_eq h.2.2.2, mCorrupt_nI (by omega) (mLeader_lt h.1 _)]
    have e2 : decide (¬ 40 ≤ M 0 5) = decide (M 0 5 < 40) := decide_eq_decide.mpr (by omega)
    rw [e2]
    generalize mBlock M p = a1
    generalize mCert M p.toNatClampNeg = a2
    generalize decide ((M 5 p.toNatClampNeg : Int) < v.toInt) = a3
    generalize decide (v.toInt ≤ 9999) = a4
    generalize decide (M 0 5 < 40) = a5
    generalize decide (M 0 3 / 2 ^ mLeader M v.toNatClampNeg % 2 = 1) = a6
    generalize decide (0 ≤ set.toInt ∧ set.toInt < ((2 ^ M 0 4 : Nat) : Int)) = a7
    revert a1 a2 a3 a4 a5 a6 a7
    decide
  unfold qForge rForge mForge pForge
  rw [e]
  by_cases hc : rForgeOk M p v set = true
  · rw [if_pos hc, if_pos hc, if_pos hc, if_pos hc, h.2.2.2.2.2.1.1]
    refine ⟨rfl, ?_⟩
    unfold rForgeOk at hc
    simp only [Bool.and_eq_true] at hc
    obtain ⟨⟨⟨⟨⟨⟨c1, c2⟩, c3⟩, c4⟩, c5⟩, c6⟩, c7⟩ := hc
    obtain ⟨jp, hp, ep, ip⟩ := h.blk_ex c1
    have c3' := of_decide_eq_true c3
    have c4' := of_decide_eq_true c4
    have c5' := of_decide_eq_true c5
    have c7' := of_decide_eq_true c7
    obtain ⟨jv, hv, -, iv, ev⟩ := i_nat (show 0 ≤ v.toInt by omega)
    obtain ⟨js, hs, -, is, es⟩ := i_nat c7'.1
    rw [ep] at c2 c3'
    rw [ep, ev, es]
    have ht := h.1.t
    have hs2 : js < 2 ^ M 0 4 := by
      have := c7'.2
      rw [is] at this
      exact Int.ofNat_lt.mp this
    have p24 : (2 : Nat) ^ M 0 4 ≤ 2 ^ 24 := Nat.pow_le_pow_right (by decide) ht
    exact h.newBlock c5' (by omega) hp c2 (by omega) (Nat.lt_of_lt_of_le hs2 p24)
  · rw [if_neg hc, if_neg hc, if_neg hc, if_neg hc]
    exact ⟨rfl, h⟩
-- questions
theorem JV.message {V n : Nat} {M C : Nat → Nat → Nat} (h : JV V n M C) (i : Int32) : qMessage C i = rMessage M i := by
  have e := h.place_eq i
  unfold qMessage rMessage
  rw [e]
  by_cases hc : rMsg M i = true
  · rw [if_pos hc, if_pos (of_decide_eq_true hc)]
    obtain ⟨j, hj, -, ej⟩ := rMsg_ex hc
    rw [ej, (h.2.2.2.2.2.2.2.1.2.2 j hj).1]
  · rw [if_neg hc, if_neg (fun q => hc (decide_eq_true q))]
theorem JV.block {V n : Nat} {M C : Nat → Nat → Nat} (h : JV V n M C) (b : Int32) : qBlock C b = rBlock M b := by
  unfold qBlock rBlock
  rw [h.has_eq, h.2.2.2.2.2.1.2.1, h.2.2.2.2.2.1.2.2.1]
theorem JV.payload {V n : Nat} {M C : Nat → Nat → Nat} (h : JV V n M C) (b : Int32) : qPayload C b = rPayload M b := by
  unfold qPayload rPayload
  rw [h.has_eq, h.2.2.2.2.2.1.2.2.2.1]
theorem JV.votes {V n : Nat} {M C : Nat → Nat → Nat} (h : JV V n M C) (b : Int32) : qVotes C b = rVotes M b := by
  unfold qVotes rVotes
  rw [h.has_eq, h.2.2.2.2.2.1.2.2.2.2]
theorem JV.state {V n : Nat} {M C : Nat → Nat → Nat} (h : JV V n M C) (r w : Int32) : qState C n r w = rState M r w := by
  unfold qState rState
  rw [h.correct_eq]
  by_cases hc : mCorrect M r = true
  · rw [if_pos hc, if_pos hc]
    obtain ⟨j, hj, -, ej, -⟩ := h.r_ex hc
    obtain ⟨f0, f1, f2, f3, f4⟩ := h.2.2.2.2.2.2.2.2.1 j hj
    rw [ej, f0, f1, f2, f3, f4, h.high_eq hj, h.lock_eq hj, h.tip_eq hj, h.push_eq hj]
  · rw [if_neg hc, if_neg hc]
