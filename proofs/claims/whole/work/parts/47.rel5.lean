def JV (V n : Nat) (M C : Nat → Nat → Nat) : Prop := IW V M ∧ MI V M ∧ SV M ∧ Rl n M C
theorem JV.n {V n : Nat} {M C : Nat → Nat → Nat} (h : JV V n M C) : M 0 1 = n := h.2.2.2.1.2.2.2.2
theorem JV.see {V n : Nat} {M C : Nat → Nat → Nat} {r x : Nat} (h : JV V n M C) (hr : r < n) (hx : x < M 0 5) (hc : mCert M x = true) : JV V n (mSee M r x) (cSee C r x) := by
  obtain ⟨h1, h2, h3, h4⟩ := h
  have hb := h1.b
  exact ⟨h1.see, h2.of (by rw [mSee_ne (by decide) (by decide) (by decide) (by decide)]) (mSee_ne (by decide) (by decide) (by decide) (by decide)) (mSee_ne (by decide) (by decide) (by decide) (by decide)), h3.see hx (by omega) hc, h4.see h1 h3 hr hx⟩
theorem JV.enter {V n : Nat} {M C : Nat → Nat → Nat} {r v : Nat} (h : JV V n M C) (hr : r < n) (h1 : 1 ≤ v) (h2 : v ≤ V) (h3 : M 14 r ≤ v) : JV V n (mEnter M r v) (cEnter C r v) := by
  obtain ⟨a, b, c, d⟩ := h
  exact ⟨a.enter h1 h2, b.of (by rw [mEnter_ne (by decide) (by decide)]) (mEnter_ne (by decide) (by decide)) (mEnter_ne (by decide) (by decide)), c.enter h3, d.enter hr⟩
theorem JV.gp1 {V n : Nat} {M C : Nat → Nat → Nat} {r b : Nat} (h : JV V n M C) (hr : r < n) (hb : b < M 0 5) : JV V n (mGP1 M r b) (cGP1 C r b) := by
  have hI := h.1
  have hv := (show M 5 b + 1 ≤ V from hI.c 5 b)
  have hp := okB_par hI h.2.2.1 hb
  have rc := h.2.2.2.2.2.1
  have hs := h.see hr hp.1 hp.2
  have f := (hs.2.2.2.2.2.2.2.2.1 r hr).1
  unfold mGP1 cGP1
  rw [rc.2.1, rc.2.2.1, f]
  split
  · rename_i hc
    exact hs.enter hr (by omega) (by omega) (by omega)
  · exact hs
theorem cLeader_eq {n : Nat} {M C : Nat → Nat → Nat} (h : Rl n M C) (v : Nat) : cLeader C v = mLeader M v := by
  unfold cLeader mLeader
  rw [h.1.2.2.1, h.1.1]
theorem mLock_bl {V : Nat} {M : Nat → Nat → Nat} (hI : IW V M) (hS : SV M) (r : Nat) : mLock M r < M 0 5 := by
  have hbl := hI.b
  rcases (mLock_max hI r).1 with h | ⟨b, b1, b2, b3, b4⟩
  · omega
  · rw [b4]
    exact (okB_par hI hS b2).1
theorem votes_eq {V n : Nat} {M C : Nat → Nat → Nat} {r b : Nat} (h : JV V n M C) (hr : r < n) (hb : b < M 0 5) : cVotes C r b (M 5 b) = mVotes M r b := by
  obtain ⟨hI, hM, hS, ra, rb, rc, rd, re, rf, rg, rh, ri⟩ := h
  have hbl := hI.b
  obtain ⟨f0, f1, f2, f3, f4⟩ := rf r hr
  have hl : C (3 * r + 44) 7 = mLock M r := lo_eq hI hS (ri r hr).2.1
  have hlb := mLock_bl hI hS r
  have hin : cInC C (mLock M r) b = mInC M (mLock M r) 40 b := by
    have := (rd b hb).1 (mLock M r) (by omega)
    unfold cInC
    show _ = anc M (mLock M r) b
    cases ha : anc M (mLock M r) b
    · rw [ha] at this
      exact decide_eq_false (fun q => by have := this.mp q; cases this)
    · rw [ha] at this
      exact decide_eq_true (this.mpr rfl)
  unfold cVotes mVotes cSafe
  rw [f0, f3, hl, hin, rc.2.1, rc.2.2.1]
theorem JV.proposal {V n : Nat} {M C : Nat → Nat → Nat} {r b : Nat} (h : JV V n M C) (hr : r < n) (hb : 1 ≤ b ∧ b < M 0 5) : JV V n (mGetProposal M r b) (cGetProposal C r b) := by
  have hn := h.n
  have hg := h.gp1 hr hb.2
  have e5 : mGP1 M r b 5 = M 5 := mGP1_ne (by decide) (by decide) (by decide) (by decide)
  have e0 : mGP1 M r b 0 = M 0 := mGP1_ne (by decide) (by decide) (by decide) (by decide)
  have hb' : b < mGP1 M r b 0 5 := by rw [e0]; exact hb.2
  have hv := votes_eq hg hr hb'
  rw [e5] at hv
  have hC32 : C 32 b = M 5 b := by rw [h.2.2.2.2.2.1.2.1]
  have hIp := h.1.proposal (r := r) (b := b) (by omega) hb.2
  unfold mGetProposal at hIp
  unfold mGetProposal cGetProposal
  rw [hC32, hv]
  by_cases hc : mVotes (mGP1 M r b) r b = true
  · rw [if_pos hc] at hIp ⊢
    rw [if_pos hc]
    have hvt : mGP1 M r b 17 r < M 5 b := by
      unfold mVotes at hc
      simp only [Bool.and_eq_true, decide_eq_true_eq] at hc
      have := hc.1.2
      rw [e5] at this
      exact this
    obtain ⟨gI, gM, gS, gR⟩ := hg
    have hsv : SV (up2 (up2 (mGP1 M r b) 17 r (M 5 b)) 8 b (mGP1 M r b 8 b ||| 1 * 2 ^ r)) := by
      have := gS.voted (r := r) (b := b) (by rw [e0]; omega) ⟨hb.1, hb'⟩ (by rw [e5]; exact hvt)
      rw [e5] at this
      exact this
    have hrl : Rl n (up2 (up2 (mGP1 M r b) 17 r (M 5 b)) 8 b (mGP1 M r b 8 b ||| 1 * 2 ^ r)) (up2 (up2 (cGP1 C r b) (3 * r + 44) 3 (M 5 b)) 35 b (cGP1 C r b 35 b ||| 1 * 2 ^ r)) := by
      have h1 := gR.sc (r := r) (v := M 5 b) (k := 17) (j := 3) hr (by omega)
      have e8 : cGP1 C r b 35 = mGP1 M r b 8 := gR.2.2.1.2.2.2.2
      rw [e8]
      exact h1.votedFor
    rw [cLeader_eq gR]
    have hmi : MI V (up2 (up2 (mGP1 M r b) 17 r (M 5 b)) 8 b (mGP1 M r b 8 b ||| 1 * 2 ^ r)) := gM.of rfl rfl rfl
    refine ⟨hIp, hmi.send (fun _ => Nat.zero_le _), hsv.send (fun q => by omega) (fun _ => ⟨hb.1, Or.inr ?_⟩) (fun q => by omega), hrl.send⟩
    rw [up2_at, if_pos ⟨rfl, rfl⟩]
    exact or_bit.mpr (Or.inr rfl)
  · rw [if_neg hc, if_neg hc]
    exact hg
theorem JV.vote {V n : Nat} {M C : Nat → Nat → Nat} {r x b : Nat} (h : JV V n M C) (hr : r < n) (hx : x < n) (hb : b < M 0 5) (hv : M 0 3 / 2 ^ x % 2 = 1 ∨ M 8 b / 2 ^ x % 2 = 1) : JV V n (mGetVote M r x b) (cGetVote C r x b) := by
  have hn := h.n
  obtain ⟨hI, hM, hS, hR⟩ := h
  have hbl := hI.b
  have hnn := hI.n
  have e20 : C (3 * r + 45) b = M 20 (40 * r + b) := (hR.2.2.2.2.2.2.2.1 r hr).1 b (by omega)
  have hq : C 25 1 = 2 * M 0 0 + 1 := hR.1.2.1
  have h1 : JV V n (up2 M 20 (40 * r + b) (M 20 (40 * r + b) ||| 1 * 2 ^ x)) (up2 C (3 * r + 45) b (M 20 (40 * r + b) ||| 1 * 2 ^ x)) :=
    ⟨hI.up (k := 20) (by decide) (or_lt128 (hI.c 20 (40 * r + b)) (p2_128 x (by omega))), hM.of rfl rfl rfl, hS.got (by omega) hv, hR.got hr (by omega)⟩
  unfold mGetVote cGetVote
  rw [e20, hq]
  split
  · rename_i hc
    refine h1.see hr hb ((mCert_congr rfl rfl rfl).trans (mCert_iff.mpr (Or.inr (Nat.le_trans hc (mSize_mono (fun i hi => ?_))))))
    rw [bt_or1]
    rcases or_bit.mp hi with k | k
    · exact (hS.2.2.2.2.1 r b i (by omega) (by omega) k).symm
    · subst k
      exact hv.symm
  · exact h1
theorem cCnt_eq {n : Nat} {M C : Nat → Nat → Nat} {r v : Nat} (h : ∀ x, x < n → C (3 * r + 46) x = M 21 (7 * r + x)) : ∀ k, k ≤ n → itr (cCntF C r v) 0 0 k = itr (mCntF M r v) 0 0 k
  | 0, _ => rfl
  | k + 1, hk => by
    rw [itr_z, itr_z, cCnt_eq h k (by omega)]
    unfold cCntF mCntF
    rw [h k (by omega)]
theorem cPush_eq {n : Nat} {M C : Nat → Nat → Nat} {r : Nat} (hn : M 0 1 = n) (h : ∀ x, x < n → C (3 * r + 46) x = M 21 (7 * r + x)) : cPush C n r (2 * M 0 0 + 1) = mPush M r := by
  have key : ∀ k, k ≤ n → itr (cPushF C n r (2 * M 0 0 + 1)) 0 0 k = itr (mPushF M r) 0 0 k := by
    intro k
    induction k with
    | zero => intro _; rfl
    | succ k ih =>
      intro hk
      rw [itr_z, itr_z, ih (by omega)]
      generalize itr (mPushF M r) 0 0 k = z
      unfold cPushF mPushF
      rw [h k (by omega)]
      unfold cCnt mCnt
      rw [cCnt_eq h n (Nat.le_refl _), hn]
      by_cases h1 : z < M 21 (7 * r + k)
      · by_cases h2 : 2 * M 0 0 + 1 ≤ itr (mCntF M r (M 21 (7 * r + k))) 0 0 n
        · rw [if_pos ⟨h1, h2⟩, if_pos ⟨h2, h1⟩]
        · rw [if_neg (fun q => h2 q.2), if_neg (fun q => h2 q.1)]
      · rw [if_neg (fun q => h1 q.1), if_neg (fun q => h1 q.2)]
  unfold cPush mPush
  rw [key n (Nat.le_refl _), hn]
