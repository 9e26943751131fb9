theorem mEnter_ne {S : Nat → Nat → Nat} {r v row : Nat} (h1 : row ≠ 14) (h2 : row ≠ 15) : mEnter S r v row = S row := by
  unfold mEnter
  rw [up2_ne _ _ _ h2, up2_ne _ _ _ h1]
theorem mSee_ne {S : Nat → Nat → Nat} {r x row : Nat} (h1 : row ≠ 14) (h2 : row ≠ 15) (h3 : row ≠ 16) (h4 : row ≠ 19) : mSee S r x row = S row := by
  unfold mSee
  split
  · rw [up2_ne _ _ _ h4]
  · rw [up2_ne _ _ _ h3, mEnter_ne h1 h2, up2_ne _ _ _ h4]
theorem mGP1_ne {S : Nat → Nat → Nat} {r b row : Nat} (h1 : row ≠ 14) (h2 : row ≠ 15) (h3 : row ≠ 16) (h4 : row ≠ 19) : mGP1 S r b row = S row := by
  unfold mGP1
  split
  · rw [mEnter_ne h1 h2, mSee_ne h1 h2 h3 h4]
  · rw [mSee_ne h1 h2 h3 h4]
theorem itr_lt {f : Nat → Nat → Nat} {i N : Nat} (h0 : 0 < N) (hf : ∀ b z, z < N → f b z < N) : ∀ k, itr f i 0 k < N
  | 0 => h0
  | k + 1 => hf _ _ (itr_lt h0 hf k)
theorem mLock_lt {V : Nat} {S : Nat → Nat → Nat} (h : IW V S) (r : Nat) : mLock S r < 40 := itr_lt (by decide) (fun b z hz => by
  unfold mLockF
  split
  · exact (show S 6 b < 40 from h.c 6 b)
  · exact hz) _
theorem mTip_lt {V : Nat} {S : Nat → Nat → Nat} (h : IW V S) (r : Nat) : mTip S r < 40 := itr_lt (by decide) (fun b z hz => by
  unfold mTipF
  split
  · exact (show S 6 (S 6 b) < 40 from h.c 6 (S 6 b))
  · exact hz) _
theorem mHigh_lt {V : Nat} {S : Nat → Nat → Nat} (h : IW V S) (r : Nat) : mHigh S r < S 0 5 := by
  have hb := h.b
  have key : ∀ k, itr (mHighF S r) 1 0 k ≤ k := by
    intro k
    induction k with
    | zero => exact Nat.le_refl _
    | succ k ih =>
      rw [itr_s]
      generalize itr (mHighF S r) 1 0 k = z at ih ⊢
      unfold mHighF
      split
      · omega
      · omega
  have := key (S 0 5 - 1)
  unfold mHigh
  omega
theorem mPush_lt {V : Nat} {S : Nat → Nat → Nat} (h : IW V S) (r : Nat) : mPush S r < 2147483648 := itr_lt (by decide) (fun b z hz => by
  unfold mPushF
  split
  · exact (show S 21 (7 * r + b) < 2147483648 ∧ _ from h.c 21 (7 * r + b)).1
  · exact hz) _
theorem mLeader_lt {V : Nat} {S : Nat → Nat → Nat} (h : IW V S) (v : Nat) : mLeader S v < S 0 1 := Nat.mod_lt _ (by have := h.n; omega)
/-- how many corrupt there are below q -/
theorem cnt_corrupt {S : Nat → Nat → Nat} {r v : Nat} (hc : ∀ q, q < 7 → S 0 3 / 2 ^ q % 2 = 0 → S 21 (7 * r + q) < v) : ∀ k, k ≤ 7 → itr (mCntF S r v) 0 0 k ≤ itr (fun i acc => acc + S 0 3 / 2 ^ i % 2) 0 0 k
  | 0, _ => Nat.le_refl _
  | k + 1, hk => by
    have ih := cnt_corrupt hc k (by omega)
    rw [itr_z, itr_z]
    have h01 := bt01 (S 0 3) k
    generalize itr (mCntF S r v) 0 0 k = z at ih ⊢
    unfold mCntF
    by_cases h : v ≤ S 21 (7 * r + k)
    · rw [if_pos h]
      have : ¬ S 0 3 / 2 ^ k % 2 = 0 := fun q => by
        have := hc k (by omega) q
        omega
      omega
    · rw [if_neg h]
      omega
theorem itr_mono (a : Nat) : ∀ k d, itr (fun i acc => acc + a / 2 ^ i % 2) 0 0 k ≤ itr (fun i acc => acc + a / 2 ^ i % 2) 0 0 (k + d)
  | k, 0 => Nat.le_refl _
  | k, d + 1 => Nat.le_trans (itr_mono a k d) (by rw [← Nat.add_assoc, itr_z]; exact Nat.le_add_right _ _)
/-- the view pushed for is one that a correct replica spoke for -/
theorem mPush_le {V : Nat} {S : Nat → Nat → Nat} (h : IW V S) {r : Nat} (hr : r < 7) : mPush S r ≤ V := by
  have hn := h.n
  have hf := h.f
  have hq := h.cq
  have key : ∀ k, itr (mPushF S r) 0 0 k ≤ V := by
    intro k
    induction k with
    | zero => exact Nat.zero_le _
    | succ k ih =>
      rw [itr_z]
      unfold mPushF
      split
      · rename_i hc
        apply Classical.byContradiction
        intro hV
        have h1 := cnt_corrupt (S := S) (r := r) (v := S 21 (7 * r + k)) (fun q hq7 hq0 => by
          have := (show S 21 (7 * r + q) < 2147483648 ∧ (7 * r + q < 49 → S 0 3 / 2 ^ ((7 * r + q) % 7) % 2 = 0 → S 21 (7 * r + q) ≤ V) from h.c 21 (7 * r + q)).2 (by omega) (by rw [show (7 * r + q) % 7 = q by omega]; exact hq0)
          omega) (S 0 1) (by omega)
        have h2 := itr_mono (S 0 3) (S 0 1) (7 - S 0 1)
        rw [show S 0 1 + (7 - S 0 1) = 7 by omega] at h2
        have h3 : mSize (S 0 3) = itr (fun i acc => acc + S 0 3 / 2 ^ i % 2) 0 0 7 := rfl
        have h4 := hc.1
        unfold mCnt at h4
        omega
      · exact ih
  exact key _
theorem p2_128 : ∀ r, r < 7 → 1 * 2 ^ r < 128 := by decide
theorem p2_24 : ∀ r, r < 24 → 1 * 2 ^ r < 16777216 := by decide
set_option maxRecDepth 100000 in
set_option maxHeartbeats 4000000 in
theorem k_M_getProposal (l : Launch) {X : WX} (hX : xInj X) {S : Nat → Nat → Nat} {V : Nat} (hI : IW V S) {r : Nat} (hr0 : r < 7) {b : Nat} (hb0 : b < S 0 5) : MetV l X y_M_getProposal (Cond.code y_M_getProposal c_M_getProposal 7 none :: Mst) 2 [.ref (X.2.2.2 0), .int (nI r), .int (nI b)] S (mGetProposal S r b) := by
  refine MetV.of (by decide) (Nat.le_of_ble_eq_true rfl) ?_
  intro p e s m args below meth c cf hr hlk hP hK hN ls hl
  have hl : lv_has ls 7 [(0, .ref (X.2.2.2 0)), (1, .int (nI r)), (2, .int (nI b))] := hl
  have hx := cf.1
  have hb := cf.2.1
  have hD := xD_of hX
  have hS : va_S (xA X) s.heap s.heap [] := va_S.rf
  have hf := hI.f
  have hn := hI.n
  have hk := hI.k
  have hcs := hI.cs
  have ht := hI.t
  have hbl := hI.b
  have hm := hI.m
  have hV := hI.V
  obtain ⟨H, hH⟩ : ∃ H, H = s.heap := ⟨_, rfl⟩
  obtain ⟨locs, hlo⟩ : ∃ z : List Loc, z = [] := ⟨_, rfl⟩
  suffices hgo : PW X S H → va_S (xA X) s.heap H locs → W p l e (rmd 2) s m args below meth c H locs 0 0 (MQ below (QcV X (mGetProposal S r b)) args s 0 0 (xA X)) (F0 m 0 ls []) by
    subst hH
    subst hlo
    exact hgo hP hS
  clear hP hS
  intro hP hS
  refine lv_aload_n hx hb d_M_getProposal_0 rfl (lv_at hl 0 rfl) ?_
  refine x_getM (v := .ref (X.2.2.2 5)) cf hK hP 10 (by decide) w_471 rfl d_M_getProposal_1 ?_
  refine lv_iload_n hx hb d_M_getProposal_4 rfl (lv_at hl 2 rfl) ?_
  refine x_iald (v := (S 5 b)) cf hK hP (ia5 X) (by omega) rfl d_M_getProposal_5 ?_
  refine lv_istore_n (lv' := [(3, .int (nI (S 5 b))), (0, .ref (X.2.2.2 0)), (1, .int (nI r)), (2, .int (nI b))]) hx hb d_M_getProposal_6 rfl hl (by decide) rfl (fun ls hl => ?_)
  refine lv_aload_n hx hb d_M_getProposal_7 rfl (lv_at hl 1 rfl) ?_
  refine x_getM (v := .ref (X.2.2.2 6)) cf hK hP 11 (by decide) w_472 rfl d_M_getProposal_8 ?_
  refine lv_iload_n hx hb d_M_getProposal_11 rfl (lv_at hl 3 rfl) ?_
  refine x_iald (v := (S 6 b)) cf hK hP (ia6 X) (by omega) rfl d_M_getProposal_12 ?_
  refine lv_istore (lv' := [(4, .int (nI (S 6 b))), (3, .int (nI (S 5 b))), (0, .ref (X.2.2.2 0)), (1, .int (nI r)), (2, .int (nI b))]) hx hb d_M_getProposal_13 hl (by decide) rfl (fun ls hl => ?_)
  refine lv_aload_n hx hb d_M_getProposal_15 rfl (lv_at hl 2 rfl) ?_
  refine lv_iload_n hx hb d_M_getProposal_16 rfl (lv_at hl 3 rfl) ?_
  refine lv_iload hx hb d_M_getProposal_17 (lv_at hl 0 rfl) ?_
  refine x_callVv (As := [.int (nI r), .int (nI (S 6 b))]) (rest := []) cf hK hN hP hS (k_M_see l hX hI (by omega) (by have := (show S 6 b < 40 from hI.c 6 b); omega)) (cw_M_see cf.2.2.2.2 w_619 ⟨Nat.le_of_ble_eq_true rfl, Nat.le_of_ble_eq_true rfl⟩) (rv_M hK hP) hl.1 rfl rfl (Nat.le_of_ble_eq_true rfl) ⟨Nat.zero_le _, Nat.zero_le _⟩ d_M_getProposal_19 (fun H locs hP hS => ?_)
  obtain ⟨T1, hT1⟩ : ∃ z, z = (mSee S r (S 6 b)) := ⟨_, rfl⟩
  rw [← hT1] at hP
  have hI1 : IW V T1 := by rw [hT1]; exact hI.see
  have cut38 : ∀ (T2 : Nat → Nat → Nat) (ls : Array Slot) (H : Heap) (locs : List Loc), lv_has ls 7 [(0, .ref (X.2.2.2 0)), (1, .int (nI r)), (2, .int (nI b)), (3, .int (nI (S 5 b))), (4, .int (nI (S 6 b)))] → PW X T2 H → va_S (xA X) s.heap H locs → (IW V T2) → (T2 = mGP1 S r b) → (T2 5 = S 5) → (T2 6 = S 6) → W p l e (rmd 2) s m args below meth c H locs 0 0 (MQ below (QcV X (mGetProposal S r b)) args s 0 0 (xA X)) (F0 m 38 ls []) := by
    intro T2 ls H locs hl hP hS hI2 hG h25 h26
    have hbl2 := hI2.b
    have hn2 := hI2.n
    have hk2 := hI2.k
    refine lv_aload_n hx hb d_M_getProposal_38 rfl (lv_at hl 0 rfl) ?_
    refine lv_iload_n hx hb d_M_getProposal_39 rfl (lv_at hl 1 rfl) ?_
    refine x_callVi (As := [.int (nI r)]) (rest := []) cf hK hN hP hS (k_M_lock l hX hI2 (by omega)) (cw_M_lock cf.2.2.2.2 w_623 ⟨Nat.le_of_ble_eq_true rfl, Nat.le_of_ble_eq_true rfl⟩) (rv_M hK hP) hl.1 rfl rfl (Nat.le_of_ble_eq_true rfl) ⟨Nat.zero_le _, Nat.zero_le _⟩ d_M_getProposal_40 (fun H locs hP hS => ?_)
    have hlk0 := mLock_lt hI2 r
    refine lv_istore (lv' := [(5, .int (nI (mLock T2 r))), (0, .ref (X.2.2.2 0)), (1, .int (nI r)), (2, .int (nI b)), (3, .int (nI (S 5 b))), (4, .int (nI (S 6 b)))]) hx hb d_M_getProposal_43 hl (by decide) rfl (fun ls hl => ?_)
    refine lv_aload_n hx hb d_M_getProposal_45 rfl (lv_at hl 1 rfl) ?_
    refine x_getM (v := .ref (X.2.2.2 14)) cf hK hP 21 (by decide) w_482 rfl d_M_getProposal_46 ?_
    refine lv_iload_n hx hb d_M_getProposal_49 rfl (lv_at hl 2 rfl) ?_
    refine x_iald (v := (T2 14 r)) cf hK hP (ia14 X) (by omega) rfl d_M_getProposal_50 ?_
    refine lv_iload_n hx hb d_M_getProposal_51 rfl (lv_at hl 4 rfl) ?_
    refine n_icmp_ne (tgt := 92) hx hb d_M_getProposal_52 (by decide) (by have := (show T2 14 r ≤ V ∧ (r < T2 0 1 → 1 ≤ T2 14 r) from hI2.c 14 r); omega) (by have := (show S 5 b + 1 ≤ V from hI.c 5 b); omega) (fun h1 => ?_) (fun h1 => ?_)
    · skip
      exact x_vret cf hr hlk hP hS (by unfold mGetProposal; rw [← hG, if_neg (by unfold mVotes; rw [h25, decide_eq_false (by assumption)]; simp)]) d_M_getProposal_92
    · skip
      refine lv_aload_n hx hb d_M_getProposal_55 rfl (lv_at hl 1 rfl) ?_
      refine x_getM (v := .ref (X.2.2.2 17)) cf hK hP 24 (by decide) w_485 rfl d_M_getProposal_56 ?_
      refine lv_iload_n hx hb d_M_getProposal_59 rfl (lv_at hl 2 rfl) ?_
      refine x_iald (v := (T2 17 r)) cf hK hP (ia17 X) (by omega) rfl d_M_getProposal_60 ?_
      refine lv_iload_n hx hb d_M_getProposal_61 rfl (lv_at hl 4 rfl) ?_
      refine n_icmp_ge (tgt := 92) hx hb d_M_getProposal_62 (by decide) (by have := (show T2 17 r ≤ V from hI2.c 17 r); omega) (by have := (show S 5 b + 1 ≤ V from hI.c 5 b); omega) (fun h2 => ?_) (fun h2 => ?_)
      · skip
        exact x_vret cf hr hlk hP hS (by unfold mGetProposal; rw [← hG, if_neg (by unfold mVotes; rw [h25, decide_eq_false (p := T2 17 r < S 5 b) (by omega)]; simp)]) d_M_getProposal_92
      · skip
        refine lv_aload_n hx hb d_M_getProposal_65 rfl (lv_at hl 1 rfl) ?_
        refine lv_iload hx hb d_M_getProposal_66 (lv_at hl 0 rfl) ?_
        refine lv_iload_n hx hb d_M_getProposal_68 rfl (lv_at hl 3 rfl) ?_
        refine x_callVi (As := [.int (nI (mLock T2 r)), .int (nI b)]) (rest := []) cf hK hN hP hS (k_M_inChain l hX hI2 (by omega) (by omega)) (cw_M_inChain cf.2.2.2.2 w_627 ⟨Nat.le_of_ble_eq_true rfl, Nat.le_of_ble_eq_true rfl⟩) (rv_M hK hP) hl.1 rfl rfl (Nat.le_of_ble_eq_true rfl) ⟨Nat.zero_le _, Nat.zero_le _⟩ d_M_getProposal_69 (fun H locs hP hS => ?_)
        have hv2 : mVotes T2 r b = (decide (T2 14 r = S 5 b) && decide (T2 17 r < S 5 b) && (mInC T2 (mLock T2 r) 40 b || decide (T2 5 (mLock T2 r) < T2 5 (S 6 b)))) := by unfold mVotes; rw [h25, h26]
        refine n_if_ne (tgt := 93) hx hb d_M_getProposal_72 (by decide) (tnat_lt _) (fun h3 => ?_) (fun h3 => ?_)
        · skip
          refine lv_aload_n hx hb d_M_getProposal_93 rfl (lv_at hl 1 rfl) ?_
          refine x_getM (v := .ref (X.2.2.2 17)) cf hK hP 24 (by decide) w_485 rfl d_M_getProposal_94 ?_
          refine lv_iload_n hx hb d_M_getProposal_97 rfl (lv_at hl 2 rfl) ?_
          refine lv_iload_n hx hb d_M_getProposal_98 rfl (lv_at hl 4 rfl) ?_
          refine x_iast cf hK hD hP hS (ia17 X) (by omega) d_M_getProposal_99 (fun H locs hP hS => ?_)
          refine lv_aload_n hx hb d_M_getProposal_100 rfl (lv_at hl 1 rfl) ?_
          refine x_getM (v := .ref (X.2.2.2 8)) cf hK hP 13 (by decide) w_474 rfl d_M_getProposal_101 ?_
          refine lv_iload_n hx hb d_M_getProposal_104 rfl (lv_at hl 3 rfl) ?_
          refine lv_dup2_11 hx hb d_M_getProposal_105 rfl rfl ?_
          refine x_iald (v := (T2 8 b)) cf hK hP (ia8 X) (by omega) (by simp [up2_at]) d_M_getProposal_106 ?_
          refine lv_iconst (v := nI 1) hx hb d_M_getProposal_107 (by decide) ?_
          refine lv_iload_n hx hb d_M_getProposal_108 rfl (lv_at hl 2 rfl) ?_
          refine n_ishl hx hb (by omega) (by have := p2_128 r (by omega); omega) d_M_getProposal_109 ?_
          refine n_ior hx hb d_M_getProposal_110 ?_
          refine x_iast cf hK hD hP hS (ia8 X) (by omega) d_M_getProposal_111 (fun H locs hP hS => ?_)
          refine lv_aload_n hx hb d_M_getProposal_112 rfl (lv_at hl 1 rfl) ?_
          refine lv_iload_n hx hb d_M_getProposal_113 rfl (lv_at hl 4 rfl) ?_
          refine lv_iconst (v := nI 1) hx hb d_M_getProposal_114 (by decide) ?_
          refine n_iadd hx hb d_M_getProposal_115 ?_
          refine x_callVi (As := [.int (nI ((S 5 b) + 1))]) (rest := []) cf hK hN hP hS (k_M_leader l hX ((hI2.up (k := 17) (j := r) (v := S 5 b) (by decide) (show S 5 b ≤ V by have := (show S 5 b + 1 ≤ V from hI.c 5 b); omega)).up (k := 8) (j := b) (by decide) (show (T2 8 b ||| 1 * 2 ^ r) < 128 from or_lt128 (hI2.c 8 b) (p2_128 r hr0))) ((S 5 b) + 1) (by have := (show S 5 b + 1 ≤ V from hI.c 5 b); omega)) (cw_M_leader cf.2.2.2.2 w_575 ⟨Nat.le_of_ble_eq_true rfl, Nat.le_of_ble_eq_true rfl⟩) (rv_M hK hP) hl.1 rfl rfl (Nat.le_of_ble_eq_true rfl) ⟨Nat.zero_le _, Nat.zero_le _⟩ d_M_getProposal_116 (fun H locs hP hS => ?_)
          have hle := mLeader_lt hI2 (S 5 b + 1)
          refine lv_istore (lv' := [(6, .int (nI (mLeader (up2 (up2 T2 17 r (S 5 b)) 8 b ((T2 8 b) ||| (1 * (2 ^ r)))) ((S 5 b) + 1)))), (5, .int (nI (mLock T2 r))), (0, .ref (X.2.2.2 0)), (1, .int (nI r)), (2, .int (nI b)), (3, .int (nI (S 5 b))), (4, .int (nI (S 6 b)))]) hx hb d_M_getProposal_119 hl (by decide) rfl (fun ls hl => ?_)
          refine lv_aload_n hx hb d_M_getProposal_121 rfl (lv_at hl 2 rfl) ?_
          refine lv_iconst (v := nI 1) hx hb d_M_getProposal_122 (by decide) ?_
          refine lv_iload_n hx hb d_M_getProposal_123 rfl (lv_at hl 3 rfl) ?_
          refine lv_iload hx hb d_M_getProposal_124 (lv_at hl 0 rfl) ?_
          refine lv_iload_n hx hb d_M_getProposal_126 rfl (lv_at hl 4 rfl) ?_
          refine lv_iconst (v := nI 0) hx hb d_M_getProposal_127 (by decide) ?_
          refine x_callVv (As := [.int (nI 1), .int (nI r), .int (nI (mLeader (up2 (up2 T2 17 r (S 5 b)) 8 b ((T2 8 b) ||| (1 * (2 ^ r)))) ((S 5 b) + 1))), .int (nI b), .int (nI 0)]) (rest := []) cf hK hN hP hS (k_M_send l hX ((hI2.up (k := 17) (j := r) (v := S 5 b) (by decide) (show S 5 b ≤ V by have := (show S 5 b + 1 ≤ V from hI.c 5 b); omega)).up (k := 8) (j := b) (by decide) (show (T2 8 b ||| 1 * 2 ^ r) < 128 from or_lt128 (hI2.c 8 b) (p2_128 r hr0))) 1 r (mLeader (up2 (up2 T2 17 r (S 5 b)) 8 b ((T2 8 b) ||| (1 * (2 ^ r)))) ((S 5 b) + 1)) b 0) (cw_M_send cf.2.2.2.2 w_591 ⟨Nat.le_of_ble_eq_true rfl, Nat.le_of_ble_eq_true rfl⟩) (rv_M hK hP) hl.1 rfl rfl (Nat.le_of_ble_eq_true rfl) ⟨Nat.zero_le _, Nat.zero_le _⟩ d_M_getProposal_128 (fun H locs hP hS => ?_)
          exact x_vret cf hr hlk hP hS (by unfold mGetProposal; rw [← hG, if_pos (by rw [hv2, tnat_1 (b := mInC T2 (mLock T2 r) 40 b) (by assumption), decide_eq_true (p := T2 14 r = S 5 b) (by omega), decide_eq_true (p := T2 17 r < S 5 b) (by omega)]; rfl)]; rfl) d_M_getProposal_131
        · skip
          refine lv_aload_n hx hb d_M_getProposal_75 rfl (lv_at hl 1 rfl) ?_
          refine x_getM (v := .ref (X.2.2.2 5)) cf hK hP 10 (by decide) w_471 rfl d_M_getProposal_76 ?_
          refine lv_iload hx hb d_M_getProposal_79 (lv_at hl 5 rfl) ?_
          refine x_iald (v := (T2 5 (S 6 b))) cf hK hP (ia5 X) (by have := (show S 6 b < 40 from hI.c 6 b); omega) rfl d_M_getProposal_81 ?_
          refine lv_aload_n hx hb d_M_getProposal_82 rfl (lv_at hl 1 rfl) ?_
          refine x_getM (v := .ref (X.2.2.2 5)) cf hK hP 10 (by decide) w_471 rfl d_M_getProposal_83 ?_
          refine lv_iload hx hb d_M_getProposal_86 (lv_at hl 0 rfl) ?_
          refine x_iald (v := (T2 5 (mLock T2 r))) cf hK hP (ia5 X) (by omega) rfl d_M_getProposal_88 ?_
          refine n_icmp_gt (tgt := 93) hx hb d_M_getProposal_89 (by decide) (by have := (show S 6 b < 40 from hI.c 6 b); have := (show T2 5 (S 6 b) + 1 ≤ V from hI2.c 5 (S 6 b)); omega) (by have := (show T2 5 (mLock T2 r) + 1 ≤ V from hI2.c 5 (mLock T2 r)); omega) (fun h4 => ?_) (fun h4 => ?_)
          · skip
            refine lv_aload_n hx hb d_M_getProposal_93 rfl (lv_at hl 1 rfl) ?_
            refine x_getM (v := .ref (X.2.2.2 17)) cf hK hP 24 (by decide) w_485 rfl d_M_getProposal_94 ?_
            refine lv_iload_n hx hb d_M_getProposal_97 rfl (lv_at hl 2 rfl) ?_
            refine lv_iload_n hx hb d_M_getProposal_98 rfl (lv_at hl 4 rfl) ?_
            refine x_iast cf hK hD hP hS (ia17 X) (by omega) d_M_getProposal_99 (fun H locs hP hS => ?_)
            refine lv_aload_n hx hb d_M_getProposal_100 rfl (lv_at hl 1 rfl) ?_
            refine x_getM (v := .ref (X.2.2.2 8)) cf hK hP 13 (by decide) w_474 rfl d_M_getProposal_101 ?_
            refine lv_iload_n hx hb d_M_getProposal_104 rfl (lv_at hl 3 rfl) ?_
            refine lv_dup2_11 hx hb d_M_getProposal_105 rfl rfl ?_
            refine x_iald (v := (T2 8 b)) cf hK hP (ia8 X) (by omega) (by simp [up2_at]) d_M_getProposal_106 ?_
            refine lv_iconst (v := nI 1) hx hb d_M_getProposal_107 (by decide) ?_
            refine lv_iload_n hx hb d_M_getProposal_108 rfl (lv_at hl 2 rfl) ?_
            refine n_ishl hx hb (by omega) (by have := p2_128 r (by omega); omega) d_M_getProposal_109 ?_
            refine n_ior hx hb d_M_getProposal_110 ?_
            refine x_iast cf hK hD hP hS (ia8 X) (by omega) d_M_getProposal_111 (fun H locs hP hS => ?_)
            refine lv_aload_n hx hb d_M_getProposal_112 rfl (lv_at hl 1 rfl) ?_
            refine lv_iload_n hx hb d_M_getProposal_113 rfl (lv_at hl 4 rfl) ?_
            refine lv_iconst (v := nI 1) hx hb d_M_getProposal_114 (by decide) ?_
            refine n_iadd hx hb d_M_getProposal_115 ?_
            refine x_callVi (As := [.int (nI ((S 5 b) + 1))]) (rest := []) cf hK hN hP hS (k_M_leader l hX ((hI2.up (k := 17) (j := r) (v := S 5 b) (by decide) (show S 5 b ≤ V by have := (show S 5 b + 1 ≤ V from hI.c 5 b); omega)).up (k := 8) (j := b) (by decide) (show (T2 8 b ||| 1 * 2 ^ r) < 128 from or_lt128 (hI2.c 8 b) (p2_128 r hr0))) ((S 5 b) + 1) (by have := (show S 5 b + 1 ≤ V from hI.c 5 b); omega)) (cw_M_leader cf.2.2.2.2 w_575 ⟨Nat.le_of_ble_eq_true rfl, Nat.le_of_ble_eq_true rfl⟩) (rv_M hK hP) hl.1 rfl rfl (Nat.le_of_ble_eq_true rfl) ⟨Nat.zero_le _, Nat.zero_le _⟩ d_M_getProposal_116 (fun H locs hP hS => ?_)
            have hle := mLeader_lt hI2 (S 5 b + 1)
            refine lv_istore (lv' := [(6, .int (nI (mLeader (up2 (up2 T2 17 r (S 5 b)) 8 b ((T2 8 b) ||| (1 * (2 ^ r)))) ((S 5 b) + 1)))), (5, .int (nI (mLock T2 r))), (0, .ref (X.2.2.2 0)), (1, .int (nI r)), (2, .int (nI b)), (3, .int (nI (S 5 b))), (4, .int (nI (S 6 b)))]) hx hb d_M_getProposal_119 hl (by decide) rfl (fun ls hl => ?_)
            refine lv_aload_n hx hb d_M_getProposal_121 rfl (lv_at hl 2 rfl) ?_
            refine lv_iconst (v := nI 1) hx hb d_M_getProposal_122 (by decide) ?_
            refine lv_iload_n hx hb d_M_getProposal_123 rfl (lv_at hl 3 rfl) ?_
            refine lv_iload hx hb d_M_getProposal_124 (lv_at hl 0 rfl) ?_
            refine lv_iload_n hx hb d_M_getProposal_126 rfl (lv_at hl 4 rfl) ?_
            refine lv_iconst (v := nI 0) hx hb d_M_getProposal_127 (by decide) ?_
            refine x_callVv (As := [.int (nI 1), .int (nI r), .int (nI (mLeader (up2 (up2 T2 17 r (S 5 b)) 8 b ((T2 8 b) ||| (1 * (2 ^ r)))) ((S 5 b) + 1))), .int (nI b), .int (nI 0)]) (rest := []) cf hK hN hP hS (k_M_send l hX ((hI2.up (k := 17) (j := r) (v := S 5 b) (by decide) (show S 5 b ≤ V by have := (show S 5 b + 1 ≤ V from hI.c 5 b); omega)).up (k := 8) (j := b) (by decide) (show (T2 8 b ||| 1 * 2 ^ r) < 128 from or_lt128 (hI2.c 8 b) (p2_128 r hr0))) 1 r (mLeader (up2 (up2 T2 17 r (S 5 b)) 8 b ((T2 8 b) ||| (1 * (2 ^ r)))) ((S 5 b) + 1)) b 0) (cw_M_send cf.2.2.2.2 w_591 ⟨Nat.le_of_ble_eq_true rfl, Nat.le_of_ble_eq_true rfl⟩) (rv_M hK hP) hl.1 rfl rfl (Nat.le_of_ble_eq_true rfl) ⟨Nat.zero_le _, Nat.zero_le _⟩ d_M_getProposal_128 (fun H locs hP hS => ?_)
            exact x_vret cf hr hlk hP hS (by unfold mGetProposal; rw [← hG, if_pos (by rw [hv2, decide_eq_true (p := T2 14 r = S 5 b) (by omega), decide_eq_true (p := T2 17 r < S 5 b) (by omega), decide_eq_true (p := T2 5 (mLock T2 r) < T2 5 (S 6 b)) (by omega)]; simp)]; rfl) d_M_getProposal_131
          · skip
            exact x_vret cf hr hlk hP hS (by unfold mGetProposal; rw [← hG, if_neg (by rw [hv2, tnat_0 (b := mInC T2 (mLock T2 r) 40 b) (by assumption), decide_eq_false (p := T2 5 (mLock T2 r) < T2 5 (S 6 b)) (by omega)]; simp)]) d_M_getProposal_92
  refine lv_aload_n hx hb d_M_getProposal_22 rfl (lv_at hl 2 rfl) ?_
  refine x_getM (v := .ref (X.2.2.2 14)) cf hK hP 21 (by decide) w_482 rfl d_M_getProposal_23 ?_
  refine lv_iload_n hx hb d_M_getProposal_26 rfl (lv_at hl 3 rfl) ?_
  refine x_iald (v := (T1 14 r)) cf hK hP (ia14 X) (by omega) rfl d_M_getProposal_27 ?_
  refine lv_iload_n hx hb d_M_getProposal_28 rfl (lv_at hl 1 rfl) ?_
  refine n_icmp_ge (tgt := 38) hx hb d_M_getProposal_29 (by decide) (by have := (show T1 14 r ≤ V ∧ (r < T1 0 1 → 1 ≤ T1 14 r) from hI1.c 14 r); omega) (by have := (show S 5 b + 1 ≤ V from hI.c 5 b); omega) (fun h5 => ?_) (fun h5 => ?_)
  · skip
    exact cut38 T1 ls H locs (lv_sub hl [2, 3, 4, 1, 0] rfl) hP hS (hI1) (by unfold mGP1; rw [← hT1, if_neg (by omega)]) (by rw [hT1]; exact mSee_ne (by decide) (by decide) (by decide) (by decide)) (by rw [hT1]; exact mSee_ne (by decide) (by decide) (by decide) (by decide))
  · skip
    refine lv_aload_n hx hb d_M_getProposal_32 rfl (lv_at hl 2 rfl) ?_
    refine lv_iload_n hx hb d_M_getProposal_33 rfl (lv_at hl 3 rfl) ?_
    refine lv_iload_n hx hb d_M_getProposal_34 rfl (lv_at hl 1 rfl) ?_
    refine x_callVv (As := [.int (nI r), .int (nI (S 5 b))]) (rest := []) cf hK hN hP hS (k_M_enter l hX hI1 (by omega)) (cw_M_enter cf.2.2.2.2 w_599 ⟨Nat.le_of_ble_eq_true rfl, Nat.le_of_ble_eq_true rfl⟩) (rv_M hK hP) hl.1 rfl rfl (Nat.le_of_ble_eq_true rfl) ⟨Nat.zero_le _, Nat.zero_le _⟩ d_M_getProposal_35 (fun H locs hP hS => ?_)
    obtain ⟨T3, hT3⟩ : ∃ z, z = (mEnter T1 r (S 5 b)) := ⟨_, rfl⟩
    rw [← hT3] at hP
    have hI3 : IW V T3 := by rw [hT3]; exact hI1.enter (by omega) (by have := (show S 5 b + 1 ≤ V from hI.c 5 b); omega)
    exact cut38 T3 ls H locs (lv_sub hl [2, 3, 4, 1, 0] rfl) hP hS (hI3) (by unfold mGP1; rw [← hT1, if_pos (by omega)]; exact hT3) (by rw [hT3, hT1, mEnter_ne (by decide) (by decide)]; exact mSee_ne (by decide) (by decide) (by decide) (by decide)) (by rw [hT3, hT1, mEnter_ne (by decide) (by decide)]; exact mSee_ne (by decide) (by decide) (by decide) (by decide))
set_option maxRecDepth 100000 in
set_option maxHeartbeats 4000000 in
theorem k_M_getVote (l : Launch) {X : WX} (hX : xInj X) {S : Nat → Nat → Nat} {V : Nat} (hI : IW V S) {r : Nat} (hr0 : r < 7) {x b : Nat} (hx0 : x < 7) (hb0 : b < 40) : MetV l X y_M_getVote (Cond.code y_M_getVote c_M_getVote 4 none :: Mst) 2 [.ref (X.2.2.2 0), .int (nI r), .int (nI x), .int (nI b)] S (mGetVote S r x b) := by
  refine MetV.of (by decide) (Nat.le_of_ble_eq_true rfl) ?_
  intro p e s m args below meth c cf hr hlk hP hK hN ls hl
  have hl : lv_has ls 4 [(0, .ref (X.2.2.2 0)), (1, .int (nI r)), (2, .int (nI x)), (3, .int (nI b))] := hl
  have hx := cf.1
  have hb := cf.2.1
  have hD := xD_of hX
  have hS : va_S (xA X) s.heap s.heap [] := va_S.rf
  have hf := hI.f
  have hn := hI.n
  have hk := hI.k
  have hcs := hI.cs
  have ht := hI.t
  have hbl := hI.b
  have hm := hI.m
  have hV := hI.V
  obtain ⟨H, hH⟩ : ∃ H, H = s.heap := ⟨_, rfl⟩
  obtain ⟨locs, hlo⟩ : ∃ z : List Loc, z = [] := ⟨_, rfl⟩
  suffices hgo : PW X S H → va_S (xA X) s.heap H locs → W p l e (rmd 2) s m args below meth c H locs 0 0 (MQ below (QcV X (mGetVote S r x b)) args s 0 0 (xA X)) (F0 m 0 ls []) by
    subst hH
    subst hlo
    exact hgo hP hS
  clear hP hS
  intro hP hS
  refine lv_aload_n hx hb d_M_getVote_0 rfl (lv_at hl 0 rfl) ?_
  refine x_getM (v := .ref (X.2.2.2 20)) cf hK hP 27 (by decide) w_488 rfl d_M_getVote_1 ?_
  refine lv_bipush (v := nI 40) hx hb d_M_getVote_4 (by decide) ?_
  refine lv_iload_n hx hb d_M_getVote_6 rfl (lv_at hl 1 rfl) ?_
  refine n_imul hx hb d_M_getVote_7 ?_
  refine lv_iload_n hx hb d_M_getVote_8 rfl (lv_at hl 3 rfl) ?_
  refine n_iadd hx hb d_M_getVote_9 ?_
  refine lv_dup2_11 hx hb d_M_getVote_10 rfl rfl ?_
  refine x_iald (v := (S 20 ((40 * r) + b))) cf hK hP (ia20 X) (by omega) rfl d_M_getVote_11 ?_
  refine lv_iconst (v := nI 1) hx hb d_M_getVote_12 (by decide) ?_
  refine lv_iload_n hx hb d_M_getVote_13 rfl (lv_at hl 2 rfl) ?_
  refine n_ishl hx hb (by omega) (by have := p2_128 x (by omega); omega) d_M_getVote_14 ?_
  refine n_ior hx hb d_M_getVote_15 ?_
  refine x_iast cf hK hD hP hS (ia20 X) (by omega) d_M_getVote_16 (fun H locs hP hS => ?_)
  refine lv_aload_n hx hb d_M_getVote_17 rfl (lv_at hl 0 rfl) ?_
  refine x_getM (v := .ref (X.2.2.2 20)) cf hK hP 27 (by decide) w_488 rfl d_M_getVote_18 ?_
  refine lv_bipush (v := nI 40) hx hb d_M_getVote_21 (by decide) ?_
  refine lv_iload_n hx hb d_M_getVote_23 rfl (lv_at hl 1 rfl) ?_
  refine n_imul hx hb d_M_getVote_24 ?_
  refine lv_iload_n hx hb d_M_getVote_25 rfl (lv_at hl 3 rfl) ?_
  refine n_iadd hx hb d_M_getVote_26 ?_
  refine x_iald (v := ((S 20 ((40 * r) + b)) ||| (1 * (2 ^ x)))) cf hK hP (ia20 X) (by omega) (by simp [up2_at]) d_M_getVote_27 ?_
  refine x_callSi (As := [.int (nI ((S 20 ((40 * r) + b)) ||| (1 * (2 ^ x))))]) (rest := []) cf hK hN hP hS (k_M_size l hX ((S 20 ((40 * r) + b)) ||| (1 * (2 ^ x))) (Nat.lt_trans (or_lt128 (hI.c 20 (40 * r + b)) (p2_128 x hx0)) (by decide))) (cw_M_size cf.2.2.2.2 w_635 ⟨Nat.le_of_ble_eq_true rfl, Nat.le_of_ble_eq_true rfl⟩) hl.1 rfl rfl (Nat.le_of_ble_eq_true rfl) ⟨Nat.zero_le _, Nat.zero_le _⟩ d_M_getVote_28 (fun H locs hP hS => ?_)
  have hsz := mSize_le (S 20 (40 * r + b) ||| 1 * 2 ^ x)
  refine lv_iconst (v := nI 2) hx hb d_M_getVote_31 (by decide) ?_
  refine lv_aload_n hx hb d_M_getVote_32 rfl (lv_at hl 0 rfl) ?_
  refine x_getM (v := .int (nI (S 0 0))) cf hK hP 0 (by decide) w_461 rfl d_M_getVote_33 ?_
  refine n_imul hx hb d_M_getVote_36 ?_
  refine lv_iconst (v := nI 1) hx hb d_M_getVote_37 (by decide) ?_
  refine n_iadd hx hb d_M_getVote_38 ?_
  refine n_icmp_lt (tgt := 48) hx hb d_M_getVote_39 (by decide) (by omega) (by omega) (fun h1 => ?_) (fun h1 => ?_)
  · skip
    exact x_vret cf hr hlk hP hS (by unfold mGetVote; rw [if_neg (by omega)]) d_M_getVote_48
  · skip
    refine lv_aload_n hx hb d_M_getVote_42 rfl (lv_at hl 0 rfl) ?_
    refine lv_iload_n hx hb d_M_getVote_43 rfl (lv_at hl 1 rfl) ?_
    refine lv_iload_n hx hb d_M_getVote_44 rfl (lv_at hl 3 rfl) ?_
    refine x_callVv (As := [.int (nI r), .int (nI b)]) (rest := []) cf hK hN hP hS (k_M_see l hX (hI.up (k := 20) (j := 40 * r + b) (by decide) (show (S 20 (40 * r + b) ||| 1 * 2 ^ x) < 128 from or_lt128 (hI.c 20 (40 * r + b)) (p2_128 x hx0))) (by omega) (by omega)) (cw_M_see cf.2.2.2.2 w_619 ⟨Nat.le_of_ble_eq_true rfl, Nat.le_of_ble_eq_true rfl⟩) (rv_M hK hP) hl.1 rfl rfl (Nat.le_of_ble_eq_true rfl) ⟨Nat.zero_le _, Nat.zero_le _⟩ d_M_getVote_45 (fun H locs hP hS => ?_)
    exact x_vret cf hr hlk hP hS (by unfold mGetVote; rw [if_pos (by omega)]) d_M_getVote_48
set_option maxRecDepth 100000 in
set_option maxHeartbeats 4000000 in
theorem k_M_getNewView (l : Launch) {X : WX} (hX : xInj X) {S : Nat → Nat → Nat} {V : Nat} (hI : IW V S) {r : Nat} (hr0 : r < 7) {x b v : Nat} (hx0 : x < 7) (hb0 : b < 40) (hv0 : v < 2147483648) (hvc : S 0 3 / 2 ^ x % 2 = 0 → v ≤ V) : MetV l X y_M_getNewView (Cond.code y_M_getNewView c_M_getNewView 6 none :: Mst) 2 [.ref (X.2.2.2 0), .int (nI r), .int (nI x), .int (nI b), .int (nI v)] S (mGetNewView S r x b v) := by
  refine MetV.of (by decide) (Nat.le_of_ble_eq_true rfl) ?_
  intro p e s m args below meth c cf hr hlk hP hK hN ls hl
  have hl : lv_has ls 6 [(0, .ref (X.2.2.2 0)), (1, .int (nI r)), (2, .int (nI x)), (3, .int (nI b)), (4, .int (nI v))] := hl
  have hx := cf.1
  have hb := cf.2.1
  have hD := xD_of hX
  have hS : va_S (xA X) s.heap s.heap [] := va_S.rf
  have hf := hI.f
  have hn := hI.n
  have hk := hI.k
  have hcs := hI.cs
  have ht := hI.t
  have hbl := hI.b
  have hm := hI.m
  have hV := hI.V
  obtain ⟨H, hH⟩ : ∃ H, H = s.heap := ⟨_, rfl⟩
  obtain ⟨locs, hlo⟩ : ∃ z : List Loc, z = [] := ⟨_, rfl⟩
  suffices hgo : PW X S H → va_S (xA X) s.heap H locs → W p l e (rmd 2) s m args below meth c H locs 0 0 (MQ below (QcV X (mGetNewView S r x b v)) args s 0 0 (xA X)) (F0 m 0 ls []) by
    subst hH
    subst hlo
    exact hgo hP hS
  clear hP hS
  intro hP hS
  refine lv_aload_n hx hb d_M_getNewView_0 rfl (lv_at hl 0 rfl) ?_
  refine lv_iload_n hx hb d_M_getNewView_1 rfl (lv_at hl 1 rfl) ?_
  refine lv_iload_n hx hb d_M_getNewView_2 rfl (lv_at hl 3 rfl) ?_
  refine x_callVv (As := [.int (nI r), .int (nI b)]) (rest := []) cf hK hN hP hS (k_M_see l hX hI (by omega) (by omega)) (cw_M_see cf.2.2.2.2 w_619 ⟨Nat.le_of_ble_eq_true rfl, Nat.le_of_ble_eq_true rfl⟩) (rv_M hK hP) hl.1 rfl rfl (Nat.le_of_ble_eq_true rfl) ⟨Nat.zero_le _, Nat.zero_le _⟩ d_M_getNewView_3 (fun H locs hP hS => ?_)
  obtain ⟨T1, hT1⟩ : ∃ z, z = (mSee S r b) := ⟨_, rfl⟩
  rw [← hT1] at hP
  have hI1 : IW V T1 := by rw [hT1]; exact hI.see
  have cut35 : ∀ (T2 : Nat → Nat → Nat) (ls : Array Slot) (H : Heap) (locs : List Loc), lv_has ls 6 [(0, .ref (X.2.2.2 0)), (1, .int (nI r)), (2, .int (nI x)), (3, .int (nI b)), (4, .int (nI v))] → PW X T2 H → va_S (xA X) s.heap H locs → (IW V T2) → (T2 = mGN1 S r x b v) → W p l e (rmd 2) s m args below meth c H locs 0 0 (MQ below (QcV X (mGetNewView S r x b v)) args s 0 0 (xA X)) (F0 m 35 ls []) := by
    intro T2 ls H locs hl hP hS hI2 hG
    refine lv_aload_n hx hb d_M_getNewView_35 rfl (lv_at hl 0 rfl) ?_
    refine lv_iload_n hx hb d_M_getNewView_36 rfl (lv_at hl 1 rfl) ?_
    refine x_callVi (As := [.int (nI r)]) (rest := []) cf hK hN hP hS (k_M_push l hX hI2 (by omega)) (cw_M_push cf.2.2.2.2 w_583 ⟨Nat.le_of_ble_eq_true rfl, Nat.le_of_ble_eq_true rfl⟩) (rv_M hK hP) hl.1 rfl rfl (Nat.le_of_ble_eq_true rfl) ⟨Nat.zero_le _, Nat.zero_le _⟩ d_M_getNewView_37 (fun H locs hP hS => ?_)
    have hpu := mPush_lt hI2 r
    refine lv_istore (lv' := [(5, .int (nI (mPush T2 r))), (0, .ref (X.2.2.2 0)), (1, .int (nI r)), (2, .int (nI x)), (3, .int (nI b)), (4, .int (nI v))]) hx hb d_M_getNewView_40 hl (by decide) rfl (fun ls hl => ?_)
    refine lv_iload hx hb d_M_getNewView_42 (lv_at hl 0 rfl) ?_
    refine lv_aload_n hx hb d_M_getNewView_44 rfl (lv_at hl 1 rfl) ?_
    refine x_getM (v := .ref (X.2.2.2 14)) cf hK hP 21 (by decide) w_482 rfl d_M_getNewView_45 ?_
    refine lv_iload_n hx hb d_M_getNewView_48 rfl (lv_at hl 2 rfl) ?_
    refine x_iald (v := (T2 14 r)) cf hK hP (ia14 X) (by omega) rfl d_M_getNewView_49 ?_
    refine n_icmp_le (tgt := 60) hx hb d_M_getNewView_50 (by decide) (by omega) (by have := (show T2 14 r ≤ V ∧ (r < T2 0 1 → 1 ≤ T2 14 r) from hI2.c 14 r); omega) (fun h1 => ?_) (fun h1 => ?_)
    · skip
      exact x_vret cf hr hlk hP hS (by unfold mGetNewView; rw [← hG, if_neg (by omega)]) d_M_getNewView_60
    · skip
      refine lv_aload_n hx hb d_M_getNewView_53 rfl (lv_at hl 1 rfl) ?_
      refine lv_iload_n hx hb d_M_getNewView_54 rfl (lv_at hl 2 rfl) ?_
      refine lv_iload hx hb d_M_getNewView_55 (lv_at hl 0 rfl) ?_
      refine x_callVv (As := [.int (nI r), .int (nI (mPush T2 r))]) (rest := []) cf hK hN hP hS (k_M_enter l hX hI2 (by omega)) (cw_M_enter cf.2.2.2.2 w_599 ⟨Nat.le_of_ble_eq_true rfl, Nat.le_of_ble_eq_true rfl⟩) (rv_M hK hP) hl.1 rfl rfl (Nat.le_of_ble_eq_true rfl) ⟨Nat.zero_le _, Nat.zero_le _⟩ d_M_getNewView_57 (fun H locs hP hS => ?_)
      exact x_vret cf hr hlk hP hS (by unfold mGetNewView; rw [← hG, if_pos (by omega)]) d_M_getNewView_60
  refine lv_aload_n hx hb d_M_getNewView_6 rfl (lv_at hl 0 rfl) ?_
  refine x_getM (v := .ref (X.2.2.2 21)) cf hK hP 28 (by decide) w_489 rfl d_M_getNewView_7 ?_
  refine lv_bipush (v := nI 7) hx hb d_M_getNewView_10 (by decide) ?_
  refine lv_iload_n hx hb d_M_getNewView_12 rfl (lv_at hl 1 rfl) ?_
  refine n_imul hx hb d_M_getNewView_13 ?_
  refine lv_iload_n hx hb d_M_getNewView_14 rfl (lv_at hl 2 rfl) ?_
  refine n_iadd hx hb d_M_getNewView_15 ?_
  refine x_iald (v := (T1 21 ((7 * r) + x))) cf hK hP (ia21 X) (by omega) rfl d_M_getNewView_16 ?_
  refine lv_iload hx hb d_M_getNewView_17 (lv_at hl 4 rfl) ?_
  refine n_icmp_ge (tgt := 35) hx hb d_M_getNewView_19 (by decide) (by have := (show T1 21 ((7 * r) + x) < 2147483648 ∧ (((7 * r) + x) < 49 → T1 0 3 / 2 ^ (((7 * r) + x) % 7) % 2 = 0 → T1 21 ((7 * r) + x) ≤ V) from hI1.c 21 ((7 * r) + x)).1; omega) (by omega) (fun h2 => ?_) (fun h2 => ?_)
  · skip
    exact cut35 T1 ls H locs hl hP hS (hI1) (by unfold mGN1; rw [← hT1, if_neg (by omega)])
  · skip
    refine lv_aload_n hx hb d_M_getNewView_22 rfl (lv_at hl 0 rfl) ?_
    refine x_getM (v := .ref (X.2.2.2 21)) cf hK hP 28 (by decide) w_489 rfl d_M_getNewView_23 ?_
    refine lv_bipush (v := nI 7) hx hb d_M_getNewView_26 (by decide) ?_
    refine lv_iload_n hx hb d_M_getNewView_28 rfl (lv_at hl 1 rfl) ?_
    refine n_imul hx hb d_M_getNewView_29 ?_
    refine lv_iload_n hx hb d_M_getNewView_30 rfl (lv_at hl 2 rfl) ?_
    refine n_iadd hx hb d_M_getNewView_31 ?_
    refine lv_iload hx hb d_M_getNewView_32 (lv_at hl 4 rfl) ?_
    refine x_iast cf hK hD hP hS (ia21 X) (by omega) d_M_getNewView_34 (fun H locs hP hS => ?_)
    exact cut35 (up2 T1 21 ((7 * r) + x) v) ls H locs hl hP hS (hI1.up (k := 21) (by decide) ⟨hv0, fun _ q => hvc (by rw [show (7 * r + x) % 7 = x by omega, show T1 0 = S 0 by rw [hT1]; exact mSee_ne (by decide) (by decide) (by decide) (by decide)] at q; exact q)⟩) (by unfold mGN1; rw [← hT1, if_pos (by omega)])
