theorem mCorrect_nI {S : Nat → Nat → Nat} {j : Nat} (hn : S 0 1 < 2 ^ 31) (hj : j < S 0 1) : mCorrect S (nI j) = decide (S 0 3 / 2 ^ j % 2 = 0) := by
  have h1 : mRep S (nI j) = true := by
    simp only [mRep, nI_toInt (show j < 2 ^ 31 by omega), Bool.and_eq_true, decide_eq_true_eq]
    omega
  simp only [mCorrect, h1, Bool.true_and, nI_clamp (show j < 2 ^ 31 by omega)]
theorem mCorrupt_nI {S : Nat → Nat → Nat} {j : Nat} (hn : S 0 1 < 2 ^ 31) (hj : j < S 0 1) : mCorrupt S (nI j) = decide (S 0 3 / 2 ^ j % 2 = 1) := by
  have h1 : mRep S (nI j) = true := by
    simp only [mRep, nI_toInt (show j < 2 ^ 31 by omega), Bool.and_eq_true, decide_eq_true_eq]
    omega
  simp only [mCorrupt, h1, Bool.true_and, nI_clamp (show j < 2 ^ 31 by omega)]
theorem mCorrect_f {S : Nat → Nat → Nat} {r : Int32} (h : mRep S r = false) : mCorrect S r = false := by simp [mCorrect, h]
theorem mCorrupt_f {S : Nat → Nat → Nat} {r : Int32} (h : mRep S r = false) : mCorrupt S r = false := by simp [mCorrupt, h]
theorem or_lt128 {a b : Nat} (ha : a < 128) (hb : b < 128) : a ||| b < 128 := Nat.or_lt_two_pow (n := 7) ha hb
set_option maxRecDepth 100000 in
set_option maxHeartbeats 4000000 in
theorem k_M_isCorrect (l : Launch) {X : WX} (hX : xInj X) {S : Nat → Nat → Nat} {V : Nat} (hI : IW V S) (r : Int32) : MetI l X y_M_isCorrect (Cond.code y_M_isCorrect c_M_isCorrect 2 (some .boolean) :: Mst) 1 [.ref (X.2.2.2 0), .int r] S (nI (mCorrect S r).toNat) S := by
  refine MetI.of (by decide) (Nat.le_of_ble_eq_true rfl) ?_
  intro p e s m args below meth c cf hr hlk hP hK hN ls hl
  have hl : lv_has ls 2 [(0, .ref (X.2.2.2 0)), (1, .int r)] := hl
  have hx := cf.1
  have hb := cf.2.1
  have hD := xD_of hX
  have hS : va_S (xA X) s.heap s.heap [] := va_S.rf
  have hf := hI.f
  have hn := hI.n
  have hk := hI.k
  have hcs := hI.cs
  have ht := hI.t
  have hbl := hI.b
  have hm := hI.m
  have hV := hI.V
  obtain ⟨H, hH⟩ : ∃ H, H = s.heap := ⟨_, rfl⟩
  obtain ⟨locs, hlo⟩ : ∃ z : List Loc, z = [] := ⟨_, rfl⟩
  suffices hgo : PW X S H → va_S (xA X) s.heap H locs → W p l e (rmd 1) s m args below meth c H locs 0 0 (MQ below (QcI X (nI (mCorrect S r).toNat) S) args s 0 0 (xA X)) (F0 m 0 ls []) by
    subst hH
    subst hlo
    exact hgo hP hS
  clear hP hS
  intro hP hS
  refine lv_aload_n hx hb d_M_isCorrect_0 rfl (lv_at hl 0 rfl) ?_
  refine lv_iload_n hx hb d_M_isCorrect_1 rfl (lv_at hl 1 rfl) ?_
  refine x_callVi (As := [.int r]) (rest := []) cf hK hN hP hS (k_M_isReplica l hX hI r) (cw_M_isReplica cf.2.2.2.2 w_571 ⟨Nat.le_of_ble_eq_true rfl, Nat.le_of_ble_eq_true rfl⟩) (rv_M hK hP) hl.1 rfl rfl (Nat.le_of_ble_eq_true rfl) ⟨Nat.zero_le _, Nat.zero_le _⟩ d_M_isCorrect_2 (fun H locs hP hS => ?_)
  refine n_if_eq (tgt := 23) hx hb d_M_isCorrect_5 (by decide) (tnat_lt _) (fun h1 => ?_) (fun h1 => ?_)
  · skip
    refine lv_iconst (v := nI 0) hx hb d_M_isCorrect_23 (by decide) ?_
    exact x_zret cf hr hlk hP hS (by rw [mCorrect_f (tnat_0 h1)]; rfl) (rfl) d_M_isCorrect_24
  · skip
    obtain ⟨j, hj, rfl⟩ := mRep_nI (by omega) (tnat_1 h1)
    refine lv_aload_n hx hb d_M_isCorrect_8 rfl (lv_at hl 0 rfl) ?_
    refine x_getM (v := .int (nI (S 0 3))) cf hK hP 3 (by decide) w_464 rfl d_M_isCorrect_9 ?_
    refine lv_iload_n hx hb d_M_isCorrect_12 rfl (lv_at hl 1 rfl) ?_
    refine n_ishr hx hb (by omega) (by omega) d_M_isCorrect_13 ?_
    refine lv_iconst (v := nI 1) hx hb d_M_isCorrect_14 (by decide) ?_
    refine n_and1 hx hb d_M_isCorrect_15 ?_
    refine n_if_ne (tgt := 23) hx hb d_M_isCorrect_16 (by decide) (by have := Nat.div_le_self (S 0 3) (2 ^ j); omega) (fun h2 => ?_) (fun h2 => ?_)
    · skip
      refine lv_iconst (v := nI 0) hx hb d_M_isCorrect_23 (by decide) ?_
      exact x_zret cf hr hlk hP hS (by rw [mCorrect_nI (by omega) hj, decide_eq_false (by omega)]; rfl) (rfl) d_M_isCorrect_24
    · skip
      refine lv_iconst (v := nI 1) hx hb d_M_isCorrect_19 (by decide) ?_
      refine lv_goto (tgt := 24) hx hb d_M_isCorrect_20 (by decide) ?_
      exact x_zret cf hr hlk hP hS (by rw [mCorrect_nI (by omega) hj, decide_eq_true (by omega)]; rfl) (rfl) d_M_isCorrect_24
set_option maxRecDepth 100000 in
set_option maxHeartbeats 4000000 in
theorem k_M_isCorrupt (l : Launch) {X : WX} (hX : xInj X) {S : Nat → Nat → Nat} {V : Nat} (hI : IW V S) (r : Int32) : MetI l X y_M_isCorrupt (Cond.code y_M_isCorrupt c_M_isCorrupt 2 (some .boolean) :: Mst) 1 [.ref (X.2.2.2 0), .int r] S (nI (mCorrupt S r).toNat) S := by
  refine MetI.of (by decide) (Nat.le_of_ble_eq_true rfl) ?_
  intro p e s m args below meth c cf hr hlk hP hK hN ls hl
  have hl : lv_has ls 2 [(0, .ref (X.2.2.2 0)), (1, .int r)] := hl
  have hx := cf.1
  have hb := cf.2.1
  have hD := xD_of hX
  have hS : va_S (xA X) s.heap s.heap [] := va_S.rf
  have hf := hI.f
  have hn := hI.n
  have hk := hI.k
  have hcs := hI.cs
  have ht := hI.t
  have hbl := hI.b
  have hm := hI.m
  have hV := hI.V
  obtain ⟨H, hH⟩ : ∃ H, H = s.heap := ⟨_, rfl⟩
  obtain ⟨locs, hlo⟩ : ∃ z : List Loc, z = [] := ⟨_, rfl⟩
  suffices hgo : PW X S H → va_S (xA X) s.heap H locs → W p l e (rmd 1) s m args below meth c H locs 0 0 (MQ below (QcI X (nI (mCorrupt S r).toNat) S) args s 0 0 (xA X)) (F0 m 0 ls []) by
    subst hH
    subst hlo
    exact hgo hP hS
  clear hP hS
  intro hP hS
  refine lv_aload_n hx hb d_M_isCorrupt_0 rfl (lv_at hl 0 rfl) ?_
  refine lv_iload_n hx hb d_M_isCorrupt_1 rfl (lv_at hl 1 rfl) ?_
  refine x_callVi (As := [.int r]) (rest := []) cf hK hN hP hS (k_M_isReplica l hX hI r) (cw_M_isReplica cf.2.2.2.2 w_571 ⟨Nat.le_of_ble_eq_true rfl, Nat.le_of_ble_eq_true rfl⟩) (rv_M hK hP) hl.1 rfl rfl (Nat.le_of_ble_eq_true rfl) ⟨Nat.zero_le _, Nat.zero_le _⟩ d_M_isCorrupt_2 (fun H locs hP hS => ?_)
  refine n_if_eq (tgt := 24) hx hb d_M_isCorrupt_5 (by decide) (tnat_lt _) (fun h1 => ?_) (fun h1 => ?_)
  · skip
    refine lv_iconst (v := nI 0) hx hb d_M_isCorrupt_24 (by decide) ?_
    exact x_zret cf hr hlk hP hS (by rw [mCorrupt_f (tnat_0 h1)]; rfl) (rfl) d_M_isCorrupt_25
  · skip
    obtain ⟨j, hj, rfl⟩ := mRep_nI (by omega) (tnat_1 h1)
    refine lv_aload_n hx hb d_M_isCorrupt_8 rfl (lv_at hl 0 rfl) ?_
    refine x_getM (v := .int (nI (S 0 3))) cf hK hP 3 (by decide) w_464 rfl d_M_isCorrupt_9 ?_
    refine lv_iload_n hx hb d_M_isCorrupt_12 rfl (lv_at hl 1 rfl) ?_
    refine n_ishr hx hb (by omega) (by omega) d_M_isCorrupt_13 ?_
    refine lv_iconst (v := nI 1) hx hb d_M_isCorrupt_14 (by decide) ?_
    refine n_and1 hx hb d_M_isCorrupt_15 ?_
    refine lv_iconst (v := nI 1) hx hb d_M_isCorrupt_16 (by decide) ?_
    refine n_icmp_ne (tgt := 24) hx hb d_M_isCorrupt_17 (by decide) (by have := Nat.div_le_self (S 0 3) (2 ^ j); omega) (by decide) (fun h2 => ?_) (fun h2 => ?_)
    · skip
      refine lv_iconst (v := nI 0) hx hb d_M_isCorrupt_24 (by decide) ?_
      exact x_zret cf hr hlk hP hS (by rw [mCorrupt_nI (by omega) hj, decide_eq_false (by omega)]; rfl) (rfl) d_M_isCorrupt_25
    · skip
      refine lv_iconst (v := nI 1) hx hb d_M_isCorrupt_20 (by decide) ?_
      refine lv_goto (tgt := 25) hx hb d_M_isCorrupt_21 (by decide) ?_
      exact x_zret cf hr hlk hP hS (by rw [mCorrupt_nI (by omega) hj, decide_eq_true (by omega)]; rfl) (rfl) d_M_isCorrupt_25
set_option maxRecDepth 100000 in
set_option maxHeartbeats 4000000 in
theorem k_M_certified (l : Launch) {X : WX} (hX : xInj X) {S : Nat → Nat → Nat} {V : Nat} (hI : IW V S) {b : Nat} (hb0 : b < 40) : MetI l X y_M_certified (Cond.code y_M_certified c_M_certified 2 (some .boolean) :: Mst) 1 [.ref (X.2.2.2 0), .int (nI b)] S (nI (mCert S b).toNat) S := by
  refine MetI.of (by decide) (Nat.le_of_ble_eq_true rfl) ?_
  intro p e s m args below meth c cf hr hlk hP hK hN ls hl
  have hl : lv_has ls 2 [(0, .ref (X.2.2.2 0)), (1, .int (nI b))] := hl
  have hx := cf.1
  have hb := cf.2.1
  have hD := xD_of hX
  have hS : va_S (xA X) s.heap s.heap [] := va_S.rf
  have hf := hI.f
  have hn := hI.n
  have hk := hI.k
  have hcs := hI.cs
  have ht := hI.t
  have hbl := hI.b
  have hm := hI.m
  have hV := hI.V
  obtain ⟨H, hH⟩ : ∃ H, H = s.heap := ⟨_, rfl⟩
  obtain ⟨locs, hlo⟩ : ∃ z : List Loc, z = [] := ⟨_, rfl⟩
  suffices hgo : PW X S H → va_S (xA X) s.heap H locs → W p l e (rmd 1) s m args below meth c H locs 0 0 (MQ below (QcI X (nI (mCert S b).toNat) S) args s 0 0 (xA X)) (F0 m 0 ls []) by
    subst hH
    subst hlo
    exact hgo hP hS
  clear hP hS
  intro hP hS
  refine lv_iload_n hx hb d_M_certified_0 rfl (lv_at hl 1 rfl) ?_
  refine n_if_eq (tgt := 29) hx hb d_M_certified_1 (by decide) (by omega) (fun h1 => ?_) (fun h1 => ?_)
  · skip
    refine lv_iconst (v := nI 1) hx hb d_M_certified_29 (by decide) ?_
    refine lv_goto (tgt := 34) hx hb d_M_certified_30 (by decide) ?_
    exact x_zret cf hr hlk hP hS (by unfold mCert; rw [decide_eq_true h1]; rfl) (rfl) d_M_certified_34
  · skip
    refine lv_aload_n hx hb d_M_certified_4 rfl (lv_at hl 0 rfl) ?_
    refine x_getM (v := .ref (X.2.2.2 8)) cf hK hP 13 (by decide) w_474 rfl d_M_certified_5 ?_
    refine lv_iload_n hx hb d_M_certified_8 rfl (lv_at hl 1 rfl) ?_
    refine x_iald (v := (S 8 b)) cf hK hP (ia8 X) (by omega) rfl d_M_certified_9 ?_
    refine lv_aload_n hx hb d_M_certified_10 rfl (lv_at hl 0 rfl) ?_
    refine x_getM (v := .int (nI (S 0 3))) cf hK hP 3 (by decide) w_464 rfl d_M_certified_11 ?_
    refine n_ior hx hb d_M_certified_14 ?_
    refine x_callSi (As := [.int (nI ((S 8 b) ||| (S 0 3)))]) (rest := []) cf hK hN hP hS (k_M_size l hX ((S 8 b) ||| (S 0 3)) (Nat.lt_trans (or_lt128 (show S 8 b < 128 from hI.c 8 b) hcs) (by decide))) (cw_M_size cf.2.2.2.2 w_635 ⟨Nat.le_of_ble_eq_true rfl, Nat.le_of_ble_eq_true rfl⟩) hl.1 rfl rfl (Nat.le_of_ble_eq_true rfl) ⟨Nat.zero_le _, Nat.zero_le _⟩ d_M_certified_15 (fun H locs hP hS => ?_)
    refine lv_iconst (v := nI 2) hx hb d_M_certified_18 (by decide) ?_
    refine lv_aload_n hx hb d_M_certified_19 rfl (lv_at hl 0 rfl) ?_
    refine x_getM (v := .int (nI (S 0 0))) cf hK hP 0 (by decide) w_461 rfl d_M_certified_20 ?_
    refine n_imul hx hb d_M_certified_23 ?_
    refine lv_iconst (v := nI 1) hx hb d_M_certified_24 (by decide) ?_
    refine n_iadd hx hb d_M_certified_25 ?_
    have hsz := mSize_le (S 8 b ||| S 0 3)
    refine n_icmp_lt (tgt := 33) hx hb d_M_certified_26 (by decide) (by omega) (by omega) (fun h2 => ?_) (fun h2 => ?_)
    · skip
      refine lv_iconst (v := nI 0) hx hb d_M_certified_33 (by decide) ?_
      exact x_zret cf hr hlk hP hS (by unfold mCert; rw [decide_eq_false h1, decide_eq_false (by omega)]; rfl) (rfl) d_M_certified_34
    · skip
      refine lv_iconst (v := nI 1) hx hb d_M_certified_29 (by decide) ?_
      refine lv_goto (tgt := 34) hx hb d_M_certified_30 (by decide) ?_
      exact x_zret cf hr hlk hP hS (by unfold mCert; rw [decide_eq_false h1, decide_eq_true (by omega)]; rfl) (rfl) d_M_certified_34
set_option maxRecDepth 100000 in
set_option maxHeartbeats 4000000 in
theorem k_M_inChain (l : Launch) {X : WX} (hX : xInj X) {S : Nat → Nat → Nat} {V : Nat} (hI : IW V S) {a b : Nat} (ha0 : a < 40) (hb0 : b < 40) : MetI l X y_M_inChain (Cond.code y_M_inChain c_M_inChain 5 (some .boolean) :: Mst) 0 [.ref (X.2.2.2 0), .int (nI a), .int (nI b)] S (nI (mInC S a 40 b).toNat) S := by
  refine MetI.of (by decide) (Nat.le_of_ble_eq_true rfl) ?_
  intro p e s m args below meth c cf hr hlk hP hK hN ls hl
  have hl : lv_has ls 5 [(0, .ref (X.2.2.2 0)), (1, .int (nI a)), (2, .int (nI b))] := hl
  have hx := cf.1
  have hb := cf.2.1
  have hD := xD_of hX
  have hS : va_S (xA X) s.heap s.heap [] := va_S.rf
  have hf := hI.f
  have hn := hI.n
  have hk := hI.k
  have hcs := hI.cs
  have ht := hI.t
  have hbl := hI.b
  have hm := hI.m
  have hV := hI.V
  obtain ⟨H, hH⟩ : ∃ H, H = s.heap := ⟨_, rfl⟩
  obtain ⟨locs, hlo⟩ : ∃ z : List Loc, z = [] := ⟨_, rfl⟩
  suffices hgo : PW X S H → va_S (xA X) s.heap H locs → W p l e (rmd 0) s m args below meth c H locs 0 0 (MQ below (QcI X (nI (mInC S a 40 b).toNat) S) args s 0 0 (xA X)) (F0 m 0 ls []) by
    subst hH
    subst hlo
    exact hgo hP hS
  clear hP hS
  intro hP hS
  refine lv_iload_n hx hb d_M_inChain_0 rfl (lv_at hl 2 rfl) ?_
  refine lv_istore_n (lv' := [(3, .int (nI b)), (0, .ref (X.2.2.2 0)), (1, .int (nI a)), (2, .int (nI b))]) hx hb d_M_inChain_1 rfl hl (by decide) rfl (fun ls hl => ?_)
  refine lv_iconst (v := nI 0) hx hb d_M_inChain_2 (by decide) ?_
  refine lv_istore (lv' := [(4, .int (nI 0)), (3, .int (nI b)), (0, .ref (X.2.2.2 0)), (1, .int (nI a)), (2, .int (nI b))]) hx hb d_M_inChain_3 hl (by decide) rfl (fun ls hl => ?_)
  have lp5 : ∀ (dm : Nat) (x : Nat) (i : Nat) (ls : Array Slot) (H : Heap) (locs : List Loc), lv_has ls 5 [(0, .ref (X.2.2.2 0)), (1, .int (nI a)), (2, .int (nI b)), (3, .int (nI x)), (4, .int (nI i))] → PW X S H → va_S (xA X) s.heap H locs → (i ≤ 40) → (x < 40) → (mInC S a 40 b = mInC S a (40 - i) x) → (40 - i = dm) → W p l e (rmd 0) s m args below meth c H locs 0 0 (MQ below (QcI X (nI (mInC S a 40 b).toNat) S) args s 0 0 (xA X)) (F0 m 5 ls []) := by
    intro dm
    induction dm using Nat.strongRecOn with | ind dm lp5 => ?_
    intro x i ls H locs hl hP hS hi hx0 hz hdm
    refine lv_iload hx hb d_M_inChain_5 (lv_at hl 4 rfl) ?_
    refine lv_bipush (v := nI 40) hx hb d_M_inChain_7 (by decide) ?_
    refine n_icmp_ge (tgt := 34) hx hb d_M_inChain_9 (by decide) (by omega) (by decide) (fun h1 => ?_) (fun h1 => ?_)
    · skip
      refine lv_iload_n hx hb d_M_inChain_34 rfl (lv_at hl 3 rfl) ?_
      refine lv_iload_n hx hb d_M_inChain_35 rfl (lv_at hl 1 rfl) ?_
      refine n_icmp_ne (tgt := 43) hx hb d_M_inChain_36 (by decide) (by omega) (by omega) (fun h2 => ?_) (fun h2 => ?_)
      · skip
        refine lv_iconst (v := nI 0) hx hb d_M_inChain_43 (by decide) ?_
        exact x_zret cf hr hlk hP hS (by first | (exfalso; omega) | (rw [hz]; rw [show 40 - i = 0 by omega]; show _ = nI (decide (x = a)).toNat; first | (rw [decide_eq_true (by omega)]; rfl) | (rw [decide_eq_false (by omega)]; rfl)) | (rw [hz, show 40 - i = (40 - (i + 1)) + 1 by omega]; show _ = nI (if x = a then true else if x = 0 then false else _).toNat; first | (rw [if_pos (by omega)]; rfl) | (rw [if_neg (by omega), if_pos (by omega)]; rfl))) (rfl) d_M_inChain_44
      · skip
        refine lv_iconst (v := nI 1) hx hb d_M_inChain_39 (by decide) ?_
        refine lv_goto (tgt := 44) hx hb d_M_inChain_40 (by decide) ?_
        exact x_zret cf hr hlk hP hS (by first | (exfalso; omega) | (rw [hz]; rw [show 40 - i = 0 by omega]; show _ = nI (decide (x = a)).toNat; first | (rw [decide_eq_true (by omega)]; rfl) | (rw [decide_eq_false (by omega)]; rfl)) | (rw [hz, show 40 - i = (40 - (i + 1)) + 1 by omega]; show _ = nI (if x = a then true else if x = 0 then false else _).toNat; first | (rw [if_pos (by omega)]; rfl) | (rw [if_neg (by omega), if_pos (by omega)]; rfl))) (rfl) d_M_inChain_44
    · skip
      refine lv_iload_n hx hb d_M_inChain_12 rfl (lv_at hl 3 rfl) ?_
      refine lv_iload_n hx hb d_M_inChain_13 rfl (lv_at hl 1 rfl) ?_
      refine n_icmp_eq (tgt := 34) hx hb d_M_inChain_14 (by decide) (by omega) (by omega) (fun h3 => ?_) (fun h3 => ?_)
      · skip
        refine lv_iload_n hx hb d_M_inChain_34 rfl (lv_at hl 3 rfl) ?_
        refine lv_iload_n hx hb d_M_inChain_35 rfl (lv_at hl 1 rfl) ?_
        refine n_icmp_ne (tgt := 43) hx hb d_M_inChain_36 (by decide) (by omega) (by omega) (fun h4 => ?_) (fun h4 => ?_)
        · skip
          refine lv_iconst (v := nI 0) hx hb d_M_inChain_43 (by decide) ?_
          exact x_zret cf hr hlk hP hS (by first | (exfalso; omega) | (rw [hz]; rw [show 40 - i = 0 by omega]; show _ = nI (decide (x = a)).toNat; first | (rw [decide_eq_true (by omega)]; rfl) | (rw [decide_eq_false (by omega)]; rfl)) | (rw [hz, show 40 - i = (40 - (i + 1)) + 1 by omega]; show _ = nI (if x = a then true else if x = 0 then false else _).toNat; first | (rw [if_pos (by omega)]; rfl) | (rw [if_neg (by omega), if_pos (by omega)]; rfl))) (rfl) d_M_inChain_44
        · skip
          refine lv_iconst (v := nI 1) hx hb d_M_inChain_39 (by decide) ?_
          refine lv_goto (tgt := 44) hx hb d_M_inChain_40 (by decide) ?_
          exact x_zret cf hr hlk hP hS (by first | (exfalso; omega) | (rw [hz]; rw [show 40 - i = 0 by omega]; show _ = nI (decide (x = a)).toNat; first | (rw [decide_eq_true (by omega)]; rfl) | (rw [decide_eq_false (by omega)]; rfl)) | (rw [hz, show 40 - i = (40 - (i + 1)) + 1 by omega]; show _ = nI (if x = a then true else if x = 0 then false else _).toNat; first | (rw [if_pos (by omega)]; rfl) | (rw [if_neg (by omega), if_pos (by omega)]; rfl))) (rfl) d_M_inChain_44
      · skip
        refine lv_iload_n hx hb d_M_inChain_17 rfl (lv_at hl 3 rfl) ?_
        refine n_if_eq (tgt := 34) hx hb d_M_inChain_18 (by decide) (by omega) (fun h5 => ?_) (fun h5 => ?_)
        · skip
          refine lv_iload_n hx hb d_M_inChain_34 rfl (lv_at hl 3 rfl) ?_
          refine lv_iload_n hx hb d_M_inChain_35 rfl (lv_at hl 1 rfl) ?_
          refine n_icmp_ne (tgt := 43) hx hb d_M_inChain_36 (by decide) (by omega) (by omega) (fun h6 => ?_) (fun h6 => ?_)
          · skip
            refine lv_iconst (v := nI 0) hx hb d_M_inChain_43 (by decide) ?_
            exact x_zret cf hr hlk hP hS (by first | (exfalso; omega) | (rw [hz]; rw [show 40 - i = 0 by omega]; show _ = nI (decide (x = a)).toNat; first | (rw [decide_eq_true (by omega)]; rfl) | (rw [decide_eq_false (by omega)]; rfl)) | (rw [hz, show 40 - i = (40 - (i + 1)) + 1 by omega]; show _ = nI (if x = a then true else if x = 0 then false else _).toNat; first | (rw [if_pos (by omega)]; rfl) | (rw [if_neg (by omega), if_pos (by omega)]; rfl))) (rfl) d_M_inChain_44
          · skip
            refine lv_iconst (v := nI 1) hx hb d_M_inChain_39 (by decide) ?_
            refine lv_goto (tgt := 44) hx hb d_M_inChain_40 (by decide) ?_
            exact x_zret cf hr hlk hP hS (by first | (exfalso; omega) | (rw [hz]; rw [show 40 - i = 0 by omega]; show _ = nI (decide (x = a)).toNat; first | (rw [decide_eq_true (by omega)]; rfl) | (rw [decide_eq_false (by omega)]; rfl)) | (rw [hz, show 40 - i = (40 - (i + 1)) + 1 by omega]; show _ = nI (if x = a then true else if x = 0 then false else _).toNat; first | (rw [if_pos (by omega)]; rfl) | (rw [if_neg (by omega), if_pos (by omega)]; rfl))) (rfl) d_M_inChain_44
        · skip
          refine lv_aload_n hx hb d_M_inChain_21 rfl (lv_at hl 0 rfl) ?_
          refine x_getM (v := .ref (X.2.2.2 6)) cf hK hP 11 (by decide) w_472 rfl d_M_inChain_22 ?_
          refine lv_iload_n hx hb d_M_inChain_25 rfl (lv_at hl 3 rfl) ?_
          refine x_iald (v := (S 6 x)) cf hK hP (ia6 X) (by omega) rfl d_M_inChain_26 ?_
          refine lv_istore_n (lv' := [(3, .int (nI (S 6 x))), (0, .ref (X.2.2.2 0)), (1, .int (nI a)), (2, .int (nI b)), (4, .int (nI i))]) hx hb d_M_inChain_27 rfl hl (by decide) rfl (fun ls hl => ?_)
          refine n_iinc1 (lv' := [(4, .int (nI (i + 1))), (3, .int (nI (S 6 x))), (0, .ref (X.2.2.2 0)), (1, .int (nI a)), (2, .int (nI b))]) (k := 4) hx hb d_M_inChain_28 hl rfl (by decide) rfl (fun ls hl => ?_)
          refine lv_goto (tgt := 5) hx hb d_M_inChain_31 (by decide) ?_
          exact lp5 _ (by omega) (S 6 x) (i + 1) ls H locs (lv_sub hl [2, 3, 4, 1, 0] rfl) hP hS (by omega) ((show S 6 x < 40 from hI.c 6 x)) (by rw [hz, show 40 - i = (40 - (i + 1)) + 1 by omega]; show (if x = a then true else if x = 0 then false else _) = _; rw [if_neg (by omega), if_neg (by omega)]) rfl
  exact lp5 _ b 0 ls H locs (lv_sub hl [2, 3, 4, 1, 0] rfl) hP hS (by omega) (by omega) (rfl) rfl
set_option maxRecDepth 100000 in
set_option maxHeartbeats 4000000 in
theorem k_M_push (l : Launch) {X : WX} (hX : xInj X) {S : Nat → Nat → Nat} {V : Nat} (hI : IW V S) {r : Nat} (hr0 : r < 7) : MetI l X y_M_push (Cond.code y_M_push c_M_push 7 (some .int) :: Mst) 0 [.ref (X.2.2.2 0), .int (nI r)] S (nI (mPush S r)) S := by
  refine MetI.of (by decide) (Nat.le_of_ble_eq_true rfl) ?_
  intro p e s m args below meth c cf hr hlk hP hK hN ls hl
  have hl : lv_has ls 7 [(0, .ref (X.2.2.2 0)), (1, .int (nI r))] := hl
  have hx := cf.1
  have hb := cf.2.1
  have hD := xD_of hX
  have hS : va_S (xA X) s.heap s.heap [] := va_S.rf
  have hf := hI.f
  have hn := hI.n
  have hk := hI.k
  have hcs := hI.cs
  have ht := hI.t
  have hbl := hI.b
  have hm := hI.m
  have hV := hI.V
  obtain ⟨H, hH⟩ : ∃ H, H = s.heap := ⟨_, rfl⟩
  obtain ⟨locs, hlo⟩ : ∃ z : List Loc, z = [] := ⟨_, rfl⟩
  suffices hgo : PW X S H → va_S (xA X) s.heap H locs → W p l e (rmd 0) s m args below meth c H locs 0 0 (MQ below (QcI X (nI (mPush S r)) S) args s 0 0 (xA X)) (F0 m 0 ls []) by
    subst hH
    subst hlo
    exact hgo hP hS
  clear hP hS
  intro hP hS
  refine lv_iconst (v := nI 0) hx hb d_M_push_0 (by decide) ?_
  refine lv_istore_n (lv' := [(2, .int (nI 0)), (0, .ref (X.2.2.2 0)), (1, .int (nI r))]) hx hb d_M_push_1 rfl hl (by decide) rfl (fun ls hl => ?_)
  refine lv_iconst (v := nI 0) hx hb d_M_push_2 (by decide) ?_
  refine lv_istore_n (lv' := [(3, .int (nI 0)), (2, .int (nI 0)), (0, .ref (X.2.2.2 0)), (1, .int (nI r))]) hx hb d_M_push_3 rfl hl (by decide) rfl (fun ls hl => ?_)
  have lp4 : ∀ (dm : Nat) (best : Nat) (i : Nat) (ls : Array Slot) (H : Heap) (locs : List Loc), lv_has ls 7 [(0, .ref (X.2.2.2 0)), (1, .int (nI r)), (2, .int (nI best)), (3, .int (nI i))] → PW X S H → va_S (xA X) s.heap H locs → (i ≤ S 0 1) → (best < 2147483648) → (best = itr (mPushF S r) 0 0 i) → (S 0 1 - i = dm) → W p l e (rmd 0) s m args below meth c H locs 0 0 (MQ below (QcI X (nI (mPush S r)) S) args s 0 0 (xA X)) (F0 m 4 ls []) := by
    intro dm
    induction dm using Nat.strongRecOn with | ind dm lp4 => ?_
    intro best i ls H locs hl hP hS hi hbe hz hdm
    refine lv_iload_n hx hb d_M_push_4 rfl (lv_at hl 3 rfl) ?_
    refine lv_aload_n hx hb d_M_push_5 rfl (lv_at hl 0 rfl) ?_
    refine x_getM (v := .int (nI (S 0 1))) cf hK hP 1 (by decide) w_462 rfl d_M_push_6 ?_
    refine n_icmp_ge (tgt := 94) hx hb d_M_push_9 (by decide) (by omega) (by omega) (fun h1 => ?_) (fun h1 => ?_)
    · skip
      refine lv_iload_n hx hb d_M_push_94 rfl (lv_at hl 2 rfl) ?_
      exact x_iret cf hr hlk hP hS (by rw [hz, show i = S 0 1 by omega]; rfl) (rfl) d_M_push_95
    · skip
      refine lv_aload_n hx hb d_M_push_12 rfl (lv_at hl 0 rfl) ?_
      refine x_getM (v := .ref (X.2.2.2 21)) cf hK hP 28 (by decide) w_489 rfl d_M_push_13 ?_
      refine lv_bipush (v := nI 7) hx hb d_M_push_16 (by decide) ?_
      refine lv_iload_n hx hb d_M_push_18 rfl (lv_at hl 1 rfl) ?_
      refine n_imul hx hb d_M_push_19 ?_
      refine lv_iload_n hx hb d_M_push_20 rfl (lv_at hl 3 rfl) ?_
      refine n_iadd hx hb d_M_push_21 ?_
      refine x_iald (v := (S 21 ((7 * r) + i))) cf hK hP (ia21 X) (by omega) rfl d_M_push_22 ?_
      refine lv_istore (lv' := [(4, .int (nI (S 21 ((7 * r) + i)))), (0, .ref (X.2.2.2 0)), (1, .int (nI r)), (2, .int (nI best)), (3, .int (nI i))]) hx hb d_M_push_23 hl (by decide) rfl (fun ls hl => ?_)
      refine lv_iconst (v := nI 0) hx hb d_M_push_25 (by decide) ?_
      refine lv_istore (lv' := [(5, .int (nI 0)), (4, .int (nI (S 21 ((7 * r) + i)))), (0, .ref (X.2.2.2 0)), (1, .int (nI r)), (2, .int (nI best)), (3, .int (nI i))]) hx hb d_M_push_26 hl (by decide) rfl (fun ls hl => ?_)
      refine lv_iconst (v := nI 0) hx hb d_M_push_28 (by decide) ?_
      refine lv_istore (lv' := [(6, .int (nI 0)), (5, .int (nI 0)), (4, .int (nI (S 21 ((7 * r) + i)))), (0, .ref (X.2.2.2 0)), (1, .int (nI r)), (2, .int (nI best)), (3, .int (nI i))]) hx hb d_M_push_29 hl (by decide) rfl (fun ls hl => ?_)
      have lp31 : ∀ (dm : Nat) (many : Nat) (q : Nat) (ls : Array Slot) (H : Heap) (locs : List Loc), lv_has ls 7 [(0, .ref (X.2.2.2 0)), (1, .int (nI r)), (2, .int (nI best)), (3, .int (nI i)), (4, .int (nI (S 21 ((7 * r) + i)))), (5, .int (nI many)), (6, .int (nI q))] → PW X S H → va_S (xA X) s.heap H locs → (q ≤ S 0 1) → (many ≤ q) → (many = itr (mCntF S r (S 21 (7 * r + i))) 0 0 q) → (S 0 1 - q = dm) → W p l e (rmd 0) s m args below meth c H locs 0 0 (MQ below (QcI X (nI (mPush S r)) S) args s 0 0 (xA X)) (F0 m 31 ls []) := by
        intro dm
        induction dm using Nat.strongRecOn with | ind dm lp31 => ?_
        intro many q ls H locs hl hP hS hq hmq hzq hdm
        refine lv_iload hx hb d_M_push_31 (lv_at hl 6 rfl) ?_
        refine lv_aload_n hx hb d_M_push_33 rfl (lv_at hl 0 rfl) ?_
        refine x_getM (v := .int (nI (S 0 1))) cf hK hP 1 (by decide) w_462 rfl d_M_push_34 ?_
        refine n_icmp_ge (tgt := 66) hx hb d_M_push_37 (by decide) (by omega) (by omega) (fun h2 => ?_) (fun h2 => ?_)
        · skip
          have hc : many = mCnt S r (S 21 (7 * r + i)) := by rw [hzq, show q = S 0 1 by omega]; rfl
          refine lv_iload hx hb d_M_push_66 (lv_at hl 5 rfl) ?_
          refine lv_iconst (v := nI 2) hx hb d_M_push_68 (by decide) ?_
          refine lv_aload_n hx hb d_M_push_69 rfl (lv_at hl 0 rfl) ?_
          refine x_getM (v := .int (nI (S 0 0))) cf hK hP 0 (by decide) w_461 rfl d_M_push_70 ?_
          refine n_imul hx hb d_M_push_73 ?_
          refine lv_iconst (v := nI 1) hx hb d_M_push_74 (by decide) ?_
          refine n_iadd hx hb d_M_push_75 ?_
          refine n_icmp_lt (tgt := 88) hx hb d_M_push_76 (by decide) (by omega) (by omega) (fun h3 => ?_) (fun h3 => ?_)
          · skip
            refine n_iinc1 (lv' := [(3, .int (nI (i + 1))), (0, .ref (X.2.2.2 0)), (1, .int (nI r)), (2, .int (nI best)), (4, .int (nI (S 21 ((7 * r) + i)))), (5, .int (nI many)), (6, .int (nI q))]) (k := 3) hx hb d_M_push_88 hl rfl (by decide) rfl (fun ls hl => ?_)
            refine lv_goto (tgt := 4) hx hb d_M_push_91 (by decide) ?_
            exact lp4 _ (by omega) best (i + 1) ls H locs (lv_sub hl [1, 2, 3, 0] rfl) hP hS (by omega) (by have := (show S 21 (7 * r + i) < 2147483648 ∧ (7 * r + i < 49 → S 0 3 / 2 ^ ((7 * r + i) % 7) % 2 = 0 → S 21 (7 * r + i) ≤ V) from hI.c 21 (7 * r + i)).1; omega) (by rw [itr_z, ← hz]; unfold mPushF; rw [← hc]; first | rw [if_pos (by omega)] | rw [if_neg (by omega)]) rfl
          · skip
            refine lv_iload hx hb d_M_push_79 (lv_at hl 4 rfl) ?_
            refine lv_iload_n hx hb d_M_push_81 rfl (lv_at hl 2 rfl) ?_
            refine n_icmp_le (tgt := 88) hx hb d_M_push_82 (by decide) (by have := (show S 21 ((7 * r) + i) < 2147483648 ∧ (((7 * r) + i) < 49 → S 0 3 / 2 ^ (((7 * r) + i) % 7) % 2 = 0 → S 21 ((7 * r) + i) ≤ V) from hI.c 21 ((7 * r) + i)).1; omega) (by omega) (fun h4 => ?_) (fun h4 => ?_)
            · skip
              refine n_iinc1 (lv' := [(3, .int (nI (i + 1))), (0, .ref (X.2.2.2 0)), (1, .int (nI r)), (2, .int (nI best)), (4, .int (nI (S 21 ((7 * r) + i)))), (5, .int (nI many)), (6, .int (nI q))]) (k := 3) hx hb d_M_push_88 hl rfl (by decide) rfl (fun ls hl => ?_)
              refine lv_goto (tgt := 4) hx hb d_M_push_91 (by decide) ?_
              exact lp4 _ (by omega) best (i + 1) ls H locs (lv_sub hl [1, 2, 3, 0] rfl) hP hS (by omega) (by have := (show S 21 (7 * r + i) < 2147483648 ∧ (7 * r + i < 49 → S 0 3 / 2 ^ ((7 * r + i) % 7) % 2 = 0 → S 21 (7 * r + i) ≤ V) from hI.c 21 (7 * r + i)).1; omega) (by rw [itr_z, ← hz]; unfold mPushF; rw [← hc]; first | rw [if_pos (by omega)] | rw [if_neg (by omega)]) rfl
            · skip
              refine lv_iload hx hb d_M_push_85 (lv_at hl 4 rfl) ?_
              refine lv_istore_n (lv' := [(2, .int (nI (S 21 ((7 * r) + i)))), (0, .ref (X.2.2.2 0)), (1, .int (nI r)), (3, .int (nI i)), (4, .int (nI (S 21 ((7 * r) + i)))), (5, .int (nI many)), (6, .int (nI q))]) hx hb d_M_push_87 rfl hl (by decide) rfl (fun ls hl => ?_)
              refine n_iinc1 (lv' := [(3, .int (nI (i + 1))), (2, .int (nI (S 21 ((7 * r) + i)))), (0, .ref (X.2.2.2 0)), (1, .int (nI r)), (4, .int (nI (S 21 ((7 * r) + i)))), (5, .int (nI many)), (6, .int (nI q))]) (k := 3) hx hb d_M_push_88 hl rfl (by decide) rfl (fun ls hl => ?_)
              refine lv_goto (tgt := 4) hx hb d_M_push_91 (by decide) ?_
              exact lp4 _ (by omega) (S 21 ((7 * r) + i)) (i + 1) ls H locs (lv_sub hl [2, 3, 1, 0] rfl) hP hS (by omega) (by have := (show S 21 (7 * r + i) < 2147483648 ∧ (7 * r + i < 49 → S 0 3 / 2 ^ ((7 * r + i) % 7) % 2 = 0 → S 21 (7 * r + i) ≤ V) from hI.c 21 (7 * r + i)).1; omega) (by rw [itr_z, ← hz]; unfold mPushF; rw [← hc]; first | rw [if_pos (by omega)] | rw [if_neg (by omega)]) rfl
        · skip
          refine lv_aload_n hx hb d_M_push_40 rfl (lv_at hl 0 rfl) ?_
          refine x_getM (v := .ref (X.2.2.2 21)) cf hK hP 28 (by decide) w_489 rfl d_M_push_41 ?_
          refine lv_bipush (v := nI 7) hx hb d_M_push_44 (by decide) ?_
          refine lv_iload_n hx hb d_M_push_46 rfl (lv_at hl 1 rfl) ?_
          refine n_imul hx hb d_M_push_47 ?_
          refine lv_iload hx hb d_M_push_48 (lv_at hl 6 rfl) ?_
          refine n_iadd hx hb d_M_push_50 ?_
          refine x_iald (v := (S 21 ((7 * r) + q))) cf hK hP (ia21 X) (by omega) rfl d_M_push_51 ?_
          refine lv_iload hx hb d_M_push_52 (lv_at hl 4 rfl) ?_
          refine n_icmp_lt (tgt := 60) hx hb d_M_push_54 (by decide) (by have := (show S 21 ((7 * r) + q) < 2147483648 ∧ (((7 * r) + q) < 49 → S 0 3 / 2 ^ (((7 * r) + q) % 7) % 2 = 0 → S 21 ((7 * r) + q) ≤ V) from hI.c 21 ((7 * r) + q)).1; omega) (by have := (show S 21 ((7 * r) + i) < 2147483648 ∧ (((7 * r) + i) < 49 → S 0 3 / 2 ^ (((7 * r) + i) % 7) % 2 = 0 → S 21 ((7 * r) + i) ≤ V) from hI.c 21 ((7 * r) + i)).1; omega) (fun h5 => ?_) (fun h5 => ?_)
          · skip
            refine n_iinc1 (lv' := [(6, .int (nI (q + 1))), (0, .ref (X.2.2.2 0)), (1, .int (nI r)), (2, .int (nI best)), (3, .int (nI i)), (4, .int (nI (S 21 ((7 * r) + i)))), (5, .int (nI many))]) (k := 6) hx hb d_M_push_60 hl rfl (by decide) rfl (fun ls hl => ?_)
            refine lv_goto (tgt := 31) hx hb d_M_push_63 (by decide) ?_
            exact lp31 _ (by omega) many (q + 1) ls H locs (lv_sub hl [1, 2, 3, 4, 5, 6, 0] rfl) hP hS (by omega) (by omega) (by rw [itr_z, ← hzq]; unfold mCntF; first | rw [if_pos (by omega)] | rw [if_neg (by omega)]) rfl
          · skip
            refine n_iinc1 (lv' := [(5, .int (nI (many + 1))), (0, .ref (X.2.2.2 0)), (1, .int (nI r)), (2, .int (nI best)), (3, .int (nI i)), (4, .int (nI (S 21 ((7 * r) + i)))), (6, .int (nI q))]) (k := 5) hx hb d_M_push_57 hl rfl (by decide) rfl (fun ls hl => ?_)
            refine n_iinc1 (lv' := [(6, .int (nI (q + 1))), (5, .int (nI (many + 1))), (0, .ref (X.2.2.2 0)), (1, .int (nI r)), (2, .int (nI best)), (3, .int (nI i)), (4, .int (nI (S 21 ((7 * r) + i))))]) (k := 6) hx hb d_M_push_60 hl rfl (by decide) rfl (fun ls hl => ?_)
            refine lv_goto (tgt := 31) hx hb d_M_push_63 (by decide) ?_
            exact lp31 _ (by omega) (many + 1) (q + 1) ls H locs (lv_sub hl [2, 3, 4, 5, 6, 1, 0] rfl) hP hS (by omega) (by omega) (by rw [itr_z, ← hzq]; unfold mCntF; first | rw [if_pos (by omega)] | rw [if_neg (by omega)]) rfl
      exact lp31 _ 0 0 ls H locs (lv_sub hl [3, 4, 5, 6, 2, 1, 0] rfl) hP hS (by omega) (by omega) (rfl) rfl
  exact lp4 _ 0 0 ls H locs (lv_sub hl [2, 3, 1, 0] rfl) hP hS (by omega) (by omega) (rfl) rfl
set_option maxRecDepth 100000 in
set_option maxHeartbeats 4000000 in
theorem k_M_see (l : Launch) {X : WX} (hX : xInj X) {S : Nat → Nat → Nat} {V : Nat} (hI : IW V S) {r : Nat} (hr0 : r < 7) {x : Nat} (hx0 : x < 40) : MetV l X y_M_see (Cond.code y_M_see c_M_see 3 none :: Mst) 1 [.ref (X.2.2.2 0), .int (nI r), .int (nI x)] S (mSee S r x) := by
  refine MetV.of (by decide) (Nat.le_of_ble_eq_true rfl) ?_
  intro p e s m args below meth c cf hr hlk hP hK hN ls hl
  have hl : lv_has ls 3 [(0, .ref (X.2.2.2 0)), (1, .int (nI r)), (2, .int (nI x))] := hl
  have hx := cf.1
  have hb := cf.2.1
  have hD := xD_of hX
  have hS : va_S (xA X) s.heap s.heap [] := va_S.rf
  have hf := hI.f
  have hn := hI.n
  have hk := hI.k
  have hcs := hI.cs
  have ht := hI.t
  have hbl := hI.b
  have hm := hI.m
  have hV := hI.V
  obtain ⟨H, hH⟩ : ∃ H, H = s.heap := ⟨_, rfl⟩
  obtain ⟨locs, hlo⟩ : ∃ z : List Loc, z = [] := ⟨_, rfl⟩
  suffices hgo : PW X S H → va_S (xA X) s.heap H locs → W p l e (rmd 1) s m args below meth c H locs 0 0 (MQ below (QcV X (mSee S r x)) args s 0 0 (xA X)) (F0 m 0 ls []) by
    subst hH
    subst hlo
    exact hgo hP hS
  clear hP hS
  intro hP hS
  refine lv_aload_n hx hb d_M_see_0 rfl (lv_at hl 0 rfl) ?_
  refine x_getM (v := .ref (X.2.2.2 19)) cf hK hP 26 (by decide) w_487 rfl d_M_see_1 ?_
  refine lv_bipush (v := nI 40) hx hb d_M_see_4 (by decide) ?_
  refine lv_iload_n hx hb d_M_see_6 rfl (lv_at hl 1 rfl) ?_
  refine n_imul hx hb d_M_see_7 ?_
  refine lv_iload_n hx hb d_M_see_8 rfl (lv_at hl 2 rfl) ?_
  refine n_iadd hx hb d_M_see_9 ?_
  refine lv_iconst (v := nI 1) hx hb d_M_see_10 (by decide) ?_
  refine x_zast cf hK hD hP hS (by omega) (by decide) d_M_see_11 (fun H locs hP hS => ?_)
  refine lv_aload_n hx hb d_M_see_12 rfl (lv_at hl 0 rfl) ?_
  refine x_getM (v := .ref (X.2.2.2 5)) cf hK hP 10 (by decide) w_471 rfl d_M_see_13 ?_
  refine lv_iload_n hx hb d_M_see_16 rfl (lv_at hl 2 rfl) ?_
  refine x_iald (v := (S 5 x)) cf hK hP (ia5 X) (by omega) (by simp [up2_at]) d_M_see_17 ?_
  refine lv_aload_n hx hb d_M_see_18 rfl (lv_at hl 0 rfl) ?_
  refine x_getM (v := .ref (X.2.2.2 14)) cf hK hP 21 (by decide) w_482 rfl d_M_see_19 ?_
  refine lv_iload_n hx hb d_M_see_22 rfl (lv_at hl 1 rfl) ?_
  refine x_iald (v := (S 14 r)) cf hK hP (ia14 X) (by omega) (by simp [up2_at]) d_M_see_23 ?_
  refine n_icmp_ge (tgt := 28) hx hb d_M_see_24 (by decide) (by have := (show S 5 x + 1 ≤ V from hI.c 5 x); omega) (by have := (show S 14 r ≤ V ∧ (r < S 0 1 → 1 ≤ S 14 r) from hI.c 14 r); omega) (fun h1 => ?_) (fun h1 => ?_)
  · skip
    refine lv_aload_n hx hb d_M_see_28 rfl (lv_at hl 0 rfl) ?_
    refine lv_iload_n hx hb d_M_see_29 rfl (lv_at hl 1 rfl) ?_
    refine lv_aload_n hx hb d_M_see_30 rfl (lv_at hl 0 rfl) ?_
    refine x_getM (v := .ref (X.2.2.2 5)) cf hK hP 10 (by decide) w_471 rfl d_M_see_31 ?_
    refine lv_iload_n hx hb d_M_see_34 rfl (lv_at hl 2 rfl) ?_
    refine x_iald (v := (S 5 x)) cf hK hP (ia5 X) (by omega) (by simp [up2_at]) d_M_see_35 ?_
    refine lv_iconst (v := nI 1) hx hb d_M_see_36 (by decide) ?_
    refine n_iadd hx hb d_M_see_37 ?_
    refine x_callVv (As := [.int (nI r), .int (nI ((S 5 x) + 1))]) (rest := []) cf hK hN hP hS (k_M_enter l hX (hI.up (k := 19) (j := 40 * r + x) (v := 1) (by decide) (show 1 ≤ 1 by decide)) (by omega)) (cw_M_enter cf.2.2.2.2 w_599 ⟨Nat.le_of_ble_eq_true rfl, Nat.le_of_ble_eq_true rfl⟩) (rv_M hK hP) hl.1 rfl rfl (Nat.le_of_ble_eq_true rfl) ⟨Nat.zero_le _, Nat.zero_le _⟩ d_M_see_38 (fun H locs hP hS => ?_)
    refine lv_aload_n hx hb d_M_see_41 rfl (lv_at hl 0 rfl) ?_
    refine x_getM (v := .ref (X.2.2.2 16)) cf hK hP 23 (by decide) w_484 rfl d_M_see_42 ?_
    refine lv_iload_n hx hb d_M_see_45 rfl (lv_at hl 1 rfl) ?_
    refine lv_iconst (v := nI 2) hx hb d_M_see_46 (by decide) ?_
    refine x_iast cf hK hD hP hS (ia16 X) (by omega) d_M_see_47 (fun H locs hP hS => ?_)
    exact x_vret cf hr hlk hP hS (by unfold mSee; rw [if_neg (by omega)]) d_M_see_48
  · skip
    exact x_vret cf hr hlk hP hS (by unfold mSee; rw [if_pos (by omega)]) d_M_see_27
set_option maxRecDepth 100000 in
set_option maxHeartbeats 4000000 in
theorem k_M_newBlock (l : Launch) {X : WX} (hX : xInj X) {S : Nat → Nat → Nat} {V : Nat} (hI : IW V S) (hb0 : S 0 5 < 40) (v p0 set : Nat) : MetI l X y_M_newBlock (Cond.code y_M_newBlock c_M_newBlock 4 (some .int) :: Mst) 0 [.ref (X.2.2.2 0), .int (nI v), .int (nI p0), .int (nI set)] S (nI (S 0 5)) (mNewBlock S v p0 set) := by
  refine MetI.of (by decide) (Nat.le_of_ble_eq_true rfl) ?_
  intro p e s m args below meth c cf hr hlk hP hK hN ls hl
  have hl : lv_has ls 4 [(0, .ref (X.2.2.2 0)), (1, .int (nI v)), (2, .int (nI p0)), (3, .int (nI set))] := hl
  have hx := cf.1
  have hb := cf.2.1
  have hD := xD_of hX
  have hS : va_S (xA X) s.heap s.heap [] := va_S.rf
  have hf := hI.f
  have hn := hI.n
  have hk := hI.k
  have hcs := hI.cs
  have ht := hI.t
  have hbl := hI.b
  have hm := hI.m
  have hV := hI.V
  obtain ⟨H, hH⟩ : ∃ H, H = s.heap := ⟨_, rfl⟩
  obtain ⟨locs, hlo⟩ : ∃ z : List Loc, z = [] := ⟨_, rfl⟩
  suffices hgo : PW X S H → va_S (xA X) s.heap H locs → W p l e (rmd 0) s m args below meth c H locs 0 0 (MQ below (QcI X (nI (S 0 5)) (mNewBlock S v p0 set)) args s 0 0 (xA X)) (F0 m 0 ls []) by
    subst hH
    subst hlo
    exact hgo hP hS
  clear hP hS
  intro hP hS
  refine lv_aload_n hx hb d_M_newBlock_0 rfl (lv_at hl 0 rfl) ?_
  refine x_getM (v := .ref (X.2.2.2 5)) cf hK hP 10 (by decide) w_471 rfl d_M_newBlock_1 ?_
  refine lv_aload_n hx hb d_M_newBlock_4 rfl (lv_at hl 0 rfl) ?_
  refine x_getM (v := .int (nI (S 0 5))) cf hK hP 9 (by decide) w_470 rfl d_M_newBlock_5 ?_
  refine lv_iload_n hx hb d_M_newBlock_8 rfl (lv_at hl 1 rfl) ?_
  refine x_iast cf hK hD hP hS (ia5 X) (by omega) d_M_newBlock_9 (fun H locs hP hS => ?_)
  refine lv_aload_n hx hb d_M_newBlock_10 rfl (lv_at hl 0 rfl) ?_
  refine x_getM (v := .ref (X.2.2.2 6)) cf hK hP 11 (by decide) w_472 rfl d_M_newBlock_11 ?_
  refine lv_aload_n hx hb d_M_newBlock_14 rfl (lv_at hl 0 rfl) ?_
  refine x_getM (v := .int (nI (S 0 5))) cf hK hP 9 (by decide) w_470 rfl d_M_newBlock_15 ?_
  refine lv_iload_n hx hb d_M_newBlock_18 rfl (lv_at hl 2 rfl) ?_
  refine x_iast cf hK hD hP hS (ia6 X) (by omega) d_M_newBlock_19 (fun H locs hP hS => ?_)
  refine lv_aload_n hx hb d_M_newBlock_20 rfl (lv_at hl 0 rfl) ?_
  refine x_getM (v := .ref (X.2.2.2 7)) cf hK hP 12 (by decide) w_473 rfl d_M_newBlock_21 ?_
  refine lv_aload_n hx hb d_M_newBlock_24 rfl (lv_at hl 0 rfl) ?_
  refine x_getM (v := .int (nI (S 0 5))) cf hK hP 9 (by decide) w_470 rfl d_M_newBlock_25 ?_
  refine lv_iload_n hx hb d_M_newBlock_28 rfl (lv_at hl 3 rfl) ?_
  refine x_iast cf hK hD hP hS (ia7 X) (by omega) d_M_newBlock_29 (fun H locs hP hS => ?_)
  refine lv_aload_n hx hb d_M_newBlock_30 rfl (lv_at hl 0 rfl) ?_
  refine lv_dup hx hb d_M_newBlock_31 rfl ?_
  refine x_getM (v := .int (nI (S 0 5))) cf hK hP 9 (by decide) w_470 rfl d_M_newBlock_32 ?_
  refine lv_iconst (v := nI 1) hx hb d_M_newBlock_35 (by decide) ?_
  refine n_iadd hx hb d_M_newBlock_36 ?_
  refine x_putM cf hK hD hP hS 9 (by decide) w_470 rfl (by decide +kernel) 5 rfl d_M_newBlock_37 (fun H locs hP hS => ?_)
  refine lv_aload_n hx hb d_M_newBlock_40 rfl (lv_at hl 0 rfl) ?_
  refine x_getM (v := .int (nI ((S 0 5) + 1))) cf hK hP 9 (by decide) w_470 rfl d_M_newBlock_41 ?_
  refine lv_iconst (v := nI 1) hx hb d_M_newBlock_44 (by decide) ?_
  refine n_isub hx hb (by omega) d_M_newBlock_45 ?_
  exact x_iret cf hr hlk hP hS (by rw [show S 0 5 + 1 - 1 = S 0 5 by omega]) (rfl) d_M_newBlock_46
set_option maxRecDepth 100000 in
set_option maxHeartbeats 4000000 in
theorem k_M_takeOut (l : Launch) {X : WX} (hX : xInj X) {S : Nat → Nat → Nat} {V : Nat} (hI : IW V S) {i : Nat} (hi0 : i < S 0 6) : MetV l X y_M_takeOut (Cond.code y_M_takeOut c_M_takeOut 3 none :: Mst) 0 [.ref (X.2.2.2 0), .int (nI i)] S (mTake S i) := by
  refine MetV.of (by decide) (Nat.le_of_ble_eq_true rfl) ?_
  intro p e s m args below meth c cf hr hlk hP hK hN ls hl
  have hl : lv_has ls 3 [(0, .ref (X.2.2.2 0)), (1, .int (nI i))] := hl
  have hx := cf.1
  have hb := cf.2.1
  have hD := xD_of hX
  have hS : va_S (xA X) s.heap s.heap [] := va_S.rf
  have hf := hI.f
  have hn := hI.n
  have hk := hI.k
  have hcs := hI.cs
  have ht := hI.t
  have hbl := hI.b
  have hm := hI.m
  have hV := hI.V
  obtain ⟨H, hH⟩ : ∃ H, H = s.heap := ⟨_, rfl⟩
  obtain ⟨locs, hlo⟩ : ∃ z : List Loc, z = [] := ⟨_, rfl⟩
  suffices hgo : PW X S H → va_S (xA X) s.heap H locs → W p l e (rmd 0) s m args below meth c H locs 0 0 (MQ below (QcV X (mTake S i)) args s 0 0 (xA X)) (F0 m 0 ls []) by
    subst hH
    subst hlo
    exact hgo hP hS
  clear hP hS
  intro hP hS
  refine lv_aload_n hx hb d_M_takeOut_0 rfl (lv_at hl 0 rfl) ?_
  refine lv_dup hx hb d_M_takeOut_1 rfl ?_
  refine x_getM (v := .int (nI (S 0 6))) cf hK hP 14 (by decide) w_475 rfl d_M_takeOut_2 ?_
  refine lv_iconst (v := nI 1) hx hb d_M_takeOut_5 (by decide) ?_
  refine n_isub hx hb (by omega) d_M_takeOut_6 ?_
  refine x_putM cf hK hD hP hS 14 (by decide) w_475 rfl (by decide +kernel) 6 rfl d_M_takeOut_7 (fun H locs hP hS => ?_)
  refine lv_iload_n hx hb d_M_takeOut_10 rfl (lv_at hl 1 rfl) ?_
  refine lv_istore_n (lv' := [(2, .int (nI i)), (0, .ref (X.2.2.2 0)), (1, .int (nI i))]) hx hb d_M_takeOut_11 rfl hl (by decide) rfl (fun ls hl => ?_)
  have lp12 : ∀ (dm : Nat) (j : Nat) (T : Nat → Nat → Nat) (ls : Array Slot) (H : Heap) (locs : List Loc), lv_has ls 3 [(0, .ref (X.2.2.2 0)), (1, .int (nI i)), (2, .int (nI j))] → PW X T H → va_S (xA X) s.heap H locs → (i ≤ j ∧ j + 1 ≤ S 0 6) → (T 0 6 = S 0 6 - 1) → (T = itr mTakeF i (up2 S 0 6 (S 0 6 - 1)) (j - i)) → (S 0 6 - j = dm) → W p l e (rmd 0) s m args below meth c H locs 0 0 (MQ below (QcV X (mTake S i)) args s 0 0 (xA X)) (F0 m 12 ls []) := by
    intro dm
    induction dm using Nat.strongRecOn with | ind dm lp12 => ?_
    intro j T ls H locs hl hP hS hj hT6 hz hdm
    refine lv_iload_n hx hb d_M_takeOut_12 rfl (lv_at hl 2 rfl) ?_
    refine lv_aload_n hx hb d_M_takeOut_13 rfl (lv_at hl 0 rfl) ?_
    refine x_getM (v := .int (nI (T 0 6))) cf hK hP 14 (by decide) w_475 rfl d_M_takeOut_14 ?_
    refine n_icmp_ge (tgt := 96) hx hb d_M_takeOut_17 (by decide) (by omega) (by omega) (fun h1 => ?_) (fun h1 => ?_)
    · skip
      exact x_vret cf hr hlk hP hS (by rw [hz, show j - i = S 0 6 - 1 - i by omega]; rfl) d_M_takeOut_96
    · skip
      refine lv_aload_n hx hb d_M_takeOut_20 rfl (lv_at hl 0 rfl) ?_
      refine x_getM (v := .ref (X.2.2.2 9)) cf hK hP 16 (by decide) w_477 rfl d_M_takeOut_21 ?_
      refine lv_iload_n hx hb d_M_takeOut_24 rfl (lv_at hl 2 rfl) ?_
      refine lv_aload_n hx hb d_M_takeOut_25 rfl (lv_at hl 0 rfl) ?_
      refine x_getM (v := .ref (X.2.2.2 9)) cf hK hP 16 (by decide) w_477 rfl d_M_takeOut_26 ?_
      refine lv_iload_n hx hb d_M_takeOut_29 rfl (lv_at hl 2 rfl) ?_
      refine lv_iconst (v := nI 1) hx hb d_M_takeOut_30 (by decide) ?_
      refine n_iadd hx hb d_M_takeOut_31 ?_
      refine x_iald (v := (T 9 (j + 1))) cf hK hP (ia9 X) (by omega) rfl d_M_takeOut_32 ?_
      refine x_iast cf hK hD hP hS (ia9 X) (by omega) d_M_takeOut_33 (fun H locs hP hS => ?_)
      refine lv_aload_n hx hb d_M_takeOut_34 rfl (lv_at hl 0 rfl) ?_
      refine x_getM (v := .ref (X.2.2.2 11)) cf hK hP 18 (by decide) w_479 rfl d_M_takeOut_35 ?_
      refine lv_iload_n hx hb d_M_takeOut_38 rfl (lv_at hl 2 rfl) ?_
      refine lv_aload_n hx hb d_M_takeOut_39 rfl (lv_at hl 0 rfl) ?_
      refine x_getM (v := .ref (X.2.2.2 11)) cf hK hP 18 (by decide) w_479 rfl d_M_takeOut_40 ?_
      refine lv_iload_n hx hb d_M_takeOut_43 rfl (lv_at hl 2 rfl) ?_
      refine lv_iconst (v := nI 1) hx hb d_M_takeOut_44 (by decide) ?_
      refine n_iadd hx hb d_M_takeOut_45 ?_
      refine x_iald (v := (T 11 (j + 1))) cf hK hP (ia11 X) (by omega) (by simp [up2_at]) d_M_takeOut_46 ?_
      refine x_iast cf hK hD hP hS (ia11 X) (by omega) d_M_takeOut_47 (fun H locs hP hS => ?_)
      refine lv_aload_n hx hb d_M_takeOut_48 rfl (lv_at hl 0 rfl) ?_
      refine x_getM (v := .ref (X.2.2.2 10)) cf hK hP 17 (by decide) w_478 rfl d_M_takeOut_49 ?_
      refine lv_iload_n hx hb d_M_takeOut_52 rfl (lv_at hl 2 rfl) ?_
      refine lv_aload_n hx hb d_M_takeOut_53 rfl (lv_at hl 0 rfl) ?_
      refine x_getM (v := .ref (X.2.2.2 10)) cf hK hP 17 (by decide) w_478 rfl d_M_takeOut_54 ?_
      refine lv_iload_n hx hb d_M_takeOut_57 rfl (lv_at hl 2 rfl) ?_
      refine lv_iconst (v := nI 1) hx hb d_M_takeOut_58 (by decide) ?_
      refine n_iadd hx hb d_M_takeOut_59 ?_
      refine x_iald (v := (T 10 (j + 1))) cf hK hP (ia10 X) (by omega) (by simp [up2_at]) d_M_takeOut_60 ?_
      refine x_iast cf hK hD hP hS (ia10 X) (by omega) d_M_takeOut_61 (fun H locs hP hS => ?_)
      refine lv_aload_n hx hb d_M_takeOut_62 rfl (lv_at hl 0 rfl) ?_
      refine x_getM (v := .ref (X.2.2.2 12)) cf hK hP 19 (by decide) w_480 rfl d_M_takeOut_63 ?_
      refine lv_iload_n hx hb d_M_takeOut_66 rfl (lv_at hl 2 rfl) ?_
      refine lv_aload_n hx hb d_M_takeOut_67 rfl (lv_at hl 0 rfl) ?_
      refine x_getM (v := .ref (X.2.2.2 12)) cf hK hP 19 (by decide) w_480 rfl d_M_takeOut_68 ?_
      refine lv_iload_n hx hb d_M_takeOut_71 rfl (lv_at hl 2 rfl) ?_
      refine lv_iconst (v := nI 1) hx hb d_M_takeOut_72 (by decide) ?_
      refine n_iadd hx hb d_M_takeOut_73 ?_
      refine x_iald (v := (T 12 (j + 1))) cf hK hP (ia12 X) (by omega) (by simp [up2_at]) d_M_takeOut_74 ?_
      refine x_iast cf hK hD hP hS (ia12 X) (by omega) d_M_takeOut_75 (fun H locs hP hS => ?_)
      refine lv_aload_n hx hb d_M_takeOut_76 rfl (lv_at hl 0 rfl) ?_
      refine x_getM (v := .ref (X.2.2.2 13)) cf hK hP 20 (by decide) w_481 rfl d_M_takeOut_77 ?_
      refine lv_iload_n hx hb d_M_takeOut_80 rfl (lv_at hl 2 rfl) ?_
      refine lv_aload_n hx hb d_M_takeOut_81 rfl (lv_at hl 0 rfl) ?_
      refine x_getM (v := .ref (X.2.2.2 13)) cf hK hP 20 (by decide) w_481 rfl d_M_takeOut_82 ?_
      refine lv_iload_n hx hb d_M_takeOut_85 rfl (lv_at hl 2 rfl) ?_
      refine lv_iconst (v := nI 1) hx hb d_M_takeOut_86 (by decide) ?_
      refine n_iadd hx hb d_M_takeOut_87 ?_
      refine x_iald (v := (T 13 (j + 1))) cf hK hP (ia13 X) (by omega) (by simp [up2_at]) d_M_takeOut_88 ?_
      refine x_iast cf hK hD hP hS (ia13 X) (by omega) d_M_takeOut_89 (fun H locs hP hS => ?_)
      refine n_iinc1 (lv' := [(2, .int (nI (j + 1))), (0, .ref (X.2.2.2 0)), (1, .int (nI i))]) (k := 2) hx hb d_M_takeOut_90 hl rfl (by decide) rfl (fun ls hl => ?_)
      refine lv_goto (tgt := 12) hx hb d_M_takeOut_93 (by decide) ?_
      exact lp12 _ (by omega) (j + 1) (up2 (up2 (up2 (up2 (up2 T 9 j (T 9 (j + 1))) 11 j (T 11 (j + 1))) 10 j (T 10 (j + 1))) 12 j (T 12 (j + 1))) 13 j (T 13 (j + 1))) ls H locs (lv_sub hl [1, 2, 0] rfl) hP hS (by omega) (by simp [up2_at]; exact hT6) (by rw [itr_b _ _ hj.1, ← hz]; rfl) rfl
  exact lp12 _ i (up2 S 0 6 ((S 0 6) - 1)) ls H locs (lv_sub hl [1, 2, 0] rfl) hP hS (by omega) (by simp [up2_at]) (by rw [Nat.sub_self]; rfl) rfl
