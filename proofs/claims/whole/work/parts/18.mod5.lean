def rForgeOk (S : Nat → Nat → Nat) (p v set : Int32) : Bool := mBlock S p && mCert S p.toNatClampNeg && decide ((S 5 p.toNatClampNeg : Int) < v.toInt) && decide (v.toInt ≤ 9999) && decide (S 0 5 < 40) && decide (S 0 3 / 2 ^ mLeader S v.toNatClampNeg % 2 = 1) && decide (0 ≤ set.toInt ∧ set.toInt < ((2 ^ S 0 4 : Nat) : Int))
def rForge (S : Nat → Nat → Nat) (p v set : Int32) : Int32 := if rForgeOk S p v set = true then nI (S 0 5) else -1
def mForge (S : Nat → Nat → Nat) (p v set : Int32) : Nat → Nat → Nat := if rForgeOk S p v set = true then mNewBlock S v.toNatClampNeg p.toNatClampNeg set.toNatClampNeg else S
def rFlow (S : Nat → Nat → Nat) (m : Int32) : Int32 := if 0 ≤ m.toInt ∧ m.toInt ≤ 40 then nI (mFlowN m.toNatClampNeg S) else -1
def mFlow (S : Nat → Nat → Nat) (m : Int32) : Nat → Nat → Nat := if 0 ≤ m.toInt ∧ m.toInt ≤ 40 then mFlowS m.toNatClampNeg S else S
theorem mTick1_rows {S : Nat → Nat → Nat} {r row : Nat} (h1 : row ≠ 14) (h2 : row ≠ 15) (h3 : row ≠ 16) : mTick1 S r row = S row := by
  unfold mTick1
  rw [up2_ne _ _ _ h3, mEnter_ne h1 h2, up2_ne _ _ _ h2]
set_option maxRecDepth 100000 in
set_option maxHeartbeats 4000000 in
theorem k_M_deliver (l : Launch) {X : WX} (hX : xInj X) {S : Nat → Nat → Nat} {V : Nat} (hI : IW V S) (hM : MI V S) (i : Int32) : MetI l X y_M_deliver (Cond.code y_M_deliver c_M_deliver 7 (some .int) :: Mst) 3 [.ref (X.2.2.2 0), .int i] S (rDeliver S i) (mDeliver S i) := by
  refine MetI.of (by decide) (Nat.le_of_ble_eq_true rfl) ?_
  intro p e s m args below meth c cf hr hlk hP hK hN ls hl
  have hl : lv_has ls 7 [(0, .ref (X.2.2.2 0)), (1, .int i)] := hl
  have hx := cf.1
  have hb := cf.2.1
  have hD := xD_of hX
  have hS : va_S (xA X) s.heap s.heap [] := va_S.rf
  have hf := hI.f
  have hn := hI.n
  have hk := hI.k
  have hcs := hI.cs
  have ht := hI.t
  have hbl := hI.b
  have hm := hI.m
  have hV := hI.V
  obtain ⟨H, hH⟩ : ∃ H, H = s.heap := ⟨_, rfl⟩
  obtain ⟨locs, hlo⟩ : ∃ z : List Loc, z = [] := ⟨_, rfl⟩
  suffices hgo : PW X S H → va_S (xA X) s.heap H locs → W p l e (rmd 3) s m args below meth c H locs 0 0 (MQ below (QcI X (rDeliver S i) (mDeliver S i)) args s 0 0 (xA X)) (F0 m 0 ls []) by
    subst hH
    subst hlo
    exact hgo hP hS
  clear hP hS
  intro hP hS
  refine lv_iload_n hx hb d_M_deliver_0 rfl (lv_at hl 1 rfl) ?_
  refine lv_if_lt (tgt := 12) hx hb d_M_deliver_1 (by decide) (fun h1 => ?_) (fun h1 => ?_)
  · skip
    have uh1 := i_lt0 h1
    have hno := rMsg_no (S := S) (i := i) (by omega)
    refine lv_iconst (v := (-1)) hx hb d_M_deliver_12 (by decide) ?_
    exact x_iret cf hr hlk hP hS (by unfold rDeliver; rw [hno]; rfl) (by unfold mDeliver; rw [hno]; rfl) d_M_deliver_13
  · skip
    have uh1 := i_nlt0 h1
    refine lv_iload_n hx hb d_M_deliver_4 rfl (lv_at hl 1 rfl) ?_
    refine lv_aload_n hx hb d_M_deliver_5 rfl (lv_at hl 0 rfl) ?_
    refine x_getM (v := .int (nI (S 0 6))) cf hK hP 14 (by decide) w_475 rfl d_M_deliver_6 ?_
    refine lv_icmp_lt (tgt := 14) hx hb d_M_deliver_9 (by decide) (fun h2 => ?_) (fun h2 => ?_)
    · skip
      have uh2 := i_ltN (by omega) h2
      obtain ⟨j, hj, rfl, hjt, hjc⟩ := i_nat uh1
      have hj6 : j < S 0 6 := by omega
      have hms := rMsg_yes hm hj6
      refine lv_aload_n hx hb d_M_deliver_14 rfl (lv_at hl 0 rfl) ?_
      refine x_getM (v := .ref (X.2.2.2 9)) cf hK hP 16 (by decide) w_477 rfl d_M_deliver_15 ?_
      refine lv_iload_n hx hb d_M_deliver_18 rfl (lv_at hl 1 rfl) ?_
      refine x_iald (v := (S 9 j)) cf hK hP (ia9 X) (by omega) rfl d_M_deliver_19 ?_
      refine lv_istore_n (lv' := [(2, .int (nI (S 9 j))), (0, .ref (X.2.2.2 0)), (1, .int (nI j))]) hx hb d_M_deliver_20 rfl hl (by decide) rfl (fun ls hl => ?_)
      refine lv_aload_n hx hb d_M_deliver_21 rfl (lv_at hl 1 rfl) ?_
      refine x_getM (v := .ref (X.2.2.2 11)) cf hK hP 18 (by decide) w_479 rfl d_M_deliver_22 ?_
      refine lv_iload_n hx hb d_M_deliver_25 rfl (lv_at hl 2 rfl) ?_
      refine x_iald (v := (S 11 j)) cf hK hP (ia11 X) (by omega) rfl d_M_deliver_26 ?_
      refine lv_istore_n (lv' := [(3, .int (nI (S 11 j))), (2, .int (nI (S 9 j))), (0, .ref (X.2.2.2 0)), (1, .int (nI j))]) hx hb d_M_deliver_27 rfl hl (by decide) rfl (fun ls hl => ?_)
      refine lv_aload_n hx hb d_M_deliver_28 rfl (lv_at hl 2 rfl) ?_
      refine x_getM (v := .ref (X.2.2.2 10)) cf hK hP 17 (by decide) w_478 rfl d_M_deliver_29 ?_
      refine lv_iload_n hx hb d_M_deliver_32 rfl (lv_at hl 3 rfl) ?_
      refine x_iald (v := (S 10 j)) cf hK hP (ia10 X) (by omega) rfl d_M_deliver_33 ?_
      refine lv_istore (lv' := [(4, .int (nI (S 10 j))), (3, .int (nI (S 11 j))), (2, .int (nI (S 9 j))), (0, .ref (X.2.2.2 0)), (1, .int (nI j))]) hx hb d_M_deliver_34 hl (by decide) rfl (fun ls hl => ?_)
      refine lv_aload_n hx hb d_M_deliver_36 rfl (lv_at hl 3 rfl) ?_
      refine x_getM (v := .ref (X.2.2.2 12)) cf hK hP 19 (by decide) w_480 rfl d_M_deliver_37 ?_
      refine lv_iload_n hx hb d_M_deliver_40 rfl (lv_at hl 4 rfl) ?_
      refine x_iald (v := (S 12 j)) cf hK hP (ia12 X) (by omega) rfl d_M_deliver_41 ?_
      refine lv_istore (lv' := [(5, .int (nI (S 12 j))), (4, .int (nI (S 10 j))), (3, .int (nI (S 11 j))), (2, .int (nI (S 9 j))), (0, .ref (X.2.2.2 0)), (1, .int (nI j))]) hx hb d_M_deliver_42 hl (by decide) rfl (fun ls hl => ?_)
      refine lv_aload_n hx hb d_M_deliver_44 rfl (lv_at hl 4 rfl) ?_
      refine x_getM (v := .ref (X.2.2.2 13)) cf hK hP 20 (by decide) w_481 rfl d_M_deliver_45 ?_
      refine lv_iload_n hx hb d_M_deliver_48 rfl (lv_at hl 5 rfl) ?_
      refine x_iald (v := (S 13 j)) cf hK hP (ia13 X) (by omega) rfl d_M_deliver_49 ?_
      refine lv_istore (lv' := [(6, .int (nI (S 13 j))), (5, .int (nI (S 12 j))), (4, .int (nI (S 10 j))), (3, .int (nI (S 11 j))), (2, .int (nI (S 9 j))), (0, .ref (X.2.2.2 0)), (1, .int (nI j))]) hx hb d_M_deliver_50 hl (by decide) rfl (fun ls hl => ?_)
      refine lv_aload_n hx hb d_M_deliver_52 rfl (lv_at hl 5 rfl) ?_
      refine lv_iload_n hx hb d_M_deliver_53 rfl (lv_at hl 6 rfl) ?_
      refine x_callVv (As := [.int (nI j)]) (rest := []) cf hK hN hP hS (k_M_takeOut l hX hI (by omega)) (cw_M_takeOut cf.2.2.2.2 w_607 ⟨Nat.le_of_ble_eq_true rfl, Nat.le_of_ble_eq_true rfl⟩) (rv_M hK hP) hl.1 rfl rfl (Nat.le_of_ble_eq_true rfl) ⟨Nat.zero_le _, Nat.zero_le _⟩ d_M_deliver_54 (fun H locs hP hS => ?_)
      obtain ⟨T1, hT1⟩ : ∃ z, z = (mTake S j) := ⟨_, rfl⟩
      rw [← hT1] at hP
      have hI1 : IW V T1 := by rw [hT1]; exact hI.take
      have e01 : T1 0 1 = S 0 1 := by rw [hT1]; exact mTake_0 (by decide)
      have e03 : T1 0 3 = S 0 3 := by rw [hT1]; exact mTake_0 (by decide)
      have e05 : T1 0 5 = S 0 5 := by rw [hT1]; exact mTake_0 (by decide)
      refine lv_aload_n hx hb d_M_deliver_57 rfl (lv_at hl 5 rfl) ?_
      refine lv_iload hx hb d_M_deliver_58 (lv_at hl 2 rfl) ?_
      refine x_callVi (As := [.int (nI (S 10 j))]) (rest := []) cf hK hN hP hS (k_M_isCorrupt l hX hI1 (nI (S 10 j))) (cw_M_isCorrupt cf.2.2.2.2 w_611 ⟨Nat.le_of_ble_eq_true rfl, Nat.le_of_ble_eq_true rfl⟩) (rv_M hK hP) hl.1 rfl rfl (Nat.le_of_ble_eq_true rfl) ⟨Nat.zero_le _, Nat.zero_le _⟩ d_M_deliver_60 (fun H locs hP hS => ?_)
      have hcj : mCorrupt T1 (nI (S 10 j)) = decide (S 0 3 / 2 ^ S 10 j % 2 = 1) := by have := (show S 10 j < S 0 1 from hI.c 10 j); rw [mCorrupt_nI (by omega) (by omega), e03]
      refine n_if_eq (tgt := 68) hx hb d_M_deliver_63 (by decide) (tnat_lt _) (fun h3 => ?_) (fun h3 => ?_)
      · skip
        have hc0 : ¬ S 0 3 / 2 ^ S 10 j % 2 = 1 := fun q => by rw [hcj, decide_eq_true q] at h3; exact absurd h3 (by decide)
        refine lv_iload_n hx hb d_M_deliver_68 rfl (lv_at hl 4 rfl) ?_
        refine n_if_ne (tgt := 83) hx hb d_M_deliver_69 (by decide) (by have := (show S 9 j ≤ 2 from hI.c 9 j); omega) (fun h4 => ?_) (fun h4 => ?_)
        · skip
          refine lv_iload_n hx hb d_M_deliver_83 rfl (lv_at hl 4 rfl) ?_
          refine lv_iconst (v := nI 1) hx hb d_M_deliver_84 (by decide) ?_
          refine n_icmp_ne (tgt := 100) hx hb d_M_deliver_85 (by decide) (by have := (show S 9 j ≤ 2 from hI.c 9 j); omega) (by decide) (fun h5 => ?_) (fun h5 => ?_)
          · skip
            refine lv_aload_n hx hb d_M_deliver_100 rfl (lv_at hl 5 rfl) ?_
            refine lv_iload hx hb d_M_deliver_101 (lv_at hl 2 rfl) ?_
            refine lv_iload_n hx hb d_M_deliver_103 rfl (lv_at hl 3 rfl) ?_
            refine lv_iload hx hb d_M_deliver_104 (lv_at hl 1 rfl) ?_
            refine lv_iload hx hb d_M_deliver_106 (lv_at hl 0 rfl) ?_
            refine x_callVv (As := [.int (nI (S 10 j)), .int (nI (S 11 j)), .int (nI (S 12 j)), .int (nI (S 13 j))]) (rest := []) cf hK hN hP hS (k_M_getNewView l hX hI1 (by have := (show S 10 j < S 0 1 from hI.c 10 j); omega) (by have := (show S 11 j < S 0 1 from hI.c 11 j); omega) (by have := (show S 12 j < S 0 5 from hI.c 12 j); omega) (by have := (show S 13 j < 2147483648 from hI.c 13 j); omega) (fun q => hM j (by rw [← e03]; exact q))) (cw_M_getNewView cf.2.2.2.2 w_638 ⟨Nat.le_of_ble_eq_true rfl, Nat.le_of_ble_eq_true rfl⟩) (rv_M hK hP) hl.1 rfl rfl (Nat.le_of_ble_eq_true rfl) ⟨Nat.zero_le _, Nat.zero_le _⟩ d_M_deliver_108 (fun H locs hP hS => ?_)
            refine lv_iconst (v := nI 1) hx hb d_M_deliver_111 (by decide) ?_
            exact x_iret cf hr hlk hP hS (by unfold rDeliver; rw [hms, hjc]; show nI 1 = nI (if S 0 3 / 2 ^ S 10 j % 2 = 1 then 0 else 1); rw [if_neg hc0]) (by unfold mDeliver; rw [hms, hjc]; show _ = mHand S j; unfold mHand; rw [← hT1]; rw [if_neg hc0, if_neg (by omega), if_neg (by omega)]) d_M_deliver_112
          · skip
            refine lv_aload_n hx hb d_M_deliver_88 rfl (lv_at hl 5 rfl) ?_
            refine lv_iload hx hb d_M_deliver_89 (lv_at hl 2 rfl) ?_
            refine lv_iload_n hx hb d_M_deliver_91 rfl (lv_at hl 3 rfl) ?_
            refine lv_iload hx hb d_M_deliver_92 (lv_at hl 1 rfl) ?_
            refine x_callVv (As := [.int (nI (S 10 j)), .int (nI (S 11 j)), .int (nI (S 12 j))]) (rest := []) cf hK hN hP hS (k_M_getVote l hX hI1 (by have := (show S 10 j < S 0 1 from hI.c 10 j); omega) (by have := (show S 11 j < S 0 1 from hI.c 11 j); omega) (by have := (show S 12 j < S 0 5 from hI.c 12 j); omega)) (cw_M_getVote cf.2.2.2.2 w_631 ⟨Nat.le_of_ble_eq_true rfl, Nat.le_of_ble_eq_true rfl⟩) (rv_M hK hP) hl.1 rfl rfl (Nat.le_of_ble_eq_true rfl) ⟨Nat.zero_le _, Nat.zero_le _⟩ d_M_deliver_94 (fun H locs hP hS => ?_)
            refine lv_goto (tgt := 111) hx hb d_M_deliver_97 (by decide) ?_
            refine lv_iconst (v := nI 1) hx hb d_M_deliver_111 (by decide) ?_
            exact x_iret cf hr hlk hP hS (by unfold rDeliver; rw [hms, hjc]; show nI 1 = nI (if S 0 3 / 2 ^ S 10 j % 2 = 1 then 0 else 1); rw [if_neg hc0]) (by unfold mDeliver; rw [hms, hjc]; show _ = mHand S j; unfold mHand; rw [← hT1]; rw [if_neg hc0, if_neg (by omega), if_pos (by omega)]) d_M_deliver_112
        · skip
          refine lv_aload_n hx hb d_M_deliver_72 rfl (lv_at hl 5 rfl) ?_
          refine lv_iload hx hb d_M_deliver_73 (lv_at hl 2 rfl) ?_
          refine lv_iload hx hb d_M_deliver_75 (lv_at hl 1 rfl) ?_
          refine x_callVv (As := [.int (nI (S 10 j)), .int (nI (S 12 j))]) (rest := []) cf hK hN hP hS (k_M_getProposal l hX hI1 (by have := (show S 10 j < S 0 1 from hI.c 10 j); omega) (by have := (show S 12 j < S 0 5 from hI.c 12 j); omega)) (cw_M_getProposal cf.2.2.2.2 w_615 ⟨Nat.le_of_ble_eq_true rfl, Nat.le_of_ble_eq_true rfl⟩) (rv_M hK hP) hl.1 rfl rfl (Nat.le_of_ble_eq_true rfl) ⟨Nat.zero_le _, Nat.zero_le _⟩ d_M_deliver_77 (fun H locs hP hS => ?_)
          refine lv_goto (tgt := 111) hx hb d_M_deliver_80 (by decide) ?_
          refine lv_iconst (v := nI 1) hx hb d_M_deliver_111 (by decide) ?_
          exact x_iret cf hr hlk hP hS (by unfold rDeliver; rw [hms, hjc]; show nI 1 = nI (if S 0 3 / 2 ^ S 10 j % 2 = 1 then 0 else 1); rw [if_neg hc0]) (by unfold mDeliver; rw [hms, hjc]; show _ = mHand S j; unfold mHand; rw [← hT1]; rw [if_neg hc0, if_pos (by omega)]) d_M_deliver_112
      · skip
        have hc1 : S 0 3 / 2 ^ S 10 j % 2 = 1 := by have q := tnat_1 h3; rw [hcj] at q; exact of_decide_eq_true q
        refine lv_iconst (v := nI 0) hx hb d_M_deliver_66 (by decide) ?_
        exact x_iret cf hr hlk hP hS (by unfold rDeliver; rw [hms, hjc]; show nI 0 = nI (if S 0 3 / 2 ^ S 10 j % 2 = 1 then 0 else 1); rw [if_pos hc1]) (by unfold mDeliver; rw [hms, hjc]; show _ = mHand S j; unfold mHand; rw [← hT1]; rw [if_pos hc1]) d_M_deliver_67
    · skip
      have uh2 := i_nltN (by omega) h2
      have hno := rMsg_no (S := S) (i := i) (by omega)
      refine lv_iconst (v := (-1)) hx hb d_M_deliver_12 (by decide) ?_
      exact x_iret cf hr hlk hP hS (by unfold rDeliver; rw [hno]; rfl) (by unfold mDeliver; rw [hno]; rfl) d_M_deliver_13
set_option maxRecDepth 100000 in
set_option maxHeartbeats 4000000 in
theorem k_M_flow (l : Launch) {X : WX} (hX : xInj X) {S : Nat → Nat → Nat} {V : Nat} (hI : IW V S) (hM : MI V S) (mm : Int32) : MetI l X y_M_flow (Cond.code y_M_flow c_M_flow 3 (some .int) :: Mst) 4 [.ref (X.2.2.2 0), .int mm] S (rFlow S mm) (mFlow S mm) := by
  refine MetI.of (by decide) (Nat.le_of_ble_eq_true rfl) ?_
  intro p e s m args below meth c cf hr hlk hP hK hN ls hl
  have hl : lv_has ls 3 [(0, .ref (X.2.2.2 0)), (1, .int mm)] := hl
  have hx := cf.1
  have hb := cf.2.1
  have hD := xD_of hX
  have hS : va_S (xA X) s.heap s.heap [] := va_S.rf
  have hf := hI.f
  have hn := hI.n
  have hk := hI.k
  have hcs := hI.cs
  have ht := hI.t
  have hbl := hI.b
  have hm := hI.m
  have hV := hI.V
  obtain ⟨H, hH⟩ : ∃ H, H = s.heap := ⟨_, rfl⟩
  obtain ⟨locs, hlo⟩ : ∃ z : List Loc, z = [] := ⟨_, rfl⟩
  suffices hgo : PW X S H → va_S (xA X) s.heap H locs → W p l e (rmd 4) s m args below meth c H locs 0 0 (MQ below (QcI X (rFlow S mm) (mFlow S mm)) args s 0 0 (xA X)) (F0 m 0 ls []) by
    subst hH
    subst hlo
    exact hgo hP hS
  clear hP hS
  intro hP hS
  refine lv_iload_n hx hb d_M_flow_0 rfl (lv_at hl 1 rfl) ?_
  refine lv_if_lt (tgt := 10) hx hb d_M_flow_1 (by decide) (fun h1 => ?_) (fun h1 => ?_)
  · skip
    have uh1 := i_lt0 h1
    refine lv_iconst (v := (-1)) hx hb d_M_flow_10 (by decide) ?_
    exact x_iret cf hr hlk hP hS (by unfold rFlow; rw [if_neg (by omega)]) (by unfold mFlow; rw [if_neg (by omega)]) d_M_flow_11
  · skip
    have uh1 := i_nlt0 h1
    refine lv_iload_n hx hb d_M_flow_4 rfl (lv_at hl 1 rfl) ?_
    refine lv_bipush (v := nI 40) hx hb d_M_flow_5 (by decide) ?_
    refine lv_icmp_le (tgt := 12) hx hb d_M_flow_7 (by decide) (fun h2 => ?_) (fun h2 => ?_)
    · skip
      have uh2 := i_leN (by decide) h2
      obtain ⟨k, hk31, rfl, hkt, hkc⟩ := i_nat uh1
      have hk40 : k ≤ 40 := by omega
      refine lv_iconst (v := nI 0) hx hb d_M_flow_12 (by decide) ?_
      refine lv_istore_n (lv' := [(2, .int (nI 0)), (0, .ref (X.2.2.2 0)), (1, .int (nI k))]) hx hb d_M_flow_13 rfl hl (by decide) rfl (fun ls hl => ?_)
      have lp14 : ∀ (dm : Nat) (dn : Nat) (T : Nat → Nat → Nat) (ls : Array Slot) (H : Heap) (locs : List Loc), lv_has ls 3 [(0, .ref (X.2.2.2 0)), (1, .int (nI k)), (2, .int (nI dn))] → PW X T H → va_S (xA X) s.heap H locs → (dn ≤ k) → (IW V T) → (MI V T) → (mFlowS k S = mFlowS (k - dn) T) → (mFlowN k S = mFlowN (k - dn) T + dn) → (k - dn = dm) → W p l e (rmd 4) s m args below meth c H locs 0 0 (MQ below (QcI X (rFlow S (nI k)) (mFlow S (nI k))) args s 0 0 (xA X)) (F0 m 14 ls []) := by
        intro dm
        induction dm using Nat.strongRecOn with | ind dm lp14 => ?_
        intro dn T ls H locs hl hP hS hdn hIT hMT hzS hzN hdm
        have hmT := hIT.m
        refine lv_iload_n hx hb d_M_flow_14 rfl (lv_at hl 2 rfl) ?_
        refine lv_iload_n hx hb d_M_flow_15 rfl (lv_at hl 1 rfl) ?_
        refine n_icmp_ge (tgt := 38) hx hb d_M_flow_16 (by decide) (by omega) (by omega) (fun h3 => ?_) (fun h3 => ?_)
        · skip
          refine lv_iload_n hx hb d_M_flow_38 rfl (lv_at hl 2 rfl) ?_
          exact x_iret cf hr hlk hP hS (by unfold rFlow; rw [if_pos (by omega), hkc, hzN, show k - dn = 0 by omega]; show nI dn = nI (0 + dn); rw [Nat.zero_add]) (by unfold mFlow; rw [if_pos (by omega), hkc, hzS, show k - dn = 0 by omega]; rfl) d_M_flow_39
        · skip
          refine lv_aload_n hx hb d_M_flow_19 rfl (lv_at hl 0 rfl) ?_
          refine x_getM (v := .int (nI (T 0 6))) cf hK hP 14 (by decide) w_475 rfl d_M_flow_20 ?_
          refine n_if_le (tgt := 38) hx hb d_M_flow_23 (by decide) (by omega) (fun h4 => ?_) (fun h4 => ?_)
          · skip
            refine lv_iload_n hx hb d_M_flow_38 rfl (lv_at hl 2 rfl) ?_
            exact x_iret cf hr hlk hP hS (by unfold rFlow; rw [if_pos (by omega), hkc, hzN, show k - dn = (k - (dn + 1)) + 1 by omega]; show nI dn = nI ((if 0 < T 0 6 then _ else 0) + dn); rw [if_neg (by omega), Nat.zero_add]) (by unfold mFlow; rw [if_pos (by omega), hkc, hzS, show k - dn = (k - (dn + 1)) + 1 by omega]; show T = (if 0 < T 0 6 then _ else T); rw [if_neg (by omega)]) d_M_flow_39
          · skip
            refine lv_aload_n hx hb d_M_flow_26 rfl (lv_at hl 0 rfl) ?_
            refine lv_iconst (v := nI 0) hx hb d_M_flow_27 (by decide) ?_
            refine x_callVi (As := [.int (nI 0)]) (rest := []) cf hK hN hP hS (k_M_deliver l hX hIT hMT (nI 0)) (cw_M_deliver cf.2.2.2.2 w_646 ⟨Nat.le_of_ble_eq_true rfl, Nat.le_of_ble_eq_true rfl⟩) (rv_M hK hP) hl.1 rfl rfl (Nat.le_of_ble_eq_true rfl) ⟨Nat.zero_le _, Nat.zero_le _⟩ d_M_flow_28 (fun H locs hP hS => ?_)
            have hms := rMsg_yes hIT.m (show 0 < T 0 6 by omega)
            have hmd : mDeliver T (nI 0) = mHand T 0 := by unfold mDeliver; rw [hms]; rfl
            rw [hmd] at hP
            have hkp := hand_keeps hIT hMT (show 0 < T 0 6 by omega)
            have hst : mFlowS (k - dn) T = mFlowS (k - (dn + 1)) (mHand T 0) := by rw [show k - dn = (k - (dn + 1)) + 1 by omega]; show (if 0 < T 0 6 then _ else _) = _; rw [if_pos (by omega)]
            have hsn : mFlowN (k - dn) T = mFlowN (k - (dn + 1)) (mHand T 0) + 1 := by rw [show k - dn = (k - (dn + 1)) + 1 by omega]; show (if 0 < T 0 6 then _ else _) = _; rw [if_pos (by omega)]
            refine lv_pop hx hb d_M_flow_31 rfl ?_
            refine n_iinc1 (lv' := [(2, .int (nI (dn + 1))), (0, .ref (X.2.2.2 0)), (1, .int (nI k))]) (k := 2) hx hb d_M_flow_32 hl rfl (by decide) rfl (fun ls hl => ?_)
            refine lv_goto (tgt := 14) hx hb d_M_flow_35 (by decide) ?_
            exact lp14 _ (by omega) (dn + 1) (mHand T 0) ls H locs (lv_sub hl [1, 2, 0] rfl) hP hS (by omega) (hkp.1) (hkp.2) (by rw [hzS, hst]) (by rw [hzN, hsn]; omega) rfl
      exact lp14 _ 0 S ls H locs (lv_sub hl [1, 2, 0] rfl) hP hS (by omega) (hI) (hM) (rfl) (rfl) rfl
    · skip
      have uh2 := i_nleN (by decide) h2
      refine lv_iconst (v := (-1)) hx hb d_M_flow_10 (by decide) ?_
      exact x_iret cf hr hlk hP hS (by unfold rFlow; rw [if_neg (by omega)]) (by unfold mFlow; rw [if_neg (by omega)]) d_M_flow_11
set_option maxRecDepth 100000 in
set_option maxHeartbeats 4000000 in
theorem k_M_tick (l : Launch) {X : WX} (hX : xInj X) {S : Nat → Nat → Nat} {V : Nat} (hI : IW V S) (hV1 : V + 1 ≤ 20000) (r : Int32) : MetI l X y_M_tick (Cond.code y_M_tick c_M_tick 4 (some .int) :: Mst) 2 [.ref (X.2.2.2 0), .int r] S (rTick S r) (mTick S r) := by
  refine MetI.of (by decide) (Nat.le_of_ble_eq_true rfl) ?_
  intro p e s m args below meth c cf hr hlk hP hK hN ls hl
  have hl : lv_has ls 4 [(0, .ref (X.2.2.2 0)), (1, .int r)] := hl
  have hx := cf.1
  have hb := cf.2.1
  have hD := xD_of hX
  have hS : va_S (xA X) s.heap s.heap [] := va_S.rf
  have hf := hI.f
  have hn := hI.n
  have hk := hI.k
  have hcs := hI.cs
  have ht := hI.t
  have hbl := hI.b
  have hm := hI.m
  have hV := hI.V
  obtain ⟨H, hH⟩ : ∃ H, H = s.heap := ⟨_, rfl⟩
  obtain ⟨locs, hlo⟩ : ∃ z : List Loc, z = [] := ⟨_, rfl⟩
  suffices hgo : PW X S H → va_S (xA X) s.heap H locs → W p l e (rmd 2) s m args below meth c H locs 0 0 (MQ below (QcI X (rTick S r) (mTick S r)) args s 0 0 (xA X)) (F0 m 0 ls []) by
    subst hH
    subst hlo
    exact hgo hP hS
  clear hP hS
  intro hP hS
  refine lv_aload_n hx hb d_M_tick_0 rfl (lv_at hl 0 rfl) ?_
  refine lv_iload_n hx hb d_M_tick_1 rfl (lv_at hl 1 rfl) ?_
  refine x_callVi (As := [.int r]) (rest := []) cf hK hN hP hS (k_M_isCorrect l hX hI r) (cw_M_isCorrect cf.2.2.2.2 w_567 ⟨Nat.le_of_ble_eq_true rfl, Nat.le_of_ble_eq_true rfl⟩) (rv_M hK hP) hl.1 rfl rfl (Nat.le_of_ble_eq_true rfl) ⟨Nat.zero_le _, Nat.zero_le _⟩ d_M_tick_2 (fun H locs hP hS => ?_)
  refine n_if_ne (tgt := 10) hx hb d_M_tick_5 (by decide) (tnat_lt _) (fun h1 => ?_) (fun h1 => ?_)
  · skip
    obtain ⟨j, hj, rfl, hjb⟩ := mCorrect_ex (by omega) (tnat_1 h1)
    have hjc := nI_clamp (show j < 2 ^ 31 by omega)
    have hJ := hI.mono (show V ≤ V + 1 by omega) hV1
    refine lv_aload_n hx hb d_M_tick_10 rfl (lv_at hl 0 rfl) ?_
    refine x_getM (v := .ref (X.2.2.2 15)) cf hK hP 22 (by decide) w_483 rfl d_M_tick_11 ?_
    refine lv_iload_n hx hb d_M_tick_14 rfl (lv_at hl 1 rfl) ?_
    refine lv_dup2_11 hx hb d_M_tick_15 rfl rfl ?_
    refine x_iald (v := (S 15 j)) cf hK hP (ia15 X) (by omega) rfl d_M_tick_16 ?_
    refine lv_iconst (v := nI 1) hx hb d_M_tick_17 (by decide) ?_
    refine n_iadd hx hb d_M_tick_18 ?_
    refine x_iast cf hK hD hP hS (ia15 X) (by omega) d_M_tick_19 (fun H locs hP hS => ?_)
    refine lv_aload_n hx hb d_M_tick_20 rfl (lv_at hl 0 rfl) ?_
    refine x_getM (v := .ref (X.2.2.2 15)) cf hK hP 22 (by decide) w_483 rfl d_M_tick_21 ?_
    refine lv_iload_n hx hb d_M_tick_24 rfl (lv_at hl 1 rfl) ?_
    refine x_iald (v := ((S 15 j) + 1)) cf hK hP (ia15 X) (by omega) (by simp [up2_at]) d_M_tick_25 ?_
    refine lv_aload_n hx hb d_M_tick_26 rfl (lv_at hl 0 rfl) ?_
    refine x_getM (v := .ref (X.2.2.2 16)) cf hK hP 23 (by decide) w_484 rfl d_M_tick_27 ?_
    refine lv_iload_n hx hb d_M_tick_30 rfl (lv_at hl 1 rfl) ?_
    refine x_iald (v := (S 16 j)) cf hK hP (ia16 X) (by omega) (by simp [up2_at]) d_M_tick_31 ?_
    refine n_icmp_ne (tgt := 109) hx hb d_M_tick_32 (by decide) (by have := (show S 15 j ≤ V from hI.c 15 j); omega) (by have := (show S 16 j ≤ 32 from hI.c 16 j); omega) (fun h2 => ?_) (fun h2 => ?_)
    · skip
      refine lv_aload_n hx hb d_M_tick_109 rfl (lv_at hl 0 rfl) ?_
      refine x_getM (v := .ref (X.2.2.2 14)) cf hK hP 21 (by decide) w_482 rfl d_M_tick_110 ?_
      refine lv_iload_n hx hb d_M_tick_113 rfl (lv_at hl 1 rfl) ?_
      refine x_iald (v := (S 14 j)) cf hK hP (ia14 X) (by omega) (by simp [up2_at]) d_M_tick_114 ?_
      exact x_iret cf hr hlk hP hS (by unfold rTick; rw [tnat_1 h1, hjc]; show _ = nI (mTickN S j 14 j); unfold mTickN; rw [if_neg (by omega)]; simp [up2_at]) (by unfold mTick; rw [tnat_1 h1, hjc]; show _ = mTickN S j; unfold mTickN; rw [if_neg (by omega)]) d_M_tick_115
    · skip
      refine lv_aload_n hx hb d_M_tick_35 rfl (lv_at hl 0 rfl) ?_
      refine lv_iload_n hx hb d_M_tick_36 rfl (lv_at hl 1 rfl) ?_
      refine lv_aload_n hx hb d_M_tick_37 rfl (lv_at hl 0 rfl) ?_
      refine x_getM (v := .ref (X.2.2.2 14)) cf hK hP 21 (by decide) w_482 rfl d_M_tick_38 ?_
      refine lv_iload_n hx hb d_M_tick_41 rfl (lv_at hl 1 rfl) ?_
      refine x_iald (v := (S 14 j)) cf hK hP (ia14 X) (by omega) (by simp [up2_at]) d_M_tick_42 ?_
      refine lv_iconst (v := nI 1) hx hb d_M_tick_43 (by decide) ?_
      refine n_iadd hx hb d_M_tick_44 ?_
      refine x_callVv (As := [.int (nI j), .int (nI ((S 14 j) + 1))]) (rest := []) cf hK hN hP hS (k_M_enter l hX (hJ.up (k := 15) (j := j) (v := S 15 j + 1) (by decide) (show S 15 j + 1 ≤ V + 1 by have := (show S 15 j ≤ V from hI.c 15 j); omega)) (by omega)) (cw_M_enter cf.2.2.2.2 w_599 ⟨Nat.le_of_ble_eq_true rfl, Nat.le_of_ble_eq_true rfl⟩) (rv_M hK hP) hl.1 rfl rfl (Nat.le_of_ble_eq_true rfl) ⟨Nat.zero_le _, Nat.zero_le _⟩ d_M_tick_45 (fun H locs hP hS => ?_)
      obtain ⟨T1, hT1⟩ : ∃ z, z = (mEnter (up2 S 15 j ((S 15 j) + 1)) j ((S 14 j) + 1)) := ⟨_, rfl⟩
      rw [← hT1] at hP
      have hI1 : IW (V + 1) T1 := by rw [hT1]; exact (hJ.up (k := 15) (j := j) (v := S 15 j + 1) (by decide) (show S 15 j + 1 ≤ V + 1 by have := (show S 15 j ≤ V from hI.c 15 j); omega)).enter (by omega) (by have := (show S 14 j ≤ V ∧ _ from hI.c 14 j).1; omega)
      have h116 : T1 16 = S 16 := by rw [hT1, mEnter_ne (by decide) (by decide)]; rfl
      have h16j : T1 16 j = S 16 j := by rw [h116]
      refine lv_aload_n hx hb d_M_tick_48 rfl (lv_at hl 0 rfl) ?_
      refine x_getM (v := .ref (X.2.2.2 16)) cf hK hP 23 (by decide) w_484 rfl d_M_tick_49 ?_
      refine lv_iload_n hx hb d_M_tick_52 rfl (lv_at hl 1 rfl) ?_
      refine lv_aload_n hx hb d_M_tick_53 rfl (lv_at hl 0 rfl) ?_
      refine x_getM (v := .ref (X.2.2.2 16)) cf hK hP 23 (by decide) w_484 rfl d_M_tick_54 ?_
      refine lv_iload_n hx hb d_M_tick_57 rfl (lv_at hl 1 rfl) ?_
      refine x_iald (v := (T1 16 j)) cf hK hP (ia16 X) (by omega) rfl d_M_tick_58 ?_
      refine lv_bipush (v := nI 16) hx hb d_M_tick_59 (by decide) ?_
      refine n_icmp_le (tgt := 69) hx hb d_M_tick_61 (by decide) (by have := (show T1 16 j ≤ 32 from hI1.c 16 j); omega) (by decide) (fun h3 => ?_) (fun h3 => ?_)
      · skip
        refine lv_iconst (v := nI 2) hx hb d_M_tick_69 (by decide) ?_
        refine lv_aload_n hx hb d_M_tick_70 rfl (lv_at hl 0 rfl) ?_
        refine x_getM (v := .ref (X.2.2.2 16)) cf hK hP 23 (by decide) w_484 rfl d_M_tick_71 ?_
        refine lv_iload_n hx hb d_M_tick_74 rfl (lv_at hl 1 rfl) ?_
        refine x_iald (v := (T1 16 j)) cf hK hP (ia16 X) (by omega) rfl d_M_tick_75 ?_
        refine n_imul hx hb d_M_tick_76 ?_
        refine x_iast cf hK hD hP hS (ia16 X) (by omega) d_M_tick_77 (fun H locs hP hS => ?_)
        obtain ⟨T2, hT2⟩ : ∃ z, z = (up2 T1 16 j (2 * (T1 16 j))) := ⟨_, rfl⟩
        rw [← hT2] at hP
        have hI2 : IW (V + 1) T2 := by rw [hT2]; exact hI1.up (k := 16) (by decide) (show _ ≤ 32 by omega)
        have hG : T2 = mTick1 S j := by unfold mTick1; rw [hT2, ← hT1]; first | rw [if_pos (by omega)] | rw [if_neg (by omega), h16j]
        have h214 : T2 14 j = S 14 j + 1 := by rw [hG]; unfold mTick1 mEnter; simp [up2_at]
        have hn2 := hI2.n
        have hk2 := hI2.k
        refine lv_aload_n hx hb d_M_tick_78 rfl (lv_at hl 0 rfl) ?_
        refine lv_aload_n hx hb d_M_tick_79 rfl (lv_at hl 0 rfl) ?_
        refine x_getM (v := .ref (X.2.2.2 14)) cf hK hP 21 (by decide) w_482 rfl d_M_tick_80 ?_
        refine lv_iload_n hx hb d_M_tick_83 rfl (lv_at hl 1 rfl) ?_
        refine x_iald (v := (T2 14 j)) cf hK hP (ia14 X) (by omega) rfl d_M_tick_84 ?_
        refine x_callVi (As := [.int (nI (T2 14 j))]) (rest := []) cf hK hN hP hS (k_M_leader l hX hI2 (T2 14 j) (by have := (show T2 14 j ≤ (V + 1) ∧ (j < T2 0 1 → 1 ≤ T2 14 j) from hI2.c 14 j); omega)) (cw_M_leader cf.2.2.2.2 w_575 ⟨Nat.le_of_ble_eq_true rfl, Nat.le_of_ble_eq_true rfl⟩) (rv_M hK hP) hl.1 rfl rfl (Nat.le_of_ble_eq_true rfl) ⟨Nat.zero_le _, Nat.zero_le _⟩ d_M_tick_85 (fun H locs hP hS => ?_)
        have hle := mLeader_lt hI2 (T2 14 j)
        refine lv_istore_n (lv' := [(2, .int (nI (mLeader T2 (T2 14 j)))), (0, .ref (X.2.2.2 0)), (1, .int (nI j))]) hx hb d_M_tick_88 rfl hl (by decide) rfl (fun ls hl => ?_)
        refine lv_aload_n hx hb d_M_tick_89 rfl (lv_at hl 1 rfl) ?_
        refine lv_iload_n hx hb d_M_tick_90 rfl (lv_at hl 2 rfl) ?_
        refine x_callVi (As := [.int (nI j)]) (rest := []) cf hK hN hP hS (k_M_high l hX hI2 (by omega)) (cw_M_high cf.2.2.2.2 w_579 ⟨Nat.le_of_ble_eq_true rfl, Nat.le_of_ble_eq_true rfl⟩) (rv_M hK hP) hl.1 rfl rfl (Nat.le_of_ble_eq_true rfl) ⟨Nat.zero_le _, Nat.zero_le _⟩ d_M_tick_91 (fun H locs hP hS => ?_)
        have hhi := mHigh_lt hI2 j
        refine lv_istore_n (lv' := [(3, .int (nI (mHigh T2 j))), (2, .int (nI (mLeader T2 (T2 14 j)))), (0, .ref (X.2.2.2 0)), (1, .int (nI j))]) hx hb d_M_tick_94 rfl hl (by decide) rfl (fun ls hl => ?_)
        refine lv_aload_n hx hb d_M_tick_95 rfl (lv_at hl 2 rfl) ?_
        refine lv_iconst (v := nI 2) hx hb d_M_tick_96 (by decide) ?_
        refine lv_iload_n hx hb d_M_tick_97 rfl (lv_at hl 3 rfl) ?_
        refine lv_iload_n hx hb d_M_tick_98 rfl (lv_at hl 1 rfl) ?_
        refine lv_iload_n hx hb d_M_tick_99 rfl (lv_at hl 0 rfl) ?_
        refine lv_aload_n hx hb d_M_tick_100 rfl (lv_at hl 2 rfl) ?_
        refine x_getM (v := .ref (X.2.2.2 14)) cf hK hP 21 (by decide) w_482 rfl d_M_tick_101 ?_
        refine lv_iload_n hx hb d_M_tick_104 rfl (lv_at hl 3 rfl) ?_
        refine x_iald (v := (T2 14 j)) cf hK hP (ia14 X) (by omega) rfl d_M_tick_105 ?_
        refine x_callVv (As := [.int (nI 2), .int (nI j), .int (nI (mLeader T2 (T2 14 j))), .int (nI (mHigh T2 j)), .int (nI (T2 14 j))]) (rest := []) cf hK hN hP hS (k_M_send l hX hI2 2 j (mLeader T2 (T2 14 j)) (mHigh T2 j) (T2 14 j)) (cw_M_send cf.2.2.2.2 w_591 ⟨Nat.le_of_ble_eq_true rfl, Nat.le_of_ble_eq_true rfl⟩) (rv_M hK hP) hl.1 rfl rfl (Nat.le_of_ble_eq_true rfl) ⟨Nat.zero_le _, Nat.zero_le _⟩ d_M_tick_106 (fun H locs hP hS => ?_)
        obtain ⟨T3, hT3⟩ : ∃ z, z = (mSend T2 2 j (mLeader T2 (T2 14 j)) (mHigh T2 j) (T2 14 j)) := ⟨_, rfl⟩
        rw [← hT3] at hP
        have hT3e : T3 = mTickN S j := by unfold mTickN; rw [if_pos (by omega), hT3, h214, hG, mLeader_congr (T := mTick1 S j) (S := S) rfl rfl, mHigh_congr (T := mTick1 S j) (S := S) rfl (mTick1_rows (by decide) (by decide) (by decide)) (mTick1_rows (by decide) (by decide) (by decide))]
        refine lv_aload_n hx hb d_M_tick_109 rfl (lv_at hl 2 rfl) ?_
        refine x_getM (v := .ref (X.2.2.2 14)) cf hK hP 21 (by decide) w_482 rfl d_M_tick_110 ?_
        refine lv_iload_n hx hb d_M_tick_113 rfl (lv_at hl 3 rfl) ?_
        refine x_iald (v := (T3 14 j)) cf hK hP (ia14 X) (by omega) rfl d_M_tick_114 ?_
        exact x_iret cf hr hlk hP hS (by unfold rTick; rw [tnat_1 h1, hjc, ← hT3e]; rfl) (by unfold mTick; rw [tnat_1 h1, hjc]; show _ = mTickN S j; exact hT3e) d_M_tick_115
      · skip
        refine lv_bipush (v := nI 32) hx hb d_M_tick_64 (by decide) ?_
        refine lv_goto (tgt := 77) hx hb d_M_tick_66 (by decide) ?_
        refine x_iast cf hK hD hP hS (ia16 X) (by omega) d_M_tick_77 (fun H locs hP hS => ?_)
        obtain ⟨T2, hT2⟩ : ∃ z, z = (up2 T1 16 j 32) := ⟨_, rfl⟩
        rw [← hT2] at hP
        have hI2 : IW (V + 1) T2 := by rw [hT2]; exact hI1.up (k := 16) (by decide) (show _ ≤ 32 by omega)
        have hG : T2 = mTick1 S j := by unfold mTick1; rw [hT2, ← hT1]; first | rw [if_pos (by omega)] | rw [if_neg (by omega), h16j]
        have h214 : T2 14 j = S 14 j + 1 := by rw [hG]; unfold mTick1 mEnter; simp [up2_at]
        have hn2 := hI2.n
        have hk2 := hI2.k
        refine lv_aload_n hx hb d_M_tick_78 rfl (lv_at hl 0 rfl) ?_
        refine lv_aload_n hx hb d_M_tick_79 rfl (lv_at hl 0 rfl) ?_
        refine x_getM (v := .ref (X.2.2.2 14)) cf hK hP 21 (by decide) w_482 rfl d_M_tick_80 ?_
        refine lv_iload_n hx hb d_M_tick_83 rfl (lv_at hl 1 rfl) ?_
        refine x_iald (v := (T2 14 j)) cf hK hP (ia14 X) (by omega) rfl d_M_tick_84 ?_
        refine x_callVi (As := [.int (nI (T2 14 j))]) (rest := []) cf hK hN hP hS (k_M_leader l hX hI2 (T2 14 j) (by have := (show T2 14 j ≤ (V + 1) ∧ (j < T2 0 1 → 1 ≤ T2 14 j) from hI2.c 14 j); omega)) (cw_M_leader cf.2.2.2.2 w_575 ⟨Nat.le_of_ble_eq_true rfl, Nat.le_of_ble_eq_true rfl⟩) (rv_M hK hP) hl.1 rfl rfl (Nat.le_of_ble_eq_true rfl) ⟨Nat.zero_le _, Nat.zero_le _⟩ d_M_tick_85 (fun H locs hP hS => ?_)
        have hle := mLeader_lt hI2 (T2 14 j)
        refine lv_istore_n (lv' := [(2, .int (nI (mLeader T2 (T2 14 j)))), (0, .ref (X.2.2.2 0)), (1, .int (nI j))]) hx hb d_M_tick_88 rfl hl (by decide) rfl (fun ls hl => ?_)
        refine lv_aload_n hx hb d_M_tick_89 rfl (lv_at hl 1 rfl) ?_
        refine lv_iload_n hx hb d_M_tick_90 rfl (lv_at hl 2 rfl) ?_
        refine x_callVi (As := [.int (nI j)]) (rest := []) cf hK hN hP hS (k_M_high l hX hI2 (by omega)) (cw_M_high cf.2.2.2.2 w_579 ⟨Nat.le_of_ble_eq_true rfl, Nat.le_of_ble_eq_true rfl⟩) (rv_M hK hP) hl.1 rfl rfl (Nat.le_of_ble_eq_true rfl) ⟨Nat.zero_le _, Nat.zero_le _⟩ d_M_tick_91 (fun H locs hP hS => ?_)
        have hhi := mHigh_lt hI2 j
        refine lv_istore_n (lv' := [(3, .int (nI (mHigh T2 j))), (2, .int (nI (mLeader T2 (T2 14 j)))), (0, .ref (X.2.2.2 0)), (1, .int (nI j))]) hx hb d_M_tick_94 rfl hl (by decide) rfl (fun ls hl => ?_)
        refine lv_aload_n hx hb d_M_tick_95 rfl (lv_at hl 2 rfl) ?_
        refine lv_iconst (v := nI 2) hx hb d_M_tick_96 (by decide) ?_
        refine lv_iload_n hx hb d_M_tick_97 rfl (lv_at hl 3 rfl) ?_
        refine lv_iload_n hx hb d_M_tick_98 rfl (lv_at hl 1 rfl) ?_
        refine lv_iload_n hx hb d_M_tick_99 rfl (lv_at hl 0 rfl) ?_
        refine lv_aload_n hx hb d_M_tick_100 rfl (lv_at hl 2 rfl) ?_
        refine x_getM (v := .ref (X.2.2.2 14)) cf hK hP 21 (by decide) w_482 rfl d_M_tick_101 ?_
        refine lv_iload_n hx hb d_M_tick_104 rfl (lv_at hl 3 rfl) ?_
        refine x_iald (v := (T2 14 j)) cf hK hP (ia14 X) (by omega) rfl d_M_tick_105 ?_
        refine x_callVv (As := [.int (nI 2), .int (nI j), .int (nI (mLeader T2 (T2 14 j))), .int (nI (mHigh T2 j)), .int (nI (T2 14 j))]) (rest := []) cf hK hN hP hS (k_M_send l hX hI2 2 j (mLeader T2 (T2 14 j)) (mHigh T2 j) (T2 14 j)) (cw_M_send cf.2.2.2.2 w_591 ⟨Nat.le_of_ble_eq_true rfl, Nat.le_of_ble_eq_true rfl⟩) (rv_M hK hP) hl.1 rfl rfl (Nat.le_of_ble_eq_true rfl) ⟨Nat.zero_le _, Nat.zero_le _⟩ d_M_tick_106 (fun H locs hP hS => ?_)
        obtain ⟨T3, hT3⟩ : ∃ z, z = (mSend T2 2 j (mLeader T2 (T2 14 j)) (mHigh T2 j) (T2 14 j)) := ⟨_, rfl⟩
        rw [← hT3] at hP
        have hT3e : T3 = mTickN S j := by unfold mTickN; rw [if_pos (by omega), hT3, h214, hG, mLeader_congr (T := mTick1 S j) (S := S) rfl rfl, mHigh_congr (T := mTick1 S j) (S := S) rfl (mTick1_rows (by decide) (by decide) (by decide)) (mTick1_rows (by decide) (by decide) (by decide))]
        refine lv_aload_n hx hb d_M_tick_109 rfl (lv_at hl 2 rfl) ?_
        refine x_getM (v := .ref (X.2.2.2 14)) cf hK hP 21 (by decide) w_482 rfl d_M_tick_110 ?_
        refine lv_iload_n hx hb d_M_tick_113 rfl (lv_at hl 3 rfl) ?_
        refine x_iald (v := (T3 14 j)) cf hK hP (ia14 X) (by omega) rfl d_M_tick_114 ?_
        exact x_iret cf hr hlk hP hS (by unfold rTick; rw [tnat_1 h1, hjc, ← hT3e]; rfl) (by unfold mTick; rw [tnat_1 h1, hjc]; show _ = mTickN S j; exact hT3e) d_M_tick_115
  · skip
    refine lv_iconst (v := (-1)) hx hb d_M_tick_8 (by decide) ?_
    exact x_iret cf hr hlk hP hS (by unfold rTick; rw [tnat_0 h1]; rfl) (by unfold mTick; rw [tnat_0 h1]; rfl) d_M_tick_9
set_option maxRecDepth 100000 in
set_option maxHeartbeats 4000000 in
theorem k_M_state (l : Launch) {X : WX} (hX : xInj X) {S : Nat → Nat → Nat} {V : Nat} (hI : IW V S) (r w : Int32) : MetI l X y_M_state (Cond.code y_M_state c_M_state 3 (some .int) :: Mst) 2 [.ref (X.2.2.2 0), .int r, .int w] S (rState S r w) S := by
  refine MetI.of (by decide) (Nat.le_of_ble_eq_true rfl) ?_
  intro p e s m args below meth c cf hr hlk hP hK hN ls hl
  have hl : lv_has ls 3 [(0, .ref (X.2.2.2 0)), (1, .int r), (2, .int w)] := hl
  have hx := cf.1
  have hb := cf.2.1
  have hD := xD_of hX
  have hS : va_S (xA X) s.heap s.heap [] := va_S.rf
  have hf := hI.f
  have hn := hI.n
  have hk := hI.k
  have hcs := hI.cs
  have ht := hI.t
  have hbl := hI.b
  have hm := hI.m
  have hV := hI.V
  obtain ⟨H, hH⟩ : ∃ H, H = s.heap := ⟨_, rfl⟩
  obtain ⟨locs, hlo⟩ : ∃ z : List Loc, z = [] := ⟨_, rfl⟩
  suffices hgo : PW X S H → va_S (xA X) s.heap H locs → W p l e (rmd 2) s m args below meth c H locs 0 0 (MQ below (QcI X (rState S r w) S) args s 0 0 (xA X)) (F0 m 0 ls []) by
    subst hH
    subst hlo
    exact hgo hP hS
  clear hP hS
  intro hP hS
  refine lv_aload_n hx hb d_M_state_0 rfl (lv_at hl 0 rfl) ?_
  refine lv_iload_n hx hb d_M_state_1 rfl (lv_at hl 1 rfl) ?_
  refine x_callVi (As := [.int r]) (rest := []) cf hK hN hP hS (k_M_isCorrect l hX hI r) (cw_M_isCorrect cf.2.2.2.2 w_567 ⟨Nat.le_of_ble_eq_true rfl, Nat.le_of_ble_eq_true rfl⟩) (rv_M hK hP) hl.1 rfl rfl (Nat.le_of_ble_eq_true rfl) ⟨Nat.zero_le _, Nat.zero_le _⟩ d_M_state_2 (fun H locs hP hS => ?_)
  refine n_if_ne (tgt := 10) hx hb d_M_state_5 (by decide) (tnat_lt _) (fun h1 => ?_) (fun h1 => ?_)
  · skip
    obtain ⟨j, hj, rfl, hjb⟩ := mCorrect_ex (by omega) (tnat_1 h1)
    have hjc := nI_clamp (show j < 2 ^ 31 by omega)
    have hcor := tnat_1 h1
    refine lv_iload_n hx hb d_M_state_10 rfl (lv_at hl 2 rfl) ?_
    by_cases hsw0 : w = nI 0
    · subst hsw0
      refine lv_tableIn (off := 49) (tgt := 60) hx hb d_M_state_11 (by decide) (by decide) (by decide) (by decide) ?_
      refine lv_aload_n hx hb d_M_state_60 rfl (lv_at hl 0 rfl) ?_
      refine x_getM (v := .ref (X.2.2.2 14)) cf hK hP 21 (by decide) w_482 rfl d_M_state_61 ?_
      refine lv_iload_n hx hb d_M_state_64 rfl (lv_at hl 1 rfl) ?_
      refine x_iald (v := (S 14 j)) cf hK hP (ia14 X) (by omega) rfl d_M_state_65 ?_
      exact x_iret cf hr hlk hP hS (by unfold rState; rw [hcor, hjc]; rfl) (rfl) d_M_state_66
    by_cases hsw1 : w = nI 1
    · subst hsw1
      refine lv_tableIn (off := 56) (tgt := 67) hx hb d_M_state_11 (by decide) (by decide) (by decide) (by decide) ?_
      refine lv_aload_n hx hb d_M_state_67 rfl (lv_at hl 0 rfl) ?_
      refine x_getM (v := .ref (X.2.2.2 15)) cf hK hP 22 (by decide) w_483 rfl d_M_state_68 ?_
      refine lv_iload_n hx hb d_M_state_71 rfl (lv_at hl 1 rfl) ?_
      refine x_iald (v := (S 15 j)) cf hK hP (ia15 X) (by omega) rfl d_M_state_72 ?_
      exact x_iret cf hr hlk hP hS (by unfold rState; rw [hcor, hjc]; rfl) (rfl) d_M_state_73
    by_cases hsw2 : w = nI 2
    · subst hsw2
      refine lv_tableIn (off := 63) (tgt := 74) hx hb d_M_state_11 (by decide) (by decide) (by decide) (by decide) ?_
      refine lv_aload_n hx hb d_M_state_74 rfl (lv_at hl 0 rfl) ?_
      refine x_getM (v := .ref (X.2.2.2 16)) cf hK hP 23 (by decide) w_484 rfl d_M_state_75 ?_
      refine lv_iload_n hx hb d_M_state_78 rfl (lv_at hl 1 rfl) ?_
      refine x_iald (v := (S 16 j)) cf hK hP (ia16 X) (by omega) rfl d_M_state_79 ?_
      exact x_iret cf hr hlk hP hS (by unfold rState; rw [hcor, hjc]; rfl) (rfl) d_M_state_80
    by_cases hsw3 : w = nI 3
    · subst hsw3
      refine lv_tableIn (off := 70) (tgt := 81) hx hb d_M_state_11 (by decide) (by decide) (by decide) (by decide) ?_
      refine lv_aload_n hx hb d_M_state_81 rfl (lv_at hl 0 rfl) ?_
      refine x_getM (v := .ref (X.2.2.2 17)) cf hK hP 24 (by decide) w_485 rfl d_M_state_82 ?_
      refine lv_iload_n hx hb d_M_state_85 rfl (lv_at hl 1 rfl) ?_
      refine x_iald (v := (S 17 j)) cf hK hP (ia17 X) (by omega) rfl d_M_state_86 ?_
      exact x_iret cf hr hlk hP hS (by unfold rState; rw [hcor, hjc]; rfl) (rfl) d_M_state_87
    by_cases hsw4 : w = nI 4
    · subst hsw4
      refine lv_tableIn (off := 77) (tgt := 88) hx hb d_M_state_11 (by decide) (by decide) (by decide) (by decide) ?_
      refine lv_aload_n hx hb d_M_state_88 rfl (lv_at hl 0 rfl) ?_
      refine x_getM (v := .ref (X.2.2.2 18)) cf hK hP 25 (by decide) w_486 rfl d_M_state_89 ?_
      refine lv_iload_n hx hb d_M_state_92 rfl (lv_at hl 1 rfl) ?_
      refine x_iald (v := (S 18 j)) cf hK hP (ia18 X) (by omega) rfl d_M_state_93 ?_
      exact x_iret cf hr hlk hP hS (by unfold rState; rw [hcor, hjc]; rfl) (rfl) d_M_state_94
    by_cases hsw5 : w = nI 5
    · subst hsw5
      refine lv_tableIn (off := 84) (tgt := 95) hx hb d_M_state_11 (by decide) (by decide) (by decide) (by decide) ?_
      refine lv_aload_n hx hb d_M_state_95 rfl (lv_at hl 0 rfl) ?_
      refine lv_iload_n hx hb d_M_state_96 rfl (lv_at hl 1 rfl) ?_
      refine x_callVi (As := [.int (nI j)]) (rest := []) cf hK hN hP hS (k_M_high l hX hI (by omega)) (cw_M_high cf.2.2.2.2 w_579 ⟨Nat.le_of_ble_eq_true rfl, Nat.le_of_ble_eq_true rfl⟩) (rv_M hK hP) hl.1 rfl rfl (Nat.le_of_ble_eq_true rfl) ⟨Nat.zero_le _, Nat.zero_le _⟩ d_M_state_97 (fun H locs hP hS => ?_)
      exact x_iret cf hr hlk hP hS (by unfold rState; rw [hcor, hjc]; rfl) (rfl) d_M_state_100
    by_cases hsw6 : w = nI 6
    · subst hsw6
      refine lv_tableIn (off := 90) (tgt := 101) hx hb d_M_state_11 (by decide) (by decide) (by decide) (by decide) ?_
      refine lv_aload_n hx hb d_M_state_101 rfl (lv_at hl 0 rfl) ?_
      refine lv_iload_n hx hb d_M_state_102 rfl (lv_at hl 1 rfl) ?_
      refine x_callVi (As := [.int (nI j)]) (rest := []) cf hK hN hP hS (k_M_lock l hX hI (by omega)) (cw_M_lock cf.2.2.2.2 w_623 ⟨Nat.le_of_ble_eq_true rfl, Nat.le_of_ble_eq_true rfl⟩) (rv_M hK hP) hl.1 rfl rfl (Nat.le_of_ble_eq_true rfl) ⟨Nat.zero_le _, Nat.zero_le _⟩ d_M_state_103 (fun H locs hP hS => ?_)
      exact x_iret cf hr hlk hP hS (by unfold rState; rw [hcor, hjc]; rfl) (rfl) d_M_state_106
    by_cases hsw7 : w = nI 7
    · subst hsw7
      refine lv_tableIn (off := 96) (tgt := 107) hx hb d_M_state_11 (by decide) (by decide) (by decide) (by decide) ?_
      refine lv_aload_n hx hb d_M_state_107 rfl (lv_at hl 0 rfl) ?_
      refine lv_iload_n hx hb d_M_state_108 rfl (lv_at hl 1 rfl) ?_
      refine x_callVi (As := [.int (nI j)]) (rest := []) cf hK hN hP hS (k_M_tip l hX hI (by omega)) (cw_M_tip cf.2.2.2.2 w_699 ⟨Nat.le_of_ble_eq_true rfl, Nat.le_of_ble_eq_true rfl⟩) (rv_M hK hP) hl.1 rfl rfl (Nat.le_of_ble_eq_true rfl) ⟨Nat.zero_le _, Nat.zero_le _⟩ d_M_state_109 (fun H locs hP hS => ?_)
      exact x_iret cf hr hlk hP hS (by unfold rState; rw [hcor, hjc]; rfl) (rfl) d_M_state_112
    by_cases hsw8 : w = nI 8
    · subst hsw8
      refine lv_tableIn (off := 102) (tgt := 113) hx hb d_M_state_11 (by decide) (by decide) (by decide) (by decide) ?_
      refine lv_aload_n hx hb d_M_state_113 rfl (lv_at hl 0 rfl) ?_
      refine lv_iload_n hx hb d_M_state_114 rfl (lv_at hl 1 rfl) ?_
      refine x_callVi (As := [.int (nI j)]) (rest := []) cf hK hN hP hS (k_M_push l hX hI (by omega)) (cw_M_push cf.2.2.2.2 w_583 ⟨Nat.le_of_ble_eq_true rfl, Nat.le_of_ble_eq_true rfl⟩) (rv_M hK hP) hl.1 rfl rfl (Nat.le_of_ble_eq_true rfl) ⟨Nat.zero_le _, Nat.zero_le _⟩ d_M_state_115 (fun H locs hP hS => ?_)
      exact x_iret cf hr hlk hP hS (by unfold rState; rw [hcor, hjc]; rfl) (rfl) d_M_state_118
    have hswO := tab_out8 (x := w) hsw0 hsw1 hsw2 hsw3 hsw4 hsw5 hsw6 hsw7 hsw8
    refine lv_tableOut (tgt := 119) hx hb d_M_state_11 hswO (by decide) ?_
    refine lv_iconst (v := (-1)) hx hb d_M_state_119 (by decide) ?_
    exact x_iret cf hr hlk hP hS (by unfold rState; rw [hcor, if_neg hsw0, if_neg hsw1, if_neg hsw2, if_neg hsw3, if_neg hsw4, if_neg hsw5, if_neg hsw6, if_neg hsw7, if_neg hsw8]; rfl) (rfl) d_M_state_120
  · skip
    refine lv_iconst (v := (-1)) hx hb d_M_state_8 (by decide) ?_
    exact x_iret cf hr hlk hP hS (by unfold rState; rw [tnat_0 h1]; rfl) (rfl) d_M_state_9
