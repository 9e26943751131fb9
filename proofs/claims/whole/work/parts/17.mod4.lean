set_option maxRecDepth 100000 in
set_option maxHeartbeats 4000000 in
theorem k_M_submit (l : Launch) {X : WX} (hX : xInj X) {S : Nat → Nat → Nat} {V : Nat} (hI : IW V S) (h fr to am : Int32) : MetI l X y_M_submit (Cond.code y_M_submit c_M_submit 5 (some .int) :: Mst) 0 [.ref (X.2.2.2 0), .int h, .int fr, .int to, .int am] S (rSubmit S h fr to am) (mSubmit S h fr to am) := by
  refine MetI.of (by decide) (Nat.le_of_ble_eq_true rfl) ?_
  intro p e s m args below meth c cf hr hlk hP hK hN ls hl
  have hl : lv_has ls 5 [(0, .ref (X.2.2.2 0)), (1, .int h), (2, .int fr), (3, .int to), (4, .int am)] := hl
  have hx := cf.1
  have hb := cf.2.1
  have hD := xD_of hX
  have hS : va_S (xA X) s.heap s.heap [] := va_S.rf
  have hf := hI.f
  have hn := hI.n
  have hk := hI.k
  have hcs := hI.cs
  have ht := hI.t
  have hbl := hI.b
  have hm := hI.m
  have hV := hI.V
  obtain ⟨H, hH⟩ : ∃ H, H = s.heap := ⟨_, rfl⟩
  obtain ⟨locs, hlo⟩ : ∃ z : List Loc, z = [] := ⟨_, rfl⟩
  suffices hgo : PW X S H → va_S (xA X) s.heap H locs → W p l e (rmd 0) s m args below meth c H locs 0 0 (MQ below (QcI X (rSubmit S h fr to am) (mSubmit S h fr to am)) args s 0 0 (xA X)) (F0 m 0 ls []) by
    subst hH
    subst hlo
    exact hgo hP hS
  clear hP hS
  intro hP hS
  refine lv_iload_n hx hb d_M_submit_0 rfl (lv_at hl 1 rfl) ?_
  refine lv_iconst (v := nI 1) hx hb d_M_submit_1 (by decide) ?_
  refine lv_aload_n hx hb d_M_submit_2 rfl (lv_at hl 0 rfl) ?_
  refine x_getM (v := .int (nI (S 0 1))) cf hK hP 1 (by decide) w_462 rfl d_M_submit_3 ?_
  refine n_ishl hx hb (by omega) (by have : 2 ^ S 0 1 ≤ 2 ^ 7 := Nat.pow_le_pow_right (by decide) (by omega); omega) d_M_submit_6 ?_
  refine lv_iconst (v := nI 1) hx hb d_M_submit_7 (by decide) ?_
  have hp2 : 1 ≤ 2 ^ S 0 1 := Nat.one_le_two_pow
  refine n_isub hx hb (by omega) d_M_submit_8 ?_
  refine lv_iconst (v := (-1)) hx hb d_M_submit_9 (by decide) ?_
  refine lv_ixor hx hb d_M_submit_10 ?_
  refine lv_iand hx hb d_M_submit_11 ?_
  refine lv_if_ne (tgt := 38) hx hb d_M_submit_12 (by decide) (fun h1 => ?_) (fun h1 => ?_)
  · skip
    have uh1 := i_ne0 h1
    have hno : rSubOk S h fr to am = false := rSub_no (fun q => h1 ((mask_iff (by omega)).mpr q.1))
    refine lv_iconst (v := (-1)) hx hb d_M_submit_38 (by decide) ?_
    exact x_iret cf hr hlk hP hS (by unfold rSubmit; rw [hno]; rfl) (by unfold mSubmit; rw [hno]; rfl) d_M_submit_39
  · skip
    have uh1 := i_eq0 h1
    refine lv_iload_n hx hb d_M_submit_15 rfl (lv_at hl 2 rfl) ?_
    refine lv_if_lt (tgt := 38) hx hb d_M_submit_16 (by decide) (fun h2 => ?_) (fun h2 => ?_)
    · skip
      have uh2 := i_lt0 h2
      have hno : rSubOk S h fr to am = false := rSub_no (fun q => by obtain ⟨q1, q2, q3, q4, q5, q6⟩ := q; omega)
      refine lv_iconst (v := (-1)) hx hb d_M_submit_38 (by decide) ?_
      exact x_iret cf hr hlk hP hS (by unfold rSubmit; rw [hno]; rfl) (by unfold mSubmit; rw [hno]; rfl) d_M_submit_39
    · skip
      have uh2 := i_nlt0 h2
      refine lv_iload_n hx hb d_M_submit_19 rfl (lv_at hl 2 rfl) ?_
      refine lv_iconst (v := nI 3) hx hb d_M_submit_20 (by decide) ?_
      refine lv_icmp_gt (tgt := 38) hx hb d_M_submit_21 (by decide) (fun h3 => ?_) (fun h3 => ?_)
      · skip
        have uh3 := i_gtN (by decide) h3
        have hno : rSubOk S h fr to am = false := rSub_no (fun q => by obtain ⟨q1, q2, q3, q4, q5, q6⟩ := q; omega)
        refine lv_iconst (v := (-1)) hx hb d_M_submit_38 (by decide) ?_
        exact x_iret cf hr hlk hP hS (by unfold rSubmit; rw [hno]; rfl) (by unfold mSubmit; rw [hno]; rfl) d_M_submit_39
      · skip
        have uh3 := i_ngtN (by decide) h3
        refine lv_iload_n hx hb d_M_submit_24 rfl (lv_at hl 3 rfl) ?_
        refine lv_if_lt (tgt := 38) hx hb d_M_submit_25 (by decide) (fun h4 => ?_) (fun h4 => ?_)
        · skip
          have uh4 := i_lt0 h4
          have hno : rSubOk S h fr to am = false := rSub_no (fun q => by obtain ⟨q1, q2, q3, q4, q5, q6⟩ := q; omega)
          refine lv_iconst (v := (-1)) hx hb d_M_submit_38 (by decide) ?_
          exact x_iret cf hr hlk hP hS (by unfold rSubmit; rw [hno]; rfl) (by unfold mSubmit; rw [hno]; rfl) d_M_submit_39
        · skip
          have uh4 := i_nlt0 h4
          refine lv_iload_n hx hb d_M_submit_28 rfl (lv_at hl 3 rfl) ?_
          refine lv_iconst (v := nI 3) hx hb d_M_submit_29 (by decide) ?_
          refine lv_icmp_gt (tgt := 38) hx hb d_M_submit_30 (by decide) (fun h5 => ?_) (fun h5 => ?_)
          · skip
            have uh5 := i_gtN (by decide) h5
            have hno : rSubOk S h fr to am = false := rSub_no (fun q => by obtain ⟨q1, q2, q3, q4, q5, q6⟩ := q; omega)
            refine lv_iconst (v := (-1)) hx hb d_M_submit_38 (by decide) ?_
            exact x_iret cf hr hlk hP hS (by unfold rSubmit; rw [hno]; rfl) (by unfold mSubmit; rw [hno]; rfl) d_M_submit_39
          · skip
            have uh5 := i_ngtN (by decide) h5
            refine lv_iload_n hx hb d_M_submit_33 rfl (lv_at hl 2 rfl) ?_
            refine lv_iload_n hx hb d_M_submit_34 rfl (lv_at hl 3 rfl) ?_
            refine lv_icmp_ne (tgt := 40) hx hb d_M_submit_35 (by decide) (fun h6 => ?_) (fun h6 => ?_)
            · skip
              refine lv_iload hx hb d_M_submit_40 (lv_at hl 4 rfl) ?_
              refine lv_iconst (v := nI 1) hx hb d_M_submit_42 (by decide) ?_
              refine lv_icmp_lt (tgt := 63) hx hb d_M_submit_43 (by decide) (fun h7 => ?_) (fun h7 => ?_)
              · skip
                have uh7 := i_ltN (by decide) h7
                have hno : rSubOk S h fr to am = false := rSub_no (fun q => by obtain ⟨q1, q2, q3, q4, q5, q6⟩ := q; omega)
                refine lv_iconst (v := (-1)) hx hb d_M_submit_63 (by decide) ?_
                exact x_iret cf hr hlk hP hS (by unfold rSubmit; rw [hno]; rfl) (by unfold mSubmit; rw [hno]; rfl) d_M_submit_64
              · skip
                have uh7 := i_nltN (by decide) h7
                refine lv_iload hx hb d_M_submit_46 (lv_at hl 4 rfl) ?_
                refine lv_sipush (v := nI 1000) hx hb d_M_submit_48 (by decide) ?_
                refine lv_icmp_gt (tgt := 63) hx hb d_M_submit_51 (by decide) (fun h8 => ?_) (fun h8 => ?_)
                · skip
                  have uh8 := i_gtN (by decide) h8
                  have hno : rSubOk S h fr to am = false := rSub_no (fun q => by obtain ⟨q1, q2, q3, q4, q5, q6⟩ := q; omega)
                  refine lv_iconst (v := (-1)) hx hb d_M_submit_63 (by decide) ?_
                  exact x_iret cf hr hlk hP hS (by unfold rSubmit; rw [hno]; rfl) (by unfold mSubmit; rw [hno]; rfl) d_M_submit_64
                · skip
                  have uh8 := i_ngtN (by decide) h8
                  refine lv_aload_n hx hb d_M_submit_54 rfl (lv_at hl 0 rfl) ?_
                  refine x_getM (v := .int (nI (S 0 4))) cf hK hP 4 (by decide) w_465 rfl d_M_submit_55 ?_
                  refine lv_bipush (v := nI 24) hx hb d_M_submit_58 (by decide) ?_
                  refine n_icmp_lt (tgt := 65) hx hb d_M_submit_60 (by decide) (by omega) (by decide) (fun h9 => ?_) (fun h9 => ?_)
                  · skip
                    have hyes : rSubOk S h fr to am = true := decide_eq_true ⟨(mask_iff (by omega)).mp h1, ⟨by omega, by omega⟩, ⟨by omega, by omega⟩, h6, ⟨by omega, by omega⟩, by omega⟩
                    obtain ⟨hN, hN1, rfl, hN2, hN3⟩ := i_nat (x := h) ((mask_iff (by omega)).mp h1).1
                    obtain ⟨fN, fN1, rfl, fN2, fN3⟩ := i_nat (x := fr) (by omega)
                    obtain ⟨tN, tN1, rfl, tN2, tN3⟩ := i_nat (x := to) (by omega)
                    obtain ⟨aN, aN1, rfl, aN2, aN3⟩ := i_nat (x := am) (by omega)
                    refine lv_aload_n hx hb d_M_submit_65 rfl (lv_at hl 0 rfl) ?_
                    refine x_getM (v := .ref (X.2.2.2 1)) cf hK hP 5 (by decide) w_466 rfl d_M_submit_66 ?_
                    refine lv_aload_n hx hb d_M_submit_69 rfl (lv_at hl 0 rfl) ?_
                    refine x_getM (v := .int (nI (S 0 4))) cf hK hP 4 (by decide) w_465 rfl d_M_submit_70 ?_
                    refine lv_iload_n hx hb d_M_submit_73 rfl (lv_at hl 1 rfl) ?_
                    refine x_iast cf hK hD hP hS (ia1 X) (by omega) d_M_submit_74 (fun H locs hP hS => ?_)
                    refine lv_aload_n hx hb d_M_submit_75 rfl (lv_at hl 0 rfl) ?_
                    refine x_getM (v := .ref (X.2.2.2 2)) cf hK hP 6 (by decide) w_467 rfl d_M_submit_76 ?_
                    refine lv_aload_n hx hb d_M_submit_79 rfl (lv_at hl 0 rfl) ?_
                    refine x_getM (v := .int (nI (S 0 4))) cf hK hP 4 (by decide) w_465 rfl d_M_submit_80 ?_
                    refine lv_iload_n hx hb d_M_submit_83 rfl (lv_at hl 2 rfl) ?_
                    refine x_iast cf hK hD hP hS (ia2 X) (by omega) d_M_submit_84 (fun H locs hP hS => ?_)
                    refine lv_aload_n hx hb d_M_submit_85 rfl (lv_at hl 0 rfl) ?_
                    refine x_getM (v := .ref (X.2.2.2 3)) cf hK hP 7 (by decide) w_468 rfl d_M_submit_86 ?_
                    refine lv_aload_n hx hb d_M_submit_89 rfl (lv_at hl 0 rfl) ?_
                    refine x_getM (v := .int (nI (S 0 4))) cf hK hP 4 (by decide) w_465 rfl d_M_submit_90 ?_
                    refine lv_iload_n hx hb d_M_submit_93 rfl (lv_at hl 3 rfl) ?_
                    refine x_iast cf hK hD hP hS (ia3 X) (by omega) d_M_submit_94 (fun H locs hP hS => ?_)
                    refine lv_aload_n hx hb d_M_submit_95 rfl (lv_at hl 0 rfl) ?_
                    refine x_getM (v := .ref (X.2.2.2 4)) cf hK hP 8 (by decide) w_469 rfl d_M_submit_96 ?_
                    refine lv_aload_n hx hb d_M_submit_99 rfl (lv_at hl 0 rfl) ?_
                    refine x_getM (v := .int (nI (S 0 4))) cf hK hP 4 (by decide) w_465 rfl d_M_submit_100 ?_
                    refine lv_iload hx hb d_M_submit_103 (lv_at hl 4 rfl) ?_
                    refine x_iast cf hK hD hP hS (ia4 X) (by omega) d_M_submit_105 (fun H locs hP hS => ?_)
                    refine lv_aload_n hx hb d_M_submit_106 rfl (lv_at hl 0 rfl) ?_
                    refine lv_dup hx hb d_M_submit_107 rfl ?_
                    refine x_getM (v := .int (nI (S 0 4))) cf hK hP 4 (by decide) w_465 rfl d_M_submit_108 ?_
                    refine lv_iconst (v := nI 1) hx hb d_M_submit_111 (by decide) ?_
                    refine n_iadd hx hb d_M_submit_112 ?_
                    refine x_putM cf hK hD hP hS 4 (by decide) w_465 rfl (by decide +kernel) 4 rfl d_M_submit_113 (fun H locs hP hS => ?_)
                    refine lv_aload_n hx hb d_M_submit_116 rfl (lv_at hl 0 rfl) ?_
                    refine x_getM (v := .int (nI ((S 0 4) + 1))) cf hK hP 4 (by decide) w_465 rfl d_M_submit_117 ?_
                    refine lv_iconst (v := nI 1) hx hb d_M_submit_120 (by decide) ?_
                    refine n_isub hx hb (by omega) d_M_submit_121 ?_
                    exact x_iret cf hr hlk hP hS (by unfold rSubmit; rw [hyes]; show nI (S 0 4 + 1 - 1) = nI (S 0 4); rw [Nat.add_sub_cancel]) (by unfold mSubmit; rw [hyes, hN3, fN3, tN3, aN3]; rfl) d_M_submit_122
                  · skip
                    have hno : rSubOk S h fr to am = false := rSub_no (fun q => by obtain ⟨q1, q2, q3, q4, q5, q6⟩ := q; omega)
                    refine lv_iconst (v := (-1)) hx hb d_M_submit_63 (by decide) ?_
                    exact x_iret cf hr hlk hP hS (by unfold rSubmit; rw [hno]; rfl) (by unfold mSubmit; rw [hno]; rfl) d_M_submit_64
            · skip
              have hno : rSubOk S h fr to am = false := rSub_no (fun q => q.2.2.2.1 h6)
              refine lv_iconst (v := (-1)) hx hb d_M_submit_38 (by decide) ?_
              exact x_iret cf hr hlk hP hS (by unfold rSubmit; rw [hno]; rfl) (by unfold mSubmit; rw [hno]; rfl) d_M_submit_39
set_option maxRecDepth 100000 in
set_option maxHeartbeats 4000000 in
theorem k_M_waiting (l : Launch) {X : WX} (hX : xInj X) {S : Nat → Nat → Nat} {V : Nat} (hI : IW V S) : MetI l X y_M_waiting (Cond.code y_M_waiting c_M_waiting 1 (some .int) :: Mst) 0 [.ref (X.2.2.2 0)] S (nI (S 0 6)) S := by
  refine MetI.of (by decide) (Nat.le_of_ble_eq_true rfl) ?_
  intro p e s m args below meth c cf hr hlk hP hK hN ls hl
  have hl : lv_has ls 1 [(0, .ref (X.2.2.2 0))] := hl
  have hx := cf.1
  have hb := cf.2.1
  have hD := xD_of hX
  have hS : va_S (xA X) s.heap s.heap [] := va_S.rf
  have hf := hI.f
  have hn := hI.n
  have hk := hI.k
  have hcs := hI.cs
  have ht := hI.t
  have hbl := hI.b
  have hm := hI.m
  have hV := hI.V
  obtain ⟨H, hH⟩ : ∃ H, H = s.heap := ⟨_, rfl⟩
  obtain ⟨locs, hlo⟩ : ∃ z : List Loc, z = [] := ⟨_, rfl⟩
  suffices hgo : PW X S H → va_S (xA X) s.heap H locs → W p l e (rmd 0) s m args below meth c H locs 0 0 (MQ below (QcI X (nI (S 0 6)) S) args s 0 0 (xA X)) (F0 m 0 ls []) by
    subst hH
    subst hlo
    exact hgo hP hS
  clear hP hS
  intro hP hS
  refine lv_aload_n hx hb d_M_waiting_0 rfl (lv_at hl 0 rfl) ?_
  refine x_getM (v := .int (nI (S 0 6))) cf hK hP 14 (by decide) w_475 rfl d_M_waiting_1 ?_
  exact x_iret cf hr hlk hP hS (rfl) (rfl) d_M_waiting_4
set_option maxRecDepth 100000 in
set_option maxHeartbeats 4000000 in
theorem k_M_lost (l : Launch) {X : WX} (hX : xInj X) {S : Nat → Nat → Nat} {V : Nat} (hI : IW V S) : MetI l X y_M_lost (Cond.code y_M_lost c_M_lost 1 (some .int) :: Mst) 0 [.ref (X.2.2.2 0)] S (nI (S 0 7)) S := by
  refine MetI.of (by decide) (Nat.le_of_ble_eq_true rfl) ?_
  intro p e s m args below meth c cf hr hlk hP hK hN ls hl
  have hl : lv_has ls 1 [(0, .ref (X.2.2.2 0))] := hl
  have hx := cf.1
  have hb := cf.2.1
  have hD := xD_of hX
  have hS : va_S (xA X) s.heap s.heap [] := va_S.rf
  have hf := hI.f
  have hn := hI.n
  have hk := hI.k
  have hcs := hI.cs
  have ht := hI.t
  have hbl := hI.b
  have hm := hI.m
  have hV := hI.V
  obtain ⟨H, hH⟩ : ∃ H, H = s.heap := ⟨_, rfl⟩
  obtain ⟨locs, hlo⟩ : ∃ z : List Loc, z = [] := ⟨_, rfl⟩
  suffices hgo : PW X S H → va_S (xA X) s.heap H locs → W p l e (rmd 0) s m args below meth c H locs 0 0 (MQ below (QcI X (nI (S 0 7)) S) args s 0 0 (xA X)) (F0 m 0 ls []) by
    subst hH
    subst hlo
    exact hgo hP hS
  clear hP hS
  intro hP hS
  refine lv_aload_n hx hb d_M_lost_0 rfl (lv_at hl 0 rfl) ?_
  refine x_getM (v := .int (nI (S 0 7))) cf hK hP 15 (by decide) w_476 rfl d_M_lost_1 ?_
  exact x_iret cf hr hlk hP hS (rfl) (rfl) d_M_lost_4
set_option maxRecDepth 100000 in
set_option maxHeartbeats 4000000 in
theorem k_M_message (l : Launch) {X : WX} (hX : xInj X) {S : Nat → Nat → Nat} {V : Nat} (hI : IW V S) (i : Int32) : MetI l X y_M_message (Cond.code y_M_message c_M_message 2 (some .int) :: Mst) 0 [.ref (X.2.2.2 0), .int i] S (rMessage S i) S := by
  refine MetI.of (by decide) (Nat.le_of_ble_eq_true rfl) ?_
  intro p e s m args below meth c cf hr hlk hP hK hN ls hl
  have hl : lv_has ls 2 [(0, .ref (X.2.2.2 0)), (1, .int i)] := hl
  have hx := cf.1
  have hb := cf.2.1
  have hD := xD_of hX
  have hS : va_S (xA X) s.heap s.heap [] := va_S.rf
  have hf := hI.f
  have hn := hI.n
  have hk := hI.k
  have hcs := hI.cs
  have ht := hI.t
  have hbl := hI.b
  have hm := hI.m
  have hV := hI.V
  obtain ⟨H, hH⟩ : ∃ H, H = s.heap := ⟨_, rfl⟩
  obtain ⟨locs, hlo⟩ : ∃ z : List Loc, z = [] := ⟨_, rfl⟩
  suffices hgo : PW X S H → va_S (xA X) s.heap H locs → W p l e (rmd 0) s m args below meth c H locs 0 0 (MQ below (QcI X (rMessage S i) S) args s 0 0 (xA X)) (F0 m 0 ls []) by
    subst hH
    subst hlo
    exact hgo hP hS
  clear hP hS
  intro hP hS
  refine lv_iload_n hx hb d_M_message_0 rfl (lv_at hl 1 rfl) ?_
  refine lv_if_lt (tgt := 12) hx hb d_M_message_1 (by decide) (fun h1 => ?_) (fun h1 => ?_)
  · skip
    have uh1 := i_lt0 h1
    refine lv_iconst (v := (-1)) hx hb d_M_message_12 (by decide) ?_
    refine lv_goto (tgt := 52) hx hb d_M_message_13 (by decide) ?_
    exact x_iret cf hr hlk hP hS (by unfold rMessage; rw [if_neg (by omega)]) (rfl) d_M_message_52
  · skip
    have uh1 := i_nlt0 h1
    refine lv_iload_n hx hb d_M_message_4 rfl (lv_at hl 1 rfl) ?_
    refine lv_aload_n hx hb d_M_message_5 rfl (lv_at hl 0 rfl) ?_
    refine x_getM (v := .int (nI (S 0 6))) cf hK hP 14 (by decide) w_475 rfl d_M_message_6 ?_
    refine lv_icmp_lt (tgt := 16) hx hb d_M_message_9 (by decide) (fun h2 => ?_) (fun h2 => ?_)
    · skip
      have uh2 := i_ltN (by omega) h2
      obtain ⟨j, hj, rfl, hjt, hjc⟩ := i_nat uh1
      have hj6 : j < S 0 6 := by omega
      have hms := rMsg_yes hm hj6
      refine lv_aload_n hx hb d_M_message_16 rfl (lv_at hl 0 rfl) ?_
      refine x_getM (v := .ref (X.2.2.2 9)) cf hK hP 16 (by decide) w_477 rfl d_M_message_17 ?_
      refine lv_iload_n hx hb d_M_message_20 rfl (lv_at hl 1 rfl) ?_
      refine x_iald (v := (S 9 j)) cf hK hP (ia9 X) (by omega) rfl d_M_message_21 ?_
      refine lv_iconst (v := nI 4) hx hb d_M_message_22 (by decide) ?_
      refine lv_aload_n hx hb d_M_message_23 rfl (lv_at hl 0 rfl) ?_
      refine x_getM (v := .ref (X.2.2.2 10)) cf hK hP 17 (by decide) w_478 rfl d_M_message_24 ?_
      refine lv_iload_n hx hb d_M_message_27 rfl (lv_at hl 1 rfl) ?_
      refine x_iald (v := (S 10 j)) cf hK hP (ia10 X) (by omega) rfl d_M_message_28 ?_
      refine n_imul hx hb d_M_message_29 ?_
      refine n_iadd hx hb d_M_message_30 ?_
      refine lv_bipush (v := nI 32) hx hb d_M_message_31 (by decide) ?_
      refine lv_aload_n hx hb d_M_message_33 rfl (lv_at hl 0 rfl) ?_
      refine x_getM (v := .ref (X.2.2.2 11)) cf hK hP 18 (by decide) w_479 rfl d_M_message_34 ?_
      refine lv_iload_n hx hb d_M_message_37 rfl (lv_at hl 1 rfl) ?_
      refine x_iald (v := (S 11 j)) cf hK hP (ia11 X) (by omega) rfl d_M_message_38 ?_
      refine n_imul hx hb d_M_message_39 ?_
      refine n_iadd hx hb d_M_message_40 ?_
      refine lv_sipush (v := nI 256) hx hb d_M_message_41 (by decide) ?_
      refine lv_aload_n hx hb d_M_message_44 rfl (lv_at hl 0 rfl) ?_
      refine x_getM (v := .ref (X.2.2.2 12)) cf hK hP 19 (by decide) w_480 rfl d_M_message_45 ?_
      refine lv_iload_n hx hb d_M_message_48 rfl (lv_at hl 1 rfl) ?_
      refine x_iald (v := (S 12 j)) cf hK hP (ia12 X) (by omega) rfl d_M_message_49 ?_
      refine n_imul hx hb d_M_message_50 ?_
      refine n_iadd hx hb d_M_message_51 ?_
      exact x_iret cf hr hlk hP hS (by unfold rMessage; rw [if_pos (by omega), hjc]) (rfl) d_M_message_52
    · skip
      have uh2 := i_nltN (by omega) h2
      refine lv_iconst (v := (-1)) hx hb d_M_message_12 (by decide) ?_
      refine lv_goto (tgt := 52) hx hb d_M_message_13 (by decide) ?_
      exact x_iret cf hr hlk hP hS (by unfold rMessage; rw [if_neg (by omega)]) (rfl) d_M_message_52
set_option maxRecDepth 100000 in
set_option maxHeartbeats 4000000 in
theorem k_M_block (l : Launch) {X : WX} (hX : xInj X) {S : Nat → Nat → Nat} {V : Nat} (hI : IW V S) (b : Int32) : MetI l X y_M_block (Cond.code y_M_block c_M_block 2 (some .int) :: Mst) 1 [.ref (X.2.2.2 0), .int b] S (rBlock S b) S := by
  refine MetI.of (by decide) (Nat.le_of_ble_eq_true rfl) ?_
  intro p e s m args below meth c cf hr hlk hP hK hN ls hl
  have hl : lv_has ls 2 [(0, .ref (X.2.2.2 0)), (1, .int b)] := hl
  have hx := cf.1
  have hb := cf.2.1
  have hD := xD_of hX
  have hS : va_S (xA X) s.heap s.heap [] := va_S.rf
  have hf := hI.f
  have hn := hI.n
  have hk := hI.k
  have hcs := hI.cs
  have ht := hI.t
  have hbl := hI.b
  have hm := hI.m
  have hV := hI.V
  obtain ⟨H, hH⟩ : ∃ H, H = s.heap := ⟨_, rfl⟩
  obtain ⟨locs, hlo⟩ : ∃ z : List Loc, z = [] := ⟨_, rfl⟩
  suffices hgo : PW X S H → va_S (xA X) s.heap H locs → W p l e (rmd 1) s m args below meth c H locs 0 0 (MQ below (QcI X (rBlock S b) S) args s 0 0 (xA X)) (F0 m 0 ls []) by
    subst hH
    subst hlo
    exact hgo hP hS
  clear hP hS
  intro hP hS
  refine lv_aload_n hx hb d_M_block_0 rfl (lv_at hl 0 rfl) ?_
  refine lv_iload_n hx hb d_M_block_1 rfl (lv_at hl 1 rfl) ?_
  refine x_callVi (As := [.int b]) (rest := []) cf hK hN hP hS (k_M_isBlock l hX hI b) (cw_M_isBlock cf.2.2.2.2 w_655 ⟨Nat.le_of_ble_eq_true rfl, Nat.le_of_ble_eq_true rfl⟩) (rv_M hK hP) hl.1 rfl rfl (Nat.le_of_ble_eq_true rfl) ⟨Nat.zero_le _, Nat.zero_le _⟩ d_M_block_2 (fun H locs hP hS => ?_)
  refine n_if_eq (tgt := 27) hx hb d_M_block_5 (by decide) (tnat_lt _) (fun h1 => ?_) (fun h1 => ?_)
  · skip
    refine lv_iconst (v := (-1)) hx hb d_M_block_27 (by decide) ?_
    exact x_iret cf hr hlk hP hS (by unfold rBlock; rw [tnat_0 h1]; rfl) (rfl) d_M_block_28
  · skip
    obtain ⟨j, hj, rfl⟩ := mBlock_nI (by omega) (tnat_1 h1)
    have hjc := nI_clamp (show j < 2 ^ 31 by omega)
    refine lv_bipush (v := nI 64) hx hb d_M_block_8 (by decide) ?_
    refine lv_aload_n hx hb d_M_block_10 rfl (lv_at hl 0 rfl) ?_
    refine x_getM (v := .ref (X.2.2.2 5)) cf hK hP 10 (by decide) w_471 rfl d_M_block_11 ?_
    refine lv_iload_n hx hb d_M_block_14 rfl (lv_at hl 1 rfl) ?_
    refine x_iald (v := (S 5 j)) cf hK hP (ia5 X) (by omega) rfl d_M_block_15 ?_
    refine n_imul hx hb d_M_block_16 ?_
    refine lv_aload_n hx hb d_M_block_17 rfl (lv_at hl 0 rfl) ?_
    refine x_getM (v := .ref (X.2.2.2 6)) cf hK hP 11 (by decide) w_472 rfl d_M_block_18 ?_
    refine lv_iload_n hx hb d_M_block_21 rfl (lv_at hl 1 rfl) ?_
    refine x_iald (v := (S 6 j)) cf hK hP (ia6 X) (by omega) rfl d_M_block_22 ?_
    refine n_iadd hx hb d_M_block_23 ?_
    refine lv_goto (tgt := 28) hx hb d_M_block_24 (by decide) ?_
    exact x_iret cf hr hlk hP hS (by unfold rBlock; rw [tnat_1 h1, hjc]; rfl) (rfl) d_M_block_28
set_option maxRecDepth 100000 in
set_option maxHeartbeats 4000000 in
theorem k_M_payload (l : Launch) {X : WX} (hX : xInj X) {S : Nat → Nat → Nat} {V : Nat} (hI : IW V S) (b : Int32) : MetI l X y_M_payload (Cond.code y_M_payload c_M_payload 2 (some .int) :: Mst) 1 [.ref (X.2.2.2 0), .int b] S (rPayload S b) S := by
  refine MetI.of (by decide) (Nat.le_of_ble_eq_true rfl) ?_
  intro p e s m args below meth c cf hr hlk hP hK hN ls hl
  have hl : lv_has ls 2 [(0, .ref (X.2.2.2 0)), (1, .int b)] := hl
  have hx := cf.1
  have hb := cf.2.1
  have hD := xD_of hX
  have hS : va_S (xA X) s.heap s.heap [] := va_S.rf
  have hf := hI.f
  have hn := hI.n
  have hk := hI.k
  have hcs := hI.cs
  have ht := hI.t
  have hbl := hI.b
  have hm := hI.m
  have hV := hI.V
  obtain ⟨H, hH⟩ : ∃ H, H = s.heap := ⟨_, rfl⟩
  obtain ⟨locs, hlo⟩ : ∃ z : List Loc, z = [] := ⟨_, rfl⟩
  suffices hgo : PW X S H → va_S (xA X) s.heap H locs → W p l e (rmd 1) s m args below meth c H locs 0 0 (MQ below (QcI X (rPayload S b) S) args s 0 0 (xA X)) (F0 m 0 ls []) by
    subst hH
    subst hlo
    exact hgo hP hS
  clear hP hS
  intro hP hS
  refine lv_aload_n hx hb d_M_payload_0 rfl (lv_at hl 0 rfl) ?_
  refine lv_iload_n hx hb d_M_payload_1 rfl (lv_at hl 1 rfl) ?_
  refine x_callVi (As := [.int b]) (rest := []) cf hK hN hP hS (k_M_isBlock l hX hI b) (cw_M_isBlock cf.2.2.2.2 w_655 ⟨Nat.le_of_ble_eq_true rfl, Nat.le_of_ble_eq_true rfl⟩) (rv_M hK hP) hl.1 rfl rfl (Nat.le_of_ble_eq_true rfl) ⟨Nat.zero_le _, Nat.zero_le _⟩ d_M_payload_2 (fun H locs hP hS => ?_)
  refine n_if_eq (tgt := 17) hx hb d_M_payload_5 (by decide) (tnat_lt _) (fun h1 => ?_) (fun h1 => ?_)
  · skip
    refine lv_iconst (v := (-1)) hx hb d_M_payload_17 (by decide) ?_
    exact x_iret cf hr hlk hP hS (by unfold rPayload; rw [tnat_0 h1]; rfl) (rfl) d_M_payload_18
  · skip
    obtain ⟨j, hj, rfl⟩ := mBlock_nI (by omega) (tnat_1 h1)
    have hjc := nI_clamp (show j < 2 ^ 31 by omega)
    refine lv_aload_n hx hb d_M_payload_8 rfl (lv_at hl 0 rfl) ?_
    refine x_getM (v := .ref (X.2.2.2 7)) cf hK hP 12 (by decide) w_473 rfl d_M_payload_9 ?_
    refine lv_iload_n hx hb d_M_payload_12 rfl (lv_at hl 1 rfl) ?_
    refine x_iald (v := (S 7 j)) cf hK hP (ia7 X) (by omega) rfl d_M_payload_13 ?_
    refine lv_goto (tgt := 18) hx hb d_M_payload_14 (by decide) ?_
    exact x_iret cf hr hlk hP hS (by unfold rPayload; rw [tnat_1 h1, hjc]; rfl) (rfl) d_M_payload_18
set_option maxRecDepth 100000 in
set_option maxHeartbeats 4000000 in
theorem k_M_votes (l : Launch) {X : WX} (hX : xInj X) {S : Nat → Nat → Nat} {V : Nat} (hI : IW V S) (b : Int32) : MetI l X y_M_votes (Cond.code y_M_votes c_M_votes 2 (some .int) :: Mst) 1 [.ref (X.2.2.2 0), .int b] S (rVotes S b) S := by
  refine MetI.of (by decide) (Nat.le_of_ble_eq_true rfl) ?_
  intro p e s m args below meth c cf hr hlk hP hK hN ls hl
  have hl : lv_has ls 2 [(0, .ref (X.2.2.2 0)), (1, .int b)] := hl
  have hx := cf.1
  have hb := cf.2.1
  have hD := xD_of hX
  have hS : va_S (xA X) s.heap s.heap [] := va_S.rf
  have hf := hI.f
  have hn := hI.n
  have hk := hI.k
  have hcs := hI.cs
  have ht := hI.t
  have hbl := hI.b
  have hm := hI.m
  have hV := hI.V
  obtain ⟨H, hH⟩ : ∃ H, H = s.heap := ⟨_, rfl⟩
  obtain ⟨locs, hlo⟩ : ∃ z : List Loc, z = [] := ⟨_, rfl⟩
  suffices hgo : PW X S H → va_S (xA X) s.heap H locs → W p l e (rmd 1) s m args below meth c H locs 0 0 (MQ below (QcI X (rVotes S b) S) args s 0 0 (xA X)) (F0 m 0 ls []) by
    subst hH
    subst hlo
    exact hgo hP hS
  clear hP hS
  intro hP hS
  refine lv_aload_n hx hb d_M_votes_0 rfl (lv_at hl 0 rfl) ?_
  refine lv_iload_n hx hb d_M_votes_1 rfl (lv_at hl 1 rfl) ?_
  refine x_callVi (As := [.int b]) (rest := []) cf hK hN hP hS (k_M_isBlock l hX hI b) (cw_M_isBlock cf.2.2.2.2 w_655 ⟨Nat.le_of_ble_eq_true rfl, Nat.le_of_ble_eq_true rfl⟩) (rv_M hK hP) hl.1 rfl rfl (Nat.le_of_ble_eq_true rfl) ⟨Nat.zero_le _, Nat.zero_le _⟩ d_M_votes_2 (fun H locs hP hS => ?_)
  refine n_if_eq (tgt := 17) hx hb d_M_votes_5 (by decide) (tnat_lt _) (fun h1 => ?_) (fun h1 => ?_)
  · skip
    refine lv_iconst (v := (-1)) hx hb d_M_votes_17 (by decide) ?_
    exact x_iret cf hr hlk hP hS (by unfold rVotes; rw [tnat_0 h1]; rfl) (rfl) d_M_votes_18
  · skip
    obtain ⟨j, hj, rfl⟩ := mBlock_nI (by omega) (tnat_1 h1)
    have hjc := nI_clamp (show j < 2 ^ 31 by omega)
    refine lv_aload_n hx hb d_M_votes_8 rfl (lv_at hl 0 rfl) ?_
    refine x_getM (v := .ref (X.2.2.2 8)) cf hK hP 13 (by decide) w_474 rfl d_M_votes_9 ?_
    refine lv_iload_n hx hb d_M_votes_12 rfl (lv_at hl 1 rfl) ?_
    refine x_iald (v := (S 8 j)) cf hK hP (ia8 X) (by omega) rfl d_M_votes_13 ?_
    refine lv_goto (tgt := 18) hx hb d_M_votes_14 (by decide) ?_
    exact x_iret cf hr hlk hP hS (by unfold rVotes; rw [tnat_1 h1, hjc]; rfl) (rfl) d_M_votes_18
set_option maxRecDepth 100000 in
set_option maxHeartbeats 4000000 in
theorem k_M_drop (l : Launch) {X : WX} (hX : xInj X) {S : Nat → Nat → Nat} {V : Nat} (hI : IW V S) (i : Int32) : MetI l X y_M_drop (Cond.code y_M_drop c_M_drop 2 (some .boolean) :: Mst) 1 [.ref (X.2.2.2 0), .int i] S (nI (rMsg S i).toNat) (mDrop S i) := by
  refine MetI.of (by decide) (Nat.le_of_ble_eq_true rfl) ?_
  intro p e s m args below meth c cf hr hlk hP hK hN ls hl
  have hl : lv_has ls 2 [(0, .ref (X.2.2.2 0)), (1, .int i)] := hl
  have hx := cf.1
  have hb := cf.2.1
  have hD := xD_of hX
  have hS : va_S (xA X) s.heap s.heap [] := va_S.rf
  have hf := hI.f
  have hn := hI.n
  have hk := hI.k
  have hcs := hI.cs
  have ht := hI.t
  have hbl := hI.b
  have hm := hI.m
  have hV := hI.V
  obtain ⟨H, hH⟩ : ∃ H, H = s.heap := ⟨_, rfl⟩
  obtain ⟨locs, hlo⟩ : ∃ z : List Loc, z = [] := ⟨_, rfl⟩
  suffices hgo : PW X S H → va_S (xA X) s.heap H locs → W p l e (rmd 1) s m args below meth c H locs 0 0 (MQ below (QcI X (nI (rMsg S i).toNat) (mDrop S i)) args s 0 0 (xA X)) (F0 m 0 ls []) by
    subst hH
    subst hlo
    exact hgo hP hS
  clear hP hS
  intro hP hS
  refine lv_iload_n hx hb d_M_drop_0 rfl (lv_at hl 1 rfl) ?_
  refine lv_if_lt (tgt := 12) hx hb d_M_drop_1 (by decide) (fun h1 => ?_) (fun h1 => ?_)
  · skip
    have uh1 := i_lt0 h1
    have hno := rMsg_no (S := S) (i := i) (by omega)
    refine lv_iconst (v := nI 0) hx hb d_M_drop_12 (by decide) ?_
    exact x_zret cf hr hlk hP hS (by rw [hno]; rfl) (by unfold mDrop; rw [hno]; rfl) d_M_drop_13
  · skip
    have uh1 := i_nlt0 h1
    refine lv_iload_n hx hb d_M_drop_4 rfl (lv_at hl 1 rfl) ?_
    refine lv_aload_n hx hb d_M_drop_5 rfl (lv_at hl 0 rfl) ?_
    refine x_getM (v := .int (nI (S 0 6))) cf hK hP 14 (by decide) w_475 rfl d_M_drop_6 ?_
    refine lv_icmp_lt (tgt := 14) hx hb d_M_drop_9 (by decide) (fun h2 => ?_) (fun h2 => ?_)
    · skip
      have uh2 := i_ltN (by omega) h2
      obtain ⟨j, hj, rfl, hjt, hjc⟩ := i_nat uh1
      have hj6 : j < S 0 6 := by omega
      have hms := rMsg_yes hm hj6
      refine lv_aload_n hx hb d_M_drop_14 rfl (lv_at hl 0 rfl) ?_
      refine lv_iload_n hx hb d_M_drop_15 rfl (lv_at hl 1 rfl) ?_
      refine x_callVv (As := [.int (nI j)]) (rest := []) cf hK hN hP hS (k_M_takeOut l hX hI (by omega)) (cw_M_takeOut cf.2.2.2.2 w_607 ⟨Nat.le_of_ble_eq_true rfl, Nat.le_of_ble_eq_true rfl⟩) (rv_M hK hP) hl.1 rfl rfl (Nat.le_of_ble_eq_true rfl) ⟨Nat.zero_le _, Nat.zero_le _⟩ d_M_drop_16 (fun H locs hP hS => ?_)
      refine lv_iconst (v := nI 1) hx hb d_M_drop_19 (by decide) ?_
      exact x_zret cf hr hlk hP hS (by rw [hms]; rfl) (by unfold mDrop; rw [hms, hjc]; rfl) d_M_drop_20
    · skip
      have uh2 := i_nltN (by omega) h2
      have hno := rMsg_no (S := S) (i := i) (by omega)
      refine lv_iconst (v := nI 0) hx hb d_M_drop_12 (by decide) ?_
      exact x_zret cf hr hlk hP hS (by rw [hno]; rfl) (by unfold mDrop; rw [hno]; rfl) d_M_drop_13
set_option maxRecDepth 100000 in
set_option maxHeartbeats 4000000 in
theorem k_M_offer (l : Launch) {X : WX} (hX : xInj X) {S : Nat → Nat → Nat} {V : Nat} (hI : IW V S) (b r : Int32) : MetI l X y_M_offer (Cond.code y_M_offer c_M_offer 3 (some .boolean) :: Mst) 1 [.ref (X.2.2.2 0), .int b, .int r] S (nI (rOffer S b r).toNat) (mOffer S b r) := by
  refine MetI.of (by decide) (Nat.le_of_ble_eq_true rfl) ?_
  intro p e s m args below meth c cf hr hlk hP hK hN ls hl
  have hl : lv_has ls 3 [(0, .ref (X.2.2.2 0)), (1, .int b), (2, .int r)] := hl
  have hx := cf.1
  have hb := cf.2.1
  have hD := xD_of hX
  have hS : va_S (xA X) s.heap s.heap [] := va_S.rf
  have hf := hI.f
  have hn := hI.n
  have hk := hI.k
  have hcs := hI.cs
  have ht := hI.t
  have hbl := hI.b
  have hm := hI.m
  have hV := hI.V
  obtain ⟨H, hH⟩ : ∃ H, H = s.heap := ⟨_, rfl⟩
  obtain ⟨locs, hlo⟩ : ∃ z : List Loc, z = [] := ⟨_, rfl⟩
  suffices hgo : PW X S H → va_S (xA X) s.heap H locs → W p l e (rmd 1) s m args below meth c H locs 0 0 (MQ below (QcI X (nI (rOffer S b r).toNat) (mOffer S b r)) args s 0 0 (xA X)) (F0 m 0 ls []) by
    subst hH
    subst hlo
    exact hgo hP hS
  clear hP hS
  intro hP hS
  refine lv_aload_n hx hb d_M_offer_0 rfl (lv_at hl 0 rfl) ?_
  refine x_getM (v := .int (nI (S 0 3))) cf hK hP 3 (by decide) w_464 rfl d_M_offer_1 ?_
  refine n_if_eq (tgt := 36) hx hb d_M_offer_4 (by decide) (by omega) (fun h1 => ?_) (fun h1 => ?_)
  · skip
    have hno : rOffer S b r = false := by unfold rOffer; rw [decide_eq_false (p := ¬ S 0 3 = 0) (by omega)]; simp
    refine lv_iconst (v := nI 0) hx hb d_M_offer_36 (by decide) ?_
    exact x_zret cf hr hlk hP hS (by rw [hno]; rfl) (by unfold mOffer; rw [hno]; rfl) d_M_offer_37
  · skip
    refine lv_iload_n hx hb d_M_offer_7 rfl (lv_at hl 1 rfl) ?_
    refine lv_if_eq (tgt := 36) hx hb d_M_offer_8 (by decide) (fun h2 => ?_) (fun h2 => ?_)
    · skip
      have uh2 := i_eq0 h2
      have hno : rOffer S b r = false := by unfold rOffer; rw [decide_eq_false (p := ¬ b.toInt = 0) (by omega)]; simp
      refine lv_iconst (v := nI 0) hx hb d_M_offer_36 (by decide) ?_
      exact x_zret cf hr hlk hP hS (by rw [hno]; rfl) (by unfold mOffer; rw [hno]; rfl) d_M_offer_37
    · skip
      have uh2 := i_ne0 h2
      refine lv_aload_n hx hb d_M_offer_11 rfl (lv_at hl 0 rfl) ?_
      refine lv_iload_n hx hb d_M_offer_12 rfl (lv_at hl 1 rfl) ?_
      refine x_callVi (As := [.int b]) (rest := []) cf hK hN hP hS (k_M_isBlock l hX hI b) (cw_M_isBlock cf.2.2.2.2 w_655 ⟨Nat.le_of_ble_eq_true rfl, Nat.le_of_ble_eq_true rfl⟩) (rv_M hK hP) hl.1 rfl rfl (Nat.le_of_ble_eq_true rfl) ⟨Nat.zero_le _, Nat.zero_le _⟩ d_M_offer_13 (fun H locs hP hS => ?_)
      refine n_if_eq (tgt := 36) hx hb d_M_offer_16 (by decide) (tnat_lt _) (fun h3 => ?_) (fun h3 => ?_)
      · skip
        have hno : rOffer S b r = false := by unfold rOffer; rw [tnat_0 (b := mBlock S b) h3]; simp
        refine lv_iconst (v := nI 0) hx hb d_M_offer_36 (by decide) ?_
        exact x_zret cf hr hlk hP hS (by rw [hno]; rfl) (by unfold mOffer; rw [hno]; rfl) d_M_offer_37
      · skip
        obtain ⟨bj, hbj, rfl⟩ := mBlock_nI (by omega) (tnat_1 h3)
        have hbjc := nI_clamp (show bj < 2 ^ 31 by omega)
        refine lv_aload_n hx hb d_M_offer_19 rfl (lv_at hl 0 rfl) ?_
        refine lv_iload_n hx hb d_M_offer_20 rfl (lv_at hl 2 rfl) ?_
        refine x_callVi (As := [.int r]) (rest := []) cf hK hN hP hS (k_M_isReplica l hX hI r) (cw_M_isReplica cf.2.2.2.2 w_571 ⟨Nat.le_of_ble_eq_true rfl, Nat.le_of_ble_eq_true rfl⟩) (rv_M hK hP) hl.1 rfl rfl (Nat.le_of_ble_eq_true rfl) ⟨Nat.zero_le _, Nat.zero_le _⟩ d_M_offer_21 (fun H locs hP hS => ?_)
        refine n_if_eq (tgt := 36) hx hb d_M_offer_24 (by decide) (tnat_lt _) (fun h4 => ?_) (fun h4 => ?_)
        · skip
          have hno : rOffer S (nI bj) r = false := by unfold rOffer; rw [tnat_0 (b := mRep S r) h4]; simp
          refine lv_iconst (v := nI 0) hx hb d_M_offer_36 (by decide) ?_
          exact x_zret cf hr hlk hP hS (by rw [hno]; rfl) (by unfold mOffer; rw [hno]; rfl) d_M_offer_37
        · skip
          obtain ⟨rj, hrj, rfl⟩ := mRep_nI (by omega) (tnat_1 h4)
          have hrjc := nI_clamp (show rj < 2 ^ 31 by omega)
          refine lv_aload_n hx hb d_M_offer_27 rfl (lv_at hl 0 rfl) ?_
          refine x_getM (v := .int (nI (S 0 6))) cf hK hP 14 (by decide) w_475 rfl d_M_offer_28 ?_
          refine lv_bipush (v := nI 40) hx hb d_M_offer_31 (by decide) ?_
          refine n_icmp_lt (tgt := 38) hx hb d_M_offer_33 (by decide) (by omega) (by decide) (fun h5 => ?_) (fun h5 => ?_)
          · skip
            have hyes : rOffer S (nI bj) (nI rj) = true := by unfold rOffer; rw [decide_eq_true (p := ¬ S 0 3 = 0) (by omega), decide_eq_true (p := ¬ (nI bj).toInt = 0) (by omega), tnat_1 (b := mBlock S (nI bj)) (by assumption), tnat_1 (b := mRep S (nI rj)) (by assumption), decide_eq_true (p := S 0 6 < 40) (by omega)]; rfl
            refine lv_aload_n hx hb d_M_offer_38 rfl (lv_at hl 0 rfl) ?_
            refine lv_iconst (v := nI 0) hx hb d_M_offer_39 (by decide) ?_
            refine lv_iconst (v := nI 0) hx hb d_M_offer_40 (by decide) ?_
            refine lv_iload_n hx hb d_M_offer_41 rfl (lv_at hl 2 rfl) ?_
            refine lv_iload_n hx hb d_M_offer_42 rfl (lv_at hl 1 rfl) ?_
            refine lv_iconst (v := nI 0) hx hb d_M_offer_43 (by decide) ?_
            refine x_callVv (As := [.int (nI 0), .int (nI 0), .int (nI rj), .int (nI bj), .int (nI 0)]) (rest := []) cf hK hN hP hS (k_M_send l hX hI 0 0 rj bj 0) (cw_M_send cf.2.2.2.2 w_591 ⟨Nat.le_of_ble_eq_true rfl, Nat.le_of_ble_eq_true rfl⟩) (rv_M hK hP) hl.1 rfl rfl (Nat.le_of_ble_eq_true rfl) ⟨Nat.zero_le _, Nat.zero_le _⟩ d_M_offer_44 (fun H locs hP hS => ?_)
            refine lv_iconst (v := nI 1) hx hb d_M_offer_47 (by decide) ?_
            exact x_zret cf hr hlk hP hS (by rw [hyes]; rfl) (by unfold mOffer; rw [hyes, hbjc, hrjc]; rfl) d_M_offer_48
          · skip
            have hno : rOffer S (nI bj) (nI rj) = false := by unfold rOffer; rw [decide_eq_false (p := S 0 6 < 40) (by omega)]; simp
            refine lv_iconst (v := nI 0) hx hb d_M_offer_36 (by decide) ?_
            exact x_zret cf hr hlk hP hS (by rw [hno]; rfl) (by unfold mOffer; rw [hno]; rfl) d_M_offer_37
set_option maxRecDepth 100000 in
set_option maxHeartbeats 4000000 in
theorem k_M_vote (l : Launch) {X : WX} (hX : xInj X) {S : Nat → Nat → Nat} {V : Nat} (hI : IW V S) (x b r : Int32) : MetI l X y_M_vote (Cond.code y_M_vote c_M_vote 4 (some .boolean) :: Mst) 2 [.ref (X.2.2.2 0), .int x, .int b, .int r] S (nI (rVote S x b r).toNat) (mVote S x b r) := by
  refine MetI.of (by decide) (Nat.le_of_ble_eq_true rfl) ?_
  intro p e s m args below meth c cf hr hlk hP hK hN ls hl
  have hl : lv_has ls 4 [(0, .ref (X.2.2.2 0)), (1, .int x), (2, .int b), (3, .int r)] := hl
  have hx := cf.1
  have hb := cf.2.1
  have hD := xD_of hX
  have hS : va_S (xA X) s.heap s.heap [] := va_S.rf
  have hf := hI.f
  have hn := hI.n
  have hk := hI.k
  have hcs := hI.cs
  have ht := hI.t
  have hbl := hI.b
  have hm := hI.m
  have hV := hI.V
  obtain ⟨H, hH⟩ : ∃ H, H = s.heap := ⟨_, rfl⟩
  obtain ⟨locs, hlo⟩ : ∃ z : List Loc, z = [] := ⟨_, rfl⟩
  suffices hgo : PW X S H → va_S (xA X) s.heap H locs → W p l e (rmd 2) s m args below meth c H locs 0 0 (MQ below (QcI X (nI (rVote S x b r).toNat) (mVote S x b r)) args s 0 0 (xA X)) (F0 m 0 ls []) by
    subst hH
    subst hlo
    exact hgo hP hS
  clear hP hS
  intro hP hS
  refine lv_aload_n hx hb d_M_vote_0 rfl (lv_at hl 0 rfl) ?_
  refine lv_iload_n hx hb d_M_vote_1 rfl (lv_at hl 1 rfl) ?_
  refine x_callVi (As := [.int x]) (rest := []) cf hK hN hP hS (k_M_isCorrupt l hX hI x) (cw_M_isCorrupt cf.2.2.2.2 w_611 ⟨Nat.le_of_ble_eq_true rfl, Nat.le_of_ble_eq_true rfl⟩) (rv_M hK hP) hl.1 rfl rfl (Nat.le_of_ble_eq_true rfl) ⟨Nat.zero_le _, Nat.zero_le _⟩ d_M_vote_2 (fun H locs hP hS => ?_)
  refine n_if_eq (tgt := 37) hx hb d_M_vote_5 (by decide) (tnat_lt _) (fun h1 => ?_) (fun h1 => ?_)
  · skip
    have hno : rVote S x b r = false := by unfold rVote; rw [tnat_0 (b := mCorrupt S x) h1]; simp
    refine lv_iconst (v := nI 0) hx hb d_M_vote_37 (by decide) ?_
    exact x_zret cf hr hlk hP hS (by rw [hno]; rfl) (by unfold mVote; rw [hno]; rfl) d_M_vote_38
  · skip
    obtain ⟨xj, hxj, rfl, hxjb⟩ := mCorrupt_ex (by omega) (tnat_1 h1)
    have hxjc := nI_clamp (show xj < 2 ^ 31 by omega)
    refine lv_iload_n hx hb d_M_vote_8 rfl (lv_at hl 2 rfl) ?_
    refine lv_if_eq (tgt := 37) hx hb d_M_vote_9 (by decide) (fun h2 => ?_) (fun h2 => ?_)
    · skip
      have uh2 := i_eq0 h2
      have hno : rVote S (nI xj) b r = false := by unfold rVote; rw [decide_eq_false (p := ¬ b.toInt = 0) (by omega)]; simp
      refine lv_iconst (v := nI 0) hx hb d_M_vote_37 (by decide) ?_
      exact x_zret cf hr hlk hP hS (by rw [hno]; rfl) (by unfold mVote; rw [hno]; rfl) d_M_vote_38
    · skip
      have uh2 := i_ne0 h2
      refine lv_aload_n hx hb d_M_vote_12 rfl (lv_at hl 0 rfl) ?_
      refine lv_iload_n hx hb d_M_vote_13 rfl (lv_at hl 2 rfl) ?_
      refine x_callVi (As := [.int b]) (rest := []) cf hK hN hP hS (k_M_isBlock l hX hI b) (cw_M_isBlock cf.2.2.2.2 w_655 ⟨Nat.le_of_ble_eq_true rfl, Nat.le_of_ble_eq_true rfl⟩) (rv_M hK hP) hl.1 rfl rfl (Nat.le_of_ble_eq_true rfl) ⟨Nat.zero_le _, Nat.zero_le _⟩ d_M_vote_14 (fun H locs hP hS => ?_)
      refine n_if_eq (tgt := 37) hx hb d_M_vote_17 (by decide) (tnat_lt _) (fun h3 => ?_) (fun h3 => ?_)
      · skip
        have hno : rVote S (nI xj) b r = false := by unfold rVote; rw [tnat_0 (b := mBlock S b) h3]; simp
        refine lv_iconst (v := nI 0) hx hb d_M_vote_37 (by decide) ?_
        exact x_zret cf hr hlk hP hS (by rw [hno]; rfl) (by unfold mVote; rw [hno]; rfl) d_M_vote_38
      · skip
        obtain ⟨bj, hbj, rfl⟩ := mBlock_nI (by omega) (tnat_1 h3)
        have hbjc := nI_clamp (show bj < 2 ^ 31 by omega)
        refine lv_aload_n hx hb d_M_vote_20 rfl (lv_at hl 0 rfl) ?_
        refine lv_iload_n hx hb d_M_vote_21 rfl (lv_at hl 3 rfl) ?_
        refine x_callVi (As := [.int r]) (rest := []) cf hK hN hP hS (k_M_isReplica l hX hI r) (cw_M_isReplica cf.2.2.2.2 w_571 ⟨Nat.le_of_ble_eq_true rfl, Nat.le_of_ble_eq_true rfl⟩) (rv_M hK hP) hl.1 rfl rfl (Nat.le_of_ble_eq_true rfl) ⟨Nat.zero_le _, Nat.zero_le _⟩ d_M_vote_22 (fun H locs hP hS => ?_)
        refine n_if_eq (tgt := 37) hx hb d_M_vote_25 (by decide) (tnat_lt _) (fun h4 => ?_) (fun h4 => ?_)
        · skip
          have hno : rVote S (nI xj) (nI bj) r = false := by unfold rVote; rw [tnat_0 (b := mRep S r) h4]; simp
          refine lv_iconst (v := nI 0) hx hb d_M_vote_37 (by decide) ?_
          exact x_zret cf hr hlk hP hS (by rw [hno]; rfl) (by unfold mVote; rw [hno]; rfl) d_M_vote_38
        · skip
          obtain ⟨rj, hrj, rfl⟩ := mRep_nI (by omega) (tnat_1 h4)
          have hrjc := nI_clamp (show rj < 2 ^ 31 by omega)
          refine lv_aload_n hx hb d_M_vote_28 rfl (lv_at hl 0 rfl) ?_
          refine x_getM (v := .int (nI (S 0 6))) cf hK hP 14 (by decide) w_475 rfl d_M_vote_29 ?_
          refine lv_bipush (v := nI 40) hx hb d_M_vote_32 (by decide) ?_
          refine n_icmp_lt (tgt := 39) hx hb d_M_vote_34 (by decide) (by omega) (by decide) (fun h5 => ?_) (fun h5 => ?_)
          · skip
            have hyes : rVote S (nI xj) (nI bj) (nI rj) = true := by unfold rVote; rw [tnat_1 (b := mCorrupt S (nI xj)) (by assumption), decide_eq_true (p := ¬ (nI bj).toInt = 0) (by omega), tnat_1 (b := mBlock S (nI bj)) (by assumption), tnat_1 (b := mRep S (nI rj)) (by assumption), decide_eq_true (p := S 0 6 < 40) (by omega)]; rfl
            refine lv_aload_n hx hb d_M_vote_39 rfl (lv_at hl 0 rfl) ?_
            refine lv_iconst (v := nI 1) hx hb d_M_vote_40 (by decide) ?_
            refine lv_iload_n hx hb d_M_vote_41 rfl (lv_at hl 1 rfl) ?_
            refine lv_iload_n hx hb d_M_vote_42 rfl (lv_at hl 3 rfl) ?_
            refine lv_iload_n hx hb d_M_vote_43 rfl (lv_at hl 2 rfl) ?_
            refine lv_iconst (v := nI 0) hx hb d_M_vote_44 (by decide) ?_
            refine x_callVv (As := [.int (nI 1), .int (nI xj), .int (nI rj), .int (nI bj), .int (nI 0)]) (rest := []) cf hK hN hP hS (k_M_send l hX hI 1 xj rj bj 0) (cw_M_send cf.2.2.2.2 w_591 ⟨Nat.le_of_ble_eq_true rfl, Nat.le_of_ble_eq_true rfl⟩) (rv_M hK hP) hl.1 rfl rfl (Nat.le_of_ble_eq_true rfl) ⟨Nat.zero_le _, Nat.zero_le _⟩ d_M_vote_45 (fun H locs hP hS => ?_)
            refine lv_iconst (v := nI 1) hx hb d_M_vote_48 (by decide) ?_
            exact x_zret cf hr hlk hP hS (by rw [hyes]; rfl) (by unfold mVote; rw [hyes, hxjc, hbjc, hrjc]; rfl) d_M_vote_49
          · skip
            have hno : rVote S (nI xj) (nI bj) (nI rj) = false := by unfold rVote; rw [decide_eq_false (p := S 0 6 < 40) (by omega)]; simp
            refine lv_iconst (v := nI 0) hx hb d_M_vote_37 (by decide) ?_
            exact x_zret cf hr hlk hP hS (by rw [hno]; rfl) (by unfold mVote; rw [hno]; rfl) d_M_vote_38
set_option maxRecDepth 100000 in
set_option maxHeartbeats 4000000 in
theorem k_M_claim (l : Launch) {X : WX} (hX : xInj X) {S : Nat → Nat → Nat} {V : Nat} (hI : IW V S) (x v b r : Int32) : MetI l X y_M_claim (Cond.code y_M_claim c_M_claim 5 (some .boolean) :: Mst) 2 [.ref (X.2.2.2 0), .int x, .int v, .int b, .int r] S (nI (rClaim S x v b r).toNat) (mClaim S x v b r) := by
  refine MetI.of (by decide) (Nat.le_of_ble_eq_true rfl) ?_
  intro p e s m args below meth c cf hr hlk hP hK hN ls hl
  have hl : lv_has ls 5 [(0, .ref (X.2.2.2 0)), (1, .int x), (2, .int v), (3, .int b), (4, .int r)] := hl
  have hx := cf.1
  have hb := cf.2.1
  have hD := xD_of hX
  have hS : va_S (xA X) s.heap s.heap [] := va_S.rf
  have hf := hI.f
  have hn := hI.n
  have hk := hI.k
  have hcs := hI.cs
  have ht := hI.t
  have hbl := hI.b
  have hm := hI.m
  have hV := hI.V
  obtain ⟨H, hH⟩ : ∃ H, H = s.heap := ⟨_, rfl⟩
  obtain ⟨locs, hlo⟩ : ∃ z : List Loc, z = [] := ⟨_, rfl⟩
  suffices hgo : PW X S H → va_S (xA X) s.heap H locs → W p l e (rmd 2) s m args below meth c H locs 0 0 (MQ below (QcI X (nI (rClaim S x v b r).toNat) (mClaim S x v b r)) args s 0 0 (xA X)) (F0 m 0 ls []) by
    subst hH
    subst hlo
    exact hgo hP hS
  clear hP hS
  intro hP hS
  refine lv_aload_n hx hb d_M_claim_0 rfl (lv_at hl 0 rfl) ?_
  refine lv_iload_n hx hb d_M_claim_1 rfl (lv_at hl 1 rfl) ?_
  refine x_callVi (As := [.int x]) (rest := []) cf hK hN hP hS (k_M_isCorrupt l hX hI x) (cw_M_isCorrupt cf.2.2.2.2 w_611 ⟨Nat.le_of_ble_eq_true rfl, Nat.le_of_ble_eq_true rfl⟩) (rv_M hK hP) hl.1 rfl rfl (Nat.le_of_ble_eq_true rfl) ⟨Nat.zero_le _, Nat.zero_le _⟩ d_M_claim_2 (fun H locs hP hS => ?_)
  refine n_if_eq (tgt := 47) hx hb d_M_claim_5 (by decide) (tnat_lt _) (fun h1 => ?_) (fun h1 => ?_)
  · skip
    have hno : rClaim S x v b r = false := by unfold rClaim; rw [tnat_0 (b := mCorrupt S x) h1]; simp
    refine lv_iconst (v := nI 0) hx hb d_M_claim_47 (by decide) ?_
    exact x_zret cf hr hlk hP hS (by rw [hno]; rfl) (by unfold mClaim; rw [hno]; rfl) d_M_claim_48
  · skip
    obtain ⟨xj, hxj, rfl, hxjb⟩ := mCorrupt_ex (by omega) (tnat_1 h1)
    have hxjc := nI_clamp (show xj < 2 ^ 31 by omega)
    refine lv_iload_n hx hb d_M_claim_8 rfl (lv_at hl 2 rfl) ?_
    refine lv_iconst (v := nI 1) hx hb d_M_claim_9 (by decide) ?_
    refine lv_icmp_lt (tgt := 47) hx hb d_M_claim_10 (by decide) (fun h2 => ?_) (fun h2 => ?_)
    · skip
      have uh2 := i_ltN (by decide) h2
      have hno : rClaim S (nI xj) v b r = false := by unfold rClaim; rw [decide_eq_false (p := 1 ≤ v.toInt) (by omega)]; simp
      refine lv_iconst (v := nI 0) hx hb d_M_claim_47 (by decide) ?_
      exact x_zret cf hr hlk hP hS (by rw [hno]; rfl) (by unfold mClaim; rw [hno]; rfl) d_M_claim_48
    · skip
      have uh2 := i_nltN (by decide) h2
      obtain ⟨vj, hvj, rfl, hvjt, hvjc⟩ := i_nat (x := v) (by omega)
      refine lv_aload_n hx hb d_M_claim_13 rfl (lv_at hl 0 rfl) ?_
      refine lv_iload_n hx hb d_M_claim_14 rfl (lv_at hl 3 rfl) ?_
      refine x_callVi (As := [.int b]) (rest := []) cf hK hN hP hS (k_M_isBlock l hX hI b) (cw_M_isBlock cf.2.2.2.2 w_655 ⟨Nat.le_of_ble_eq_true rfl, Nat.le_of_ble_eq_true rfl⟩) (rv_M hK hP) hl.1 rfl rfl (Nat.le_of_ble_eq_true rfl) ⟨Nat.zero_le _, Nat.zero_le _⟩ d_M_claim_15 (fun H locs hP hS => ?_)
      refine n_if_eq (tgt := 47) hx hb d_M_claim_18 (by decide) (tnat_lt _) (fun h3 => ?_) (fun h3 => ?_)
      · skip
        have hno : rClaim S (nI xj) (nI vj) b r = false := by unfold rClaim; rw [tnat_0 (b := mBlock S b) h3]; simp
        refine lv_iconst (v := nI 0) hx hb d_M_claim_47 (by decide) ?_
        exact x_zret cf hr hlk hP hS (by rw [hno]; rfl) (by unfold mClaim; rw [hno]; rfl) d_M_claim_48
      · skip
        obtain ⟨bj, hbj, rfl⟩ := mBlock_nI (by omega) (tnat_1 h3)
        have hbjc := nI_clamp (show bj < 2 ^ 31 by omega)
        refine lv_aload_n hx hb d_M_claim_21 rfl (lv_at hl 0 rfl) ?_
        refine lv_iload_n hx hb d_M_claim_22 rfl (lv_at hl 3 rfl) ?_
        refine x_callVi (As := [.int (nI bj)]) (rest := []) cf hK hN hP hS (k_M_certified l hX hI (by omega)) (cw_M_certified cf.2.2.2.2 w_659 ⟨Nat.le_of_ble_eq_true rfl, Nat.le_of_ble_eq_true rfl⟩) (rv_M hK hP) hl.1 rfl rfl (Nat.le_of_ble_eq_true rfl) ⟨Nat.zero_le _, Nat.zero_le _⟩ d_M_claim_23 (fun H locs hP hS => ?_)
        refine n_if_eq (tgt := 47) hx hb d_M_claim_26 (by decide) (tnat_lt _) (fun h4 => ?_) (fun h4 => ?_)
        · skip
          have hno : rClaim S (nI xj) (nI vj) (nI bj) r = false := by unfold rClaim; rw [hbjc, tnat_0 (b := mCert S bj) h4]; simp
          refine lv_iconst (v := nI 0) hx hb d_M_claim_47 (by decide) ?_
          exact x_zret cf hr hlk hP hS (by rw [hno]; rfl) (by unfold mClaim; rw [hno]; rfl) d_M_claim_48
        · skip
          refine lv_aload_n hx hb d_M_claim_29 rfl (lv_at hl 0 rfl) ?_
          refine lv_iload hx hb d_M_claim_30 (lv_at hl 4 rfl) ?_
          refine x_callVi (As := [.int r]) (rest := []) cf hK hN hP hS (k_M_isReplica l hX hI r) (cw_M_isReplica cf.2.2.2.2 w_571 ⟨Nat.le_of_ble_eq_true rfl, Nat.le_of_ble_eq_true rfl⟩) (rv_M hK hP) hl.1 rfl rfl (Nat.le_of_ble_eq_true rfl) ⟨Nat.zero_le _, Nat.zero_le _⟩ d_M_claim_32 (fun H locs hP hS => ?_)
          refine n_if_eq (tgt := 47) hx hb d_M_claim_35 (by decide) (tnat_lt _) (fun h5 => ?_) (fun h5 => ?_)
          · skip
            have hno : rClaim S (nI xj) (nI vj) (nI bj) r = false := by unfold rClaim; rw [tnat_0 (b := mRep S r) h5]; simp
            refine lv_iconst (v := nI 0) hx hb d_M_claim_47 (by decide) ?_
            exact x_zret cf hr hlk hP hS (by rw [hno]; rfl) (by unfold mClaim; rw [hno]; rfl) d_M_claim_48
          · skip
            obtain ⟨rj, hrj, rfl⟩ := mRep_nI (by omega) (tnat_1 h5)
            have hrjc := nI_clamp (show rj < 2 ^ 31 by omega)
            refine lv_aload_n hx hb d_M_claim_38 rfl (lv_at hl 0 rfl) ?_
            refine x_getM (v := .int (nI (S 0 6))) cf hK hP 14 (by decide) w_475 rfl d_M_claim_39 ?_
            refine lv_bipush (v := nI 40) hx hb d_M_claim_42 (by decide) ?_
            refine n_icmp_lt (tgt := 49) hx hb d_M_claim_44 (by decide) (by omega) (by decide) (fun h6 => ?_) (fun h6 => ?_)
            · skip
              have hyes : rClaim S (nI xj) (nI vj) (nI bj) (nI rj) = true := by unfold rClaim; rw [hbjc, tnat_1 (b := mCorrupt S (nI xj)) (by assumption), decide_eq_true (p := 1 ≤ (nI vj).toInt) (by omega), tnat_1 (b := mBlock S (nI bj)) (by assumption), tnat_1 (b := mCert S bj) (by assumption), tnat_1 (b := mRep S (nI rj)) (by assumption), decide_eq_true (p := S 0 6 < 40) (by omega)]; rfl
              refine lv_aload_n hx hb d_M_claim_49 rfl (lv_at hl 0 rfl) ?_
              refine lv_iconst (v := nI 2) hx hb d_M_claim_50 (by decide) ?_
              refine lv_iload_n hx hb d_M_claim_51 rfl (lv_at hl 1 rfl) ?_
              refine lv_iload hx hb d_M_claim_52 (lv_at hl 4 rfl) ?_
              refine lv_iload_n hx hb d_M_claim_54 rfl (lv_at hl 3 rfl) ?_
              refine lv_iload_n hx hb d_M_claim_55 rfl (lv_at hl 2 rfl) ?_
              refine x_callVv (As := [.int (nI 2), .int (nI xj), .int (nI rj), .int (nI bj), .int (nI vj)]) (rest := []) cf hK hN hP hS (k_M_send l hX hI 2 xj rj bj vj) (cw_M_send cf.2.2.2.2 w_591 ⟨Nat.le_of_ble_eq_true rfl, Nat.le_of_ble_eq_true rfl⟩) (rv_M hK hP) hl.1 rfl rfl (Nat.le_of_ble_eq_true rfl) ⟨Nat.zero_le _, Nat.zero_le _⟩ d_M_claim_56 (fun H locs hP hS => ?_)
              refine lv_iconst (v := nI 1) hx hb d_M_claim_59 (by decide) ?_
              exact x_zret cf hr hlk hP hS (by rw [hyes]; rfl) (by unfold mClaim; rw [hyes, hxjc, hvjc, hbjc, hrjc]; rfl) d_M_claim_60
            · skip
              have hno : rClaim S (nI xj) (nI vj) (nI bj) (nI rj) = false := by unfold rClaim; rw [decide_eq_false (p := S 0 6 < 40) (by omega)]; simp
              refine lv_iconst (v := nI 0) hx hb d_M_claim_47 (by decide) ?_
              exact x_zret cf hr hlk hP hS (by rw [hno]; rfl) (by unfold mClaim; rw [hno]; rfl) d_M_claim_48
