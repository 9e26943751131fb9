def wTr (X : WX) (u : Nat → Nat) : va_W := [(u 0, .inr (3, [.ref (u 1), .ref (u 2), .ref (u 3), .int (nI 0)])), (u 1, aI X.2.1.1 24), (u 2, aI X.2.1.1 24), (u 3, aI X.2.1.1 24)]
def wBl (X : WX) (u : Nat → Nat) : va_W := [(u 0, .inr (4, [.ref (u 1), .ref (u 2), .ref (u 3), .ref (u 4), .ref (u 5), .ref (u 6), .int (nI 1)])), (u 1, aI X.2.1.1 40), (u 2, aI X.2.1.1 40), (u 3, aI X.2.1.1 40), (u 4, aI X.2.1.1 40), (u 5, aI X.2.1.1 40), (u 6, .inl (X.2.1.2.2.1, 40, .inr (.inl (fun q => lN (if q = 0 then 1 else 0)))))]
def wRo (X : WX) (u : Nat → Nat) : va_W := [(u 0, .inr (5, [.ref (u 1), .ref (u 2), .int (nI 0), .int (nI 0)])), (u 1, aI X.2.1.1 40), (u 2, aI X.2.1.1 40)]
def wLe (X : WX) (u : Nat → Nat) : va_W := [(u 0, .inr (6, [.ref (u 1), .ref (u 2)])), (u 1, aI X.2.1.1 4), (u 2, aI X.2.1.1 24)]
def fsRp0 : List Value := [.int (nI 0), .int (nI 0), .int (nI 0), .int (nI 0), .int (nI 0), .int (nI 0), .int (nI 0), .int (nI 0), .int (nI 0), .null, .null]
def wRp (X : WX) (n : Nat) (u : Nat → Nat) : va_W := [(u 0, .inr (2, [.int (nI 1), .int (nI 0), .int (nI 2), .int (nI 0), .int (nI 0), .int (nI 0), .int (nI 0), .int (nI 0), .int (nI 0), .ref (u 1), .ref (u 2)])), (u 1, aI X.2.1.1 40), (u 2, aI X.2.1.1 n)]
set_option maxRecDepth 100000 in
set_option maxHeartbeats 4000000 in
theorem k_Tr_init (l : Launch) (X : WX) : MetC l X y_Tr_init c_Tr_init 1 1 3 72 0 [] 3 [.null, .null, .null, .int (nI 0)] (wTr X) := by
  refine MetC.of (by decide) (fun _ => Nat.le_of_ble_eq_true rfl) ?_
  intro h0 p e s m args below meth c cf hr hlk hnm hK hC hP A hD hA ls hl
  have hl : lv_has ls 1 [(0, .ref h0)] := hl
  have hx := cf.1
  have hb := cf.2.1
  have hS : va_S A s.heap s.heap [] := va_S.rf
  refine lv_aload_n hx hb d_Tr_init_0 rfl (lv_at hl 0 rfl) ?_
  refine c_obj cf hl.1 w_83 (Nat.le_of_ble_eq_true rfl) (Nat.le_of_ble_eq_true rfl) (Nat.le_of_ble_eq_true rfl) d_Tr_init_1 ?_
  refine lv_aload_n hx hb d_Tr_init_4 rfl (lv_at hl 0 rfl) ?_
  refine lv_bipush (v := nI 24) hx hb d_Tr_init_5 (by decide) ?_
  refine c_newI (n := 24) cf hK (by decide) hP hD hS hA (Nat.le_of_ble_eq_true rfl) (Nat.le_of_ble_eq_true rfl) d_Tr_init_7 (fun q1 H hP hD hS => ?_)
  refine c_putF (ty := .array .int) (v := .ref q1) cf hnm in_Tr ty_Tr tok_Tr n_Tr_ (ci := 3) rfl hK hP hD hS 0 (by decide) w_84 rfl rfl (by decide +kernel) rfl rfl (Nat.le_of_ble_eq_true rfl) d_Tr_init_9 (fun H locs hP hD hS => ?_)
  refine lv_aload_n hx hb d_Tr_init_12 rfl (lv_at hl 0 rfl) ?_
  refine lv_bipush (v := nI 24) hx hb d_Tr_init_13 (by decide) ?_
  refine c_newI (n := 24) cf hK (by decide) hP hD hS hA (Nat.le_of_ble_eq_true rfl) (Nat.le_of_ble_eq_true rfl) d_Tr_init_15 (fun q2 H hP hD hS => ?_)
  refine c_putF (ty := .array .int) (v := .ref q2) cf hnm in_Tr ty_Tr tok_Tr n_Tr_ (ci := 3) rfl hK hP hD hS 1 (by decide) w_86 rfl rfl (by decide +kernel) rfl rfl (Nat.le_of_ble_eq_true rfl) d_Tr_init_17 (fun H locs hP hD hS => ?_)
  refine lv_aload_n hx hb d_Tr_init_20 rfl (lv_at hl 0 rfl) ?_
  refine lv_bipush (v := nI 24) hx hb d_Tr_init_21 (by decide) ?_
  refine c_newI (n := 24) cf hK (by decide) hP hD hS hA (Nat.le_of_ble_eq_true rfl) (Nat.le_of_ble_eq_true rfl) d_Tr_init_23 (fun q3 H hP hD hS => ?_)
  refine c_putF (ty := .array .int) (v := .ref q3) cf hnm in_Tr ty_Tr tok_Tr n_Tr_ (ci := 3) rfl hK hP hD hS 2 (by decide) w_88 rfl rfl (by decide +kernel) rfl rfl (Nat.le_of_ble_eq_true rfl) d_Tr_init_25 (fun H locs hP hD hS => ?_)
  exact c_vret (Wn := wTr X) cf hr hlk (Nat.le_of_ble_eq_true rfl) (Nat.le_of_ble_eq_true rfl) (fun i => match i with | 0 => h0 | 1 => q1 | 2 => q2 | _ => q3) rfl hP hD hS d_Tr_init_28
set_option maxRecDepth 100000 in
set_option maxHeartbeats 4000000 in
theorem k_Ro_init (l : Launch) (X : WX) : MetC l X y_Ro_init c_Ro_init 1 1 2 80 0 [] 5 [.null, .null, .int (nI 0), .int (nI 0)] (wRo X) := by
  refine MetC.of (by decide) (fun _ => Nat.le_of_ble_eq_true rfl) ?_
  intro h0 p e s m args below meth c cf hr hlk hnm hK hC hP A hD hA ls hl
  have hl : lv_has ls 1 [(0, .ref h0)] := hl
  have hx := cf.1
  have hb := cf.2.1
  have hS : va_S A s.heap s.heap [] := va_S.rf
  refine lv_aload_n hx hb d_Ro_init_0 rfl (lv_at hl 0 rfl) ?_
  refine c_obj cf hl.1 w_144 (Nat.le_of_ble_eq_true rfl) (Nat.le_of_ble_eq_true rfl) (Nat.le_of_ble_eq_true rfl) d_Ro_init_1 ?_
  refine lv_aload_n hx hb d_Ro_init_4 rfl (lv_at hl 0 rfl) ?_
  refine lv_bipush (v := nI 40) hx hb d_Ro_init_5 (by decide) ?_
  refine c_newI (n := 40) cf hK (by decide) hP hD hS hA (Nat.le_of_ble_eq_true rfl) (Nat.le_of_ble_eq_true rfl) d_Ro_init_7 (fun q1 H hP hD hS => ?_)
  refine c_putF (ty := .array .int) (v := .ref q1) cf hnm in_Ro ty_Ro tok_Ro n_Ro_ (ci := 5) rfl hK hP hD hS 0 (by decide) w_145 rfl rfl (by decide +kernel) rfl rfl (Nat.le_of_ble_eq_true rfl) d_Ro_init_9 (fun H locs hP hD hS => ?_)
  refine lv_aload_n hx hb d_Ro_init_12 rfl (lv_at hl 0 rfl) ?_
  refine lv_bipush (v := nI 40) hx hb d_Ro_init_13 (by decide) ?_
  refine c_newI (n := 40) cf hK (by decide) hP hD hS hA (Nat.le_of_ble_eq_true rfl) (Nat.le_of_ble_eq_true rfl) d_Ro_init_15 (fun q2 H hP hD hS => ?_)
  refine c_putF (ty := .array .int) (v := .ref q2) cf hnm in_Ro ty_Ro tok_Ro n_Ro_ (ci := 5) rfl hK hP hD hS 1 (by decide) w_147 rfl rfl (by decide +kernel) rfl rfl (Nat.le_of_ble_eq_true rfl) d_Ro_init_17 (fun H locs hP hD hS => ?_)
  exact c_vret (Wn := wRo X) cf hr hlk (Nat.le_of_ble_eq_true rfl) (Nat.le_of_ble_eq_true rfl) (fun i => match i with | 0 => h0 | 1 => q1 | _ => q2) rfl hP hD hS d_Ro_init_20
set_option maxRecDepth 100000 in
set_option maxHeartbeats 4000000 in
theorem k_Le_init (l : Launch) (X : WX) : MetC l X y_Le_init c_Le_init 1 1 2 28 0 [] 6 [.null, .null] (wLe X) := by
  refine MetC.of (by decide) (fun _ => Nat.le_of_ble_eq_true rfl) ?_
  intro h0 p e s m args below meth c cf hr hlk hnm hK hC hP A hD hA ls hl
  have hl : lv_has ls 1 [(0, .ref h0)] := hl
  have hx := cf.1
  have hb := cf.2.1
  have hS : va_S A s.heap s.heap [] := va_S.rf
  refine lv_aload_n hx hb d_Le_init_0 rfl (lv_at hl 0 rfl) ?_
  refine c_obj cf hl.1 w_167 (Nat.le_of_ble_eq_true rfl) (Nat.le_of_ble_eq_true rfl) (Nat.le_of_ble_eq_true rfl) d_Le_init_1 ?_
  refine lv_aload_n hx hb d_Le_init_4 rfl (lv_at hl 0 rfl) ?_
  refine lv_iconst (v := nI 4) hx hb d_Le_init_5 (by decide) ?_
  refine c_newI (n := 4) cf hK (by decide) hP hD hS hA (Nat.le_of_ble_eq_true rfl) (Nat.le_of_ble_eq_true rfl) d_Le_init_6 (fun q1 H hP hD hS => ?_)
  refine c_putF (ty := .array .int) (v := .ref q1) cf hnm in_Le ty_Le tok_Le n_Le_ (ci := 6) rfl hK hP hD hS 0 (by decide) w_168 rfl rfl (by decide +kernel) rfl rfl (Nat.le_of_ble_eq_true rfl) d_Le_init_8 (fun H locs hP hD hS => ?_)
  refine lv_aload_n hx hb d_Le_init_11 rfl (lv_at hl 0 rfl) ?_
  refine lv_bipush (v := nI 24) hx hb d_Le_init_12 (by decide) ?_
  refine c_newI (n := 24) cf hK (by decide) hP hD hS hA (Nat.le_of_ble_eq_true rfl) (Nat.le_of_ble_eq_true rfl) d_Le_init_14 (fun q2 H hP hD hS => ?_)
  refine c_putF (ty := .array .int) (v := .ref q2) cf hnm in_Le ty_Le tok_Le n_Le_ (ci := 6) rfl hK hP hD hS 1 (by decide) w_170 rfl rfl (by decide +kernel) rfl rfl (Nat.le_of_ble_eq_true rfl) d_Le_init_16 (fun H locs hP hD hS => ?_)
  exact c_vret (Wn := wLe X) cf hr hlk (Nat.le_of_ble_eq_true rfl) (Nat.le_of_ble_eq_true rfl) (fun i => match i with | 0 => h0 | 1 => q1 | _ => q2) rfl hP hD hS d_Le_init_19
set_option maxRecDepth 100000 in
set_option maxHeartbeats 4000000 in
theorem k_Rp_init (l : Launch) (X : WX) {n : Nat} (hn : n ≤ 7) : MetC l X y_Rp_init c_Rp_init 2 1 2 47 0 [.int (nI n)] 2 fsRp0 (wRp X n) := by
  refine MetC.of (by decide) (fun _ => Nat.le_of_ble_eq_true rfl) ?_
  intro h0 p e s m args below meth c cf hr hlk hnm hK hC hP A hD hA ls hl
  have hl : lv_has ls 2 [(0, .ref h0), (1, .int (nI n))] := hl
  have hx := cf.1
  have hb := cf.2.1
  have hS : va_S A s.heap s.heap [] := va_S.rf
  unfold fsRp0 at hP hD
  refine lv_aload_n hx hb d_Rp_init_0 rfl (lv_at hl 0 rfl) ?_
  refine c_obj cf hl.1 w_34 (Nat.le_of_ble_eq_true rfl) (Nat.le_of_ble_eq_true rfl) (Nat.le_of_ble_eq_true rfl) d_Rp_init_1 ?_
  refine lv_aload_n hx hb d_Rp_init_4 rfl (lv_at hl 0 rfl) ?_
  refine lv_iconst (v := nI 1) hx hb d_Rp_init_5 (by decide) ?_
  refine c_put (ty := .int) (v := .int (nI 1)) cf in_Rp ty_Rp tok_Rp n_Rp_ (ci := 2) rfl hK hP hD hS 0 (by decide) w_35 rfl (by decide +kernel) rfl rfl (Nat.le_of_ble_eq_true rfl) d_Rp_init_6 (fun H locs hP hD hS => ?_)
  refine lv_aload_n hx hb d_Rp_init_9 rfl (lv_at hl 0 rfl) ?_
  refine lv_iconst (v := nI 2) hx hb d_Rp_init_10 (by decide) ?_
  refine c_put (ty := .int) (v := .int (nI 2)) cf in_Rp ty_Rp tok_Rp n_Rp_ (ci := 2) rfl hK hP hD hS 2 (by decide) w_39 rfl (by decide +kernel) rfl rfl (Nat.le_of_ble_eq_true rfl) d_Rp_init_11 (fun H locs hP hD hS => ?_)
  refine lv_aload_n hx hb d_Rp_init_14 rfl (lv_at hl 0 rfl) ?_
  refine lv_bipush (v := nI 40) hx hb d_Rp_init_15 (by decide) ?_
  refine c_newI (n := 40) cf hK (by decide) hP hD hS hA (Nat.le_of_ble_eq_true rfl) (Nat.le_of_ble_eq_true rfl) d_Rp_init_17 (fun q1 H hP hD hS => ?_)
  refine c_putF (ty := .array .int) (v := .ref q1) cf hnm in_Rp ty_Rp tok_Rp n_Rp_ (ci := 2) rfl hK hP hD hS 9 (by decide) w_50 rfl rfl (by decide +kernel) rfl rfl (Nat.le_of_ble_eq_true rfl) d_Rp_init_19 (fun H locs hP hD hS => ?_)
  refine lv_aload_n hx hb d_Rp_init_22 rfl (lv_at hl 0 rfl) ?_
  refine lv_iload_n hx hb d_Rp_init_23 rfl (lv_at hl 1 rfl) ?_
  refine c_newI (n := n) cf hK (by omega) hP hD hS hA (Nat.le_of_ble_eq_true rfl) (show 0 + 40 + n ≤ 47 by omega) d_Rp_init_24 (fun q2 H hP hD hS => ?_)
  refine c_putF (ty := .array .int) (v := .ref q2) cf hnm in_Rp ty_Rp tok_Rp n_Rp_ (ci := 2) rfl hK hP hD hS 10 (by decide) w_52 rfl rfl (by decide +kernel) rfl rfl (Nat.le_of_ble_eq_true rfl) d_Rp_init_26 (fun H locs hP hD hS => ?_)
  exact c_vret (Wn := wRp X n) cf hr hlk (Nat.le_of_ble_eq_true rfl) (show 0 + 40 + n ≤ 47 by omega) (fun i => match i with | 0 => h0 | 1 => q1 | _ => q2) rfl hP hD hS d_Rp_init_29
set_option maxRecDepth 100000 in
set_option maxHeartbeats 4000000 in
theorem k_Bl_init (l : Launch) (X : WX) : MetC l X y_Bl_init c_Bl_init 1 1 6 240 0 [] 4 [.null, .null, .null, .null, .null, .null, .int (nI 0)] (wBl X) := by
  refine MetC.of (by decide) (fun _ => Nat.le_of_ble_eq_true rfl) ?_
  intro h0 p e s m args below meth c cf hr hlk hnm hK hC hP A hD hA ls hl
  have hl : lv_has ls 1 [(0, .ref h0)] := hl
  have hx := cf.1
  have hb := cf.2.1
  have hS : va_S A s.heap s.heap [] := va_S.rf
  refine lv_aload_n hx hb d_Bl_init_0 rfl (lv_at hl 0 rfl) ?_
  refine c_obj cf hl.1 w_107 (Nat.le_of_ble_eq_true rfl) (Nat.le_of_ble_eq_true rfl) (Nat.le_of_ble_eq_true rfl) d_Bl_init_1 ?_
  refine lv_aload_n hx hb d_Bl_init_4 rfl (lv_at hl 0 rfl) ?_
  refine lv_bipush (v := nI 40) hx hb d_Bl_init_5 (by decide) ?_
  refine c_newI (n := 40) cf hK (by decide) hP hD hS hA (Nat.le_of_ble_eq_true rfl) (Nat.le_of_ble_eq_true rfl) d_Bl_init_7 (fun q1 H hP hD hS => ?_)
  refine c_putF (ty := .array .int) (v := .ref q1) cf hnm in_Bl ty_Bl tok_Bl n_Bl_ (ci := 4) rfl hK hP hD hS 0 (by decide) w_108 rfl rfl (by decide +kernel) rfl rfl (Nat.le_of_ble_eq_true rfl) d_Bl_init_9 (fun H locs hP hD hS => ?_)
  refine lv_aload_n hx hb d_Bl_init_12 rfl (lv_at hl 0 rfl) ?_
  refine lv_bipush (v := nI 40) hx hb d_Bl_init_13 (by decide) ?_
  refine c_newI (n := 40) cf hK (by decide) hP hD hS hA (Nat.le_of_ble_eq_true rfl) (Nat.le_of_ble_eq_true rfl) d_Bl_init_15 (fun q2 H hP hD hS => ?_)
  refine c_putF (ty := .array .int) (v := .ref q2) cf hnm in_Bl ty_Bl tok_Bl n_Bl_ (ci := 4) rfl hK hP hD hS 1 (by decide) w_111 rfl rfl (by decide +kernel) rfl rfl (Nat.le_of_ble_eq_true rfl) d_Bl_init_17 (fun H locs hP hD hS => ?_)
  refine lv_aload_n hx hb d_Bl_init_20 rfl (lv_at hl 0 rfl) ?_
  refine lv_bipush (v := nI 40) hx hb d_Bl_init_21 (by decide) ?_
  refine c_newI (n := 40) cf hK (by decide) hP hD hS hA (Nat.le_of_ble_eq_true rfl) (Nat.le_of_ble_eq_true rfl) d_Bl_init_23 (fun q3 H hP hD hS => ?_)
  refine c_putF (ty := .array .int) (v := .ref q3) cf hnm in_Bl ty_Bl tok_Bl n_Bl_ (ci := 4) rfl hK hP hD hS 2 (by decide) w_114 rfl rfl (by decide +kernel) rfl rfl (Nat.le_of_ble_eq_true rfl) d_Bl_init_25 (fun H locs hP hD hS => ?_)
  refine lv_aload_n hx hb d_Bl_init_28 rfl (lv_at hl 0 rfl) ?_
  refine lv_bipush (v := nI 40) hx hb d_Bl_init_29 (by decide) ?_
  refine c_newI (n := 40) cf hK (by decide) hP hD hS hA (Nat.le_of_ble_eq_true rfl) (Nat.le_of_ble_eq_true rfl) d_Bl_init_31 (fun q4 H hP hD hS => ?_)
  refine c_putF (ty := .array .int) (v := .ref q4) cf hnm in_Bl ty_Bl tok_Bl n_Bl_ (ci := 4) rfl hK hP hD hS 3 (by decide) w_117 rfl rfl (by decide +kernel) rfl rfl (Nat.le_of_ble_eq_true rfl) d_Bl_init_33 (fun H locs hP hD hS => ?_)
  refine lv_aload_n hx hb d_Bl_init_36 rfl (lv_at hl 0 rfl) ?_
  refine lv_bipush (v := nI 40) hx hb d_Bl_init_37 (by decide) ?_
  refine c_newI (n := 40) cf hK (by decide) hP hD hS hA (Nat.le_of_ble_eq_true rfl) (Nat.le_of_ble_eq_true rfl) d_Bl_init_39 (fun q5 H hP hD hS => ?_)
  refine c_putF (ty := .array .int) (v := .ref q5) cf hnm in_Bl ty_Bl tok_Bl n_Bl_ (ci := 4) rfl hK hP hD hS 4 (by decide) w_119 rfl rfl (by decide +kernel) rfl rfl (Nat.le_of_ble_eq_true rfl) d_Bl_init_41 (fun H locs hP hD hS => ?_)
  refine lv_aload_n hx hb d_Bl_init_44 rfl (lv_at hl 0 rfl) ?_
  refine lv_bipush (v := nI 40) hx hb d_Bl_init_45 (by decide) ?_
  refine c_newL (n := 40) cf hK (by decide) hP hD hS hA (Nat.le_of_ble_eq_true rfl) (Nat.le_of_ble_eq_true rfl) d_Bl_init_47 (fun q6 H hP hD hS => ?_)
  refine c_putF (ty := .array .long) (v := .ref q6) cf hnm in_Bl ty_Bl tok_Bl n_Bl_ (ci := 4) rfl hK hP hD hS 5 (by decide) w_121 rfl rfl (by decide +kernel) rfl rfl (Nat.le_of_ble_eq_true rfl) d_Bl_init_49 (fun H locs hP hD hS => ?_)
  refine lv_aload_n hx hb d_Bl_init_52 rfl (lv_at hl 0 rfl) ?_
  refine lv_iconst (v := nI 1) hx hb d_Bl_init_53 (by decide) ?_
  refine c_put (ty := .int) (v := .int (nI 1)) cf in_Bl ty_Bl tok_Bl n_Bl_ (ci := 4) rfl hK hP hD hS 6 (by decide) w_122 rfl (by decide +kernel) rfl rfl (Nat.le_of_ble_eq_true rfl) d_Bl_init_54 (fun H locs hP hD hS => ?_)
  refine lv_aload_n hx hb d_Bl_init_57 rfl (lv_at hl 0 rfl) ?_
  have hP : va_P X.1 vcl ((h0, .inr (4, [.ref q1, .ref q2, .ref q3, .ref q4, .ref q5, .ref q6, .int (nI 1)])) :: [(q1, aI X.2.1.1 40), (q2, aI X.2.1.1 40), (q3, aI X.2.1.1 40), (q4, aI X.2.1.1 40), (q5, aI X.2.1.1 40), (q6, .inl (X.2.1.2.2.1, 40, .inr (.inl (fun _ => lN 0))))]) H := hP
  have hD : va_D A ((h0, .inr (4, [.ref q1, .ref q2, .ref q3, .ref q4, .ref q5, .ref q6, .int (nI 1)])) :: [(q1, aI X.2.1.1 40), (q2, aI X.2.1.1 40), (q3, aI X.2.1.1 40), (q4, aI X.2.1.1 40), (q5, aI X.2.1.1 40), (q6, .inl (X.2.1.2.2.1, 40, .inr (.inl (fun _ => lN 0))))]) := hD
  refine c_get cf in_Bl (ci := 4) (v := .ref q6) rfl hK hP 5 (by decide) w_121 rfl d_Bl_init_58 ?_
  refine lv_iconst (v := nI 0) hx hb d_Bl_init_61 (by decide) ?_
  refine lv_lconst (v := lN 1) hx hb d_Bl_init_62 (by decide) ?_
  refine va_last hx hb hK hP hD hS 6 2 (cA := X.2.1.2.2.1) (n := 40) (f := fun _ => lN 0) rfl rfl (vp_in_nI (by decide) (by decide)) d_Bl_init_63 (fun H locs hP hD hS => ?_)
  have he : vp_updL (fun _ => lN 0) (nI 0).toNatClampNeg (lN 1) = fun q => lN (if q = 0 then 1 else 0) := by
    funext q
    rw [nI_clamp (by decide)]
    by_cases h : q = 0
    · simp [vp_updL, h]
    · simp [vp_updL, h]
  rw [he] at hP hD
  exact c_vret (Wn := wBl X) cf hr hlk (Nat.le_of_ble_eq_true rfl) (Nat.le_of_ble_eq_true rfl) (fun i => match i with | 0 => h0 | 1 => q1 | 2 => q2 | 3 => q3 | 4 => q4 | 5 => q5 | _ => q6) rfl hP hD hS d_Bl_init_64
