theorem start_K {s : State} {args : Array Value} (hts0 : ∀ w ∈ lw_tbl, w.before args s = true) : ∃ X : WX, XK X s ∧ CWs s ∧ NWs s := by
  have hts : ∀ w ∈ Mst, w.before args s = true := fun w h => hts0 w (List.mem_filter.mp h).1
  obtain ⟨c0, i0, k0⟩ := u_known (C := R_M) (T := F_M) (N := 32) hts in_M (hts _ w_456)
  obtain ⟨c1, i1, k1⟩ := u_known (C := R_T) (T := F_T) (N := 9) hts in_T (hts _ w_12)
  obtain ⟨c2, i2, k2⟩ := u_known (C := R_Rp) (T := F_Rp) (N := 11) hts in_Rp (hts _ w_30)
  obtain ⟨c3, i3, k3⟩ := u_known (C := R_Tr) (T := F_Tr) (N := 4) hts in_Tr (hts _ w_79)
  obtain ⟨c4, i4, k4⟩ := u_known (C := R_Bl) (T := F_Bl) (N := 7) hts in_Bl (hts _ w_103)
  obtain ⟨c5, i5, k5⟩ := u_known (C := R_Ro) (T := F_Ro) (N := 4) hts in_Ro (hts _ w_140)
  obtain ⟨c6, i6, k6⟩ := u_known (C := R_Le) (T := F_Le) (N := 2) hts in_Le (hts _ w_163)
  obtain ⟨cI, kI, coI, f1, g1, e1⟩ := Cond.arrayClass_spec (hts _ w_77)
  obtain ⟨cZ, kZ, coZ, f2, g2, e2⟩ := Cond.arrayClass_spec (hts _ w_558)
  obtain ⟨cL, kL, coL, f3, g3, e3⟩ := Cond.arrayClass_spec (hts _ w_138)
  have hAO : va_AO "ThreeChainLedger$Replica" s := va_AO.of (hts0 (Cond.arrayOver (.object "ThreeChainLedger$Replica")) (List.mem_of_getElem? (i := 65) (by decide +kernel)))
  obtain ⟨comp, cQ, kQ, q1, q2, q3, q4, q5⟩ := Cond.arrayOver_spec hAO
  refine ⟨((fun c => match c with | 0 => c0 | 1 => c1 | 2 => c2 | 3 => c3 | 4 => c4 | 5 => c5 | _ => c6, fun c => match c with | 0 => i0 | 1 => i1 | 2 => i2 | 3 => i3 | 4 => i4 | 5 => i5 | _ => i6), (cI, cZ, cL, cQ), 0, fun _ => 0), ⟨fun c q hq => ?_, fun k q hk => ?_⟩, ⟨?_, ?_, ?_, hAO⟩, ?_⟩
  · have h7 : c < 7 := (List.getElem?_eq_some_iff.mp hq).1
    rcases (show c = 0 ∨ c = 1 ∨ c = 2 ∨ c = 3 ∨ c = 4 ∨ c = 5 ∨ c = 6 by omega) with rfl | rfl | rfl | rfl | rfl | rfl | rfl
    · cases hq
      exact k0
    · cases hq
      exact k1
    · cases hq
      exact k2
    · cases hq
      exact k3
    · cases hq
      exact k4
    · cases hq
      exact k5
    · cases hq
      exact k6
  · have h4 : k < 4 := (List.getElem?_eq_some_iff.mp hk).1
    rcases (show k = 0 ∨ k = 1 ∨ k = 2 ∨ k = 3 by omega) with rfl | rfl | rfl | rfl
    · cases hk
      exact ⟨fun n z => ⟨fun k h => (by cases h), kI, g1, coI, e1⟩, f1⟩
    · cases hk
      exact ⟨fun n z => ⟨fun k h => (by cases h), kZ, g2, coZ, e2⟩, f2⟩
    · cases hk
      exact ⟨fun n z => ⟨fun k h => (by cases h), kL, g3, coL, e3⟩, f3⟩
    · cases hk
      exact ⟨fun n z => ⟨fun k h => (by cases h), kQ, q3, comp, q4⟩, kQ, comp, q3, q4, q1, q5⟩
  · exact va_Nw.of rfl (hts0 nwTr (List.mem_of_getElem? (i := 116) (by decide +kernel)))
  · exact va_Nw.of rfl (hts0 nwRo (List.mem_of_getElem? (i := 177) (by decide +kernel)))
  · exact va_Nw.of rfl (hts0 nwLe (List.mem_of_getElem? (i := 200) (by decide +kernel)))
  · exact va_Nw.of rfl (hts0 nwH (List.mem_of_getElem? (i := 471) (by decide +kernel)))
set_option maxRecDepth 100000 in
set_option maxHeartbeats 4000000 in
theorem whole_start {p : Program} {e : Env} {s : State} {m : MethodId} {below : List Frame} {meth : Method} {c : Code} (l : Launch) {b L : Nat} {xs : Nat → Int32} (hL : L ≤ 2563) (C0 : lw_At p s m meth c b L xs) : W p l e room_1 s m #[Value.ref b] below meth c s.heap [] 0 0 (lw_Z below #[Value.ref b] s) (entryFrame m ([Value.ref b] : List Value).toArray 4) := by
  obtain ⟨hx, hb, hr, hml, hown, hts0, hsc, hbl, hlk, hgv⟩ := C0
  have hts : ∀ w ∈ Mst, w.before #[Value.ref b] s = true := fun w h => hts0 w (List.mem_filter.mp h).1
  have cf : CallFix p m c code 4 s #[Value.ref b] Mst "ThreeChainLedgerLaw" := ⟨hx, hb, hml, hown, hts⟩
  obtain ⟨X0, hK, hC, hN⟩ := start_K hts0
  have hl := lv_entry ([Value.ref b]) (n := 4) (Nat.le_of_ble_eq_true rfl)
  rw [lg_entry_eq]
  generalize (lg_sl ([Value.ref b]) ++ List.replicate (4 - (lg_sl ([Value.ref b])).length) Slot.unset).toArray = ls at hl ⊢
  have hl : lv_has ls 4 [(0, .ref b)] := hl
  obtain ⟨A, hAe⟩ : ∃ A : Nat → Prop, A = fun q => s.heap.size ≤ q := ⟨_, rfl⟩
  have hA : ∀ q, s.heap.size ≤ q → A q := fun q h => by rw [hAe]; exact h
  have hbA : ¬ A b := by rw [hAe]; exact fun h => absurd (show s.heap.size ≤ b from h) (by omega)
  have hL31 : L < 2 ^ 31 := by omega
  have hP : va_P X0.1 vcl [] s.heap := fun k q h => by simp at h
  have hD : va_D A ([] : va_W) := ⟨fun i j p q h => by simp at h, fun k q h => by simp at h⟩
  have hS : va_S A s.heap s.heap [] := va_S.rf
  refine c_new (ci := 1) cf in_T ty_T tok_T rfl w_11 w_12 w_1 hK hP hD hS hA (fs := fsT0) (fun j hj => by rcases (show j = 0 ∨ j = 1 ∨ j = 2 ∨ j = 3 ∨ j = 4 ∨ j = 5 ∨ j = 6 ∨ j = 7 ∨ j = 8 by omega) with rfl | rfl | rfl | rfl | rfl | rfl | rfl | rfl | rfl <;> rfl) (Nat.le_of_ble_eq_true rfl) (Nat.le_of_ble_eq_true rfl) d_L_law_0 (fun q1 H hP hD hS => ?_)
  refine lv_dup hx hb d_L_law_3 rfl ?_
  refine lv_aload_n hx hb d_L_law_4 rfl (lv_at hl 0 rfl) ?_
  refine lv_iconst (v := nI 0) hx hb d_L_law_5 (by decide) ?_
  refine c_callX (k := 0) (rest := [.ref q1, .ref q1]) cf hP hS hsc hbl hbA hL31 (by decide) ⟨Nat.le_of_ble_eq_true rfl, Nat.le_of_ble_eq_true rfl⟩ hl.1 rfl (Nat.le_of_ble_eq_true rfl) ⟨Nat.le_of_ble_eq_true rfl, Nat.le_of_ble_eq_true rfl⟩ d_L_law_6 (fun H locs hP hS => ?_)
  refine lv_aload_n hx hb d_L_law_9 rfl (lv_at hl 0 rfl) ?_
  refine lv_iconst (v := nI 1) hx hb d_L_law_10 (by decide) ?_
  refine c_callX (k := 1) (rest := [.int (cellv xs L 0), .ref q1, .ref q1]) cf hP hS hsc hbl hbA hL31 (by decide) ⟨Nat.le_of_ble_eq_true rfl, Nat.le_of_ble_eq_true rfl⟩ hl.1 rfl (Nat.le_of_ble_eq_true rfl) ⟨Nat.le_of_ble_eq_true rfl, Nat.le_of_ble_eq_true rfl⟩ d_L_law_11 (fun H locs hP hS => ?_)
  refine lv_aload_n hx hb d_L_law_14 rfl (lv_at hl 0 rfl) ?_
  refine lv_iconst (v := nI 2) hx hb d_L_law_15 (by decide) ?_
  refine c_callX (k := 2) (rest := [.int (cellv xs L 1), .int (cellv xs L 0), .ref q1, .ref q1]) cf hP hS hsc hbl hbA hL31 (by decide) ⟨Nat.le_of_ble_eq_true rfl, Nat.le_of_ble_eq_true rfl⟩ hl.1 rfl (Nat.le_of_ble_eq_true rfl) ⟨Nat.le_of_ble_eq_true rfl, Nat.le_of_ble_eq_true rfl⟩ d_L_law_16 (fun H locs hP hS => ?_)
  obtain ⟨a, ha, hae⟩ := wb_of32 (cellv xs L 1)
  rw [hae]
  refine c_callI (As := [.int (cellv xs L 0), .int (nI a), .int (cellv xs L 2)]) (rest := [.ref q1]) cf hK hC hP hD hS hA (k_T_init l X0 (cellv xs L 0) (cellv xs L 2) a) (cwI 3 cf.2.2.2.2 (gI w_15) rfl rfl rfl (hts _ w_1) (hts _ w_13) (hts _ w_14) rfl ⟨by decide, by decide, by decide +kernel⟩ ⟨Nat.le_of_ble_eq_true rfl, Nat.le_of_ble_eq_true rfl⟩) rfl hl.1 rfl (Nat.le_of_ble_eq_true rfl) ⟨Nat.le_of_ble_eq_true rfl, Nat.le_of_ble_eq_true rfl⟩ d_L_law_19 (fun ad H2 locs2 had hP2 hD2 hS2 => ?_)
  subst had
  have hP := hP2
  have hD := hD2
  have hS := hS2
  have hf := fF_cases (cellv xs L 0)
  have hkf := kF_spec (cellv xs L 2)
  obtain ⟨f, hfe⟩ : ∃ z, z = fF (cellv xs L 0) := ⟨_, rfl⟩
  obtain ⟨k, hke⟩ : ∃ z, z = kF (cellv xs L 2) := ⟨_, rfl⟩
  have hTi := k_M_init l X0 (cellv xs L 0) (cellv xs L 2) a
  rw [← hfe, ← hke] at hP hD hTi
  rw [← hfe] at hf
  rw [← hke] at hkf
  obtain ⟨n, hn⟩ : ∃ z, z = 3 * f + 1 := ⟨_, rfl⟩
  rw [← hn] at hP hD hTi
  have hP : va_P X0.1 vcl (wC X0 n (st0 f n k (cLeast (a % 2 ^ n) f)) ad) H2 := hP
  have hD : va_D A (wC X0 n (st0 f n k (cLeast (a % 2 ^ n) f)) ad) := hD
  refine lv_astore_n (lv' := [(1, .ref (ad 25)), (0, .ref b)]) hx hb d_L_law_22 rfl hl (by decide) rfl (fun ls hl => ?_)
  refine c_new (ci := 0) cf in_M ty_M tok_M rfl w_455 w_456 w_8 hK hP hD hS hA (fs := fsM0) (fun j hj => by rcases (show j = 0 ∨ j = 1 ∨ j = 2 ∨ j = 3 ∨ j = 4 ∨ j = 5 ∨ j = 6 ∨ j = 7 ∨ j = 8 ∨ j = 9 ∨ j = 10 ∨ j = 11 ∨ j = 12 ∨ j = 13 ∨ j = 14 ∨ j = 15 ∨ j = 16 ∨ j = 17 ∨ j = 18 ∨ j = 19 ∨ j = 20 ∨ j = 21 ∨ j = 22 ∨ j = 23 ∨ j = 24 ∨ j = 25 ∨ j = 26 ∨ j = 27 ∨ j = 28 ∨ j = 29 ∨ j = 30 ∨ j = 31 by omega) with rfl | rfl | rfl | rfl | rfl | rfl | rfl | rfl | rfl | rfl | rfl | rfl | rfl | rfl | rfl | rfl | rfl | rfl | rfl | rfl | rfl | rfl | rfl | rfl | rfl | rfl | rfl | rfl | rfl | rfl | rfl | rfl <;> rfl) (Nat.le_of_ble_eq_true rfl) (Nat.le_of_ble_eq_true rfl) d_L_law_23 (fun q2 H hP hD hS => ?_)
  refine lv_dup hx hb d_L_law_26 rfl ?_
  refine lv_aload_n hx hb d_L_law_27 rfl (lv_at hl 1 rfl) ?_
  refine lv_iconst (v := nI 0) hx hb d_L_law_28 (by decide) ?_
  refine c_callX (k := 0) (rest := [.ref q2, .ref q2]) cf hP hS hsc hbl hbA hL31 (by decide) ⟨Nat.le_of_ble_eq_true rfl, Nat.le_of_ble_eq_true rfl⟩ hl.1 rfl (Nat.le_of_ble_eq_true rfl) ⟨Nat.le_of_ble_eq_true rfl, Nat.le_of_ble_eq_true rfl⟩ d_L_law_29 (fun H locs hP hS => ?_)
  refine lv_aload_n hx hb d_L_law_32 rfl (lv_at hl 1 rfl) ?_
  refine lv_iconst (v := nI 1) hx hb d_L_law_33 (by decide) ?_
  refine c_callX (k := 1) (rest := [.int (cellv xs L 0), .ref q2, .ref q2]) cf hP hS hsc hbl hbA hL31 (by decide) ⟨Nat.le_of_ble_eq_true rfl, Nat.le_of_ble_eq_true rfl⟩ hl.1 rfl (Nat.le_of_ble_eq_true rfl) ⟨Nat.le_of_ble_eq_true rfl, Nat.le_of_ble_eq_true rfl⟩ d_L_law_34 (fun H locs hP hS => ?_)
  refine lv_aload_n hx hb d_L_law_37 rfl (lv_at hl 1 rfl) ?_
  refine lv_iconst (v := nI 2) hx hb d_L_law_38 (by decide) ?_
  refine c_callX (k := 2) (rest := [.int (cellv xs L 1), .int (cellv xs L 0), .ref q2, .ref q2]) cf hP hS hsc hbl hbA hL31 (by decide) ⟨Nat.le_of_ble_eq_true rfl, Nat.le_of_ble_eq_true rfl⟩ hl.1 rfl (Nat.le_of_ble_eq_true rfl) ⟨Nat.le_of_ble_eq_true rfl, Nat.le_of_ble_eq_true rfl⟩ d_L_law_39 (fun H locs hP hS => ?_)
  rw [hae]
  refine c_callI (As := [.int (cellv xs L 0), .int (nI a), .int (cellv xs L 2)]) (rest := [.ref q2]) cf hK hC hP hD hS hA hTi (cwI 3 cf.2.2.2.2 (gI w_459) rfl rfl rfl (hts _ w_8) (hts _ w_457) (hts _ w_458) rfl ⟨by decide, by decide, by decide +kernel⟩ ⟨Nat.le_of_ble_eq_true rfl, Nat.le_of_ble_eq_true rfl⟩) rfl hl.1 rfl (Nat.le_of_ble_eq_true rfl) ⟨Nat.le_of_ble_eq_true rfl, Nat.le_of_ble_eq_true rfl⟩ d_L_law_42 (fun u H3 locs3 hu hP3 hD3 hS3 => ?_)
  subst hu
  have hP := hP3
  have hD := hD3
  have hS := hS3
  refine lv_astore_n (lv' := [(2, .ref (u 0)), (1, .ref (ad 25)), (0, .ref b)]) hx hb d_L_law_45 rfl hl (by decide) rfl (fun ls hl => ?_)
  refine lv_iconst (v := nI 3) hx hb d_L_law_46 (by decide) ?_
  refine lv_istore_n (lv' := [(3, .int (nI 3)), (2, .ref (u 0)), (1, .ref (ad 25)), (0, .ref b)]) hx hb d_L_law_47 rfl hl (by decide) rfl (fun ls hl => ?_)
  obtain ⟨g1, g2, g3⟩ := glue (by omega) hP hD
  have hlow : ∀ q, xA (X0.1, X0.2.1, n, adG ad u) q → s.heap.size ≤ q := fun q h => by have := g3 q h; rw [hAe] at this; exact this
  refine va_forget (fun q hq => by have := hS.2.2 q hq; rw [hAe] at this; exact this) ?_
  refine W.widen (k := 600000) (n := 7302249) (Nat.le_of_ble_eq_true rfl) (Nat.le_of_ble_eq_true rfl) ?_
  exact law_loop (X := (X0.1, X0.2.1, n, adG ad u)) cf hr hlk g2 hK hN (fun h => absurd (hlow b h) (by omega)) hlow hL _ 0 (st0 f n k (cLeast (a % 2 ^ n) f)) ls H3 (lv_sub hl [3, 2, 1, 0] rfl) g1 (kv0 rfl hf hn hkf.2 (Nat.mod_lt a (Nat.pow_pos (by decide)))) (hsc.kept (hS.2.1 b hbl hbA)) (Nat.lt_of_lt_of_le hbl hS.1) rfl (by omega)
