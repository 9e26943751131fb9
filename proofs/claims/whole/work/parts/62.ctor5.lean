theorem c_newQ {p : Program} {l : Launch} {e : Env} {R : Room} {s : State} {m : MethodId} {args : Array Value} {below : List Frame} {meth : Method} {c : Code} {H : Heap} {locs : List Loc} {cells slots : Nat} {Q : State → Prop} {cc : ByteArray} {pc : Nat} {ls : Array Slot} {rest : List Value} {nL : Nat} {own : String} {X : WX} {ws : va_W} {A : Nat → Prop} {H0 : Heap} (cf : CallFix p m c cc nL s args Mst own) (hK : XK X s) (hC : CWs s) {index n : Nat} (hw : Cond.classLink own index "ThreeChainLedger$Replica" ∈ Mst) (hn : n ≤ 1000) (hP : va_P X.1 vcl ws H) (hD : va_D A ws) (hS : va_S A H0 H locs) (hA : ∀ q, H0.size ≤ q → A q) (hcells : cells + 1 ≤ R.cells) (hslots : slots + n ≤ R.slots) (hdg : decode cc pc = .ok (.anewarray index, 3)) (kk : ∀ (q : Nat) (H1 : Heap), va_P X.1 vcl (ws ++ [(q, .inl (X.2.1.2.2.2, n, .inr (.inr (.inr (.inr (fun _ => none))))))]) H1 → va_D A (ws ++ [(q, .inl (X.2.1.2.2.2, n, .inr (.inr (.inr (.inr (fun _ => none))))))]) → va_S A H0 H1 locs → W p l e R s m args below meth c H1 locs (cells + 1) (slots + n) Q (F0 m (pc + 3) ls (.ref q :: rest))) : W p l e R s m args below meth c H locs cells slots Q (F0 m pc ls (.int (nI n) :: rest)) := by
  refine va_newq (C := "ThreeChainLedger$Replica") (N' := n) cf.1 cf.2.1 cf.2.2.2.1 (cf.2.2.2.2 _ hw) hC.2.2.2 hK hP hD hS hA (fun q => (vp_in_nI (n := n) (N := n + 1) (by omega) (by omega)) (Or.inl q)) (nI_clamp (by omega)) (by omega) hcells hslots hdg (fun q cA H1 hK1 hP1 hD1 hS1 => ?_)
  obtain ⟨kA, comp, -, -, -, g4⟩ := (hK1.2 4 (cA, .object "ThreeChainLedger$Replica") rfl).2
  obtain ⟨kB, comp2, -, -, -, g5⟩ := (hK.2 3 (X.2.1.2.2.2, .object "ThreeChainLedger$Replica") rfl).2
  have e1 : cA = X.2.1.2.2.2 := Option.some.inj (g4.symm.trans g5)
  subst e1
  exact kk q H1 hP1 hD1 hS1
set_option maxRecDepth 100000 in
set_option maxHeartbeats 4000000 in
theorem T_end {p : Program} {l : Launch} {e : Env} {s : State} {m : MethodId} {args : Array Value} {below : List Frame} {meth : Method} {c : Code} {H : Heap} {locs : List Loc} {X : WX} {A : Nat → Prop} {h0 arr n f k cs : Nat} (cf : CallFix p m c c_T_init 6 s args Mst "ThreeChainLedger") (hr : meth.sig.returnType = none) (hlk : meth.locks = false) (hnm : meth.name = "<init>") (hK : XK X s) (hC : CWs s) (hA : ∀ q, s.heap.size ≤ q → A q) (hn7 : n ≤ 7) {u : Nat → Nat → Nat} {ls : Array Slot} (hl : lv_has ls 6 [(0, .ref h0)]) (hP : va_P X.1 vcl ((h0, .inr (1, [.int (nI n), .int (nI (2 * f + 1)), .int (nI k), .int (nI cs), .ref arr, .null, .null, .null, .null])) :: (arr, .inl (X.2.1.2.2.2, n, .inr (.inr (.inr (.inr (fr u n)))))) :: repsW X n u n) H) (hD : va_D A ((h0, .inr (1, [.int (nI n), .int (nI (2 * f + 1)), .int (nI k), .int (nI cs), .ref arr, .null, .null, .null, .null])) :: (arr, .inl (X.2.1.2.2.2, n, .inr (.inr (.inr (.inr (fr u n)))))) :: repsW X n u n)) (hS : va_S A s.heap H locs) : W p l e (rmc 2 39 850) s m args below meth c H locs (1 + 3 * n) (n + 58 * n) (MQ below (QcC X 25 h0 (wC X n (st0 f n k cs)) A) args s 39 850 A) (F0 m 116 ls []) := by
  have hx := cf.1
  have hb := cf.2.1
  refine lv_aload_n hx hb d_T_init_116 rfl (lv_at hl 0 rfl) ?_
  refine c_new (ci := 3) cf in_Tr ty_Tr tok_Tr rfl w_78 w_79 w_4 hK hP hD hS hA (fs := [.null, .null, .null, .int (nI 0)]) (fun j hj => by rcases (show j = 0 ∨ j = 1 ∨ j = 2 ∨ j = 3 by omega) with rfl | rfl | rfl | rfl <;> rfl) (show 1 + 3 * n + 1 ≤ 39 by omega) (show n + 58 * n + 4 ≤ 850 by omega) d_T_init_117 (fun q5 H hP hD hS => ?_)
  refine lv_dup hx hb d_T_init_120 rfl ?_
  refine c_callIN (As := []) (rest := [.ref q5, .ref h0]) (host := "ThreeChainLedger") cf hK hC hP hD hS hA (k_Tr_init l X) ⟨va_cnB 0 cf.2.2.2.2 (gI w_82) rfl rfl rfl hC.1 (cf.2.2.2.2 _ w_4) ⟨by decide, by decide, by decide +kernel⟩ ⟨Nat.le_of_ble_eq_true rfl, Nat.le_of_ble_eq_true rfl⟩, rfl, cf.2.2.2.2 _ w_81⟩ rfl hl.1 rfl (Nat.le_of_ble_eq_true rfl) ⟨show 1 + 3 * n + 1 + 3 ≤ 39 by omega, show n + 58 * n + 4 + 72 ≤ 850 by omega⟩ d_T_init_121 (fun tr H2 locs2 htr hP2 hD2 hS2 => ?_)
  subst htr
  have hS := hS2
  have hP : va_P X.1 vcl ((h0, .inr (1, [.int (nI n), .int (nI (2 * f + 1)), .int (nI k), .int (nI cs), .ref arr, .null, .null, .null, .null])) :: (arr, .inl (X.2.1.2.2.2, n, .inr (.inr (.inr (.inr (fr u n)))))) :: (repsW X n u n ++ wTr X tr)) H2 := hP2
  have hD : va_D A ((h0, .inr (1, [.int (nI n), .int (nI (2 * f + 1)), .int (nI k), .int (nI cs), .ref arr, .null, .null, .null, .null])) :: (arr, .inl (X.2.1.2.2.2, n, .inr (.inr (.inr (.inr (fr u n)))))) :: (repsW X n u n ++ wTr X tr)) := hD2
  refine c_putF (ty := .object "ThreeChainLedger$Transfers") (v := .ref (tr 0)) cf hnm in_T ty_T tok_T n_T_ (ci := 1) rfl hK hP hD hS 5 (by decide) w_182 rfl rfl (by decide +kernel) rfl rfl (Nat.le_of_ble_eq_true rfl) d_T_init_124 (fun H locs hP hD hS => ?_)
  have hP : va_P X.1 vcl ((h0, .inr (1, [.int (nI n), .int (nI (2 * f + 1)), .int (nI k), .int (nI cs), .ref arr, .ref (tr 0), .null, .null, .null])) :: (arr, .inl (X.2.1.2.2.2, n, .inr (.inr (.inr (.inr (fr u n)))))) :: (repsW X n u n ++ wTr X tr)) H := hP
  have hD : va_D A ((h0, .inr (1, [.int (nI n), .int (nI (2 * f + 1)), .int (nI k), .int (nI cs), .ref arr, .ref (tr 0), .null, .null, .null])) :: (arr, .inl (X.2.1.2.2.2, n, .inr (.inr (.inr (.inr (fr u n)))))) :: (repsW X n u n ++ wTr X tr)) := hD
  refine lv_aload_n hx hb d_T_init_127 rfl (lv_at hl 0 rfl) ?_
  refine c_new (ci := 4) cf in_Bl ty_Bl tok_Bl rfl w_102 w_103 w_5 hK hP hD hS hA (fs := [.null, .null, .null, .null, .null, .null, .int (nI 0)]) (fun j hj => by rcases (show j = 0 ∨ j = 1 ∨ j = 2 ∨ j = 3 ∨ j = 4 ∨ j = 5 ∨ j = 6 by omega) with rfl | rfl | rfl | rfl | rfl | rfl | rfl <;> rfl) (show 1 + 3 * n + 1 + 3 + 1 ≤ 39 by omega) (show n + 58 * n + 4 + 72 + 7 ≤ 850 by omega) d_T_init_128 (fun q6 H hP hD hS => ?_)
  refine lv_dup hx hb d_T_init_131 rfl ?_
  refine c_callI (As := []) (rest := [.ref q6, .ref h0]) cf hK hC hP hD hS hA (k_Bl_init l X) (cwI 0 cf.2.2.2.2 (gI w_106) rfl rfl rfl (cf.2.2.2.2 _ w_5) (cf.2.2.2.2 _ w_104) (cf.2.2.2.2 _ w_105) rfl ⟨by decide, by decide, by decide +kernel⟩ ⟨Nat.le_of_ble_eq_true rfl, Nat.le_of_ble_eq_true rfl⟩) rfl hl.1 rfl (Nat.le_of_ble_eq_true rfl) ⟨show 1 + 3 * n + 1 + 3 + 1 + 6 ≤ 39 by omega, show n + 58 * n + 4 + 72 + 7 + 240 ≤ 850 by omega⟩ d_T_init_132 (fun bl H2 locs2 hbl hP2 hD2 hS2 => ?_)
  subst hbl
  have hS := hS2
  have hP : va_P X.1 vcl ((h0, .inr (1, [.int (nI n), .int (nI (2 * f + 1)), .int (nI k), .int (nI cs), .ref arr, .ref (tr 0), .null, .null, .null])) :: (arr, .inl (X.2.1.2.2.2, n, .inr (.inr (.inr (.inr (fr u n)))))) :: ((repsW X n u n ++ wTr X tr) ++ wBl X bl)) H2 := hP2
  have hD : va_D A ((h0, .inr (1, [.int (nI n), .int (nI (2 * f + 1)), .int (nI k), .int (nI cs), .ref arr, .ref (tr 0), .null, .null, .null])) :: (arr, .inl (X.2.1.2.2.2, n, .inr (.inr (.inr (.inr (fr u n)))))) :: ((repsW X n u n ++ wTr X tr) ++ wBl X bl)) := hD2
  refine c_putF (ty := .object "ThreeChainLedger$Blocks") (v := .ref (bl 0)) cf hnm in_T ty_T tok_T n_T_ (ci := 1) rfl hK hP hD hS 6 (by decide) w_183 rfl rfl (by decide +kernel) rfl rfl (Nat.le_of_ble_eq_true rfl) d_T_init_135 (fun H locs hP hD hS => ?_)
  have hP : va_P X.1 vcl ((h0, .inr (1, [.int (nI n), .int (nI (2 * f + 1)), .int (nI k), .int (nI cs), .ref arr, .ref (tr 0), .ref (bl 0), .null, .null])) :: (arr, .inl (X.2.1.2.2.2, n, .inr (.inr (.inr (.inr (fr u n)))))) :: ((repsW X n u n ++ wTr X tr) ++ wBl X bl)) H := hP
  have hD : va_D A ((h0, .inr (1, [.int (nI n), .int (nI (2 * f + 1)), .int (nI k), .int (nI cs), .ref arr, .ref (tr 0), .ref (bl 0), .null, .null])) :: (arr, .inl (X.2.1.2.2.2, n, .inr (.inr (.inr (.inr (fr u n)))))) :: ((repsW X n u n ++ wTr X tr) ++ wBl X bl)) := hD
  refine lv_aload_n hx hb d_T_init_138 rfl (lv_at hl 0 rfl) ?_
  refine c_new (ci := 5) cf in_Ro ty_Ro tok_Ro rfl w_139 w_140 w_6 hK hP hD hS hA (fs := [.null, .null, .int (nI 0), .int (nI 0)]) (fun j hj => by rcases (show j = 0 ∨ j = 1 ∨ j = 2 ∨ j = 3 by omega) with rfl | rfl | rfl | rfl <;> rfl) (show 1 + 3 * n + 1 + 3 + 1 + 6 + 1 ≤ 39 by omega) (show n + 58 * n + 4 + 72 + 7 + 240 + 4 ≤ 850 by omega) d_T_init_139 (fun q7 H hP hD hS => ?_)
  refine lv_dup hx hb d_T_init_142 rfl ?_
  refine c_callIN (As := []) (rest := [.ref q7, .ref h0]) (host := "ThreeChainLedger") cf hK hC hP hD hS hA (k_Ro_init l X) ⟨va_cnB 0 cf.2.2.2.2 (gI w_143) rfl rfl rfl hC.2.1 (cf.2.2.2.2 _ w_6) ⟨by decide, by decide, by decide +kernel⟩ ⟨Nat.le_of_ble_eq_true rfl, Nat.le_of_ble_eq_true rfl⟩, rfl, cf.2.2.2.2 _ w_142⟩ rfl hl.1 rfl (Nat.le_of_ble_eq_true rfl) ⟨show 1 + 3 * n + 1 + 3 + 1 + 6 + 1 + 2 ≤ 39 by omega, show n + 58 * n + 4 + 72 + 7 + 240 + 4 + 80 ≤ 850 by omega⟩ d_T_init_143 (fun ro H2 locs2 hro hP2 hD2 hS2 => ?_)
  subst hro
  have hS := hS2
  have hP : va_P X.1 vcl ((h0, .inr (1, [.int (nI n), .int (nI (2 * f + 1)), .int (nI k), .int (nI cs), .ref arr, .ref (tr 0), .ref (bl 0), .null, .null])) :: (arr, .inl (X.2.1.2.2.2, n, .inr (.inr (.inr (.inr (fr u n)))))) :: (((repsW X n u n ++ wTr X tr) ++ wBl X bl) ++ wRo X ro)) H2 := hP2
  have hD : va_D A ((h0, .inr (1, [.int (nI n), .int (nI (2 * f + 1)), .int (nI k), .int (nI cs), .ref arr, .ref (tr 0), .ref (bl 0), .null, .null])) :: (arr, .inl (X.2.1.2.2.2, n, .inr (.inr (.inr (.inr (fr u n)))))) :: (((repsW X n u n ++ wTr X tr) ++ wBl X bl) ++ wRo X ro)) := hD2
  refine c_putF (ty := .object "ThreeChainLedger$Row") (v := .ref (ro 0)) cf hnm in_T ty_T tok_T n_T_ (ci := 1) rfl hK hP hD hS 7 (by decide) w_184 rfl rfl (by decide +kernel) rfl rfl (Nat.le_of_ble_eq_true rfl) d_T_init_146 (fun H locs hP hD hS => ?_)
  have hP : va_P X.1 vcl ((h0, .inr (1, [.int (nI n), .int (nI (2 * f + 1)), .int (nI k), .int (nI cs), .ref arr, .ref (tr 0), .ref (bl 0), .ref (ro 0), .null])) :: (arr, .inl (X.2.1.2.2.2, n, .inr (.inr (.inr (.inr (fr u n)))))) :: (((repsW X n u n ++ wTr X tr) ++ wBl X bl) ++ wRo X ro)) H := hP
  have hD : va_D A ((h0, .inr (1, [.int (nI n), .int (nI (2 * f + 1)), .int (nI k), .int (nI cs), .ref arr, .ref (tr 0), .ref (bl 0), .ref (ro 0), .null])) :: (arr, .inl (X.2.1.2.2.2, n, .inr (.inr (.inr (.inr (fr u n)))))) :: (((repsW X n u n ++ wTr X tr) ++ wBl X bl) ++ wRo X ro)) := hD
  refine lv_aload_n hx hb d_T_init_149 rfl (lv_at hl 0 rfl) ?_
  refine c_new (ci := 6) cf in_Le ty_Le tok_Le rfl w_162 w_163 w_7 hK hP hD hS hA (fs := [.null, .null]) (fun j hj => by rcases (show j = 0 ∨ j = 1 by omega) with rfl | rfl <;> rfl) (show 1 + 3 * n + 1 + 3 + 1 + 6 + 1 + 2 + 1 ≤ 39 by omega) (show n + 58 * n + 4 + 72 + 7 + 240 + 4 + 80 + 2 ≤ 850 by omega) d_T_init_150 (fun q8 H hP hD hS => ?_)
  refine lv_dup hx hb d_T_init_153 rfl ?_
  refine c_callIN (As := []) (rest := [.ref q8, .ref h0]) (host := "ThreeChainLedger") cf hK hC hP hD hS hA (k_Le_init l X) ⟨va_cnB 0 cf.2.2.2.2 (gI w_166) rfl rfl rfl hC.2.2.1 (cf.2.2.2.2 _ w_7) ⟨by decide, by decide, by decide +kernel⟩ ⟨Nat.le_of_ble_eq_true rfl, Nat.le_of_ble_eq_true rfl⟩, rfl, cf.2.2.2.2 _ w_165⟩ rfl hl.1 rfl (Nat.le_of_ble_eq_true rfl) ⟨show 1 + 3 * n + 1 + 3 + 1 + 6 + 1 + 2 + 1 + 2 ≤ 39 by omega, show n + 58 * n + 4 + 72 + 7 + 240 + 4 + 80 + 2 + 28 ≤ 850 by omega⟩ d_T_init_154 (fun le H2 locs2 hle hP2 hD2 hS2 => ?_)
  subst hle
  have hS := hS2
  have hP : va_P X.1 vcl ((h0, .inr (1, [.int (nI n), .int (nI (2 * f + 1)), .int (nI k), .int (nI cs), .ref arr, .ref (tr 0), .ref (bl 0), .ref (ro 0), .null])) :: (arr, .inl (X.2.1.2.2.2, n, .inr (.inr (.inr (.inr (fr u n)))))) :: ((((repsW X n u n ++ wTr X tr) ++ wBl X bl) ++ wRo X ro) ++ wLe X le)) H2 := hP2
  have hD : va_D A ((h0, .inr (1, [.int (nI n), .int (nI (2 * f + 1)), .int (nI k), .int (nI cs), .ref arr, .ref (tr 0), .ref (bl 0), .ref (ro 0), .null])) :: (arr, .inl (X.2.1.2.2.2, n, .inr (.inr (.inr (.inr (fr u n)))))) :: ((((repsW X n u n ++ wTr X tr) ++ wBl X bl) ++ wRo X ro) ++ wLe X le)) := hD2
  refine c_putF (ty := .object "ThreeChainLedger$Ledger") (v := .ref (le 0)) cf hnm in_T ty_T tok_T n_T_ (ci := 1) rfl hK hP hD hS 8 (by decide) w_185 rfl rfl (by decide +kernel) rfl rfl (Nat.le_of_ble_eq_true rfl) d_T_init_157 (fun H locs hP hD hS => ?_)
  have hP : va_P X.1 vcl ((h0, .inr (1, [.int (nI n), .int (nI (2 * f + 1)), .int (nI k), .int (nI cs), .ref arr, .ref (tr 0), .ref (bl 0), .ref (ro 0), .ref (le 0)])) :: (arr, .inl (X.2.1.2.2.2, n, .inr (.inr (.inr (.inr (fr u n)))))) :: ((((repsW X n u n ++ wTr X tr) ++ wBl X bl) ++ wRo X ro) ++ wLe X le)) H := hP
  have hD : va_D A ((h0, .inr (1, [.int (nI n), .int (nI (2 * f + 1)), .int (nI k), .int (nI cs), .ref arr, .ref (tr 0), .ref (bl 0), .ref (ro 0), .ref (le 0)])) :: (arr, .inl (X.2.1.2.2.2, n, .inr (.inr (.inr (.inr (fr u n)))))) :: ((((repsW X n u n ++ wTr X tr) ++ wBl X bl) ++ wRo X ro) ++ wLe X le)) := hD
  simp only [List.append_assoc] at hP hD
  obtain ⟨hP, hD⟩ := wC_of hn7 hP hD
  exact c_vret (Wn := wC X n (st0 f n k cs)) cf hr hlk (show 1 + 3 * n + 1 + 3 + 1 + 6 + 1 + 2 + 1 + 2 ≤ 39 by omega) (show n + 58 * n + 4 + 72 + 7 + 240 + 4 + 80 + 2 + 28 ≤ 850 by omega) (adT h0 arr tr bl ro le u) rfl hP hD hS d_T_init_160
set_option maxRecDepth 100000 in
set_option maxHeartbeats 4000000 in
theorem T_loop {p : Program} {l : Launch} {e : Env} {s : State} {m : MethodId} {args : Array Value} {below : List Frame} {meth : Method} {c : Code} {X : WX} {A : Nat → Prop} {h0 arr n f k cs : Nat} (cf : CallFix p m c c_T_init 6 s args Mst "ThreeChainLedger") (hr : meth.sig.returnType = none) (hlk : meth.locks = false) (hnm : meth.name = "<init>") (hK : XK X s) (hC : CWs s) (hA : ∀ q, s.heap.size ≤ q → A q) (hn7 : n ≤ 7) : ∀ (dm r : Nat) (u : Nat → Nat → Nat) (ls : Array Slot) (H : Heap) (locs : List Loc), lv_has ls 6 [(0, .ref h0), (5, .int (nI r))] → va_P X.1 vcl ((h0, .inr (1, [.int (nI n), .int (nI (2 * f + 1)), .int (nI k), .int (nI cs), .ref arr, .null, .null, .null, .null])) :: (arr, .inl (X.2.1.2.2.2, n, .inr (.inr (.inr (.inr (fr u r)))))) :: repsW X n u r) H → va_D A ((h0, .inr (1, [.int (nI n), .int (nI (2 * f + 1)), .int (nI k), .int (nI cs), .ref arr, .null, .null, .null, .null])) :: (arr, .inl (X.2.1.2.2.2, n, .inr (.inr (.inr (.inr (fr u r)))))) :: repsW X n u r) → va_S A s.heap H locs → r ≤ n → n - r = dm → W p l e (rmc 2 39 850) s m args below meth c H locs (1 + 3 * r) (n + 58 * r) (MQ below (QcC X 25 h0 (wC X n (st0 f n k cs)) A) args s 39 850 A) (F0 m 83 ls []) := by
  have hx := cf.1
  have hb := cf.2.1
  intro dm
  induction dm using Nat.strongRecOn with | ind dm lp => ?_
  intro r u ls H locs hl hP hD hS hrn hdm
  refine lv_iload hx hb d_T_init_83 (lv_at hl 1 rfl) ?_
  refine lv_aload_n hx hb d_T_init_85 rfl (lv_at hl 0 rfl) ?_
  refine c_get cf in_T (ci := 1) (v := .int (nI n)) rfl hK hP 0 (by decide) w_177 rfl d_T_init_86 ?_
  refine n_icmp_ge (tgt := 116) hx hb d_T_init_89 (by decide) (by omega) (by omega) (fun h1 => ?_) (fun h1 => ?_)
  · have hrn : r = n := by omega
    subst hrn
    exact T_end cf hr hlk hnm hK hC hA hn7 (lv_sub hl [0] rfl) hP hD hS
  · refine lv_aload_n hx hb d_T_init_92 rfl (lv_at hl 0 rfl) ?_
    refine c_get cf in_T (ci := 1) (v := .ref arr) rfl hK hP 4 (by decide) w_181 rfl d_T_init_93 ?_
    refine lv_iload hx hb d_T_init_96 (lv_at hl 1 rfl) ?_
    refine c_new (ci := 2) cf in_Rp ty_Rp tok_Rp rfl w_28 w_30 w_3 hK hP hD hS hA (fs := fsRp0) (fun j hj => by rcases (show j = 0 ∨ j = 1 ∨ j = 2 ∨ j = 3 ∨ j = 4 ∨ j = 5 ∨ j = 6 ∨ j = 7 ∨ j = 8 ∨ j = 9 ∨ j = 10 by omega) with rfl | rfl | rfl | rfl | rfl | rfl | rfl | rfl | rfl | rfl | rfl <;> rfl) (show 1 + 3 * r + 1 ≤ 39 by omega) (show n + 58 * r + 11 ≤ 850 by omega) d_T_init_98 (fun q H hP hD hS => ?_)
    refine lv_dup hx hb d_T_init_101 rfl ?_
    refine lv_aload_n hx hb d_T_init_102 rfl (lv_at hl 0 rfl) ?_
    refine c_get cf in_T (ci := 1) (v := .int (nI n)) rfl hK hP 0 (by decide) w_177 rfl d_T_init_103 ?_
    refine c_callI (As := [.int (nI n)]) (rest := [.ref q, .int (nI r), .ref arr]) cf hK hC hP hD hS hA (k_Rp_init l X hn7) (cwI 1 cf.2.2.2.2 (gI w_33) rfl rfl rfl (cf.2.2.2.2 _ w_3) (cf.2.2.2.2 _ w_31) (cf.2.2.2.2 _ w_32) rfl ⟨by decide, by decide, by decide +kernel⟩ ⟨Nat.le_of_ble_eq_true rfl, Nat.le_of_ble_eq_true rfl⟩) rfl hl.1 rfl (Nat.le_of_ble_eq_true rfl) ⟨show 1 + 3 * r + 1 + 2 ≤ 39 by omega, show n + 58 * r + 11 + 47 ≤ 850 by omega⟩ d_T_init_106 (fun v H locs hv hP hD hS => ?_)
    have hP : va_P X.1 vcl ((h0, .inr (1, [.int (nI n), .int (nI (2 * f + 1)), .int (nI k), .int (nI cs), .ref arr, .null, .null, .null, .null])) :: (arr, .inl (X.2.1.2.2.2, n, .inr (.inr (.inr (.inr (fr u r)))))) :: (repsW X n u r ++ wRp X n v)) H := hP
    have hD : va_D A ((h0, .inr (1, [.int (nI n), .int (nI (2 * f + 1)), .int (nI k), .int (nI cs), .ref arr, .null, .null, .null, .null])) :: (arr, .inl (X.2.1.2.2.2, n, .inr (.inr (.inr (.inr (fr u r)))))) :: (repsW X n u r ++ wRp X n v)) := hD
    have hq : ((h0, .inr (1, [.int (nI n), .int (nI (2 * f + 1)), .int (nI k), .int (nI cs), .ref arr, .null, .null, .null, .null])) :: (arr, .inl (X.2.1.2.2.2, n, .inr (.inr (.inr (.inr (fr u r)))))) :: (repsW X n u r ++ wRp X n v) : va_W)[3 * r + 2]? = some (q, .inr (2, [.int (nI 1), .int (nI 0), .int (nI 2), .int (nI 0), .int (nI 0), .int (nI 0), .int (nI 0), .int (nI 0), .int (nI 0), .ref (v 1), .ref (v 2)])) := by
      show (repsW X n u r ++ wRp X n v)[3 * r]? = _
      rw [List.getElem?_append_right (by rw [repsW_len]; exact Nat.le_refl _), repsW_len, Nat.sub_self, ← hv]
      rfl
    refine va_astq (r := (R_Rp, F_Rp, 11)) hx hb hK hP hD hS 1 3 (3 * r + 2) 2 (cA := X.2.1.2.2.2) (n := n) (f := fr u r) rfl rfl hq rfl (vp_in_nI h1 (by omega)) d_T_init_109 (fun H locs hP hD hS => ?_)
    have hP : va_P X.1 vcl ((h0, .inr (1, [.int (nI n), .int (nI (2 * f + 1)), .int (nI k), .int (nI cs), .ref arr, .null, .null, .null, .null])) :: (arr, .inl (X.2.1.2.2.2, n, .inr (.inr (.inr (.inr (va_up (fr u r) (nI r).toNatClampNeg (some q))))))) :: (repsW X n u r ++ wRp X n v)) H := hP
    have hD : va_D A ((h0, .inr (1, [.int (nI n), .int (nI (2 * f + 1)), .int (nI k), .int (nI cs), .ref arr, .null, .null, .null, .null])) :: (arr, .inl (X.2.1.2.2.2, n, .inr (.inr (.inr (.inr (va_up (fr u r) (nI r).toNatClampNeg (some q))))))) :: (repsW X n u r ++ wRp X n v)) := hD
    rw [fr_step hv (by omega), reps_step] at hP hD
    refine n_iinc1 (lv' := [(5, .int (nI (r + 1))), (0, .ref h0)]) (k := 1) hx hb d_T_init_110 hl rfl (by decide) rfl (fun ls hl => ?_)
    refine lv_goto (tgt := 83) hx hb d_T_init_113 (by decide) ?_
    refine W.widen (k := 1 + 3 * (r + 1)) (n := n + 58 * (r + 1)) (by omega) (by omega) ?_
    exact lp _ (by omega) (r + 1) (va_up u r v) ls H locs (lv_sub hl [1, 0] rfl) hP hD hS (by omega) rfl
def fsT0 : List Value := [.int (nI 0), .int (nI 0), .int (nI 0), .int (nI 0), .null, .null, .null, .null, .null]
set_option maxRecDepth 100000 in
set_option maxHeartbeats 4000000 in
theorem k_T_init (l : Launch) (X : WX) (fa tu : Int32) (a : Nat) : MetC l X y_T_init c_T_init 6 2 39 850 25 [.int fa, .int (nI a), .int tu] 1 fsT0 (wC X (3 * fF fa + 1) (st0 (fF fa) (3 * fF fa + 1) (kF tu) (cLeast (a % 2 ^ (3 * fF fa + 1)) (fF fa)))) := by
  refine MetC.of (by decide) (fun _ => Nat.le_of_ble_eq_true rfl) ?_
  intro h0 p e s m args below meth c cf hr hlk hnm hK hC hP A hD hA ls hl
  have hl : lv_has ls 6 [(0, .ref h0), (1, .int fa), (2, .int (nI a)), (3, .int tu)] := hl
  have hx := cf.1
  have hb := cf.2.1
  have hS : va_S A s.heap s.heap [] := va_S.rf
  unfold fsT0 at hP hD
  have hf := fF_cases fa
  refine lv_aload_n hx hb d_T_init_0 rfl (lv_at hl 0 rfl) ?_
  refine c_obj cf hl.1 w_16 (Nat.le_of_ble_eq_true rfl) (Nat.le_of_ble_eq_true rfl) (Nat.le_of_ble_eq_true rfl) d_T_init_1 ?_
  refine lv_iload_n hx hb d_T_init_4 rfl (lv_at hl 1 rfl) ?_
  refine lv_iconst (v := nI 2) hx hb d_T_init_5 (by decide) ?_
  obtain ⟨k, hk⟩ : ∃ z, z = kF tu := ⟨_, rfl⟩
  rw [← hk]
  obtain ⟨f, hfe⟩ : ∃ z, z = fF fa := ⟨_, rfl⟩
  rw [← hfe] at hf ⊢
  obtain ⟨n, hn⟩ : ∃ z, z = 3 * f + 1 := ⟨_, rfl⟩
  rw [← hn]
  obtain ⟨cs, hcs⟩ : ∃ z, z = cLeast (a % 2 ^ n) f := ⟨_, rfl⟩
  rw [← hcs]
  have hn47 : n = 4 ∨ n = 7 := by omega
  have hp : 1 * 2 ^ n < 2 ^ 32 ∧ 1 ≤ 1 * 2 ^ n := by rcases hn47 with h | h <;> rw [h] <;> decide
  suffices key : W p l e (rmc 2 39 850) s m args below meth c s.heap [] 0 0 (MQ below (QcC X 25 h0 (wC X n (st0 f n k cs)) A) args s 39 850 A) (F0 m 14 ls [.int (nI f)]) by
    refine lv_icmp_ne (tgt := 13) hx hb d_T_init_6 (by decide) (fun h1 => ?_) (fun h1 => ?_)
    · have hf1 : f = 1 := by rw [hfe]; unfold fF; exact if_neg h1
      exact lv_iconst (v := nI f) hx hb d_T_init_13 (by rw [hf1]; decide) key
    · have hf2 : f = 2 := by rw [hfe]; unfold fF; exact if_pos h1
      refine lv_iconst (v := nI f) hx hb d_T_init_9 (by rw [hf2]; decide) ?_
      exact lv_goto (tgt := 14) hx hb d_T_init_10 (by decide) key
  refine lv_istore (lv' := [(4, .int (nI f)), (0, .ref h0), (1, .int fa), (2, .int (nI a)), (3, .int tu)]) hx hb d_T_init_14 hl (by decide) rfl (fun ls hl => ?_)
  refine lv_aload_n hx hb d_T_init_16 rfl (lv_at hl 1 rfl) ?_
  refine lv_iconst (v := nI 3) hx hb d_T_init_17 (by decide) ?_
  refine lv_iload hx hb d_T_init_18 (lv_at hl 0 rfl) ?_
  refine n_imul hx hb d_T_init_20 ?_
  refine lv_iconst (v := nI 1) hx hb d_T_init_21 (by decide) ?_
  refine n_iadd hx hb d_T_init_22 ?_
  rw [← hn]
  refine c_putF (ty := .int) (v := .int (nI n)) cf hnm in_T ty_T tok_T n_T_ (ci := 1) rfl hK hP hD hS 0 (by decide) w_177 rfl rfl (by decide +kernel) rfl rfl (Nat.le_of_ble_eq_true rfl) d_T_init_23 (fun H locs hP hD hS => ?_)
  refine lv_aload_n hx hb d_T_init_26 rfl (lv_at hl 1 rfl) ?_
  refine lv_iconst (v := nI 2) hx hb d_T_init_27 (by decide) ?_
  refine lv_iload hx hb d_T_init_28 (lv_at hl 0 rfl) ?_
  refine n_imul hx hb d_T_init_30 ?_
  refine lv_iconst (v := nI 1) hx hb d_T_init_31 (by decide) ?_
  refine n_iadd hx hb d_T_init_32 ?_
  refine c_putF (ty := .int) (v := .int (nI (2 * f + 1))) cf hnm in_T ty_T tok_T n_T_ (ci := 1) rfl hK hP hD hS 1 (by decide) w_178 rfl rfl (by decide +kernel) rfl rfl (Nat.le_of_ble_eq_true rfl) d_T_init_33 (fun H locs hP hD hS => ?_)
  refine lv_aload_n hx hb d_T_init_36 rfl (lv_at hl 1 rfl) ?_
  refine lv_iload_n hx hb d_T_init_37 rfl (lv_at hl 4 rfl) ?_
  refine lv_iconst (v := nI 4) hx hb d_T_init_38 (by decide) ?_
  refine c_callP (As := [.int tu, .int (nI 4)]) (rest := [.ref h0]) cf hP hS (p_JM_max l tu (nI 4)) (cw_JM_max cf.2.2.2.2 w_19 ⟨Nat.le_of_ble_eq_true rfl, Nat.le_of_ble_eq_true rfl⟩) hl.1 rfl rfl (Nat.le_of_ble_eq_true rfl) ⟨Nat.zero_le _, Nat.zero_le _⟩ d_T_init_39 (fun H locs hP hS => ?_)
  refine lv_bipush (v := nI 9) hx hb d_T_init_42 (by decide) ?_
  refine c_callP (As := [.int (if tu < nI 4 then nI 4 else tu), .int (nI 9)]) (rest := [.ref h0]) cf hP hS (p_JM_min l (if tu < nI 4 then nI 4 else tu) (nI 9)) (cw_JM_min cf.2.2.2.2 w_22 ⟨Nat.le_of_ble_eq_true rfl, Nat.le_of_ble_eq_true rfl⟩) hl.1 rfl rfl (Nat.le_of_ble_eq_true rfl) ⟨Nat.zero_le _, Nat.zero_le _⟩ d_T_init_44 (fun H locs hP hS => ?_)
  rw [kV_cls tu, ← hk]
  refine c_putF (ty := .int) (v := .int (nI k)) cf hnm in_T ty_T tok_T n_T_ (ci := 1) rfl hK hP hD hS 2 (by decide) w_179 rfl rfl (by decide +kernel) rfl rfl (Nat.le_of_ble_eq_true rfl) d_T_init_47 (fun H locs hP hD hS => ?_)
  refine lv_aload_n hx hb d_T_init_50 rfl (lv_at hl 1 rfl) ?_
  refine lv_iload_n hx hb d_T_init_51 rfl (lv_at hl 3 rfl) ?_
  refine lv_iconst (v := nI 1) hx hb d_T_init_52 (by decide) ?_
  refine lv_aload_n hx hb d_T_init_53 rfl (lv_at hl 1 rfl) ?_
  refine c_get cf in_T (ci := 1) (v := .int (nI n)) rfl hK hP 0 (by decide) w_177 rfl d_T_init_54 ?_
  refine n_ishl hx hb (by omega) hp.1 d_T_init_57 ?_
  refine lv_iconst (v := nI 1) hx hb d_T_init_58 (by decide) ?_
  refine n_isub hx hb hp.2 d_T_init_59 ?_
  refine n_iand hx hb d_T_init_60 ?_
  rw [show a &&& (1 * 2 ^ n - 1) = a % 2 ^ n by rw [Nat.one_mul, Nat.and_two_pow_sub_one_eq_mod]]
  refine lv_iload hx hb d_T_init_61 (lv_at hl 0 rfl) ?_
  refine c_callP (As := [.int (nI (a % 2 ^ n)), .int (nI f)]) (rest := [.ref h0]) cf hP hS (p_T_leastMembers l (by omega)) (cw_T_leastMembers cf.2.2.2.2 w_25 ⟨Nat.le_of_ble_eq_true rfl, Nat.le_of_ble_eq_true rfl⟩) hl.1 rfl rfl (Nat.le_of_ble_eq_true rfl) ⟨Nat.zero_le _, Nat.zero_le _⟩ d_T_init_63 (fun H locs hP hS => ?_)
  rw [← hcs]
  refine c_putF (ty := .int) (v := .int (nI cs)) cf hnm in_T ty_T tok_T n_T_ (ci := 1) rfl hK hP hD hS 3 (by decide) w_180 rfl rfl (by decide +kernel) rfl rfl (Nat.le_of_ble_eq_true rfl) d_T_init_66 (fun H locs hP hD hS => ?_)
  refine lv_aload_n hx hb d_T_init_69 rfl (lv_at hl 1 rfl) ?_
  refine lv_aload_n hx hb d_T_init_70 rfl (lv_at hl 1 rfl) ?_
  refine c_get cf in_T (ci := 1) (v := .int (nI n)) rfl hK hP 0 (by decide) w_177 rfl d_T_init_71 ?_
  refine c_newQ cf hK hC w_28 (by omega) hP hD hS hA (Nat.le_of_ble_eq_true rfl) (show 0 + n ≤ 850 by omega) d_T_init_74 (fun arr H hP hD hS => ?_)
  refine c_putF (ty := .array (.object "ThreeChainLedger$Replica")) (v := .ref arr) cf hnm in_T ty_T tok_T n_T_ (ci := 1) rfl hK hP hD hS 4 (by decide) w_181 rfl rfl (by decide +kernel) rfl rfl (Nat.le_of_ble_eq_true rfl) d_T_init_77 (fun H locs hP hD hS => ?_)
  refine lv_iconst (v := nI 0) hx hb d_T_init_80 (by decide) ?_
  refine lv_istore (lv' := [(5, .int (nI 0)), (4, .int (nI f)), (0, .ref h0), (1, .int fa), (2, .int (nI a)), (3, .int tu)]) hx hb d_T_init_81 hl (by decide) rfl (fun ls hl => ?_)
  have hP : va_P X.1 vcl ((h0, .inr (1, [.int (nI n), .int (nI (2 * f + 1)), .int (nI k), .int (nI cs), .ref arr, .null, .null, .null, .null])) :: (arr, .inl (X.2.1.2.2.2, n, .inr (.inr (.inr (.inr (fun _ => none)))))) :: []) H := hP
  have hD : va_D A ((h0, .inr (1, [.int (nI n), .int (nI (2 * f + 1)), .int (nI k), .int (nI cs), .ref arr, .null, .null, .null, .null])) :: (arr, .inl (X.2.1.2.2.2, n, .inr (.inr (.inr (.inr (fun _ => none)))))) :: []) := hD
  rw [← fr_0 (fun _ _ => 0)] at hP hD
  refine W.widen (k := 1 + 3 * 0) (n := n + 58 * 0) (by omega) (by omega) ?_
  exact T_loop cf hr hlk hnm hK hC hA (by omega) _ 0 (fun _ _ => 0) ls H locs (lv_sub hl [2, 0] rfl) hP hD hS (by omega) rfl
