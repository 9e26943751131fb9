theorem MetI.ofF {l : Launch} {X : WX} {y : MethodName} {d : Nat} {avs : List Value} {S S' : Nat → Nat → Nat} {r : Int32} {cc : ByteArray} {maxL : Nat} {ret : Option FieldType} (hy : plainFor y = true) (hlen : (lg_sl avs).length ≤ maxL) (body : ∀ (p : Program) (e : Env) (s : State) (m : MethodId) (args : Array Value) (below : List Frame) (meth : Method) (c : Code), CallFix p m c cc maxL s args Mst y.cls → meth.sig.returnType = ret → meth.locks = false → PW X S s.heap → XK X s → NWs s → ∀ ls : Array Slot, lv_has ls maxL (lv_args 0 avs) → W p l e (rmd d) s m args below meth c s.heap [] 0 0 (MQ below (QcI X r S') args s 0 0 (xA X)) (F0 m 0 ls [])) : MetI l X y (Cond.code y cc maxL ret :: Mst) d avs S r S' := by
  refine va_MetF (cc := cc) (maxL := maxL) (ret := ret) hy rfl ?_
  intro p e s m args below meth c s₁ B hml hv
  obtain ⟨rfl, hP, hK, hN⟩ := hv
  have hts := atoms_spec (ws := Cond.code y cc maxL ret :: Mst) B.pre
  have hl := lv_entry avs (n := maxL) hlen
  rw [lg_entry_eq]
  exact body p e s m _ below meth c ⟨B.exec, B.bytes, hml, findClass_of_methodNamed B.named, fun w h => hts w (List.mem_cons_of_mem _ h)⟩ B.returns B.notSynchronized hP hK hN _ hl
theorem low_and (a : Nat) : nI a &&& (nI a - nI 1) = nI (a &&& (a - 1)) := by
  by_cases h : a = 0
  · subst h
    decide
  · rw [pk_sub (by omega), nI_and]
theorem nI_xor (a b : Nat) : nI a ^^^ nI b = nI (a ^^^ b) := by
  apply Int32.toBitVec_inj.1
  show BitVec.ofNat 32 a ^^^ BitVec.ofNat 32 b = BitVec.ofNat 32 (a ^^^ b)
  apply BitVec.eq_of_getLsbD_eq
  intro i hi
  simp [hi]
def cRest (set most : Nat) : Nat := itr (fun _ x => x &&& (x - 1)) 0 set most
def cLeast (set most : Nat) : Nat := set &&& (cRest set most ^^^ 4294967295)
theorem cRest_le (set : Nat) : ∀ k, cRest set k ≤ set
  | 0 => Nat.le_refl _
  | k + 1 => Nat.le_trans (Nat.and_le_left) (cRest_le set k)
theorem bc_ok : ∀ a, a < 128 → (((((((((nI a) - ((((nI a)).toUInt32 >>> (((nI 1)).toUInt32 &&& Int32.toUInt32 31)).toInt32 &&& 1431655765)) &&& 858993459) + (((((nI a) - ((((nI a)).toUInt32 >>> (((nI 1)).toUInt32 &&& Int32.toUInt32 31)).toInt32 &&& 1431655765))).toUInt32 >>> (((nI 2)).toUInt32 &&& Int32.toUInt32 31)).toInt32 &&& 858993459)) + ((((((nI a) - ((((nI a)).toUInt32 >>> (((nI 1)).toUInt32 &&& Int32.toUInt32 31)).toInt32 &&& 1431655765)) &&& 858993459) + (((((nI a) - ((((nI a)).toUInt32 >>> (((nI 1)).toUInt32 &&& Int32.toUInt32 31)).toInt32 &&& 1431655765))).toUInt32 >>> (((nI 2)).toUInt32 &&& Int32.toUInt32 31)).toInt32 &&& 858993459))).toUInt32 >>> (((nI 4)).toUInt32 &&& Int32.toUInt32 31)).toInt32) &&& 252645135) + ((((((((nI a) - ((((nI a)).toUInt32 >>> (((nI 1)).toUInt32 &&& Int32.toUInt32 31)).toInt32 &&& 1431655765)) &&& 858993459) + (((((nI a) - ((((nI a)).toUInt32 >>> (((nI 1)).toUInt32 &&& Int32.toUInt32 31)).toInt32 &&& 1431655765))).toUInt32 >>> (((nI 2)).toUInt32 &&& Int32.toUInt32 31)).toInt32 &&& 858993459)) + ((((((nI a) - ((((nI a)).toUInt32 >>> (((nI 1)).toUInt32 &&& Int32.toUInt32 31)).toInt32 &&& 1431655765)) &&& 858993459) + (((((nI a) - ((((nI a)).toUInt32 >>> (((nI 1)).toUInt32 &&& Int32.toUInt32 31)).toInt32 &&& 1431655765))).toUInt32 >>> (((nI 2)).toUInt32 &&& Int32.toUInt32 31)).toInt32 &&& 858993459))).toUInt32 >>> (((nI 4)).toUInt32 &&& Int32.toUInt32 31)).toInt32) &&& 252645135)).toUInt32 >>> (((nI 8)).toUInt32 &&& Int32.toUInt32 31)).toInt32) + (((((((((nI a) - ((((nI a)).toUInt32 >>> (((nI 1)).toUInt32 &&& Int32.toUInt32 31)).toInt32 &&& 1431655765)) &&& 858993459) + (((((nI a) - ((((nI a)).toUInt32 >>> (((nI 1)).toUInt32 &&& Int32.toUInt32 31)).toInt32 &&& 1431655765))).toUInt32 >>> (((nI 2)).toUInt32 &&& Int32.toUInt32 31)).toInt32 &&& 858993459)) + ((((((nI a) - ((((nI a)).toUInt32 >>> (((nI 1)).toUInt32 &&& Int32.toUInt32 31)).toInt32 &&& 1431655765)) &&& 858993459) + (((((nI a) - ((((nI a)).toUInt32 >>> (((nI 1)).toUInt32 &&& Int32.toUInt32 31)).toInt32 &&& 1431655765))).toUInt32 >>> (((nI 2)).toUInt32 &&& Int32.toUInt32 31)).toInt32 &&& 858993459))).toUInt32 >>> (((nI 4)).toUInt32 &&& Int32.toUInt32 31)).toInt32) &&& 252645135) + ((((((((nI a) - ((((nI a)).toUInt32 >>> (((nI 1)).toUInt32 &&& Int32.toUInt32 31)).toInt32 &&& 1431655765)) &&& 858993459) + (((((nI a) - ((((nI a)).toUInt32 >>> (((nI 1)).toUInt32 &&& Int32.toUInt32 31)).toInt32 &&& 1431655765))).toUInt32 >>> (((nI 2)).toUInt32 &&& Int32.toUInt32 31)).toInt32 &&& 858993459)) + ((((((nI a) - ((((nI a)).toUInt32 >>> (((nI 1)).toUInt32 &&& Int32.toUInt32 31)).toInt32 &&& 1431655765)) &&& 858993459) + (((((nI a) - ((((nI a)).toUInt32 >>> (((nI 1)).toUInt32 &&& Int32.toUInt32 31)).toInt32 &&& 1431655765))).toUInt32 >>> (((nI 2)).toUInt32 &&& Int32.toUInt32 31)).toInt32 &&& 858993459))).toUInt32 >>> (((nI 4)).toUInt32 &&& Int32.toUInt32 31)).toInt32) &&& 252645135)).toUInt32 >>> (((nI 8)).toUInt32 &&& Int32.toUInt32 31)).toInt32)).toUInt32 >>> (((nI 16)).toUInt32 &&& Int32.toUInt32 31)).toInt32) &&& (nI 63)) = nI (mSize a) := by decide +kernel
theorem cCnt_le {S : Nat → Nat → Nat} {r v : Nat} : ∀ k, itr (cCntF S r v) 0 0 k ≤ k
  | 0 => Nat.le_refl _
  | k + 1 => by
    have ih := cCnt_le (S := S) (r := r) (v := v) k
    rw [itr_z]
    generalize itr (cCntF S r v) 0 0 k = z at ih ⊢
    unfold cCntF
    split <;> omega
set_option maxRecDepth 100000 in
set_option maxHeartbeats 4000000 in
theorem k_Bl_has (l : Launch) {X : WX} (hX : xInj X) {S : Nat → Nat → Nat} {V : Nat} (hC : CI V X S) (b : Int32) : MetI l X y_Bl_has (Cond.code y_Bl_has c_Bl_has 2 (some .boolean) :: Mst) 0 [.ref (X.2.2.2 31), .int b] S (nI (cHas S b).toNat) S := by
  refine MetI.of (by decide) (Nat.le_of_ble_eq_true rfl) ?_
  intro p e s m args below meth c cf hr hlk hP hK hN ls hl
  have hl : lv_has ls 2 [(0, .ref (X.2.2.2 31)), (1, .int b)] := hl
  have hx := cf.1
  have hb := cf.2.1
  have hD := xD_of hX
  have hS : va_S (xA X) s.heap s.heap [] := va_S.rf
  have hnn := hC.nn
  have hV := hC.V
  have hcn := hC.n
  have htr := hC.tr
  have hblc := hC.bl
  have hro := hC.ro
  obtain ⟨H, hH⟩ : ∃ H, H = s.heap := ⟨_, rfl⟩
  obtain ⟨locs, hlo⟩ : ∃ z : List Loc, z = [] := ⟨_, rfl⟩
  suffices hgo : PW X S H → va_S (xA X) s.heap H locs → W p l e (rmd 0) s m args below meth c H locs 0 0 (MQ below (QcI X (nI (cHas S b).toNat) S) args s 0 0 (xA X)) (F0 m 0 ls []) by
    subst hH
    subst hlo
    exact hgo hP hS
  clear hP hS
  intro hP hS
  refine lv_iload_n hx hb d_Bl_has_0 rfl (lv_at hl 1 rfl) ?_
  refine lv_if_lt (tgt := 16) hx hb d_Bl_has_1 (by decide) (fun h1 => ?_) (fun h1 => ?_)
  · skip
    have uh1 := i_lt0 h1
    refine lv_iconst (v := nI 0) hx hb d_Bl_has_16 (by decide) ?_
    exact x_zret cf hr hlk hP hS (by unfold cHas; rw [decide_eq_false (by omega)]; rfl) (rfl) d_Bl_has_17
  · skip
    have uh1 := i_nlt0 h1
    refine lv_iload_n hx hb d_Bl_has_4 rfl (lv_at hl 1 rfl) ?_
    refine lv_aload_n hx hb d_Bl_has_5 rfl (lv_at hl 0 rfl) ?_
    refine x_getBl (v := .int (nI (S 31 0))) cf hK hP 6 (by decide) w_122 rfl d_Bl_has_6 ?_
    refine lv_icmp_ge (tgt := 16) hx hb d_Bl_has_9 (by decide) (fun h2 => ?_) (fun h2 => ?_)
    · skip
      have uh2 := i_geN (by omega) h2
      refine lv_iconst (v := nI 0) hx hb d_Bl_has_16 (by decide) ?_
      exact x_zret cf hr hlk hP hS (by unfold cHas; rw [decide_eq_false (by omega)]; rfl) (rfl) d_Bl_has_17
    · skip
      have uh2 := i_ngeN (by omega) h2
      refine lv_iconst (v := nI 1) hx hb d_Bl_has_12 (by decide) ?_
      refine lv_goto (tgt := 17) hx hb d_Bl_has_13 (by decide) ?_
      exact x_zret cf hr hlk hP hS (by unfold cHas; rw [decide_eq_true (by omega)]; rfl) (rfl) d_Bl_has_17
set_option maxRecDepth 100000 in
set_option maxHeartbeats 4000000 in
theorem k_Ro_hasPlace (l : Launch) {X : WX} (hX : xInj X) {S : Nat → Nat → Nat} {V : Nat} (hC : CI V X S) (i : Int32) : MetI l X y_Ro_hasPlace (Cond.code y_Ro_hasPlace c_Ro_hasPlace 2 (some .boolean) :: Mst) 0 [.ref (X.2.2.2 38), .int i] S (nI (cPlace S i).toNat) S := by
  refine MetI.of (by decide) (Nat.le_of_ble_eq_true rfl) ?_
  intro p e s m args below meth c cf hr hlk hP hK hN ls hl
  have hl : lv_has ls 2 [(0, .ref (X.2.2.2 38)), (1, .int i)] := hl
  have hx := cf.1
  have hb := cf.2.1
  have hD := xD_of hX
  have hS : va_S (xA X) s.heap s.heap [] := va_S.rf
  have hnn := hC.nn
  have hV := hC.V
  have hcn := hC.n
  have htr := hC.tr
  have hblc := hC.bl
  have hro := hC.ro
  obtain ⟨H, hH⟩ : ∃ H, H = s.heap := ⟨_, rfl⟩
  obtain ⟨locs, hlo⟩ : ∃ z : List Loc, z = [] := ⟨_, rfl⟩
  suffices hgo : PW X S H → va_S (xA X) s.heap H locs → W p l e (rmd 0) s m args below meth c H locs 0 0 (MQ below (QcI X (nI (cPlace S i).toNat) S) args s 0 0 (xA X)) (F0 m 0 ls []) by
    subst hH
    subst hlo
    exact hgo hP hS
  clear hP hS
  intro hP hS
  refine lv_iload_n hx hb d_Ro_hasPlace_0 rfl (lv_at hl 1 rfl) ?_
  refine lv_if_lt (tgt := 16) hx hb d_Ro_hasPlace_1 (by decide) (fun h1 => ?_) (fun h1 => ?_)
  · skip
    have uh1 := i_lt0 h1
    refine lv_iconst (v := nI 0) hx hb d_Ro_hasPlace_16 (by decide) ?_
    exact x_zret cf hr hlk hP hS (by unfold cPlace; rw [decide_eq_false (by omega)]; rfl) (rfl) d_Ro_hasPlace_17
  · skip
    have uh1 := i_nlt0 h1
    refine lv_iload_n hx hb d_Ro_hasPlace_4 rfl (lv_at hl 1 rfl) ?_
    refine lv_aload_n hx hb d_Ro_hasPlace_5 rfl (lv_at hl 0 rfl) ?_
    refine x_getRo (v := .int (nI (S 38 0))) cf hK hP 2 (by decide) w_149 rfl d_Ro_hasPlace_6 ?_
    refine lv_icmp_ge (tgt := 16) hx hb d_Ro_hasPlace_9 (by decide) (fun h2 => ?_) (fun h2 => ?_)
    · skip
      have uh2 := i_geN (by omega) h2
      refine lv_iconst (v := nI 0) hx hb d_Ro_hasPlace_16 (by decide) ?_
      exact x_zret cf hr hlk hP hS (by unfold cPlace; rw [decide_eq_false (by omega)]; rfl) (rfl) d_Ro_hasPlace_17
    · skip
      have uh2 := i_ngeN (by omega) h2
      refine lv_iconst (v := nI 1) hx hb d_Ro_hasPlace_12 (by decide) ?_
      refine lv_goto (tgt := 17) hx hb d_Ro_hasPlace_13 (by decide) ?_
      exact x_zret cf hr hlk hP hS (by unfold cPlace; rw [decide_eq_true (by omega)]; rfl) (rfl) d_Ro_hasPlace_17
set_option maxRecDepth 100000 in
set_option maxHeartbeats 4000000 in
theorem k_Tr_has (l : Launch) {X : WX} (hX : xInj X) {S : Nat → Nat → Nat} {V : Nat} (hC : CI V X S) (t : Int32) : MetI l X y_Tr_has (Cond.code y_Tr_has c_Tr_has 2 (some .boolean) :: Mst) 0 [.ref (X.2.2.2 27), .int t] S (nI (cTrHas S t).toNat) S := by
  refine MetI.of (by decide) (Nat.le_of_ble_eq_true rfl) ?_
  intro p e s m args below meth c cf hr hlk hP hK hN ls hl
  have hl : lv_has ls 2 [(0, .ref (X.2.2.2 27)), (1, .int t)] := hl
  have hx := cf.1
  have hb := cf.2.1
  have hD := xD_of hX
  have hS : va_S (xA X) s.heap s.heap [] := va_S.rf
  have hnn := hC.nn
  have hV := hC.V
  have hcn := hC.n
  have htr := hC.tr
  have hblc := hC.bl
  have hro := hC.ro
  obtain ⟨H, hH⟩ : ∃ H, H = s.heap := ⟨_, rfl⟩
  obtain ⟨locs, hlo⟩ : ∃ z : List Loc, z = [] := ⟨_, rfl⟩
  suffices hgo : PW X S H → va_S (xA X) s.heap H locs → W p l e (rmd 0) s m args below meth c H locs 0 0 (MQ below (QcI X (nI (cTrHas S t).toNat) S) args s 0 0 (xA X)) (F0 m 0 ls []) by
    subst hH
    subst hlo
    exact hgo hP hS
  clear hP hS
  intro hP hS
  refine lv_iload_n hx hb d_Tr_has_0 rfl (lv_at hl 1 rfl) ?_
  refine lv_if_lt (tgt := 16) hx hb d_Tr_has_1 (by decide) (fun h1 => ?_) (fun h1 => ?_)
  · skip
    have uh1 := i_lt0 h1
    refine lv_iconst (v := nI 0) hx hb d_Tr_has_16 (by decide) ?_
    exact x_zret cf hr hlk hP hS (by unfold cTrHas; rw [decide_eq_false (by omega)]; rfl) (rfl) d_Tr_has_17
  · skip
    have uh1 := i_nlt0 h1
    refine lv_iload_n hx hb d_Tr_has_4 rfl (lv_at hl 1 rfl) ?_
    refine lv_aload_n hx hb d_Tr_has_5 rfl (lv_at hl 0 rfl) ?_
    refine x_getTr (v := .int (nI (S 27 0))) cf hK hP 3 (by decide) w_90 rfl d_Tr_has_6 ?_
    refine lv_icmp_ge (tgt := 16) hx hb d_Tr_has_9 (by decide) (fun h2 => ?_) (fun h2 => ?_)
    · skip
      have uh2 := i_geN (by omega) h2
      refine lv_iconst (v := nI 0) hx hb d_Tr_has_16 (by decide) ?_
      exact x_zret cf hr hlk hP hS (by unfold cTrHas; rw [decide_eq_false (by omega)]; rfl) (rfl) d_Tr_has_17
    · skip
      have uh2 := i_ngeN (by omega) h2
      refine lv_iconst (v := nI 1) hx hb d_Tr_has_12 (by decide) ?_
      refine lv_goto (tgt := 17) hx hb d_Tr_has_13 (by decide) ?_
      exact x_zret cf hr hlk hP hS (by unfold cTrHas; rw [decide_eq_true (by omega)]; rfl) (rfl) d_Tr_has_17
set_option maxRecDepth 100000 in
set_option maxHeartbeats 4000000 in
theorem k_Bl_isFull (l : Launch) {X : WX} (hX : xInj X) {S : Nat → Nat → Nat} {V : Nat} (hC : CI V X S) : MetI l X y_Bl_isFull (Cond.code y_Bl_isFull c_Bl_isFull 1 (some .boolean) :: Mst) 0 [.ref (X.2.2.2 31)] S (nI (decide (40 ≤ S 31 0)).toNat) S := by
  refine MetI.of (by decide) (Nat.le_of_ble_eq_true rfl) ?_
  intro p e s m args below meth c cf hr hlk hP hK hN ls hl
  have hl : lv_has ls 1 [(0, .ref (X.2.2.2 31))] := hl
  have hx := cf.1
  have hb := cf.2.1
  have hD := xD_of hX
  have hS : va_S (xA X) s.heap s.heap [] := va_S.rf
  have hnn := hC.nn
  have hV := hC.V
  have hcn := hC.n
  have htr := hC.tr
  have hblc := hC.bl
  have hro := hC.ro
  obtain ⟨H, hH⟩ : ∃ H, H = s.heap := ⟨_, rfl⟩
  obtain ⟨locs, hlo⟩ : ∃ z : List Loc, z = [] := ⟨_, rfl⟩
  suffices hgo : PW X S H → va_S (xA X) s.heap H locs → W p l e (rmd 0) s m args below meth c H locs 0 0 (MQ below (QcI X (nI (decide (40 ≤ S 31 0)).toNat) S) args s 0 0 (xA X)) (F0 m 0 ls []) by
    subst hH
    subst hlo
    exact hgo hP hS
  clear hP hS
  intro hP hS
  refine lv_aload_n hx hb d_Bl_isFull_0 rfl (lv_at hl 0 rfl) ?_
  refine x_getBl (v := .int (nI (S 31 0))) cf hK hP 6 (by decide) w_122 rfl d_Bl_isFull_1 ?_
  refine lv_bipush (v := nI 40) hx hb d_Bl_isFull_4 (by decide) ?_
  refine n_icmp_lt (tgt := 13) hx hb d_Bl_isFull_6 (by decide) (by omega) (by decide) (fun h1 => ?_) (fun h1 => ?_)
  · skip
    refine lv_iconst (v := nI 0) hx hb d_Bl_isFull_13 (by decide) ?_
    exact x_zret cf hr hlk hP hS (by rw [decide_eq_false (by omega)]; rfl) (rfl) d_Bl_isFull_14
  · skip
    refine lv_iconst (v := nI 1) hx hb d_Bl_isFull_9 (by decide) ?_
    refine lv_goto (tgt := 14) hx hb d_Bl_isFull_10 (by decide) ?_
    exact x_zret cf hr hlk hP hS (by rw [decide_eq_true (by omega)]; rfl) (rfl) d_Bl_isFull_14
set_option maxRecDepth 100000 in
set_option maxHeartbeats 4000000 in
theorem k_Ro_isFull (l : Launch) {X : WX} (hX : xInj X) {S : Nat → Nat → Nat} {V : Nat} (hC : CI V X S) : MetI l X y_Ro_isFull (Cond.code y_Ro_isFull c_Ro_isFull 1 (some .boolean) :: Mst) 0 [.ref (X.2.2.2 38)] S (nI (decide (40 ≤ S 38 0)).toNat) S := by
  refine MetI.of (by decide) (Nat.le_of_ble_eq_true rfl) ?_
  intro p e s m args below meth c cf hr hlk hP hK hN ls hl
  have hl : lv_has ls 1 [(0, .ref (X.2.2.2 38))] := hl
  have hx := cf.1
  have hb := cf.2.1
  have hD := xD_of hX
  have hS : va_S (xA X) s.heap s.heap [] := va_S.rf
  have hnn := hC.nn
  have hV := hC.V
  have hcn := hC.n
  have htr := hC.tr
  have hblc := hC.bl
  have hro := hC.ro
  obtain ⟨H, hH⟩ : ∃ H, H = s.heap := ⟨_, rfl⟩
  obtain ⟨locs, hlo⟩ : ∃ z : List Loc, z = [] := ⟨_, rfl⟩
  suffices hgo : PW X S H → va_S (xA X) s.heap H locs → W p l e (rmd 0) s m args below meth c H locs 0 0 (MQ below (QcI X (nI (decide (40 ≤ S 38 0)).toNat) S) args s 0 0 (xA X)) (F0 m 0 ls []) by
    subst hH
    subst hlo
    exact hgo hP hS
  clear hP hS
  intro hP hS
  refine lv_aload_n hx hb d_Ro_isFull_0 rfl (lv_at hl 0 rfl) ?_
  refine x_getRo (v := .int (nI (S 38 0))) cf hK hP 2 (by decide) w_149 rfl d_Ro_isFull_1 ?_
  refine lv_bipush (v := nI 40) hx hb d_Ro_isFull_4 (by decide) ?_
  refine n_icmp_lt (tgt := 13) hx hb d_Ro_isFull_6 (by decide) (by omega) (by decide) (fun h1 => ?_) (fun h1 => ?_)
  · skip
    refine lv_iconst (v := nI 0) hx hb d_Ro_isFull_13 (by decide) ?_
    exact x_zret cf hr hlk hP hS (by rw [decide_eq_false (by omega)]; rfl) (rfl) d_Ro_isFull_14
  · skip
    refine lv_iconst (v := nI 1) hx hb d_Ro_isFull_9 (by decide) ?_
    refine lv_goto (tgt := 14) hx hb d_Ro_isFull_10 (by decide) ?_
    exact x_zret cf hr hlk hP hS (by rw [decide_eq_true (by omega)]; rfl) (rfl) d_Ro_isFull_14
set_option maxRecDepth 100000 in
set_option maxHeartbeats 4000000 in
theorem k_Tr_isFull (l : Launch) {X : WX} (hX : xInj X) {S : Nat → Nat → Nat} {V : Nat} (hC : CI V X S) : MetI l X y_Tr_isFull (Cond.code y_Tr_isFull c_Tr_isFull 1 (some .boolean) :: Mst) 0 [.ref (X.2.2.2 27)] S (nI (decide (24 ≤ S 27 0)).toNat) S := by
  refine MetI.of (by decide) (Nat.le_of_ble_eq_true rfl) ?_
  intro p e s m args below meth c cf hr hlk hP hK hN ls hl
  have hl : lv_has ls 1 [(0, .ref (X.2.2.2 27))] := hl
  have hx := cf.1
  have hb := cf.2.1
  have hD := xD_of hX
  have hS : va_S (xA X) s.heap s.heap [] := va_S.rf
  have hnn := hC.nn
  have hV := hC.V
  have hcn := hC.n
  have htr := hC.tr
  have hblc := hC.bl
  have hro := hC.ro
  obtain ⟨H, hH⟩ : ∃ H, H = s.heap := ⟨_, rfl⟩
  obtain ⟨locs, hlo⟩ : ∃ z : List Loc, z = [] := ⟨_, rfl⟩
  suffices hgo : PW X S H → va_S (xA X) s.heap H locs → W p l e (rmd 0) s m args below meth c H locs 0 0 (MQ below (QcI X (nI (decide (24 ≤ S 27 0)).toNat) S) args s 0 0 (xA X)) (F0 m 0 ls []) by
    subst hH
    subst hlo
    exact hgo hP hS
  clear hP hS
  intro hP hS
  refine lv_aload_n hx hb d_Tr_isFull_0 rfl (lv_at hl 0 rfl) ?_
  refine x_getTr (v := .int (nI (S 27 0))) cf hK hP 3 (by decide) w_90 rfl d_Tr_isFull_1 ?_
  refine lv_bipush (v := nI 24) hx hb d_Tr_isFull_4 (by decide) ?_
  refine n_icmp_lt (tgt := 13) hx hb d_Tr_isFull_6 (by decide) (by omega) (by decide) (fun h1 => ?_) (fun h1 => ?_)
  · skip
    refine lv_iconst (v := nI 0) hx hb d_Tr_isFull_13 (by decide) ?_
    exact x_zret cf hr hlk hP hS (by rw [decide_eq_false (by omega)]; rfl) (rfl) d_Tr_isFull_14
  · skip
    refine lv_iconst (v := nI 1) hx hb d_Tr_isFull_9 (by decide) ?_
    refine lv_goto (tgt := 14) hx hb d_Tr_isFull_10 (by decide) ?_
    exact x_zret cf hr hlk hP hS (by rw [decide_eq_true (by omega)]; rfl) (rfl) d_Tr_isFull_14
set_option maxRecDepth 100000 in
set_option maxHeartbeats 4000000 in
theorem k_Bl_add (l : Launch) {X : WX} (hX : xInj X) {S : Nat → Nat → Nat} {V : Nat} (hC : CI V X S) (hb0 : S 31 0 < 40) {p0 v set : Nat} (hp0 : p0 < 40) : MetI l X y_Bl_add (Cond.code y_Bl_add c_Bl_add 4 (some .int) :: Mst) 0 [.ref (X.2.2.2 31), .int (nI p0), .int (nI v), .int (nI set)] S (nI (S 31 0)) (cAdd S p0 v set) := by
  refine MetI.of (by decide) (Nat.le_of_ble_eq_true rfl) ?_
  intro p e s m args below meth c cf hr hlk hP hK hN ls hl
  have hl : lv_has ls 4 [(0, .ref (X.2.2.2 31)), (1, .int (nI p0)), (2, .int (nI v)), (3, .int (nI set))] := hl
  have hx := cf.1
  have hb := cf.2.1
  have hD := xD_of hX
  have hS : va_S (xA X) s.heap s.heap [] := va_S.rf
  have hnn := hC.nn
  have hV := hC.V
  have hcn := hC.n
  have htr := hC.tr
  have hblc := hC.bl
  have hro := hC.ro
  obtain ⟨H, hH⟩ : ∃ H, H = s.heap := ⟨_, rfl⟩
  obtain ⟨locs, hlo⟩ : ∃ z : List Loc, z = [] := ⟨_, rfl⟩
  suffices hgo : PW X S H → va_S (xA X) s.heap H locs → W p l e (rmd 0) s m args below meth c H locs 0 0 (MQ below (QcI X (nI (S 31 0)) (cAdd S p0 v set)) args s 0 0 (xA X)) (F0 m 0 ls []) by
    subst hH
    subst hlo
    exact hgo hP hS
  clear hP hS
  intro hP hS
  refine lv_aload_n hx hb d_Bl_add_0 rfl (lv_at hl 0 rfl) ?_
  refine x_getBl (v := .ref (X.2.2.2 32)) cf hK hP 0 (by decide) w_108 rfl d_Bl_add_1 ?_
  refine lv_aload_n hx hb d_Bl_add_4 rfl (lv_at hl 0 rfl) ?_
  refine x_getBl (v := .int (nI (S 31 0))) cf hK hP 6 (by decide) w_122 rfl d_Bl_add_5 ?_
  refine lv_iload_n hx hb d_Bl_add_8 rfl (lv_at hl 2 rfl) ?_
  refine x_iast cf hK hD hP hS (ia32 X) (by omega) d_Bl_add_9 (fun H locs hP hS => ?_)
  refine lv_aload_n hx hb d_Bl_add_10 rfl (lv_at hl 0 rfl) ?_
  refine x_getBl (v := .ref (X.2.2.2 33)) cf hK hP 1 (by decide) w_111 rfl d_Bl_add_11 ?_
  refine lv_aload_n hx hb d_Bl_add_14 rfl (lv_at hl 0 rfl) ?_
  refine x_getBl (v := .int (nI (S 31 0))) cf hK hP 6 (by decide) w_122 rfl d_Bl_add_15 ?_
  refine lv_iload_n hx hb d_Bl_add_18 rfl (lv_at hl 1 rfl) ?_
  refine x_iast cf hK hD hP hS (ia33 X) (by omega) d_Bl_add_19 (fun H locs hP hS => ?_)
  refine lv_aload_n hx hb d_Bl_add_20 rfl (lv_at hl 0 rfl) ?_
  refine x_getBl (v := .ref (X.2.2.2 34)) cf hK hP 2 (by decide) w_114 rfl d_Bl_add_21 ?_
  refine lv_aload_n hx hb d_Bl_add_24 rfl (lv_at hl 0 rfl) ?_
  refine x_getBl (v := .int (nI (S 31 0))) cf hK hP 6 (by decide) w_122 rfl d_Bl_add_25 ?_
  refine lv_iload_n hx hb d_Bl_add_28 rfl (lv_at hl 3 rfl) ?_
  refine x_iast cf hK hD hP hS (ia34 X) (by omega) d_Bl_add_29 (fun H locs hP hS => ?_)
  refine lv_aload_n hx hb d_Bl_add_30 rfl (lv_at hl 0 rfl) ?_
  refine x_getBl (v := .ref (X.2.2.2 36)) cf hK hP 4 (by decide) w_119 rfl d_Bl_add_31 ?_
  refine lv_aload_n hx hb d_Bl_add_34 rfl (lv_at hl 0 rfl) ?_
  refine x_getBl (v := .int (nI (S 31 0))) cf hK hP 6 (by decide) w_122 rfl d_Bl_add_35 ?_
  refine lv_aload_n hx hb d_Bl_add_38 rfl (lv_at hl 0 rfl) ?_
  refine x_getBl (v := .ref (X.2.2.2 36)) cf hK hP 4 (by decide) w_119 rfl d_Bl_add_39 ?_
  refine lv_iload_n hx hb d_Bl_add_42 rfl (lv_at hl 1 rfl) ?_
  refine x_iald (v := (S 36 p0)) cf hK hP (ia36 X) (by omega) (by first | rfl | (simp [up2_at]; done) | (rw [upR_ne (by decide)]) | (rw [up2_at, if_neg (by omega)])) d_Bl_add_43 ?_
  refine lv_iload_n hx hb d_Bl_add_44 rfl (lv_at hl 3 rfl) ?_
  refine n_ior hx hb d_Bl_add_45 ?_
  refine x_iast cf hK hD hP hS (ia36 X) (by omega) d_Bl_add_46 (fun H locs hP hS => ?_)
  refine lv_aload_n hx hb d_Bl_add_47 rfl (lv_at hl 0 rfl) ?_
  refine x_getBl (v := .ref (X.2.2.2 37)) cf hK hP 5 (by decide) w_121 rfl d_Bl_add_48 ?_
  refine lv_aload_n hx hb d_Bl_add_51 rfl (lv_at hl 0 rfl) ?_
  refine x_getBl (v := .int (nI (S 31 0))) cf hK hP 6 (by decide) w_122 rfl d_Bl_add_52 ?_
  refine lv_aload_n hx hb d_Bl_add_55 rfl (lv_at hl 0 rfl) ?_
  refine x_getBl (v := .ref (X.2.2.2 37)) cf hK hP 5 (by decide) w_121 rfl d_Bl_add_56 ?_
  refine lv_iload_n hx hb d_Bl_add_59 rfl (lv_at hl 1 rfl) ?_
  refine x_lald (v := (S 37 p0)) cf hK hP (by omega) (by first | rfl | (simp [up2_at]; done) | (rw [upR_ne (by decide)]) | (rw [up2_at, if_neg (by omega)])) d_Bl_add_60 ?_
  refine lv_lconst (v := lN 1) hx hb d_Bl_add_61 (by decide) ?_
  refine lv_aload_n hx hb d_Bl_add_62 rfl (lv_at hl 0 rfl) ?_
  refine x_getBl (v := .int (nI (S 31 0))) cf hK hP 6 (by decide) w_122 rfl d_Bl_add_63 ?_
  refine n_lshl hx hb (by omega) d_Bl_add_66 ?_
  refine n_lor hx hb (by have := (show S 37 p0 < 1099511627776 from hC.c 37 p0); omega) (by have : 2 ^ S 31 0 ≤ 2 ^ 40 := Nat.pow_le_pow_right (by decide) (by omega); omega) d_Bl_add_67 ?_
  refine x_last cf hK hD hP hS (by omega) d_Bl_add_68 (fun H locs hP hS => ?_)
  refine lv_aload_n hx hb d_Bl_add_69 rfl (lv_at hl 0 rfl) ?_
  refine lv_dup hx hb d_Bl_add_70 rfl ?_
  refine x_getBl (v := .int (nI (S 31 0))) cf hK hP 6 (by decide) w_122 rfl d_Bl_add_71 ?_
  refine lv_iconst (v := nI 1) hx hb d_Bl_add_74 (by decide) ?_
  refine n_iadd hx hb d_Bl_add_75 ?_
  refine x_putBl cf hK hD hP hS 6 (by decide) w_122 rfl (by decide +kernel) 0 rfl d_Bl_add_76 (fun H locs hP hS => ?_)
  refine lv_aload_n hx hb d_Bl_add_79 rfl (lv_at hl 0 rfl) ?_
  refine x_getBl (v := .int (nI ((S 31 0) + 1))) cf hK hP 6 (by decide) w_122 rfl d_Bl_add_80 ?_
  refine lv_iconst (v := nI 1) hx hb d_Bl_add_83 (by decide) ?_
  refine n_isub hx hb (by omega) d_Bl_add_84 ?_
  exact x_iret cf hr hlk hP hS (by rw [Nat.add_sub_cancel]) (rfl) d_Bl_add_85
set_option maxRecDepth 100000 in
set_option maxHeartbeats 4000000 in
theorem k_Bl_inChain (l : Launch) {X : WX} (hX : xInj X) {S : Nat → Nat → Nat} {V : Nat} (hC : CI V X S) {a b : Nat} (ha0 : a < 40) (hb0 : b < 40) : MetI l X y_Bl_inChain (Cond.code y_Bl_inChain c_Bl_inChain 3 (some .boolean) :: Mst) 0 [.ref (X.2.2.2 31), .int (nI a), .int (nI b)] S (nI (cInC S a b).toNat) S := by
  refine MetI.of (by decide) (Nat.le_of_ble_eq_true rfl) ?_
  intro p e s m args below meth c cf hr hlk hP hK hN ls hl
  have hl : lv_has ls 3 [(0, .ref (X.2.2.2 31)), (1, .int (nI a)), (2, .int (nI b))] := hl
  have hx := cf.1
  have hb := cf.2.1
  have hD := xD_of hX
  have hS : va_S (xA X) s.heap s.heap [] := va_S.rf
  have hnn := hC.nn
  have hV := hC.V
  have hcn := hC.n
  have htr := hC.tr
  have hblc := hC.bl
  have hro := hC.ro
  obtain ⟨H, hH⟩ : ∃ H, H = s.heap := ⟨_, rfl⟩
  obtain ⟨locs, hlo⟩ : ∃ z : List Loc, z = [] := ⟨_, rfl⟩
  suffices hgo : PW X S H → va_S (xA X) s.heap H locs → W p l e (rmd 0) s m args below meth c H locs 0 0 (MQ below (QcI X (nI (cInC S a b).toNat) S) args s 0 0 (xA X)) (F0 m 0 ls []) by
    subst hH
    subst hlo
    exact hgo hP hS
  clear hP hS
  intro hP hS
  refine lv_aload_n hx hb d_Bl_inChain_0 rfl (lv_at hl 0 rfl) ?_
  refine x_getBl (v := .ref (X.2.2.2 37)) cf hK hP 5 (by decide) w_121 rfl d_Bl_inChain_1 ?_
  refine lv_iload_n hx hb d_Bl_inChain_4 rfl (lv_at hl 2 rfl) ?_
  refine x_lald (v := (S 37 b)) cf hK hP (by omega) rfl d_Bl_inChain_5 ?_
  refine lv_iload_n hx hb d_Bl_inChain_6 rfl (lv_at hl 1 rfl) ?_
  have h37 := (show S 37 b < 1099511627776 from hC.c 37 b)
  have hd37 := Nat.div_le_self (S 37 b) (2 ^ a)
  have h01 := bt01 (S 37 b) a
  refine n_lushr hx hb (by have := (show S 37 b < 1099511627776 from hC.c 37 b); omega) (by omega) d_Bl_inChain_7 ?_
  refine lv_lconst (v := lN 1) hx hb d_Bl_inChain_8 (by decide) ?_
  refine n_land1 hx hb (by have := (show S 37 b < 1099511627776 from hC.c 37 b); have := Nat.div_le_self (S 37 b) (2 ^ a); omega) d_Bl_inChain_9 ?_
  refine lv_lconst (v := lN 0) hx hb d_Bl_inChain_10 (by decide) ?_
  refine n_lcmp0 hx hb (by have := (show S 37 b < 1099511627776 from hC.c 37 b); have := Nat.div_le_self (S 37 b) (2 ^ a); omega) d_Bl_inChain_11 ?_
  have hite : (if S 37 b / 2 ^ a % 2 = 0 then 0 else 1) < 2 := by split <;> decide
  refine n_if_eq (tgt := 19) hx hb d_Bl_inChain_12 (by decide) (by omega) (fun h1 => ?_) (fun h1 => ?_)
  · skip
    refine lv_iconst (v := nI 0) hx hb d_Bl_inChain_19 (by decide) ?_
    exact x_zret cf hr hlk hP hS (by unfold cInC; rw [decide_eq_false (fun q => by rw [if_neg (by omega)] at h1; omega)]; rfl) (rfl) d_Bl_inChain_20
  · skip
    refine lv_iconst (v := nI 1) hx hb d_Bl_inChain_15 (by decide) ?_
    refine lv_goto (tgt := 20) hx hb d_Bl_inChain_16 (by decide) ?_
    exact x_zret cf hr hlk hP hS (by unfold cInC; rw [decide_eq_true (by apply Classical.byContradiction; intro q; rw [if_pos (by omega)] at h1; exact h1 rfl)]; rfl) (rfl) d_Bl_inChain_20
set_option maxRecDepth 100000 in
set_option maxHeartbeats 4000000 in
theorem k_Bl_later (l : Launch) {X : WX} (hX : xInj X) {S : Nat → Nat → Nat} {V : Nat} (hC : CI V X S) {a b : Nat} (ha0 : a < 40) (hb0 : b < 40) : MetI l X y_Bl_later (Cond.code y_Bl_later c_Bl_later 3 (some .int) :: Mst) 0 [.ref (X.2.2.2 31), .int (nI a), .int (nI b)] S (nI (cLater S a b)) S := by
  refine MetI.of (by decide) (Nat.le_of_ble_eq_true rfl) ?_
  intro p e s m args below meth c cf hr hlk hP hK hN ls hl
  have hl : lv_has ls 3 [(0, .ref (X.2.2.2 31)), (1, .int (nI a)), (2, .int (nI b))] := hl
  have hx := cf.1
  have hb := cf.2.1
  have hD := xD_of hX
  have hS : va_S (xA X) s.heap s.heap [] := va_S.rf
  have hnn := hC.nn
  have hV := hC.V
  have hcn := hC.n
  have htr := hC.tr
  have hblc := hC.bl
  have hro := hC.ro
  obtain ⟨H, hH⟩ : ∃ H, H = s.heap := ⟨_, rfl⟩
  obtain ⟨locs, hlo⟩ : ∃ z : List Loc, z = [] := ⟨_, rfl⟩
  suffices hgo : PW X S H → va_S (xA X) s.heap H locs → W p l e (rmd 0) s m args below meth c H locs 0 0 (MQ below (QcI X (nI (cLater S a b)) S) args s 0 0 (xA X)) (F0 m 0 ls []) by
    subst hH
    subst hlo
    exact hgo hP hS
  clear hP hS
  intro hP hS
  refine lv_aload_n hx hb d_Bl_later_0 rfl (lv_at hl 0 rfl) ?_
  refine x_getBl (v := .ref (X.2.2.2 32)) cf hK hP 0 (by decide) w_108 rfl d_Bl_later_1 ?_
  refine lv_iload_n hx hb d_Bl_later_4 rfl (lv_at hl 2 rfl) ?_
  refine x_iald (v := (S 32 b)) cf hK hP (ia32 X) (by omega) rfl d_Bl_later_5 ?_
  refine lv_aload_n hx hb d_Bl_later_6 rfl (lv_at hl 0 rfl) ?_
  refine x_getBl (v := .ref (X.2.2.2 32)) cf hK hP 0 (by decide) w_108 rfl d_Bl_later_7 ?_
  refine lv_iload_n hx hb d_Bl_later_10 rfl (lv_at hl 1 rfl) ?_
  refine x_iald (v := (S 32 a)) cf hK hP (ia32 X) (by omega) rfl d_Bl_later_11 ?_
  refine n_icmp_le (tgt := 19) hx hb d_Bl_later_12 (by decide) (by have := (show S 32 b + 1 ≤ V from hC.c 32 b); omega) (by have := (show S 32 a + 1 ≤ V from hC.c 32 a); omega) (fun h1 => ?_) (fun h1 => ?_)
  · skip
    refine lv_iload_n hx hb d_Bl_later_19 rfl (lv_at hl 1 rfl) ?_
    exact x_iret cf hr hlk hP hS (by unfold cLater; rw [if_neg (by omega)]) (rfl) d_Bl_later_20
  · skip
    refine lv_iload_n hx hb d_Bl_later_15 rfl (lv_at hl 2 rfl) ?_
    refine lv_goto (tgt := 20) hx hb d_Bl_later_16 (by decide) ?_
    exact x_iret cf hr hlk hP hS (by unfold cLater; rw [if_pos (by omega)]) (rfl) d_Bl_later_20
set_option maxRecDepth 100000 in
set_option maxHeartbeats 4000000 in
theorem k_Bl_followsAtOnce (l : Launch) {X : WX} (hX : xInj X) {S : Nat → Nat → Nat} {V : Nat} (hC : CI V X S) {b : Nat} (hb0 : b < 40) : MetI l X y_Bl_followsAtOnce (Cond.code y_Bl_followsAtOnce c_Bl_followsAtOnce 2 (some .boolean) :: Mst) 0 [.ref (X.2.2.2 31), .int (nI b)] S (nI (cFol S b).toNat) S := by
  refine MetI.of (by decide) (Nat.le_of_ble_eq_true rfl) ?_
  intro p e s m args below meth c cf hr hlk hP hK hN ls hl
  have hl : lv_has ls 2 [(0, .ref (X.2.2.2 31)), (1, .int (nI b))] := hl
  have hx := cf.1
  have hb := cf.2.1
  have hD := xD_of hX
  have hS : va_S (xA X) s.heap s.heap [] := va_S.rf
  have hnn := hC.nn
  have hV := hC.V
  have hcn := hC.n
  have htr := hC.tr
  have hblc := hC.bl
  have hro := hC.ro
  obtain ⟨H, hH⟩ : ∃ H, H = s.heap := ⟨_, rfl⟩
  obtain ⟨locs, hlo⟩ : ∃ z : List Loc, z = [] := ⟨_, rfl⟩
  suffices hgo : PW X S H → va_S (xA X) s.heap H locs → W p l e (rmd 0) s m args below meth c H locs 0 0 (MQ below (QcI X (nI (cFol S b).toNat) S) args s 0 0 (xA X)) (F0 m 0 ls []) by
    subst hH
    subst hlo
    exact hgo hP hS
  clear hP hS
  intro hP hS
  refine lv_aload_n hx hb d_Bl_followsAtOnce_0 rfl (lv_at hl 0 rfl) ?_
  refine x_getBl (v := .ref (X.2.2.2 32)) cf hK hP 0 (by decide) w_108 rfl d_Bl_followsAtOnce_1 ?_
  refine lv_iload_n hx hb d_Bl_followsAtOnce_4 rfl (lv_at hl 1 rfl) ?_
  refine x_iald (v := (S 32 b)) cf hK hP (ia32 X) (by omega) rfl d_Bl_followsAtOnce_5 ?_
  refine lv_aload_n hx hb d_Bl_followsAtOnce_6 rfl (lv_at hl 0 rfl) ?_
  refine x_getBl (v := .ref (X.2.2.2 32)) cf hK hP 0 (by decide) w_108 rfl d_Bl_followsAtOnce_7 ?_
  refine lv_aload_n hx hb d_Bl_followsAtOnce_10 rfl (lv_at hl 0 rfl) ?_
  refine x_getBl (v := .ref (X.2.2.2 33)) cf hK hP 1 (by decide) w_111 rfl d_Bl_followsAtOnce_11 ?_
  refine lv_iload_n hx hb d_Bl_followsAtOnce_14 rfl (lv_at hl 1 rfl) ?_
  refine x_iald (v := (S 33 b)) cf hK hP (ia33 X) (by omega) rfl d_Bl_followsAtOnce_15 ?_
  refine x_iald (v := (S 32 (S 33 b))) cf hK hP (ia32 X) (by have := (show S 33 b < 40 from hC.c 33 b); omega) rfl d_Bl_followsAtOnce_16 ?_
  refine lv_iconst (v := nI 1) hx hb d_Bl_followsAtOnce_17 (by decide) ?_
  refine n_iadd hx hb d_Bl_followsAtOnce_18 ?_
  refine n_icmp_ne (tgt := 26) hx hb d_Bl_followsAtOnce_19 (by decide) (by have := (show S 32 b + 1 ≤ V from hC.c 32 b); omega) (by have := (show S 33 b < 40 from hC.c 33 b); have := (show S 32 (S 33 b) + 1 ≤ V from hC.c 32 (S 33 b)); omega) (fun h1 => ?_) (fun h1 => ?_)
  · skip
    refine lv_iconst (v := nI 0) hx hb d_Bl_followsAtOnce_26 (by decide) ?_
    exact x_zret cf hr hlk hP hS (by unfold cFol; rw [decide_eq_false (by omega)]; rfl) (rfl) d_Bl_followsAtOnce_27
  · skip
    refine lv_iconst (v := nI 1) hx hb d_Bl_followsAtOnce_22 (by decide) ?_
    refine lv_goto (tgt := 27) hx hb d_Bl_followsAtOnce_23 (by decide) ?_
    exact x_zret cf hr hlk hP hS (by unfold cFol; rw [decide_eq_true (by omega)]; rfl) (rfl) d_Bl_followsAtOnce_27
set_option maxRecDepth 100000 in
set_option maxHeartbeats 4000000 in
theorem k_Ro_kind (l : Launch) {X : WX} (hX : xInj X) {S : Nat → Nat → Nat} {c0 : Nat} (hc0 : c0 < 2147483648) : MetI l X y_Ro_kind (Cond.code y_Ro_kind c_Ro_kind 1 (some .int) :: Mst) 0 [.int (nI c0)] S (nI (c0 &&& 3)) S := by
  refine MetI.of (by decide) (Nat.le_of_ble_eq_true rfl) ?_
  intro p e s m args below meth c cf hr hlk hP hK hN ls hl
  have hl : lv_has ls 1 [(0, .int (nI c0))] := hl
  have hx := cf.1
  have hb := cf.2.1
  have hD := xD_of hX
  have hS : va_S (xA X) s.heap s.heap [] := va_S.rf
  obtain ⟨H, hH⟩ : ∃ H, H = s.heap := ⟨_, rfl⟩
  obtain ⟨locs, hlo⟩ : ∃ z : List Loc, z = [] := ⟨_, rfl⟩
  suffices hgo : PW X S H → va_S (xA X) s.heap H locs → W p l e (rmd 0) s m args below meth c H locs 0 0 (MQ below (QcI X (nI (c0 &&& 3)) S) args s 0 0 (xA X)) (F0 m 0 ls []) by
    subst hH
    subst hlo
    exact hgo hP hS
  clear hP hS
  intro hP hS
  refine lv_iload_n hx hb d_Ro_kind_0 rfl (lv_at hl 0 rfl) ?_
  refine lv_iconst (v := nI 3) hx hb d_Ro_kind_1 (by decide) ?_
  refine n_iand hx hb d_Ro_kind_2 ?_
  exact x_iret cf hr hlk hP hS (rfl) (rfl) d_Ro_kind_3
set_option maxRecDepth 100000 in
set_option maxHeartbeats 4000000 in
theorem k_Ro_receiver (l : Launch) {X : WX} (hX : xInj X) {S : Nat → Nat → Nat} {c0 : Nat} (hc0 : c0 < 2147483648) : MetI l X y_Ro_receiver (Cond.code y_Ro_receiver c_Ro_receiver 1 (some .int) :: Mst) 0 [.int (nI c0)] S (nI ((c0 / 2 ^ 2) &&& 7)) S := by
  refine MetI.of (by decide) (Nat.le_of_ble_eq_true rfl) ?_
  intro p e s m args below meth c cf hr hlk hP hK hN ls hl
  have hl : lv_has ls 1 [(0, .int (nI c0))] := hl
  have hx := cf.1
  have hb := cf.2.1
  have hD := xD_of hX
  have hS : va_S (xA X) s.heap s.heap [] := va_S.rf
  obtain ⟨H, hH⟩ : ∃ H, H = s.heap := ⟨_, rfl⟩
  obtain ⟨locs, hlo⟩ : ∃ z : List Loc, z = [] := ⟨_, rfl⟩
  suffices hgo : PW X S H → va_S (xA X) s.heap H locs → W p l e (rmd 0) s m args below meth c H locs 0 0 (MQ below (QcI X (nI ((c0 / 2 ^ 2) &&& 7)) S) args s 0 0 (xA X)) (F0 m 0 ls []) by
    subst hH
    subst hlo
    exact hgo hP hS
  clear hP hS
  intro hP hS
  refine lv_iload_n hx hb d_Ro_receiver_0 rfl (lv_at hl 0 rfl) ?_
  refine lv_iconst (v := nI 2) hx hb d_Ro_receiver_1 (by decide) ?_
  refine n_ishr hx hb (by omega) (by omega) d_Ro_receiver_2 ?_
  refine lv_bipush (v := nI 7) hx hb d_Ro_receiver_3 (by decide) ?_
  refine n_iand hx hb d_Ro_receiver_5 ?_
  exact x_iret cf hr hlk hP hS (rfl) (rfl) d_Ro_receiver_6
set_option maxRecDepth 100000 in
set_option maxHeartbeats 4000000 in
theorem k_Ro_sender (l : Launch) {X : WX} (hX : xInj X) {S : Nat → Nat → Nat} {c0 : Nat} (hc0 : c0 < 2147483648) : MetI l X y_Ro_sender (Cond.code y_Ro_sender c_Ro_sender 1 (some .int) :: Mst) 0 [.int (nI c0)] S (nI ((c0 / 2 ^ 5) &&& 7)) S := by
  refine MetI.of (by decide) (Nat.le_of_ble_eq_true rfl) ?_
  intro p e s m args below meth c cf hr hlk hP hK hN ls hl
  have hl : lv_has ls 1 [(0, .int (nI c0))] := hl
  have hx := cf.1
  have hb := cf.2.1
  have hD := xD_of hX
  have hS : va_S (xA X) s.heap s.heap [] := va_S.rf
  obtain ⟨H, hH⟩ : ∃ H, H = s.heap := ⟨_, rfl⟩
  obtain ⟨locs, hlo⟩ : ∃ z : List Loc, z = [] := ⟨_, rfl⟩
  suffices hgo : PW X S H → va_S (xA X) s.heap H locs → W p l e (rmd 0) s m args below meth c H locs 0 0 (MQ below (QcI X (nI ((c0 / 2 ^ 5) &&& 7)) S) args s 0 0 (xA X)) (F0 m 0 ls []) by
    subst hH
    subst hlo
    exact hgo hP hS
  clear hP hS
  intro hP hS
  refine lv_iload_n hx hb d_Ro_sender_0 rfl (lv_at hl 0 rfl) ?_
  refine lv_iconst (v := nI 5) hx hb d_Ro_sender_1 (by decide) ?_
  refine n_ishr hx hb (by omega) (by omega) d_Ro_sender_2 ?_
  refine lv_bipush (v := nI 7) hx hb d_Ro_sender_3 (by decide) ?_
  refine n_iand hx hb d_Ro_sender_5 ?_
  exact x_iret cf hr hlk hP hS (rfl) (rfl) d_Ro_sender_6
set_option maxRecDepth 100000 in
set_option maxHeartbeats 4000000 in
theorem k_Ro_subject (l : Launch) {X : WX} (hX : xInj X) {S : Nat → Nat → Nat} {c0 : Nat} (hc0 : c0 < 2147483648) : MetI l X y_Ro_subject (Cond.code y_Ro_subject c_Ro_subject 1 (some .int) :: Mst) 0 [.int (nI c0)] S (nI (c0 / 2 ^ 8)) S := by
  refine MetI.of (by decide) (Nat.le_of_ble_eq_true rfl) ?_
  intro p e s m args below meth c cf hr hlk hP hK hN ls hl
  have hl : lv_has ls 1 [(0, .int (nI c0))] := hl
  have hx := cf.1
  have hb := cf.2.1
  have hD := xD_of hX
  have hS : va_S (xA X) s.heap s.heap [] := va_S.rf
  obtain ⟨H, hH⟩ : ∃ H, H = s.heap := ⟨_, rfl⟩
  obtain ⟨locs, hlo⟩ : ∃ z : List Loc, z = [] := ⟨_, rfl⟩
  suffices hgo : PW X S H → va_S (xA X) s.heap H locs → W p l e (rmd 0) s m args below meth c H locs 0 0 (MQ below (QcI X (nI (c0 / 2 ^ 8)) S) args s 0 0 (xA X)) (F0 m 0 ls []) by
    subst hH
    subst hlo
    exact hgo hP hS
  clear hP hS
  intro hP hS
  refine lv_iload_n hx hb d_Ro_subject_0 rfl (lv_at hl 0 rfl) ?_
  refine lv_bipush (v := nI 8) hx hb d_Ro_subject_1 (by decide) ?_
  refine n_ishr hx hb (by omega) (by omega) d_Ro_subject_3 ?_
  exact x_iret cf hr hlk hP hS (rfl) (rfl) d_Ro_subject_4
set_option maxRecDepth 100000 in
set_option maxHeartbeats 4000000 in
theorem k_Ro_send (l : Launch) {X : WX} (hX : xInj X) {S : Nat → Nat → Nat} {V : Nat} (hC : CI V X S) (k0 to fr b v : Nat) : MetV l X y_Ro_send (Cond.code y_Ro_send c_Ro_send 6 none :: Mst) 1 [.ref (X.2.2.2 38), .int (nI k0), .int (nI to), .int (nI fr), .int (nI b), .int (nI v)] S (cSend S k0 to fr b v) := by
  refine MetV.of (by decide) (Nat.le_of_ble_eq_true rfl) ?_
  intro p e s m args below meth c cf hr hlk hP hK hN ls hl
  have hl : lv_has ls 6 [(0, .ref (X.2.2.2 38)), (1, .int (nI k0)), (2, .int (nI to)), (3, .int (nI fr)), (4, .int (nI b)), (5, .int (nI v))] := hl
  have hx := cf.1
  have hb := cf.2.1
  have hD := xD_of hX
  have hS : va_S (xA X) s.heap s.heap [] := va_S.rf
  have hnn := hC.nn
  have hV := hC.V
  have hcn := hC.n
  have htr := hC.tr
  have hblc := hC.bl
  have hro := hC.ro
  obtain ⟨H, hH⟩ : ∃ H, H = s.heap := ⟨_, rfl⟩
  obtain ⟨locs, hlo⟩ : ∃ z : List Loc, z = [] := ⟨_, rfl⟩
  suffices hgo : PW X S H → va_S (xA X) s.heap H locs → W p l e (rmd 1) s m args below meth c H locs 0 0 (MQ below (QcV X (cSend S k0 to fr b v)) args s 0 0 (xA X)) (F0 m 0 ls []) by
    subst hH
    subst hlo
    exact hgo hP hS
  clear hP hS
  intro hP hS
  refine lv_aload_n hx hb d_Ro_send_0 rfl (lv_at hl 0 rfl) ?_
  refine x_callVi (As := []) (rest := []) cf hK hN hP hS (k_Ro_isFull l hX hC) (cw_Ro_isFull cf.2.2.2.2 w_266 ⟨Nat.le_of_ble_eq_true rfl, Nat.le_of_ble_eq_true rfl⟩) (rv_Ro hK hP) hl.1 rfl rfl (Nat.le_of_ble_eq_true rfl) ⟨Nat.zero_le _, Nat.zero_le _⟩ d_Ro_send_1 (fun H locs hP hS => ?_)
  refine n_if_eq (tgt := 18) hx hb d_Ro_send_4 (by decide) (tnat_lt _) (fun h1 => ?_) (fun h1 => ?_)
  · skip
    have hnf := of_decide_eq_false (tnat_0 h1)
    refine lv_aload_n hx hb d_Ro_send_18 rfl (lv_at hl 0 rfl) ?_
    refine x_getRo (v := .ref (X.2.2.2 39)) cf hK hP 0 (by decide) w_145 rfl d_Ro_send_19 ?_
    refine lv_aload_n hx hb d_Ro_send_22 rfl (lv_at hl 0 rfl) ?_
    refine x_getRo (v := .int (nI (S 38 0))) cf hK hP 2 (by decide) w_149 rfl d_Ro_send_23 ?_
    refine lv_iload_n hx hb d_Ro_send_26 rfl (lv_at hl 1 rfl) ?_
    refine lv_iconst (v := nI 4) hx hb d_Ro_send_27 (by decide) ?_
    refine lv_iload_n hx hb d_Ro_send_28 rfl (lv_at hl 2 rfl) ?_
    refine n_imul hx hb d_Ro_send_29 ?_
    refine n_iadd hx hb d_Ro_send_30 ?_
    refine lv_bipush (v := nI 32) hx hb d_Ro_send_31 (by decide) ?_
    refine lv_iload_n hx hb d_Ro_send_33 rfl (lv_at hl 3 rfl) ?_
    refine n_imul hx hb d_Ro_send_34 ?_
    refine n_iadd hx hb d_Ro_send_35 ?_
    refine lv_sipush (v := nI 256) hx hb d_Ro_send_36 (by decide) ?_
    refine lv_iload hx hb d_Ro_send_39 (lv_at hl 4 rfl) ?_
    refine n_imul hx hb d_Ro_send_41 ?_
    refine n_iadd hx hb d_Ro_send_42 ?_
    refine x_iast cf hK hD hP hS (ia39 X) (by omega) d_Ro_send_43 (fun H locs hP hS => ?_)
    refine lv_aload_n hx hb d_Ro_send_44 rfl (lv_at hl 0 rfl) ?_
    refine x_getRo (v := .ref (X.2.2.2 40)) cf hK hP 1 (by decide) w_147 rfl d_Ro_send_45 ?_
    refine lv_aload_n hx hb d_Ro_send_48 rfl (lv_at hl 0 rfl) ?_
    refine x_getRo (v := .int (nI (S 38 0))) cf hK hP 2 (by decide) w_149 rfl d_Ro_send_49 ?_
    refine lv_iload hx hb d_Ro_send_52 (lv_at hl 5 rfl) ?_
    refine x_iast cf hK hD hP hS (ia40 X) (by omega) d_Ro_send_54 (fun H locs hP hS => ?_)
    refine lv_aload_n hx hb d_Ro_send_55 rfl (lv_at hl 0 rfl) ?_
    refine lv_dup hx hb d_Ro_send_56 rfl ?_
    refine x_getRo (v := .int (nI (S 38 0))) cf hK hP 2 (by decide) w_149 rfl d_Ro_send_57 ?_
    refine lv_iconst (v := nI 1) hx hb d_Ro_send_60 (by decide) ?_
    refine n_iadd hx hb d_Ro_send_61 ?_
    refine x_putRo cf hK hD hP hS 2 (by decide) w_149 rfl (by decide +kernel) 0 rfl d_Ro_send_62 (fun H locs hP hS => ?_)
    exact x_vret cf hr hlk hP hS (by unfold cSend; rw [if_neg hnf]) d_Ro_send_65
  · skip
    have hfu := of_decide_eq_true (tnat_1 h1)
    refine lv_aload_n hx hb d_Ro_send_7 rfl (lv_at hl 0 rfl) ?_
    refine lv_dup hx hb d_Ro_send_8 rfl ?_
    refine x_getRo (v := .int (nI (S 38 1))) cf hK hP 3 (by decide) w_151 rfl d_Ro_send_9 ?_
    refine lv_iconst (v := nI 1) hx hb d_Ro_send_12 (by decide) ?_
    refine n_iadd hx hb d_Ro_send_13 ?_
    refine x_putRo cf hK hD hP hS 3 (by decide) w_151 rfl (by decide +kernel) 1 rfl d_Ro_send_14 (fun H locs hP hS => ?_)
    exact x_vret cf hr hlk hP hS (by unfold cSend; rw [if_pos hfu]) d_Ro_send_17
set_option maxRecDepth 100000 in
set_option maxHeartbeats 4000000 in
theorem k_Ro_remove (l : Launch) {X : WX} (hX : xInj X) {S : Nat → Nat → Nat} {V : Nat} (hC : CI V X S) {i : Nat} (hi0 : i < S 38 0) : MetV l X y_Ro_remove (Cond.code y_Ro_remove c_Ro_remove 2 none :: Mst) 1 [.ref (X.2.2.2 38), .int (nI i)] S (cRem S i) := by
  refine MetV.of (by decide) (Nat.le_of_ble_eq_true rfl) ?_
  intro p e s m args below meth c cf hr hlk hP hK hN ls hl
  have hl : lv_has ls 2 [(0, .ref (X.2.2.2 38)), (1, .int (nI i))] := hl
  have hx := cf.1
  have hb := cf.2.1
  have hD := xD_of hX
  have hS : va_S (xA X) s.heap s.heap [] := va_S.rf
  have hnn := hC.nn
  have hV := hC.V
  have hcn := hC.n
  have htr := hC.tr
  have hblc := hC.bl
  have hro := hC.ro
  obtain ⟨H, hH⟩ : ∃ H, H = s.heap := ⟨_, rfl⟩
  obtain ⟨locs, hlo⟩ : ∃ z : List Loc, z = [] := ⟨_, rfl⟩
  suffices hgo : PW X S H → va_S (xA X) s.heap H locs → W p l e (rmd 1) s m args below meth c H locs 0 0 (MQ below (QcV X (cRem S i)) args s 0 0 (xA X)) (F0 m 0 ls []) by
    subst hH
    subst hlo
    exact hgo hP hS
  clear hP hS
  intro hP hS
  refine lv_aload_n hx hb d_Ro_remove_0 rfl (lv_at hl 0 rfl) ?_
  refine lv_dup hx hb d_Ro_remove_1 rfl ?_
  refine x_getRo (v := .int (nI (S 38 0))) cf hK hP 2 (by decide) w_149 rfl d_Ro_remove_2 ?_
  refine lv_iconst (v := nI 1) hx hb d_Ro_remove_5 (by decide) ?_
  refine n_isub hx hb (by omega) d_Ro_remove_6 ?_
  refine x_putRo cf hK hD hP hS 2 (by decide) w_149 rfl (by decide +kernel) 0 rfl d_Ro_remove_7 (fun H locs hP hS => ?_)
  refine lv_aload_n hx hb d_Ro_remove_10 rfl (lv_at hl 0 rfl) ?_
  refine x_getRo (v := .ref (X.2.2.2 39)) cf hK hP 0 (by decide) w_145 rfl d_Ro_remove_11 ?_
  refine lv_iload_n hx hb d_Ro_remove_14 rfl (lv_at hl 1 rfl) ?_
  refine lv_iconst (v := nI 1) hx hb d_Ro_remove_15 (by decide) ?_
  refine n_iadd hx hb d_Ro_remove_16 ?_
  refine lv_aload_n hx hb d_Ro_remove_17 rfl (lv_at hl 0 rfl) ?_
  refine x_getRo (v := .ref (X.2.2.2 39)) cf hK hP 0 (by decide) w_145 rfl d_Ro_remove_18 ?_
  refine lv_iload_n hx hb d_Ro_remove_21 rfl (lv_at hl 1 rfl) ?_
  refine lv_aload_n hx hb d_Ro_remove_22 rfl (lv_at hl 0 rfl) ?_
  refine x_getRo (v := .int (nI ((S 38 0) - 1))) cf hK hP 2 (by decide) w_149 rfl d_Ro_remove_23 ?_
  refine lv_iload_n hx hb d_Ro_remove_26 rfl (lv_at hl 1 rfl) ?_
  refine n_isub hx hb (by omega) d_Ro_remove_27 ?_
  refine x_copy cf hK hD hP hS (ia39 X) (by omega) (by omega) hl.1 (Nat.le_of_ble_eq_true rfl) (Nat.le_of_ble_eq_true rfl) w_294 d_Ro_remove_28 (fun H locs hP hS => ?_)
  obtain ⟨T1, hT1⟩ : ∃ z, z = (va_up (up2 S 38 0 ((S 38 0) - 1)) 39 (va_cpy ((up2 S 38 0 ((S 38 0) - 1)) 39) ((up2 S 38 0 ((S 38 0) - 1)) 39) (i + 1) i (((S 38 0) - 1) - i))) := ⟨_, rfl⟩
  rw [← hT1] at hP
  have e38 : T1 38 0 = S 38 0 - 1 := by rw [hT1]; rfl
  refine lv_aload_n hx hb d_Ro_remove_31 rfl (lv_at hl 0 rfl) ?_
  refine x_getRo (v := .ref (X.2.2.2 40)) cf hK hP 1 (by decide) w_147 rfl d_Ro_remove_32 ?_
  refine lv_iload_n hx hb d_Ro_remove_35 rfl (lv_at hl 1 rfl) ?_
  refine lv_iconst (v := nI 1) hx hb d_Ro_remove_36 (by decide) ?_
  refine n_iadd hx hb d_Ro_remove_37 ?_
  refine lv_aload_n hx hb d_Ro_remove_38 rfl (lv_at hl 0 rfl) ?_
  refine x_getRo (v := .ref (X.2.2.2 40)) cf hK hP 1 (by decide) w_147 rfl d_Ro_remove_39 ?_
  refine lv_iload_n hx hb d_Ro_remove_42 rfl (lv_at hl 1 rfl) ?_
  refine lv_aload_n hx hb d_Ro_remove_43 rfl (lv_at hl 0 rfl) ?_
  refine x_getRo (v := .int (nI (T1 38 0))) cf hK hP 2 (by decide) w_149 rfl d_Ro_remove_44 ?_
  refine lv_iload_n hx hb d_Ro_remove_47 rfl (lv_at hl 1 rfl) ?_
  refine n_isub hx hb (by omega) d_Ro_remove_48 ?_
  refine x_copy cf hK hD hP hS (ia40 X) (by omega) (by omega) hl.1 (Nat.le_of_ble_eq_true rfl) (Nat.le_of_ble_eq_true rfl) w_294 d_Ro_remove_49 (fun H locs hP hS => ?_)
  exact x_vret cf hr hlk hP hS (by rw [e38, hT1]; rfl) d_Ro_remove_52
set_option maxRecDepth 100000 in
set_option maxHeartbeats 4000000 in
theorem k_Tr_add (l : Launch) {X : WX} (hX : xInj X) {S : Nat → Nat → Nat} {V : Nat} (hC : CI V X S) (ht0 : S 27 0 < 24) {a b c0 : Nat} : MetI l X y_Tr_add (Cond.code y_Tr_add c_Tr_add 4 (some .int) :: Mst) 0 [.ref (X.2.2.2 27), .int (nI a), .int (nI b), .int (nI c0)] S (nI (S 27 0)) (cTrAdd S a b c0) := by
  refine MetI.of (by decide) (Nat.le_of_ble_eq_true rfl) ?_
  intro p e s m args below meth c cf hr hlk hP hK hN ls hl
  have hl : lv_has ls 4 [(0, .ref (X.2.2.2 27)), (1, .int (nI a)), (2, .int (nI b)), (3, .int (nI c0))] := hl
  have hx := cf.1
  have hb := cf.2.1
  have hD := xD_of hX
  have hS : va_S (xA X) s.heap s.heap [] := va_S.rf
  have hnn := hC.nn
  have hV := hC.V
  have hcn := hC.n
  have htr := hC.tr
  have hblc := hC.bl
  have hro := hC.ro
  obtain ⟨H, hH⟩ : ∃ H, H = s.heap := ⟨_, rfl⟩
  obtain ⟨locs, hlo⟩ : ∃ z : List Loc, z = [] := ⟨_, rfl⟩
  suffices hgo : PW X S H → va_S (xA X) s.heap H locs → W p l e (rmd 0) s m args below meth c H locs 0 0 (MQ below (QcI X (nI (S 27 0)) (cTrAdd S a b c0)) args s 0 0 (xA X)) (F0 m 0 ls []) by
    subst hH
    subst hlo
    exact hgo hP hS
  clear hP hS
  intro hP hS
  refine lv_aload_n hx hb d_Tr_add_0 rfl (lv_at hl 0 rfl) ?_
  refine x_getTr (v := .ref (X.2.2.2 28)) cf hK hP 0 (by decide) w_84 rfl d_Tr_add_1 ?_
  refine lv_aload_n hx hb d_Tr_add_4 rfl (lv_at hl 0 rfl) ?_
  refine x_getTr (v := .int (nI (S 27 0))) cf hK hP 3 (by decide) w_90 rfl d_Tr_add_5 ?_
  refine lv_iload_n hx hb d_Tr_add_8 rfl (lv_at hl 1 rfl) ?_
  refine x_iast cf hK hD hP hS (ia28 X) (by omega) d_Tr_add_9 (fun H locs hP hS => ?_)
  refine lv_aload_n hx hb d_Tr_add_10 rfl (lv_at hl 0 rfl) ?_
  refine x_getTr (v := .ref (X.2.2.2 29)) cf hK hP 1 (by decide) w_86 rfl d_Tr_add_11 ?_
  refine lv_aload_n hx hb d_Tr_add_14 rfl (lv_at hl 0 rfl) ?_
  refine x_getTr (v := .int (nI (S 27 0))) cf hK hP 3 (by decide) w_90 rfl d_Tr_add_15 ?_
  refine lv_iload_n hx hb d_Tr_add_18 rfl (lv_at hl 2 rfl) ?_
  refine x_iast cf hK hD hP hS (ia29 X) (by omega) d_Tr_add_19 (fun H locs hP hS => ?_)
  refine lv_aload_n hx hb d_Tr_add_20 rfl (lv_at hl 0 rfl) ?_
  refine x_getTr (v := .ref (X.2.2.2 30)) cf hK hP 2 (by decide) w_88 rfl d_Tr_add_21 ?_
  refine lv_aload_n hx hb d_Tr_add_24 rfl (lv_at hl 0 rfl) ?_
  refine x_getTr (v := .int (nI (S 27 0))) cf hK hP 3 (by decide) w_90 rfl d_Tr_add_25 ?_
  refine lv_iload_n hx hb d_Tr_add_28 rfl (lv_at hl 3 rfl) ?_
  refine x_iast cf hK hD hP hS (ia30 X) (by omega) d_Tr_add_29 (fun H locs hP hS => ?_)
  refine lv_aload_n hx hb d_Tr_add_30 rfl (lv_at hl 0 rfl) ?_
  refine lv_dup hx hb d_Tr_add_31 rfl ?_
  refine x_getTr (v := .int (nI (S 27 0))) cf hK hP 3 (by decide) w_90 rfl d_Tr_add_32 ?_
  refine lv_iconst (v := nI 1) hx hb d_Tr_add_35 (by decide) ?_
  refine n_iadd hx hb d_Tr_add_36 ?_
  refine x_putTr cf hK hD hP hS 3 (by decide) w_90 rfl (by decide +kernel) 0 rfl d_Tr_add_37 (fun H locs hP hS => ?_)
  refine lv_aload_n hx hb d_Tr_add_40 rfl (lv_at hl 0 rfl) ?_
  refine x_getTr (v := .int (nI ((S 27 0) + 1))) cf hK hP 3 (by decide) w_90 rfl d_Tr_add_41 ?_
  refine lv_iconst (v := nI 1) hx hb d_Tr_add_44 (by decide) ?_
  refine n_isub hx hb (by omega) d_Tr_add_45 ?_
  exact x_iret cf hr hlk hP hS (by rw [Nat.add_sub_cancel]) (rfl) d_Tr_add_46
set_option maxRecDepth 100000 in
set_option maxHeartbeats 4000000 in
theorem k_Rp_enter (l : Launch) {X : WX} (hX : xInj X) {S : Nat → Nat → Nat} {V : Nat} (hC : CI V X S) {r : Nat} (hr0 : r < X.2.2.1) {v : Nat} : MetV l X y_Rp_enter (Cond.code y_Rp_enter c_Rp_enter 2 none :: Mst) 0 [.ref (X.2.2.2 (3 * r + 44)), .int (nI v)] S (cEnter S r v) := by
  refine MetV.of (by decide) (Nat.le_of_ble_eq_true rfl) ?_
  intro p e s m args below meth c cf hr hlk hP hK hN ls hl
  have hl : lv_has ls 2 [(0, .ref (X.2.2.2 (3 * r + 44))), (1, .int (nI v))] := hl
  have hx := cf.1
  have hb := cf.2.1
  have hD := xD_of hX
  have hS : va_S (xA X) s.heap s.heap [] := va_S.rf
  have hnn := hC.nn
  have hV := hC.V
  have hcn := hC.n
  have htr := hC.tr
  have hblc := hC.bl
  have hro := hC.ro
  obtain ⟨H, hH⟩ : ∃ H, H = s.heap := ⟨_, rfl⟩
  obtain ⟨locs, hlo⟩ : ∃ z : List Loc, z = [] := ⟨_, rfl⟩
  suffices hgo : PW X S H → va_S (xA X) s.heap H locs → W p l e (rmd 0) s m args below meth c H locs 0 0 (MQ below (QcV X (cEnter S r v)) args s 0 0 (xA X)) (F0 m 0 ls []) by
    subst hH
    subst hlo
    exact hgo hP hS
  clear hP hS
  intro hP hS
  refine lv_aload_n hx hb d_Rp_enter_0 rfl (lv_at hl 0 rfl) ?_
  refine lv_iload_n hx hb d_Rp_enter_1 rfl (lv_at hl 1 rfl) ?_
  refine x_putRp cf hK hD hP hS hr0 0 (by decide) w_35 rfl (by decide +kernel) 0 rfl d_Rp_enter_2 (fun H locs hP hS => ?_)
  refine lv_aload_n hx hb d_Rp_enter_5 rfl (lv_at hl 0 rfl) ?_
  refine lv_iconst (v := nI 0) hx hb d_Rp_enter_6 (by decide) ?_
  refine x_putRp cf hK hD hP hS hr0 1 (by decide) w_37 rfl (by decide +kernel) 1 rfl d_Rp_enter_7 (fun H locs hP hS => ?_)
  exact x_vret cf hr hlk hP hS (rfl) d_Rp_enter_10
set_option maxRecDepth 100000 in
set_option maxHeartbeats 4000000 in
theorem k_Rp_countFrom (l : Launch) {X : WX} (hX : xInj X) {S : Nat → Nat → Nat} {V : Nat} (hC : CI V X S) {r : Nat} (hr0 : r < X.2.2.1) {v : Nat} (hv0 : v < 2147483648) : MetI l X y_Rp_countFrom (Cond.code y_Rp_countFrom c_Rp_countFrom 4 (some .int) :: Mst) 0 [.ref (X.2.2.2 (3 * r + 44)), .int (nI v)] S (nI (cCnt S X.2.2.1 r v)) S := by
  refine MetI.of (by decide) (Nat.le_of_ble_eq_true rfl) ?_
  intro p e s m args below meth c cf hr hlk hP hK hN ls hl
  have hl : lv_has ls 4 [(0, .ref (X.2.2.2 (3 * r + 44))), (1, .int (nI v))] := hl
  have hx := cf.1
  have hb := cf.2.1
  have hD := xD_of hX
  have hS : va_S (xA X) s.heap s.heap [] := va_S.rf
  have hnn := hC.nn
  have hV := hC.V
  have hcn := hC.n
  have htr := hC.tr
  have hblc := hC.bl
  have hro := hC.ro
  obtain ⟨H, hH⟩ : ∃ H, H = s.heap := ⟨_, rfl⟩
  obtain ⟨locs, hlo⟩ : ∃ z : List Loc, z = [] := ⟨_, rfl⟩
  suffices hgo : PW X S H → va_S (xA X) s.heap H locs → W p l e (rmd 0) s m args below meth c H locs 0 0 (MQ below (QcI X (nI (cCnt S X.2.2.1 r v)) S) args s 0 0 (xA X)) (F0 m 0 ls []) by
    subst hH
    subst hlo
    exact hgo hP hS
  clear hP hS
  intro hP hS
  refine lv_iconst (v := nI 0) hx hb d_Rp_countFrom_0 (by decide) ?_
  refine lv_istore_n (lv' := [(2, .int (nI 0)), (0, .ref (X.2.2.2 (3 * r + 44))), (1, .int (nI v))]) hx hb d_Rp_countFrom_1 rfl hl (by decide) rfl (fun ls hl => ?_)
  refine lv_iconst (v := nI 0) hx hb d_Rp_countFrom_2 (by decide) ?_
  refine lv_istore_n (lv' := [(3, .int (nI 0)), (2, .int (nI 0)), (0, .ref (X.2.2.2 (3 * r + 44))), (1, .int (nI v))]) hx hb d_Rp_countFrom_3 rfl hl (by decide) rfl (fun ls hl => ?_)
  have lp4 : ∀ (dm : Nat) (many : Nat) (q : Nat) (ls : Array Slot) (H : Heap) (locs : List Loc), lv_has ls 4 [(0, .ref (X.2.2.2 (3 * r + 44))), (1, .int (nI v)), (2, .int (nI many)), (3, .int (nI q))] → PW X S H → va_S (xA X) s.heap H locs → (q ≤ X.2.2.1) → (many = itr (cCntF S r v) 0 0 q) → (X.2.2.1 - q = dm) → W p l e (rmd 0) s m args below meth c H locs 0 0 (MQ below (QcI X (nI (cCnt S X.2.2.1 r v)) S) args s 0 0 (xA X)) (F0 m 4 ls []) := by
    intro dm
    induction dm using Nat.strongRecOn with | ind dm lp4 => ?_
    intro many q ls H locs hl hP hS hq hz hdm
    refine lv_iload_n hx hb d_Rp_countFrom_4 rfl (lv_at hl 3 rfl) ?_
    refine lv_aload_n hx hb d_Rp_countFrom_5 rfl (lv_at hl 0 rfl) ?_
    refine x_getRp (v := .ref (X.2.2.2 (3 * r + 46))) cf hK hP hr0 10 (by decide) w_52 rfl d_Rp_countFrom_6 ?_
    refine x_alenV cf hK hP hX.1 hr0 d_Rp_countFrom_9 ?_
    refine n_icmp_ge (tgt := 32) hx hb d_Rp_countFrom_10 (by decide) (by omega) (by omega) (fun h1 => ?_) (fun h1 => ?_)
    · skip
      refine lv_iload_n hx hb d_Rp_countFrom_32 rfl (lv_at hl 2 rfl) ?_
      exact x_iret cf hr hlk hP hS (by rw [hz, show q = X.2.2.1 by omega]; rfl) (rfl) d_Rp_countFrom_33
    · skip
      refine lv_aload_n hx hb d_Rp_countFrom_13 rfl (lv_at hl 0 rfl) ?_
      refine x_getRp (v := .ref (X.2.2.2 (3 * r + 46))) cf hK hP hr0 10 (by decide) w_52 rfl d_Rp_countFrom_14 ?_
      refine lv_iload_n hx hb d_Rp_countFrom_17 rfl (lv_at hl 3 rfl) ?_
      refine x_iald (v := (S (3 * r + 46) q)) cf hK hP (iaV hX.1 hr0) (by omega) rfl d_Rp_countFrom_18 ?_
      refine lv_iload_n hx hb d_Rp_countFrom_19 rfl (lv_at hl 1 rfl) ?_
      refine n_icmp_lt (tgt := 26) hx hb d_Rp_countFrom_20 (by decide) (by have := (hC.rn r q); omega) (by omega) (fun h2 => ?_) (fun h2 => ?_)
      · skip
        refine n_iinc1 (lv' := [(3, .int (nI (q + 1))), (0, .ref (X.2.2.2 (3 * r + 44))), (1, .int (nI v)), (2, .int (nI many))]) (k := 3) hx hb d_Rp_countFrom_26 hl rfl (by decide) rfl (fun ls hl => ?_)
        refine lv_goto (tgt := 4) hx hb d_Rp_countFrom_29 (by decide) ?_
        exact lp4 _ (by omega) many (q + 1) ls H locs (lv_sub hl [1, 2, 3, 0] rfl) hP hS (by omega) (by rw [itr_z, ← hz]; unfold cCntF; first | rw [if_pos (by omega)] | rw [if_neg (by omega)]) rfl
      · skip
        refine n_iinc1 (lv' := [(2, .int (nI (many + 1))), (0, .ref (X.2.2.2 (3 * r + 44))), (1, .int (nI v)), (3, .int (nI q))]) (k := 2) hx hb d_Rp_countFrom_23 hl rfl (by decide) rfl (fun ls hl => ?_)
        refine n_iinc1 (lv' := [(3, .int (nI (q + 1))), (2, .int (nI (many + 1))), (0, .ref (X.2.2.2 (3 * r + 44))), (1, .int (nI v))]) (k := 3) hx hb d_Rp_countFrom_26 hl rfl (by decide) rfl (fun ls hl => ?_)
        refine lv_goto (tgt := 4) hx hb d_Rp_countFrom_29 (by decide) ?_
        exact lp4 _ (by omega) (many + 1) (q + 1) ls H locs (lv_sub hl [2, 3, 1, 0] rfl) hP hS (by omega) (by rw [itr_z, ← hz]; unfold cCntF; first | rw [if_pos (by omega)] | rw [if_neg (by omega)]) rfl
  exact lp4 _ 0 0 ls H locs (lv_sub hl [2, 3, 1, 0] rfl) hP hS (by omega) (rfl) rfl
set_option maxRecDepth 100000 in
set_option maxHeartbeats 4000000 in
theorem k_Rp_push (l : Launch) {X : WX} (hX : xInj X) {S : Nat → Nat → Nat} {V : Nat} (hC : CI V X S) {r : Nat} (hr0 : r < X.2.2.1) {quo : Nat} (hq0 : quo ≤ 7) : MetI l X y_Rp_push (Cond.code y_Rp_push c_Rp_push 4 (some .int) :: Mst) 1 [.ref (X.2.2.2 (3 * r + 44)), .int (nI quo)] S (nI (cPush S X.2.2.1 r quo)) S := by
  refine MetI.of (by decide) (Nat.le_of_ble_eq_true rfl) ?_
  intro p e s m args below meth c cf hr hlk hP hK hN ls hl
  have hl : lv_has ls 4 [(0, .ref (X.2.2.2 (3 * r + 44))), (1, .int (nI quo))] := hl
  have hx := cf.1
  have hb := cf.2.1
  have hD := xD_of hX
  have hS : va_S (xA X) s.heap s.heap [] := va_S.rf
  have hnn := hC.nn
  have hV := hC.V
  have hcn := hC.n
  have htr := hC.tr
  have hblc := hC.bl
  have hro := hC.ro
  obtain ⟨H, hH⟩ : ∃ H, H = s.heap := ⟨_, rfl⟩
  obtain ⟨locs, hlo⟩ : ∃ z : List Loc, z = [] := ⟨_, rfl⟩
  suffices hgo : PW X S H → va_S (xA X) s.heap H locs → W p l e (rmd 1) s m args below meth c H locs 0 0 (MQ below (QcI X (nI (cPush S X.2.2.1 r quo)) S) args s 0 0 (xA X)) (F0 m 0 ls []) by
    subst hH
    subst hlo
    exact hgo hP hS
  clear hP hS
  intro hP hS
  refine lv_iconst (v := nI 0) hx hb d_Rp_push_0 (by decide) ?_
  refine lv_istore_n (lv' := [(2, .int (nI 0)), (0, .ref (X.2.2.2 (3 * r + 44))), (1, .int (nI quo))]) hx hb d_Rp_push_1 rfl hl (by decide) rfl (fun ls hl => ?_)
  refine lv_iconst (v := nI 0) hx hb d_Rp_push_2 (by decide) ?_
  refine lv_istore_n (lv' := [(3, .int (nI 0)), (2, .int (nI 0)), (0, .ref (X.2.2.2 (3 * r + 44))), (1, .int (nI quo))]) hx hb d_Rp_push_3 rfl hl (by decide) rfl (fun ls hl => ?_)
  have lp4 : ∀ (dm : Nat) (best : Nat) (i : Nat) (ls : Array Slot) (H : Heap) (locs : List Loc), lv_has ls 4 [(0, .ref (X.2.2.2 (3 * r + 44))), (1, .int (nI quo)), (2, .int (nI best)), (3, .int (nI i))] → PW X S H → va_S (xA X) s.heap H locs → (i ≤ X.2.2.1) → (best < 2147483648) → (best = itr (cPushF S X.2.2.1 r quo) 0 0 i) → (X.2.2.1 - i = dm) → W p l e (rmd 1) s m args below meth c H locs 0 0 (MQ below (QcI X (nI (cPush S X.2.2.1 r quo)) S) args s 0 0 (xA X)) (F0 m 4 ls []) := by
    intro dm
    induction dm using Nat.strongRecOn with | ind dm lp4 => ?_
    intro best i ls H locs hl hP hS hi hbe hz hdm
    refine lv_iload_n hx hb d_Rp_push_4 rfl (lv_at hl 3 rfl) ?_
    refine lv_aload_n hx hb d_Rp_push_5 rfl (lv_at hl 0 rfl) ?_
    refine x_getRp (v := .ref (X.2.2.2 (3 * r + 46))) cf hK hP hr0 10 (by decide) w_52 rfl d_Rp_push_6 ?_
    refine x_alenV cf hK hP hX.1 hr0 d_Rp_push_9 ?_
    refine n_icmp_ge (tgt := 50) hx hb d_Rp_push_10 (by decide) (by omega) (by omega) (fun h1 => ?_) (fun h1 => ?_)
    · skip
      refine lv_iload_n hx hb d_Rp_push_50 rfl (lv_at hl 2 rfl) ?_
      exact x_iret cf hr hlk hP hS (by rw [hz, show i = X.2.2.1 by omega]; rfl) (rfl) d_Rp_push_51
    · skip
      refine lv_aload_n hx hb d_Rp_push_13 rfl (lv_at hl 0 rfl) ?_
      refine x_getRp (v := .ref (X.2.2.2 (3 * r + 46))) cf hK hP hr0 10 (by decide) w_52 rfl d_Rp_push_14 ?_
      refine lv_iload_n hx hb d_Rp_push_17 rfl (lv_at hl 3 rfl) ?_
      refine x_iald (v := (S (3 * r + 46) i)) cf hK hP (iaV hX.1 hr0) (by omega) rfl d_Rp_push_18 ?_
      refine lv_iload_n hx hb d_Rp_push_19 rfl (lv_at hl 2 rfl) ?_
      refine n_icmp_le (tgt := 44) hx hb d_Rp_push_20 (by decide) (by have := (hC.rn r i); omega) (by omega) (fun h2 => ?_) (fun h2 => ?_)
      · skip
        refine n_iinc1 (lv' := [(3, .int (nI (i + 1))), (0, .ref (X.2.2.2 (3 * r + 44))), (1, .int (nI quo)), (2, .int (nI best))]) (k := 3) hx hb d_Rp_push_44 hl rfl (by decide) rfl (fun ls hl => ?_)
        refine lv_goto (tgt := 4) hx hb d_Rp_push_47 (by decide) ?_
        exact lp4 _ (by omega) best (i + 1) ls H locs (lv_sub hl [1, 2, 3, 0] rfl) hP hS (by omega) (by have := hC.rn r i; omega) (by rw [itr_z, ← hz]; unfold cPushF; first | rw [if_pos (by omega)] | rw [if_neg (by omega)]) rfl
      · skip
        refine lv_aload_n hx hb d_Rp_push_23 rfl (lv_at hl 0 rfl) ?_
        refine lv_aload_n hx hb d_Rp_push_24 rfl (lv_at hl 0 rfl) ?_
        refine x_getRp (v := .ref (X.2.2.2 (3 * r + 46))) cf hK hP hr0 10 (by decide) w_52 rfl d_Rp_push_25 ?_
        refine lv_iload_n hx hb d_Rp_push_28 rfl (lv_at hl 3 rfl) ?_
        refine x_iald (v := (S (3 * r + 46) i)) cf hK hP (iaV hX.1 hr0) (by omega) rfl d_Rp_push_29 ?_
        refine x_callVi (As := [.int (nI (S (3 * r + 46) i))]) (rest := []) cf hK hN hP hS (k_Rp_countFrom l hX hC hr0 (by have := (hC.rn r i); omega)) (cw_Rp_countFrom cf.2.2.2.2 w_250 ⟨Nat.le_of_ble_eq_true rfl, Nat.le_of_ble_eq_true rfl⟩) (rv_Rp hK hP hr0) hl.1 rfl rfl (Nat.le_of_ble_eq_true rfl) ⟨Nat.zero_le _, Nat.zero_le _⟩ d_Rp_push_30 (fun H locs hP hS => ?_)
        have hcl : cCnt S X.2.2.1 r (S (3 * r + 46) i) ≤ X.2.2.1 := cCnt_le _
        refine lv_iload_n hx hb d_Rp_push_33 rfl (lv_at hl 1 rfl) ?_
        refine n_icmp_lt (tgt := 44) hx hb d_Rp_push_34 (by decide) (by omega) (by omega) (fun h3 => ?_) (fun h3 => ?_)
        · skip
          refine n_iinc1 (lv' := [(3, .int (nI (i + 1))), (0, .ref (X.2.2.2 (3 * r + 44))), (1, .int (nI quo)), (2, .int (nI best))]) (k := 3) hx hb d_Rp_push_44 hl rfl (by decide) rfl (fun ls hl => ?_)
          refine lv_goto (tgt := 4) hx hb d_Rp_push_47 (by decide) ?_
          exact lp4 _ (by omega) best (i + 1) ls H locs (lv_sub hl [1, 2, 3, 0] rfl) hP hS (by omega) (by have := hC.rn r i; omega) (by rw [itr_z, ← hz]; unfold cPushF; first | rw [if_pos (by omega)] | rw [if_neg (by omega)]) rfl
        · skip
          refine lv_aload_n hx hb d_Rp_push_37 rfl (lv_at hl 0 rfl) ?_
          refine x_getRp (v := .ref (X.2.2.2 (3 * r + 46))) cf hK hP hr0 10 (by decide) w_52 rfl d_Rp_push_38 ?_
          refine lv_iload_n hx hb d_Rp_push_41 rfl (lv_at hl 3 rfl) ?_
          refine x_iald (v := (S (3 * r + 46) i)) cf hK hP (iaV hX.1 hr0) (by omega) rfl d_Rp_push_42 ?_
          refine lv_istore_n (lv' := [(2, .int (nI (S (3 * r + 46) i))), (0, .ref (X.2.2.2 (3 * r + 44))), (1, .int (nI quo)), (3, .int (nI i))]) hx hb d_Rp_push_43 rfl hl (by decide) rfl (fun ls hl => ?_)
          refine n_iinc1 (lv' := [(3, .int (nI (i + 1))), (2, .int (nI (S (3 * r + 46) i))), (0, .ref (X.2.2.2 (3 * r + 44))), (1, .int (nI quo))]) (k := 3) hx hb d_Rp_push_44 hl rfl (by decide) rfl (fun ls hl => ?_)
          refine lv_goto (tgt := 4) hx hb d_Rp_push_47 (by decide) ?_
          exact lp4 _ (by omega) (S (3 * r + 46) i) (i + 1) ls H locs (lv_sub hl [2, 3, 1, 0] rfl) hP hS (by omega) (by have := hC.rn r i; omega) (by rw [itr_z, ← hz]; unfold cPushF; first | rw [if_pos (by omega)] | rw [if_neg (by omega)]) rfl
  exact lp4 _ 0 0 ls H locs (lv_sub hl [2, 3, 1, 0] rfl) hP hS (by omega) (by omega) (rfl) rfl
set_option maxRecDepth 100000 in
set_option maxHeartbeats 4000000 in
theorem k_T_hasMember (l : Launch) {X : WX} (hX : xInj X) {S : Nat → Nat → Nat} {a i : Nat} (ha0 : a < 2147483648) (hi0 : i < 32) : MetI l X y_T_hasMember (Cond.code y_T_hasMember c_T_hasMember 2 (some .boolean) :: Mst) 0 [.int (nI a), .int (nI i)] S (nI (decide (a / 2 ^ i % 2 = 1)).toNat) S := by
  refine MetI.of (by decide) (Nat.le_of_ble_eq_true rfl) ?_
  intro p e s m args below meth c cf hr hlk hP hK hN ls hl
  have hl : lv_has ls 2 [(0, .int (nI a)), (1, .int (nI i))] := hl
  have hx := cf.1
  have hb := cf.2.1
  have hD := xD_of hX
  have hS : va_S (xA X) s.heap s.heap [] := va_S.rf
  obtain ⟨H, hH⟩ : ∃ H, H = s.heap := ⟨_, rfl⟩
  obtain ⟨locs, hlo⟩ : ∃ z : List Loc, z = [] := ⟨_, rfl⟩
  suffices hgo : PW X S H → va_S (xA X) s.heap H locs → W p l e (rmd 0) s m args below meth c H locs 0 0 (MQ below (QcI X (nI (decide (a / 2 ^ i % 2 = 1)).toNat) S) args s 0 0 (xA X)) (F0 m 0 ls []) by
    subst hH
    subst hlo
    exact hgo hP hS
  clear hP hS
  intro hP hS
  refine lv_iload_n hx hb d_T_hasMember_0 rfl (lv_at hl 0 rfl) ?_
  refine lv_iload_n hx hb d_T_hasMember_1 rfl (lv_at hl 1 rfl) ?_
  refine n_iushr hx hb (by omega) (by omega) d_T_hasMember_2 ?_
  refine lv_iconst (v := nI 1) hx hb d_T_hasMember_3 (by decide) ?_
  refine n_and1 hx hb d_T_hasMember_4 ?_
  have h01 := bt01 a i
  refine n_if_eq (tgt := 12) hx hb d_T_hasMember_5 (by decide) (by have := Nat.div_le_self a (2 ^ i); omega) (fun h1 => ?_) (fun h1 => ?_)
  · skip
    refine lv_iconst (v := nI 0) hx hb d_T_hasMember_12 (by decide) ?_
    exact x_zret cf hr hlk hP hS (by rw [decide_eq_false (by omega)]; rfl) (rfl) d_T_hasMember_13
  · skip
    refine lv_iconst (v := nI 1) hx hb d_T_hasMember_8 (by decide) ?_
    refine lv_goto (tgt := 13) hx hb d_T_hasMember_9 (by decide) ?_
    exact x_zret cf hr hlk hP hS (by rw [decide_eq_true (by omega)]; rfl) (rfl) d_T_hasMember_13
set_option maxRecDepth 100000 in
set_option maxHeartbeats 4000000 in
theorem k_T_isAccount (l : Launch) {X : WX} (hX : xInj X) {S : Nat → Nat → Nat} (a : Int32) : MetI l X y_T_isAccount (Cond.code y_T_isAccount c_T_isAccount 1 (some .boolean) :: Mst) 0 [.int a] S (nI (decide (0 ≤ a.toInt ∧ a.toInt < 4)).toNat) S := by
  refine MetI.of (by decide) (Nat.le_of_ble_eq_true rfl) ?_
  intro p e s m args below meth c cf hr hlk hP hK hN ls hl
  have hl : lv_has ls 1 [(0, .int a)] := hl
  have hx := cf.1
  have hb := cf.2.1
  have hD := xD_of hX
  have hS : va_S (xA X) s.heap s.heap [] := va_S.rf
  obtain ⟨H, hH⟩ : ∃ H, H = s.heap := ⟨_, rfl⟩
  obtain ⟨locs, hlo⟩ : ∃ z : List Loc, z = [] := ⟨_, rfl⟩
  suffices hgo : PW X S H → va_S (xA X) s.heap H locs → W p l e (rmd 0) s m args below meth c H locs 0 0 (MQ below (QcI X (nI (decide (0 ≤ a.toInt ∧ a.toInt < 4)).toNat) S) args s 0 0 (xA X)) (F0 m 0 ls []) by
    subst hH
    subst hlo
    exact hgo hP hS
  clear hP hS
  intro hP hS
  refine lv_iload_n hx hb d_T_isAccount_0 rfl (lv_at hl 0 rfl) ?_
  refine lv_if_lt (tgt := 13) hx hb d_T_isAccount_1 (by decide) (fun h1 => ?_) (fun h1 => ?_)
  · skip
    have uh1 := i_lt0 h1
    refine lv_iconst (v := nI 0) hx hb d_T_isAccount_13 (by decide) ?_
    exact x_zret cf hr hlk hP hS (by rw [decide_eq_false (by omega)]; rfl) (rfl) d_T_isAccount_14
  · skip
    have uh1 := i_nlt0 h1
    refine lv_iload_n hx hb d_T_isAccount_4 rfl (lv_at hl 0 rfl) ?_
    refine lv_iconst (v := nI 4) hx hb d_T_isAccount_5 (by decide) ?_
    refine lv_icmp_ge (tgt := 13) hx hb d_T_isAccount_6 (by decide) (fun h2 => ?_) (fun h2 => ?_)
    · skip
      have uh2 := i_geN (by decide) h2
      refine lv_iconst (v := nI 0) hx hb d_T_isAccount_13 (by decide) ?_
      exact x_zret cf hr hlk hP hS (by rw [decide_eq_false (by omega)]; rfl) (rfl) d_T_isAccount_14
    · skip
      have uh2 := i_ngeN (by decide) h2
      refine lv_iconst (v := nI 1) hx hb d_T_isAccount_9 (by decide) ?_
      refine lv_goto (tgt := 14) hx hb d_T_isAccount_10 (by decide) ?_
      exact x_zret cf hr hlk hP hS (by rw [decide_eq_true (by omega)]; rfl) (rfl) d_T_isAccount_14
set_option maxRecDepth 100000 in
set_option maxHeartbeats 4000000 in
theorem k_T_leastMembers (l : Launch) {X : WX} (hX : xInj X) {S : Nat → Nat → Nat} {a most : Nat} (ha0 : a < 2147483648) (hm0 : most ≤ 7) : MetI l X y_T_leastMembers (Cond.code y_T_leastMembers c_T_leastMembers 4 (some .int) :: Mst) 0 [.int (nI a), .int (nI most)] S (nI (cLeast a most)) S := by
  refine MetI.of (by decide) (Nat.le_of_ble_eq_true rfl) ?_
  intro p e s m args below meth c cf hr hlk hP hK hN ls hl
  have hl : lv_has ls 4 [(0, .int (nI a)), (1, .int (nI most))] := hl
  have hx := cf.1
  have hb := cf.2.1
  have hD := xD_of hX
  have hS : va_S (xA X) s.heap s.heap [] := va_S.rf
  obtain ⟨H, hH⟩ : ∃ H, H = s.heap := ⟨_, rfl⟩
  obtain ⟨locs, hlo⟩ : ∃ z : List Loc, z = [] := ⟨_, rfl⟩
  suffices hgo : PW X S H → va_S (xA X) s.heap H locs → W p l e (rmd 0) s m args below meth c H locs 0 0 (MQ below (QcI X (nI (cLeast a most)) S) args s 0 0 (xA X)) (F0 m 0 ls []) by
    subst hH
    subst hlo
    exact hgo hP hS
  clear hP hS
  intro hP hS
  refine lv_iload_n hx hb d_T_leastMembers_0 rfl (lv_at hl 0 rfl) ?_
  refine lv_istore_n (lv' := [(2, .int (nI a)), (0, .int (nI a)), (1, .int (nI most))]) hx hb d_T_leastMembers_1 rfl hl (by decide) rfl (fun ls hl => ?_)
  refine lv_iconst (v := nI 0) hx hb d_T_leastMembers_2 (by decide) ?_
  refine lv_istore_n (lv' := [(3, .int (nI 0)), (2, .int (nI a)), (0, .int (nI a)), (1, .int (nI most))]) hx hb d_T_leastMembers_3 rfl hl (by decide) rfl (fun ls hl => ?_)
  have lp4 : ∀ (dm : Nat) (rest0 : Nat) (i : Nat) (ls : Array Slot) (H : Heap) (locs : List Loc), lv_has ls 4 [(0, .int (nI a)), (1, .int (nI most)), (2, .int (nI rest0)), (3, .int (nI i))] → PW X S H → va_S (xA X) s.heap H locs → (i ≤ most) → (rest0 = cRest a i) → (most - i = dm) → W p l e (rmd 0) s m args below meth c H locs 0 0 (MQ below (QcI X (nI (cLeast a most)) S) args s 0 0 (xA X)) (F0 m 4 ls []) := by
    intro dm
    induction dm using Nat.strongRecOn with | ind dm lp4 => ?_
    intro rest0 i ls H locs hl hP hS hi hz hdm
    refine lv_iload_n hx hb d_T_leastMembers_4 rfl (lv_at hl 3 rfl) ?_
    refine lv_iload_n hx hb d_T_leastMembers_5 rfl (lv_at hl 1 rfl) ?_
    refine n_icmp_ge (tgt := 21) hx hb d_T_leastMembers_6 (by decide) (by omega) (by omega) (fun h1 => ?_) (fun h1 => ?_)
    · skip
      refine lv_iload_n hx hb d_T_leastMembers_21 rfl (lv_at hl 0 rfl) ?_
      refine lv_iload_n hx hb d_T_leastMembers_22 rfl (lv_at hl 2 rfl) ?_
      refine lv_iconst (v := (-1)) hx hb d_T_leastMembers_23 (by decide) ?_
      refine lv_ixor hx hb d_T_leastMembers_24 ?_
      refine lv_iand hx hb d_T_leastMembers_25 ?_
      rw [show ((nI a) &&& ((nI rest0) ^^^ (-1))) = nI (a &&& (rest0 ^^^ 4294967295)) from mask_eq a rest0]
      exact x_iret cf hr hlk hP hS (by unfold cLeast; rw [hz, show i = most by omega]) (rfl) d_T_leastMembers_26
    · skip
      refine lv_iload_n hx hb d_T_leastMembers_9 rfl (lv_at hl 2 rfl) ?_
      refine lv_iload_n hx hb d_T_leastMembers_10 rfl (lv_at hl 2 rfl) ?_
      refine lv_iconst (v := nI 1) hx hb d_T_leastMembers_11 (by decide) ?_
      refine lv_isub hx hb d_T_leastMembers_12 ?_
      refine lv_iand hx hb d_T_leastMembers_13 ?_
      rw [show ((nI rest0) &&& ((nI rest0) - (nI 1))) = nI (rest0 &&& (rest0 - 1)) from low_and rest0]
      refine lv_istore_n (lv' := [(2, .int (nI (rest0 &&& (rest0 - 1)))), (0, .int (nI a)), (1, .int (nI most)), (3, .int (nI i))]) hx hb d_T_leastMembers_14 rfl hl (by decide) rfl (fun ls hl => ?_)
      refine n_iinc1 (lv' := [(3, .int (nI (i + 1))), (2, .int (nI (rest0 &&& (rest0 - 1)))), (0, .int (nI a)), (1, .int (nI most))]) (k := 3) hx hb d_T_leastMembers_15 hl rfl (by decide) rfl (fun ls hl => ?_)
      refine lv_goto (tgt := 4) hx hb d_T_leastMembers_18 (by decide) ?_
      exact lp4 _ (by omega) (rest0 &&& (rest0 - 1)) (i + 1) ls H locs (lv_sub hl [2, 3, 1, 0] rfl) hP hS (by omega) (by rw [hz]; rfl) rfl
  exact lp4 _ a 0 ls H locs (lv_sub hl [2, 3, 1, 0] rfl) hP hS (by omega) (rfl) rfl
set_option maxRecDepth 100000 in
set_option maxHeartbeats 4000000 in
theorem k_JM_floorMod (l : Launch) {X : WX} (hX : xInj X) {S : Nat → Nat → Nat} {x y : Nat} (hx0 : x < 2147483648) (hy0 : 0 < y ∧ y < 2147483648) : MetI l X y_JM_floorMod (Cond.code y_JM_floorMod c_JM_floorMod 3 (some .int) :: Mst) 0 [.int (nI x), .int (nI y)] S (nI (x % y)) S := by
  refine MetI.ofF (by decide +kernel) (Nat.le_of_ble_eq_true rfl) ?_
  intro p e s m args below meth c cf hr hlk hP hK hN ls hl
  have hl : lv_has ls 3 [(0, .int (nI x)), (1, .int (nI y))] := hl
  have hx := cf.1
  have hb := cf.2.1
  have hD := xD_of hX
  have hS : va_S (xA X) s.heap s.heap [] := va_S.rf
  obtain ⟨H, hH⟩ : ∃ H, H = s.heap := ⟨_, rfl⟩
  obtain ⟨locs, hlo⟩ : ∃ z : List Loc, z = [] := ⟨_, rfl⟩
  suffices hgo : PW X S H → va_S (xA X) s.heap H locs → W p l e (rmd 0) s m args below meth c H locs 0 0 (MQ below (QcI X (nI (x % y)) S) args s 0 0 (xA X)) (F0 m 0 ls []) by
    subst hH
    subst hlo
    exact hgo hP hS
  clear hP hS
  intro hP hS
  refine lv_iload_n hx hb d_JM_floorMod_0 rfl (lv_at hl 0 rfl) ?_
  refine lv_iload_n hx hb d_JM_floorMod_1 rfl (lv_at hl 1 rfl) ?_
  refine n_irem hx hb (by omega) (by omega) (by omega) d_JM_floorMod_2 ?_
  refine lv_istore_n (lv' := [(2, .int (nI (x % y))), (0, .int (nI x)), (1, .int (nI y))]) hx hb d_JM_floorMod_3 rfl hl (by decide) rfl (fun ls hl => ?_)
  refine lv_iload_n hx hb d_JM_floorMod_4 rfl (lv_at hl 1 rfl) ?_
  refine lv_iload_n hx hb d_JM_floorMod_5 rfl (lv_at hl 2 rfl) ?_
  refine lv_ixor hx hb d_JM_floorMod_6 ?_
  rw [show ((nI x) ^^^ (nI y)) = nI (x ^^^ y) from nI_xor x y]
  have hxo : x ^^^ y < 2147483648 := Nat.xor_lt_two_pow (n := 31) hx0 hy0.2
  refine n_if_ge (tgt := 18) hx hb d_JM_floorMod_7 (by decide) (by omega) ?_
  refine lv_iload_n hx hb d_JM_floorMod_18 rfl (lv_at hl 0 rfl) ?_
  exact x_iret cf hr hlk hP hS (rfl) (rfl) d_JM_floorMod_19
set_option maxRecDepth 100000 in
set_option maxHeartbeats 4000000 in
theorem k_JM_max (l : Launch) {X : WX} (hX : xInj X) {S : Nat → Nat → Nat} (x y : Int32) : MetI l X y_JM_max (Cond.code y_JM_max c_JM_max 2 (some .int) :: Mst) 0 [.int x, .int y] S (if x < y then y else x) S := by
  refine MetI.ofF (by decide +kernel) (Nat.le_of_ble_eq_true rfl) ?_
  intro p e s m args below meth c cf hr hlk hP hK hN ls hl
  have hl : lv_has ls 2 [(0, .int x), (1, .int y)] := hl
  have hx := cf.1
  have hb := cf.2.1
  have hD := xD_of hX
  have hS : va_S (xA X) s.heap s.heap [] := va_S.rf
  obtain ⟨H, hH⟩ : ∃ H, H = s.heap := ⟨_, rfl⟩
  obtain ⟨locs, hlo⟩ : ∃ z : List Loc, z = [] := ⟨_, rfl⟩
  suffices hgo : PW X S H → va_S (xA X) s.heap H locs → W p l e (rmd 0) s m args below meth c H locs 0 0 (MQ below (QcI X (if x < y then y else x) S) args s 0 0 (xA X)) (F0 m 0 ls []) by
    subst hH
    subst hlo
    exact hgo hP hS
  clear hP hS
  intro hP hS
  refine lv_iload_n hx hb d_JM_max_0 rfl (lv_at hl 0 rfl) ?_
  refine lv_iload_n hx hb d_JM_max_1 rfl (lv_at hl 1 rfl) ?_
  refine lv_icmp_lt (tgt := 9) hx hb d_JM_max_2 (by decide) (fun h1 => ?_) (fun h1 => ?_)
  · skip
    refine lv_iload_n hx hb d_JM_max_9 rfl (lv_at hl 1 rfl) ?_
    exact x_iret cf hr hlk hP hS (by rw [if_pos (by assumption)]) (rfl) d_JM_max_10
  · skip
    refine lv_iload_n hx hb d_JM_max_5 rfl (lv_at hl 0 rfl) ?_
    refine lv_goto (tgt := 10) hx hb d_JM_max_6 (by decide) ?_
    exact x_iret cf hr hlk hP hS (by rw [if_neg (by assumption)]) (rfl) d_JM_max_10
set_option maxRecDepth 100000 in
set_option maxHeartbeats 4000000 in
theorem k_JM_min (l : Launch) {X : WX} (hX : xInj X) {S : Nat → Nat → Nat} (x y : Int32) : MetI l X y_JM_min (Cond.code y_JM_min c_JM_min 2 (some .int) :: Mst) 0 [.int x, .int y] S (if y < x then y else x) S := by
  refine MetI.ofF (by decide +kernel) (Nat.le_of_ble_eq_true rfl) ?_
  intro p e s m args below meth c cf hr hlk hP hK hN ls hl
  have hl : lv_has ls 2 [(0, .int x), (1, .int y)] := hl
  have hx := cf.1
  have hb := cf.2.1
  have hD := xD_of hX
  have hS : va_S (xA X) s.heap s.heap [] := va_S.rf
  obtain ⟨H, hH⟩ : ∃ H, H = s.heap := ⟨_, rfl⟩
  obtain ⟨locs, hlo⟩ : ∃ z : List Loc, z = [] := ⟨_, rfl⟩
  suffices hgo : PW X S H → va_S (xA X) s.heap H locs → W p l e (rmd 0) s m args below meth c H locs 0 0 (MQ below (QcI X (if y < x then y else x) S) args s 0 0 (xA X)) (F0 m 0 ls []) by
    subst hH
    subst hlo
    exact hgo hP hS
  clear hP hS
  intro hP hS
  refine lv_iload_n hx hb d_JM_min_0 rfl (lv_at hl 0 rfl) ?_
  refine lv_iload_n hx hb d_JM_min_1 rfl (lv_at hl 1 rfl) ?_
  refine lv_icmp_gt (tgt := 9) hx hb d_JM_min_2 (by decide) (fun h1 => ?_) (fun h1 => ?_)
  · skip
    refine lv_iload_n hx hb d_JM_min_9 rfl (lv_at hl 1 rfl) ?_
    exact x_iret cf hr hlk hP hS (by rw [if_pos (by assumption)]) (rfl) d_JM_min_10
  · skip
    refine lv_iload_n hx hb d_JM_min_5 rfl (lv_at hl 0 rfl) ?_
    refine lv_goto (tgt := 10) hx hb d_JM_min_6 (by decide) ?_
    exact x_iret cf hr hlk hP hS (by rw [if_neg (by assumption)]) (rfl) d_JM_min_10
set_option maxRecDepth 100000 in
set_option maxHeartbeats 4000000 in
theorem k_JI_bitCount (l : Launch) {X : WX} (hX : xInj X) {S : Nat → Nat → Nat} {a : Nat} (ha0 : a < 128) : MetI l X y_JI_bitCount (Cond.code y_JI_bitCount c_JI_bitCount 1 (some .int) :: Mst) 0 [.int (nI a)] S (nI (mSize a)) S := by
  refine MetI.of (by decide) (Nat.le_of_ble_eq_true rfl) ?_
  intro p e s m args below meth c cf hr hlk hP hK hN ls hl
  have hl : lv_has ls 1 [(0, .int (nI a))] := hl
  have hx := cf.1
  have hb := cf.2.1
  have hD := xD_of hX
  have hS : va_S (xA X) s.heap s.heap [] := va_S.rf
  obtain ⟨H, hH⟩ : ∃ H, H = s.heap := ⟨_, rfl⟩
  obtain ⟨locs, hlo⟩ : ∃ z : List Loc, z = [] := ⟨_, rfl⟩
  suffices hgo : PW X S H → va_S (xA X) s.heap H locs → W p l e (rmd 0) s m args below meth c H locs 0 0 (MQ below (QcI X (nI (mSize a)) S) args s 0 0 (xA X)) (F0 m 0 ls []) by
    subst hH
    subst hlo
    exact hgo hP hS
  clear hP hS
  intro hP hS
  refine lv_iload_n hx hb d_JI_bitCount_0 rfl (lv_at hl 0 rfl) ?_
  refine lv_iload_n hx hb d_JI_bitCount_1 rfl (lv_at hl 0 rfl) ?_
  refine lv_iconst (v := nI 1) hx hb d_JI_bitCount_2 (by decide) ?_
  refine lv_iushr hx hb d_JI_bitCount_3 rfl ?_
  refine lv_ldcw (v := 1431655765) hx hb cf.2.2.2.1 (cf.2.2.2.2 _ w_341) d_JI_bitCount_4 ?_
  refine lv_iand hx hb d_JI_bitCount_7 ?_
  refine lv_isub hx hb d_JI_bitCount_8 ?_
  refine lv_istore_n (lv' := [(0, .int ((nI a) - ((((nI a)).toUInt32 >>> (((nI 1)).toUInt32 &&& Int32.toUInt32 31)).toInt32 &&& 1431655765)))]) hx hb d_JI_bitCount_9 rfl hl (by decide) rfl (fun ls hl => ?_)
  refine lv_iload_n hx hb d_JI_bitCount_10 rfl (lv_at hl 0 rfl) ?_
  refine lv_ldcw (v := 858993459) hx hb cf.2.2.2.1 (cf.2.2.2.2 _ w_342) d_JI_bitCount_11 ?_
  refine lv_iand hx hb d_JI_bitCount_14 ?_
  refine lv_iload_n hx hb d_JI_bitCount_15 rfl (lv_at hl 0 rfl) ?_
  refine lv_iconst (v := nI 2) hx hb d_JI_bitCount_16 (by decide) ?_
  refine lv_iushr hx hb d_JI_bitCount_17 rfl ?_
  refine lv_ldcw (v := 858993459) hx hb cf.2.2.2.1 (cf.2.2.2.2 _ w_342) d_JI_bitCount_18 ?_
  refine lv_iand hx hb d_JI_bitCount_21 ?_
  refine lv_iadd hx hb d_JI_bitCount_22 ?_
  refine lv_istore_n (lv' := [(0, .int ((((nI a) - ((((nI a)).toUInt32 >>> (((nI 1)).toUInt32 &&& Int32.toUInt32 31)).toInt32 &&& 1431655765)) &&& 858993459) + (((((nI a) - ((((nI a)).toUInt32 >>> (((nI 1)).toUInt32 &&& Int32.toUInt32 31)).toInt32 &&& 1431655765))).toUInt32 >>> (((nI 2)).toUInt32 &&& Int32.toUInt32 31)).toInt32 &&& 858993459)))]) hx hb d_JI_bitCount_23 rfl hl (by decide) rfl (fun ls hl => ?_)
  refine lv_iload_n hx hb d_JI_bitCount_24 rfl (lv_at hl 0 rfl) ?_
  refine lv_iload_n hx hb d_JI_bitCount_25 rfl (lv_at hl 0 rfl) ?_
  refine lv_iconst (v := nI 4) hx hb d_JI_bitCount_26 (by decide) ?_
  refine lv_iushr hx hb d_JI_bitCount_27 rfl ?_
  refine lv_iadd hx hb d_JI_bitCount_28 ?_
  refine lv_ldcw (v := 252645135) hx hb cf.2.2.2.1 (cf.2.2.2.2 _ w_343) d_JI_bitCount_29 ?_
  refine lv_iand hx hb d_JI_bitCount_32 ?_
  refine lv_istore_n (lv' := [(0, .int ((((((nI a) - ((((nI a)).toUInt32 >>> (((nI 1)).toUInt32 &&& Int32.toUInt32 31)).toInt32 &&& 1431655765)) &&& 858993459) + (((((nI a) - ((((nI a)).toUInt32 >>> (((nI 1)).toUInt32 &&& Int32.toUInt32 31)).toInt32 &&& 1431655765))).toUInt32 >>> (((nI 2)).toUInt32 &&& Int32.toUInt32 31)).toInt32 &&& 858993459)) + ((((((nI a) - ((((nI a)).toUInt32 >>> (((nI 1)).toUInt32 &&& Int32.toUInt32 31)).toInt32 &&& 1431655765)) &&& 858993459) + (((((nI a) - ((((nI a)).toUInt32 >>> (((nI 1)).toUInt32 &&& Int32.toUInt32 31)).toInt32 &&& 1431655765))).toUInt32 >>> (((nI 2)).toUInt32 &&& Int32.toUInt32 31)).toInt32 &&& 858993459))).toUInt32 >>> (((nI 4)).toUInt32 &&& Int32.toUInt32 31)).toInt32) &&& 252645135))]) hx hb d_JI_bitCount_33 rfl hl (by decide) rfl (fun ls hl => ?_)
  refine lv_iload_n hx hb d_JI_bitCount_34 rfl (lv_at hl 0 rfl) ?_
  refine lv_iload_n hx hb d_JI_bitCount_35 rfl (lv_at hl 0 rfl) ?_
  refine lv_bipush (v := nI 8) hx hb d_JI_bitCount_36 (by decide) ?_
  refine lv_iushr hx hb d_JI_bitCount_38 rfl ?_
  refine lv_iadd hx hb d_JI_bitCount_39 ?_
  refine lv_istore_n (lv' := [(0, .int (((((((nI a) - ((((nI a)).toUInt32 >>> (((nI 1)).toUInt32 &&& Int32.toUInt32 31)).toInt32 &&& 1431655765)) &&& 858993459) + (((((nI a) - ((((nI a)).toUInt32 >>> (((nI 1)).toUInt32 &&& Int32.toUInt32 31)).toInt32 &&& 1431655765))).toUInt32 >>> (((nI 2)).toUInt32 &&& Int32.toUInt32 31)).toInt32 &&& 858993459)) + ((((((nI a) - ((((nI a)).toUInt32 >>> (((nI 1)).toUInt32 &&& Int32.toUInt32 31)).toInt32 &&& 1431655765)) &&& 858993459) + (((((nI a) - ((((nI a)).toUInt32 >>> (((nI 1)).toUInt32 &&& Int32.toUInt32 31)).toInt32 &&& 1431655765))).toUInt32 >>> (((nI 2)).toUInt32 &&& Int32.toUInt32 31)).toInt32 &&& 858993459))).toUInt32 >>> (((nI 4)).toUInt32 &&& Int32.toUInt32 31)).toInt32) &&& 252645135) + ((((((((nI a) - ((((nI a)).toUInt32 >>> (((nI 1)).toUInt32 &&& Int32.toUInt32 31)).toInt32 &&& 1431655765)) &&& 858993459) + (((((nI a) - ((((nI a)).toUInt32 >>> (((nI 1)).toUInt32 &&& Int32.toUInt32 31)).toInt32 &&& 1431655765))).toUInt32 >>> (((nI 2)).toUInt32 &&& Int32.toUInt32 31)).toInt32 &&& 858993459)) + ((((((nI a) - ((((nI a)).toUInt32 >>> (((nI 1)).toUInt32 &&& Int32.toUInt32 31)).toInt32 &&& 1431655765)) &&& 858993459) + (((((nI a) - ((((nI a)).toUInt32 >>> (((nI 1)).toUInt32 &&& Int32.toUInt32 31)).toInt32 &&& 1431655765))).toUInt32 >>> (((nI 2)).toUInt32 &&& Int32.toUInt32 31)).toInt32 &&& 858993459))).toUInt32 >>> (((nI 4)).toUInt32 &&& Int32.toUInt32 31)).toInt32) &&& 252645135)).toUInt32 >>> (((nI 8)).toUInt32 &&& Int32.toUInt32 31)).toInt32))]) hx hb d_JI_bitCount_40 rfl hl (by decide) rfl (fun ls hl => ?_)
  refine lv_iload_n hx hb d_JI_bitCount_41 rfl (lv_at hl 0 rfl) ?_
  refine lv_iload_n hx hb d_JI_bitCount_42 rfl (lv_at hl 0 rfl) ?_
  refine lv_bipush (v := nI 16) hx hb d_JI_bitCount_43 (by decide) ?_
  refine lv_iushr hx hb d_JI_bitCount_45 rfl ?_
  refine lv_iadd hx hb d_JI_bitCount_46 ?_
  refine lv_istore_n (lv' := [(0, .int ((((((((nI a) - ((((nI a)).toUInt32 >>> (((nI 1)).toUInt32 &&& Int32.toUInt32 31)).toInt32 &&& 1431655765)) &&& 858993459) + (((((nI a) - ((((nI a)).toUInt32 >>> (((nI 1)).toUInt32 &&& Int32.toUInt32 31)).toInt32 &&& 1431655765))).toUInt32 >>> (((nI 2)).toUInt32 &&& Int32.toUInt32 31)).toInt32 &&& 858993459)) + ((((((nI a) - ((((nI a)).toUInt32 >>> (((nI 1)).toUInt32 &&& Int32.toUInt32 31)).toInt32 &&& 1431655765)) &&& 858993459) + (((((nI a) - ((((nI a)).toUInt32 >>> (((nI 1)).toUInt32 &&& Int32.toUInt32 31)).toInt32 &&& 1431655765))).toUInt32 >>> (((nI 2)).toUInt32 &&& Int32.toUInt32 31)).toInt32 &&& 858993459))).toUInt32 >>> (((nI 4)).toUInt32 &&& Int32.toUInt32 31)).toInt32) &&& 252645135) + ((((((((nI a) - ((((nI a)).toUInt32 >>> (((nI 1)).toUInt32 &&& Int32.toUInt32 31)).toInt32 &&& 1431655765)) &&& 858993459) + (((((nI a) - ((((nI a)).toUInt32 >>> (((nI 1)).toUInt32 &&& Int32.toUInt32 31)).toInt32 &&& 1431655765))).toUInt32 >>> (((nI 2)).toUInt32 &&& Int32.toUInt32 31)).toInt32 &&& 858993459)) + ((((((nI a) - ((((nI a)).toUInt32 >>> (((nI 1)).toUInt32 &&& Int32.toUInt32 31)).toInt32 &&& 1431655765)) &&& 858993459) + (((((nI a) - ((((nI a)).toUInt32 >>> (((nI 1)).toUInt32 &&& Int32.toUInt32 31)).toInt32 &&& 1431655765))).toUInt32 >>> (((nI 2)).toUInt32 &&& Int32.toUInt32 31)).toInt32 &&& 858993459))).toUInt32 >>> (((nI 4)).toUInt32 &&& Int32.toUInt32 31)).toInt32) &&& 252645135)).toUInt32 >>> (((nI 8)).toUInt32 &&& Int32.toUInt32 31)).toInt32) + (((((((((nI a) - ((((nI a)).toUInt32 >>> (((nI 1)).toUInt32 &&& Int32.toUInt32 31)).toInt32 &&& 1431655765)) &&& 858993459) + (((((nI a) - ((((nI a)).toUInt32 >>> (((nI 1)).toUInt32 &&& Int32.toUInt32 31)).toInt32 &&& 1431655765))).toUInt32 >>> (((nI 2)).toUInt32 &&& Int32.toUInt32 31)).toInt32 &&& 858993459)) + ((((((nI a) - ((((nI a)).toUInt32 >>> (((nI 1)).toUInt32 &&& Int32.toUInt32 31)).toInt32 &&& 1431655765)) &&& 858993459) + (((((nI a) - ((((nI a)).toUInt32 >>> (((nI 1)).toUInt32 &&& Int32.toUInt32 31)).toInt32 &&& 1431655765))).toUInt32 >>> (((nI 2)).toUInt32 &&& Int32.toUInt32 31)).toInt32 &&& 858993459))).toUInt32 >>> (((nI 4)).toUInt32 &&& Int32.toUInt32 31)).toInt32) &&& 252645135) + ((((((((nI a) - ((((nI a)).toUInt32 >>> (((nI 1)).toUInt32 &&& Int32.toUInt32 31)).toInt32 &&& 1431655765)) &&& 858993459) + (((((nI a) - ((((nI a)).toUInt32 >>> (((nI 1)).toUInt32 &&& Int32.toUInt32 31)).toInt32 &&& 1431655765))).toUInt32 >>> (((nI 2)).toUInt32 &&& Int32.toUInt32 31)).toInt32 &&& 858993459)) + ((((((nI a) - ((((nI a)).toUInt32 >>> (((nI 1)).toUInt32 &&& Int32.toUInt32 31)).toInt32 &&& 1431655765)) &&& 858993459) + (((((nI a) - ((((nI a)).toUInt32 >>> (((nI 1)).toUInt32 &&& Int32.toUInt32 31)).toInt32 &&& 1431655765))).toUInt32 >>> (((nI 2)).toUInt32 &&& Int32.toUInt32 31)).toInt32 &&& 858993459))).toUInt32 >>> (((nI 4)).toUInt32 &&& Int32.toUInt32 31)).toInt32) &&& 252645135)).toUInt32 >>> (((nI 8)).toUInt32 &&& Int32.toUInt32 31)).toInt32)).toUInt32 >>> (((nI 16)).toUInt32 &&& Int32.toUInt32 31)).toInt32))]) hx hb d_JI_bitCount_47 rfl hl (by decide) rfl (fun ls hl => ?_)
  refine lv_iload_n hx hb d_JI_bitCount_48 rfl (lv_at hl 0 rfl) ?_
  refine lv_bipush (v := nI 63) hx hb d_JI_bitCount_49 (by decide) ?_
  refine lv_iand hx hb d_JI_bitCount_51 ?_
  exact x_iret cf hr hlk hP hS (bc_ok a ha0) (rfl) d_JI_bitCount_52
