/-! the numbers of the constructors -/
def kV (tu : Int32) : Int32 := if tu < nI 4 then nI 4 else if nI 9 < tu then nI 9 else tu
def kF (tu : Int32) : Nat := (kV tu).toNatClampNeg
theorem kF_spec (tu : Int32) : kV tu = nI (kF tu) ∧ 4 ≤ kF tu ∧ kF tu ≤ 9 := by
  have h4 : (nI 4).toNatClampNeg = 4 := nI_clamp (by decide)
  have h9 : (nI 9).toNatClampNeg = 9 := nI_clamp (by decide)
  unfold kF kV
  by_cases h1 : tu < nI 4
  · rw [if_pos h1, h4]
    exact ⟨rfl, by omega, by omega⟩
  · rw [if_neg h1]
    by_cases h2 : nI 9 < tu
    · rw [if_pos h2, h9]
      exact ⟨rfl, by omega, by omega⟩
    · rw [if_neg h2]
      have a1 := i_nltN (by decide) h1
      have a2 := i_ngtN (by decide) h2
      obtain ⟨j, hj, e1, e2, e3⟩ := i_nat (x := tu) (by omega)
      rw [e3]
      exact ⟨e1, by omega, by omega⟩
theorem kV_cls (tu : Int32) : (if nI 9 < (if tu < nI 4 then nI 4 else tu) then nI 9 else (if tu < nI 4 then nI 4 else tu)) = nI (kF tu) := by
  rw [← (kF_spec tu).1]
  unfold kV
  by_cases h1 : tu < nI 4
  · simp only [if_pos h1]
    rw [if_neg (by decide)]
  · simp only [if_neg h1]
def fF (fa : Int32) : Nat := if fa = nI 2 then 2 else 1
theorem fF_cases (fa : Int32) : fF fa = 1 ∨ fF fa = 2 := by
  unfold fF
  by_cases h : fa = nI 2
  · rw [if_pos h]
    exact Or.inr rfl
  · rw [if_neg h]
    exact Or.inl rfl
def ctP (b f : Nat) : Nat → Nat × Nat
  | 0 => (0, 0)
  | r + 1 => if b / 2 ^ r % 2 = 1 ∧ (ctP b f r).2 < f then ((ctP b f r).1 ||| 2 ^ r, (ctP b f r).2 + 1) else ctP b f r
theorem ctP_s (b f r : Nat) : ctP b f (r + 1) = if b / 2 ^ r % 2 = 1 ∧ (ctP b f r).2 < f then ((ctP b f r).1 ||| 2 ^ r, (ctP b f r).2 + 1) else ctP b f r := rfl
theorem ctP_1 : ∀ b, b < 16 → (ctP b 1 4).1 = cLeast b 1 := by decide +kernel
theorem ctP_2 : ∀ b, b < 128 → (ctP b 2 7).1 = cLeast b 2 := by decide +kernel
theorem ctP_le (b f : Nat) : ∀ r, (ctP b f r).2 ≤ r ∧ (ctP b f r).1 < 2 ^ r
  | 0 => by simp [ctP]
  | r + 1 => by
    have ih := ctP_le b f r
    have h2 : 2 ^ r < 2 ^ (r + 1) := Nat.pow_lt_pow_right (by decide) (by omega)
    rw [ctP_s]
    split
    · refine ⟨by have := ih.1; simp only; omega, ?_⟩
      exact Nat.or_lt_two_pow (Nat.lt_trans ih.2 h2) h2
    · exact ⟨by omega, Nat.lt_trans ih.2 h2⟩
theorem bit_mod {a r n : Nat} (h : r < n) : a % 2 ^ n / 2 ^ r % 2 = a / 2 ^ r % 2 := by
  rw [← Nat.toNat_testBit, ← Nat.toNat_testBit, Nat.testBit_mod_two_pow]
  simp [h]
theorem sar_bit (a r : Nat) (hr : r < 31) : (nI a >>> (nI r &&& 31)) &&& nI 1 = nI (a / 2 ^ r % 2) := by
  apply Int32.toBitVec_inj.1
  rw [Int32.toBitVec_and, Int32.toBitVec_shiftRight]
  show (BitVec.ofNat 32 a).sshiftRight ((nI r &&& 31).toBitVec.smod 32).toNat &&& BitVec.ofNat 32 1 = BitVec.ofNat 32 (a / 2 ^ r % 2)
  rw [nI_s31 r (by omega)]
  apply BitVec.eq_of_getLsbD_eq
  intro i hi
  rw [BitVec.getLsbD_and, BitVec.getLsbD_sshiftRight, BitVec.getLsbD_ofNat, BitVec.getLsbD_ofNat, BitVec.getLsbD_ofNat]
  by_cases h0 : i = 0
  · subst h0
    have e1 : (a / 2 ^ r % 2).testBit 0 = a.testBit r := by
      rw [← Nat.toNat_testBit]
      cases a.testBit r <;> rfl
    rw [e1]
    simp [show r < 32 by omega]
  · have e1 : (a / 2 ^ r % 2).testBit i = false := Nat.testBit_lt_two_pow (Nat.lt_of_lt_of_le (Nat.mod_lt _ (by decide)) (show 2 ^ 1 ≤ 2 ^ i from Nat.pow_le_pow_right (by decide) (by omega)))
    have e2 : (1 : Nat).testBit i = false := Nat.testBit_lt_two_pow (Nat.lt_of_lt_of_le (by decide : 1 < 2 ^ 1) (Nat.pow_le_pow_right (by decide) (by omega)))
    rw [e1, e2]
    simp
/-! Math.max, Math.min, leastMembers with no world -/
def QcP (r : Int32) : Array Value → State → Outcome → State → Prop := va_Qi (fun (x : Int32) (_ : Unit) => x = r) (fun _ _ => True) (fun _ => False)
def MetP (l : Launch) (y : MethodName) (ws : List Cond) (avs : List Value) (r : Int32) : Prop := Met l y ws (rmd 0) (va_Pc avs (fun _ => True)) (QcP r) 0 0 (fun _ => False)
section CP
variable {p : Program} {l : Launch} {e : Env} {R : Room} {s : State} {m : MethodId} {args : Array Value} {below : List Frame} {meth : Method} {c : Code} {H : Heap} {locs : List Loc} {cells slots : Nat} {Q : State → Prop}
variable {cc : ByteArray} {pc : Nat} {ls : Array Slot} {rest : List Value} {nL : Nat} {own : String} {X : WX} {ws : va_W} {A : Nat → Prop} {H0 : Heap}
theorem MetP.of {y : MethodName} {avs : List Value} {r : Int32} {maxL : Nat} {ret : Option FieldType} (hy : plainName y.cls = true) (hlen : (lg_sl avs).length ≤ maxL) (body : ∀ (p : Program) (e : Env) (s : State) (m : MethodId) (args : Array Value) (below : List Frame) (meth : Method) (c : Code), CallFix p m c cc maxL s args Mst y.cls → meth.sig.returnType = ret → meth.locks = false → ∀ ls : Array Slot, lv_has ls maxL (lv_args 0 avs) → W p l e (rmd 0) s m args below meth c s.heap [] 0 0 (MQ below (QcP r) args s 0 0 (fun _ => False)) (F0 m 0 ls [])) : MetP l y (Cond.code y cc maxL ret :: Mst) avs r := by
  refine Met.ofW (cc := cc) (maxL := maxL) (ret := ret) hy rfl ?_
  intro p e s m args below meth c s₁ B hml hv
  obtain ⟨rfl, -⟩ := hv
  have hts := atoms_spec (ws := Cond.code y cc maxL ret :: Mst) B.pre
  have hl := lv_entry avs (n := maxL) hlen
  rw [lg_entry_eq]
  exact body p e s m _ below meth c ⟨B.exec, B.bytes, hml, findClass_of_methodNamed B.named, fun w h => hts w (List.mem_cons_of_mem _ h)⟩ B.returns B.notSynchronized _ hl
theorem MetP.ofF {y : MethodName} {avs : List Value} {r : Int32} {maxL : Nat} {ret : Option FieldType} (hy : plainFor y = true) (hlen : (lg_sl avs).length ≤ maxL) (body : ∀ (p : Program) (e : Env) (s : State) (m : MethodId) (args : Array Value) (below : List Frame) (meth : Method) (c : Code), CallFix p m c cc maxL s args Mst y.cls → meth.sig.returnType = ret → meth.locks = false → ∀ ls : Array Slot, lv_has ls maxL (lv_args 0 avs) → W p l e (rmd 0) s m args below meth c s.heap [] 0 0 (MQ below (QcP r) args s 0 0 (fun _ => False)) (F0 m 0 ls [])) : MetP l y (Cond.code y cc maxL ret :: Mst) avs r := by
  refine va_MetF (cc := cc) (maxL := maxL) (ret := ret) hy rfl ?_
  intro p e s m args below meth c s₁ B hml hv
  obtain ⟨rfl, -⟩ := hv
  have hts := atoms_spec (ws := Cond.code y cc maxL ret :: Mst) B.pre
  have hl := lv_entry avs (n := maxL) hlen
  rw [lg_entry_eq]
  exact body p e s m _ below meth c ⟨B.exec, B.bytes, hml, findClass_of_methodNamed B.named, fun w h => hts w (List.mem_cons_of_mem _ h)⟩ B.returns B.notSynchronized _ hl
theorem p_iret {v r : Int32} (cf : CallFix p m c cc nL s args Mst own) (hr : meth.sig.returnType = some .int) (hlk : meth.locks = false) (hv : v = r) (hdg : decode cc pc = .ok (.ireturn, 1)) : W p l e R s m args below meth c s.heap [] 0 0 (MQ below (QcP r) args s 0 0 (fun _ => False)) (F0 m pc ls [.int v]) := by
  subst hv
  exact W.iret (Qc := QcP v) cf.1 cf.2.1 hr (fun t ht _ => ⟨⟨v, (), rfl, rfl, trivial⟩, (va_S.rf (A := fun _ => False) (H0 := s.heap)).F ht⟩) (fun _ h => by cases h) hdg hlk
theorem c_callP {y : MethodName} {As st0 : List Value} {r : Int32} {bytes : ByteArray} {maxL n index : Nat} {ret : Option FieldType} {wt : List Cond} (cf : CallFix p m c cc nL s args Mst own) (hP : va_P X.1 vcl ws H) (hS : va_S A H0 H locs) (hM : MetP l y wt As r) (cw : CallB R s args own index y bytes maxL ret wt (rmd 0) 0 0 n ∧ (Cond.static y).before args s = true) (hsize : ls.size = nL) (hst : st0 = As.reverse ++ rest) (hn : As.length = n) (hrest : (rest.map fun v => v.category).sum ≤ 8) (hcs : cells ≤ R.cells ∧ slots ≤ R.slots) (hdg : decode cc pc = .ok (.invokestatic index, 3)) (kk : ∀ (H1 : Heap) (locs1 : List Loc), va_P X.1 vcl ws H1 → va_S A H0 H1 locs1 → W p l e R s m args below meth c H1 locs1 cells slots Q (F0 m (pc + 3) ls (.int r :: rest))) : W p l e R s m args below meth c H locs cells slots Q (F0 m pc ls st0) := by
  refine va_calli (va_runS (As := As) (rest := rest) cf hM cw ⟨fun _ _ _ _ q => q, fun U hU hW => ⟨rfl, trivial⟩⟩ rfl hn hsize hst (lv_room hrest) hdg ⟨hcs.1, hcs.2⟩) hS (fun q _ h => h.elim) (fun q h => h.elim) (fun r2 u t H1 locs1 ht hvm hp hB hz hk hS1 => ?_)
  subst hp
  exact kk H1 locs1 (hP.kept (fun k q hq => hk q.1 ((hP k q hq).lt) id)) hS1
end CP
set_option maxRecDepth 100000 in
set_option maxHeartbeats 4000000 in
theorem p_JM_max (l : Launch) (x y : Int32) : MetP l y_JM_max (Cond.code y_JM_max c_JM_max 2 (some .int) :: Mst) [.int x, .int y] (if x < y then y else x) := by
  refine MetP.ofF (by decide +kernel) (Nat.le_of_ble_eq_true rfl) ?_
  intro p e s m args below meth c cf hr hlk ls hl
  have hl : lv_has ls 2 [(0, .int x), (1, .int y)] := hl
  have hx := cf.1
  have hb := cf.2.1
  refine lv_iload_n hx hb d_JM_max_0 rfl (lv_at hl 0 rfl) ?_
  refine lv_iload_n hx hb d_JM_max_1 rfl (lv_at hl 1 rfl) ?_
  refine lv_icmp_lt (tgt := 9) hx hb d_JM_max_2 (by decide) (fun h1 => ?_) (fun h1 => ?_)
  · refine lv_iload_n hx hb d_JM_max_9 rfl (lv_at hl 1 rfl) ?_
    exact p_iret cf hr hlk (by rw [if_pos (by assumption)]) d_JM_max_10
  · refine lv_iload_n hx hb d_JM_max_5 rfl (lv_at hl 0 rfl) ?_
    refine lv_goto (tgt := 10) hx hb d_JM_max_6 (by decide) ?_
    exact p_iret cf hr hlk (by rw [if_neg (by assumption)]) d_JM_max_10
set_option maxRecDepth 100000 in
set_option maxHeartbeats 4000000 in
theorem p_JM_min (l : Launch) (x y : Int32) : MetP l y_JM_min (Cond.code y_JM_min c_JM_min 2 (some .int) :: Mst) [.int x, .int y] (if y < x then y else x) := by
  refine MetP.ofF (by decide +kernel) (Nat.le_of_ble_eq_true rfl) ?_
  intro p e s m args below meth c cf hr hlk ls hl
  have hl : lv_has ls 2 [(0, .int x), (1, .int y)] := hl
  have hx := cf.1
  have hb := cf.2.1
  refine lv_iload_n hx hb d_JM_min_0 rfl (lv_at hl 0 rfl) ?_
  refine lv_iload_n hx hb d_JM_min_1 rfl (lv_at hl 1 rfl) ?_
  refine lv_icmp_gt (tgt := 9) hx hb d_JM_min_2 (by decide) (fun h1 => ?_) (fun h1 => ?_)
  · refine lv_iload_n hx hb d_JM_min_9 rfl (lv_at hl 1 rfl) ?_
    exact p_iret cf hr hlk (by rw [if_pos (by assumption)]) d_JM_min_10
  · refine lv_iload_n hx hb d_JM_min_5 rfl (lv_at hl 0 rfl) ?_
    refine lv_goto (tgt := 10) hx hb d_JM_min_6 (by decide) ?_
    exact p_iret cf hr hlk (by rw [if_neg (by assumption)]) d_JM_min_10
set_option maxRecDepth 100000 in
set_option maxHeartbeats 4000000 in
theorem p_T_leastMembers (l : Launch) {a most : Nat} (hm0 : most ≤ 7) : MetP l y_T_leastMembers (Cond.code y_T_leastMembers c_T_leastMembers 4 (some .int) :: Mst) [.int (nI a), .int (nI most)] (nI (cLeast a most)) := by
  refine MetP.of (by decide) (Nat.le_of_ble_eq_true rfl) ?_
  intro p e s m args below meth c cf hr hlk ls hl
  have hl : lv_has ls 4 [(0, .int (nI a)), (1, .int (nI most))] := hl
  have hx := cf.1
  have hb := cf.2.1
  refine lv_iload_n hx hb d_T_leastMembers_0 rfl (lv_at hl 0 rfl) ?_
  refine lv_istore_n (lv' := [(2, .int (nI a)), (0, .int (nI a)), (1, .int (nI most))]) hx hb d_T_leastMembers_1 rfl hl (by decide) rfl (fun ls hl => ?_)
  refine lv_iconst (v := nI 0) hx hb d_T_leastMembers_2 (by decide) ?_
  refine lv_istore_n (lv' := [(3, .int (nI 0)), (2, .int (nI a)), (0, .int (nI a)), (1, .int (nI most))]) hx hb d_T_leastMembers_3 rfl hl (by decide) rfl (fun ls hl => ?_)
  have lp4 : ∀ (dm : Nat) (rest0 : Nat) (i : Nat) (ls : Array Slot), lv_has ls 4 [(0, .int (nI a)), (1, .int (nI most)), (2, .int (nI rest0)), (3, .int (nI i))] → (i ≤ most) → (rest0 = cRest a i) → (most - i = dm) → W p l e (rmd 0) s m args below meth c s.heap [] 0 0 (MQ below (QcP (nI (cLeast a most))) args s 0 0 (fun _ => False)) (F0 m 4 ls []) := by
    intro dm
    induction dm using Nat.strongRecOn with | ind dm lp4 => ?_
    intro rest0 i ls hl hi hz hdm
    refine lv_iload_n hx hb d_T_leastMembers_4 rfl (lv_at hl 3 rfl) ?_
    refine lv_iload_n hx hb d_T_leastMembers_5 rfl (lv_at hl 1 rfl) ?_
    refine n_icmp_ge (tgt := 21) hx hb d_T_leastMembers_6 (by decide) (by omega) (by omega) (fun h1 => ?_) (fun h1 => ?_)
    · refine lv_iload_n hx hb d_T_leastMembers_21 rfl (lv_at hl 0 rfl) ?_
      refine lv_iload_n hx hb d_T_leastMembers_22 rfl (lv_at hl 2 rfl) ?_
      refine lv_iconst (v := (-1)) hx hb d_T_leastMembers_23 (by decide) ?_
      refine lv_ixor hx hb d_T_leastMembers_24 ?_
      refine lv_iand hx hb d_T_leastMembers_25 ?_
      rw [show ((nI a) &&& ((nI rest0) ^^^ (-1))) = nI (a &&& (rest0 ^^^ 4294967295)) from mask_eq a rest0]
      exact p_iret cf hr hlk (by unfold cLeast; rw [hz, show i = most by omega]) d_T_leastMembers_26
    · refine lv_iload_n hx hb d_T_leastMembers_9 rfl (lv_at hl 2 rfl) ?_
      refine lv_iload_n hx hb d_T_leastMembers_10 rfl (lv_at hl 2 rfl) ?_
      refine lv_iconst (v := nI 1) hx hb d_T_leastMembers_11 (by decide) ?_
      refine lv_isub hx hb d_T_leastMembers_12 ?_
      refine lv_iand hx hb d_T_leastMembers_13 ?_
      rw [show ((nI rest0) &&& ((nI rest0) - (nI 1))) = nI (rest0 &&& (rest0 - 1)) from low_and rest0]
      refine lv_istore_n (lv' := [(2, .int (nI (rest0 &&& (rest0 - 1)))), (0, .int (nI a)), (1, .int (nI most)), (3, .int (nI i))]) hx hb d_T_leastMembers_14 rfl hl (by decide) rfl (fun ls hl => ?_)
      refine n_iinc1 (lv' := [(3, .int (nI (i + 1))), (2, .int (nI (rest0 &&& (rest0 - 1)))), (0, .int (nI a)), (1, .int (nI most))]) (k := 3) hx hb d_T_leastMembers_15 hl rfl (by decide) rfl (fun ls hl => ?_)
      refine lv_goto (tgt := 4) hx hb d_T_leastMembers_18 (by decide) ?_
      exact lp4 _ (by omega) (rest0 &&& (rest0 - 1)) (i + 1) ls (lv_sub hl [2, 3, 1, 0] rfl) (by omega) (by rw [hz]; rfl) rfl
  exact lp4 _ a 0 ls (lv_sub hl [2, 3, 1, 0] rfl) (by omega) rfl rfl
