/-! constructors: the small ones; what a caller does with them -/
def aI (cI : ClassId) (n : Nat) : va_E := .inl (cI, n, .inl (fun _ => nI 0))
abbrev rmc (d mc ms : Nat) : Room := { frames := d, cells := mc, slots := ms, locals := 34 * d }
def nwTr : Cond := .methodLinkNest "ThreeChainLedger" 45 y_Tr_init "ThreeChainLedger"
def nwRo : Cond := .methodLinkNest "ThreeChainLedger" 59 y_Ro_init "ThreeChainLedger"
def nwLe : Cond := .methodLinkNest "ThreeChainLedger" 66 y_Le_init "ThreeChainLedger"
/-- what the class's own constructor needs of the tables beyond Mst -/
def CWs (U : State) : Prop := va_Nw nwTr U ∧ va_Nw nwRo U ∧ va_Nw nwLe U ∧ va_AO "ThreeChainLedger$Replica" U
theorem CWs.same {u U : State} (h : u.vm = U.vm) (hN : CWs u) : CWs U := ⟨va_Nw.same rfl h hN.1, va_Nw.same rfl h hN.2.1, va_Nw.same rfl h hN.2.2.1, va_AO.moved (by rw [← h]; exact Vm.Alike.refl _) hN.2.2.2⟩
theorem CWs.warm {s U : State} (hW : s.WarmedH U.vm) (hN : CWs s) : CWs U := ⟨va_Nw.warmM hW hN.1, va_Nw.warmM hW hN.2.1, va_Nw.warmM hW hN.2.2.1, va_AO.moved hW.alike hN.2.2.2⟩
def PreC (X : WX) (h0 ci : Nat) (fs0 : List Value) (sz : Nat) (U : State) : Prop := U.heap.size = sz ∧ va_P X.1 vcl [(h0, .inr (ci, fs0))] U.heap ∧ XK X U ∧ CWs U
def QcC (X : WX) (k0 h0 : Nat) (Wn : (Nat → Nat) → va_W) (A : Nat → Prop) : Array Value → State → Outcome → State → Prop := va_Qv (fun u : Nat → Nat => u k0 = h0) (fun u t => va_P X.1 vcl (Wn u) t.heap ∧ va_D A (Wn u)) A
def MetC (l : Launch) (X : WX) (y : MethodName) (cc : ByteArray) (maxL d mc ms k0 : Nat) (As : List Value) (ci : Nat) (fs0 : List Value) (Wn : (Nat → Nat) → va_W) : Prop := ∀ h0 sz : Nat, Met l y (Cond.code y cc maxL none :: Mst) (rmc d mc ms) (va_Pc (.ref h0 :: As) (PreC X h0 ci fs0 sz)) (QcC X k0 h0 Wn (va_A [(h0, .inr (ci, fs0))] sz)) mc ms (va_A [(h0, .inr (ci, fs0))] sz)
theorem PreC.blind {X : WX} {h0 ci sz : Nat} {fs0 avs : List Value} : FrameBlind (va_Pc avs (PreC X h0 ci fs0 sz)) := fun a U g mk q => by
  obtain ⟨q0, q1, q2, q3, q4⟩ := q
  exact ⟨q0, q1, q2, va_K.moved (u := U) (U := U.calling g mk a) (Vm.Alike.refl U.vm) q3, CWs.same (u := U) (U := U.calling g mk a) rfl q4⟩
theorem D_one {A : Nat → Prop} {x : Nat × va_E} (h : A x.1) : va_D A [x] := by
  refine ⟨fun i j p q hi hj _ => ?_, fun k q hk => ?_⟩
  · have h1 : i < 1 := (List.getElem?_eq_some_iff.mp hi).1
    have h2 : j < 1 := (List.getElem?_eq_some_iff.mp hj).1
    omega
  · have h1 : k < 1 := (List.getElem?_eq_some_iff.mp hk).1
    have h0 : k = 0 := by omega
    subst h0
    cases hk
    exact h
theorem join_last {A0 : Nat → Prop} {D : va_G} {cl : List vw_C} {ws w1 : va_W} {x : Nat × va_E} {H H1 : Heap} (hP : va_P D cl (ws ++ [x]) H) (hD : va_D A0 (ws ++ [x])) (hk : ∀ q : Nat, q < H.size → ¬ va_A [x] H.size q → H1[q]? = H[q]?) (hF : ∀ q, va_A [x] H.size q → A0 q) (hP1 : va_P D cl w1 H1) (hD1 : va_D (va_A [x] H.size) w1) : va_P D cl (ws ++ w1) H1 ∧ va_D A0 (ws ++ w1) := by
  have inl : ∀ (k : Nat) (q : Nat × va_E), ws[k]? = some q → k < ws.length ∧ (ws ++ [x])[k]? = some q := by
    intro k q hq
    have hl : k < ws.length := (List.getElem?_eq_some_iff.mp hq).1
    exact ⟨hl, by rw [List.getElem?_append_left hl]; exact hq⟩
  have lst : (ws ++ [x])[ws.length]? = some x := by
    rw [List.getElem?_append_right (Nat.le_refl _), Nat.sub_self]
    rfl
  have apart : ∀ (k : Nat) (q : Nat × va_E), ws[k]? = some q → q.1 < H.size ∧ ¬ va_A [x] H.size q.1 := by
    intro k q hq
    obtain ⟨hl, h2⟩ := inl k q hq
    have hlt := (hP k q h2).lt
    refine ⟨hlt, fun h => ?_⟩
    rcases h with ⟨k2, e, h⟩ | h
    · have hk0 : k2 < 1 := (List.getElem?_eq_some_iff.mp h).1
      have hz : k2 = 0 := by omega
      subst hz
      have hx : x = (q.1, e) := Option.some.inj h
      have := hD.1 k ws.length q x h2 lst (by rw [hx])
      omega
    · omega
  refine ⟨va_P.app (fun k q hq => ?_) hP1, va_D.app ⟨fun i j a b ha hb e => ?_, fun k q hq => ?_⟩ (hD1.weaken (fun k q _ h => hF q.1 h)) (fun i j a b ha hb e => ?_)⟩
  · exact (hP k q (inl k q hq).2).kept (hk q.1 (apart k q hq).1 (apart k q hq).2)
  · exact hD.1 i j a b (inl i a ha).2 (inl j b hb).2 e
  · exact hD.2 k q (inl k q hq).2
  · exact (apart i a ha).2 (by rw [e]; exact hD1.2 j b hb)
theorem P_last {D : va_G} {cl : List vw_C} {ws : va_W} {x : Nat × va_E} {H : Heap} (hP : va_P D cl (ws ++ [x]) H) : va_P D cl [x] H := by
  intro k q hk
  have h1 : k < 1 := (List.getElem?_eq_some_iff.mp hk).1
  have h0 : k = 0 := by omega
  subst h0
  exact hP ws.length q (by rw [List.getElem?_append_right (Nat.le_refl _), Nat.sub_self]; exact hk)
theorem F_last {A0 : Nat → Prop} {ws : va_W} {x : Nat × va_E} {H0 H : Heap} {locs : List Loc} (hD : va_D A0 (ws ++ [x])) (hS : va_S A0 H0 H locs) (hA : ∀ q, H0.size ≤ q → A0 q) : ∀ q, va_A [x] H.size q → A0 q := by
  intro q h
  rcases h with ⟨k, e, h⟩ | h
  · have h1 : k < 1 := (List.getElem?_eq_some_iff.mp h).1
    have h0 : k = 0 := by omega
    subst h0
    exact hD.2 ws.length (q, e) (by rw [List.getElem?_append_right (Nat.le_refl _), Nat.sub_self]; exact h)
  · exact hA q (Nat.le_trans hS.1 h)
theorem gI {maxL : Nat} {y : MethodName} {b : ByteArray} {ret : Option FieldType} (h5 : Cond.code y b maxL ret ∈ Mst) : GoodIn Mst (Cond.code y b maxL ret :: Mst) := by
  intro w hw
  have hm : w ∈ Mst := by
    rcases List.mem_cons.mp hw with rfl | h
    · exact h5
    · exact h
  exact ⟨hm, mst_good w hm⟩
section CT
variable {p : Program} {l : Launch} {e : Env} {R : Room} {s : State} {m : MethodId} {args : Array Value} {below : List Frame} {meth : Method} {c : Code} {H : Heap} {locs : List Loc} {cells slots : Nat} {Q : State → Prop}
variable {cc : ByteArray} {pc : Nat} {ls : Array Slot} {rest : List Value} {nL : Nat} {own : String} {X : WX} {ws : va_W} {A : Nat → Prop} {H0 : Heap}
theorem MetC.of {y : MethodName} {maxL d mc ms k0 ci : Nat} {As fs0 : List Value} {Wn : (Nat → Nat) → va_W} (hy : plainName y.cls = true) (hlen : ∀ h0 : Nat, (lg_sl (.ref h0 :: As)).length ≤ maxL) (body : ∀ (h0 : Nat) (p : Program) (e : Env) (s : State) (m : MethodId) (args : Array Value) (below : List Frame) (meth : Method) (c : Code), CallFix p m c cc maxL s args Mst y.cls → meth.sig.returnType = none → meth.locks = false → meth.name = y.name → XK X s → CWs s → va_P X.1 vcl [(h0, .inr (ci, fs0))] s.heap → ∀ A : Nat → Prop, va_D A [(h0, .inr (ci, fs0))] → (∀ q, s.heap.size ≤ q → A q) → ∀ ls : Array Slot, lv_has ls maxL (lv_args 0 (.ref h0 :: As)) → W p l e (rmc d mc ms) s m args below meth c s.heap [] 0 0 (MQ below (QcC X k0 h0 Wn A) args s mc ms A) (F0 m 0 ls [])) : MetC l X y cc maxL d mc ms k0 As ci fs0 Wn := by
  intro h0 sz
  refine Met.ofW (cc := cc) (maxL := maxL) (ret := none) hy rfl ?_
  intro p e s m args below meth c s₁ B hml hv
  obtain ⟨rfl, hsz, hP, hK, hC⟩ := hv
  subst hsz
  have hts := atoms_spec (ws := Cond.code y cc maxL none :: Mst) B.pre
  have hl := lv_entry (.ref h0 :: As) (n := maxL) (hlen h0)
  rw [lg_entry_eq]
  exact body h0 p e s m _ below meth c ⟨B.exec, B.bytes, hml, findClass_of_methodNamed B.named, fun w h => hts w (List.mem_cons_of_mem _ h)⟩ B.returns B.notSynchronized (name_of_methodNamed B.named B.method).1 hK hC hP (va_A [(h0, .inr (ci, fs0))] s.heap.size) (D_one (va_A.in (k := 0) (q := (h0, .inr (ci, fs0))) rfl)) (fun q h => Or.inr h) _ hl
theorem c_obj (cf : CallFix p m c cc nL s args Mst own) (hsize : ls.size = nL) {idx : Nat} (hl : Cond.methodLink own idx (⟨"java/lang/Object", "<init>", "()V"⟩ : MethodName) ∈ Mst) {a : Nat} (hfr : 1 ≤ R.frames) (hlo : 8 + 12 ≤ R.locals) (hrest : (rest.map fun v => v.category).sum ≤ 8) (hdg : decode cc pc = .ok (.invokespecial idx, 3)) (kk : W p l e R s m args below meth c H locs cells slots Q (F0 m (pc + 3) ls rest)) : W p l e R s m args below meth c H locs cells slots Q (F0 m pc ls (.ref a :: rest)) :=
  W.objInit (a := a) (rest := rest) cf.1 cf.2.1 cf.2.2.2.1 (cf.2.2.2.2 _ hl) (cf.2.2.2.2 _ w_17) (cf.2.2.2.2 _ w_18) rfl (hsize.trans cf.2.2.1.symm) rfl hdg hfr (Nat.le_trans (Nat.add_le_add_right (lv_room hrest) 12) hlo) (W.eq (g2 := F0 m (pc + 3) ls rest) rfl kk)
theorem c_newA (cf : CallFix p m c cc nL s args Mst own) (hK : XK X s) {atype : ArrayType} {ty : FieldType} (hty : newarray.typeOf atype = ty) (hw : Cond.arrayClass ty ∈ Mst) {cA0 : ClassId} (hra : ∀ cA, va_RA s cA ty → cA = cA0) {n : Nat} {a0 : vp_A} (ha : ∀ cA : ClassId, vp_cell cA a0 = arrV cA n (fun _ => defaultValue ty)) (hn : n ≤ 1000) (hby : componentBytes ty ≤ 8) (hP : va_P X.1 vcl ws H) (hD : va_D A ws) (hS : va_S A H0 H locs) (hA : ∀ q, H0.size ≤ q → A q) (hcells : cells + 1 ≤ R.cells) (hslots : slots + n ≤ R.slots) (hdg : decode cc pc = .ok (.newarray atype, 2)) (kk : ∀ (q : Nat) (H1 : Heap), va_P X.1 vcl (ws ++ [(q, .inl (cA0, a0))]) H1 → va_D A (ws ++ [(q, .inl (cA0, a0))]) → va_S A H0 H1 locs → W p l e R s m args below meth c H1 locs (cells + 1) (slots + n) Q (F0 m (pc + 2) ls (.ref q :: rest))) : W p l e R s m args below meth c H locs cells slots Q (F0 m pc ls (.int (nI n) :: rest)) := by
  refine va_newa (ty := ty) (N' := n) (a0 := a0) cf.1 cf.2.1 (by rw [hty]; exact cf.2.2.2.2 _ hw) hty hK hP hD hS hA ha (fun q => (vp_in_nI (n := n) (N := n + 1) (by omega) (by omega)) (Or.inl q)) (nI_clamp (by omega)) (Nat.le_trans (Nat.mul_le_mul hn hby) (by decide)) hcells hslots hdg (fun q cA H1 hK1 hP1 hD1 hS1 => ?_)
  have e1 : cA = cA0 := hra cA (hK1.2 4 (cA, ty) rfl).2
  subst e1
  exact kk q H1 hP1 hD1 hS1
theorem c_newI (cf : CallFix p m c cc nL s args Mst own) (hK : XK X s) {n : Nat} (hn : n ≤ 1000) (hP : va_P X.1 vcl ws H) (hD : va_D A ws) (hS : va_S A H0 H locs) (hA : ∀ q, H0.size ≤ q → A q) (hcells : cells + 1 ≤ R.cells) (hslots : slots + n ≤ R.slots) (hdg : decode cc pc = .ok (.newarray .int, 2)) (kk : ∀ (q : Nat) (H1 : Heap), va_P X.1 vcl (ws ++ [(q, aI X.2.1.1 n)]) H1 → va_D A (ws ++ [(q, aI X.2.1.1 n)]) → va_S A H0 H1 locs → W p l e R s m args below meth c H1 locs (cells + 1) (slots + n) Q (F0 m (pc + 2) ls (.ref q :: rest))) : W p l e R s m args below meth c H locs cells slots Q (F0 m pc ls (.int (nI n) :: rest)) :=
  c_newA (ty := .int) (a0 := (n, .inl (fun _ => nI 0))) (cA0 := X.2.1.1) cf hK rfl w_77 (fun cA h => Option.some.inj (Eq.trans (Eq.symm (show s.vm.findClass ("[" ++ FieldType.int.toString) = some cA from h)) (show s.vm.findClass ("[" ++ FieldType.int.toString) = some X.2.1.1 from (hK.2 0 (X.2.1.1, .int) rfl).2))) (fun _ => rfl) hn (by decide) hP hD hS hA hcells hslots hdg kk
theorem c_newZ (cf : CallFix p m c cc nL s args Mst own) (hK : XK X s) {n : Nat} (hn : n ≤ 1000) (hP : va_P X.1 vcl ws H) (hD : va_D A ws) (hS : va_S A H0 H locs) (hA : ∀ q, H0.size ≤ q → A q) (hcells : cells + 1 ≤ R.cells) (hslots : slots + n ≤ R.slots) (hdg : decode cc pc = .ok (.newarray .boolean, 2)) (kk : ∀ (q : Nat) (H1 : Heap), va_P X.1 vcl (ws ++ [(q, aI X.2.1.2.1 n)]) H1 → va_D A (ws ++ [(q, aI X.2.1.2.1 n)]) → va_S A H0 H1 locs → W p l e R s m args below meth c H1 locs (cells + 1) (slots + n) Q (F0 m (pc + 2) ls (.ref q :: rest))) : W p l e R s m args below meth c H locs cells slots Q (F0 m pc ls (.int (nI n) :: rest)) :=
  c_newA (ty := .boolean) (a0 := (n, .inl (fun _ => nI 0))) (cA0 := X.2.1.2.1) cf hK rfl w_558 (fun cA h => Option.some.inj (Eq.trans (Eq.symm (show s.vm.findClass ("[" ++ FieldType.boolean.toString) = some cA from h)) (show s.vm.findClass ("[" ++ FieldType.boolean.toString) = some X.2.1.2.1 from (hK.2 1 (X.2.1.2.1, .boolean) rfl).2))) (fun _ => rfl) hn (by decide) hP hD hS hA hcells hslots hdg kk
theorem c_newL (cf : CallFix p m c cc nL s args Mst own) (hK : XK X s) {n : Nat} (hn : n ≤ 1000) (hP : va_P X.1 vcl ws H) (hD : va_D A ws) (hS : va_S A H0 H locs) (hA : ∀ q, H0.size ≤ q → A q) (hcells : cells + 1 ≤ R.cells) (hslots : slots + n ≤ R.slots) (hdg : decode cc pc = .ok (.newarray .long, 2)) (kk : ∀ (q : Nat) (H1 : Heap), va_P X.1 vcl (ws ++ [(q, .inl (X.2.1.2.2.1, n, .inr (.inl (fun _ => lN 0))))]) H1 → va_D A (ws ++ [(q, .inl (X.2.1.2.2.1, n, .inr (.inl (fun _ => lN 0))))]) → va_S A H0 H1 locs → W p l e R s m args below meth c H1 locs (cells + 1) (slots + n) Q (F0 m (pc + 2) ls (.ref q :: rest))) : W p l e R s m args below meth c H locs cells slots Q (F0 m pc ls (.int (nI n) :: rest)) :=
  c_newA (ty := .long) (a0 := (n, .inr (.inl (fun _ => lN 0)))) (cA0 := X.2.1.2.2.1) cf hK rfl w_138 (fun cA h => Option.some.inj (Eq.trans (Eq.symm (show s.vm.findClass ("[" ++ FieldType.long.toString) = some cA from h)) (show s.vm.findClass ("[" ++ FieldType.long.toString) = some X.2.1.2.2.1 from (hK.2 2 (X.2.1.2.2.1, .long) rfl).2))) (fun _ => rfl) hn (by decide) hP hD hS hA hcells hslots hdg kk
theorem c_putF (cf : CallFix p m c cc nL s args Mst own) (hin2 : meth.name = "<init>") {C : String} {T : u_T} {N ci index : Nat} (hin : ∀ w ∈ u_ws C T N, w ∈ Mst) (ty0 : Nat → FieldType) (hty : ∀ k, k < N → parseFieldDescriptor (T k).2.2.1 = some (ty0 k)) (hnm : ∀ a, a < N → ∀ b, b < N → a ≠ b → (T a).2.1 ≠ (T b).2.1) (hc : vcl[ci]? = some (C, T, N)) (hK : XK X s) {a : Nat} {fs : List Value} {R0 : va_W} (hP : va_P X.1 vcl ((a, .inr (ci, fs)) :: R0) H) (hD : va_D A ((a, .inr (ci, fs)) :: R0)) (hS : va_S A H0 H locs) (k : Nat) (hk : k < N) (hl : Cond.fieldLink own index (T k).1 (T k).2.1 (T k).2.2.1 ∈ Mst) (hfin : (T k).2.2.2 = true) (hdecl : (T k).1 = own) {ty : FieldType} {v : Value} (hd : parseFieldDescriptor (T k).2.2.1 = some ty) (hn : narrow ty v = v) (hfit : fits ty v = true) (hlen : k < fs.length) (hdg : decode cc pc = .ok (.putfield index, 3)) (kk : ∀ (H1 : Heap) (locs1 : List Loc), va_P X.1 vcl ((a, .inr (ci, fs.set k v)) :: R0) H1 → va_D A ((a, .inr (ci, fs.set k v)) :: R0) → va_S A H0 H1 locs1 → W p l e R s m args below meth c H1 locs1 cells slots Q (F0 m (pc + 3) ls rest)) : W p l e R s m args below meth c H locs cells slots Q (F0 m pc ls (v :: .ref a :: rest)) :=
  va_putF (ty := ty) (v := v) cf.1 cf.2.1 cf.2.2.2.2 hin ty0 hty hnm cf.2.2.2.1 hK hP hD hS 0 rfl hc k hk (cf.2.2.2.2 _ hl) (fun _ h => h) hfin hin2 hdecl hd hn hfit hlen hdg kk
theorem c_put (cf : CallFix p m c cc nL s args Mst own) {C : String} {T : u_T} {N ci index : Nat} (hin : ∀ w ∈ u_ws C T N, w ∈ Mst) (ty0 : Nat → FieldType) (hty : ∀ k, k < N → parseFieldDescriptor (T k).2.2.1 = some (ty0 k)) (hnm : ∀ a, a < N → ∀ b, b < N → a ≠ b → (T a).2.1 ≠ (T b).2.1) (hc : vcl[ci]? = some (C, T, N)) (hK : XK X s) {a : Nat} {fs : List Value} {R0 : va_W} (hP : va_P X.1 vcl ((a, .inr (ci, fs)) :: R0) H) (hD : va_D A ((a, .inr (ci, fs)) :: R0)) (hS : va_S A H0 H locs) (k : Nat) (hk : k < N) (hl : Cond.fieldLink own index (T k).1 (T k).2.1 (T k).2.2.1 ∈ Mst) (hfin : (T k).2.2.2 = false) {ty : FieldType} {v : Value} (hd : parseFieldDescriptor (T k).2.2.1 = some ty) (hn : narrow ty v = v) (hfit : fits ty v = true) (hlen : k < fs.length) (hdg : decode cc pc = .ok (.putfield index, 3)) (kk : ∀ (H1 : Heap) (locs1 : List Loc), va_P X.1 vcl ((a, .inr (ci, fs.set k v)) :: R0) H1 → va_D A ((a, .inr (ci, fs.set k v)) :: R0) → va_S A H0 H1 locs1 → W p l e R s m args below meth c H1 locs1 cells slots Q (F0 m (pc + 3) ls rest)) : W p l e R s m args below meth c H locs cells slots Q (F0 m pc ls (v :: .ref a :: rest)) :=
  va_put (ty := ty) (v := v) cf.1 cf.2.1 cf.2.2.2.2 hin ty0 hty hnm cf.2.2.2.1 hK hP hD hS 0 rfl hc k hk (cf.2.2.2.2 _ hl) (fun _ h => h) hfin hd hn hfit hlen hdg kk
theorem c_get (cf : CallFix p m c cc nL s args Mst own) {C : String} {T : u_T} {N ci index : Nat} (hin : ∀ w ∈ u_ws C T N, w ∈ Mst) (hc : vcl[ci]? = some (C, T, N)) (hK : XK X s) {a : Nat} {fs : List Value} {R0 : va_W} (hP : va_P X.1 vcl ((a, .inr (ci, fs)) :: R0) H) (k : Nat) (hk : k < N) (hl : Cond.fieldLink own index (T k).1 (T k).2.1 (T k).2.2.1 ∈ Mst) {v : Value} (hv : fs[k]? = some v) (hdg : decode cc pc = .ok (.getfield index, 3)) (kk : W p l e R s m args below meth c H locs cells slots Q (F0 m (pc + 3) ls (v :: rest))) : W p l e R s m args below meth c H locs cells slots Q (F0 m pc ls (.ref a :: rest)) :=
  va_get cf.1 cf.2.1 cf.2.2.2.2 hin cf.2.2.2.1 hK hP 0 rfl hc k hk (cf.2.2.2.2 _ hl) (fun _ h => h) hv hdg kk
theorem c_new (cf : CallFix p m c cc nL s args Mst own) {C : String} {T : u_T} {N ci index : Nat} (hin : ∀ w ∈ u_ws C T N, w ∈ Mst) (ty0 : Nat → FieldType) (hty : ∀ k, k < N → parseFieldDescriptor (T k).2.2.1 = some (ty0 k)) (hc : vcl[ci]? = some (C, T, N)) (hcl : Cond.classLink own index C ∈ Mst) (hinst : Cond.instantiable C N ∈ Mst) (hini : Cond.initialized C ∈ Mst) (hK : XK X s) (hP : va_P X.1 vcl ws H) (hD : va_D A ws) (hS : va_S A H0 H locs) (hA : ∀ q, H0.size ≤ q → A q) {fs : List Value} (hfs : ∀ j, j < N → defaultValue (ty0 j) = vp_V fs j) (hcells : cells + 1 ≤ R.cells) (hslots : slots + N ≤ R.slots) (hdg : decode cc pc = .ok (.new index, 3)) (kk : ∀ (q : Nat) (H1 : Heap), va_P X.1 vcl (ws ++ [(q, .inr (ci, fs))]) H1 → va_D A (ws ++ [(q, .inr (ci, fs))]) → va_S A H0 H1 locs → W p l e R s m args below meth c H1 locs (cells + 1) (slots + N) Q (F0 m (pc + 3) ls (.ref q :: rest))) : W p l e R s m args below meth c H locs cells slots Q (F0 m pc ls rest) :=
  va_new (c0 := c) cf.1 cf.2.1 cf.2.2.2.2 hin ty0 hty cf.2.2.2.1 (cf.2.2.2.2 _ hcl) (cf.2.2.2.2 _ hinst) (cf.2.2.2.2 _ hini) hK hP hD hS hA hc hfs hcells hslots hdg kk
theorem c_vret {mc ms k0 h0 : Nat} {Wn : (Nat → Nat) → va_W} (cf : CallFix p m c cc nL s args Mst own) (hr : meth.sig.returnType = none) (hlk : meth.locks = false) (hc : cells ≤ mc) (hs : slots ≤ ms) (u : Nat → Nat) (hu : u k0 = h0) (hP : va_P X.1 vcl (Wn u) H) (hD : va_D A (Wn u)) (hS : va_S A s.heap H locs) (hdg : decode cc pc = .ok (.return_, 1)) : W p l e R s m args below meth c H locs cells slots (MQ below (QcC X k0 h0 Wn A) args s mc ms A) (F0 m pc ls []) :=
  W.widen hc hs (W.vret (Qc := QcC X k0 h0 Wn A) cf.1 cf.2.1 hr (fun t ht _ => ⟨⟨u, rfl, hu, by rw [ht]; exact hP, hD⟩, hS.F ht⟩) hS.2.2 hdg hlk)
theorem c_callI {y : MethodName} {maxL d mc ms k0 ci n index : Nat} {As fs0 st0 : List Value} {Wn : (Nat → Nat) → va_W} {bytes : ByteArray} {h : Nat} (cf : CallFix p m c cc nL s args Mst own) (hK : XK X s) (hC : CWs s) (hP : va_P X.1 vcl (ws ++ [(h, .inr (ci, fs0))]) H) (hD : va_D A (ws ++ [(h, .inr (ci, fs0))])) (hS : va_S A H0 H locs) (hA : ∀ q, H0.size ≤ q → A q) (hM : MetC l X y bytes maxL d mc ms k0 As ci fs0 Wn) (cw : CallB R s args own index y bytes maxL none (Cond.code y bytes maxL none :: Mst) (rmc d mc ms) mc ms n ∧ y.name = "<init>" ∧ (Cond.instanceMethod y).before args s = true) (hn : As.length = n) (hsize : ls.size = nL) (hst : st0 = As.reverse ++ .ref h :: rest) (hrest : (rest.map fun v => v.category).sum ≤ 8) (hcs : cells + mc ≤ R.cells ∧ slots + ms ≤ R.slots) (hdg : decode cc pc = .ok (.invokespecial index, 3)) (kk : ∀ (u : Nat → Nat) (H1 : Heap) (locs1 : List Loc), u k0 = h → va_P X.1 vcl (ws ++ Wn u) H1 → va_D A (ws ++ Wn u) → va_S A H0 H1 locs1 → W p l e R s m args below meth c H1 locs1 (cells + mc) (slots + ms) Q (F0 m (pc + 3) ls rest)) : W p l e R s m args below meth c H locs cells slots Q (F0 m pc ls st0) := by
  have hFc := F_last hD hS hA
  refine va_callv (va_runI (b := h) (As := As) (rest := rest) cf (hM h H.size) cw ⟨PreC.blind, fun U hU hW => ⟨rfl, by rw [hU], by rw [hU]; exact P_last hP, va_K.moved hW.alike hK, CWs.warm hW hC⟩⟩ rfl hn hsize hst (lv_room hrest) hdg hcs) hS (fun q _ h => hFc q h) hFc (fun u t H1 locs1 ht hvm hu hB hz1 hk1 hS1 => ?_)
  obtain ⟨hP1, hD1⟩ := hB
  rw [ht] at hP1
  obtain ⟨hP2, hD2⟩ := join_last hP hD hk1 hFc hP1 hD1
  exact kk u H1 locs1 hu hP2 hD2 hS1
theorem c_callIN {y : MethodName} {maxL d mc ms k0 ci n index : Nat} {As fs0 st0 : List Value} {Wn : (Nat → Nat) → va_W} {bytes : ByteArray} {h : Nat} {host : String} (cf : CallFix p m c cc nL s args Mst own) (hK : XK X s) (hC : CWs s) (hP : va_P X.1 vcl (ws ++ [(h, .inr (ci, fs0))]) H) (hD : va_D A (ws ++ [(h, .inr (ci, fs0))])) (hS : va_S A H0 H locs) (hA : ∀ q, H0.size ≤ q → A q) (hM : MetC l X y bytes maxL d mc ms k0 As ci fs0 Wn) (cw : va_CN R s args own index y host bytes maxL none (Cond.code y bytes maxL none :: Mst) (rmc d mc ms) mc ms n ∧ y.name = "<init>" ∧ (Cond.instanceMethod y).before args s = true) (hn : As.length = n) (hsize : ls.size = nL) (hst : st0 = As.reverse ++ .ref h :: rest) (hrest : (rest.map fun v => v.category).sum ≤ 8) (hcs : cells + mc ≤ R.cells ∧ slots + ms ≤ R.slots) (hdg : decode cc pc = .ok (.invokespecial index, 3)) (kk : ∀ (u : Nat → Nat) (H1 : Heap) (locs1 : List Loc), u k0 = h → va_P X.1 vcl (ws ++ Wn u) H1 → va_D A (ws ++ Wn u) → va_S A H0 H1 locs1 → W p l e R s m args below meth c H1 locs1 (cells + mc) (slots + ms) Q (F0 m (pc + 3) ls rest)) : W p l e R s m args below meth c H locs cells slots Q (F0 m pc ls st0) := by
  have hFc := F_last hD hS hA
  refine va_callv (va_runIN (b := h) (As := As) (rest := rest) cf (hM h H.size) cw ⟨PreC.blind, fun U hU hW => ⟨rfl, by rw [hU], by rw [hU]; exact P_last hP, va_K.moved hW.alike hK, CWs.warm hW hC⟩⟩ rfl hn hsize hst (lv_room hrest) hdg hcs) hS (fun q _ h => hFc q h) hFc (fun u t H1 locs1 ht hvm hu hB hz1 hk1 hS1 => ?_)
  obtain ⟨hP1, hD1⟩ := hB
  rw [ht] at hP1
  obtain ⟨hP2, hD2⟩ := join_last hP hD hk1 hFc hP1 hD1
  exact kk u H1 locs1 hu hP2 hD2 hS1
end CT
