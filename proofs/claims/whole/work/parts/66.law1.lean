/-! the law: cell(script, k); a number of the script -/
section LW
variable {p : Program} {l : Launch} {e : Env} {R : Room} {s : State} {m : MethodId} {args : Array Value} {below : List Frame} {meth : Method} {c : Code} {H : Heap} {locs : List Loc} {cells slots : Nat} {Q : State → Prop}
variable {cc : ByteArray} {pc : Nat} {ls : Array Slot} {rest : List Value} {nL : Nat} {own : String} {X : WX} {ws : va_W} {A : Nat → Prop} {H0 : Heap} {b L : Nat} {xs : Nat → Int32}
def cellv (xs : Nat → Int32) (L k : Nat) : Int32 := if k < L then xs k else 0
def MetX (l : Launch) (b L : Nat) (xs : Nat → Int32) (k : Nat) : Prop := Met l y_L_cell (Cond.code y_L_cell c_L_cell 2 (some .int) :: Mst) (rmd 0) (va_Pc [.ref b, .int (nI k)] (fun U => va_X b L xs U U.heap)) (QcP (cellv xs L k)) 0 0 (fun _ => False)
set_option maxRecDepth 100000 in
set_option maxHeartbeats 4000000 in
theorem k_L_cell (l : Launch) (hL : L < 2 ^ 31) {k : Nat} (hk : k < 2 ^ 31) : MetX l b L xs k := by
  refine Met.ofW (cc := c_L_cell) (maxL := 2) (ret := some .int) (by decide) rfl ?_
  intro p e s m args below meth c s₁ B hml hv
  obtain ⟨rfl, hX⟩ := hv
  have hts := atoms_spec (ws := Cond.code y_L_cell c_L_cell 2 (some .int) :: Mst) B.pre
  have hl := lv_entry ([.ref b, .int (nI k)]) (n := 2) (Nat.le_of_ble_eq_true rfl)
  rw [lg_entry_eq]
  generalize (lg_sl ([.ref b, .int (nI k)]) ++ List.replicate (2 - (lg_sl ([.ref b, .int (nI k)])).length) Slot.unset).toArray = ls at hl ⊢
  have hl : lv_has ls 2 [(0, .ref b), (1, .int (nI k))] := hl
  have hx := B.exec
  have hb := B.bytes
  have cf : CallFix p m c c_L_cell 2 s _ Mst y_L_cell.cls := ⟨B.exec, B.bytes, hml, findClass_of_methodNamed B.named, fun w h => hts w (List.mem_cons_of_mem _ h)⟩
  have hS : va_S (fun _ => False) s.heap s.heap [] := va_S.rf
  have hbl : b < s.heap.size := by
    obtain ⟨scr, h1, -⟩ := hX
    exact (Array.getElem?_eq_some_iff.mp h1).1
  refine lv_iload_n hx hb d_L_cell_0 rfl (lv_at hl 1 rfl) ?_
  refine lv_aload_n hx hb d_L_cell_1 rfl (lv_at hl 0 rfl) ?_
  refine va_slen hx hb hX hbl (fun h => h) hS d_L_cell_2 ?_
  refine n_icmp_ge (a := k) (b := L) (tgt := 12) hx hb d_L_cell_3 (by decide) hk hL (fun h1 => ?_) (fun h1 => ?_)
  · refine lv_iconst (v := 0) hx hb d_L_cell_12 (by decide) ?_
    exact p_iret cf B.returns B.notSynchronized (by unfold cellv; rw [if_neg (by omega)]) d_L_cell_13
  · refine lv_aload_n hx hb d_L_cell_6 rfl (lv_at hl 0 rfl) ?_
    refine lv_iload_n hx hb d_L_cell_7 rfl (lv_at hl 1 rfl) ?_
    refine va_sld hx hb hX hbl (fun h => h) hS (vp_in_nI h1 hL) d_L_cell_8 ?_
    refine lv_goto (tgt := 13) hx hb d_L_cell_9 (by decide) ?_
    exact p_iret cf B.returns B.notSynchronized (by unfold cellv; rw [if_pos h1, nI_clamp hk]) d_L_cell_13
theorem c_callX {k : Nat} {st0 : List Value} (cf : CallFix p m c cc nL s args Mst "ThreeChainLedgerLaw") (hP : va_P X.1 vcl ws H) (hS : va_S A H0 H locs) (hX : va_X b L xs s H0) (hbl : b < H0.size) (hbA : ¬ A b) (hL : L < 2 ^ 31) (hk : k < 2 ^ 31) (hR : 0 + 1 ≤ R.frames ∧ 8 + (2 + 11) + 34 * 0 ≤ R.locals) (hsize : ls.size = nL) (hst : st0 = .int (nI k) :: .ref b :: rest) (hrest : (rest.map fun v => v.category).sum ≤ 8) (hcs : cells ≤ R.cells ∧ slots ≤ R.slots) (hdg : decode cc pc = .ok (.invokestatic 9, 3)) (kk : ∀ (H1 : Heap) (locs1 : List Loc), va_P X.1 vcl ws H1 → va_S A H0 H1 locs1 → W p l e R s m args below meth c H1 locs1 cells slots Q (F0 m (pc + 3) ls (.int (cellv xs L k) :: rest))) : W p l e R s m args below meth c H locs cells slots Q (F0 m pc ls st0) := by
  have cw : CallB R s args "ThreeChainLedgerLaw" 9 y_L_cell c_L_cell 2 (some .int) (Cond.code y_L_cell c_L_cell 2 (some .int) :: Mst) (rmd 0) 0 0 2 ∧ (Cond.static y_L_cell).before args s = true := va_cwS 2 cf.2.2.2.2 (gT w_452 w_453 w_0 w_454) rfl rfl rfl ⟨by decide, by decide, by decide +kernel⟩ hR
  have hXH : va_X b L xs s H := hX.kept (hS.2.1 b hbl hbA)
  refine va_calli (va_runS (As := [.ref b, .int (nI k)]) (rest := rest) cf (k_L_cell (b := b) (xs := xs) l hL hk) cw ⟨fun a U g mk q => ⟨q.1, va_X.moved (u := U) (U := U.calling g mk a) (Vm.Alike.refl U.vm) q.2⟩, fun U hU hW => ⟨rfl, by show va_X b L xs U U.heap; rw [hU]; exact va_X.moved hW.alike hXH⟩⟩ rfl rfl hsize hst (lv_room hrest) hdg ⟨hcs.1, hcs.2⟩) hS (fun q _ h => h.elim) (fun q h => h.elim) (fun r2 u t H1 locs1 ht hvm hp hB hz hk hS1 => ?_)
  subst hp
  exact kk H1 locs1 (hP.kept (fun k q hq => hk q.1 ((hP k q hq).lt) id)) hS1
/-- script[i + j] -/
theorem l_arg {i j : Nat} {z : Int} {r1 r2 : Nat} (cf : CallFix p m c code 4 s args Mst "ThreeChainLedgerLaw") (hl : lv_has ls 4 [(0, .ref b), (1, .ref r1), (2, .ref r2), (3, .int (nI i))]) (hX : va_X b L xs s H0) (hbl : b < H0.size) (hbA : ¬ A b) (hS : va_S A H0 H locs) (hj : i + j < L) (hL : L < 2 ^ 31) (hz : Int32.ofInt z = nI j) (d0 : decode code pc = .ok (.aload_n 0, 1)) (d1 : decode code (pc + 1) = .ok (.iload_n 3, 1)) (d2 : decode code (pc + 1 + 1) = .ok (.iconst z, 1)) (d3 : decode code (pc + 1 + 1 + 1) = .ok (.iadd, 1)) (d4 : decode code (pc + 1 + 1 + 1 + 1) = .ok (.iaload, 1)) (kk : W p l e R s m args below meth c H locs cells slots Q (F0 m (pc + 5) ls (.int (xs (i + j)) :: rest))) : W p l e R s m args below meth c H locs cells slots Q (F0 m pc ls rest) := by
  refine lv_aload_n cf.1 cf.2.1 d0 rfl (lv_at hl 0 rfl) ?_
  refine lv_iload_n cf.1 cf.2.1 d1 rfl (lv_at hl 3 rfl) ?_
  refine lv_iconst (v := nI j) cf.1 cf.2.1 d2 hz ?_
  refine n_iadd cf.1 cf.2.1 d3 ?_
  refine va_sld cf.1 cf.2.1 hX hbl hbA hS (vp_in_nI hj hL) d4 ?_
  rw [nI_clamp (Nat.lt_trans hj hL)]
  exact kk
end LW
/-- what holds at the head of the law's loop, but for its number of steps -/
def LwS (p : Program) (m : MethodId) (c : Code) (s : State) (args : Array Value) (ls : Array Slot) (H : Heap) (X : WX) (S : Nat → Nat → Nat) (b L V i : Nat) (xs : Nat → Int32) (cells slots : Nat) : Prop := CallFix p m c code 4 s args Mst "ThreeChainLedgerLaw" ∧ xInj X ∧ XK X s ∧ NWs s ∧ PW X S H ∧ KV V X S ∧ V + 1 ≤ 20000 ∧ va_X b L xs s H ∧ b < H.size ∧ ¬ xA X b ∧ i + 4 < L ∧ L < 2 ^ 31 ∧ lv_has ls 4 [(0, .ref b), (1, .ref (X.2.2.2 25)), (2, .ref (X.2.2.2 0)), (3, .int (nI i))] ∧ cells ≤ room_1.cells ∧ slots ≤ room_1.slots
/-- what the two calls leave -/
def LwN (p : Program) (l : Launch) (e : Env) (s : State) (m : MethodId) (args : Array Value) (below : List Frame) (meth : Method) (c : Code) (ls : Array Slot) (H : Heap) (cells slots : Nat) (Q : State → Prop) (X : WX) (V : Nat) : Prop := ∀ (H1 : Heap) (locs1 : List Loc) (S1 : Nat → Nat → Nat), PW X S1 H1 → va_S (xA X) H H1 locs1 → KV (V + 1) X S1 → W p l e room_1 s m args below meth c H1 locs1 cells slots Q (F0 m 746 ls [])
