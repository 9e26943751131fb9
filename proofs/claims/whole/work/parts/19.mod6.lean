theorem n_iincr {p : Program} {l : Launch} {e : Env} {R : Room} {s : State} {m : MethodId} {args : Array Value} {below : List Frame} {meth : Method} {c : Code} {H : Heap} {locs : List Loc} {cells slots : Nat} {Q : State → Prop} {cc : ByteArray} {pc : Nat} {ls : Array Slot} {rest : List Value} (hx : p.tables.exec = Jvm.exec) (hb : c.code = cc) {i nL k a : Nat} {lv lv' : List (Nat × Value)} (hdg : decode cc pc = .ok (.iinc i (-1), 3)) (h : lv_has ls nL lv) (hk : lv[k]? = some (i, .int (nI a))) (hn : i < nL) (hl : (i, Value.int (nI a - 1)) :: lv.filter (fun q => !(q.1 == i) && !(q.1 + 1 == i && q.2.category == 2)) = lv') (kk : ∀ ls' : Array Slot, lv_has ls' nL lv' → W p l e R s m args below meth c H locs cells slots Q (F0 m (pc + 3) ls' rest)) : W p l e R s m args below meth c H locs cells slots Q (F0 m pc ls rest) :=
  lv_iinc hx hb hdg h hk (by rw [show Int32.ofInt (-1) = (-1 : Int32) from by decide, Int32.sub_eq_add_neg]) hn hl kk
theorem dec_neg {k : Nat} (hk : k < 2 ^ 31) : (nI k - 1 : Int32) < 0 ↔ k = 0 := by
  cases k with
  | zero => exact ⟨fun _ => rfl, fun _ => by decide⟩
  | succ j =>
    rw [nI_pred]
    exact ⟨fun h => absurd h (nI_pos (by omega)), fun h => by omega⟩
-- how deep a block lies, and the places of its chain
def mDep (S : Nat → Nat → Nat) : Nat → Nat → Nat
  | 0, _ => 0
  | f + 1, x => if x = 0 then 0 else mDep S f (S 6 x) + 1
def pth (S : Nat → Nat → Nat) (x : Nat) : Nat → Nat
  | 0 => x
  | k + 1 => S 6 (pth S x k)
def mLen (S : Nat → Nat → Nat) (r : Nat) : Nat := 1 + mDep S 40 (mTip S r)
def mLayF (S : Nat → Nat → Nat) (x len k : Nat) (T : Nat → Nat → Nat) : Nat → Nat → Nat := up2 T 22 (len - 1 - k) (pth S x k)
def mLay (S : Nat → Nat → Nat) (r : Nat) : Nat → Nat → Nat := itr (mLayF S (mTip S r) (mLen S r)) 0 S (mLen S r)
theorem ParOk.lt {S : Nat → Nat → Nat} {bl x : Nat} (h : ParOk S bl) (hx : x < bl) : S 6 x < bl := by
  by_cases h0 : x = 0
  · subst h0
    rw [h.1]
    exact hx
  · have := h.2 x (by omega) hx
    omega
theorem mDep_le {S : Nat → Nat → Nat} {bl : Nat} (h : ParOk S bl) : ∀ f x, x < bl → mDep S f x ≤ x
  | 0, x, _ => Nat.zero_le _
  | f + 1, x, hx => by
    show (if x = 0 then 0 else mDep S f (S 6 x) + 1) ≤ x
    split
    · omega
    · have h1 := h.2 x (by omega) hx
      have h2 := mDep_le h f (S 6 x) (by omega)
      omega
theorem mTip_bl {V : Nat} {S : Nat → Nat → Nat} (hI : IW V S) (h : ParOk S (S 0 5)) (r : Nat) : mTip S r < S 0 5 := by
  have hb := hI.b
  have key : ∀ k, k ≤ S 0 5 - 1 → itr (mTipF S r) 1 0 k < S 0 5 := by
    intro k
    induction k with
    | zero => intro _; show 0 < S 0 5; omega
    | succ k ih =>
      intro hk
      have ih := ih (by omega)
      rw [itr_s]
      generalize itr (mTipF S r) 1 0 k = z at ih ⊢
      unfold mTipF
      split
      · exact h.lt (h.lt (by omega))
      · exact ih
  exact key _ (Nat.le_refl _)
theorem IW.layF {V : Nat} {S T : Nat → Nat → Nat} {x len k : Nat} (h : IW V T) (hx : pth S x k < 40) : IW V (mLayF S x len k T) := h.up (k := 22) (by decide) hx
theorem pth_lt {V : Nat} {S : Nat → Nat → Nat} (h : IW V S) {x : Nat} (hx : x < 40) : ∀ k, pth S x k < 40
  | 0 => hx
  | k + 1 => (show S 6 (pth S x k) < 40 from h.c 6 _)
theorem IW.lays {V : Nat} {S : Nat → Nat → Nat} (h : IW V S) {x len : Nat} (hx : x < 40) : ∀ k, IW V (itr (mLayF S x len) 0 S k)
  | 0 => h
  | k + 1 => (IW.lays h hx k).layF (by rw [Nat.zero_add]; exact pth_lt h hx k)
theorem IW.lay {V : Nat} {S : Nat → Nat → Nat} (h : IW V S) (r : Nat) : IW V (mLay S r) := IW.lays h (mTip_lt h r) _
theorem mLays_ne {S : Nat → Nat → Nat} {x len row : Nat} (hr : row ≠ 22) : ∀ k, itr (mLayF S x len) 0 S k row = S row
  | 0 => rfl
  | k + 1 => by
    rw [itr_s]
    unfold mLayF
    rw [up2_ne _ _ _ hr]
    exact mLays_ne hr k
theorem mLay_ne {S : Nat → Nat → Nat} {r row : Nat} (hr : row ≠ 22) : mLay S r row = S row := mLays_ne hr _
def rCommitted (S : Nat → Nat → Nat) (r i : Int32) : Int32 := if mCorrect S r = true ∧ 0 ≤ i.toInt then (if i.toInt < (mLen S r.toNatClampNeg : Int) then nI (mLay S r.toNatClampNeg 22 i.toNatClampNeg) else -1) else -1
def mCommitted (S : Nat → Nat → Nat) (r i : Int32) : Nat → Nat → Nat := if mCorrect S r = true ∧ 0 ≤ i.toInt then mLay S r.toNatClampNeg else S
set_option maxRecDepth 100000 in
set_option maxHeartbeats 4000000 in
theorem k_M_layOut (l : Launch) {X : WX} (hX : xInj X) {S : Nat → Nat → Nat} {V : Nat} (hI : IW V S) {r : Nat} (hr0 : r < 7) (hPar : ParOk S (S 0 5)) : MetI l X y_M_layOut (Cond.code y_M_layOut c_M_layOut 6 (some .int) :: Mst) 1 [.ref (X.2.2.2 0), .int (nI r)] S (nI (mLen S r)) (mLay S r) := by
  refine MetI.of (by decide) (Nat.le_of_ble_eq_true rfl) ?_
  intro p e s m args below meth c cf hr hlk hP hK hN ls hl
  have hl : lv_has ls 6 [(0, .ref (X.2.2.2 0)), (1, .int (nI r))] := hl
  have hx := cf.1
  have hb := cf.2.1
  have hD := xD_of hX
  have hS : va_S (xA X) s.heap s.heap [] := va_S.rf
  have hf := hI.f
  have hn := hI.n
  have hk := hI.k
  have hcs := hI.cs
  have ht := hI.t
  have hbl := hI.b
  have hm := hI.m
  have hV := hI.V
  obtain ⟨H, hH⟩ : ∃ H, H = s.heap := ⟨_, rfl⟩
  obtain ⟨locs, hlo⟩ : ∃ z : List Loc, z = [] := ⟨_, rfl⟩
  suffices hgo : PW X S H → va_S (xA X) s.heap H locs → W p l e (rmd 1) s m args below meth c H locs 0 0 (MQ below (QcI X (nI (mLen S r)) (mLay S r)) args s 0 0 (xA X)) (F0 m 0 ls []) by
    subst hH
    subst hlo
    exact hgo hP hS
  clear hP hS
  intro hP hS
  refine lv_iconst (v := nI 1) hx hb d_M_layOut_0 (by decide) ?_
  refine lv_istore_n (lv' := [(2, .int (nI 1)), (0, .ref (X.2.2.2 0)), (1, .int (nI r))]) hx hb d_M_layOut_1 rfl hl (by decide) rfl (fun ls hl => ?_)
  refine lv_aload_n hx hb d_M_layOut_2 rfl (lv_at hl 1 rfl) ?_
  refine lv_iload_n hx hb d_M_layOut_3 rfl (lv_at hl 2 rfl) ?_
  refine x_callVi (As := [.int (nI r)]) (rest := []) cf hK hN hP hS (k_M_tip l hX hI (by omega)) (cw_M_tip cf.2.2.2.2 w_699 ⟨Nat.le_of_ble_eq_true rfl, Nat.le_of_ble_eq_true rfl⟩) (rv_M hK hP) hl.1 rfl rfl (Nat.le_of_ble_eq_true rfl) ⟨Nat.zero_le _, Nat.zero_le _⟩ d_M_layOut_4 (fun H locs hP hS => ?_)
  have htip := mTip_bl hI hPar r
  refine lv_istore_n (lv' := [(3, .int (nI (mTip S r))), (2, .int (nI 1)), (0, .ref (X.2.2.2 0)), (1, .int (nI r))]) hx hb d_M_layOut_7 rfl hl (by decide) rfl (fun ls hl => ?_)
  refine lv_iload_n hx hb d_M_layOut_8 rfl (lv_at hl 0 rfl) ?_
  refine lv_istore (lv' := [(4, .int (nI (mTip S r))), (3, .int (nI (mTip S r))), (2, .int (nI 1)), (0, .ref (X.2.2.2 0)), (1, .int (nI r))]) hx hb d_M_layOut_9 hl (by decide) rfl (fun ls hl => ?_)
  refine lv_iconst (v := nI 0) hx hb d_M_layOut_11 (by decide) ?_
  refine lv_istore (lv' := [(5, .int (nI 0)), (4, .int (nI (mTip S r))), (3, .int (nI (mTip S r))), (2, .int (nI 1)), (0, .ref (X.2.2.2 0)), (1, .int (nI r))]) hx hb d_M_layOut_12 hl (by decide) rfl (fun ls hl => ?_)
  have lp14 : ∀ (dm : Nat) (len : Nat) (x : Nat) (i : Nat) (ls : Array Slot) (H : Heap) (locs : List Loc), lv_has ls 6 [(0, .ref (X.2.2.2 0)), (1, .int (nI r)), (2, .int (nI len)), (3, .int (nI (mTip S r))), (4, .int (nI x)), (5, .int (nI i))] → PW X S H → va_S (xA X) s.heap H locs → (i ≤ 40) → (len = 1 + i) → (x < S 0 5) → (mDep S 40 (mTip S r) = i + mDep S (40 - i) x) → (40 - i = dm) → W p l e (rmd 1) s m args below meth c H locs 0 0 (MQ below (QcI X (nI (mLen S r)) (mLay S r)) args s 0 0 (xA X)) (F0 m 14 ls []) := by
    intro dm
    induction dm using Nat.strongRecOn with | ind dm lp14 => ?_
    intro len x i ls H locs hl hP hS hi hle hx0 hz hdm
    refine lv_iload hx hb d_M_layOut_14 (lv_at hl 5 rfl) ?_
    refine lv_bipush (v := nI 40) hx hb d_M_layOut_16 (by decide) ?_
    refine n_icmp_ge (tgt := 44) hx hb d_M_layOut_18 (by decide) (by omega) (by decide) (fun h1 => ?_) (fun h1 => ?_)
    · skip
      have hlen : mLen S r = len := by first | (unfold mLen; rw [hz, show 40 - i = 0 by omega]; show 1 + (i + 0) = len; omega) | (unfold mLen; rw [hz, show x = 0 by omega, show 40 - i = (40 - (i + 1)) + 1 by omega]; show 1 + (i + 0) = len; omega)
      have hdl := mDep_le hPar 40 _ htip
      have hlen40 : len ≤ 40 := by unfold mLen at hlen; omega
      refine lv_iload_n hx hb d_M_layOut_44 rfl (lv_at hl 3 rfl) ?_
      refine lv_istore (lv' := [(4, .int (nI (mTip S r))), (0, .ref (X.2.2.2 0)), (1, .int (nI r)), (2, .int (nI len)), (3, .int (nI (mTip S r))), (5, .int (nI i))]) hx hb d_M_layOut_45 hl (by decide) rfl (fun ls hl => ?_)
      refine lv_iload_n hx hb d_M_layOut_47 rfl (lv_at hl 3 rfl) ?_
      refine lv_iconst (v := nI 1) hx hb d_M_layOut_48 (by decide) ?_
      refine n_isub hx hb (by omega) d_M_layOut_49 ?_
      rw [show nI (len - 1) = (nI len - 1) from (by rw [← pk_sub (by omega)]; rfl)]
      refine lv_istore (lv' := [(5, .int (nI len - 1)), (4, .int (nI (mTip S r))), (0, .ref (X.2.2.2 0)), (1, .int (nI r)), (2, .int (nI len)), (3, .int (nI (mTip S r)))]) hx hb d_M_layOut_50 hl (by decide) rfl (fun ls hl => ?_)
      have lp52 : ∀ (dm : Nat) (k : Nat) (x2 : Nat) (T : Nat → Nat → Nat) (ls : Array Slot) (H : Heap) (locs : List Loc), lv_has ls 6 [(0, .ref (X.2.2.2 0)), (1, .int (nI r)), (2, .int (nI len)), (4, .int (nI x2)), (5, .int (nI k - 1))] → PW X T H → va_S (xA X) s.heap H locs → (k ≤ len) → (IW V T) → (x2 = pth S (mTip S r) (len - k)) → (T 6 = S 6) → (T = itr (mLayF S (mTip S r) len) 0 S (len - k)) → (k = dm) → W p l e (rmd 1) s m args below meth c H locs 0 0 (MQ below (QcI X (nI (mLen S r)) (mLay S r)) args s 0 0 (xA X)) (F0 m 52 ls []) := by
        intro dm
        induction dm using Nat.strongRecOn with | ind dm lp52 => ?_
        intro k x2 T ls H locs hl hP hS hk hIT hx2 hT6 hzT hdm
        have hx40 : x2 < 40 := by rw [hx2]; exact pth_lt hI (mTip_lt hI r) _
        refine lv_iload hx hb d_M_layOut_52 (lv_at hl 4 rfl) ?_
        refine lv_if_lt (tgt := 81) hx hb d_M_layOut_54 (by decide) (fun h2 => ?_) (fun h2 => ?_)
        · skip
          have uh2 := i_lt0 h2
          have hk0 : k = 0 := (dec_neg (by omega)).mp h2
          refine lv_iload_n hx hb d_M_layOut_81 rfl (lv_at hl 2 rfl) ?_
          exact x_iret cf hr hlk hP hS (by rw [hlen]) (by unfold mLay; rw [hlen, hzT, hk0]; rfl) d_M_layOut_82
        · skip
          have uh2 := i_nlt0 h2
          obtain ⟨k', rfl⟩ : ∃ q, k = q + 1 := ⟨k - 1, by have : ¬ k = 0 := fun q => h2 ((dec_neg (by omega)).mpr q); omega⟩
          rw [nI_pred] at hl
          refine lv_aload_n hx hb d_M_layOut_57 rfl (lv_at hl 0 rfl) ?_
          refine x_getM (v := .ref (X.2.2.2 22)) cf hK hP 29 (by decide) w_490 rfl d_M_layOut_58 ?_
          refine lv_iload hx hb d_M_layOut_61 (lv_at hl 4 rfl) ?_
          refine lv_iload hx hb d_M_layOut_63 (lv_at hl 3 rfl) ?_
          refine x_iast cf hK hD hP hS (ia22 X) (by omega) d_M_layOut_65 (fun H locs hP hS => ?_)
          refine lv_aload_n hx hb d_M_layOut_66 rfl (lv_at hl 0 rfl) ?_
          refine x_getM (v := .ref (X.2.2.2 6)) cf hK hP 11 (by decide) w_472 rfl d_M_layOut_67 ?_
          refine lv_iload hx hb d_M_layOut_70 (lv_at hl 3 rfl) ?_
          refine x_iald (v := (T 6 x2)) cf hK hP (ia6 X) (by omega) (by simp [up2_at]) d_M_layOut_72 ?_
          refine lv_istore (lv' := [(4, .int (nI (T 6 x2))), (0, .ref (X.2.2.2 0)), (1, .int (nI r)), (2, .int (nI len)), (5, .int (nI k'))]) hx hb d_M_layOut_73 hl (by decide) rfl (fun ls hl => ?_)
          refine n_iincr (lv' := [(5, .int (nI k' - 1)), (4, .int (nI (T 6 x2))), (0, .ref (X.2.2.2 0)), (1, .int (nI r)), (2, .int (nI len))]) (k := 4) hx hb d_M_layOut_75 hl rfl (by decide) rfl (fun ls hl => ?_)
          refine lv_goto (tgt := 52) hx hb d_M_layOut_78 (by decide) ?_
          exact lp52 _ (by omega) k' (T 6 x2) (up2 T 22 k' x2) ls H locs (lv_sub hl [2, 3, 4, 1, 0] rfl) hP hS (by omega) (hIT.up (k := 22) (by decide) (show x2 < 40 by rw [hx2]; exact pth_lt hI (mTip_lt hI r) _)) (by rw [hT6, hx2, show len - k' = (len - (k' + 1)) + 1 by omega]; rfl) (by rw [up2_ne _ _ _ (by decide)]; exact hT6) (by rw [show len - k' = (len - (k' + 1)) + 1 by omega, itr_z, ← hzT]; unfold mLayF; rw [← hx2, show len - 1 - (len - (k' + 1)) = k' by omega]) rfl
      exact lp52 _ len (mTip S r) S ls H locs (lv_sub hl [2, 3, 4, 1, 0] rfl) hP hS (by omega) (hI) (by rw [Nat.sub_self]; rfl) (rfl) (by rw [Nat.sub_self]; rfl) rfl
    · skip
      refine lv_iload hx hb d_M_layOut_21 (lv_at hl 4 rfl) ?_
      refine n_if_eq (tgt := 44) hx hb d_M_layOut_23 (by decide) (by omega) (fun h3 => ?_) (fun h3 => ?_)
      · skip
        have hlen : mLen S r = len := by first | (unfold mLen; rw [hz, show 40 - i = 0 by omega]; show 1 + (i + 0) = len; omega) | (unfold mLen; rw [hz, show x = 0 by omega, show 40 - i = (40 - (i + 1)) + 1 by omega]; show 1 + (i + 0) = len; omega)
        have hdl := mDep_le hPar 40 _ htip
        have hlen40 : len ≤ 40 := by unfold mLen at hlen; omega
        refine lv_iload_n hx hb d_M_layOut_44 rfl (lv_at hl 3 rfl) ?_
        refine lv_istore (lv' := [(4, .int (nI (mTip S r))), (0, .ref (X.2.2.2 0)), (1, .int (nI r)), (2, .int (nI len)), (3, .int (nI (mTip S r))), (5, .int (nI i))]) hx hb d_M_layOut_45 hl (by decide) rfl (fun ls hl => ?_)
        refine lv_iload_n hx hb d_M_layOut_47 rfl (lv_at hl 3 rfl) ?_
        refine lv_iconst (v := nI 1) hx hb d_M_layOut_48 (by decide) ?_
        refine n_isub hx hb (by omega) d_M_layOut_49 ?_
        rw [show nI (len - 1) = (nI len - 1) from (by rw [← pk_sub (by omega)]; rfl)]
        refine lv_istore (lv' := [(5, .int (nI len - 1)), (4, .int (nI (mTip S r))), (0, .ref (X.2.2.2 0)), (1, .int (nI r)), (2, .int (nI len)), (3, .int (nI (mTip S r)))]) hx hb d_M_layOut_50 hl (by decide) rfl (fun ls hl => ?_)
        have lp52 : ∀ (dm : Nat) (k : Nat) (x2 : Nat) (T : Nat → Nat → Nat) (ls : Array Slot) (H : Heap) (locs : List Loc), lv_has ls 6 [(0, .ref (X.2.2.2 0)), (1, .int (nI r)), (2, .int (nI len)), (4, .int (nI x2)), (5, .int (nI k - 1))] → PW X T H → va_S (xA X) s.heap H locs → (k ≤ len) → (IW V T) → (x2 = pth S (mTip S r) (len - k)) → (T 6 = S 6) → (T = itr (mLayF S (mTip S r) len) 0 S (len - k)) → (k = dm) → W p l e (rmd 1) s m args below meth c H locs 0 0 (MQ below (QcI X (nI (mLen S r)) (mLay S r)) args s 0 0 (xA X)) (F0 m 52 ls []) := by
          intro dm
          induction dm using Nat.strongRecOn with | ind dm lp52 => ?_
          intro k x2 T ls H locs hl hP hS hk hIT hx2 hT6 hzT hdm
          have hx40 : x2 < 40 := by rw [hx2]; exact pth_lt hI (mTip_lt hI r) _
          refine lv_iload hx hb d_M_layOut_52 (lv_at hl 4 rfl) ?_
          refine lv_if_lt (tgt := 81) hx hb d_M_layOut_54 (by decide) (fun h4 => ?_) (fun h4 => ?_)
          · skip
            have uh4 := i_lt0 h4
            have hk0 : k = 0 := (dec_neg (by omega)).mp h4
            refine lv_iload_n hx hb d_M_layOut_81 rfl (lv_at hl 2 rfl) ?_
            exact x_iret cf hr hlk hP hS (by rw [hlen]) (by unfold mLay; rw [hlen, hzT, hk0]; rfl) d_M_layOut_82
          · skip
            have uh4 := i_nlt0 h4
            obtain ⟨k', rfl⟩ : ∃ q, k = q + 1 := ⟨k - 1, by have : ¬ k = 0 := fun q => h4 ((dec_neg (by omega)).mpr q); omega⟩
            rw [nI_pred] at hl
            refine lv_aload_n hx hb d_M_layOut_57 rfl (lv_at hl 0 rfl) ?_
            refine x_getM (v := .ref (X.2.2.2 22)) cf hK hP 29 (by decide) w_490 rfl d_M_layOut_58 ?_
            refine lv_iload hx hb d_M_layOut_61 (lv_at hl 4 rfl) ?_
            refine lv_iload hx hb d_M_layOut_63 (lv_at hl 3 rfl) ?_
            refine x_iast cf hK hD hP hS (ia22 X) (by omega) d_M_layOut_65 (fun H locs hP hS => ?_)
            refine lv_aload_n hx hb d_M_layOut_66 rfl (lv_at hl 0 rfl) ?_
            refine x_getM (v := .ref (X.2.2.2 6)) cf hK hP 11 (by decide) w_472 rfl d_M_layOut_67 ?_
            refine lv_iload hx hb d_M_layOut_70 (lv_at hl 3 rfl) ?_
            refine x_iald (v := (T 6 x2)) cf hK hP (ia6 X) (by omega) (by simp [up2_at]) d_M_layOut_72 ?_
            refine lv_istore (lv' := [(4, .int (nI (T 6 x2))), (0, .ref (X.2.2.2 0)), (1, .int (nI r)), (2, .int (nI len)), (5, .int (nI k'))]) hx hb d_M_layOut_73 hl (by decide) rfl (fun ls hl => ?_)
            refine n_iincr (lv' := [(5, .int (nI k' - 1)), (4, .int (nI (T 6 x2))), (0, .ref (X.2.2.2 0)), (1, .int (nI r)), (2, .int (nI len))]) (k := 4) hx hb d_M_layOut_75 hl rfl (by decide) rfl (fun ls hl => ?_)
            refine lv_goto (tgt := 52) hx hb d_M_layOut_78 (by decide) ?_
            exact lp52 _ (by omega) k' (T 6 x2) (up2 T 22 k' x2) ls H locs (lv_sub hl [2, 3, 4, 1, 0] rfl) hP hS (by omega) (hIT.up (k := 22) (by decide) (show x2 < 40 by rw [hx2]; exact pth_lt hI (mTip_lt hI r) _)) (by rw [hT6, hx2, show len - k' = (len - (k' + 1)) + 1 by omega]; rfl) (by rw [up2_ne _ _ _ (by decide)]; exact hT6) (by rw [show len - k' = (len - (k' + 1)) + 1 by omega, itr_z, ← hzT]; unfold mLayF; rw [← hx2, show len - 1 - (len - (k' + 1)) = k' by omega]) rfl
        exact lp52 _ len (mTip S r) S ls H locs (lv_sub hl [2, 3, 4, 1, 0] rfl) hP hS (by omega) (hI) (by rw [Nat.sub_self]; rfl) (rfl) (by rw [Nat.sub_self]; rfl) rfl
      · skip
        refine lv_aload_n hx hb d_M_layOut_26 rfl (lv_at hl 0 rfl) ?_
        refine x_getM (v := .ref (X.2.2.2 6)) cf hK hP 11 (by decide) w_472 rfl d_M_layOut_27 ?_
        refine lv_iload hx hb d_M_layOut_30 (lv_at hl 4 rfl) ?_
        refine x_iald (v := (S 6 x)) cf hK hP (ia6 X) (by omega) rfl d_M_layOut_32 ?_
        refine lv_istore (lv' := [(4, .int (nI (S 6 x))), (0, .ref (X.2.2.2 0)), (1, .int (nI r)), (2, .int (nI len)), (3, .int (nI (mTip S r))), (5, .int (nI i))]) hx hb d_M_layOut_33 hl (by decide) rfl (fun ls hl => ?_)
        refine n_iinc1 (lv' := [(2, .int (nI (len + 1))), (4, .int (nI (S 6 x))), (0, .ref (X.2.2.2 0)), (1, .int (nI r)), (3, .int (nI (mTip S r))), (5, .int (nI i))]) (k := 3) hx hb d_M_layOut_35 hl rfl (by decide) rfl (fun ls hl => ?_)
        refine n_iinc1 (lv' := [(5, .int (nI (i + 1))), (2, .int (nI (len + 1))), (4, .int (nI (S 6 x))), (0, .ref (X.2.2.2 0)), (1, .int (nI r)), (3, .int (nI (mTip S r)))]) (k := 5) hx hb d_M_layOut_38 hl rfl (by decide) rfl (fun ls hl => ?_)
        refine lv_goto (tgt := 14) hx hb d_M_layOut_41 (by decide) ?_
        exact lp14 _ (by omega) (len + 1) (S 6 x) (i + 1) ls H locs (lv_sub hl [3, 4, 1, 5, 2, 0] rfl) hP hS (by omega) (by omega) (hPar.lt hx0) (by rw [hz, show 40 - i = (40 - (i + 1)) + 1 by omega]; show i + (if x = 0 then 0 else mDep S (40 - (i + 1)) (S 6 x) + 1) = _; rw [if_neg (by omega)]; omega) rfl
  exact lp14 _ 1 (mTip S r) 0 ls H locs (lv_sub hl [4, 5, 3, 2, 1, 0] rfl) hP hS (by omega) (by omega) (by omega) (by rw [Nat.zero_add]) rfl
set_option maxRecDepth 100000 in
set_option maxHeartbeats 4000000 in
theorem k_M_committed (l : Launch) {X : WX} (hX : xInj X) {S : Nat → Nat → Nat} {V : Nat} (hI : IW V S) (hPar : ParOk S (S 0 5)) (r i : Int32) : MetI l X y_M_committed (Cond.code y_M_committed c_M_committed 4 (some .int) :: Mst) 2 [.ref (X.2.2.2 0), .int r, .int i] S (rCommitted S r i) (mCommitted S r i) := by
  refine MetI.of (by decide) (Nat.le_of_ble_eq_true rfl) ?_
  intro p e s m args below meth c cf hr hlk hP hK hN ls hl
  have hl : lv_has ls 4 [(0, .ref (X.2.2.2 0)), (1, .int r), (2, .int i)] := hl
  have hx := cf.1
  have hb := cf.2.1
  have hD := xD_of hX
  have hS : va_S (xA X) s.heap s.heap [] := va_S.rf
  have hf := hI.f
  have hn := hI.n
  have hk := hI.k
  have hcs := hI.cs
  have ht := hI.t
  have hbl := hI.b
  have hm := hI.m
  have hV := hI.V
  obtain ⟨H, hH⟩ : ∃ H, H = s.heap := ⟨_, rfl⟩
  obtain ⟨locs, hlo⟩ : ∃ z : List Loc, z = [] := ⟨_, rfl⟩
  suffices hgo : PW X S H → va_S (xA X) s.heap H locs → W p l e (rmd 2) s m args below meth c H locs 0 0 (MQ below (QcI X (rCommitted S r i) (mCommitted S r i)) args s 0 0 (xA X)) (F0 m 0 ls []) by
    subst hH
    subst hlo
    exact hgo hP hS
  clear hP hS
  intro hP hS
  refine lv_aload_n hx hb d_M_committed_0 rfl (lv_at hl 0 rfl) ?_
  refine lv_iload_n hx hb d_M_committed_1 rfl (lv_at hl 1 rfl) ?_
  refine x_callVi (As := [.int r]) (rest := []) cf hK hN hP hS (k_M_isCorrect l hX hI r) (cw_M_isCorrect cf.2.2.2.2 w_567 ⟨Nat.le_of_ble_eq_true rfl, Nat.le_of_ble_eq_true rfl⟩) (rv_M hK hP) hl.1 rfl rfl (Nat.le_of_ble_eq_true rfl) ⟨Nat.zero_le _, Nat.zero_le _⟩ d_M_committed_2 (fun H locs hP hS => ?_)
  refine n_if_eq (tgt := 12) hx hb d_M_committed_5 (by decide) (tnat_lt _) (fun h1 => ?_) (fun h1 => ?_)
  · skip
    refine lv_iconst (v := (-1)) hx hb d_M_committed_12 (by decide) ?_
    exact x_iret cf hr hlk hP hS (by unfold rCommitted; rw [if_neg (fun q => by rw [tnat_0 h1] at q; exact absurd q.1 (by decide))]) (by unfold mCommitted; rw [if_neg (fun q => by rw [tnat_0 h1] at q; exact absurd q.1 (by decide))]) d_M_committed_13
  · skip
    obtain ⟨j, hj, rfl, hjb⟩ := mCorrect_ex (by omega) (tnat_1 h1)
    have hjc := nI_clamp (show j < 2 ^ 31 by omega)
    have hcor := tnat_1 h1
    refine lv_iload_n hx hb d_M_committed_8 rfl (lv_at hl 2 rfl) ?_
    refine lv_if_ge (tgt := 14) hx hb d_M_committed_9 (by decide) (fun h2 => ?_) (fun h2 => ?_)
    · skip
      have uh2 := i_ge0 h2
      obtain ⟨k, hk31, rfl, hkt, hkc⟩ := i_nat uh2
      refine lv_aload_n hx hb d_M_committed_14 rfl (lv_at hl 0 rfl) ?_
      refine lv_iload_n hx hb d_M_committed_15 rfl (lv_at hl 1 rfl) ?_
      refine x_callVi (As := [.int (nI j)]) (rest := []) cf hK hN hP hS (k_M_layOut l hX hI (by omega) hPar) (cw_M_layOut cf.2.2.2.2 w_707 ⟨Nat.le_of_ble_eq_true rfl, Nat.le_of_ble_eq_true rfl⟩) (rv_M hK hP) hl.1 rfl rfl (Nat.le_of_ble_eq_true rfl) ⟨Nat.zero_le _, Nat.zero_le _⟩ d_M_committed_16 (fun H locs hP hS => ?_)
      obtain ⟨T1, hT1⟩ : ∃ z, z = (mLay S j) := ⟨_, rfl⟩
      rw [← hT1] at hP
      have hI1 : IW V T1 := by rw [hT1]; exact hI.lay j
      have hdl := mDep_le hPar 40 _ (mTip_bl hI hPar j)
      have htb := mTip_bl hI hPar j
      have hln : mLen S j = 1 + mDep S 40 (mTip S j) := rfl
      refine lv_istore_n (lv' := [(3, .int (nI (mLen S j))), (0, .ref (X.2.2.2 0)), (1, .int (nI j)), (2, .int (nI k))]) hx hb d_M_committed_19 rfl hl (by decide) rfl (fun ls hl => ?_)
      refine lv_iload_n hx hb d_M_committed_20 rfl (lv_at hl 3 rfl) ?_
      refine lv_iload_n hx hb d_M_committed_21 rfl (lv_at hl 0 rfl) ?_
      refine n_icmp_ge (tgt := 34) hx hb d_M_committed_22 (by decide) (by omega) (by omega) (fun h3 => ?_) (fun h3 => ?_)
      · skip
        refine lv_iconst (v := (-1)) hx hb d_M_committed_34 (by decide) ?_
        exact x_iret cf hr hlk hP hS (by unfold rCommitted; rw [if_pos ⟨hcor, by omega⟩, hjc, if_neg (by omega)]) (by unfold mCommitted; rw [if_pos ⟨hcor, by omega⟩, hjc]; exact hT1) d_M_committed_35
      · skip
        refine lv_aload_n hx hb d_M_committed_25 rfl (lv_at hl 1 rfl) ?_
        refine x_getM (v := .ref (X.2.2.2 22)) cf hK hP 29 (by decide) w_490 rfl d_M_committed_26 ?_
        refine lv_iload_n hx hb d_M_committed_29 rfl (lv_at hl 3 rfl) ?_
        refine x_iald (v := (T1 22 k)) cf hK hP (ia22 X) (by omega) rfl d_M_committed_30 ?_
        refine lv_goto (tgt := 35) hx hb d_M_committed_31 (by decide) ?_
        exact x_iret cf hr hlk hP hS (by unfold rCommitted; rw [if_pos ⟨hcor, by omega⟩, hjc, if_pos (by omega), hkc, ← hT1]) (by unfold mCommitted; rw [if_pos ⟨hcor, by omega⟩, hjc]; exact hT1) d_M_committed_35
    · skip
      have uh2 := i_nge0 h2
      refine lv_iconst (v := (-1)) hx hb d_M_committed_12 (by decide) ?_
      exact x_iret cf hr hlk hP hS (by unfold rCommitted; rw [if_neg (by omega)]) (by unfold mCommitted; rw [if_neg (by omega)]) d_M_committed_13
