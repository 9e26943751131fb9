def mGoF (i t : Nat) (U : Nat → Nat → Nat) : Nat → Nat → Nat :=
  if U 7 (U 22 i) / 2 ^ t % 2 = 0 ∨ ¬ U 24 t = 0 then U
  else if U 23 (U 2 t) < U 4 t then up2 U 24 t 2
  else up2 (up2 (up2 U 24 t 1) 23 (U 2 t) (U 23 (U 2 t) - U 4 t)) 23 (U 3 t) (up2 (up2 U 24 t 1) 23 (U 2 t) (U 23 (U 2 t) - U 4 t) 23 (U 3 t) + U 4 t)
def mGoB (n i : Nat) (Z : Nat → Nat → Nat) : Nat → Nat → Nat := itr (mGoF i) 0 Z n
def mGo0 (S : Nat → Nat → Nat) : Nat → Nat → Nat := itr (fun t Z => up2 Z 24 t 0) 0 (itr (fun a Z => up2 Z 23 a 100) 0 S 4) 24
def mGo (S : Nat → Nat → Nat) (r : Nat) : Nat → Nat → Nat := itr (mGoB (S 0 4)) 0 (mLay (mGo0 S) r) (mLen (mGo0 S) r)
theorem mGo0_a {S : Nat → Nat → Nat} {row : Nat} (h : row ≠ 23) : ∀ k, itr (fun a Z => up2 Z 23 a 100) 0 S k row = S row
  | 0 => rfl
  | k + 1 => by
    rw [itr_s]
    exact (up2_ne _ _ _ h).trans (mGo0_a h k)
theorem mGo0_b {S : Nat → Nat → Nat} {row : Nat} (h : row ≠ 24) : ∀ k, itr (fun t Z => up2 Z 24 t 0) 0 S k row = S row
  | 0 => rfl
  | k + 1 => by
    rw [itr_s]
    exact (up2_ne _ _ _ h).trans (mGo0_b h k)
theorem mGo0_ne {S : Nat → Nat → Nat} {row : Nat} (h1 : row ≠ 23) (h2 : row ≠ 24) : mGo0 S row = S row := (mGo0_b h2 _).trans (mGo0_a h1 _)
theorem IW.go0a {V : Nat} {S : Nat → Nat → Nat} (h : IW V S) : ∀ k, IW V (itr (fun a Z => up2 Z 23 a 100) 0 S k)
  | 0 => h
  | k + 1 => (IW.go0a h k).up (k := 23) (by decide) trivial
theorem IW.go0b {V : Nat} {S : Nat → Nat → Nat} (h : IW V S) : ∀ k, IW V (itr (fun t Z => up2 Z 24 t 0) 0 S k)
  | 0 => h
  | k + 1 => (IW.go0b h k).up (k := 24) (by decide) (show 0 ≤ 2 by decide)
theorem IW.go0 {V : Nat} {S : Nat → Nat → Nat} (h : IW V S) : IW V (mGo0 S) := (h.go0a 4).go0b 24
theorem IW.goF {V : Nat} {U : Nat → Nat → Nat} {i t : Nat} (h : IW V U) : IW V (mGoF i t U) := by
  unfold mGoF
  split
  · exact h
  · split
    · exact h.up (k := 24) (by decide) (show 2 ≤ 2 by decide)
    · exact ((h.up (k := 24) (by decide) (show 1 ≤ 2 by decide)).up (k := 23) (by decide) trivial).up (k := 23) (by decide) trivial
theorem mGoF_ne {U : Nat → Nat → Nat} {i t row : Nat} (h1 : row ≠ 23) (h2 : row ≠ 24) : mGoF i t U row = U row := by
  unfold mGoF
  split
  · rfl
  · split
    · rw [up2_ne _ _ _ h2]
    · rw [up2_ne _ _ _ h1, up2_ne _ _ _ h1, up2_ne _ _ _ h2]
theorem mGoF_bd {V M : Nat} {U : Nat → Nat → Nat} {i t : Nat} (hI : IW V U) (h : ∀ a, a < 4 → U 23 a ≤ M) : ∀ a, a < 4 → mGoF i t U 23 a ≤ M + 1000 := by
  intro a ha
  have h4 := (show U 4 t ≤ 1000 from hI.c 4 t)
  have h1 := h a ha
  have h2 := h (U 2 t) (show U 2 t < 4 from hI.c 2 t)
  have h3 := h (U 3 t) (show U 3 t < 4 from hI.c 3 t)
  unfold mGoF
  split
  · omega
  · split
    · rw [up2_ne _ _ _ (by decide)]
      omega
    · simp only [up2_at]
      simp
      split
      · split <;> omega
      · split <;> omega
theorem mGo0_23 {S : Nat → Nat → Nat} : ∀ a, a < 4 → mGo0 S 23 a = 100 := by
  have key : ∀ k a, a < k → itr (fun a Z => up2 Z 23 a 100) 0 S k 23 a = 100 := by
    intro k
    induction k with
    | zero => intro a ha; omega
    | succ k ih =>
      intro a ha
      rw [itr_z]
      show up2 _ 23 k 100 23 a = 100
      rw [up2_at]
      split
      · rfl
      · exact ih a (by omega)
  intro a ha
  unfold mGo0
  rw [mGo0_b (by decide)]
  exact key 4 a ha
def rBalance (S : Nat → Nat → Nat) (r a : Int32) : Int32 := if mCorrect S r = true ∧ 0 ≤ a.toInt ∧ a.toInt ≤ 3 then nI (mGo S r.toNatClampNeg 23 a.toNatClampNeg) else -1
def mBalance (S : Nat → Nat → Nat) (r a : Int32) : Nat → Nat → Nat := if mCorrect S r = true ∧ 0 ≤ a.toInt ∧ a.toInt ≤ 3 then mGo S r.toNatClampNeg else S
def rOutcome (S : Nat → Nat → Nat) (r t : Int32) : Int32 := if mCorrect S r = true ∧ 0 ≤ t.toInt ∧ t.toInt < (S 0 4 : Int) then nI (mGo S r.toNatClampNeg 24 t.toNatClampNeg) else -1
def mOutcome (S : Nat → Nat → Nat) (r t : Int32) : Nat → Nat → Nat := if mCorrect S r = true ∧ 0 ≤ t.toInt ∧ t.toInt < (S 0 4 : Int) then mGo S r.toNatClampNeg else S
theorem ParOk.of {S T : Nat → Nat → Nat} {bl : Nat} (h : ParOk S bl) (e : T 6 = S 6) : ParOk T bl := by
  unfold ParOk
  rw [e]
  exact h
set_option maxRecDepth 100000 in
set_option maxHeartbeats 4000000 in
theorem k_M_goThrough (l : Launch) {X : WX} (hX : xInj X) {S : Nat → Nat → Nat} {V : Nat} (hI : IW V S) {r : Nat} (hr0 : r < 7) (hPar : ParOk S (S 0 5)) : MetV l X y_M_goThrough (Cond.code y_M_goThrough c_M_goThrough 5 none :: Mst) 2 [.ref (X.2.2.2 0), .int (nI r)] S (mGo S r) := by
  refine MetV.of (by decide) (Nat.le_of_ble_eq_true rfl) ?_
  intro p e s m args below meth c cf hr hlk hP hK hN ls hl
  have hl : lv_has ls 5 [(0, .ref (X.2.2.2 0)), (1, .int (nI r))] := hl
  have hx := cf.1
  have hb := cf.2.1
  have hD := xD_of hX
  have hS : va_S (xA X) s.heap s.heap [] := va_S.rf
  have hf := hI.f
  have hn := hI.n
  have hk := hI.k
  have hcs := hI.cs
  have ht := hI.t
  have hbl := hI.b
  have hm := hI.m
  have hV := hI.V
  obtain ⟨H, hH⟩ : ∃ H, H = s.heap := ⟨_, rfl⟩
  obtain ⟨locs, hlo⟩ : ∃ z : List Loc, z = [] := ⟨_, rfl⟩
  suffices hgo : PW X S H → va_S (xA X) s.heap H locs → W p l e (rmd 2) s m args below meth c H locs 0 0 (MQ below (QcV X (mGo S r)) args s 0 0 (xA X)) (F0 m 0 ls []) by
    subst hH
    subst hlo
    exact hgo hP hS
  clear hP hS
  intro hP hS
  refine lv_iconst (v := nI 0) hx hb d_M_goThrough_0 (by decide) ?_
  refine lv_istore_n (lv' := [(2, .int (nI 0)), (0, .ref (X.2.2.2 0)), (1, .int (nI r))]) hx hb d_M_goThrough_1 rfl hl (by decide) rfl (fun ls hl => ?_)
  have lp2 : ∀ (dm : Nat) (a : Nat) (T : Nat → Nat → Nat) (ls : Array Slot) (H : Heap) (locs : List Loc), lv_has ls 5 [(0, .ref (X.2.2.2 0)), (1, .int (nI r)), (2, .int (nI a))] → PW X T H → va_S (xA X) s.heap H locs → (a ≤ 4) → (T = itr (fun a Z => up2 Z 23 a 100) 0 S a) → (4 - a = dm) → W p l e (rmd 2) s m args below meth c H locs 0 0 (MQ below (QcV X (mGo S r)) args s 0 0 (xA X)) (F0 m 2 ls []) := by
    intro dm
    induction dm using Nat.strongRecOn with | ind dm lp2 => ?_
    intro a T ls H locs hl hP hS ha hz hdm
    refine lv_iload_n hx hb d_M_goThrough_2 rfl (lv_at hl 2 rfl) ?_
    refine lv_iconst (v := nI 4) hx hb d_M_goThrough_3 (by decide) ?_
    refine n_icmp_ge (tgt := 21) hx hb d_M_goThrough_4 (by decide) (by omega) (by decide) (fun h1 => ?_) (fun h1 => ?_)
    · skip
      refine lv_iconst (v := nI 0) hx hb d_M_goThrough_21 (by decide) ?_
      refine lv_istore_n (lv' := [(2, .int (nI 0)), (0, .ref (X.2.2.2 0)), (1, .int (nI r))]) hx hb d_M_goThrough_22 rfl hl (by decide) rfl (fun ls hl => ?_)
      have lp23 : ∀ (dm : Nat) (b : Nat) (U : Nat → Nat → Nat) (ls : Array Slot) (H : Heap) (locs : List Loc), lv_has ls 5 [(0, .ref (X.2.2.2 0)), (1, .int (nI r)), (2, .int (nI b))] → PW X U H → va_S (xA X) s.heap H locs → (b ≤ 24) → (U = itr (fun t Z => up2 Z 24 t 0) 0 T b) → (24 - b = dm) → W p l e (rmd 2) s m args below meth c H locs 0 0 (MQ below (QcV X (mGo S r)) args s 0 0 (xA X)) (F0 m 23 ls []) := by
        intro dm
        induction dm using Nat.strongRecOn with | ind dm lp23 => ?_
        intro b U ls H locs hl hP hS hb2 hzu hdm
        refine lv_iload_n hx hb d_M_goThrough_23 rfl (lv_at hl 2 rfl) ?_
        refine lv_bipush (v := nI 24) hx hb d_M_goThrough_24 (by decide) ?_
        refine n_icmp_ge (tgt := 42) hx hb d_M_goThrough_26 (by decide) (by omega) (by decide) (fun h2 => ?_) (fun h2 => ?_)
        · skip
          obtain ⟨T0, hT0⟩ : ∃ z, z = U := ⟨_, rfl⟩
          rw [← hT0] at hP
          have hT0 : T0 = mGo0 S := by rw [hT0, hzu, hz, show a = 4 by omega, show b = 24 by omega]; rfl
          have hI0 : IW V T0 := by rw [hT0]; exact hI.go0
          have e00 : T0 0 = S 0 := by rw [hT0]; exact mGo0_ne (by decide) (by decide)
          have e06 : T0 6 = S 6 := by rw [hT0]; exact mGo0_ne (by decide) (by decide)
          refine lv_aload_n hx hb d_M_goThrough_42 rfl (lv_at hl 0 rfl) ?_
          refine lv_iload_n hx hb d_M_goThrough_43 rfl (lv_at hl 1 rfl) ?_
          refine x_callVi (As := [.int (nI r)]) (rest := []) cf hK hN hP hS (k_M_layOut l hX hI0 (by omega) (show ParOk T0 (T0 0 5) from (by rw [e00]; exact hPar.of e06))) (cw_M_layOut cf.2.2.2.2 w_707 ⟨Nat.le_of_ble_eq_true rfl, Nat.le_of_ble_eq_true rfl⟩) (rv_M hK hP) hl.1 rfl rfl (Nat.le_of_ble_eq_true rfl) ⟨Nat.zero_le _, Nat.zero_le _⟩ d_M_goThrough_44 (fun H locs hP hS => ?_)
          obtain ⟨T1, hT1⟩ : ∃ z, z = (mLay T0 r) := ⟨_, rfl⟩
          rw [← hT1] at hP
          have hI1 : IW V T1 := by rw [hT1]; exact hI0.lay r
          have hdl := mDep_le (hPar.of e06) 40 _ (by have := mTip_bl hI0 (by rw [e00]; exact hPar.of e06) r; rw [e00] at this; exact this)
          have htb := mTip_lt hI0 r
          have hln : mLen T0 r = 1 + mDep T0 40 (mTip T0 r) := rfl
          refine lv_istore_n (lv' := [(2, .int (nI (mLen T0 r))), (0, .ref (X.2.2.2 0)), (1, .int (nI r))]) hx hb d_M_goThrough_47 rfl hl (by decide) rfl (fun ls hl => ?_)
          refine lv_iconst (v := nI 0) hx hb d_M_goThrough_48 (by decide) ?_
          refine lv_istore_n (lv' := [(3, .int (nI 0)), (2, .int (nI (mLen T0 r))), (0, .ref (X.2.2.2 0)), (1, .int (nI r))]) hx hb d_M_goThrough_49 rfl hl (by decide) rfl (fun ls hl => ?_)
          have lp50 : ∀ (dm : Nat) (i : Nat) (T : Nat → Nat → Nat) (ls : Array Slot) (H : Heap) (locs : List Loc), lv_has ls 5 [(0, .ref (X.2.2.2 0)), (1, .int (nI r)), (2, .int (nI (mLen T0 r))), (3, .int (nI i))] → PW X T H → va_S (xA X) s.heap H locs → (i ≤ mLen T0 r) → (IW V T) → (∀ a, a < 4 → T 23 a ≤ 1000000 + 24000 * i) → (T 0 4 = S 0 4) → (T = itr (mGoB (S 0 4)) 0 T1 i) → (mLen T0 r - i = dm) → W p l e (rmd 2) s m args below meth c H locs 0 0 (MQ below (QcV X (mGo S r)) args s 0 0 (xA X)) (F0 m 50 ls []) := by
            intro dm
            induction dm using Nat.strongRecOn with | ind dm lp50 => ?_
            intro i T ls H locs hl hP hS hi hIT hpT hTn hzT hdm
            refine lv_iload_n hx hb d_M_goThrough_50 rfl (lv_at hl 3 rfl) ?_
            refine lv_iload_n hx hb d_M_goThrough_51 rfl (lv_at hl 2 rfl) ?_
            refine n_icmp_ge (tgt := 200) hx hb d_M_goThrough_52 (by decide) (by omega) (by omega) (fun h3 => ?_) (fun h3 => ?_)
            · skip
              exact x_vret cf hr hlk hP hS (by unfold mGo; rw [← hT0, ← hT1, hzT, show i = mLen T0 r by omega]) d_M_goThrough_200
            · skip
              refine lv_iconst (v := nI 0) hx hb d_M_goThrough_55 (by decide) ?_
              refine lv_istore (lv' := [(4, .int (nI 0)), (0, .ref (X.2.2.2 0)), (1, .int (nI r)), (2, .int (nI (mLen T0 r))), (3, .int (nI i))]) hx hb d_M_goThrough_56 hl (by decide) rfl (fun ls hl => ?_)
              have lp58 : ∀ (dm : Nat) (t : Nat) (U : Nat → Nat → Nat) (ls : Array Slot) (H : Heap) (locs : List Loc), lv_has ls 5 [(0, .ref (X.2.2.2 0)), (1, .int (nI r)), (2, .int (nI (mLen T0 r))), (3, .int (nI i)), (4, .int (nI t))] → PW X U H → va_S (xA X) s.heap H locs → (t ≤ S 0 4) → (IW V U) → (∀ a, a < 4 → U 23 a ≤ 1000000 + 24000 * i + 1000 * t) → (U 0 4 = S 0 4) → (U = itr (mGoF i) 0 T t) → (S 0 4 - t = dm) → W p l e (rmd 2) s m args below meth c H locs 0 0 (MQ below (QcV X (mGo S r)) args s 0 0 (xA X)) (F0 m 58 ls []) := by
                intro dm
                induction dm using Nat.strongRecOn with | ind dm lp58 => ?_
                intro t U ls H locs hl hP hS ht4 hIU hpU hU0 hzU hdm
                refine lv_iload hx hb d_M_goThrough_58 (lv_at hl 4 rfl) ?_
                refine lv_aload_n hx hb d_M_goThrough_60 rfl (lv_at hl 0 rfl) ?_
                refine x_getM (v := .int (nI (U 0 4))) cf hK hP 4 (by decide) w_465 rfl d_M_goThrough_61 ?_
                refine n_icmp_ge (tgt := 194) hx hb d_M_goThrough_64 (by decide) (by omega) (by omega) (fun h4 => ?_) (fun h4 => ?_)
                · skip
                  refine n_iinc1 (lv' := [(3, .int (nI (i + 1))), (0, .ref (X.2.2.2 0)), (1, .int (nI r)), (2, .int (nI (mLen T0 r))), (4, .int (nI t))]) (k := 3) hx hb d_M_goThrough_194 hl rfl (by decide) rfl (fun ls hl => ?_)
                  refine lv_goto (tgt := 50) hx hb d_M_goThrough_197 (by decide) ?_
                  exact lp50 _ (by omega) (i + 1) U ls H locs (lv_sub hl [1, 2, 3, 0] rfl) hP hS (by omega) (hIU) (fun a ha4 => by have := hpU a ha4; omega) (hU0) (by rw [itr_z, ← hzT, hzU, show t = S 0 4 by omega]; rfl) rfl
                · skip
                  have hpU2 := hpU (U 2 t) (show U 2 t < 4 from hIU.c 2 t)
                  refine lv_aload_n hx hb d_M_goThrough_67 rfl (lv_at hl 0 rfl) ?_
                  refine x_getM (v := .ref (X.2.2.2 7)) cf hK hP 12 (by decide) w_473 rfl d_M_goThrough_68 ?_
                  refine lv_aload_n hx hb d_M_goThrough_71 rfl (lv_at hl 0 rfl) ?_
                  refine x_getM (v := .ref (X.2.2.2 22)) cf hK hP 29 (by decide) w_490 rfl d_M_goThrough_72 ?_
                  refine lv_iload_n hx hb d_M_goThrough_75 rfl (lv_at hl 3 rfl) ?_
                  refine x_iald (v := (U 22 i)) cf hK hP (ia22 X) (by omega) rfl d_M_goThrough_76 ?_
                  refine x_iald (v := (U 7 (U 22 i))) cf hK hP (ia7 X) (by have := (show U 22 i < 40 from hIU.c 22 i); omega) rfl d_M_goThrough_77 ?_
                  refine lv_iload hx hb d_M_goThrough_78 (lv_at hl 4 rfl) ?_
                  refine n_ishr hx hb (by have := (show U 22 i < 40 from hIU.c 22 i); have := (show U 7 (U 22 i) < 16777216 from hIU.c 7 (U 22 i)); omega) (by omega) d_M_goThrough_80 ?_
                  refine lv_iconst (v := nI 1) hx hb d_M_goThrough_81 (by decide) ?_
                  refine n_and1 hx hb d_M_goThrough_82 ?_
                  refine n_if_eq (tgt := 188) hx hb d_M_goThrough_83 (by decide) (by have := (show U 22 i < 40 from hIU.c 22 i); have := (show U 7 (U 22 i) < 16777216 from hIU.c 7 (U 22 i)); have := Nat.div_le_self (U 7 (U 22 i)) (2 ^ t); omega) (fun h5 => ?_) (fun h5 => ?_)
                  · skip
                    refine n_iinc1 (lv' := [(4, .int (nI (t + 1))), (0, .ref (X.2.2.2 0)), (1, .int (nI r)), (2, .int (nI (mLen T0 r))), (3, .int (nI i))]) (k := 4) hx hb d_M_goThrough_188 hl rfl (by decide) rfl (fun ls hl => ?_)
                    refine lv_goto (tgt := 58) hx hb d_M_goThrough_191 (by decide) ?_
                    have hst : U = mGoF i t U := by unfold mGoF; first | (rw [if_pos (by omega)]; done) | (rw [if_neg (by omega), if_pos (by omega)]; done) | (rw [if_neg (by omega), if_neg (by omega)]; done)
                    exact lp58 _ (by omega) (t + 1) U ls H locs (lv_sub hl [1, 2, 3, 4, 0] rfl) hP hS (by omega) (by rw [hst]; exact hIU.goF) (fun a ha4 => by rw [hst]; have := mGoF_bd (i := i) (t := t) hIU hpU a ha4; omega) (by rw [hst, mGoF_ne (by decide) (by decide)]; exact hU0) (by rw [hst, itr_z, ← hzU]) rfl
                  · skip
                    refine lv_aload_n hx hb d_M_goThrough_86 rfl (lv_at hl 0 rfl) ?_
                    refine x_getM (v := .ref (X.2.2.2 24)) cf hK hP 31 (by decide) w_492 rfl d_M_goThrough_87 ?_
                    refine lv_iload hx hb d_M_goThrough_90 (lv_at hl 4 rfl) ?_
                    refine x_iald (v := (U 24 t)) cf hK hP (ia24 X) (by omega) rfl d_M_goThrough_92 ?_
                    refine n_if_eq (tgt := 99) hx hb d_M_goThrough_93 (by decide) (by have := (show U 24 t ≤ 2 from hIU.c 24 t); omega) (fun h6 => ?_) (fun h6 => ?_)
                    · skip
                      refine lv_aload_n hx hb d_M_goThrough_99 rfl (lv_at hl 0 rfl) ?_
                      refine x_getM (v := .ref (X.2.2.2 24)) cf hK hP 31 (by decide) w_492 rfl d_M_goThrough_100 ?_
                      refine lv_iload hx hb d_M_goThrough_103 (lv_at hl 4 rfl) ?_
                      refine lv_aload_n hx hb d_M_goThrough_105 rfl (lv_at hl 0 rfl) ?_
                      refine x_getM (v := .ref (X.2.2.2 23)) cf hK hP 30 (by decide) w_491 rfl d_M_goThrough_106 ?_
                      refine lv_aload_n hx hb d_M_goThrough_109 rfl (lv_at hl 0 rfl) ?_
                      refine x_getM (v := .ref (X.2.2.2 2)) cf hK hP 6 (by decide) w_467 rfl d_M_goThrough_110 ?_
                      refine lv_iload hx hb d_M_goThrough_113 (lv_at hl 4 rfl) ?_
                      refine x_iald (v := (U 2 t)) cf hK hP (ia2 X) (by omega) rfl d_M_goThrough_115 ?_
                      refine x_iald (v := (U 23 (U 2 t))) cf hK hP (ia23 X) (by have := (show U 2 t < 4 from hIU.c 2 t); omega) rfl d_M_goThrough_116 ?_
                      refine lv_aload_n hx hb d_M_goThrough_117 rfl (lv_at hl 0 rfl) ?_
                      refine x_getM (v := .ref (X.2.2.2 4)) cf hK hP 8 (by decide) w_469 rfl d_M_goThrough_118 ?_
                      refine lv_iload hx hb d_M_goThrough_121 (lv_at hl 4 rfl) ?_
                      refine x_iald (v := (U 4 t)) cf hK hP (ia4 X) (by omega) rfl d_M_goThrough_123 ?_
                      refine n_icmp_lt (tgt := 131) hx hb d_M_goThrough_124 (by decide) (by have := (show U 2 t < 4 from hIU.c 2 t); omega) (by have := (show U 4 t ≤ 1000 from hIU.c 4 t); omega) (fun h7 => ?_) (fun h7 => ?_)
                      · skip
                        refine lv_iconst (v := nI 2) hx hb d_M_goThrough_131 (by decide) ?_
                        refine x_iast cf hK hD hP hS (ia24 X) (by omega) d_M_goThrough_132 (fun H locs hP hS => ?_)
                        refine lv_aload_n hx hb d_M_goThrough_133 rfl (lv_at hl 0 rfl) ?_
                        refine x_getM (v := .ref (X.2.2.2 24)) cf hK hP 31 (by decide) w_492 rfl d_M_goThrough_134 ?_
                        refine lv_iload hx hb d_M_goThrough_137 (lv_at hl 4 rfl) ?_
                        refine x_iald (v := 2) cf hK hP (ia24 X) (by omega) (by simp [up2_at]) d_M_goThrough_139 ?_
                        refine lv_iconst (v := nI 1) hx hb d_M_goThrough_140 (by decide) ?_
                        refine n_icmp_ne (tgt := 188) hx hb d_M_goThrough_141 (by decide) (by decide) (by decide) (fun _ => ?_) (fun h8 => absurd h8 (by decide))
                        refine n_iinc1 (lv' := [(4, .int (nI (t + 1))), (0, .ref (X.2.2.2 0)), (1, .int (nI r)), (2, .int (nI (mLen T0 r))), (3, .int (nI i))]) (k := 4) hx hb d_M_goThrough_188 hl rfl (by decide) rfl (fun ls hl => ?_)
                        refine lv_goto (tgt := 58) hx hb d_M_goThrough_191 (by decide) ?_
                        have hst : (up2 U 24 t 2) = mGoF i t U := by unfold mGoF; first | (rw [if_pos (by omega)]; done) | (rw [if_neg (by omega), if_pos (by omega)]; done) | (rw [if_neg (by omega), if_neg (by omega)]; done)
                        exact lp58 _ (by omega) (t + 1) (up2 U 24 t 2) ls H locs (lv_sub hl [1, 2, 3, 4, 0] rfl) hP hS (by omega) (by rw [hst]; exact hIU.goF) (fun a ha4 => by rw [hst]; have := mGoF_bd (i := i) (t := t) hIU hpU a ha4; omega) (by rw [hst, mGoF_ne (by decide) (by decide)]; exact hU0) (by rw [hst, itr_z, ← hzU]) rfl
                      · skip
                        refine lv_iconst (v := nI 1) hx hb d_M_goThrough_127 (by decide) ?_
                        refine lv_goto (tgt := 132) hx hb d_M_goThrough_128 (by decide) ?_
                        refine x_iast cf hK hD hP hS (ia24 X) (by omega) d_M_goThrough_132 (fun H locs hP hS => ?_)
                        refine lv_aload_n hx hb d_M_goThrough_133 rfl (lv_at hl 0 rfl) ?_
                        refine x_getM (v := .ref (X.2.2.2 24)) cf hK hP 31 (by decide) w_492 rfl d_M_goThrough_134 ?_
                        refine lv_iload hx hb d_M_goThrough_137 (lv_at hl 4 rfl) ?_
                        refine x_iald (v := 1) cf hK hP (ia24 X) (by omega) (by simp [up2_at]) d_M_goThrough_139 ?_
                        refine lv_iconst (v := nI 1) hx hb d_M_goThrough_140 (by decide) ?_
                        refine n_icmp_ne (tgt := 188) hx hb d_M_goThrough_141 (by decide) (by decide) (by decide) (fun h9 => absurd h9 (by decide)) (fun _ => ?_)
                        refine lv_aload_n hx hb d_M_goThrough_144 rfl (lv_at hl 0 rfl) ?_
                        refine x_getM (v := .ref (X.2.2.2 23)) cf hK hP 30 (by decide) w_491 rfl d_M_goThrough_145 ?_
                        refine lv_aload_n hx hb d_M_goThrough_148 rfl (lv_at hl 0 rfl) ?_
                        refine x_getM (v := .ref (X.2.2.2 2)) cf hK hP 6 (by decide) w_467 rfl d_M_goThrough_149 ?_
                        refine lv_iload hx hb d_M_goThrough_152 (lv_at hl 4 rfl) ?_
                        refine x_iald (v := (U 2 t)) cf hK hP (ia2 X) (by omega) (by simp [up2_at]) d_M_goThrough_154 ?_
                        refine lv_dup2_11 hx hb d_M_goThrough_155 rfl rfl ?_
                        refine x_iald (v := (U 23 (U 2 t))) cf hK hP (ia23 X) (by have := (show U 2 t < 4 from hIU.c 2 t); omega) (by simp [up2_at]) d_M_goThrough_156 ?_
                        refine lv_aload_n hx hb d_M_goThrough_157 rfl (lv_at hl 0 rfl) ?_
                        refine x_getM (v := .ref (X.2.2.2 4)) cf hK hP 8 (by decide) w_469 rfl d_M_goThrough_158 ?_
                        refine lv_iload hx hb d_M_goThrough_161 (lv_at hl 4 rfl) ?_
                        refine x_iald (v := (U 4 t)) cf hK hP (ia4 X) (by omega) (by simp [up2_at]) d_M_goThrough_163 ?_
                        refine n_isub hx hb (by have := (show U 2 t < 4 from hIU.c 2 t); have := (show U 4 t ≤ 1000 from hIU.c 4 t); omega) d_M_goThrough_164 ?_
                        refine x_iast cf hK hD hP hS (ia23 X) (by have := (show U 2 t < 4 from hIU.c 2 t); omega) d_M_goThrough_165 (fun H locs hP hS => ?_)
                        refine lv_aload_n hx hb d_M_goThrough_166 rfl (lv_at hl 0 rfl) ?_
                        refine x_getM (v := .ref (X.2.2.2 23)) cf hK hP 30 (by decide) w_491 rfl d_M_goThrough_167 ?_
                        refine lv_aload_n hx hb d_M_goThrough_170 rfl (lv_at hl 0 rfl) ?_
                        refine x_getM (v := .ref (X.2.2.2 3)) cf hK hP 7 (by decide) w_468 rfl d_M_goThrough_171 ?_
                        refine lv_iload hx hb d_M_goThrough_174 (lv_at hl 4 rfl) ?_
                        refine x_iald (v := (U 3 t)) cf hK hP (ia3 X) (by omega) (by simp [up2_at]) d_M_goThrough_176 ?_
                        refine lv_dup2_11 hx hb d_M_goThrough_177 rfl rfl ?_
                        refine x_iald (v := ((up2 (up2 U 24 t 1) 23 (U 2 t) ((U 23 (U 2 t)) - (U 4 t))) 23 (U 3 t))) cf hK hP (ia23 X) (by have := (show U 3 t < 4 from hIU.c 3 t); omega) rfl d_M_goThrough_178 ?_
                        refine lv_aload_n hx hb d_M_goThrough_179 rfl (lv_at hl 0 rfl) ?_
                        refine x_getM (v := .ref (X.2.2.2 4)) cf hK hP 8 (by decide) w_469 rfl d_M_goThrough_180 ?_
                        refine lv_iload hx hb d_M_goThrough_183 (lv_at hl 4 rfl) ?_
                        refine x_iald (v := (U 4 t)) cf hK hP (ia4 X) (by omega) (by simp [up2_at]) d_M_goThrough_185 ?_
                        refine n_iadd hx hb d_M_goThrough_186 ?_
                        refine x_iast cf hK hD hP hS (ia23 X) (by have := (show U 3 t < 4 from hIU.c 3 t); omega) d_M_goThrough_187 (fun H locs hP hS => ?_)
                        refine n_iinc1 (lv' := [(4, .int (nI (t + 1))), (0, .ref (X.2.2.2 0)), (1, .int (nI r)), (2, .int (nI (mLen T0 r))), (3, .int (nI i))]) (k := 4) hx hb d_M_goThrough_188 hl rfl (by decide) rfl (fun ls hl => ?_)
                        refine lv_goto (tgt := 58) hx hb d_M_goThrough_191 (by decide) ?_
                        have hst : (up2 (up2 (up2 U 24 t 1) 23 (U 2 t) ((U 23 (U 2 t)) - (U 4 t))) 23 (U 3 t) (((up2 (up2 U 24 t 1) 23 (U 2 t) ((U 23 (U 2 t)) - (U 4 t))) 23 (U 3 t)) + (U 4 t))) = mGoF i t U := by unfold mGoF; first | (rw [if_pos (by omega)]; done) | (rw [if_neg (by omega), if_pos (by omega)]; done) | (rw [if_neg (by omega), if_neg (by omega)]; done)
                        exact lp58 _ (by omega) (t + 1) (up2 (up2 (up2 U 24 t 1) 23 (U 2 t) ((U 23 (U 2 t)) - (U 4 t))) 23 (U 3 t) (((up2 (up2 U 24 t 1) 23 (U 2 t) ((U 23 (U 2 t)) - (U 4 t))) 23 (U 3 t)) + (U 4 t))) ls H locs (lv_sub hl [1, 2, 3, 4, 0] rfl) hP hS (by omega) (by rw [hst]; exact hIU.goF) (fun a ha4 => by rw [hst]; have := mGoF_bd (i := i) (t := t) hIU hpU a ha4; omega) (by rw [hst, mGoF_ne (by decide) (by decide)]; exact hU0) (by rw [hst, itr_z, ← hzU]) rfl
                    · skip
                      refine lv_goto (tgt := 188) hx hb d_M_goThrough_96 (by decide) ?_
                      refine n_iinc1 (lv' := [(4, .int (nI (t + 1))), (0, .ref (X.2.2.2 0)), (1, .int (nI r)), (2, .int (nI (mLen T0 r))), (3, .int (nI i))]) (k := 4) hx hb d_M_goThrough_188 hl rfl (by decide) rfl (fun ls hl => ?_)
                      refine lv_goto (tgt := 58) hx hb d_M_goThrough_191 (by decide) ?_
                      have hst : U = mGoF i t U := by unfold mGoF; first | (rw [if_pos (by omega)]; done) | (rw [if_neg (by omega), if_pos (by omega)]; done) | (rw [if_neg (by omega), if_neg (by omega)]; done)
                      exact lp58 _ (by omega) (t + 1) U ls H locs (lv_sub hl [1, 2, 3, 4, 0] rfl) hP hS (by omega) (by rw [hst]; exact hIU.goF) (fun a ha4 => by rw [hst]; have := mGoF_bd (i := i) (t := t) hIU hpU a ha4; omega) (by rw [hst, mGoF_ne (by decide) (by decide)]; exact hU0) (by rw [hst, itr_z, ← hzU]) rfl
              exact lp58 _ 0 T ls H locs (lv_sub hl [1, 2, 3, 4, 0] rfl) hP hS (by omega) (hIT) (fun a ha4 => by have := hpT a ha4; omega) (hTn) (rfl) rfl
          exact lp50 _ 0 T1 ls H locs (lv_sub hl [2, 3, 1, 0] rfl) hP hS (by omega) (hI1) (fun a ha4 => by rw [hT1, mLay_ne (by decide), hT0, mGo0_23 a ha4]; omega) (by rw [hT1, mLay_ne (by decide), e00]) (rfl) rfl
        · skip
          refine lv_aload_n hx hb d_M_goThrough_29 rfl (lv_at hl 0 rfl) ?_
          refine x_getM (v := .ref (X.2.2.2 24)) cf hK hP 31 (by decide) w_492 rfl d_M_goThrough_30 ?_
          refine lv_iload_n hx hb d_M_goThrough_33 rfl (lv_at hl 2 rfl) ?_
          refine lv_iconst (v := nI 0) hx hb d_M_goThrough_34 (by decide) ?_
          refine x_iast cf hK hD hP hS (ia24 X) (by omega) d_M_goThrough_35 (fun H locs hP hS => ?_)
          refine n_iinc1 (lv' := [(2, .int (nI (b + 1))), (0, .ref (X.2.2.2 0)), (1, .int (nI r))]) (k := 2) hx hb d_M_goThrough_36 hl rfl (by decide) rfl (fun ls hl => ?_)
          refine lv_goto (tgt := 23) hx hb d_M_goThrough_39 (by decide) ?_
          exact lp23 _ (by omega) (b + 1) (up2 U 24 b 0) ls H locs (lv_sub hl [1, 2, 0] rfl) hP hS (by omega) (by rw [itr_z, ← hzu]) rfl
      exact lp23 _ 0 T ls H locs (lv_sub hl [1, 2, 0] rfl) hP hS (by omega) (rfl) rfl
    · skip
      refine lv_aload_n hx hb d_M_goThrough_7 rfl (lv_at hl 0 rfl) ?_
      refine x_getM (v := .ref (X.2.2.2 23)) cf hK hP 30 (by decide) w_491 rfl d_M_goThrough_8 ?_
      refine lv_iload_n hx hb d_M_goThrough_11 rfl (lv_at hl 2 rfl) ?_
      refine lv_bipush (v := nI 100) hx hb d_M_goThrough_12 (by decide) ?_
      refine x_iast cf hK hD hP hS (ia23 X) (by omega) d_M_goThrough_14 (fun H locs hP hS => ?_)
      refine n_iinc1 (lv' := [(2, .int (nI (a + 1))), (0, .ref (X.2.2.2 0)), (1, .int (nI r))]) (k := 2) hx hb d_M_goThrough_15 hl rfl (by decide) rfl (fun ls hl => ?_)
      refine lv_goto (tgt := 2) hx hb d_M_goThrough_18 (by decide) ?_
      exact lp2 _ (by omega) (a + 1) (up2 T 23 a 100) ls H locs (lv_sub hl [1, 2, 0] rfl) hP hS (by omega) (by rw [itr_z, ← hz]) rfl
  exact lp2 _ 0 S ls H locs (lv_sub hl [1, 2, 0] rfl) hP hS (by omega) (rfl) rfl
set_option maxRecDepth 100000 in
set_option maxHeartbeats 4000000 in
theorem k_M_balance (l : Launch) {X : WX} (hX : xInj X) {S : Nat → Nat → Nat} {V : Nat} (hI : IW V S) (hPar : ParOk S (S 0 5)) (r a : Int32) : MetI l X y_M_balance (Cond.code y_M_balance c_M_balance 3 (some .int) :: Mst) 3 [.ref (X.2.2.2 0), .int r, .int a] S (rBalance S r a) (mBalance S r a) := by
  refine MetI.of (by decide) (Nat.le_of_ble_eq_true rfl) ?_
  intro p e s m args below meth c cf hr hlk hP hK hN ls hl
  have hl : lv_has ls 3 [(0, .ref (X.2.2.2 0)), (1, .int r), (2, .int a)] := hl
  have hx := cf.1
  have hb := cf.2.1
  have hD := xD_of hX
  have hS : va_S (xA X) s.heap s.heap [] := va_S.rf
  have hf := hI.f
  have hn := hI.n
  have hk := hI.k
  have hcs := hI.cs
  have ht := hI.t
  have hbl := hI.b
  have hm := hI.m
  have hV := hI.V
  obtain ⟨H, hH⟩ : ∃ H, H = s.heap := ⟨_, rfl⟩
  obtain ⟨locs, hlo⟩ : ∃ z : List Loc, z = [] := ⟨_, rfl⟩
  suffices hgo : PW X S H → va_S (xA X) s.heap H locs → W p l e (rmd 3) s m args below meth c H locs 0 0 (MQ below (QcI X (rBalance S r a) (mBalance S r a)) args s 0 0 (xA X)) (F0 m 0 ls []) by
    subst hH
    subst hlo
    exact hgo hP hS
  clear hP hS
  intro hP hS
  refine lv_aload_n hx hb d_M_balance_0 rfl (lv_at hl 0 rfl) ?_
  refine lv_iload_n hx hb d_M_balance_1 rfl (lv_at hl 1 rfl) ?_
  refine x_callVi (As := [.int r]) (rest := []) cf hK hN hP hS (k_M_isCorrect l hX hI r) (cw_M_isCorrect cf.2.2.2.2 w_567 ⟨Nat.le_of_ble_eq_true rfl, Nat.le_of_ble_eq_true rfl⟩) (rv_M hK hP) hl.1 rfl rfl (Nat.le_of_ble_eq_true rfl) ⟨Nat.zero_le _, Nat.zero_le _⟩ d_M_balance_2 (fun H locs hP hS => ?_)
  refine n_if_eq (tgt := 17) hx hb d_M_balance_5 (by decide) (tnat_lt _) (fun h1 => ?_) (fun h1 => ?_)
  · skip
    refine lv_iconst (v := (-1)) hx hb d_M_balance_17 (by decide) ?_
    exact x_iret cf hr hlk hP hS (by unfold rBalance; rw [if_neg (fun q => by rw [tnat_0 h1] at q; exact absurd q.1 (by decide))]) (by unfold mBalance; rw [if_neg (fun q => by rw [tnat_0 h1] at q; exact absurd q.1 (by decide))]) d_M_balance_18
  · skip
    obtain ⟨j, hj, rfl, hjb⟩ := mCorrect_ex (by omega) (tnat_1 h1)
    have hjc := nI_clamp (show j < 2 ^ 31 by omega)
    have hcor := tnat_1 h1
    refine lv_iload_n hx hb d_M_balance_8 rfl (lv_at hl 2 rfl) ?_
    refine lv_if_lt (tgt := 17) hx hb d_M_balance_9 (by decide) (fun h2 => ?_) (fun h2 => ?_)
    · skip
      have uh2 := i_lt0 h2
      refine lv_iconst (v := (-1)) hx hb d_M_balance_17 (by decide) ?_
      exact x_iret cf hr hlk hP hS (by unfold rBalance; rw [if_neg (by omega)]) (by unfold mBalance; rw [if_neg (by omega)]) d_M_balance_18
    · skip
      have uh2 := i_nlt0 h2
      refine lv_iload_n hx hb d_M_balance_12 rfl (lv_at hl 2 rfl) ?_
      refine lv_iconst (v := nI 3) hx hb d_M_balance_13 (by decide) ?_
      refine lv_icmp_le (tgt := 19) hx hb d_M_balance_14 (by decide) (fun h3 => ?_) (fun h3 => ?_)
      · skip
        have uh3 := i_leN (by decide) h3
        obtain ⟨k, hk31, rfl, hkt, hkc⟩ := i_nat uh2
        refine lv_aload_n hx hb d_M_balance_19 rfl (lv_at hl 0 rfl) ?_
        refine lv_iload_n hx hb d_M_balance_20 rfl (lv_at hl 1 rfl) ?_
        refine x_callVv (As := [.int (nI j)]) (rest := []) cf hK hN hP hS (k_M_goThrough l hX hI (by omega) hPar) (cw_M_goThrough cf.2.2.2.2 w_715 ⟨Nat.le_of_ble_eq_true rfl, Nat.le_of_ble_eq_true rfl⟩) (rv_M hK hP) hl.1 rfl rfl (Nat.le_of_ble_eq_true rfl) ⟨Nat.zero_le _, Nat.zero_le _⟩ d_M_balance_21 (fun H locs hP hS => ?_)
        refine lv_aload_n hx hb d_M_balance_24 rfl (lv_at hl 0 rfl) ?_
        refine x_getM (v := .ref (X.2.2.2 23)) cf hK hP 30 (by decide) w_491 rfl d_M_balance_25 ?_
        refine lv_iload_n hx hb d_M_balance_28 rfl (lv_at hl 2 rfl) ?_
        refine x_iald (v := ((mGo S j) 23 k)) cf hK hP (ia23 X) (by omega) rfl d_M_balance_29 ?_
        exact x_iret cf hr hlk hP hS (by unfold rBalance; rw [if_pos ⟨hcor, by omega⟩, hjc, hkc]) (by unfold mBalance; rw [if_pos ⟨hcor, by omega⟩, hjc]) d_M_balance_30
      · skip
        have uh3 := i_nleN (by decide) h3
        refine lv_iconst (v := (-1)) hx hb d_M_balance_17 (by decide) ?_
        exact x_iret cf hr hlk hP hS (by unfold rBalance; rw [if_neg (by omega)]) (by unfold mBalance; rw [if_neg (by omega)]) d_M_balance_18
set_option maxRecDepth 100000 in
set_option maxHeartbeats 4000000 in
theorem k_M_outcome (l : Launch) {X : WX} (hX : xInj X) {S : Nat → Nat → Nat} {V : Nat} (hI : IW V S) (hPar : ParOk S (S 0 5)) (r t : Int32) : MetI l X y_M_outcome (Cond.code y_M_outcome c_M_outcome 3 (some .int) :: Mst) 3 [.ref (X.2.2.2 0), .int r, .int t] S (rOutcome S r t) (mOutcome S r t) := by
  refine MetI.of (by decide) (Nat.le_of_ble_eq_true rfl) ?_
  intro p e s m args below meth c cf hr hlk hP hK hN ls hl
  have hl : lv_has ls 3 [(0, .ref (X.2.2.2 0)), (1, .int r), (2, .int t)] := hl
  have hx := cf.1
  have hb := cf.2.1
  have hD := xD_of hX
  have hS : va_S (xA X) s.heap s.heap [] := va_S.rf
  have hf := hI.f
  have hn := hI.n
  have hk := hI.k
  have hcs := hI.cs
  have ht := hI.t
  have hbl := hI.b
  have hm := hI.m
  have hV := hI.V
  obtain ⟨H, hH⟩ : ∃ H, H = s.heap := ⟨_, rfl⟩
  obtain ⟨locs, hlo⟩ : ∃ z : List Loc, z = [] := ⟨_, rfl⟩
  suffices hgo : PW X S H → va_S (xA X) s.heap H locs → W p l e (rmd 3) s m args below meth c H locs 0 0 (MQ below (QcI X (rOutcome S r t) (mOutcome S r t)) args s 0 0 (xA X)) (F0 m 0 ls []) by
    subst hH
    subst hlo
    exact hgo hP hS
  clear hP hS
  intro hP hS
  refine lv_aload_n hx hb d_M_outcome_0 rfl (lv_at hl 0 rfl) ?_
  refine lv_iload_n hx hb d_M_outcome_1 rfl (lv_at hl 1 rfl) ?_
  refine x_callVi (As := [.int r]) (rest := []) cf hK hN hP hS (k_M_isCorrect l hX hI r) (cw_M_isCorrect cf.2.2.2.2 w_567 ⟨Nat.le_of_ble_eq_true rfl, Nat.le_of_ble_eq_true rfl⟩) (rv_M hK hP) hl.1 rfl rfl (Nat.le_of_ble_eq_true rfl) ⟨Nat.zero_le _, Nat.zero_le _⟩ d_M_outcome_2 (fun H locs hP hS => ?_)
  refine n_if_eq (tgt := 20) hx hb d_M_outcome_5 (by decide) (tnat_lt _) (fun h1 => ?_) (fun h1 => ?_)
  · skip
    refine lv_iconst (v := (-1)) hx hb d_M_outcome_20 (by decide) ?_
    exact x_iret cf hr hlk hP hS (by unfold rOutcome; rw [if_neg (fun q => by rw [tnat_0 h1] at q; exact absurd q.1 (by decide))]) (by unfold mOutcome; rw [if_neg (fun q => by rw [tnat_0 h1] at q; exact absurd q.1 (by decide))]) d_M_outcome_21
  · skip
    obtain ⟨j, hj, rfl, hjb⟩ := mCorrect_ex (by omega) (tnat_1 h1)
    have hjc := nI_clamp (show j < 2 ^ 31 by omega)
    have hcor := tnat_1 h1
    refine lv_iload_n hx hb d_M_outcome_8 rfl (lv_at hl 2 rfl) ?_
    refine lv_if_lt (tgt := 20) hx hb d_M_outcome_9 (by decide) (fun h2 => ?_) (fun h2 => ?_)
    · skip
      have uh2 := i_lt0 h2
      refine lv_iconst (v := (-1)) hx hb d_M_outcome_20 (by decide) ?_
      exact x_iret cf hr hlk hP hS (by unfold rOutcome; rw [if_neg (by omega)]) (by unfold mOutcome; rw [if_neg (by omega)]) d_M_outcome_21
    · skip
      have uh2 := i_nlt0 h2
      refine lv_iload_n hx hb d_M_outcome_12 rfl (lv_at hl 2 rfl) ?_
      refine lv_aload_n hx hb d_M_outcome_13 rfl (lv_at hl 0 rfl) ?_
      refine x_getM (v := .int (nI (S 0 4))) cf hK hP 4 (by decide) w_465 rfl d_M_outcome_14 ?_
      refine lv_icmp_lt (tgt := 22) hx hb d_M_outcome_17 (by decide) (fun h3 => ?_) (fun h3 => ?_)
      · skip
        have uh3 := i_ltN (by omega) h3
        obtain ⟨k, hk31, rfl, hkt, hkc⟩ := i_nat uh2
        refine lv_aload_n hx hb d_M_outcome_22 rfl (lv_at hl 0 rfl) ?_
        refine lv_iload_n hx hb d_M_outcome_23 rfl (lv_at hl 1 rfl) ?_
        refine x_callVv (As := [.int (nI j)]) (rest := []) cf hK hN hP hS (k_M_goThrough l hX hI (by omega) hPar) (cw_M_goThrough cf.2.2.2.2 w_715 ⟨Nat.le_of_ble_eq_true rfl, Nat.le_of_ble_eq_true rfl⟩) (rv_M hK hP) hl.1 rfl rfl (Nat.le_of_ble_eq_true rfl) ⟨Nat.zero_le _, Nat.zero_le _⟩ d_M_outcome_24 (fun H locs hP hS => ?_)
        refine lv_aload_n hx hb d_M_outcome_27 rfl (lv_at hl 0 rfl) ?_
        refine x_getM (v := .ref (X.2.2.2 24)) cf hK hP 31 (by decide) w_492 rfl d_M_outcome_28 ?_
        refine lv_iload_n hx hb d_M_outcome_31 rfl (lv_at hl 2 rfl) ?_
        refine x_iald (v := ((mGo S j) 24 k)) cf hK hP (ia24 X) (by omega) rfl d_M_outcome_32 ?_
        exact x_iret cf hr hlk hP hS (by unfold rOutcome; rw [if_pos ⟨hcor, by omega⟩, hjc, hkc]) (by unfold mOutcome; rw [if_pos ⟨hcor, by omega⟩, hjc]) d_M_outcome_33
      · skip
        have uh3 := i_nltN (by omega) h3
        refine lv_iconst (v := (-1)) hx hb d_M_outcome_20 (by decide) ?_
        exact x_iret cf hr hlk hP hS (by unfold rOutcome; rw [if_neg (by omega)]) (by unfold mOutcome; rw [if_neg (by omega)]) d_M_outcome_21
set_option maxRecDepth 100000 in
set_option maxHeartbeats 4000000 in
theorem k_M_forge (l : Launch) {X : WX} (hX : xInj X) {S : Nat → Nat → Nat} {V : Nat} (hI : IW V S) (p0 v set : Int32) : MetI l X y_M_forge (Cond.code y_M_forge c_M_forge 5 (some .int) :: Mst) 2 [.ref (X.2.2.2 0), .int p0, .int v, .int set] S (rForge S p0 v set) (mForge S p0 v set) := by
  refine MetI.of (by decide) (Nat.le_of_ble_eq_true rfl) ?_
  intro p e s m args below meth c cf hr hlk hP hK hN ls hl
  have hl : lv_has ls 5 [(0, .ref (X.2.2.2 0)), (1, .int p0), (2, .int v), (3, .int set)] := hl
  have hx := cf.1
  have hb := cf.2.1
  have hD := xD_of hX
  have hS : va_S (xA X) s.heap s.heap [] := va_S.rf
  have hf := hI.f
  have hn := hI.n
  have hk := hI.k
  have hcs := hI.cs
  have ht := hI.t
  have hbl := hI.b
  have hm := hI.m
  have hV := hI.V
  obtain ⟨H, hH⟩ : ∃ H, H = s.heap := ⟨_, rfl⟩
  obtain ⟨locs, hlo⟩ : ∃ z : List Loc, z = [] := ⟨_, rfl⟩
  suffices hgo : PW X S H → va_S (xA X) s.heap H locs → W p l e (rmd 2) s m args below meth c H locs 0 0 (MQ below (QcI X (rForge S p0 v set) (mForge S p0 v set)) args s 0 0 (xA X)) (F0 m 0 ls []) by
    subst hH
    subst hlo
    exact hgo hP hS
  clear hP hS
  intro hP hS
  refine lv_aload_n hx hb d_M_forge_0 rfl (lv_at hl 0 rfl) ?_
  refine lv_iload_n hx hb d_M_forge_1 rfl (lv_at hl 1 rfl) ?_
  refine x_callVi (As := [.int p0]) (rest := []) cf hK hN hP hS (k_M_isBlock l hX hI p0) (cw_M_isBlock cf.2.2.2.2 w_655 ⟨Nat.le_of_ble_eq_true rfl, Nat.le_of_ble_eq_true rfl⟩) (rv_M hK hP) hl.1 rfl rfl (Nat.le_of_ble_eq_true rfl) ⟨Nat.zero_le _, Nat.zero_le _⟩ d_M_forge_2 (fun H locs hP hS => ?_)
  refine n_if_eq (tgt := 42) hx hb d_M_forge_5 (by decide) (tnat_lt _) (fun h1 => ?_) (fun h1 => ?_)
  · skip
    have hno : rForgeOk S p0 v set = false := by unfold rForgeOk; rw [tnat_0 (b := mBlock S p0) h1]; simp
    refine lv_iconst (v := (-1)) hx hb d_M_forge_42 (by decide) ?_
    exact x_iret cf hr hlk hP hS (by unfold rForge; rw [hno]; rfl) (by unfold mForge; rw [hno]; rfl) d_M_forge_43
  · skip
    obtain ⟨pj, hpj, rfl⟩ := mBlock_nI (by omega) (tnat_1 h1)
    have hpjc := nI_clamp (show pj < 2 ^ 31 by omega)
    refine lv_aload_n hx hb d_M_forge_8 rfl (lv_at hl 0 rfl) ?_
    refine lv_iload_n hx hb d_M_forge_9 rfl (lv_at hl 1 rfl) ?_
    refine x_callVi (As := [.int (nI pj)]) (rest := []) cf hK hN hP hS (k_M_certified l hX hI (by omega)) (cw_M_certified cf.2.2.2.2 w_659 ⟨Nat.le_of_ble_eq_true rfl, Nat.le_of_ble_eq_true rfl⟩) (rv_M hK hP) hl.1 rfl rfl (Nat.le_of_ble_eq_true rfl) ⟨Nat.zero_le _, Nat.zero_le _⟩ d_M_forge_10 (fun H locs hP hS => ?_)
    refine n_if_eq (tgt := 42) hx hb d_M_forge_13 (by decide) (tnat_lt _) (fun h2 => ?_) (fun h2 => ?_)
    · skip
      have hno : rForgeOk S (nI pj) v set = false := by unfold rForgeOk; rw [hpjc, tnat_0 (b := mCert S pj) h2]; simp
      refine lv_iconst (v := (-1)) hx hb d_M_forge_42 (by decide) ?_
      exact x_iret cf hr hlk hP hS (by unfold rForge; rw [hno]; rfl) (by unfold mForge; rw [hno]; rfl) d_M_forge_43
    · skip
      refine lv_iload_n hx hb d_M_forge_16 rfl (lv_at hl 2 rfl) ?_
      refine lv_aload_n hx hb d_M_forge_17 rfl (lv_at hl 0 rfl) ?_
      refine x_getM (v := .ref (X.2.2.2 5)) cf hK hP 10 (by decide) w_471 rfl d_M_forge_18 ?_
      refine lv_iload_n hx hb d_M_forge_21 rfl (lv_at hl 1 rfl) ?_
      refine x_iald (v := (S 5 pj)) cf hK hP (ia5 X) (by omega) rfl d_M_forge_22 ?_
      refine lv_icmp_le (tgt := 42) hx hb d_M_forge_23 (by decide) (fun h3 => ?_) (fun h3 => ?_)
      · skip
        have uh3 := i_leN (by have := (show S 5 pj + 1 ≤ V from hI.c 5 pj); omega) h3
        have hno : rForgeOk S (nI pj) v set = false := by unfold rForgeOk; rw [hpjc, decide_eq_false (p := (S 5 pj : Int) < v.toInt) (by omega)]; simp
        refine lv_iconst (v := (-1)) hx hb d_M_forge_42 (by decide) ?_
        exact x_iret cf hr hlk hP hS (by unfold rForge; rw [hno]; rfl) (by unfold mForge; rw [hno]; rfl) d_M_forge_43
      · skip
        have uh3 := i_nleN (by have := (show S 5 pj + 1 ≤ V from hI.c 5 pj); omega) h3
        refine lv_iload_n hx hb d_M_forge_26 rfl (lv_at hl 2 rfl) ?_
        refine lv_sipush (v := nI 9999) hx hb d_M_forge_27 (by decide) ?_
        refine lv_icmp_gt (tgt := 42) hx hb d_M_forge_30 (by decide) (fun h4 => ?_) (fun h4 => ?_)
        · skip
          have uh4 := i_gtN (by decide) h4
          have hno : rForgeOk S (nI pj) v set = false := by unfold rForgeOk; rw [decide_eq_false (p := v.toInt ≤ 9999) (by omega)]; simp
          refine lv_iconst (v := (-1)) hx hb d_M_forge_42 (by decide) ?_
          exact x_iret cf hr hlk hP hS (by unfold rForge; rw [hno]; rfl) (by unfold mForge; rw [hno]; rfl) d_M_forge_43
        · skip
          have uh4 := i_ngtN (by decide) h4
          refine lv_aload_n hx hb d_M_forge_33 rfl (lv_at hl 0 rfl) ?_
          refine x_getM (v := .int (nI (S 0 5))) cf hK hP 9 (by decide) w_470 rfl d_M_forge_34 ?_
          refine lv_bipush (v := nI 40) hx hb d_M_forge_37 (by decide) ?_
          refine n_icmp_lt (tgt := 44) hx hb d_M_forge_39 (by decide) (by omega) (by decide) (fun h5 => ?_) (fun h5 => ?_)
          · skip
            obtain ⟨vj, hvj, rfl, hvjt, hvjc⟩ := i_nat (x := v) (by omega)
            refine lv_aload_n hx hb d_M_forge_44 rfl (lv_at hl 0 rfl) ?_
            refine lv_iload_n hx hb d_M_forge_45 rfl (lv_at hl 2 rfl) ?_
            refine x_callVi (As := [.int (nI vj)]) (rest := []) cf hK hN hP hS (k_M_leader l hX hI vj (by omega)) (cw_M_leader cf.2.2.2.2 w_575 ⟨Nat.le_of_ble_eq_true rfl, Nat.le_of_ble_eq_true rfl⟩) (rv_M hK hP) hl.1 rfl rfl (Nat.le_of_ble_eq_true rfl) ⟨Nat.zero_le _, Nat.zero_le _⟩ d_M_forge_46 (fun H locs hP hS => ?_)
            have hle := mLeader_lt hI vj
            refine lv_istore (lv' := [(4, .int (nI (mLeader S vj))), (0, .ref (X.2.2.2 0)), (1, .int (nI pj)), (2, .int (nI vj)), (3, .int set)]) hx hb d_M_forge_49 hl (by decide) rfl (fun ls hl => ?_)
            refine lv_aload_n hx hb d_M_forge_51 rfl (lv_at hl 1 rfl) ?_
            refine lv_iload hx hb d_M_forge_52 (lv_at hl 0 rfl) ?_
            refine x_callVi (As := [.int (nI (mLeader S vj))]) (rest := []) cf hK hN hP hS (k_M_isCorrupt l hX hI (nI (mLeader S vj))) (cw_M_isCorrupt cf.2.2.2.2 w_611 ⟨Nat.le_of_ble_eq_true rfl, Nat.le_of_ble_eq_true rfl⟩) (rv_M hK hP) hl.1 rfl rfl (Nat.le_of_ble_eq_true rfl) ⟨Nat.zero_le _, Nat.zero_le _⟩ d_M_forge_54 (fun H locs hP hS => ?_)
            refine n_if_eq (tgt := 75) hx hb d_M_forge_57 (by decide) (tnat_lt _) (fun h6 => ?_) (fun h6 => ?_)
            · skip
              have hno : rForgeOk S (nI pj) (nI vj) set = false := by have q := tnat_0 h6; rw [mCorrupt_nI (by omega) hle] at q; unfold rForgeOk; rw [hvjc, q]; simp
              refine lv_iconst (v := (-1)) hx hb d_M_forge_75 (by decide) ?_
              exact x_iret cf hr hlk hP hS (by unfold rForge; rw [hno]; rfl) (by unfold mForge; rw [hno]; rfl) d_M_forge_76
            · skip
              have hcl := tnat_1 h6
              rw [mCorrupt_nI (by omega) hle] at hcl
              refine lv_iload_n hx hb d_M_forge_60 rfl (lv_at hl 4 rfl) ?_
              refine lv_iconst (v := nI 1) hx hb d_M_forge_61 (by decide) ?_
              refine lv_aload_n hx hb d_M_forge_62 rfl (lv_at hl 1 rfl) ?_
              refine x_getM (v := .int (nI (S 0 4))) cf hK hP 4 (by decide) w_465 rfl d_M_forge_63 ?_
              refine n_ishl hx hb (by omega) (by have : 2 ^ S 0 4 ≤ 2 ^ 24 := Nat.pow_le_pow_right (by decide) (by omega); omega) d_M_forge_66 ?_
              refine lv_iconst (v := nI 1) hx hb d_M_forge_67 (by decide) ?_
              have hp2 : 1 ≤ 2 ^ S 0 4 := Nat.one_le_two_pow
              refine n_isub hx hb (by omega) d_M_forge_68 ?_
              refine lv_iconst (v := (-1)) hx hb d_M_forge_69 (by decide) ?_
              refine lv_ixor hx hb d_M_forge_70 ?_
              refine lv_iand hx hb d_M_forge_71 ?_
              refine lv_if_eq (tgt := 77) hx hb d_M_forge_72 (by decide) (fun h7 => ?_) (fun h7 => ?_)
              · skip
                have uh7 := i_eq0 h7
                have hmk := (mask_iff (by omega)).mp h7
                have hyes : rForgeOk S (nI pj) (nI vj) set = true := by unfold rForgeOk; rw [hpjc, hvjc, tnat_1 (b := mBlock S (nI pj)) h1, tnat_1 (b := mCert S pj) h2, decide_eq_true (p := (S 5 pj : Int) < (nI vj).toInt) (by omega), decide_eq_true (p := (nI vj).toInt ≤ 9999) (by omega), decide_eq_true (p := S 0 5 < 40) (by omega), hcl, decide_eq_true hmk]; rfl
                obtain ⟨sj, hsj, rfl, hsjt, hsjc⟩ := i_nat (x := set) hmk.1
                refine lv_aload_n hx hb d_M_forge_77 rfl (lv_at hl 1 rfl) ?_
                refine lv_iload_n hx hb d_M_forge_78 rfl (lv_at hl 3 rfl) ?_
                refine lv_iload_n hx hb d_M_forge_79 rfl (lv_at hl 2 rfl) ?_
                refine lv_iload_n hx hb d_M_forge_80 rfl (lv_at hl 4 rfl) ?_
                refine x_callVi (As := [.int (nI vj), .int (nI pj), .int (nI sj)]) (rest := []) cf hK hN hP hS (k_M_newBlock l hX hI (by omega) vj pj sj) (cw_M_newBlock cf.2.2.2.2 w_587 ⟨Nat.le_of_ble_eq_true rfl, Nat.le_of_ble_eq_true rfl⟩) (rv_M hK hP) hl.1 rfl rfl (Nat.le_of_ble_eq_true rfl) ⟨Nat.zero_le _, Nat.zero_le _⟩ d_M_forge_81 (fun H locs hP hS => ?_)
                exact x_iret cf hr hlk hP hS (by unfold rForge; rw [hyes]; rfl) (by unfold mForge; rw [hyes, hvjc, hpjc, hsjc]; rfl) d_M_forge_84
              · skip
                have uh7 := i_ne0 h7
                have hno : rForgeOk S (nI pj) (nI vj) set = false := by unfold rForgeOk; rw [decide_eq_false (p := 0 ≤ set.toInt ∧ set.toInt < ((2 ^ S 0 4 : Nat) : Int)) (fun q => h7 ((mask_iff (by omega)).mpr q))]; simp
                refine lv_iconst (v := (-1)) hx hb d_M_forge_75 (by decide) ?_
                exact x_iret cf hr hlk hP hS (by unfold rForge; rw [hno]; rfl) (by unfold mForge; rw [hno]; rfl) d_M_forge_76
          · skip
            have hno : rForgeOk S (nI pj) v set = false := by unfold rForgeOk; rw [decide_eq_false (p := S 0 5 < 40) (by omega)]; simp
            refine lv_iconst (v := (-1)) hx hb d_M_forge_42 (by decide) ?_
            exact x_iret cf hr hlk hP hS (by unfold rForge; rw [hno]; rfl) (by unfold mForge; rw [hno]; rfl) d_M_forge_43
