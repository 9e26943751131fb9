theorem cLater_lt {S : Nat → Nat → Nat} {a b N : Nat} (ha : a < N) (hb : b < N) : cLater S a b < N := by
  unfold cLater
  split
  · exact hb
  · exact ha
theorem cLater_congr {S T : Nat → Nat → Nat} (h : T 32 = S 32) (a b : Nat) : cLater T a b = cLater S a b := by
  unfold cLater
  rw [h]
theorem cFol_congr {S T : Nat → Nat → Nat} (h : T 32 = S 32) (h2 : T 33 = S 33) (b : Nat) : cFol T b = cFol S b := by
  unfold cFol
  rw [h, h2]
theorem cInC_congr {S T : Nat → Nat → Nat} (h : T 37 = S 37) (a b : Nat) : cInC T a b = cInC S a b := by
  unfold cInC
  rw [h]
theorem upR_ne {S : Nat → Nat → Nat} {r j v row : Nat} (h : row < 44) : up2 S (3 * r + 44) j v row = S row := up2_ne _ _ _ (by omega)
theorem cSee1_ne {S : Nat → Nat → Nat} {r x row : Nat} (h : row ≠ 3 * r + 44) : cSee1 S r x row = S row := by
  unfold cSee1
  rw [up2_ne _ _ _ h, up2_ne _ _ _ h]
theorem cSee2_ne {S : Nat → Nat → Nat} {r x row : Nat} (h : row ≠ 3 * r + 44) : cSee2 S r x row = S row := by
  unfold cSee2
  split
  · rw [up2_ne _ _ _ h, cSee1_ne h]
  · exact cSee1_ne h
theorem cSee2_0 {S : Nat → Nat → Nat} {r x j : Nat} (h6 : j ≠ 6) (h7 : j ≠ 7) (h8 : j ≠ 8) : cSee2 S r x (3 * r + 44) j = S (3 * r + 44) j := by
  unfold cSee2 cSee1
  split <;> simp [up2_at, h6, h7, h8]
theorem cEnter_ne {S : Nat → Nat → Nat} {r v row : Nat} (h : row ≠ 3 * r + 44) : cEnter S r v row = S row := by
  unfold cEnter
  rw [up2_ne _ _ _ h, up2_ne _ _ _ h]
theorem cSee_ne {S : Nat → Nat → Nat} {r x row : Nat} (h : row ≠ 3 * r + 44) : cSee S r x row = S row := by
  unfold cSee
  split
  · exact cSee2_ne h
  · rw [up2_ne _ _ _ h, cEnter_ne h, cSee2_ne h]
theorem CI.enter {V : Nat} {X : WX} {S : Nat → Nat → Nat} {r v : Nat} (h : CI V X S) (h1 : 1 ≤ v) (h2 : v ≤ V) : CI V X (cEnter S r v) := (h.upR (j := 0) (show 1 ≤ v ∧ v ≤ V from ⟨h1, h2⟩)).upR (j := 1) (show 0 ≤ V from Nat.zero_le _)
theorem CI.see1 {V : Nat} {X : WX} {S : Nat → Nat → Nat} {r x : Nat} (h : CI V X S) (hx : x < 40) : CI V X (cSee1 S r x) := by
  have hr := h.rp r
  exact (h.upR (j := 6) (show cLater S _ _ < 40 from cLater_lt (by omega) hx)).upR (j := 7) (show cLater S _ _ < 40 from cLater_lt (by omega) (show S 33 x < 40 from h.c 33 x))
theorem CI.see2 {V : Nat} {X : WX} {S : Nat → Nat → Nat} {r x : Nat} (h : CI V X S) (hx : x < 40) : CI V X (cSee2 S r x) := by
  have hr := h.rp r
  unfold cSee2
  split
  · exact (h.see1 hx).upR (j := 8) (show cLater S _ _ < 40 from cLater_lt (by omega) (show S 33 (S 33 x) < 40 from h.c 33 _))
  · exact h.see1 hx
theorem CI.see {V : Nat} {X : WX} {S : Nat → Nat → Nat} {r x : Nat} (h : CI V X S) (hx : x < 40) : CI V X (cSee S r x) := by
  have h5 := (show S 32 x + 1 ≤ V from h.c 32 x)
  unfold cSee
  split
  · exact h.see2 hx
  · exact ((h.see2 hx).enter (by omega) (by omega)).upR (j := 2) (show 2 ≤ 32 by decide)
theorem CI.send {V : Nat} {X : WX} {S : Nat → Nat → Nat} {k to fr b v : Nat} (h : CI V X S) (hk : k < 4) (ht : to < X.2.2.1) (hf : fr < X.2.2.1) (hb : b < 40) (hv : v < 2147483648) : CI V X (cSend S k to fr b v) := by
  have hr := h.ro
  have hn := h.nn
  unfold cSend
  split
  · exact h.up (k := 38) (j := 1) (fun q => by omega)
  · refine ((h.up (k := 39) ?_).up (k := 40) hv).up (k := 38) (j := 0) (fun _ => by omega)
    show k + 4 * to + 32 * fr + 256 * b < 10496 ∧ (k + 4 * to + 32 * fr + 256 * b) / 4 % 8 < X.2.2.1 ∧ (k + 4 * to + 32 * fr + 256 * b) / 32 % 8 < X.2.2.1 ∧ (k + 4 * to + 32 * fr + 256 * b) / 256 < 40
    omega
def cRepl (S : Nat → Nat → Nat) (r : Int32) : Bool := decide (0 ≤ r.toInt ∧ r.toInt < (S 25 0 : Int))
def cCorrect (S : Nat → Nat → Nat) (r : Int32) : Bool := cRepl S r && decide (¬ S 25 3 / 2 ^ r.toNatClampNeg % 2 = 1)
def cCorrupt (S : Nat → Nat → Nat) (r : Int32) : Bool := cRepl S r && decide (S 25 3 / 2 ^ r.toNatClampNeg % 2 = 1)
def cLeader (S : Nat → Nat → Nat) (v : Nat) : Nat := (v - 1) / S 25 2 % S 25 0
def cSafe (S : Nat → Nat → Nat) (lock b : Nat) : Bool := cInC S lock b || decide (S 32 lock < S 32 (S 33 b))
def cHasCert (S : Nat → Nat → Nat) (b : Int32) : Bool := cHas S b && (decide (b.toInt = 0) || decide (S 25 1 ≤ mSize (S 35 b.toNatClampNeg ||| S 25 3)))
theorem cRepl_nI {S : Nat → Nat → Nat} {r : Int32} (hn : S 25 0 < 2 ^ 31) (h : cRepl S r = true) : ∃ j, j < S 25 0 ∧ r = nI j ∧ r.toNatClampNeg = j := by
  have h := of_decide_eq_true h
  obtain ⟨j, hj, rfl, hjt, hjc⟩ := i_nat (x := r) h.1
  exact ⟨j, by omega, rfl, hjc⟩
theorem cHas_nI {S : Nat → Nat → Nat} {b : Int32} (h : cHas S b = true) : ∃ j, j < S 31 0 ∧ b = nI j ∧ b.toNatClampNeg = j ∧ b.toInt = (j : Int) := by
  have h := of_decide_eq_true h
  obtain ⟨j, hj, rfl, hjt, hjc⟩ := i_nat (x := b) h.1
  exact ⟨j, by omega, rfl, hjc, hjt⟩
theorem cLeader_lt {V : Nat} {X : WX} {S : Nat → Nat → Nat} (h : CI V X S) (v : Nat) : cLeader S v < X.2.2.1 := by
  have hn := h.n
  have hnn := h.nn
  unfold cLeader
  rw [hn.1]
  exact Nat.mod_lt _ (by omega)
theorem cPush_lt {V : Nat} {X : WX} {S : Nat → Nat → Nat} (h : CI V X S) (n r quo : Nat) : cPush S n r quo < 2147483648 := itr_lt (by decide) (fun b z hz => by
  unfold cPushF
  split
  · exact h.rn r b
  · exact hz) _
set_option maxRecDepth 100000 in
set_option maxHeartbeats 4000000 in
theorem k_Rp_see (l : Launch) {X : WX} (hX : xInj X) {S : Nat → Nat → Nat} {V : Nat} (hC : CI V X S) {r : Nat} (hr0 : r < X.2.2.1) {x : Nat} (hx0 : x < 40) : MetV l X y_Rp_see (Cond.code y_Rp_see c_Rp_see 4 none :: Mst) 1 [.ref (X.2.2.2 (3 * r + 44)), .int (nI x), .ref (X.2.2.2 31)] S (cSee S r x) := by
  refine MetV.of (by decide) (Nat.le_of_ble_eq_true rfl) ?_
  intro p e s m args below meth c cf hr hlk hP hK hN ls hl
  have hl : lv_has ls 4 [(0, .ref (X.2.2.2 (3 * r + 44))), (1, .int (nI x)), (2, .ref (X.2.2.2 31))] := hl
  have hx := cf.1
  have hb := cf.2.1
  have hD := xD_of hX
  have hS : va_S (xA X) s.heap s.heap [] := va_S.rf
  have hnn := hC.nn
  have hV := hC.V
  have hcn := hC.n
  have htr := hC.tr
  have hblc := hC.bl
  have hro := hC.ro
  obtain ⟨H, hH⟩ : ∃ H, H = s.heap := ⟨_, rfl⟩
  obtain ⟨locs, hlo⟩ : ∃ z : List Loc, z = [] := ⟨_, rfl⟩
  suffices hgo : PW X S H → va_S (xA X) s.heap H locs → W p l e (rmd 1) s m args below meth c H locs 0 0 (MQ below (QcV X (cSee S r x)) args s 0 0 (xA X)) (F0 m 0 ls []) by
    subst hH
    subst hlo
    exact hgo hP hS
  clear hP hS
  intro hP hS
  refine lv_aload_n hx hb d_Rp_see_0 rfl (lv_at hl 2 rfl) ?_
  refine x_getBl (v := .ref (X.2.2.2 33)) cf hK hP 1 (by decide) w_112 rfl d_Rp_see_1 ?_
  refine lv_iload_n hx hb d_Rp_see_4 rfl (lv_at hl 1 rfl) ?_
  refine x_iald (v := (S 33 x)) cf hK hP (ia33 X) (by omega) rfl d_Rp_see_5 ?_
  refine lv_istore_n (lv' := [(3, .int (nI (S 33 x))), (0, .ref (X.2.2.2 (3 * r + 44))), (1, .int (nI x)), (2, .ref (X.2.2.2 31))]) hx hb d_Rp_see_6 rfl hl (by decide) rfl (fun ls hl => ?_)
  refine lv_aload_n hx hb d_Rp_see_7 rfl (lv_at hl 1 rfl) ?_
  refine lv_aload_n hx hb d_Rp_see_8 rfl (lv_at hl 3 rfl) ?_
  refine lv_aload_n hx hb d_Rp_see_9 rfl (lv_at hl 1 rfl) ?_
  refine x_getRp (v := .int (nI (S (3 * r + 44) 6))) cf hK hP hr0 6 (by decide) w_44 rfl d_Rp_see_10 ?_
  refine lv_iload_n hx hb d_Rp_see_13 rfl (lv_at hl 2 rfl) ?_
  refine x_callVi (As := [.int (nI (S (3 * r + 44) 6)), .int (nI x)]) (rest := [.ref (X.2.2.2 (3 * r + 44))]) cf hK hN hP hS (k_Bl_later l hX hC (by have := (hC.rp r); omega) (by omega)) (cw_Bl_later cf.2.2.2.2 w_314 ⟨Nat.le_of_ble_eq_true rfl, Nat.le_of_ble_eq_true rfl⟩) (rv_Bl hK hP) hl.1 rfl rfl (Nat.le_of_ble_eq_true rfl) ⟨Nat.zero_le _, Nat.zero_le _⟩ d_Rp_see_14 (fun H locs hP hS => ?_)
  have hl6 : cLater S (S (3 * r + 44) 6) x < 40 := cLater_lt (by have := hC.rp r; omega) hx0
  refine x_putRp cf hK hD hP hS hr0 6 (by decide) w_44 rfl (by decide +kernel) 6 rfl d_Rp_see_17 (fun H locs hP hS => ?_)
  refine lv_aload_n hx hb d_Rp_see_20 rfl (lv_at hl 1 rfl) ?_
  refine lv_aload_n hx hb d_Rp_see_21 rfl (lv_at hl 3 rfl) ?_
  refine lv_aload_n hx hb d_Rp_see_22 rfl (lv_at hl 1 rfl) ?_
  refine x_getRp (v := .int (nI (S (3 * r + 44) 7))) cf hK hP hr0 7 (by decide) w_46 (by simp [fsRp, up2_at]) d_Rp_see_23 ?_
  refine lv_iload_n hx hb d_Rp_see_26 rfl (lv_at hl 0 rfl) ?_
  refine x_callVi (As := [.int (nI (S (3 * r + 44) 7)), .int (nI (S 33 x))]) (rest := [.ref (X.2.2.2 (3 * r + 44))]) cf hK hN hP hS (k_Bl_later l hX (hC.upR (r := r) (j := 6) hl6) (by have := (hC.rp r); omega) (by have := (show S 33 x < 40 from hC.c 33 x); omega)) (cw_Bl_later cf.2.2.2.2 w_314 ⟨Nat.le_of_ble_eq_true rfl, Nat.le_of_ble_eq_true rfl⟩) (rv_Bl hK hP) hl.1 rfl rfl (Nat.le_of_ble_eq_true rfl) ⟨Nat.zero_le _, Nat.zero_le _⟩ d_Rp_see_27 (fun H locs hP hS => ?_)
  rw [cLater_congr (S := S) (upR_ne (by decide))]
  refine x_putRp cf hK hD hP hS hr0 7 (by decide) w_46 rfl (by decide +kernel) 7 rfl d_Rp_see_30 (fun H locs hP hS => ?_)
  obtain ⟨T1, hT1⟩ : ∃ z, z = (up2 (up2 S (3 * r + 44) 6 (cLater S (S (3 * r + 44) 6) x)) (3 * r + 44) 7 (cLater S (S (3 * r + 44) 7) (S 33 x))) := ⟨_, rfl⟩
  rw [← hT1] at hP
  have hT1e : T1 = cSee1 S r x := hT1
  have hC1 : CI V X T1 := by rw [hT1e]; exact hC.see1 hx0
  have h132 : T1 32 = S 32 := by rw [hT1e]; exact cSee1_ne (by omega)
  have h133 : T1 33 = S 33 := by rw [hT1e]; exact cSee1_ne (by omega)
  have h18 : T1 (3 * r + 44) 8 = S (3 * r + 44) 8 := by rw [hT1]; simp [up2_at]
  refine lv_aload_n hx hb d_Rp_see_33 rfl (lv_at hl 3 rfl) ?_
  have cut67 : ∀ (T2 : Nat → Nat → Nat) (ls : Array Slot) (H : Heap) (locs : List Loc), lv_has ls 4 [(0, .ref (X.2.2.2 (3 * r + 44))), (1, .int (nI x)), (2, .ref (X.2.2.2 31))] → PW X T2 H → va_S (xA X) s.heap H locs → (CI V X T2) → (T2 = cSee2 S r x) → W p l e (rmd 1) s m args below meth c H locs 0 0 (MQ below (QcV X (cSee S r x)) args s 0 0 (xA X)) (F0 m 67 ls []) := by
    intro T2 ls H locs hl hP hS hC2 hG
    have h232 : T2 32 = S 32 := by rw [hG]; exact cSee2_ne (by omega)
    have h20 : T2 (3 * r + 44) 0 = S (3 * r + 44) 0 := by rw [hG]; exact cSee2_0 (by decide) (by decide) (by decide)
    have h232x : T2 32 x = S 32 x := by rw [h232]
    refine lv_aload_n hx hb d_Rp_see_67 rfl (lv_at hl 2 rfl) ?_
    refine x_getBl (v := .ref (X.2.2.2 32)) cf hK hP 0 (by decide) w_109 rfl d_Rp_see_68 ?_
    refine lv_iload_n hx hb d_Rp_see_71 rfl (lv_at hl 1 rfl) ?_
    refine x_iald (v := (T2 32 x)) cf hK hP (ia32 X) (by omega) rfl d_Rp_see_72 ?_
    refine lv_aload_n hx hb d_Rp_see_73 rfl (lv_at hl 0 rfl) ?_
    refine x_getRp (v := .int (nI (T2 (3 * r + 44) 0))) cf hK hP hr0 0 (by decide) w_35 rfl d_Rp_see_74 ?_
    refine n_icmp_lt (tgt := 97) hx hb d_Rp_see_77 (by decide) (by have := (show T2 32 x + 1 ≤ V from hC2.c 32 x); omega) (by have := (hC2.rp r); omega) (fun h1 => ?_) (fun h1 => ?_)
    · skip
      exact x_vret cf hr hlk hP hS (by unfold cSee; rw [if_pos (by omega)]; exact hG) d_Rp_see_97
    · skip
      refine lv_aload_n hx hb d_Rp_see_80 rfl (lv_at hl 0 rfl) ?_
      refine lv_aload_n hx hb d_Rp_see_81 rfl (lv_at hl 2 rfl) ?_
      refine x_getBl (v := .ref (X.2.2.2 32)) cf hK hP 0 (by decide) w_109 rfl d_Rp_see_82 ?_
      refine lv_iload_n hx hb d_Rp_see_85 rfl (lv_at hl 1 rfl) ?_
      refine x_iald (v := (T2 32 x)) cf hK hP (ia32 X) (by omega) rfl d_Rp_see_86 ?_
      refine lv_iconst (v := nI 1) hx hb d_Rp_see_87 (by decide) ?_
      refine n_iadd hx hb d_Rp_see_88 ?_
      refine x_callVv (As := [.int (nI ((T2 32 x) + 1))]) (rest := []) cf hK hN hP hS (k_Rp_enter l hX hC2 hr0) (cw_Rp_enter cf.2.2.2.2 w_322 ⟨Nat.le_of_ble_eq_true rfl, Nat.le_of_ble_eq_true rfl⟩) (rv_Rp hK hP hr0) hl.1 rfl rfl (Nat.le_of_ble_eq_true rfl) ⟨Nat.zero_le _, Nat.zero_le _⟩ d_Rp_see_89 (fun H locs hP hS => ?_)
      refine lv_aload_n hx hb d_Rp_see_92 rfl (lv_at hl 0 rfl) ?_
      refine lv_iconst (v := nI 2) hx hb d_Rp_see_93 (by decide) ?_
      refine x_putRp cf hK hD hP hS hr0 2 (by decide) w_39 rfl (by decide +kernel) 2 rfl d_Rp_see_94 (fun H locs hP hS => ?_)
      exact x_vret cf hr hlk hP hS (by unfold cSee; rw [if_neg (by omega), ← hG, h232x]) d_Rp_see_97
  refine lv_iload_n hx hb d_Rp_see_34 rfl (lv_at hl 2 rfl) ?_
  refine x_callVi (As := [.int (nI x)]) (rest := []) cf hK hN hP hS (k_Bl_followsAtOnce l hX hC1 (by omega)) (cw_Bl_followsAtOnce cf.2.2.2.2 w_318 ⟨Nat.le_of_ble_eq_true rfl, Nat.le_of_ble_eq_true rfl⟩) (rv_Bl hK hP) hl.1 rfl rfl (Nat.le_of_ble_eq_true rfl) ⟨Nat.zero_le _, Nat.zero_le _⟩ d_Rp_see_35 (fun H locs hP hS => ?_)
  rw [cFol_congr (S := S) h132 h133]
  refine n_if_eq (tgt := 67) hx hb d_Rp_see_38 (by decide) (tnat_lt _) (fun h2 => ?_) (fun h2 => ?_)
  · skip
    exact cut67 T1 ls H locs (lv_sub hl [1, 2, 3] rfl) hP hS (hC1) (by unfold cSee2; rw [if_neg (fun q => by rw [tnat_0 h2] at q; exact absurd q.1 (by decide))]; exact hT1e)
  · skip
    refine lv_aload_n hx hb d_Rp_see_41 rfl (lv_at hl 3 rfl) ?_
    refine lv_iload_n hx hb d_Rp_see_42 rfl (lv_at hl 0 rfl) ?_
    refine x_callVi (As := [.int (nI (S 33 x))]) (rest := []) cf hK hN hP hS (k_Bl_followsAtOnce l hX hC1 (by have := (show S 33 x < 40 from hC.c 33 x); omega)) (cw_Bl_followsAtOnce cf.2.2.2.2 w_318 ⟨Nat.le_of_ble_eq_true rfl, Nat.le_of_ble_eq_true rfl⟩) (rv_Bl hK hP) hl.1 rfl rfl (Nat.le_of_ble_eq_true rfl) ⟨Nat.zero_le _, Nat.zero_le _⟩ d_Rp_see_43 (fun H locs hP hS => ?_)
    rw [cFol_congr (S := S) h132 h133]
    refine n_if_eq (tgt := 67) hx hb d_Rp_see_46 (by decide) (tnat_lt _) (fun h3 => ?_) (fun h3 => ?_)
    · skip
      exact cut67 T1 ls H locs (lv_sub hl [1, 2, 3] rfl) hP hS (hC1) (by unfold cSee2; rw [if_neg (fun q => by rw [tnat_0 h3] at q; exact absurd q.2 (by decide))]; exact hT1e)
    · skip
      refine lv_aload_n hx hb d_Rp_see_49 rfl (lv_at hl 1 rfl) ?_
      refine lv_aload_n hx hb d_Rp_see_50 rfl (lv_at hl 3 rfl) ?_
      refine lv_aload_n hx hb d_Rp_see_51 rfl (lv_at hl 1 rfl) ?_
      refine x_getRp (v := .int (nI (T1 (3 * r + 44) 8))) cf hK hP hr0 8 (by decide) w_48 rfl d_Rp_see_52 ?_
      refine lv_aload_n hx hb d_Rp_see_55 rfl (lv_at hl 3 rfl) ?_
      refine x_getBl (v := .ref (X.2.2.2 33)) cf hK hP 1 (by decide) w_112 rfl d_Rp_see_56 ?_
      refine lv_iload_n hx hb d_Rp_see_59 rfl (lv_at hl 0 rfl) ?_
      refine x_iald (v := (T1 33 (S 33 x))) cf hK hP (ia33 X) (by have := (show S 33 x < 40 from hC.c 33 x); omega) rfl d_Rp_see_60 ?_
      refine x_callVi (As := [.int (nI (T1 (3 * r + 44) 8)), .int (nI (T1 33 (S 33 x)))]) (rest := [.ref (X.2.2.2 (3 * r + 44))]) cf hK hN hP hS (k_Bl_later l hX hC1 (by have := (hC1.rp r); omega) (by have := (show S 33 x < 40 from hC.c 33 x); have := (show T1 33 (S 33 x) < 40 from hC1.c 33 (S 33 x)); omega)) (cw_Bl_later cf.2.2.2.2 w_314 ⟨Nat.le_of_ble_eq_true rfl, Nat.le_of_ble_eq_true rfl⟩) (rv_Bl hK hP) hl.1 rfl rfl (Nat.le_of_ble_eq_true rfl) ⟨Nat.zero_le _, Nat.zero_le _⟩ d_Rp_see_61 (fun H locs hP hS => ?_)
      rw [cLater_congr (S := S) h132, h133, h18]
      refine x_putRp cf hK hD hP hS hr0 8 (by decide) w_48 rfl (by decide +kernel) 8 rfl d_Rp_see_64 (fun H locs hP hS => ?_)
      exact cut67 (up2 T1 (3 * r + 44) 8 (cLater S (S (3 * r + 44) 8) (S 33 (S 33 x)))) ls H locs (lv_sub hl [1, 2, 3] rfl) hP hS (hC1.upR (j := 8) (show cLater S _ _ < 40 from cLater_lt (by have := hC.rp r; omega) (show S 33 (S 33 x) < 40 from hC.c 33 _))) (by unfold cSee2; rw [if_pos ⟨tnat_1 h2, tnat_1 h3⟩, ← hT1e])
set_option maxRecDepth 100000 in
set_option maxHeartbeats 4000000 in
theorem k_Bl_atPlace (l : Launch) {X : WX} (hX : xInj X) {S : Nat → Nat → Nat} {V : Nat} (hC : CI V X S) {b : Nat} (hb0 : b < 40) (pl : Int32) : MetI l X y_Bl_atPlace (Cond.code y_Bl_atPlace c_Bl_atPlace 5 (some .int) :: Mst) 1 [.ref (X.2.2.2 31), .int (nI b), .int pl] S (cAtF S b pl (b + 1) 0 0) S := by
  refine MetI.of (by decide) (Nat.le_of_ble_eq_true rfl) ?_
  intro p e s m args below meth c cf hr hlk hP hK hN ls hl
  have hl : lv_has ls 5 [(0, .ref (X.2.2.2 31)), (1, .int (nI b)), (2, .int pl)] := hl
  have hx := cf.1
  have hb := cf.2.1
  have hD := xD_of hX
  have hS : va_S (xA X) s.heap s.heap [] := va_S.rf
  have hnn := hC.nn
  have hV := hC.V
  have hcn := hC.n
  have htr := hC.tr
  have hblc := hC.bl
  have hro := hC.ro
  obtain ⟨H, hH⟩ : ∃ H, H = s.heap := ⟨_, rfl⟩
  obtain ⟨locs, hlo⟩ : ∃ z : List Loc, z = [] := ⟨_, rfl⟩
  suffices hgo : PW X S H → va_S (xA X) s.heap H locs → W p l e (rmd 1) s m args below meth c H locs 0 0 (MQ below (QcI X (cAtF S b pl (b + 1) 0 0) S) args s 0 0 (xA X)) (F0 m 0 ls []) by
    subst hH
    subst hlo
    exact hgo hP hS
  clear hP hS
  intro hP hS
  refine lv_iconst (v := nI 0) hx hb d_Bl_atPlace_0 (by decide) ?_
  refine lv_istore_n (lv' := [(3, .int (nI 0)), (0, .ref (X.2.2.2 31)), (1, .int (nI b)), (2, .int pl)]) hx hb d_Bl_atPlace_1 rfl hl (by decide) rfl (fun ls hl => ?_)
  refine lv_iconst (v := nI 0) hx hb d_Bl_atPlace_2 (by decide) ?_
  refine lv_istore (lv' := [(4, .int (nI 0)), (3, .int (nI 0)), (0, .ref (X.2.2.2 31)), (1, .int (nI b)), (2, .int pl)]) hx hb d_Bl_atPlace_3 hl (by decide) rfl (fun ls hl => ?_)
  have lp5 : ∀ (dm : Nat) (pa : Nat) (a : Nat) (ls : Array Slot) (H : Heap) (locs : List Loc), lv_has ls 5 [(0, .ref (X.2.2.2 31)), (1, .int (nI b)), (2, .int pl), (3, .int (nI pa)), (4, .int (nI a))] → PW X S H → va_S (xA X) s.heap H locs → (a ≤ b + 1) → (pa ≤ a) → (cAtF S b pl (b + 1) 0 0 = cAtF S b pl (b + 1 - a) a pa) → (b + 1 - a = dm) → W p l e (rmd 1) s m args below meth c H locs 0 0 (MQ below (QcI X (cAtF S b pl (b + 1) 0 0) S) args s 0 0 (xA X)) (F0 m 5 ls []) := by
    intro dm
    induction dm using Nat.strongRecOn with | ind dm lp5 => ?_
    intro pa a ls H locs hl hP hS ha hpa hz hdm
    refine lv_iload hx hb d_Bl_atPlace_5 (lv_at hl 4 rfl) ?_
    refine lv_iload_n hx hb d_Bl_atPlace_7 rfl (lv_at hl 1 rfl) ?_
    refine n_icmp_gt (tgt := 38) hx hb d_Bl_atPlace_8 (by decide) (by omega) (by omega) (fun h1 => ?_) (fun h1 => ?_)
    · skip
      refine lv_iconst (v := (-1)) hx hb d_Bl_atPlace_38 (by decide) ?_
      exact x_iret cf hr hlk hP hS (by rw [hz, show b + 1 - a = 0 by omega]; rfl) (rfl) d_Bl_atPlace_39
    · skip
      refine lv_aload_n hx hb d_Bl_atPlace_11 rfl (lv_at hl 0 rfl) ?_
      refine lv_iload hx hb d_Bl_atPlace_12 (lv_at hl 4 rfl) ?_
      refine lv_iload_n hx hb d_Bl_atPlace_14 rfl (lv_at hl 1 rfl) ?_
      refine x_callVi (As := [.int (nI a), .int (nI b)]) (rest := []) cf hK hN hP hS (k_Bl_inChain l hX hC (by omega) (by omega)) (cw_Bl_inChain cf.2.2.2.2 w_421 ⟨Nat.le_of_ble_eq_true rfl, Nat.le_of_ble_eq_true rfl⟩) (rv_Bl hK hP) hl.1 rfl rfl (Nat.le_of_ble_eq_true rfl) ⟨Nat.zero_le _, Nat.zero_le _⟩ d_Bl_atPlace_15 (fun H locs hP hS => ?_)
      refine n_if_eq (tgt := 32) hx hb d_Bl_atPlace_18 (by decide) (tnat_lt _) (fun h2 => ?_) (fun h2 => ?_)
      · skip
        refine n_iinc1 (lv' := [(4, .int (nI (a + 1))), (0, .ref (X.2.2.2 31)), (1, .int (nI b)), (2, .int pl), (3, .int (nI pa))]) (k := 4) hx hb d_Bl_atPlace_32 hl rfl (by decide) rfl (fun ls hl => ?_)
        refine lv_goto (tgt := 5) hx hb d_Bl_atPlace_35 (by decide) ?_
        exact lp5 _ (by omega) pa (a + 1) ls H locs (lv_sub hl [1, 2, 3, 4, 0] rfl) hP hS (by omega) (by omega) (by rw [hz, show b + 1 - a = (b + 1 - (a + 1)) + 1 by omega]; show (if cInC S a b = true then _ else _) = _; rw [if_neg (by rw [tnat_0 h2]; decide)]) rfl
      · skip
        refine lv_iload_n hx hb d_Bl_atPlace_21 rfl (lv_at hl 3 rfl) ?_
        refine lv_iload_n hx hb d_Bl_atPlace_22 rfl (lv_at hl 2 rfl) ?_
        refine lv_icmp_ne (tgt := 29) hx hb d_Bl_atPlace_23 (by decide) (fun h3 => ?_) (fun h3 => ?_)
        · skip
          refine n_iinc1 (lv' := [(3, .int (nI (pa + 1))), (0, .ref (X.2.2.2 31)), (1, .int (nI b)), (2, .int pl), (4, .int (nI a))]) (k := 3) hx hb d_Bl_atPlace_29 hl rfl (by decide) rfl (fun ls hl => ?_)
          refine n_iinc1 (lv' := [(4, .int (nI (a + 1))), (3, .int (nI (pa + 1))), (0, .ref (X.2.2.2 31)), (1, .int (nI b)), (2, .int pl)]) (k := 4) hx hb d_Bl_atPlace_32 hl rfl (by decide) rfl (fun ls hl => ?_)
          refine lv_goto (tgt := 5) hx hb d_Bl_atPlace_35 (by decide) ?_
          exact lp5 _ (by omega) (pa + 1) (a + 1) ls H locs (lv_sub hl [2, 3, 4, 1, 0] rfl) hP hS (by omega) (by omega) (by rw [hz, show b + 1 - a = (b + 1 - (a + 1)) + 1 by omega]; show (if cInC S a b = true then (if nI pa = pl then _ else _) else _) = _; rw [if_pos (tnat_1 h2), if_neg h3]) rfl
        · skip
          refine lv_iload hx hb d_Bl_atPlace_26 (lv_at hl 4 rfl) ?_
          exact x_iret cf hr hlk hP hS (by rw [hz, show b + 1 - a = (b + 1 - (a + 1)) + 1 by omega]; show _ = (if cInC S a b = true then (if nI pa = pl then _ else _) else _); rw [if_pos (tnat_1 h2), if_pos h3]) (rfl) d_Bl_atPlace_28
  exact lp5 _ 0 0 ls H locs (lv_sub hl [2, 3, 4, 1, 0] rfl) hP hS (by omega) (by omega) (rfl) rfl
set_option maxRecDepth 100000 in
set_option maxHeartbeats 4000000 in
theorem k_T_isReplica (l : Launch) {X : WX} (hX : xInj X) {S : Nat → Nat → Nat} {V : Nat} (hC : CI V X S) (r : Int32) : MetI l X y_T_isReplica (Cond.code y_T_isReplica c_T_isReplica 2 (some .boolean) :: Mst) 0 [.ref (X.2.2.2 25), .int r] S (nI (cRepl S r).toNat) S := by
  refine MetI.of (by decide) (Nat.le_of_ble_eq_true rfl) ?_
  intro p e s m args below meth c cf hr hlk hP hK hN ls hl
  have hl : lv_has ls 2 [(0, .ref (X.2.2.2 25)), (1, .int r)] := hl
  have hx := cf.1
  have hb := cf.2.1
  have hD := xD_of hX
  have hS : va_S (xA X) s.heap s.heap [] := va_S.rf
  have hnn := hC.nn
  have hV := hC.V
  have hcn := hC.n
  have htr := hC.tr
  have hblc := hC.bl
  have hro := hC.ro
  obtain ⟨H, hH⟩ : ∃ H, H = s.heap := ⟨_, rfl⟩
  obtain ⟨locs, hlo⟩ : ∃ z : List Loc, z = [] := ⟨_, rfl⟩
  suffices hgo : PW X S H → va_S (xA X) s.heap H locs → W p l e (rmd 0) s m args below meth c H locs 0 0 (MQ below (QcI X (nI (cRepl S r).toNat) S) args s 0 0 (xA X)) (F0 m 0 ls []) by
    subst hH
    subst hlo
    exact hgo hP hS
  clear hP hS
  intro hP hS
  refine lv_iload_n hx hb d_T_isReplica_0 rfl (lv_at hl 1 rfl) ?_
  refine lv_if_lt (tgt := 16) hx hb d_T_isReplica_1 (by decide) (fun h1 => ?_) (fun h1 => ?_)
  · skip
    have uh1 := i_lt0 h1
    refine lv_iconst (v := nI 0) hx hb d_T_isReplica_16 (by decide) ?_
    exact x_zret cf hr hlk hP hS (by unfold cRepl; rw [decide_eq_false (by omega)]; rfl) (rfl) d_T_isReplica_17
  · skip
    have uh1 := i_nlt0 h1
    refine lv_iload_n hx hb d_T_isReplica_4 rfl (lv_at hl 1 rfl) ?_
    refine lv_aload_n hx hb d_T_isReplica_5 rfl (lv_at hl 0 rfl) ?_
    refine x_getT (v := .int (nI (S 25 0))) cf hK hP 0 (by decide) w_177 rfl d_T_isReplica_6 ?_
    refine lv_icmp_ge (tgt := 16) hx hb d_T_isReplica_9 (by decide) (fun h2 => ?_) (fun h2 => ?_)
    · skip
      have uh2 := i_geN (by omega) h2
      refine lv_iconst (v := nI 0) hx hb d_T_isReplica_16 (by decide) ?_
      exact x_zret cf hr hlk hP hS (by unfold cRepl; rw [decide_eq_false (by omega)]; rfl) (rfl) d_T_isReplica_17
    · skip
      have uh2 := i_ngeN (by omega) h2
      refine lv_iconst (v := nI 1) hx hb d_T_isReplica_12 (by decide) ?_
      refine lv_goto (tgt := 17) hx hb d_T_isReplica_13 (by decide) ?_
      exact x_zret cf hr hlk hP hS (by unfold cRepl; rw [decide_eq_true (by omega)]; rfl) (rfl) d_T_isReplica_17
set_option maxRecDepth 100000 in
set_option maxHeartbeats 4000000 in
theorem k_T_isCorrect (l : Launch) {X : WX} (hX : xInj X) {S : Nat → Nat → Nat} {V : Nat} (hC : CI V X S) (r : Int32) : MetI l X y_T_isCorrect (Cond.code y_T_isCorrect c_T_isCorrect 2 (some .boolean) :: Mst) 1 [.ref (X.2.2.2 25), .int r] S (nI (cCorrect S r).toNat) S := by
  refine MetI.of (by decide) (Nat.le_of_ble_eq_true rfl) ?_
  intro p e s m args below meth c cf hr hlk hP hK hN ls hl
  have hl : lv_has ls 2 [(0, .ref (X.2.2.2 25)), (1, .int r)] := hl
  have hx := cf.1
  have hb := cf.2.1
  have hD := xD_of hX
  have hS : va_S (xA X) s.heap s.heap [] := va_S.rf
  have hnn := hC.nn
  have hV := hC.V
  have hcn := hC.n
  have htr := hC.tr
  have hblc := hC.bl
  have hro := hC.ro
  obtain ⟨H, hH⟩ : ∃ H, H = s.heap := ⟨_, rfl⟩
  obtain ⟨locs, hlo⟩ : ∃ z : List Loc, z = [] := ⟨_, rfl⟩
  suffices hgo : PW X S H → va_S (xA X) s.heap H locs → W p l e (rmd 1) s m args below meth c H locs 0 0 (MQ below (QcI X (nI (cCorrect S r).toNat) S) args s 0 0 (xA X)) (F0 m 0 ls []) by
    subst hH
    subst hlo
    exact hgo hP hS
  clear hP hS
  intro hP hS
  refine lv_aload_n hx hb d_T_isCorrect_0 rfl (lv_at hl 0 rfl) ?_
  refine lv_iload_n hx hb d_T_isCorrect_1 rfl (lv_at hl 1 rfl) ?_
  refine x_callVi (As := [.int r]) (rest := []) cf hK hN hP hS (k_T_isReplica l hX hC r) (cw_T_isReplica cf.2.2.2.2 w_231 ⟨Nat.le_of_ble_eq_true rfl, Nat.le_of_ble_eq_true rfl⟩) (rv_T hK hP) hl.1 rfl rfl (Nat.le_of_ble_eq_true rfl) ⟨Nat.zero_le _, Nat.zero_le _⟩ d_T_isCorrect_2 (fun H locs hP hS => ?_)
  refine n_if_eq (tgt := 23) hx hb d_T_isCorrect_5 (by decide) (tnat_lt _) (fun h1 => ?_) (fun h1 => ?_)
  · skip
    refine lv_iconst (v := nI 0) hx hb d_T_isCorrect_23 (by decide) ?_
    exact x_zret cf hr hlk hP hS (by unfold cCorrect; rw [tnat_0 h1]; rfl) (rfl) d_T_isCorrect_24
  · skip
    obtain ⟨j, hj, rfl, hjc⟩ := cRepl_nI (by omega) (tnat_1 h1)
    have hrep := tnat_1 h1
    refine lv_aload_n hx hb d_T_isCorrect_8 rfl (lv_at hl 0 rfl) ?_
    refine x_getT (v := .int (nI (S 25 3))) cf hK hP 3 (by decide) w_180 rfl d_T_isCorrect_9 ?_
    refine lv_iload_n hx hb d_T_isCorrect_12 rfl (lv_at hl 1 rfl) ?_
    refine x_callSi (As := [.int (nI (S 25 3)), .int (nI j)]) (rest := []) cf hK hN hP hS (k_T_hasMember l hX (by omega) (by omega)) (cw_T_hasMember cf.2.2.2.2 w_220 ⟨Nat.le_of_ble_eq_true rfl, Nat.le_of_ble_eq_true rfl⟩) hl.1 rfl rfl (Nat.le_of_ble_eq_true rfl) ⟨Nat.zero_le _, Nat.zero_le _⟩ d_T_isCorrect_13 (fun H locs hP hS => ?_)
    refine n_if_ne (tgt := 23) hx hb d_T_isCorrect_16 (by decide) (tnat_lt _) (fun h2 => ?_) (fun h2 => ?_)
    · skip
      refine lv_iconst (v := nI 0) hx hb d_T_isCorrect_23 (by decide) ?_
      exact x_zret cf hr hlk hP hS (by unfold cCorrect; rw [hrep, hjc, decide_eq_false (fun q => q (of_decide_eq_true (tnat_1 h2)))]; rfl) (rfl) d_T_isCorrect_24
    · skip
      refine lv_iconst (v := nI 1) hx hb d_T_isCorrect_19 (by decide) ?_
      refine lv_goto (tgt := 24) hx hb d_T_isCorrect_20 (by decide) ?_
      exact x_zret cf hr hlk hP hS (by unfold cCorrect; rw [hrep, hjc, decide_eq_true (of_decide_eq_false (tnat_0 h2))]; rfl) (rfl) d_T_isCorrect_24
set_option maxRecDepth 100000 in
set_option maxHeartbeats 4000000 in
theorem k_T_isCorrupt (l : Launch) {X : WX} (hX : xInj X) {S : Nat → Nat → Nat} {V : Nat} (hC : CI V X S) (r : Int32) : MetI l X y_T_isCorrupt (Cond.code y_T_isCorrupt c_T_isCorrupt 2 (some .boolean) :: Mst) 1 [.ref (X.2.2.2 25), .int r] S (nI (cCorrupt S r).toNat) S := by
  refine MetI.of (by decide) (Nat.le_of_ble_eq_true rfl) ?_
  intro p e s m args below meth c cf hr hlk hP hK hN ls hl
  have hl : lv_has ls 2 [(0, .ref (X.2.2.2 25)), (1, .int r)] := hl
  have hx := cf.1
  have hb := cf.2.1
  have hD := xD_of hX
  have hS : va_S (xA X) s.heap s.heap [] := va_S.rf
  have hnn := hC.nn
  have hV := hC.V
  have hcn := hC.n
  have htr := hC.tr
  have hblc := hC.bl
  have hro := hC.ro
  obtain ⟨H, hH⟩ : ∃ H, H = s.heap := ⟨_, rfl⟩
  obtain ⟨locs, hlo⟩ : ∃ z : List Loc, z = [] := ⟨_, rfl⟩
  suffices hgo : PW X S H → va_S (xA X) s.heap H locs → W p l e (rmd 1) s m args below meth c H locs 0 0 (MQ below (QcI X (nI (cCorrupt S r).toNat) S) args s 0 0 (xA X)) (F0 m 0 ls []) by
    subst hH
    subst hlo
    exact hgo hP hS
  clear hP hS
  intro hP hS
  refine lv_aload_n hx hb d_T_isCorrupt_0 rfl (lv_at hl 0 rfl) ?_
  refine lv_iload_n hx hb d_T_isCorrupt_1 rfl (lv_at hl 1 rfl) ?_
  refine x_callVi (As := [.int r]) (rest := []) cf hK hN hP hS (k_T_isReplica l hX hC r) (cw_T_isReplica cf.2.2.2.2 w_231 ⟨Nat.le_of_ble_eq_true rfl, Nat.le_of_ble_eq_true rfl⟩) (rv_T hK hP) hl.1 rfl rfl (Nat.le_of_ble_eq_true rfl) ⟨Nat.zero_le _, Nat.zero_le _⟩ d_T_isCorrupt_2 (fun H locs hP hS => ?_)
  refine n_if_eq (tgt := 23) hx hb d_T_isCorrupt_5 (by decide) (tnat_lt _) (fun h1 => ?_) (fun h1 => ?_)
  · skip
    refine lv_iconst (v := nI 0) hx hb d_T_isCorrupt_23 (by decide) ?_
    exact x_zret cf hr hlk hP hS (by unfold cCorrupt; rw [tnat_0 h1]; rfl) (rfl) d_T_isCorrupt_24
  · skip
    obtain ⟨j, hj, rfl, hjc⟩ := cRepl_nI (by omega) (tnat_1 h1)
    have hrep := tnat_1 h1
    refine lv_aload_n hx hb d_T_isCorrupt_8 rfl (lv_at hl 0 rfl) ?_
    refine x_getT (v := .int (nI (S 25 3))) cf hK hP 3 (by decide) w_180 rfl d_T_isCorrupt_9 ?_
    refine lv_iload_n hx hb d_T_isCorrupt_12 rfl (lv_at hl 1 rfl) ?_
    refine x_callSi (As := [.int (nI (S 25 3)), .int (nI j)]) (rest := []) cf hK hN hP hS (k_T_hasMember l hX (by omega) (by omega)) (cw_T_hasMember cf.2.2.2.2 w_220 ⟨Nat.le_of_ble_eq_true rfl, Nat.le_of_ble_eq_true rfl⟩) hl.1 rfl rfl (Nat.le_of_ble_eq_true rfl) ⟨Nat.zero_le _, Nat.zero_le _⟩ d_T_isCorrupt_13 (fun H locs hP hS => ?_)
    refine n_if_eq (tgt := 23) hx hb d_T_isCorrupt_16 (by decide) (tnat_lt _) (fun h2 => ?_) (fun h2 => ?_)
    · skip
      refine lv_iconst (v := nI 0) hx hb d_T_isCorrupt_23 (by decide) ?_
      exact x_zret cf hr hlk hP hS (by unfold cCorrupt; rw [hrep, hjc, tnat_0 h2]; rfl) (rfl) d_T_isCorrupt_24
    · skip
      refine lv_iconst (v := nI 1) hx hb d_T_isCorrupt_19 (by decide) ?_
      refine lv_goto (tgt := 24) hx hb d_T_isCorrupt_20 (by decide) ?_
      exact x_zret cf hr hlk hP hS (by unfold cCorrupt; rw [hrep, hjc, tnat_1 h2]; rfl) (rfl) d_T_isCorrupt_24
set_option maxRecDepth 100000 in
set_option maxHeartbeats 4000000 in
theorem k_T_leaderOf (l : Launch) {X : WX} (hX : xInj X) {S : Nat → Nat → Nat} {V : Nat} (hC : CI V X S) {v : Nat} (hv0 : 1 ≤ v ∧ v < 2147483648) : MetI l X y_T_leaderOf (Cond.code y_T_leaderOf c_T_leaderOf 2 (some .int) :: Mst) 1 [.ref (X.2.2.2 25), .int (nI v)] S (nI (cLeader S v)) S := by
  refine MetI.of (by decide) (Nat.le_of_ble_eq_true rfl) ?_
  intro p e s m args below meth c cf hr hlk hP hK hN ls hl
  have hl : lv_has ls 2 [(0, .ref (X.2.2.2 25)), (1, .int (nI v))] := hl
  have hx := cf.1
  have hb := cf.2.1
  have hD := xD_of hX
  have hS : va_S (xA X) s.heap s.heap [] := va_S.rf
  have hnn := hC.nn
  have hV := hC.V
  have hcn := hC.n
  have htr := hC.tr
  have hblc := hC.bl
  have hro := hC.ro
  obtain ⟨H, hH⟩ : ∃ H, H = s.heap := ⟨_, rfl⟩
  obtain ⟨locs, hlo⟩ : ∃ z : List Loc, z = [] := ⟨_, rfl⟩
  suffices hgo : PW X S H → va_S (xA X) s.heap H locs → W p l e (rmd 1) s m args below meth c H locs 0 0 (MQ below (QcI X (nI (cLeader S v)) S) args s 0 0 (xA X)) (F0 m 0 ls []) by
    subst hH
    subst hlo
    exact hgo hP hS
  clear hP hS
  intro hP hS
  refine lv_iload_n hx hb d_T_leaderOf_0 rfl (lv_at hl 1 rfl) ?_
  refine lv_iconst (v := nI 1) hx hb d_T_leaderOf_1 (by decide) ?_
  refine n_isub hx hb (by omega) d_T_leaderOf_2 ?_
  refine lv_aload_n hx hb d_T_leaderOf_3 rfl (lv_at hl 0 rfl) ?_
  refine x_getT (v := .int (nI (S 25 2))) cf hK hP 2 (by decide) w_179 rfl d_T_leaderOf_4 ?_
  refine n_idiv hx hb (by omega) (by omega) (by omega) d_T_leaderOf_7 ?_
  refine lv_aload_n hx hb d_T_leaderOf_8 rfl (lv_at hl 0 rfl) ?_
  refine x_getT (v := .int (nI (S 25 0))) cf hK hP 0 (by decide) w_177 rfl d_T_leaderOf_9 ?_
  refine x_callSi (As := [.int (nI ((v - 1) / (S 25 2))), .int (nI (S 25 0))]) (rest := []) cf hK hN hP hS (k_JM_floorMod l hX (by have := Nat.div_le_self (v - 1) (S 25 2); omega) (by omega)) (cw_JM_floorMod cf.2.2.2.2 w_243 ⟨Nat.le_of_ble_eq_true rfl, Nat.le_of_ble_eq_true rfl⟩) hl.1 rfl rfl (Nat.le_of_ble_eq_true rfl) ⟨Nat.zero_le _, Nat.zero_le _⟩ d_T_leaderOf_12 (fun H locs hP hS => ?_)
  exact x_iret cf hr hlk hP hS (rfl) (rfl) d_T_leaderOf_15
set_option maxRecDepth 100000 in
set_option maxHeartbeats 4000000 in
theorem k_T_isSafe (l : Launch) {X : WX} (hX : xInj X) {S : Nat → Nat → Nat} {V : Nat} (hC : CI V X S) {a b : Nat} (ha0 : a < 40) (hb0 : b < 40) : MetI l X y_T_isSafe (Cond.code y_T_isSafe c_T_isSafe 3 (some .boolean) :: Mst) 1 [.ref (X.2.2.2 25), .int (nI a), .int (nI b)] S (nI (cSafe S a b).toNat) S := by
  refine MetI.of (by decide) (Nat.le_of_ble_eq_true rfl) ?_
  intro p e s m args below meth c cf hr hlk hP hK hN ls hl
  have hl : lv_has ls 3 [(0, .ref (X.2.2.2 25)), (1, .int (nI a)), (2, .int (nI b))] := hl
  have hx := cf.1
  have hb := cf.2.1
  have hD := xD_of hX
  have hS : va_S (xA X) s.heap s.heap [] := va_S.rf
  have hnn := hC.nn
  have hV := hC.V
  have hcn := hC.n
  have htr := hC.tr
  have hblc := hC.bl
  have hro := hC.ro
  obtain ⟨H, hH⟩ : ∃ H, H = s.heap := ⟨_, rfl⟩
  obtain ⟨locs, hlo⟩ : ∃ z : List Loc, z = [] := ⟨_, rfl⟩
  suffices hgo : PW X S H → va_S (xA X) s.heap H locs → W p l e (rmd 1) s m args below meth c H locs 0 0 (MQ below (QcI X (nI (cSafe S a b).toNat) S) args s 0 0 (xA X)) (F0 m 0 ls []) by
    subst hH
    subst hlo
    exact hgo hP hS
  clear hP hS
  intro hP hS
  refine lv_aload_n hx hb d_T_isSafe_0 rfl (lv_at hl 0 rfl) ?_
  refine x_getT (v := .ref (X.2.2.2 31)) cf hK hP 6 (by decide) w_183 rfl d_T_isSafe_1 ?_
  refine lv_iload_n hx hb d_T_isSafe_4 rfl (lv_at hl 1 rfl) ?_
  refine lv_iload_n hx hb d_T_isSafe_5 rfl (lv_at hl 2 rfl) ?_
  refine x_callVi (As := [.int (nI a), .int (nI b)]) (rest := []) cf hK hN hP hS (k_Bl_inChain l hX hC (by omega) (by omega)) (cw_Bl_inChain cf.2.2.2.2 w_327 ⟨Nat.le_of_ble_eq_true rfl, Nat.le_of_ble_eq_true rfl⟩) (rv_Bl hK hP) hl.1 rfl rfl (Nat.le_of_ble_eq_true rfl) ⟨Nat.zero_le _, Nat.zero_le _⟩ d_T_isSafe_6 (fun H locs hP hS => ?_)
  refine n_if_ne (tgt := 41) hx hb d_T_isSafe_9 (by decide) (tnat_lt _) (fun h1 => ?_) (fun h1 => ?_)
  · skip
    refine lv_iconst (v := nI 1) hx hb d_T_isSafe_41 (by decide) ?_
    refine lv_goto (tgt := 46) hx hb d_T_isSafe_42 (by decide) ?_
    exact x_zret cf hr hlk hP hS (by unfold cSafe; rw [tnat_1 h1]; rfl) (rfl) d_T_isSafe_46
  · skip
    refine lv_aload_n hx hb d_T_isSafe_12 rfl (lv_at hl 0 rfl) ?_
    refine x_getT (v := .ref (X.2.2.2 31)) cf hK hP 6 (by decide) w_183 rfl d_T_isSafe_13 ?_
    refine x_getBl (v := .ref (X.2.2.2 32)) cf hK hP 0 (by decide) w_110 rfl d_T_isSafe_16 ?_
    refine lv_aload_n hx hb d_T_isSafe_19 rfl (lv_at hl 0 rfl) ?_
    refine x_getT (v := .ref (X.2.2.2 31)) cf hK hP 6 (by decide) w_183 rfl d_T_isSafe_20 ?_
    refine x_getBl (v := .ref (X.2.2.2 33)) cf hK hP 1 (by decide) w_113 rfl d_T_isSafe_23 ?_
    refine lv_iload_n hx hb d_T_isSafe_26 rfl (lv_at hl 2 rfl) ?_
    refine x_iald (v := (S 33 b)) cf hK hP (ia33 X) (by omega) rfl d_T_isSafe_27 ?_
    refine x_iald (v := (S 32 (S 33 b))) cf hK hP (ia32 X) (by have := (show S 33 b < 40 from hC.c 33 b); omega) rfl d_T_isSafe_28 ?_
    refine lv_aload_n hx hb d_T_isSafe_29 rfl (lv_at hl 0 rfl) ?_
    refine x_getT (v := .ref (X.2.2.2 31)) cf hK hP 6 (by decide) w_183 rfl d_T_isSafe_30 ?_
    refine x_getBl (v := .ref (X.2.2.2 32)) cf hK hP 0 (by decide) w_110 rfl d_T_isSafe_33 ?_
    refine lv_iload_n hx hb d_T_isSafe_36 rfl (lv_at hl 1 rfl) ?_
    refine x_iald (v := (S 32 a)) cf hK hP (ia32 X) (by omega) rfl d_T_isSafe_37 ?_
    refine n_icmp_le (tgt := 45) hx hb d_T_isSafe_38 (by decide) (by have := (show S 33 b < 40 from hC.c 33 b); have := (show S 32 (S 33 b) + 1 ≤ V from hC.c 32 (S 33 b)); omega) (by have := (show S 32 a + 1 ≤ V from hC.c 32 a); omega) (fun h2 => ?_) (fun h2 => ?_)
    · skip
      refine lv_iconst (v := nI 0) hx hb d_T_isSafe_45 (by decide) ?_
      exact x_zret cf hr hlk hP hS (by unfold cSafe; rw [tnat_0 h1, decide_eq_false (by omega)]; rfl) (rfl) d_T_isSafe_46
    · skip
      refine lv_iconst (v := nI 1) hx hb d_T_isSafe_41 (by decide) ?_
      refine lv_goto (tgt := 46) hx hb d_T_isSafe_42 (by decide) ?_
      exact x_zret cf hr hlk hP hS (by unfold cSafe; rw [tnat_0 h1, decide_eq_true (by omega)]; rfl) (rfl) d_T_isSafe_46
set_option maxRecDepth 100000 in
set_option maxHeartbeats 4000000 in
theorem k_T_hasCertificate (l : Launch) {X : WX} (hX : xInj X) {S : Nat → Nat → Nat} {V : Nat} (hC : CI V X S) (b : Int32) : MetI l X y_T_hasCertificate (Cond.code y_T_hasCertificate c_T_hasCertificate 2 (some .boolean) :: Mst) 1 [.ref (X.2.2.2 25), .int b] S (nI (cHasCert S b).toNat) S := by
  refine MetI.of (by decide) (Nat.le_of_ble_eq_true rfl) ?_
  intro p e s m args below meth c cf hr hlk hP hK hN ls hl
  have hl : lv_has ls 2 [(0, .ref (X.2.2.2 25)), (1, .int b)] := hl
  have hx := cf.1
  have hb := cf.2.1
  have hD := xD_of hX
  have hS : va_S (xA X) s.heap s.heap [] := va_S.rf
  have hnn := hC.nn
  have hV := hC.V
  have hcn := hC.n
  have htr := hC.tr
  have hblc := hC.bl
  have hro := hC.ro
  obtain ⟨H, hH⟩ : ∃ H, H = s.heap := ⟨_, rfl⟩
  obtain ⟨locs, hlo⟩ : ∃ z : List Loc, z = [] := ⟨_, rfl⟩
  suffices hgo : PW X S H → va_S (xA X) s.heap H locs → W p l e (rmd 1) s m args below meth c H locs 0 0 (MQ below (QcI X (nI (cHasCert S b).toNat) S) args s 0 0 (xA X)) (F0 m 0 ls []) by
    subst hH
    subst hlo
    exact hgo hP hS
  clear hP hS
  intro hP hS
  refine lv_aload_n hx hb d_T_hasCertificate_0 rfl (lv_at hl 0 rfl) ?_
  refine x_getT (v := .ref (X.2.2.2 31)) cf hK hP 6 (by decide) w_183 rfl d_T_hasCertificate_1 ?_
  refine lv_iload_n hx hb d_T_hasCertificate_4 rfl (lv_at hl 1 rfl) ?_
  refine x_callVi (As := [.int b]) (rest := []) cf hK hN hP hS (k_Bl_has l hX hC b) (cw_Bl_has cf.2.2.2.2 w_364 ⟨Nat.le_of_ble_eq_true rfl, Nat.le_of_ble_eq_true rfl⟩) (rv_Bl hK hP) hl.1 rfl rfl (Nat.le_of_ble_eq_true rfl) ⟨Nat.zero_le _, Nat.zero_le _⟩ d_T_hasCertificate_5 (fun H locs hP hS => ?_)
  refine n_if_ne (tgt := 13) hx hb d_T_hasCertificate_8 (by decide) (tnat_lt _) (fun h1 => ?_) (fun h1 => ?_)
  · skip
    have hhas := tnat_1 h1
    obtain ⟨j, hj, rfl, hjc, hjt⟩ := cHas_nI hhas
    refine lv_iload_n hx hb d_T_hasCertificate_13 rfl (lv_at hl 1 rfl) ?_
    refine n_if_eq (tgt := 41) hx hb d_T_hasCertificate_14 (by decide) (by omega) (fun h2 => ?_) (fun h2 => ?_)
    · skip
      refine lv_iconst (v := nI 1) hx hb d_T_hasCertificate_41 (by decide) ?_
      refine lv_goto (tgt := 46) hx hb d_T_hasCertificate_42 (by decide) ?_
      exact x_zret cf hr hlk hP hS (by unfold cHasCert; rw [hhas, decide_eq_true (p := (nI j).toInt = 0) (by omega)]; rfl) (rfl) d_T_hasCertificate_46
    · skip
      refine lv_aload_n hx hb d_T_hasCertificate_17 rfl (lv_at hl 0 rfl) ?_
      refine x_getT (v := .ref (X.2.2.2 31)) cf hK hP 6 (by decide) w_183 rfl d_T_hasCertificate_18 ?_
      refine x_getBl (v := .ref (X.2.2.2 35)) cf hK hP 3 (by decide) w_118 rfl d_T_hasCertificate_21 ?_
      refine lv_iload_n hx hb d_T_hasCertificate_24 rfl (lv_at hl 1 rfl) ?_
      refine x_iald (v := (S 35 j)) cf hK hP (ia35 X) (by omega) rfl d_T_hasCertificate_25 ?_
      refine lv_aload_n hx hb d_T_hasCertificate_26 rfl (lv_at hl 0 rfl) ?_
      refine x_getT (v := .int (nI (S 25 3))) cf hK hP 3 (by decide) w_180 rfl d_T_hasCertificate_27 ?_
      refine n_ior hx hb d_T_hasCertificate_30 ?_
      refine x_callSi (As := [.int (nI ((S 35 j) ||| (S 25 3)))]) (rest := []) cf hK hN hP hS (k_JI_bitCount l hX (or_lt128 (hC.c 35 j) (by omega))) (cw_JI_bitCount cf.2.2.2.2 w_338 ⟨Nat.le_of_ble_eq_true rfl, Nat.le_of_ble_eq_true rfl⟩) hl.1 rfl rfl (Nat.le_of_ble_eq_true rfl) ⟨Nat.zero_le _, Nat.zero_le _⟩ d_T_hasCertificate_31 (fun H locs hP hS => ?_)
      have hsz := mSize_le (S 35 j ||| S 25 3)
      refine lv_aload_n hx hb d_T_hasCertificate_34 rfl (lv_at hl 0 rfl) ?_
      refine x_getT (v := .int (nI (S 25 1))) cf hK hP 1 (by decide) w_178 rfl d_T_hasCertificate_35 ?_
      refine n_icmp_lt (tgt := 45) hx hb d_T_hasCertificate_38 (by decide) (by omega) (by omega) (fun h3 => ?_) (fun h3 => ?_)
      · skip
        refine lv_iconst (v := nI 0) hx hb d_T_hasCertificate_45 (by decide) ?_
        exact x_zret cf hr hlk hP hS (by unfold cHasCert; rw [hhas, hjc, decide_eq_false (p := (nI j).toInt = 0) (by omega), decide_eq_false (by omega)]; rfl) (rfl) d_T_hasCertificate_46
      · skip
        refine lv_iconst (v := nI 1) hx hb d_T_hasCertificate_41 (by decide) ?_
        refine lv_goto (tgt := 46) hx hb d_T_hasCertificate_42 (by decide) ?_
        exact x_zret cf hr hlk hP hS (by unfold cHasCert; rw [hhas, hjc, decide_eq_false (p := (nI j).toInt = 0) (by omega), decide_eq_true (by omega)]; rfl) (rfl) d_T_hasCertificate_46
  · skip
    refine lv_iconst (v := nI 0) hx hb d_T_hasCertificate_11 (by decide) ?_
    exact x_zret cf hr hlk hP hS (by unfold cHasCert; rw [tnat_0 h1]; rfl) (rfl) d_T_hasCertificate_12
