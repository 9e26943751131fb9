theorem cwN_hasMember {R : Room} {s : State} {args : Array Value} (hts : ∀ w ∈ Mst, w.before args s = true) (hN : NWs s) (hR : 0 + 1 ≤ R.frames ∧ 8 + (2 + 11) + 34 * 0 ≤ R.locals) : va_CN R s args "ThreeChainLedger$Ledger" 37 y_T_hasMember "ThreeChainLedger" c_T_hasMember 2 (some .boolean) (Cond.code y_T_hasMember c_T_hasMember 2 (some .boolean) :: Mst) (rmd 0) 0 0 2 ∧ (Cond.static y_T_hasMember).before args s = true ∧ True :=
  ⟨va_cnB 2 hts (fun w h => by
    have hm : w ∈ Mst := by
      rcases List.mem_cons.mp h with rfl | h
      · exact w_222
      · exact h
    exact ⟨hm, mst_good w hm⟩) rfl rfl rfl hN (hts _ w_1) ⟨by decide, by decide, by decide +kernel⟩ hR, hts _ w_221, trivial⟩
def cPay (U : Nat → Nat → Nat) (a b c : Nat) : Nat → Nat → Nat := up2 (up2 U 42 a (U 42 a - c)) 42 b (up2 U 42 a (U 42 a - c) 42 b + c)
def cPays (U : Nat → Nat → Nat) (a b c : Nat) : Nat → Nat → Nat := if c ≤ U 42 a then cPay U a b c else U
def cSetF (set t : Nat) (U : Nat → Nat → Nat) : Nat → Nat → Nat := if set / 2 ^ t % 2 = 1 ∧ U 43 t = 0 then (if U 30 t ≤ U 42 (U 28 t) then up2 (cPay U (U 28 t) (U 29 t) (U 30 t)) 43 t 1 else up2 U 43 t 2) else U
def cSettle (S : Nat → Nat → Nat) (set : Nat) : Nat → Nat → Nat := itr (cSetF set) 0 S (S 27 0)
def cGo0 (S : Nat → Nat → Nat) : Nat → Nat → Nat := itr (fun t Z => up2 Z 43 t 0) 0 (itr (fun a Z => up2 Z 42 a 100) 0 S 4) 24
def cRepF (tip b : Nat) (Z : Nat → Nat → Nat) : Nat → Nat → Nat := if cInC Z b tip = true then cSettle Z (Z 34 b) else Z
def cReplay (S : Nat → Nat → Nat) (tip : Nat) : Nat → Nat → Nat := itr (cRepF tip) 0 (cGo0 S) (tip + 1)
theorem CI.pay {V : Nat} {X : WX} {U : Nat → Nat → Nat} {a b c : Nat} (h : CI V X U) : CI V X (cPay U a b c) := (h.up (k := 42) trivial).up (k := 42) trivial
theorem CI.setF {V : Nat} {X : WX} {U : Nat → Nat → Nat} {set t : Nat} (h : CI V X U) : CI V X (cSetF set t U) := by
  unfold cSetF
  split
  · split
    · exact h.pay.up (k := 43) (show 1 ≤ 2 by decide)
    · exact h.up (k := 43) (show 2 ≤ 2 by decide)
  · exact h
theorem CI.settles {V : Nat} {X : WX} {U : Nat → Nat → Nat} {set : Nat} (h : CI V X U) : ∀ k, CI V X (itr (cSetF set) 0 U k)
  | 0 => h
  | k + 1 => (CI.settles h k).setF
theorem CI.settle {V : Nat} {X : WX} {U : Nat → Nat → Nat} {set : Nat} (h : CI V X U) : CI V X (cSettle U set) := h.settles _
theorem cSetF_ne {U : Nat → Nat → Nat} {set t row : Nat} (h1 : row ≠ 42) (h2 : row ≠ 43) : cSetF set t U row = U row := by
  unfold cSetF cPay
  split
  · split
    · rw [up2_ne _ _ _ h2, up2_ne _ _ _ h1, up2_ne _ _ _ h1]
    · rw [up2_ne _ _ _ h2]
  · rfl
theorem cSets_ne {U : Nat → Nat → Nat} {set row : Nat} (h1 : row ≠ 42) (h2 : row ≠ 43) : ∀ k, itr (cSetF set) 0 U k row = U row
  | 0 => rfl
  | k + 1 => by
    rw [itr_s, cSetF_ne h1 h2]
    exact cSets_ne h1 h2 k
theorem cSettle_ne {U : Nat → Nat → Nat} {set row : Nat} (h1 : row ≠ 42) (h2 : row ≠ 43) : cSettle U set row = U row := cSets_ne h1 h2 _
theorem cPay_bd {V M : Nat} {X : WX} {U : Nat → Nat → Nat} {t : Nat} (hC : CI V X U) (h : ∀ a, a < 4 → U 42 a ≤ M) : ∀ a, a < 4 → cPay U (U 28 t) (U 29 t) (U 30 t) 42 a ≤ M + 1000 := by
  intro a ha
  have h4 := (show U 30 t ≤ 1000 from hC.c 30 t)
  have h1 := h a ha
  have h2 := h (U 28 t) (show U 28 t < 4 from hC.c 28 t)
  have h3 := h (U 29 t) (show U 29 t < 4 from hC.c 29 t)
  unfold cPay
  simp only [up2_at]
  simp
  split
  · split <;> omega
  · split <;> omega
theorem cSetF_bd {V M : Nat} {X : WX} {U : Nat → Nat → Nat} {set t : Nat} (hC : CI V X U) (h : ∀ a, a < 4 → U 42 a ≤ M) : ∀ a, a < 4 → cSetF set t U 42 a ≤ M + 1000 := by
  intro a ha
  have h1 := h a ha
  unfold cSetF
  split
  · split
    · rw [up2_ne _ _ _ (by decide)]
      exact cPay_bd hC h a ha
    · rw [up2_ne _ _ _ (by decide)]
      omega
  · omega
theorem cSets_bd {V M : Nat} {X : WX} {U : Nat → Nat → Nat} {set : Nat} (hC : CI V X U) (h : ∀ a, a < 4 → U 42 a ≤ M) : ∀ k a, a < 4 → itr (cSetF set) 0 U k 42 a ≤ M + 1000 * k
  | 0, a, ha => h a ha
  | k + 1, a, ha => by
    have := cSetF_bd (set := set) (t := 0 + k) (hC.settles (set := set) k) (cSets_bd hC h k) a ha
    rw [itr_s, Nat.mul_add, Nat.mul_one, ← Nat.add_assoc]
    exact this
theorem cGo0_a {S : Nat → Nat → Nat} {row : Nat} (h : row ≠ 42) : ∀ k, itr (fun a Z => up2 Z 42 a 100) 0 S k row = S row
  | 0 => rfl
  | k + 1 => by
    rw [itr_s]
    exact (up2_ne _ _ _ h).trans (cGo0_a h k)
theorem cGo0_b {S : Nat → Nat → Nat} {row : Nat} (h : row ≠ 43) : ∀ k, itr (fun t Z => up2 Z 43 t 0) 0 S k row = S row
  | 0 => rfl
  | k + 1 => by
    rw [itr_s]
    exact (up2_ne _ _ _ h).trans (cGo0_b h k)
theorem cGo0_ne {S : Nat → Nat → Nat} {row : Nat} (h1 : row ≠ 42) (h2 : row ≠ 43) : cGo0 S row = S row := (cGo0_b h2 _).trans (cGo0_a h1 _)
theorem CI.go0a {V : Nat} {X : WX} {S : Nat → Nat → Nat} (h : CI V X S) : ∀ k, CI V X (itr (fun a Z => up2 Z 42 a 100) 0 S k)
  | 0 => h
  | k + 1 => (CI.go0a h k).up (k := 42) trivial
theorem CI.go0b {V : Nat} {X : WX} {S : Nat → Nat → Nat} (h : CI V X S) : ∀ k, CI V X (itr (fun t Z => up2 Z 43 t 0) 0 S k)
  | 0 => h
  | k + 1 => (CI.go0b h k).up (k := 43) (show 0 ≤ 2 by decide)
theorem CI.go0 {V : Nat} {X : WX} {S : Nat → Nat → Nat} (h : CI V X S) : CI V X (cGo0 S) := (h.go0a 4).go0b 24
theorem cGo0_42 {S : Nat → Nat → Nat} : ∀ a, a < 4 → cGo0 S 42 a = 100 := by
  have key : ∀ k a, a < k → itr (fun a Z => up2 Z 42 a 100) 0 S k 42 a = 100 := by
    intro k
    induction k with
    | zero => intro a ha; omega
    | succ k ih =>
      intro a ha
      rw [itr_z]
      show up2 _ 42 k 100 42 a = 100
      rw [up2_at]
      split
      · rfl
      · exact ih a (by omega)
  intro a ha
  unfold cGo0
  rw [cGo0_b (by decide)]
  exact key 4 a ha
set_option maxRecDepth 100000 in
set_option maxHeartbeats 4000000 in
theorem k_Le_pay (l : Launch) {X : WX} (hX : xInj X) {S : Nat → Nat → Nat} {V : Nat} (hC : CI V X S) {a b c0 : Nat} (ha0 : a < 4) (hb0 : b < 4) (hc0 : c0 < 2147483648) (hbal : S 42 a < 2147483648) : MetI l X y_Le_pay (Cond.code y_Le_pay c_Le_pay 4 (some .boolean) :: Mst) 0 [.ref (X.2.2.2 41), .int (nI a), .int (nI b), .int (nI c0)] S (nI (decide (c0 ≤ S 42 a)).toNat) (cPays S a b c0) := by
  refine MetI.of (by decide) (Nat.le_of_ble_eq_true rfl) ?_
  intro p e s m args below meth c cf hr hlk hP hK hN ls hl
  have hl : lv_has ls 4 [(0, .ref (X.2.2.2 41)), (1, .int (nI a)), (2, .int (nI b)), (3, .int (nI c0))] := hl
  have hx := cf.1
  have hb := cf.2.1
  have hD := xD_of hX
  have hS : va_S (xA X) s.heap s.heap [] := va_S.rf
  have hnn := hC.nn
  have hV := hC.V
  have hcn := hC.n
  have htr := hC.tr
  have hblc := hC.bl
  have hro := hC.ro
  obtain ⟨H, hH⟩ : ∃ H, H = s.heap := ⟨_, rfl⟩
  obtain ⟨locs, hlo⟩ : ∃ z : List Loc, z = [] := ⟨_, rfl⟩
  suffices hgo : PW X S H → va_S (xA X) s.heap H locs → W p l e (rmd 0) s m args below meth c H locs 0 0 (MQ below (QcI X (nI (decide (c0 ≤ S 42 a)).toNat) (cPays S a b c0)) args s 0 0 (xA X)) (F0 m 0 ls []) by
    subst hH
    subst hlo
    exact hgo hP hS
  clear hP hS
  intro hP hS
  refine lv_aload_n hx hb d_Le_pay_0 rfl (lv_at hl 0 rfl) ?_
  refine x_getLe (v := .ref (X.2.2.2 42)) cf hK hP 0 (by decide) w_168 rfl d_Le_pay_1 ?_
  refine lv_iload_n hx hb d_Le_pay_4 rfl (lv_at hl 1 rfl) ?_
  refine x_iald (v := (S 42 a)) cf hK hP (ia42 X) (by omega) rfl d_Le_pay_5 ?_
  refine lv_iload_n hx hb d_Le_pay_6 rfl (lv_at hl 3 rfl) ?_
  refine n_icmp_ge (tgt := 12) hx hb d_Le_pay_7 (by decide) (by omega) (by omega) (fun h1 => ?_) (fun h1 => ?_)
  · skip
    refine lv_aload_n hx hb d_Le_pay_12 rfl (lv_at hl 0 rfl) ?_
    refine x_getLe (v := .ref (X.2.2.2 42)) cf hK hP 0 (by decide) w_168 rfl d_Le_pay_13 ?_
    refine lv_iload_n hx hb d_Le_pay_16 rfl (lv_at hl 1 rfl) ?_
    refine lv_dup2_11 hx hb d_Le_pay_17 rfl rfl ?_
    refine x_iald (v := (S 42 a)) cf hK hP (ia42 X) (by omega) rfl d_Le_pay_18 ?_
    refine lv_iload_n hx hb d_Le_pay_19 rfl (lv_at hl 3 rfl) ?_
    refine n_isub hx hb (by omega) d_Le_pay_20 ?_
    refine x_iast cf hK hD hP hS (ia42 X) (by omega) d_Le_pay_21 (fun H locs hP hS => ?_)
    refine lv_aload_n hx hb d_Le_pay_22 rfl (lv_at hl 0 rfl) ?_
    refine x_getLe (v := .ref (X.2.2.2 42)) cf hK hP 0 (by decide) w_168 rfl d_Le_pay_23 ?_
    refine lv_iload_n hx hb d_Le_pay_26 rfl (lv_at hl 2 rfl) ?_
    refine lv_dup2_11 hx hb d_Le_pay_27 rfl rfl ?_
    refine x_iald (v := ((up2 S 42 a ((S 42 a) - c0)) 42 b)) cf hK hP (ia42 X) (by omega) rfl d_Le_pay_28 ?_
    refine lv_iload_n hx hb d_Le_pay_29 rfl (lv_at hl 3 rfl) ?_
    refine n_iadd hx hb d_Le_pay_30 ?_
    refine x_iast cf hK hD hP hS (ia42 X) (by omega) d_Le_pay_31 (fun H locs hP hS => ?_)
    refine lv_iconst (v := nI 1) hx hb d_Le_pay_32 (by decide) ?_
    exact x_zret cf hr hlk hP hS (by rw [decide_eq_true (by omega)]; rfl) (by unfold cPays; rw [if_pos (by omega)]; rfl) d_Le_pay_33
  · skip
    refine lv_iconst (v := nI 0) hx hb d_Le_pay_10 (by decide) ?_
    exact x_zret cf hr hlk hP hS (by rw [decide_eq_false (by omega)]; rfl) (by unfold cPays; rw [if_neg (by omega)]) d_Le_pay_11
set_option maxRecDepth 100000 in
set_option maxHeartbeats 4000000 in
theorem k_Le_settle (l : Launch) {X : WX} (hX : xInj X) {S : Nat → Nat → Nat} {V : Nat} (hC : CI V X S) {set M : Nat} (hs0 : set < 16777216) (hbal : (∀ a, a < 4 → S 42 a ≤ M) ∧ M + 30000 < 2147483648) : MetV l X y_Le_settle (Cond.code y_Le_settle c_Le_settle 4 none :: Mst) 1 [.ref (X.2.2.2 41), .int (nI set), .ref (X.2.2.2 27)] S (cSettle S set) := by
  refine MetV.of (by decide) (Nat.le_of_ble_eq_true rfl) ?_
  intro p e s m args below meth c cf hr hlk hP hK hN ls hl
  have hl : lv_has ls 4 [(0, .ref (X.2.2.2 41)), (1, .int (nI set)), (2, .ref (X.2.2.2 27))] := hl
  have hx := cf.1
  have hb := cf.2.1
  have hD := xD_of hX
  have hS : va_S (xA X) s.heap s.heap [] := va_S.rf
  have hnn := hC.nn
  have hV := hC.V
  have hcn := hC.n
  have htr := hC.tr
  have hblc := hC.bl
  have hro := hC.ro
  obtain ⟨H, hH⟩ : ∃ H, H = s.heap := ⟨_, rfl⟩
  obtain ⟨locs, hlo⟩ : ∃ z : List Loc, z = [] := ⟨_, rfl⟩
  suffices hgo : PW X S H → va_S (xA X) s.heap H locs → W p l e (rmd 1) s m args below meth c H locs 0 0 (MQ below (QcV X (cSettle S set)) args s 0 0 (xA X)) (F0 m 0 ls []) by
    subst hH
    subst hlo
    exact hgo hP hS
  clear hP hS
  intro hP hS
  refine lv_iconst (v := nI 0) hx hb d_Le_settle_0 (by decide) ?_
  refine lv_istore_n (lv' := [(3, .int (nI 0)), (0, .ref (X.2.2.2 41)), (1, .int (nI set)), (2, .ref (X.2.2.2 27))]) hx hb d_Le_settle_1 rfl hl (by decide) rfl (fun ls hl => ?_)
  have lp2 : ∀ (dm : Nat) (t : Nat) (U : Nat → Nat → Nat) (ls : Array Slot) (H : Heap) (locs : List Loc), lv_has ls 4 [(0, .ref (X.2.2.2 41)), (1, .int (nI set)), (2, .ref (X.2.2.2 27)), (3, .int (nI t))] → PW X U H → va_S (xA X) s.heap H locs → (t ≤ S 27 0) → (CI V X U) → (∀ a, a < 4 → U 42 a ≤ M + 1000 * t) → (U 27 = S 27) → (U = itr (cSetF set) 0 S t) → (S 27 0 - t = dm) → W p l e (rmd 1) s m args below meth c H locs 0 0 (MQ below (QcV X (cSettle S set)) args s 0 0 (xA X)) (F0 m 2 ls []) := by
    intro dm
    induction dm using Nat.strongRecOn with | ind dm lp2 => ?_
    intro t U ls H locs hl hP hS ht4 hCU hbU hU27 hz hdm
    have hU27x : U 27 0 = S 27 0 := by rw [hU27]
    refine lv_iload_n hx hb d_Le_settle_2 rfl (lv_at hl 3 rfl) ?_
    refine lv_aload_n hx hb d_Le_settle_3 rfl (lv_at hl 2 rfl) ?_
    refine x_getTr (v := .int (nI (U 27 0))) cf hK hP 3 (by decide) w_91 rfl d_Le_settle_4 ?_
    refine n_icmp_ge (tgt := 69) hx hb d_Le_settle_7 (by decide) (by omega) (by omega) (fun h1 => ?_) (fun h1 => ?_)
    · skip
      exact x_vret cf hr hlk hP hS (by unfold cSettle; rw [hz, show t = S 27 0 by omega]) d_Le_settle_69
    · skip
      refine lv_iload_n hx hb d_Le_settle_10 rfl (lv_at hl 1 rfl) ?_
      refine lv_iload_n hx hb d_Le_settle_11 rfl (lv_at hl 3 rfl) ?_
      refine x_callSNi (As := [.int (nI set), .int (nI t)]) (rest := []) cf hK hN hP hS (k_T_hasMember l hX (by omega) (by omega)) (cwN_hasMember cf.2.2.2.2 hN ⟨Nat.le_of_ble_eq_true rfl, Nat.le_of_ble_eq_true rfl⟩) hl.1 rfl rfl (Nat.le_of_ble_eq_true rfl) ⟨Nat.zero_le _, Nat.zero_le _⟩ d_Le_settle_12 (fun H locs hP hS => ?_)
      refine n_if_eq (tgt := 63) hx hb d_Le_settle_15 (by decide) (tnat_lt _) (fun h2 => ?_) (fun h2 => ?_)
      · skip
        have hn0 : ¬ set / 2 ^ t % 2 = 1 := of_decide_eq_false (tnat_0 h2)
        refine n_iinc1 (lv' := [(3, .int (nI (t + 1))), (0, .ref (X.2.2.2 41)), (1, .int (nI set)), (2, .ref (X.2.2.2 27))]) (k := 3) hx hb d_Le_settle_63 hl rfl (by decide) rfl (fun ls hl => ?_)
        refine lv_goto (tgt := 2) hx hb d_Le_settle_66 (by decide) ?_
        have hst : U = cSetF set t U := by unfold cSetF; first | (rw [if_neg (fun q => hn0 q.1)]; done) | (rw [if_neg (fun q => by have := q.2; omega)]; done) | (rw [if_pos ⟨hm1, by omega⟩, if_neg (by omega)]; rw [hT1, show cPays U (U 28 t) (U 29 t) (U 30 t) = U from by unfold cPays; rw [if_neg (by omega)]]; done) | (rw [if_pos ⟨hm1, by omega⟩, if_pos (by omega)]; rw [hT1, show cPays U (U 28 t) (U 29 t) (U 30 t) = cPay U (U 28 t) (U 29 t) (U 30 t) from by unfold cPays; rw [if_pos (by omega)]]; done)
        exact lp2 _ (by omega) (t + 1) U ls H locs (lv_sub hl [1, 2, 3, 0] rfl) hP hS (by omega) (by rw [hst]; exact hCU.setF) (fun a ha4 => by rw [hst]; have := cSetF_bd (set := set) (t := t) hCU hbU a ha4; omega) (by rw [hst, cSetF_ne (by decide) (by decide)]; exact hU27) (by rw [hst, itr_z, ← hz]) rfl
      · skip
        have hm1 : set / 2 ^ t % 2 = 1 := of_decide_eq_true (tnat_1 h2)
        refine lv_aload_n hx hb d_Le_settle_18 rfl (lv_at hl 0 rfl) ?_
        refine x_getLe (v := .ref (X.2.2.2 43)) cf hK hP 1 (by decide) w_170 rfl d_Le_settle_19 ?_
        refine lv_iload_n hx hb d_Le_settle_22 rfl (lv_at hl 3 rfl) ?_
        refine x_iald (v := (U 43 t)) cf hK hP (ia43 X) (by omega) rfl d_Le_settle_23 ?_
        refine n_if_ne (tgt := 63) hx hb d_Le_settle_24 (by decide) (by have := (show U 43 t ≤ 2 from hCU.c 43 t); omega) (fun h3 => ?_) (fun h3 => ?_)
        · skip
          refine n_iinc1 (lv' := [(3, .int (nI (t + 1))), (0, .ref (X.2.2.2 41)), (1, .int (nI set)), (2, .ref (X.2.2.2 27))]) (k := 3) hx hb d_Le_settle_63 hl rfl (by decide) rfl (fun ls hl => ?_)
          refine lv_goto (tgt := 2) hx hb d_Le_settle_66 (by decide) ?_
          have hst : U = cSetF set t U := by unfold cSetF; first | (rw [if_neg (fun q => hn0 q.1)]; done) | (rw [if_neg (fun q => by have := q.2; omega)]; done) | (rw [if_pos ⟨hm1, by omega⟩, if_neg (by omega)]; rw [hT1, show cPays U (U 28 t) (U 29 t) (U 30 t) = U from by unfold cPays; rw [if_neg (by omega)]]; done) | (rw [if_pos ⟨hm1, by omega⟩, if_pos (by omega)]; rw [hT1, show cPays U (U 28 t) (U 29 t) (U 30 t) = cPay U (U 28 t) (U 29 t) (U 30 t) from by unfold cPays; rw [if_pos (by omega)]]; done)
          exact lp2 _ (by omega) (t + 1) U ls H locs (lv_sub hl [1, 2, 3, 0] rfl) hP hS (by omega) (by rw [hst]; exact hCU.setF) (fun a ha4 => by rw [hst]; have := cSetF_bd (set := set) (t := t) hCU hbU a ha4; omega) (by rw [hst, cSetF_ne (by decide) (by decide)]; exact hU27) (by rw [hst, itr_z, ← hz]) rfl
        · skip
          refine lv_aload_n hx hb d_Le_settle_27 rfl (lv_at hl 0 rfl) ?_
          refine x_getLe (v := .ref (X.2.2.2 43)) cf hK hP 1 (by decide) w_170 rfl d_Le_settle_28 ?_
          refine lv_iload_n hx hb d_Le_settle_31 rfl (lv_at hl 3 rfl) ?_
          refine lv_aload_n hx hb d_Le_settle_32 rfl (lv_at hl 0 rfl) ?_
          refine lv_aload_n hx hb d_Le_settle_33 rfl (lv_at hl 2 rfl) ?_
          refine x_getTr (v := .ref (X.2.2.2 28)) cf hK hP 0 (by decide) w_85 rfl d_Le_settle_34 ?_
          refine lv_iload_n hx hb d_Le_settle_37 rfl (lv_at hl 3 rfl) ?_
          refine x_iald (v := (U 28 t)) cf hK hP (ia28 X) (by omega) rfl d_Le_settle_38 ?_
          refine lv_aload_n hx hb d_Le_settle_39 rfl (lv_at hl 2 rfl) ?_
          refine x_getTr (v := .ref (X.2.2.2 29)) cf hK hP 1 (by decide) w_87 rfl d_Le_settle_40 ?_
          refine lv_iload_n hx hb d_Le_settle_43 rfl (lv_at hl 3 rfl) ?_
          refine x_iald (v := (U 29 t)) cf hK hP (ia29 X) (by omega) rfl d_Le_settle_44 ?_
          refine lv_aload_n hx hb d_Le_settle_45 rfl (lv_at hl 2 rfl) ?_
          refine x_getTr (v := .ref (X.2.2.2 30)) cf hK hP 2 (by decide) w_89 rfl d_Le_settle_46 ?_
          refine lv_iload_n hx hb d_Le_settle_49 rfl (lv_at hl 3 rfl) ?_
          refine x_iald (v := (U 30 t)) cf hK hP (ia30 X) (by omega) rfl d_Le_settle_50 ?_
          refine x_callVi (As := [.int (nI (U 28 t)), .int (nI (U 29 t)), .int (nI (U 30 t))]) (rest := [.int (nI t), .ref (X.2.2.2 43)]) cf hK hN hP hS (k_Le_pay l hX hCU (by have := (show U 28 t < 4 from hCU.c 28 t); omega) (by have := (show U 29 t < 4 from hCU.c 29 t); omega) (by have := (show U 30 t ≤ 1000 from hCU.c 30 t); omega) (by have := hbU (U 28 t) (show U 28 t < 4 from hCU.c 28 t); omega)) (cw_Le_pay cf.2.2.2.2 w_436 ⟨Nat.le_of_ble_eq_true rfl, Nat.le_of_ble_eq_true rfl⟩) (rv_Le hK hP) hl.1 rfl rfl (Nat.le_of_ble_eq_true rfl) ⟨Nat.zero_le _, Nat.zero_le _⟩ d_Le_settle_51 (fun H locs hP hS => ?_)
          obtain ⟨T1, hT1⟩ : ∃ z, z = (cPays U (U 28 t) (U 29 t) (U 30 t)) := ⟨_, rfl⟩
          rw [← hT1] at hP
          have hC1 : CI V X T1 := by rw [hT1]; exact (by unfold cPays; split; exact hCU.pay; exact hCU)
          refine n_if_eq (tgt := 61) hx hb d_Le_settle_54 (by decide) (tnat_lt _) (fun h4 => ?_) (fun h4 => ?_)
          · skip
            have hpay0 : ¬ U 30 t ≤ U 42 (U 28 t) := of_decide_eq_false (tnat_0 h4)
            refine lv_iconst (v := nI 2) hx hb d_Le_settle_61 (by decide) ?_
            refine x_iast cf hK hD hP hS (ia43 X) (by omega) d_Le_settle_62 (fun H locs hP hS => ?_)
            refine n_iinc1 (lv' := [(3, .int (nI (t + 1))), (0, .ref (X.2.2.2 41)), (1, .int (nI set)), (2, .ref (X.2.2.2 27))]) (k := 3) hx hb d_Le_settle_63 hl rfl (by decide) rfl (fun ls hl => ?_)
            refine lv_goto (tgt := 2) hx hb d_Le_settle_66 (by decide) ?_
            have hst : (up2 T1 43 t 2) = cSetF set t U := by unfold cSetF; first | (rw [if_neg (fun q => hn0 q.1)]; done) | (rw [if_neg (fun q => by have := q.2; omega)]; done) | (rw [if_pos ⟨hm1, by omega⟩, if_neg (by omega)]; rw [hT1, show cPays U (U 28 t) (U 29 t) (U 30 t) = U from by unfold cPays; rw [if_neg (by omega)]]; done) | (rw [if_pos ⟨hm1, by omega⟩, if_pos (by omega)]; rw [hT1, show cPays U (U 28 t) (U 29 t) (U 30 t) = cPay U (U 28 t) (U 29 t) (U 30 t) from by unfold cPays; rw [if_pos (by omega)]]; done)
            exact lp2 _ (by omega) (t + 1) (up2 T1 43 t 2) ls H locs (lv_sub hl [1, 2, 3, 0] rfl) hP hS (by omega) (by rw [hst]; exact hCU.setF) (fun a ha4 => by rw [hst]; have := cSetF_bd (set := set) (t := t) hCU hbU a ha4; omega) (by rw [hst, cSetF_ne (by decide) (by decide)]; exact hU27) (by rw [hst, itr_z, ← hz]) rfl
          · skip
            have hpay1 : U 30 t ≤ U 42 (U 28 t) := of_decide_eq_true (tnat_1 h4)
            refine lv_iconst (v := nI 1) hx hb d_Le_settle_57 (by decide) ?_
            refine lv_goto (tgt := 62) hx hb d_Le_settle_58 (by decide) ?_
            refine x_iast cf hK hD hP hS (ia43 X) (by omega) d_Le_settle_62 (fun H locs hP hS => ?_)
            refine n_iinc1 (lv' := [(3, .int (nI (t + 1))), (0, .ref (X.2.2.2 41)), (1, .int (nI set)), (2, .ref (X.2.2.2 27))]) (k := 3) hx hb d_Le_settle_63 hl rfl (by decide) rfl (fun ls hl => ?_)
            refine lv_goto (tgt := 2) hx hb d_Le_settle_66 (by decide) ?_
            have hst : (up2 T1 43 t 1) = cSetF set t U := by unfold cSetF; first | (rw [if_neg (fun q => hn0 q.1)]; done) | (rw [if_neg (fun q => by have := q.2; omega)]; done) | (rw [if_pos ⟨hm1, by omega⟩, if_neg (by omega)]; rw [hT1, show cPays U (U 28 t) (U 29 t) (U 30 t) = U from by unfold cPays; rw [if_neg (by omega)]]; done) | (rw [if_pos ⟨hm1, by omega⟩, if_pos (by omega)]; rw [hT1, show cPays U (U 28 t) (U 29 t) (U 30 t) = cPay U (U 28 t) (U 29 t) (U 30 t) from by unfold cPays; rw [if_pos (by omega)]]; done)
            exact lp2 _ (by omega) (t + 1) (up2 T1 43 t 1) ls H locs (lv_sub hl [1, 2, 3, 0] rfl) hP hS (by omega) (by rw [hst]; exact hCU.setF) (fun a ha4 => by rw [hst]; have := cSetF_bd (set := set) (t := t) hCU hbU a ha4; omega) (by rw [hst, cSetF_ne (by decide) (by decide)]; exact hU27) (by rw [hst, itr_z, ← hz]) rfl
  exact lp2 _ 0 S ls H locs (lv_sub hl [1, 2, 3, 0] rfl) hP hS (by omega) (hC) (fun a ha4 => by have := hbal.1 a ha4; omega) (rfl) (rfl) rfl
set_option maxRecDepth 100000 in
set_option maxHeartbeats 4000000 in
theorem k_Le_replay (l : Launch) {X : WX} (hX : xInj X) {S : Nat → Nat → Nat} {V : Nat} (hC : CI V X S) {tip : Nat} (ht0 : tip < 40) : MetV l X y_Le_replay (Cond.code y_Le_replay c_Le_replay 5 none :: Mst) 2 [.ref (X.2.2.2 41), .int (nI tip), .ref (X.2.2.2 31), .ref (X.2.2.2 27)] S (cReplay S tip) := by
  refine MetV.of (by decide) (Nat.le_of_ble_eq_true rfl) ?_
  intro p e s m args below meth c cf hr hlk hP hK hN ls hl
  have hl : lv_has ls 5 [(0, .ref (X.2.2.2 41)), (1, .int (nI tip)), (2, .ref (X.2.2.2 31)), (3, .ref (X.2.2.2 27))] := hl
  have hx := cf.1
  have hb := cf.2.1
  have hD := xD_of hX
  have hS : va_S (xA X) s.heap s.heap [] := va_S.rf
  have hnn := hC.nn
  have hV := hC.V
  have hcn := hC.n
  have htr := hC.tr
  have hblc := hC.bl
  have hro := hC.ro
  obtain ⟨H, hH⟩ : ∃ H, H = s.heap := ⟨_, rfl⟩
  obtain ⟨locs, hlo⟩ : ∃ z : List Loc, z = [] := ⟨_, rfl⟩
  suffices hgo : PW X S H → va_S (xA X) s.heap H locs → W p l e (rmd 2) s m args below meth c H locs 0 0 (MQ below (QcV X (cReplay S tip)) args s 0 0 (xA X)) (F0 m 0 ls []) by
    subst hH
    subst hlo
    exact hgo hP hS
  clear hP hS
  intro hP hS
  refine lv_iconst (v := nI 0) hx hb d_Le_replay_0 (by decide) ?_
  refine lv_istore (lv' := [(4, .int (nI 0)), (0, .ref (X.2.2.2 41)), (1, .int (nI tip)), (2, .ref (X.2.2.2 31)), (3, .ref (X.2.2.2 27))]) hx hb d_Le_replay_1 hl (by decide) rfl (fun ls hl => ?_)
  have lp3 : ∀ (dm : Nat) (a : Nat) (T : Nat → Nat → Nat) (ls : Array Slot) (H : Heap) (locs : List Loc), lv_has ls 5 [(0, .ref (X.2.2.2 41)), (1, .int (nI tip)), (2, .ref (X.2.2.2 31)), (3, .ref (X.2.2.2 27)), (4, .int (nI a))] → PW X T H → va_S (xA X) s.heap H locs → (a ≤ 4) → (T = itr (fun a Z => up2 Z 42 a 100) 0 S a) → (4 - a = dm) → W p l e (rmd 2) s m args below meth c H locs 0 0 (MQ below (QcV X (cReplay S tip)) args s 0 0 (xA X)) (F0 m 3 ls []) := by
    intro dm
    induction dm using Nat.strongRecOn with | ind dm lp3 => ?_
    intro a T ls H locs hl hP hS ha hz hdm
    refine lv_iload hx hb d_Le_replay_3 (lv_at hl 4 rfl) ?_
    refine lv_iconst (v := nI 4) hx hb d_Le_replay_5 (by decide) ?_
    refine n_icmp_ge (tgt := 24) hx hb d_Le_replay_6 (by decide) (by omega) (by decide) (fun h1 => ?_) (fun h1 => ?_)
    · skip
      refine lv_iconst (v := nI 0) hx hb d_Le_replay_24 (by decide) ?_
      refine lv_istore (lv' := [(4, .int (nI 0)), (0, .ref (X.2.2.2 41)), (1, .int (nI tip)), (2, .ref (X.2.2.2 31)), (3, .ref (X.2.2.2 27))]) hx hb d_Le_replay_25 hl (by decide) rfl (fun ls hl => ?_)
      have lp27 : ∀ (dm : Nat) (b2 : Nat) (U : Nat → Nat → Nat) (ls : Array Slot) (H : Heap) (locs : List Loc), lv_has ls 5 [(0, .ref (X.2.2.2 41)), (1, .int (nI tip)), (2, .ref (X.2.2.2 31)), (3, .ref (X.2.2.2 27)), (4, .int (nI b2))] → PW X U H → va_S (xA X) s.heap H locs → (b2 ≤ 24) → (U = itr (fun t Z => up2 Z 43 t 0) 0 T b2) → (24 - b2 = dm) → W p l e (rmd 2) s m args below meth c H locs 0 0 (MQ below (QcV X (cReplay S tip)) args s 0 0 (xA X)) (F0 m 27 ls []) := by
        intro dm
        induction dm using Nat.strongRecOn with | ind dm lp27 => ?_
        intro b2 U ls H locs hl hP hS hb2 hzu hdm
        refine lv_iload hx hb d_Le_replay_27 (lv_at hl 4 rfl) ?_
        refine lv_bipush (v := nI 24) hx hb d_Le_replay_29 (by decide) ?_
        refine n_icmp_ge (tgt := 48) hx hb d_Le_replay_31 (by decide) (by omega) (by decide) (fun h2 => ?_) (fun h2 => ?_)
        · skip
          obtain ⟨T0, hT0⟩ : ∃ z, z = U := ⟨_, rfl⟩
          rw [← hT0] at hP
          have hT0 : T0 = cGo0 S := by rw [hT0, hzu, hz, show a = 4 by omega, show b2 = 24 by omega]; rfl
          have hC0 : CI V X T0 := by rw [hT0]; exact hC.go0
          refine lv_iconst (v := nI 0) hx hb d_Le_replay_48 (by decide) ?_
          refine lv_istore (lv' := [(4, .int (nI 0)), (0, .ref (X.2.2.2 41)), (1, .int (nI tip)), (2, .ref (X.2.2.2 31)), (3, .ref (X.2.2.2 27))]) hx hb d_Le_replay_49 hl (by decide) rfl (fun ls hl => ?_)
          have lp51 : ∀ (dm : Nat) (b : Nat) (Z : Nat → Nat → Nat) (ls : Array Slot) (H : Heap) (locs : List Loc), lv_has ls 5 [(0, .ref (X.2.2.2 41)), (1, .int (nI tip)), (2, .ref (X.2.2.2 31)), (3, .ref (X.2.2.2 27)), (4, .int (nI b))] → PW X Z H → va_S (xA X) s.heap H locs → (b ≤ tip + 1) → (CI V X Z) → (∀ a, a < 4 → Z 42 a ≤ 1000000 + 24000 * b) → (Z = itr (cRepF tip) 0 T0 b) → (tip + 1 - b = dm) → W p l e (rmd 2) s m args below meth c H locs 0 0 (MQ below (QcV X (cReplay S tip)) args s 0 0 (xA X)) (F0 m 51 ls []) := by
            intro dm
            induction dm using Nat.strongRecOn with | ind dm lp51 => ?_
            intro b Z ls H locs hl hP hS hbt hCZ hbZ hzz hdm
            have htrZ := hCZ.tr
            refine lv_iload hx hb d_Le_replay_51 (lv_at hl 4 rfl) ?_
            refine lv_iload_n hx hb d_Le_replay_53 rfl (lv_at hl 1 rfl) ?_
            refine n_icmp_gt (tgt := 85) hx hb d_Le_replay_54 (by decide) (by omega) (by omega) (fun h3 => ?_) (fun h3 => ?_)
            · skip
              exact x_vret cf hr hlk hP hS (by unfold cReplay; rw [← hT0, hzz, show b = tip + 1 by omega]) d_Le_replay_85
            · skip
              refine lv_aload_n hx hb d_Le_replay_57 rfl (lv_at hl 2 rfl) ?_
              refine lv_iload hx hb d_Le_replay_58 (lv_at hl 4 rfl) ?_
              refine lv_iload_n hx hb d_Le_replay_60 rfl (lv_at hl 1 rfl) ?_
              refine x_callVi (As := [.int (nI b), .int (nI tip)]) (rest := []) cf hK hN hP hS (k_Bl_inChain l hX hCZ (by omega) (by omega)) (cw_Bl_inChain cf.2.2.2.2 w_430 ⟨Nat.le_of_ble_eq_true rfl, Nat.le_of_ble_eq_true rfl⟩) (rv_Bl hK hP) hl.1 rfl rfl (Nat.le_of_ble_eq_true rfl) ⟨Nat.zero_le _, Nat.zero_le _⟩ d_Le_replay_61 (fun H locs hP hS => ?_)
              refine n_if_eq (tgt := 79) hx hb d_Le_replay_64 (by decide) (tnat_lt _) (fun h4 => ?_) (fun h4 => ?_)
              · skip
                refine n_iinc1 (lv' := [(4, .int (nI (b + 1))), (0, .ref (X.2.2.2 41)), (1, .int (nI tip)), (2, .ref (X.2.2.2 31)), (3, .ref (X.2.2.2 27))]) (k := 4) hx hb d_Le_replay_79 hl rfl (by decide) rfl (fun ls hl => ?_)
                refine lv_goto (tgt := 51) hx hb d_Le_replay_82 (by decide) ?_
                exact lp51 _ (by omega) (b + 1) Z ls H locs (lv_sub hl [1, 2, 3, 4, 0] rfl) hP hS (by omega) (hCZ) (fun a ha4 => by have := hbZ a ha4; omega) (by rw [itr_z, ← hzz]; unfold cRepF; rw [if_neg (by rw [tnat_0 h4]; decide)]) rfl
              · skip
                refine lv_aload_n hx hb d_Le_replay_67 rfl (lv_at hl 0 rfl) ?_
                refine lv_aload_n hx hb d_Le_replay_68 rfl (lv_at hl 2 rfl) ?_
                refine x_getBl (v := .ref (X.2.2.2 34)) cf hK hP 2 (by decide) w_115 rfl d_Le_replay_69 ?_
                refine lv_iload hx hb d_Le_replay_72 (lv_at hl 4 rfl) ?_
                refine x_iald (v := (Z 34 b)) cf hK hP (ia34 X) (by omega) rfl d_Le_replay_74 ?_
                refine lv_aload_n hx hb d_Le_replay_75 rfl (lv_at hl 3 rfl) ?_
                refine x_callVv (As := [.int (nI (Z 34 b)), .ref (X.2.2.2 27)]) (rest := []) cf hK hN hP hS (k_Le_settle l hX hCZ (by have := (show Z 34 b < 16777216 from hCZ.c 34 b); omega) (M := 1000000 + 24000 * b) ⟨hbZ, by omega⟩) (cw_Le_settle cf.2.2.2.2 w_431 ⟨Nat.le_of_ble_eq_true rfl, Nat.le_of_ble_eq_true rfl⟩) (rv_Le hK hP) hl.1 rfl rfl (Nat.le_of_ble_eq_true rfl) ⟨Nat.zero_le _, Nat.zero_le _⟩ d_Le_replay_76 (fun H locs hP hS => ?_)
                refine n_iinc1 (lv' := [(4, .int (nI (b + 1))), (0, .ref (X.2.2.2 41)), (1, .int (nI tip)), (2, .ref (X.2.2.2 31)), (3, .ref (X.2.2.2 27))]) (k := 4) hx hb d_Le_replay_79 hl rfl (by decide) rfl (fun ls hl => ?_)
                refine lv_goto (tgt := 51) hx hb d_Le_replay_82 (by decide) ?_
                exact lp51 _ (by omega) (b + 1) (cSettle Z (Z 34 b)) ls H locs (lv_sub hl [1, 2, 3, 4, 0] rfl) hP hS (by omega) (hCZ.settle) (fun a ha4 => by have := cSets_bd (set := Z 34 b) hCZ hbZ (Z 27 0) a ha4; show cSettle Z (Z 34 b) 42 a ≤ _; unfold cSettle; omega) (by rw [itr_z, ← hzz]; unfold cRepF; rw [if_pos (tnat_1 h4)]) rfl
          exact lp51 _ 0 T0 ls H locs (lv_sub hl [1, 2, 3, 4, 0] rfl) hP hS (by omega) (hC0) (fun a ha4 => by rw [hT0, cGo0_42 a ha4]; omega) (rfl) rfl
        · skip
          refine lv_aload_n hx hb d_Le_replay_34 rfl (lv_at hl 0 rfl) ?_
          refine x_getLe (v := .ref (X.2.2.2 43)) cf hK hP 1 (by decide) w_170 rfl d_Le_replay_35 ?_
          refine lv_iload hx hb d_Le_replay_38 (lv_at hl 4 rfl) ?_
          refine lv_iconst (v := nI 0) hx hb d_Le_replay_40 (by decide) ?_
          refine x_iast cf hK hD hP hS (ia43 X) (by omega) d_Le_replay_41 (fun H locs hP hS => ?_)
          refine n_iinc1 (lv' := [(4, .int (nI (b2 + 1))), (0, .ref (X.2.2.2 41)), (1, .int (nI tip)), (2, .ref (X.2.2.2 31)), (3, .ref (X.2.2.2 27))]) (k := 4) hx hb d_Le_replay_42 hl rfl (by decide) rfl (fun ls hl => ?_)
          refine lv_goto (tgt := 27) hx hb d_Le_replay_45 (by decide) ?_
          exact lp27 _ (by omega) (b2 + 1) (up2 U 43 b2 0) ls H locs (lv_sub hl [1, 2, 3, 4, 0] rfl) hP hS (by omega) (by rw [itr_z, ← hzu]) rfl
      exact lp27 _ 0 T ls H locs (lv_sub hl [1, 2, 3, 4, 0] rfl) hP hS (by omega) (rfl) rfl
    · skip
      refine lv_aload_n hx hb d_Le_replay_9 rfl (lv_at hl 0 rfl) ?_
      refine x_getLe (v := .ref (X.2.2.2 42)) cf hK hP 0 (by decide) w_168 rfl d_Le_replay_10 ?_
      refine lv_iload hx hb d_Le_replay_13 (lv_at hl 4 rfl) ?_
      refine lv_bipush (v := nI 100) hx hb d_Le_replay_15 (by decide) ?_
      refine x_iast cf hK hD hP hS (ia42 X) (by omega) d_Le_replay_17 (fun H locs hP hS => ?_)
      refine n_iinc1 (lv' := [(4, .int (nI (a + 1))), (0, .ref (X.2.2.2 41)), (1, .int (nI tip)), (2, .ref (X.2.2.2 31)), (3, .ref (X.2.2.2 27))]) (k := 4) hx hb d_Le_replay_18 hl rfl (by decide) rfl (fun ls hl => ?_)
      refine lv_goto (tgt := 3) hx hb d_Le_replay_21 (by decide) ?_
      exact lp3 _ (by omega) (a + 1) (up2 T 42 a 100) ls H locs (lv_sub hl [1, 2, 3, 4, 0] rfl) hP hS (by omega) (by rw [itr_z, ← hz]) rfl
  exact lp3 _ 0 S ls H locs (lv_sub hl [1, 2, 3, 4, 0] rfl) hP hS (by omega) (rfl) rfl
