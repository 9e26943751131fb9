def cTick1 (S : Nat → Nat → Nat) (r : Nat) : Nat → Nat → Nat := up2 (cEnter (up2 S (3 * r + 44) 1 (S (3 * r + 44) 1 + 1)) r (S (3 * r + 44) 0 + 1)) (3 * r + 44) 2 (if 32 < 2 * S (3 * r + 44) 2 then 32 else 2 * S (3 * r + 44) 2)
def cTickN (S : Nat → Nat → Nat) (r : Nat) : Nat → Nat → Nat := if S (3 * r + 44) 1 + 1 = S (3 * r + 44) 2 then cSend (cTick1 S r) 2 (cLeader S (S (3 * r + 44) 0 + 1)) r (S (3 * r + 44) 6) (S (3 * r + 44) 0 + 1) else up2 S (3 * r + 44) 1 (S (3 * r + 44) 1 + 1)
def qTick (S : Nat → Nat → Nat) (r : Int32) : Int32 := if cCorrect S r = true then nI (cTickN S r.toNatClampNeg (3 * r.toNatClampNeg + 44) 0) else -1
def pTick (S : Nat → Nat → Nat) (r : Int32) : Nat → Nat → Nat := if cCorrect S r = true then cTickN S r.toNatClampNeg else S
theorem cTick1_ne {S : Nat → Nat → Nat} {r row : Nat} (h : row ≠ 3 * r + 44) : cTick1 S r row = S row := by
  unfold cTick1
  rw [up2_ne _ _ _ h, cEnter_ne h, up2_ne _ _ _ h]
theorem cTick1_at {S : Nat → Nat → Nat} {r : Nat} : cTick1 S r (3 * r + 44) 0 = S (3 * r + 44) 0 + 1 ∧ cTick1 S r (3 * r + 44) 6 = S (3 * r + 44) 6 := by
  unfold cTick1 cEnter
  simp [up2_at]
theorem CI.add {V : Nat} {X : WX} {S : Nat → Nat → Nat} {p v set : Nat} (h : CI V X S) (hb : S 31 0 < 40) (hv : v + 1 ≤ V) (hp : p < 40) (hs : set < 16777216) : CI V X (cAdd S p v set) := by
  have h36 := (show S 36 p < 16777216 from h.c 36 p)
  have h37 := (show S 37 p < 1099511627776 from h.c 37 p)
  have hbl := h.bl
  unfold cAdd
  refine (((((h.up (k := 32) hv).up (k := 33) hp).up (k := 34) hs).up (k := 36) ?_).up (k := 37) ?_).up (k := 31) (j := 0) (fun _ => by omega)
  · exact Nat.or_lt_two_pow (n := 24) h36 hs
  · refine Nat.or_lt_two_pow (n := 40) h37 ?_
    rw [Nat.one_mul]
    exact Nat.pow_lt_pow_right (by decide) hb
def cHeldF (h t r : Nat) (Z : Nat → Nat → Nat) : Nat → Nat → Nat := if h / 2 ^ r % 2 = 1 then up2 Z (3 * r + 44) 5 (Z (3 * r + 44) 5 ||| 1 * 2 ^ t) else Z
def qSubOk (S : Nat → Nat → Nat) (h fr to am : Int32) : Bool := decide ((0 ≤ h.toInt ∧ h.toInt < ((2 ^ S 25 0 : Nat) : Int)) ∧ (0 ≤ fr.toInt ∧ fr.toInt < 4) ∧ (0 ≤ to.toInt ∧ to.toInt < 4) ∧ ¬ fr = to ∧ (1 ≤ am.toInt ∧ am.toInt ≤ 1000) ∧ S 27 0 < 24)
def qSubmit (S : Nat → Nat → Nat) (h fr to am : Int32) : Int32 := if qSubOk S h fr to am = true then nI (S 27 0) else -1
def pSubmit (S : Nat → Nat → Nat) (n : Nat) (h fr to am : Int32) : Nat → Nat → Nat := if qSubOk S h fr to am = true then itr (cHeldF h.toNatClampNeg (S 27 0)) 0 (cTrAdd S fr.toNatClampNeg to.toNatClampNeg am.toNatClampNeg) n else S
theorem qSub_no {S : Nat → Nat → Nat} {h fr to am : Int32} (q : ¬ ((0 ≤ h.toInt ∧ h.toInt < ((2 ^ S 25 0 : Nat) : Int)) ∧ (0 ≤ fr.toInt ∧ fr.toInt < 4) ∧ (0 ≤ to.toInt ∧ to.toInt < 4) ∧ ¬ fr = to ∧ (1 ≤ am.toInt ∧ am.toInt ≤ 1000) ∧ S 27 0 < 24)) : qSubOk S h fr to am = false := decide_eq_false q
theorem CI.held {V : Nat} {X : WX} {Z : Nat → Nat → Nat} {h t r : Nat} (hC : CI V X Z) (ht : t < 24) : CI V X (cHeldF h t r Z) := by
  have hr := hC.rp r
  unfold cHeldF
  split
  · exact hC.upR (j := 5) (Nat.or_lt_two_pow (n := 24) hr.2.2.2.2.2.1 (p2_24 t ht))
  · exact hC
theorem CI.trAdd {V : Nat} {X : WX} {S : Nat → Nat → Nat} {a b c : Nat} (h : CI V X S) (ht : S 27 0 < 24) (ha : a < 4) (hb : b < 4) (hc : c ≤ 1000) : CI V X (cTrAdd S a b c) :=
  (((h.up (k := 28) ha).up (k := 29) hb).up (k := 30) hc).up (k := 27) (j := 0) (fun _ => by omega)
def cFresh (S : Nat → Nat → Nat) (r : Nat) : Nat := S (3 * r + 44) 5 &&& (S 36 (S (3 * r + 44) 6) ^^^ 4294967295)
def cLead1 (S : Nat → Nat → Nat) (r : Nat) : Nat → Nat → Nat := up2 (cAdd S (S (3 * r + 44) 6) (S (3 * r + 44) 0) (cLeast (cFresh S r) 2)) (3 * r + 44) 4 (S (3 * r + 44) 0)
def qLeadOk (S : Nat → Nat → Nat) (n : Nat) (r : Int32) : Bool := cCorrect S r && cMay S n r.toNatClampNeg && decide (¬ 40 ≤ S 31 0)
def qLead (S : Nat → Nat → Nat) (n : Nat) (r : Int32) : Int32 := if qLeadOk S n r = true then nI (S 31 0) else -1
def pLead (S : Nat → Nat → Nat) (n : Nat) (r : Int32) : Nat → Nat → Nat := if qLeadOk S n r = true then itr (fun q Z => cSend Z 0 q 0 (S 31 0) 0) 0 (cLead1 S r.toNatClampNeg) n else S
theorem cLeast_le (a m : Nat) : cLeast a m ≤ a := Nat.and_le_left
theorem CI.lead1 {V : Nat} {X : WX} {S : Nat → Nat → Nat} {r : Nat} (h : CI V X S) (hV : V + 1 ≤ 20000) (hb : S 31 0 < 40) : CI (V + 1) X (cLead1 S r) := by
  have hr := h.rp r
  have hJ := h.mono (show V ≤ V + 1 by omega) hV
  have hf : cLeast (cFresh S r) 2 < 16777216 := Nat.lt_of_le_of_lt (cLeast_le _ _) (Nat.lt_of_le_of_lt Nat.and_le_left hr.2.2.2.2.2.1)
  exact (hJ.add hb (by omega) (by omega) hf).upR (j := 4) (show S (3 * r + 44) 0 ≤ V + 1 by omega)
theorem CI.leads {V b : Nat} {X : WX} {S : Nat → Nat → Nat} (h : CI V X S) (hb : b < 40) : ∀ k, k ≤ X.2.2.1 → CI V X (itr (fun q Z => cSend Z 0 q 0 b 0) 0 S k)
  | 0, _ => h
  | k + 1, hk => by
    have h1 := CI.leads h hb k (by omega)
    rw [itr_z]
    exact h1.send (by decide) (by omega) (by omega) hb (by decide)
set_option maxRecDepth 100000 in
set_option maxHeartbeats 4000000 in
theorem k_T_tick (l : Launch) {X : WX} (hX : xInj X) {S : Nat → Nat → Nat} {V : Nat} (hC : CI V X S) (hV1 : V + 1 ≤ 20000) (r : Int32) : MetI l X y_T_tick (Cond.code y_T_tick c_T_tick 3 (some .int) :: Mst) 2 [.ref (X.2.2.2 25), .int r] S (qTick S r) (pTick S r) := by
  refine MetI.of (by decide) (Nat.le_of_ble_eq_true rfl) ?_
  intro p e s m args below meth c cf hr hlk hP hK hN ls hl
  have hl : lv_has ls 3 [(0, .ref (X.2.2.2 25)), (1, .int r)] := hl
  have hx := cf.1
  have hb := cf.2.1
  have hD := xD_of hX
  have hS : va_S (xA X) s.heap s.heap [] := va_S.rf
  have hnn := hC.nn
  have hV := hC.V
  have hcn := hC.n
  have htr := hC.tr
  have hblc := hC.bl
  have hro := hC.ro
  obtain ⟨H, hH⟩ : ∃ H, H = s.heap := ⟨_, rfl⟩
  obtain ⟨locs, hlo⟩ : ∃ z : List Loc, z = [] := ⟨_, rfl⟩
  suffices hgo : PW X S H → va_S (xA X) s.heap H locs → W p l e (rmd 2) s m args below meth c H locs 0 0 (MQ below (QcI X (qTick S r) (pTick S r)) args s 0 0 (xA X)) (F0 m 0 ls []) by
    subst hH
    subst hlo
    exact hgo hP hS
  clear hP hS
  intro hP hS
  refine lv_aload_n hx hb d_T_tick_0 rfl (lv_at hl 0 rfl) ?_
  refine lv_iload_n hx hb d_T_tick_1 rfl (lv_at hl 1 rfl) ?_
  refine x_callVi (As := [.int r]) (rest := []) cf hK hN hP hS (k_T_isCorrect l hX hC r) (cw_T_isCorrect cf.2.2.2.2 w_227 ⟨Nat.le_of_ble_eq_true rfl, Nat.le_of_ble_eq_true rfl⟩) (rv_T hK hP) hl.1 rfl rfl (Nat.le_of_ble_eq_true rfl) ⟨Nat.zero_le _, Nat.zero_le _⟩ d_T_tick_2 (fun H locs hP hS => ?_)
  refine n_if_ne (tgt := 10) hx hb d_T_tick_5 (by decide) (tnat_lt _) (fun h1 => ?_) (fun h1 => ?_)
  · skip
    have hcor := tnat_1 h1
    obtain ⟨j, hr0, rfl, hjc, hjt, hjb⟩ := cCorrect_ex hC hcor
    have hJ := hC.mono (show V ≤ V + 1 by omega) hV1
    have hrp := hC.rp j
    refine lv_aload_n hx hb d_T_tick_10 rfl (lv_at hl 0 rfl) ?_
    refine x_getT (v := .ref (X.2.2.2 26)) cf hK hP 4 (by decide) w_181 rfl d_T_tick_11 ?_
    refine lv_iload_n hx hb d_T_tick_14 rfl (lv_at hl 1 rfl) ?_
    refine x_aald cf hK hP hX.1 (by omega) d_T_tick_15 ?_
    refine lv_astore_n (lv' := [(2, .ref (X.2.2.2 (3 * j + 44))), (0, .ref (X.2.2.2 25)), (1, .int (nI j))]) hx hb d_T_tick_16 rfl hl (by decide) rfl (fun ls hl => ?_)
    refine lv_aload_n hx hb d_T_tick_17 rfl (lv_at hl 0 rfl) ?_
    refine lv_dup hx hb d_T_tick_18 rfl ?_
    refine x_getRp (v := .int (nI (S (3 * j + 44) 1))) cf hK hP hr0 1 (by decide) w_38 rfl d_T_tick_19 ?_
    refine lv_iconst (v := nI 1) hx hb d_T_tick_22 (by decide) ?_
    refine n_iadd hx hb d_T_tick_23 ?_
    refine x_putRp cf hK hD hP hS hr0 1 (by decide) w_38 rfl (by decide +kernel) 1 rfl d_T_tick_24 (fun H locs hP hS => ?_)
    refine lv_aload_n hx hb d_T_tick_27 rfl (lv_at hl 0 rfl) ?_
    refine x_getRp (v := .int (nI ((S (3 * j + 44) 1) + 1))) cf hK hP hr0 1 (by decide) w_38 (by simp [fsRp, up2_at]) d_T_tick_28 ?_
    refine lv_aload_n hx hb d_T_tick_31 rfl (lv_at hl 0 rfl) ?_
    refine x_getRp (v := .int (nI (S (3 * j + 44) 2))) cf hK hP hr0 2 (by decide) w_40 (by simp [fsRp, up2_at]) d_T_tick_32 ?_
    refine n_icmp_ne (tgt := 88) hx hb d_T_tick_35 (by decide) (by have := (hC.rp j); omega) (by have := (hC.rp j); omega) (fun h2 => ?_) (fun h2 => ?_)
    · skip
      refine lv_aload_n hx hb d_T_tick_88 rfl (lv_at hl 0 rfl) ?_
      refine x_getRp (v := .int (nI (S (3 * j + 44) 0))) cf hK hP hr0 0 (by decide) w_36 (by simp [fsRp, up2_at]) d_T_tick_89 ?_
      exact x_iret cf hr hlk hP hS (by unfold qTick; rw [hcor, hjc]; show _ = nI (cTickN S j (3 * j + 44) 0); unfold cTickN; rw [if_neg (by omega)]; simp [up2_at]) (by unfold pTick; rw [hcor, hjc]; show _ = cTickN S j; unfold cTickN; rw [if_neg (by omega)]) d_T_tick_92
    · skip
      refine lv_aload_n hx hb d_T_tick_38 rfl (lv_at hl 0 rfl) ?_
      refine lv_aload_n hx hb d_T_tick_39 rfl (lv_at hl 0 rfl) ?_
      refine x_getRp (v := .int (nI (S (3 * j + 44) 0))) cf hK hP hr0 0 (by decide) w_36 (by simp [fsRp, up2_at]) d_T_tick_40 ?_
      refine lv_iconst (v := nI 1) hx hb d_T_tick_43 (by decide) ?_
      refine n_iadd hx hb d_T_tick_44 ?_
      refine x_callVv (As := [.int (nI ((S (3 * j + 44) 0) + 1))]) (rest := []) cf hK hN hP hS (k_Rp_enter l hX (hJ.upR (r := j) (j := 1) (v := S (3 * j + 44) 1 + 1) (show S (3 * j + 44) 1 + 1 ≤ V + 1 by have := hC.rp j; omega)) hr0) (cw_Rp_enter cf.2.2.2.2 w_274 ⟨Nat.le_of_ble_eq_true rfl, Nat.le_of_ble_eq_true rfl⟩) (rv_Rp hK hP hr0) hl.1 rfl rfl (Nat.le_of_ble_eq_true rfl) ⟨Nat.zero_le _, Nat.zero_le _⟩ d_T_tick_45 (fun H locs hP hS => ?_)
      obtain ⟨T1, hT1⟩ : ∃ z, z = (cEnter (up2 S (3 * j + 44) 1 ((S (3 * j + 44) 1) + 1)) j ((S (3 * j + 44) 0) + 1)) := ⟨_, rfl⟩
      rw [← hT1] at hP
      have hC1 : CI (V + 1) X T1 := by rw [hT1]; exact (hJ.upR (r := j) (j := 1) (v := S (3 * j + 44) 1 + 1) (show S (3 * j + 44) 1 + 1 ≤ V + 1 by have := hC.rp j; omega)).enter (by omega) (by omega)
      have h12 : T1 (3 * j + 44) 2 = S (3 * j + 44) 2 := by rw [hT1]; unfold cEnter; simp [up2_at]
      have hrp1 := hC1.rp j
      refine lv_aload_n hx hb d_T_tick_48 rfl (lv_at hl 0 rfl) ?_
      refine lv_iconst (v := nI 2) hx hb d_T_tick_49 (by decide) ?_
      refine lv_aload_n hx hb d_T_tick_50 rfl (lv_at hl 0 rfl) ?_
      refine x_getRp (v := .int (nI (T1 (3 * j + 44) 2))) cf hK hP hr0 2 (by decide) w_40 rfl d_T_tick_51 ?_
      refine n_imul hx hb d_T_tick_54 ?_
      refine lv_bipush (v := nI 32) hx hb d_T_tick_55 (by decide) ?_
      refine x_callSi (As := [.int (nI (2 * (T1 (3 * j + 44) 2))), .int (nI 32)]) (rest := [.ref (X.2.2.2 (3 * j + 44))]) cf hK hN hP hS (k_JM_min l hX (nI (2 * (T1 (3 * j + 44) 2))) (nI 32)) (cw_JM_min cf.2.2.2.2 w_22 ⟨Nat.le_of_ble_eq_true rfl, Nat.le_of_ble_eq_true rfl⟩) hl.1 rfl rfl (Nat.le_of_ble_eq_true rfl) ⟨Nat.zero_le _, Nat.zero_le _⟩ d_T_tick_57 (fun H locs hP hS => ?_)
      rw [min_nI (a := 2 * T1 (3 * j + 44) 2) (b := 32) (by omega) (by decide), h12]
      refine x_putRp cf hK hD hP hS hr0 2 (by decide) w_40 rfl (by decide +kernel) 2 rfl d_T_tick_60 (fun H locs hP hS => ?_)
      obtain ⟨T2, hT2⟩ : ∃ z, z = (up2 T1 (3 * j + 44) 2 (if 32 < 2 * S (3 * j + 44) 2 then 32 else 2 * S (3 * j + 44) 2)) := ⟨_, rfl⟩
      rw [← hT2] at hP
      have hG : T2 = cTick1 S j := by rw [hT2, hT1]; rfl
      have hC2 : CI (V + 1) X T2 := by rw [hT2]; exact hC1.upR (j := 2) (show (if 32 < 2 * S (3 * j + 44) 2 then 32 else 2 * S (3 * j + 44) 2) ≤ 32 by split <;> omega)
      have h20 : T2 (3 * j + 44) 0 = S (3 * j + 44) 0 + 1 := by rw [hG]; exact cTick1_at.1
      have h26 : T2 (3 * j + 44) 6 = S (3 * j + 44) 6 := by rw [hG]; exact cTick1_at.2
      refine lv_aload_n hx hb d_T_tick_63 rfl (lv_at hl 1 rfl) ?_
      refine x_getT (v := .ref (X.2.2.2 38)) cf hK hP 7 (by decide) w_184 rfl d_T_tick_64 ?_
      refine lv_iconst (v := nI 2) hx hb d_T_tick_67 (by decide) ?_
      refine lv_aload_n hx hb d_T_tick_68 rfl (lv_at hl 1 rfl) ?_
      refine lv_aload_n hx hb d_T_tick_69 rfl (lv_at hl 0 rfl) ?_
      refine x_getRp (v := .int (nI (T2 (3 * j + 44) 0))) cf hK hP hr0 0 (by decide) w_36 rfl d_T_tick_70 ?_
      refine x_callVi (As := [.int (nI (T2 (3 * j + 44) 0))]) (rest := [.int (nI 2), .ref (X.2.2.2 38)]) cf hK hN hP hS (k_T_leaderOf l hX hC2 (by have := (hC2.rp j); omega)) (cw_T_leaderOf cf.2.2.2.2 w_239 ⟨Nat.le_of_ble_eq_true rfl, Nat.le_of_ble_eq_true rfl⟩) (rv_T hK hP) hl.1 rfl rfl (Nat.le_of_ble_eq_true rfl) ⟨Nat.zero_le _, Nat.zero_le _⟩ d_T_tick_73 (fun H locs hP hS => ?_)
      have hle := cLeader_lt hC2 (T2 (3 * j + 44) 0)
      refine lv_iload_n hx hb d_T_tick_76 rfl (lv_at hl 2 rfl) ?_
      refine lv_aload_n hx hb d_T_tick_77 rfl (lv_at hl 0 rfl) ?_
      refine x_getRp (v := .int (nI (T2 (3 * j + 44) 6))) cf hK hP hr0 6 (by decide) w_45 rfl d_T_tick_78 ?_
      refine lv_aload_n hx hb d_T_tick_81 rfl (lv_at hl 0 rfl) ?_
      refine x_getRp (v := .int (nI (T2 (3 * j + 44) 0))) cf hK hP hr0 0 (by decide) w_36 rfl d_T_tick_82 ?_
      refine x_callVv (As := [.int (nI 2), .int (nI (cLeader T2 (T2 (3 * j + 44) 0))), .int (nI j), .int (nI (T2 (3 * j + 44) 6)), .int (nI (T2 (3 * j + 44) 0))]) (rest := []) cf hK hN hP hS (k_Ro_send l hX hC2 2 (cLeader T2 (T2 (3 * j + 44) 0)) j (T2 (3 * j + 44) 6) (T2 (3 * j + 44) 0)) (cw_Ro_send cf.2.2.2.2 w_262 ⟨Nat.le_of_ble_eq_true rfl, Nat.le_of_ble_eq_true rfl⟩) (rv_Ro hK hP) hl.1 rfl rfl (Nat.le_of_ble_eq_true rfl) ⟨Nat.zero_le _, Nat.zero_le _⟩ d_T_tick_85 (fun H locs hP hS => ?_)
      obtain ⟨T3, hT3⟩ : ∃ z, z = (cSend T2 2 (cLeader T2 (T2 (3 * j + 44) 0)) j (T2 (3 * j + 44) 6) (T2 (3 * j + 44) 0)) := ⟨_, rfl⟩
      rw [← hT3] at hP
      have hT3e : T3 = cTickN S j := by unfold cTickN; rw [if_pos (by omega), hT3, h20, h26, hG, cLeader_congr (S := S) (cTick1_ne (by omega))]
      refine lv_aload_n hx hb d_T_tick_88 rfl (lv_at hl 0 rfl) ?_
      refine x_getRp (v := .int (nI (T3 (3 * j + 44) 0))) cf hK hP hr0 0 (by decide) w_36 rfl d_T_tick_89 ?_
      exact x_iret cf hr hlk hP hS (by unfold qTick; rw [hcor, hjc, ← hT3e]; rfl) (by unfold pTick; rw [hcor, hjc]; exact hT3e) d_T_tick_92
  · skip
    refine lv_iconst (v := (-1)) hx hb d_T_tick_8 (by decide) ?_
    exact x_iret cf hr hlk hP hS (by unfold qTick; rw [tnat_0 h1]; rfl) (by unfold pTick; rw [tnat_0 h1]; rfl) d_T_tick_9
set_option maxRecDepth 100000 in
set_option maxHeartbeats 4000000 in
theorem k_T_submit (l : Launch) {X : WX} (hX : xInj X) {S : Nat → Nat → Nat} {V : Nat} (hC : CI V X S) (h fr to am : Int32) : MetI l X y_T_submit (Cond.code y_T_submit c_T_submit 10 (some .int) :: Mst) 1 [.ref (X.2.2.2 25), .int h, .int fr, .int to, .int am] S (qSubmit S h fr to am) (pSubmit S X.2.2.1 h fr to am) := by
  refine MetI.of (by decide) (Nat.le_of_ble_eq_true rfl) ?_
  intro p e s m args below meth c cf hr hlk hP hK hN ls hl
  have hl : lv_has ls 10 [(0, .ref (X.2.2.2 25)), (1, .int h), (2, .int fr), (3, .int to), (4, .int am)] := hl
  have hx := cf.1
  have hb := cf.2.1
  have hD := xD_of hX
  have hS : va_S (xA X) s.heap s.heap [] := va_S.rf
  have hnn := hC.nn
  have hV := hC.V
  have hcn := hC.n
  have htr := hC.tr
  have hblc := hC.bl
  have hro := hC.ro
  obtain ⟨H, hH⟩ : ∃ H, H = s.heap := ⟨_, rfl⟩
  obtain ⟨locs, hlo⟩ : ∃ z : List Loc, z = [] := ⟨_, rfl⟩
  suffices hgo : PW X S H → va_S (xA X) s.heap H locs → W p l e (rmd 1) s m args below meth c H locs 0 0 (MQ below (QcI X (qSubmit S h fr to am) (pSubmit S X.2.2.1 h fr to am)) args s 0 0 (xA X)) (F0 m 0 ls []) by
    subst hH
    subst hlo
    exact hgo hP hS
  clear hP hS
  intro hP hS
  refine lv_iload_n hx hb d_T_submit_0 rfl (lv_at hl 1 rfl) ?_
  refine lv_aload_n hx hb d_T_submit_1 rfl (lv_at hl 0 rfl) ?_
  refine x_getT (v := .int (nI (S 25 0))) cf hK hP 0 (by decide) w_177 rfl d_T_submit_2 ?_
  refine lv_iushr hx hb d_T_submit_5 rfl ?_
  refine lv_if_eq (tgt := 13) hx hb d_T_submit_6 (by decide) (fun h1 => ?_) (fun h1 => ?_)
  · skip
    have uh1 := i_eq0 h1
    have hmk := (ushr_iff (by omega)).mp h1
    refine lv_iconst (v := nI 0) hx hb d_T_submit_13 (by decide) ?_
    refine lv_istore (lv' := [(5, .int (nI 0)), (0, .ref (X.2.2.2 25)), (1, .int h), (2, .int fr), (3, .int to), (4, .int am)]) hx hb d_T_submit_14 hl (by decide) rfl (fun ls hl => ?_)
    refine lv_iload_n hx hb d_T_submit_16 rfl (lv_at hl 3 rfl) ?_
    refine x_callSi (As := [.int fr]) (rest := []) cf hK hN hP hS (k_T_isAccount l hX fr) (cw_T_isAccount cf.2.2.2.2 w_209 ⟨Nat.le_of_ble_eq_true rfl, Nat.le_of_ble_eq_true rfl⟩) hl.1 rfl rfl (Nat.le_of_ble_eq_true rfl) ⟨Nat.zero_le _, Nat.zero_le _⟩ d_T_submit_17 (fun H locs hP hS => ?_)
    refine n_if_eq (tgt := 35) hx hb d_T_submit_20 (by decide) (tnat_lt _) (fun h2 => ?_) (fun h2 => ?_)
    · skip
      have hno : qSubOk S h fr to am = false := qSub_no (fun q => of_decide_eq_false (tnat_0 h2) q.2.1)
      refine lv_iconst (v := nI 1) hx hb d_T_submit_35 (by decide) ?_
      refine lv_goto (tgt := 40) hx hb d_T_submit_36 (by decide) ?_
      refine lv_istore (lv' := [(6, .int (nI 1)), (5, .int (nI 0)), (0, .ref (X.2.2.2 25)), (1, .int h), (2, .int fr), (3, .int to), (4, .int am)]) hx hb d_T_submit_40 hl (by decide) rfl (fun ls hl => ?_)
      refine lv_iload hx hb d_T_submit_42 (lv_at hl 6 rfl) ?_
      refine lv_iconst (v := nI 1) hx hb d_T_submit_44 (by decide) ?_
      refine lv_icmp_lt (tgt := 56) hx hb d_T_submit_45 (by decide) (fun h3 => ?_) (fun h3 => ?_)
      · skip
        have uh3 := i_ltN (by decide) h3
        have hno : qSubOk S h fr to am = false := qSub_no (fun q => by obtain ⟨q1, q2, q3, q4, q5, q6⟩ := q; omega)
        refine lv_iconst (v := nI 1) hx hb d_T_submit_56 (by decide) ?_
        refine lv_goto (tgt := 61) hx hb d_T_submit_57 (by decide) ?_
        refine lv_istore (lv' := [(7, .int (nI 1)), (6, .int (nI 1)), (5, .int (nI 0)), (0, .ref (X.2.2.2 25)), (1, .int h), (2, .int fr), (3, .int to), (4, .int am)]) hx hb d_T_submit_61 hl (by decide) rfl (fun ls hl => ?_)
        refine lv_iload hx hb d_T_submit_63 (lv_at hl 2 rfl) ?_
        refine n_if_ne (tgt := 88) hx hb d_T_submit_65 (by decide) (by decide) (fun h4 => absurd h4 (by decide)) (fun _ => ?_)
        refine lv_iload hx hb d_T_submit_68 (lv_at hl 1 rfl) ?_
        refine n_if_ne (tgt := 88) hx hb d_T_submit_70 (by decide) (by decide) (fun _ => ?_) (fun h5 => absurd h5 (by decide))
        refine lv_iconst (v := (-1)) hx hb d_T_submit_88 (by decide) ?_
        exact x_iret cf hr hlk hP hS (by unfold qSubmit; rw [hno]; rfl) (by unfold pSubmit; rw [hno]; rfl) d_T_submit_89
      · skip
        have uh3 := i_nltN (by decide) h3
        refine lv_iload hx hb d_T_submit_48 (lv_at hl 6 rfl) ?_
        refine lv_sipush (v := nI 1000) hx hb d_T_submit_50 (by decide) ?_
        refine lv_icmp_le (tgt := 60) hx hb d_T_submit_53 (by decide) (fun h6 => ?_) (fun h6 => ?_)
        · skip
          have uh6 := i_leN (by decide) h6
          refine lv_iconst (v := nI 0) hx hb d_T_submit_60 (by decide) ?_
          refine lv_istore (lv' := [(7, .int (nI 0)), (6, .int (nI 1)), (5, .int (nI 0)), (0, .ref (X.2.2.2 25)), (1, .int h), (2, .int fr), (3, .int to), (4, .int am)]) hx hb d_T_submit_61 hl (by decide) rfl (fun ls hl => ?_)
          refine lv_iload hx hb d_T_submit_63 (lv_at hl 2 rfl) ?_
          refine n_if_ne (tgt := 88) hx hb d_T_submit_65 (by decide) (by decide) (fun h7 => absurd h7 (by decide)) (fun _ => ?_)
          refine lv_iload hx hb d_T_submit_68 (lv_at hl 1 rfl) ?_
          refine n_if_ne (tgt := 88) hx hb d_T_submit_70 (by decide) (by decide) (fun _ => ?_) (fun h8 => absurd h8 (by decide))
          refine lv_iconst (v := (-1)) hx hb d_T_submit_88 (by decide) ?_
          exact x_iret cf hr hlk hP hS (by unfold qSubmit; rw [hno]; rfl) (by unfold pSubmit; rw [hno]; rfl) d_T_submit_89
        · skip
          have uh6 := i_nleN (by decide) h6
          have hno : qSubOk S h fr to am = false := qSub_no (fun q => by obtain ⟨q1, q2, q3, q4, q5, q6⟩ := q; omega)
          refine lv_iconst (v := nI 1) hx hb d_T_submit_56 (by decide) ?_
          refine lv_goto (tgt := 61) hx hb d_T_submit_57 (by decide) ?_
          refine lv_istore (lv' := [(7, .int (nI 1)), (6, .int (nI 1)), (5, .int (nI 0)), (0, .ref (X.2.2.2 25)), (1, .int h), (2, .int fr), (3, .int to), (4, .int am)]) hx hb d_T_submit_61 hl (by decide) rfl (fun ls hl => ?_)
          refine lv_iload hx hb d_T_submit_63 (lv_at hl 2 rfl) ?_
          refine n_if_ne (tgt := 88) hx hb d_T_submit_65 (by decide) (by decide) (fun h9 => absurd h9 (by decide)) (fun _ => ?_)
          refine lv_iload hx hb d_T_submit_68 (lv_at hl 1 rfl) ?_
          refine n_if_ne (tgt := 88) hx hb d_T_submit_70 (by decide) (by decide) (fun _ => ?_) (fun h10 => absurd h10 (by decide))
          refine lv_iconst (v := (-1)) hx hb d_T_submit_88 (by decide) ?_
          exact x_iret cf hr hlk hP hS (by unfold qSubmit; rw [hno]; rfl) (by unfold pSubmit; rw [hno]; rfl) d_T_submit_89
    · skip
      have hfr := of_decide_eq_true (tnat_1 h2)
      refine lv_iload_n hx hb d_T_submit_23 rfl (lv_at hl 4 rfl) ?_
      refine x_callSi (As := [.int to]) (rest := []) cf hK hN hP hS (k_T_isAccount l hX to) (cw_T_isAccount cf.2.2.2.2 w_209 ⟨Nat.le_of_ble_eq_true rfl, Nat.le_of_ble_eq_true rfl⟩) hl.1 rfl rfl (Nat.le_of_ble_eq_true rfl) ⟨Nat.zero_le _, Nat.zero_le _⟩ d_T_submit_24 (fun H locs hP hS => ?_)
      refine n_if_eq (tgt := 35) hx hb d_T_submit_27 (by decide) (tnat_lt _) (fun h11 => ?_) (fun h11 => ?_)
      · skip
        have hno : qSubOk S h fr to am = false := qSub_no (fun q => of_decide_eq_false (tnat_0 h11) q.2.2.1)
        refine lv_iconst (v := nI 1) hx hb d_T_submit_35 (by decide) ?_
        refine lv_goto (tgt := 40) hx hb d_T_submit_36 (by decide) ?_
        refine lv_istore (lv' := [(6, .int (nI 1)), (5, .int (nI 0)), (0, .ref (X.2.2.2 25)), (1, .int h), (2, .int fr), (3, .int to), (4, .int am)]) hx hb d_T_submit_40 hl (by decide) rfl (fun ls hl => ?_)
        refine lv_iload hx hb d_T_submit_42 (lv_at hl 6 rfl) ?_
        refine lv_iconst (v := nI 1) hx hb d_T_submit_44 (by decide) ?_
        refine lv_icmp_lt (tgt := 56) hx hb d_T_submit_45 (by decide) (fun h12 => ?_) (fun h12 => ?_)
        · skip
          have uh12 := i_ltN (by decide) h12
          have hno : qSubOk S h fr to am = false := qSub_no (fun q => by obtain ⟨q1, q2, q3, q4, q5, q6⟩ := q; omega)
          refine lv_iconst (v := nI 1) hx hb d_T_submit_56 (by decide) ?_
          refine lv_goto (tgt := 61) hx hb d_T_submit_57 (by decide) ?_
          refine lv_istore (lv' := [(7, .int (nI 1)), (6, .int (nI 1)), (5, .int (nI 0)), (0, .ref (X.2.2.2 25)), (1, .int h), (2, .int fr), (3, .int to), (4, .int am)]) hx hb d_T_submit_61 hl (by decide) rfl (fun ls hl => ?_)
          refine lv_iload hx hb d_T_submit_63 (lv_at hl 2 rfl) ?_
          refine n_if_ne (tgt := 88) hx hb d_T_submit_65 (by decide) (by decide) (fun h13 => absurd h13 (by decide)) (fun _ => ?_)
          refine lv_iload hx hb d_T_submit_68 (lv_at hl 1 rfl) ?_
          refine n_if_ne (tgt := 88) hx hb d_T_submit_70 (by decide) (by decide) (fun _ => ?_) (fun h14 => absurd h14 (by decide))
          refine lv_iconst (v := (-1)) hx hb d_T_submit_88 (by decide) ?_
          exact x_iret cf hr hlk hP hS (by unfold qSubmit; rw [hno]; rfl) (by unfold pSubmit; rw [hno]; rfl) d_T_submit_89
        · skip
          have uh12 := i_nltN (by decide) h12
          refine lv_iload hx hb d_T_submit_48 (lv_at hl 6 rfl) ?_
          refine lv_sipush (v := nI 1000) hx hb d_T_submit_50 (by decide) ?_
          refine lv_icmp_le (tgt := 60) hx hb d_T_submit_53 (by decide) (fun h15 => ?_) (fun h15 => ?_)
          · skip
            have uh15 := i_leN (by decide) h15
            refine lv_iconst (v := nI 0) hx hb d_T_submit_60 (by decide) ?_
            refine lv_istore (lv' := [(7, .int (nI 0)), (6, .int (nI 1)), (5, .int (nI 0)), (0, .ref (X.2.2.2 25)), (1, .int h), (2, .int fr), (3, .int to), (4, .int am)]) hx hb d_T_submit_61 hl (by decide) rfl (fun ls hl => ?_)
            refine lv_iload hx hb d_T_submit_63 (lv_at hl 2 rfl) ?_
            refine n_if_ne (tgt := 88) hx hb d_T_submit_65 (by decide) (by decide) (fun h16 => absurd h16 (by decide)) (fun _ => ?_)
            refine lv_iload hx hb d_T_submit_68 (lv_at hl 1 rfl) ?_
            refine n_if_ne (tgt := 88) hx hb d_T_submit_70 (by decide) (by decide) (fun _ => ?_) (fun h17 => absurd h17 (by decide))
            refine lv_iconst (v := (-1)) hx hb d_T_submit_88 (by decide) ?_
            exact x_iret cf hr hlk hP hS (by unfold qSubmit; rw [hno]; rfl) (by unfold pSubmit; rw [hno]; rfl) d_T_submit_89
          · skip
            have uh15 := i_nleN (by decide) h15
            have hno : qSubOk S h fr to am = false := qSub_no (fun q => by obtain ⟨q1, q2, q3, q4, q5, q6⟩ := q; omega)
            refine lv_iconst (v := nI 1) hx hb d_T_submit_56 (by decide) ?_
            refine lv_goto (tgt := 61) hx hb d_T_submit_57 (by decide) ?_
            refine lv_istore (lv' := [(7, .int (nI 1)), (6, .int (nI 1)), (5, .int (nI 0)), (0, .ref (X.2.2.2 25)), (1, .int h), (2, .int fr), (3, .int to), (4, .int am)]) hx hb d_T_submit_61 hl (by decide) rfl (fun ls hl => ?_)
            refine lv_iload hx hb d_T_submit_63 (lv_at hl 2 rfl) ?_
            refine n_if_ne (tgt := 88) hx hb d_T_submit_65 (by decide) (by decide) (fun h18 => absurd h18 (by decide)) (fun _ => ?_)
            refine lv_iload hx hb d_T_submit_68 (lv_at hl 1 rfl) ?_
            refine n_if_ne (tgt := 88) hx hb d_T_submit_70 (by decide) (by decide) (fun _ => ?_) (fun h19 => absurd h19 (by decide))
            refine lv_iconst (v := (-1)) hx hb d_T_submit_88 (by decide) ?_
            exact x_iret cf hr hlk hP hS (by unfold qSubmit; rw [hno]; rfl) (by unfold pSubmit; rw [hno]; rfl) d_T_submit_89
      · skip
        have hto := of_decide_eq_true (tnat_1 h11)
        refine lv_iload_n hx hb d_T_submit_30 rfl (lv_at hl 3 rfl) ?_
        refine lv_iload_n hx hb d_T_submit_31 rfl (lv_at hl 4 rfl) ?_
        refine lv_icmp_ne (tgt := 39) hx hb d_T_submit_32 (by decide) (fun h20 => ?_) (fun h20 => ?_)
        · skip
          have hne := h20
          refine lv_iconst (v := nI 0) hx hb d_T_submit_39 (by decide) ?_
          refine lv_istore (lv' := [(6, .int (nI 0)), (5, .int (nI 0)), (0, .ref (X.2.2.2 25)), (1, .int h), (2, .int fr), (3, .int to), (4, .int am)]) hx hb d_T_submit_40 hl (by decide) rfl (fun ls hl => ?_)
          refine lv_iload hx hb d_T_submit_42 (lv_at hl 6 rfl) ?_
          refine lv_iconst (v := nI 1) hx hb d_T_submit_44 (by decide) ?_
          refine lv_icmp_lt (tgt := 56) hx hb d_T_submit_45 (by decide) (fun h21 => ?_) (fun h21 => ?_)
          · skip
            have uh21 := i_ltN (by decide) h21
            have hno : qSubOk S h fr to am = false := qSub_no (fun q => by obtain ⟨q1, q2, q3, q4, q5, q6⟩ := q; omega)
            refine lv_iconst (v := nI 1) hx hb d_T_submit_56 (by decide) ?_
            refine lv_goto (tgt := 61) hx hb d_T_submit_57 (by decide) ?_
            refine lv_istore (lv' := [(7, .int (nI 1)), (6, .int (nI 0)), (5, .int (nI 0)), (0, .ref (X.2.2.2 25)), (1, .int h), (2, .int fr), (3, .int to), (4, .int am)]) hx hb d_T_submit_61 hl (by decide) rfl (fun ls hl => ?_)
            refine lv_iload hx hb d_T_submit_63 (lv_at hl 2 rfl) ?_
            refine n_if_ne (tgt := 88) hx hb d_T_submit_65 (by decide) (by decide) (fun h22 => absurd h22 (by decide)) (fun _ => ?_)
            refine lv_iload hx hb d_T_submit_68 (lv_at hl 1 rfl) ?_
            refine n_if_ne (tgt := 88) hx hb d_T_submit_70 (by decide) (by decide) (fun h23 => absurd h23 (by decide)) (fun _ => ?_)
            refine lv_iload hx hb d_T_submit_73 (lv_at hl 0 rfl) ?_
            refine n_if_ne (tgt := 88) hx hb d_T_submit_75 (by decide) (by decide) (fun _ => ?_) (fun h24 => absurd h24 (by decide))
            refine lv_iconst (v := (-1)) hx hb d_T_submit_88 (by decide) ?_
            exact x_iret cf hr hlk hP hS (by unfold qSubmit; rw [hno]; rfl) (by unfold pSubmit; rw [hno]; rfl) d_T_submit_89
          · skip
            have uh21 := i_nltN (by decide) h21
            refine lv_iload hx hb d_T_submit_48 (lv_at hl 6 rfl) ?_
            refine lv_sipush (v := nI 1000) hx hb d_T_submit_50 (by decide) ?_
            refine lv_icmp_le (tgt := 60) hx hb d_T_submit_53 (by decide) (fun h25 => ?_) (fun h25 => ?_)
            · skip
              have uh25 := i_leN (by decide) h25
              refine lv_iconst (v := nI 0) hx hb d_T_submit_60 (by decide) ?_
              refine lv_istore (lv' := [(7, .int (nI 0)), (6, .int (nI 0)), (5, .int (nI 0)), (0, .ref (X.2.2.2 25)), (1, .int h), (2, .int fr), (3, .int to), (4, .int am)]) hx hb d_T_submit_61 hl (by decide) rfl (fun ls hl => ?_)
              refine lv_iload hx hb d_T_submit_63 (lv_at hl 2 rfl) ?_
              refine n_if_ne (tgt := 88) hx hb d_T_submit_65 (by decide) (by decide) (fun h26 => absurd h26 (by decide)) (fun _ => ?_)
              refine lv_iload hx hb d_T_submit_68 (lv_at hl 1 rfl) ?_
              refine n_if_ne (tgt := 88) hx hb d_T_submit_70 (by decide) (by decide) (fun h27 => absurd h27 (by decide)) (fun _ => ?_)
              refine lv_iload hx hb d_T_submit_73 (lv_at hl 0 rfl) ?_
              refine n_if_ne (tgt := 88) hx hb d_T_submit_75 (by decide) (by decide) (fun h28 => absurd h28 (by decide)) (fun _ => ?_)
              refine lv_aload_n hx hb d_T_submit_78 rfl (lv_at hl 3 rfl) ?_
              refine x_getT (v := .ref (X.2.2.2 27)) cf hK hP 5 (by decide) w_182 rfl d_T_submit_79 ?_
              refine x_callVi (As := []) (rest := []) cf hK hN hP hS (k_Tr_isFull l hX hC) (cw_Tr_isFull cf.2.2.2.2 w_212 ⟨Nat.le_of_ble_eq_true rfl, Nat.le_of_ble_eq_true rfl⟩) (rv_Tr hK hP) hl.1 rfl rfl (Nat.le_of_ble_eq_true rfl) ⟨Nat.zero_le _, Nat.zero_le _⟩ d_T_submit_82 (fun H locs hP hS => ?_)
              refine n_if_eq (tgt := 90) hx hb d_T_submit_85 (by decide) (tnat_lt _) (fun h29 => ?_) (fun h29 => ?_)
              · skip
                have hnf := of_decide_eq_false (tnat_0 h29)
                have hyes : qSubOk S h fr to am = true := decide_eq_true ⟨hmk, hfr, hto, hne, ⟨by omega, by omega⟩, by omega⟩
                obtain ⟨hN0, hN1, rfl, hN2, hN3⟩ := i_nat (x := h) hmk.1
                obtain ⟨fN, fN1, rfl, fN2, fN3⟩ := i_nat (x := fr) hfr.1
                obtain ⟨tN, tN1, rfl, tN2, tN3⟩ := i_nat (x := to) hto.1
                obtain ⟨aN, aN1, rfl, aN2, aN3⟩ := i_nat (x := am) (by omega)
                refine lv_aload_n hx hb d_T_submit_90 rfl (lv_at hl 3 rfl) ?_
                refine x_getT (v := .ref (X.2.2.2 27)) cf hK hP 5 (by decide) w_182 rfl d_T_submit_91 ?_
                refine lv_iload_n hx hb d_T_submit_94 rfl (lv_at hl 5 rfl) ?_
                refine lv_iload_n hx hb d_T_submit_95 rfl (lv_at hl 6 rfl) ?_
                refine lv_iload hx hb d_T_submit_96 (lv_at hl 7 rfl) ?_
                refine x_callVi (As := [.int (nI fN), .int (nI tN), .int (nI aN)]) (rest := []) cf hK hN hP hS (k_Tr_add l hX hC (by omega)) (cw_Tr_add cf.2.2.2.2 w_216 ⟨Nat.le_of_ble_eq_true rfl, Nat.le_of_ble_eq_true rfl⟩) (rv_Tr hK hP) hl.1 rfl rfl (Nat.le_of_ble_eq_true rfl) ⟨Nat.zero_le _, Nat.zero_le _⟩ d_T_submit_98 (fun H locs hP hS => ?_)
                refine lv_istore (lv' := [(8, .int (nI (S 27 0))), (7, .int (nI 0)), (6, .int (nI 0)), (5, .int (nI 0)), (0, .ref (X.2.2.2 25)), (1, .int (nI hN0)), (2, .int (nI fN)), (3, .int (nI tN)), (4, .int (nI aN))]) hx hb d_T_submit_101 hl (by decide) rfl (fun ls hl => ?_)
                refine lv_iconst (v := nI 0) hx hb d_T_submit_103 (by decide) ?_
                refine lv_istore (lv' := [(9, .int (nI 0)), (8, .int (nI (S 27 0))), (7, .int (nI 0)), (6, .int (nI 0)), (5, .int (nI 0)), (0, .ref (X.2.2.2 25)), (1, .int (nI hN0)), (2, .int (nI fN)), (3, .int (nI tN)), (4, .int (nI aN))]) hx hb d_T_submit_104 hl (by decide) rfl (fun ls hl => ?_)
                have lp106 : ∀ (dm : Nat) (q : Nat) (Z : Nat → Nat → Nat) (ls : Array Slot) (H : Heap) (locs : List Loc), lv_has ls 10 [(0, .ref (X.2.2.2 25)), (1, .int (nI hN0)), (8, .int (nI (S 27 0))), (9, .int (nI q))] → PW X Z H → va_S (xA X) s.heap H locs → (q ≤ X.2.2.1) → (CI V X Z) → (Z 25 = S 25) → (Z = itr (cHeldF hN0 (S 27 0)) 0 (cTrAdd S fN tN aN) q) → (X.2.2.1 - q = dm) → W p l e (rmd 1) s m args below meth c H locs 0 0 (MQ below (QcI X (qSubmit S (nI hN0) (nI fN) (nI tN) (nI aN)) (pSubmit S X.2.2.1 (nI hN0) (nI fN) (nI tN) (nI aN))) args s 0 0 (xA X)) (F0 m 106 ls []) := by
                  intro dm
                  induction dm using Nat.strongRecOn with | ind dm lp106 => ?_
                  intro q Z ls H locs hl hP hS hq hCZ hZ25 hz hdm
                  have hnZ := hCZ.n
                  refine lv_iload hx hb d_T_submit_106 (lv_at hl 3 rfl) ?_
                  refine lv_aload_n hx hb d_T_submit_108 rfl (lv_at hl 0 rfl) ?_
                  refine x_getT (v := .int (nI (Z 25 0))) cf hK hP 0 (by decide) w_177 rfl d_T_submit_109 ?_
                  refine n_icmp_ge (tgt := 149) hx hb d_T_submit_112 (by decide) (by omega) (by omega) (fun h30 => ?_) (fun h30 => ?_)
                  · skip
                    refine lv_iload hx hb d_T_submit_149 (lv_at hl 2 rfl) ?_
                    exact x_iret cf hr hlk hP hS (by unfold qSubmit; rw [hyes]; rfl) (by unfold pSubmit; rw [hyes, hN3, fN3, tN3, aN3, hz, show q = X.2.2.1 by omega]; rfl) d_T_submit_151
                  · skip
                    refine lv_iload_n hx hb d_T_submit_115 rfl (lv_at hl 1 rfl) ?_
                    refine lv_iload hx hb d_T_submit_116 (lv_at hl 3 rfl) ?_
                    refine x_callSi (As := [.int (nI hN0), .int (nI q)]) (rest := []) cf hK hN hP hS (k_T_hasMember l hX (by omega) (by omega)) (cw_T_hasMember cf.2.2.2.2 w_220 ⟨Nat.le_of_ble_eq_true rfl, Nat.le_of_ble_eq_true rfl⟩) hl.1 rfl rfl (Nat.le_of_ble_eq_true rfl) ⟨Nat.zero_le _, Nat.zero_le _⟩ d_T_submit_118 (fun H locs hP hS => ?_)
                    refine n_if_eq (tgt := 143) hx hb d_T_submit_121 (by decide) (tnat_lt _) (fun h31 => ?_) (fun h31 => ?_)
                    · skip
                      have hm0 : ¬ hN0 / 2 ^ q % 2 = 1 := of_decide_eq_false (tnat_0 h31)
                      refine n_iinc1 (lv' := [(9, .int (nI (q + 1))), (0, .ref (X.2.2.2 25)), (1, .int (nI hN0)), (8, .int (nI (S 27 0)))]) (k := 3) hx hb d_T_submit_143 hl rfl (by decide) rfl (fun ls hl => ?_)
                      refine lv_goto (tgt := 106) hx hb d_T_submit_146 (by decide) ?_
                      have hst : Z = cHeldF hN0 (S 27 0) q Z := by unfold cHeldF; first | (rw [if_pos hm1]; done) | (rw [if_neg hm0]; done)
                      exact lp106 _ (by omega) (q + 1) Z ls H locs (lv_sub hl [1, 2, 3, 0] rfl) hP hS (by omega) (by rw [hst]; exact hCZ.held (by omega)) (by rw [hst]; unfold cHeldF; split; rw [upR_ne (by decide)]; exact hZ25; exact hZ25) (by rw [hst, itr_z, ← hz]) rfl
                    · skip
                      have hm1 : hN0 / 2 ^ q % 2 = 1 := of_decide_eq_true (tnat_1 h31)
                      have hr0 : q < X.2.2.1 := by omega
                      refine lv_aload_n hx hb d_T_submit_124 rfl (lv_at hl 0 rfl) ?_
                      refine x_getT (v := .ref (X.2.2.2 26)) cf hK hP 4 (by decide) w_181 rfl d_T_submit_125 ?_
                      refine lv_iload hx hb d_T_submit_128 (lv_at hl 3 rfl) ?_
                      refine x_aald cf hK hP hX.1 (by omega) d_T_submit_130 ?_
                      refine lv_dup hx hb d_T_submit_131 rfl ?_
                      refine x_getRp (v := .int (nI (Z (3 * q + 44) 5))) cf hK hP hr0 5 (by decide) w_43 rfl d_T_submit_132 ?_
                      refine lv_iconst (v := nI 1) hx hb d_T_submit_135 (by decide) ?_
                      refine lv_iload hx hb d_T_submit_136 (lv_at hl 2 rfl) ?_
                      refine n_ishl hx hb (by omega) (by have := p2_24 (S 27 0) (by omega); omega) d_T_submit_138 ?_
                      refine n_ior hx hb d_T_submit_139 ?_
                      refine x_putRp cf hK hD hP hS hr0 5 (by decide) w_43 rfl (by decide +kernel) 5 rfl d_T_submit_140 (fun H locs hP hS => ?_)
                      refine n_iinc1 (lv' := [(9, .int (nI (q + 1))), (0, .ref (X.2.2.2 25)), (1, .int (nI hN0)), (8, .int (nI (S 27 0)))]) (k := 3) hx hb d_T_submit_143 hl rfl (by decide) rfl (fun ls hl => ?_)
                      refine lv_goto (tgt := 106) hx hb d_T_submit_146 (by decide) ?_
                      have hst : (up2 Z (3 * q + 44) 5 ((Z (3 * q + 44) 5) ||| (1 * (2 ^ (S 27 0))))) = cHeldF hN0 (S 27 0) q Z := by unfold cHeldF; first | (rw [if_pos hm1]; done) | (rw [if_neg hm0]; done)
                      exact lp106 _ (by omega) (q + 1) (up2 Z (3 * q + 44) 5 ((Z (3 * q + 44) 5) ||| (1 * (2 ^ (S 27 0))))) ls H locs (lv_sub hl [1, 2, 3, 0] rfl) hP hS (by omega) (by rw [hst]; exact hCZ.held (by omega)) (by rw [hst]; unfold cHeldF; split; rw [upR_ne (by decide)]; exact hZ25; exact hZ25) (by rw [hst, itr_z, ← hz]) rfl
                exact lp106 _ 0 (cTrAdd S fN tN aN) ls H locs (lv_sub hl [5, 6, 1, 0] rfl) hP hS (by omega) (hC.trAdd (by omega) (by omega) (by omega) (by omega)) (rfl) (rfl) rfl
              · skip
                have hno : qSubOk S h fr to am = false := qSub_no (fun q => by have := of_decide_eq_true (tnat_1 h29); omega)
                refine lv_iconst (v := (-1)) hx hb d_T_submit_88 (by decide) ?_
                exact x_iret cf hr hlk hP hS (by unfold qSubmit; rw [hno]; rfl) (by unfold pSubmit; rw [hno]; rfl) d_T_submit_89
            · skip
              have uh25 := i_nleN (by decide) h25
              have hno : qSubOk S h fr to am = false := qSub_no (fun q => by obtain ⟨q1, q2, q3, q4, q5, q6⟩ := q; omega)
              refine lv_iconst (v := nI 1) hx hb d_T_submit_56 (by decide) ?_
              refine lv_goto (tgt := 61) hx hb d_T_submit_57 (by decide) ?_
              refine lv_istore (lv' := [(7, .int (nI 1)), (6, .int (nI 0)), (5, .int (nI 0)), (0, .ref (X.2.2.2 25)), (1, .int h), (2, .int fr), (3, .int to), (4, .int am)]) hx hb d_T_submit_61 hl (by decide) rfl (fun ls hl => ?_)
              refine lv_iload hx hb d_T_submit_63 (lv_at hl 2 rfl) ?_
              refine n_if_ne (tgt := 88) hx hb d_T_submit_65 (by decide) (by decide) (fun h32 => absurd h32 (by decide)) (fun _ => ?_)
              refine lv_iload hx hb d_T_submit_68 (lv_at hl 1 rfl) ?_
              refine n_if_ne (tgt := 88) hx hb d_T_submit_70 (by decide) (by decide) (fun h33 => absurd h33 (by decide)) (fun _ => ?_)
              refine lv_iload hx hb d_T_submit_73 (lv_at hl 0 rfl) ?_
              refine n_if_ne (tgt := 88) hx hb d_T_submit_75 (by decide) (by decide) (fun _ => ?_) (fun h34 => absurd h34 (by decide))
              refine lv_iconst (v := (-1)) hx hb d_T_submit_88 (by decide) ?_
              exact x_iret cf hr hlk hP hS (by unfold qSubmit; rw [hno]; rfl) (by unfold pSubmit; rw [hno]; rfl) d_T_submit_89
        · skip
          have hno : qSubOk S h fr to am = false := qSub_no (fun q => q.2.2.2.1 h20)
          refine lv_iconst (v := nI 1) hx hb d_T_submit_35 (by decide) ?_
          refine lv_goto (tgt := 40) hx hb d_T_submit_36 (by decide) ?_
          refine lv_istore (lv' := [(6, .int (nI 1)), (5, .int (nI 0)), (0, .ref (X.2.2.2 25)), (1, .int h), (2, .int fr), (3, .int to), (4, .int am)]) hx hb d_T_submit_40 hl (by decide) rfl (fun ls hl => ?_)
          refine lv_iload hx hb d_T_submit_42 (lv_at hl 6 rfl) ?_
          refine lv_iconst (v := nI 1) hx hb d_T_submit_44 (by decide) ?_
          refine lv_icmp_lt (tgt := 56) hx hb d_T_submit_45 (by decide) (fun h35 => ?_) (fun h35 => ?_)
          · skip
            have uh35 := i_ltN (by decide) h35
            have hno : qSubOk S h fr to am = false := qSub_no (fun q => by obtain ⟨q1, q2, q3, q4, q5, q6⟩ := q; omega)
            refine lv_iconst (v := nI 1) hx hb d_T_submit_56 (by decide) ?_
            refine lv_goto (tgt := 61) hx hb d_T_submit_57 (by decide) ?_
            refine lv_istore (lv' := [(7, .int (nI 1)), (6, .int (nI 1)), (5, .int (nI 0)), (0, .ref (X.2.2.2 25)), (1, .int h), (2, .int fr), (3, .int to), (4, .int am)]) hx hb d_T_submit_61 hl (by decide) rfl (fun ls hl => ?_)
            refine lv_iload hx hb d_T_submit_63 (lv_at hl 2 rfl) ?_
            refine n_if_ne (tgt := 88) hx hb d_T_submit_65 (by decide) (by decide) (fun h36 => absurd h36 (by decide)) (fun _ => ?_)
            refine lv_iload hx hb d_T_submit_68 (lv_at hl 1 rfl) ?_
            refine n_if_ne (tgt := 88) hx hb d_T_submit_70 (by decide) (by decide) (fun _ => ?_) (fun h37 => absurd h37 (by decide))
            refine lv_iconst (v := (-1)) hx hb d_T_submit_88 (by decide) ?_
            exact x_iret cf hr hlk hP hS (by unfold qSubmit; rw [hno]; rfl) (by unfold pSubmit; rw [hno]; rfl) d_T_submit_89
          · skip
            have uh35 := i_nltN (by decide) h35
            refine lv_iload hx hb d_T_submit_48 (lv_at hl 6 rfl) ?_
            refine lv_sipush (v := nI 1000) hx hb d_T_submit_50 (by decide) ?_
            refine lv_icmp_le (tgt := 60) hx hb d_T_submit_53 (by decide) (fun h38 => ?_) (fun h38 => ?_)
            · skip
              have uh38 := i_leN (by decide) h38
              refine lv_iconst (v := nI 0) hx hb d_T_submit_60 (by decide) ?_
              refine lv_istore (lv' := [(7, .int (nI 0)), (6, .int (nI 1)), (5, .int (nI 0)), (0, .ref (X.2.2.2 25)), (1, .int h), (2, .int fr), (3, .int to), (4, .int am)]) hx hb d_T_submit_61 hl (by decide) rfl (fun ls hl => ?_)
              refine lv_iload hx hb d_T_submit_63 (lv_at hl 2 rfl) ?_
              refine n_if_ne (tgt := 88) hx hb d_T_submit_65 (by decide) (by decide) (fun h39 => absurd h39 (by decide)) (fun _ => ?_)
              refine lv_iload hx hb d_T_submit_68 (lv_at hl 1 rfl) ?_
              refine n_if_ne (tgt := 88) hx hb d_T_submit_70 (by decide) (by decide) (fun _ => ?_) (fun h40 => absurd h40 (by decide))
              refine lv_iconst (v := (-1)) hx hb d_T_submit_88 (by decide) ?_
              exact x_iret cf hr hlk hP hS (by unfold qSubmit; rw [hno]; rfl) (by unfold pSubmit; rw [hno]; rfl) d_T_submit_89
            · skip
              have uh38 := i_nleN (by decide) h38
              have hno : qSubOk S h fr to am = false := qSub_no (fun q => by obtain ⟨q1, q2, q3, q4, q5, q6⟩ := q; omega)
              refine lv_iconst (v := nI 1) hx hb d_T_submit_56 (by decide) ?_
              refine lv_goto (tgt := 61) hx hb d_T_submit_57 (by decide) ?_
              refine lv_istore (lv' := [(7, .int (nI 1)), (6, .int (nI 1)), (5, .int (nI 0)), (0, .ref (X.2.2.2 25)), (1, .int h), (2, .int fr), (3, .int to), (4, .int am)]) hx hb d_T_submit_61 hl (by decide) rfl (fun ls hl => ?_)
              refine lv_iload hx hb d_T_submit_63 (lv_at hl 2 rfl) ?_
              refine n_if_ne (tgt := 88) hx hb d_T_submit_65 (by decide) (by decide) (fun h41 => absurd h41 (by decide)) (fun _ => ?_)
              refine lv_iload hx hb d_T_submit_68 (lv_at hl 1 rfl) ?_
              refine n_if_ne (tgt := 88) hx hb d_T_submit_70 (by decide) (by decide) (fun _ => ?_) (fun h42 => absurd h42 (by decide))
              refine lv_iconst (v := (-1)) hx hb d_T_submit_88 (by decide) ?_
              exact x_iret cf hr hlk hP hS (by unfold qSubmit; rw [hno]; rfl) (by unfold pSubmit; rw [hno]; rfl) d_T_submit_89
  · skip
    have uh1 := i_ne0 h1
    have hno : qSubOk S h fr to am = false := qSub_no (fun q => h1 ((ushr_iff (by omega)).mpr q.1))
    refine lv_iconst (v := nI 1) hx hb d_T_submit_9 (by decide) ?_
    refine lv_goto (tgt := 14) hx hb d_T_submit_10 (by decide) ?_
    refine lv_istore (lv' := [(5, .int (nI 1)), (0, .ref (X.2.2.2 25)), (1, .int h), (2, .int fr), (3, .int to), (4, .int am)]) hx hb d_T_submit_14 hl (by decide) rfl (fun ls hl => ?_)
    refine lv_iload_n hx hb d_T_submit_16 rfl (lv_at hl 3 rfl) ?_
    refine x_callSi (As := [.int fr]) (rest := []) cf hK hN hP hS (k_T_isAccount l hX fr) (cw_T_isAccount cf.2.2.2.2 w_209 ⟨Nat.le_of_ble_eq_true rfl, Nat.le_of_ble_eq_true rfl⟩) hl.1 rfl rfl (Nat.le_of_ble_eq_true rfl) ⟨Nat.zero_le _, Nat.zero_le _⟩ d_T_submit_17 (fun H locs hP hS => ?_)
    refine n_if_eq (tgt := 35) hx hb d_T_submit_20 (by decide) (tnat_lt _) (fun h43 => ?_) (fun h43 => ?_)
    · skip
      have hno : qSubOk S h fr to am = false := qSub_no (fun q => of_decide_eq_false (tnat_0 h43) q.2.1)
      refine lv_iconst (v := nI 1) hx hb d_T_submit_35 (by decide) ?_
      refine lv_goto (tgt := 40) hx hb d_T_submit_36 (by decide) ?_
      refine lv_istore (lv' := [(6, .int (nI 1)), (5, .int (nI 1)), (0, .ref (X.2.2.2 25)), (1, .int h), (2, .int fr), (3, .int to), (4, .int am)]) hx hb d_T_submit_40 hl (by decide) rfl (fun ls hl => ?_)
      refine lv_iload hx hb d_T_submit_42 (lv_at hl 6 rfl) ?_
      refine lv_iconst (v := nI 1) hx hb d_T_submit_44 (by decide) ?_
      refine lv_icmp_lt (tgt := 56) hx hb d_T_submit_45 (by decide) (fun h44 => ?_) (fun h44 => ?_)
      · skip
        have uh44 := i_ltN (by decide) h44
        have hno : qSubOk S h fr to am = false := qSub_no (fun q => by obtain ⟨q1, q2, q3, q4, q5, q6⟩ := q; omega)
        refine lv_iconst (v := nI 1) hx hb d_T_submit_56 (by decide) ?_
        refine lv_goto (tgt := 61) hx hb d_T_submit_57 (by decide) ?_
        refine lv_istore (lv' := [(7, .int (nI 1)), (6, .int (nI 1)), (5, .int (nI 1)), (0, .ref (X.2.2.2 25)), (1, .int h), (2, .int fr), (3, .int to), (4, .int am)]) hx hb d_T_submit_61 hl (by decide) rfl (fun ls hl => ?_)
        refine lv_iload hx hb d_T_submit_63 (lv_at hl 2 rfl) ?_
        refine n_if_ne (tgt := 88) hx hb d_T_submit_65 (by decide) (by decide) (fun _ => ?_) (fun h45 => absurd h45 (by decide))
        refine lv_iconst (v := (-1)) hx hb d_T_submit_88 (by decide) ?_
        exact x_iret cf hr hlk hP hS (by unfold qSubmit; rw [hno]; rfl) (by unfold pSubmit; rw [hno]; rfl) d_T_submit_89
      · skip
        have uh44 := i_nltN (by decide) h44
        refine lv_iload hx hb d_T_submit_48 (lv_at hl 6 rfl) ?_
        refine lv_sipush (v := nI 1000) hx hb d_T_submit_50 (by decide) ?_
        refine lv_icmp_le (tgt := 60) hx hb d_T_submit_53 (by decide) (fun h46 => ?_) (fun h46 => ?_)
        · skip
          have uh46 := i_leN (by decide) h46
          refine lv_iconst (v := nI 0) hx hb d_T_submit_60 (by decide) ?_
          refine lv_istore (lv' := [(7, .int (nI 0)), (6, .int (nI 1)), (5, .int (nI 1)), (0, .ref (X.2.2.2 25)), (1, .int h), (2, .int fr), (3, .int to), (4, .int am)]) hx hb d_T_submit_61 hl (by decide) rfl (fun ls hl => ?_)
          refine lv_iload hx hb d_T_submit_63 (lv_at hl 2 rfl) ?_
          refine n_if_ne (tgt := 88) hx hb d_T_submit_65 (by decide) (by decide) (fun _ => ?_) (fun h47 => absurd h47 (by decide))
          refine lv_iconst (v := (-1)) hx hb d_T_submit_88 (by decide) ?_
          exact x_iret cf hr hlk hP hS (by unfold qSubmit; rw [hno]; rfl) (by unfold pSubmit; rw [hno]; rfl) d_T_submit_89
        · skip
          have uh46 := i_nleN (by decide) h46
          have hno : qSubOk S h fr to am = false := qSub_no (fun q => by obtain ⟨q1, q2, q3, q4, q5, q6⟩ := q; omega)
          refine lv_iconst (v := nI 1) hx hb d_T_submit_56 (by decide) ?_
          refine lv_goto (tgt := 61) hx hb d_T_submit_57 (by decide) ?_
          refine lv_istore (lv' := [(7, .int (nI 1)), (6, .int (nI 1)), (5, .int (nI 1)), (0, .ref (X.2.2.2 25)), (1, .int h), (2, .int fr), (3, .int to), (4, .int am)]) hx hb d_T_submit_61 hl (by decide) rfl (fun ls hl => ?_)
          refine lv_iload hx hb d_T_submit_63 (lv_at hl 2 rfl) ?_
          refine n_if_ne (tgt := 88) hx hb d_T_submit_65 (by decide) (by decide) (fun _ => ?_) (fun h48 => absurd h48 (by decide))
          refine lv_iconst (v := (-1)) hx hb d_T_submit_88 (by decide) ?_
          exact x_iret cf hr hlk hP hS (by unfold qSubmit; rw [hno]; rfl) (by unfold pSubmit; rw [hno]; rfl) d_T_submit_89
    · skip
      have hfr := of_decide_eq_true (tnat_1 h43)
      refine lv_iload_n hx hb d_T_submit_23 rfl (lv_at hl 4 rfl) ?_
      refine x_callSi (As := [.int to]) (rest := []) cf hK hN hP hS (k_T_isAccount l hX to) (cw_T_isAccount cf.2.2.2.2 w_209 ⟨Nat.le_of_ble_eq_true rfl, Nat.le_of_ble_eq_true rfl⟩) hl.1 rfl rfl (Nat.le_of_ble_eq_true rfl) ⟨Nat.zero_le _, Nat.zero_le _⟩ d_T_submit_24 (fun H locs hP hS => ?_)
      refine n_if_eq (tgt := 35) hx hb d_T_submit_27 (by decide) (tnat_lt _) (fun h49 => ?_) (fun h49 => ?_)
      · skip
        have hno : qSubOk S h fr to am = false := qSub_no (fun q => of_decide_eq_false (tnat_0 h49) q.2.2.1)
        refine lv_iconst (v := nI 1) hx hb d_T_submit_35 (by decide) ?_
        refine lv_goto (tgt := 40) hx hb d_T_submit_36 (by decide) ?_
        refine lv_istore (lv' := [(6, .int (nI 1)), (5, .int (nI 1)), (0, .ref (X.2.2.2 25)), (1, .int h), (2, .int fr), (3, .int to), (4, .int am)]) hx hb d_T_submit_40 hl (by decide) rfl (fun ls hl => ?_)
        refine lv_iload hx hb d_T_submit_42 (lv_at hl 6 rfl) ?_
        refine lv_iconst (v := nI 1) hx hb d_T_submit_44 (by decide) ?_
        refine lv_icmp_lt (tgt := 56) hx hb d_T_submit_45 (by decide) (fun h50 => ?_) (fun h50 => ?_)
        · skip
          have uh50 := i_ltN (by decide) h50
          have hno : qSubOk S h fr to am = false := qSub_no (fun q => by obtain ⟨q1, q2, q3, q4, q5, q6⟩ := q; omega)
          refine lv_iconst (v := nI 1) hx hb d_T_submit_56 (by decide) ?_
          refine lv_goto (tgt := 61) hx hb d_T_submit_57 (by decide) ?_
          refine lv_istore (lv' := [(7, .int (nI 1)), (6, .int (nI 1)), (5, .int (nI 1)), (0, .ref (X.2.2.2 25)), (1, .int h), (2, .int fr), (3, .int to), (4, .int am)]) hx hb d_T_submit_61 hl (by decide) rfl (fun ls hl => ?_)
          refine lv_iload hx hb d_T_submit_63 (lv_at hl 2 rfl) ?_
          refine n_if_ne (tgt := 88) hx hb d_T_submit_65 (by decide) (by decide) (fun _ => ?_) (fun h51 => absurd h51 (by decide))
          refine lv_iconst (v := (-1)) hx hb d_T_submit_88 (by decide) ?_
          exact x_iret cf hr hlk hP hS (by unfold qSubmit; rw [hno]; rfl) (by unfold pSubmit; rw [hno]; rfl) d_T_submit_89
        · skip
          have uh50 := i_nltN (by decide) h50
          refine lv_iload hx hb d_T_submit_48 (lv_at hl 6 rfl) ?_
          refine lv_sipush (v := nI 1000) hx hb d_T_submit_50 (by decide) ?_
          refine lv_icmp_le (tgt := 60) hx hb d_T_submit_53 (by decide) (fun h52 => ?_) (fun h52 => ?_)
          · skip
            have uh52 := i_leN (by decide) h52
            refine lv_iconst (v := nI 0) hx hb d_T_submit_60 (by decide) ?_
            refine lv_istore (lv' := [(7, .int (nI 0)), (6, .int (nI 1)), (5, .int (nI 1)), (0, .ref (X.2.2.2 25)), (1, .int h), (2, .int fr), (3, .int to), (4, .int am)]) hx hb d_T_submit_61 hl (by decide) rfl (fun ls hl => ?_)
            refine lv_iload hx hb d_T_submit_63 (lv_at hl 2 rfl) ?_
            refine n_if_ne (tgt := 88) hx hb d_T_submit_65 (by decide) (by decide) (fun _ => ?_) (fun h53 => absurd h53 (by decide))
            refine lv_iconst (v := (-1)) hx hb d_T_submit_88 (by decide) ?_
            exact x_iret cf hr hlk hP hS (by unfold qSubmit; rw [hno]; rfl) (by unfold pSubmit; rw [hno]; rfl) d_T_submit_89
          · skip
            have uh52 := i_nleN (by decide) h52
            have hno : qSubOk S h fr to am = false := qSub_no (fun q => by obtain ⟨q1, q2, q3, q4, q5, q6⟩ := q; omega)
            refine lv_iconst (v := nI 1) hx hb d_T_submit_56 (by decide) ?_
            refine lv_goto (tgt := 61) hx hb d_T_submit_57 (by decide) ?_
            refine lv_istore (lv' := [(7, .int (nI 1)), (6, .int (nI 1)), (5, .int (nI 1)), (0, .ref (X.2.2.2 25)), (1, .int h), (2, .int fr), (3, .int to), (4, .int am)]) hx hb d_T_submit_61 hl (by decide) rfl (fun ls hl => ?_)
            refine lv_iload hx hb d_T_submit_63 (lv_at hl 2 rfl) ?_
            refine n_if_ne (tgt := 88) hx hb d_T_submit_65 (by decide) (by decide) (fun _ => ?_) (fun h54 => absurd h54 (by decide))
            refine lv_iconst (v := (-1)) hx hb d_T_submit_88 (by decide) ?_
            exact x_iret cf hr hlk hP hS (by unfold qSubmit; rw [hno]; rfl) (by unfold pSubmit; rw [hno]; rfl) d_T_submit_89
      · skip
        have hto := of_decide_eq_true (tnat_1 h49)
        refine lv_iload_n hx hb d_T_submit_30 rfl (lv_at hl 3 rfl) ?_
        refine lv_iload_n hx hb d_T_submit_31 rfl (lv_at hl 4 rfl) ?_
        refine lv_icmp_ne (tgt := 39) hx hb d_T_submit_32 (by decide) (fun h55 => ?_) (fun h55 => ?_)
        · skip
          have hne := h55
          refine lv_iconst (v := nI 0) hx hb d_T_submit_39 (by decide) ?_
          refine lv_istore (lv' := [(6, .int (nI 0)), (5, .int (nI 1)), (0, .ref (X.2.2.2 25)), (1, .int h), (2, .int fr), (3, .int to), (4, .int am)]) hx hb d_T_submit_40 hl (by decide) rfl (fun ls hl => ?_)
          refine lv_iload hx hb d_T_submit_42 (lv_at hl 6 rfl) ?_
          refine lv_iconst (v := nI 1) hx hb d_T_submit_44 (by decide) ?_
          refine lv_icmp_lt (tgt := 56) hx hb d_T_submit_45 (by decide) (fun h56 => ?_) (fun h56 => ?_)
          · skip
            have uh56 := i_ltN (by decide) h56
            have hno : qSubOk S h fr to am = false := qSub_no (fun q => by obtain ⟨q1, q2, q3, q4, q5, q6⟩ := q; omega)
            refine lv_iconst (v := nI 1) hx hb d_T_submit_56 (by decide) ?_
            refine lv_goto (tgt := 61) hx hb d_T_submit_57 (by decide) ?_
            refine lv_istore (lv' := [(7, .int (nI 1)), (6, .int (nI 0)), (5, .int (nI 1)), (0, .ref (X.2.2.2 25)), (1, .int h), (2, .int fr), (3, .int to), (4, .int am)]) hx hb d_T_submit_61 hl (by decide) rfl (fun ls hl => ?_)
            refine lv_iload hx hb d_T_submit_63 (lv_at hl 2 rfl) ?_
            refine n_if_ne (tgt := 88) hx hb d_T_submit_65 (by decide) (by decide) (fun _ => ?_) (fun h57 => absurd h57 (by decide))
            refine lv_iconst (v := (-1)) hx hb d_T_submit_88 (by decide) ?_
            exact x_iret cf hr hlk hP hS (by unfold qSubmit; rw [hno]; rfl) (by unfold pSubmit; rw [hno]; rfl) d_T_submit_89
          · skip
            have uh56 := i_nltN (by decide) h56
            refine lv_iload hx hb d_T_submit_48 (lv_at hl 6 rfl) ?_
            refine lv_sipush (v := nI 1000) hx hb d_T_submit_50 (by decide) ?_
            refine lv_icmp_le (tgt := 60) hx hb d_T_submit_53 (by decide) (fun h58 => ?_) (fun h58 => ?_)
            · skip
              have uh58 := i_leN (by decide) h58
              refine lv_iconst (v := nI 0) hx hb d_T_submit_60 (by decide) ?_
              refine lv_istore (lv' := [(7, .int (nI 0)), (6, .int (nI 0)), (5, .int (nI 1)), (0, .ref (X.2.2.2 25)), (1, .int h), (2, .int fr), (3, .int to), (4, .int am)]) hx hb d_T_submit_61 hl (by decide) rfl (fun ls hl => ?_)
              refine lv_iload hx hb d_T_submit_63 (lv_at hl 2 rfl) ?_
              refine n_if_ne (tgt := 88) hx hb d_T_submit_65 (by decide) (by decide) (fun _ => ?_) (fun h59 => absurd h59 (by decide))
              refine lv_iconst (v := (-1)) hx hb d_T_submit_88 (by decide) ?_
              exact x_iret cf hr hlk hP hS (by unfold qSubmit; rw [hno]; rfl) (by unfold pSubmit; rw [hno]; rfl) d_T_submit_89
            · skip
              have uh58 := i_nleN (by decide) h58
              have hno : qSubOk S h fr to am = false := qSub_no (fun q => by obtain ⟨q1, q2, q3, q4, q5, q6⟩ := q; omega)
              refine lv_iconst (v := nI 1) hx hb d_T_submit_56 (by decide) ?_
              refine lv_goto (tgt := 61) hx hb d_T_submit_57 (by decide) ?_
              refine lv_istore (lv' := [(7, .int (nI 1)), (6, .int (nI 0)), (5, .int (nI 1)), (0, .ref (X.2.2.2 25)), (1, .int h), (2, .int fr), (3, .int to), (4, .int am)]) hx hb d_T_submit_61 hl (by decide) rfl (fun ls hl => ?_)
              refine lv_iload hx hb d_T_submit_63 (lv_at hl 2 rfl) ?_
              refine n_if_ne (tgt := 88) hx hb d_T_submit_65 (by decide) (by decide) (fun _ => ?_) (fun h60 => absurd h60 (by decide))
              refine lv_iconst (v := (-1)) hx hb d_T_submit_88 (by decide) ?_
              exact x_iret cf hr hlk hP hS (by unfold qSubmit; rw [hno]; rfl) (by unfold pSubmit; rw [hno]; rfl) d_T_submit_89
        · skip
          have hno : qSubOk S h fr to am = false := qSub_no (fun q => q.2.2.2.1 h55)
          refine lv_iconst (v := nI 1) hx hb d_T_submit_35 (by decide) ?_
          refine lv_goto (tgt := 40) hx hb d_T_submit_36 (by decide) ?_
          refine lv_istore (lv' := [(6, .int (nI 1)), (5, .int (nI 1)), (0, .ref (X.2.2.2 25)), (1, .int h), (2, .int fr), (3, .int to), (4, .int am)]) hx hb d_T_submit_40 hl (by decide) rfl (fun ls hl => ?_)
          refine lv_iload hx hb d_T_submit_42 (lv_at hl 6 rfl) ?_
          refine lv_iconst (v := nI 1) hx hb d_T_submit_44 (by decide) ?_
          refine lv_icmp_lt (tgt := 56) hx hb d_T_submit_45 (by decide) (fun h61 => ?_) (fun h61 => ?_)
          · skip
            have uh61 := i_ltN (by decide) h61
            have hno : qSubOk S h fr to am = false := qSub_no (fun q => by obtain ⟨q1, q2, q3, q4, q5, q6⟩ := q; omega)
            refine lv_iconst (v := nI 1) hx hb d_T_submit_56 (by decide) ?_
            refine lv_goto (tgt := 61) hx hb d_T_submit_57 (by decide) ?_
            refine lv_istore (lv' := [(7, .int (nI 1)), (6, .int (nI 1)), (5, .int (nI 1)), (0, .ref (X.2.2.2 25)), (1, .int h), (2, .int fr), (3, .int to), (4, .int am)]) hx hb d_T_submit_61 hl (by decide) rfl (fun ls hl => ?_)
            refine lv_iload hx hb d_T_submit_63 (lv_at hl 2 rfl) ?_
            refine n_if_ne (tgt := 88) hx hb d_T_submit_65 (by decide) (by decide) (fun _ => ?_) (fun h62 => absurd h62 (by decide))
            refine lv_iconst (v := (-1)) hx hb d_T_submit_88 (by decide) ?_
            exact x_iret cf hr hlk hP hS (by unfold qSubmit; rw [hno]; rfl) (by unfold pSubmit; rw [hno]; rfl) d_T_submit_89
          · skip
            have uh61 := i_nltN (by decide) h61
            refine lv_iload hx hb d_T_submit_48 (lv_at hl 6 rfl) ?_
            refine lv_sipush (v := nI 1000) hx hb d_T_submit_50 (by decide) ?_
            refine lv_icmp_le (tgt := 60) hx hb d_T_submit_53 (by decide) (fun h63 => ?_) (fun h63 => ?_)
            · skip
              have uh63 := i_leN (by decide) h63
              refine lv_iconst (v := nI 0) hx hb d_T_submit_60 (by decide) ?_
              refine lv_istore (lv' := [(7, .int (nI 0)), (6, .int (nI 1)), (5, .int (nI 1)), (0, .ref (X.2.2.2 25)), (1, .int h), (2, .int fr), (3, .int to), (4, .int am)]) hx hb d_T_submit_61 hl (by decide) rfl (fun ls hl => ?_)
              refine lv_iload hx hb d_T_submit_63 (lv_at hl 2 rfl) ?_
              refine n_if_ne (tgt := 88) hx hb d_T_submit_65 (by decide) (by decide) (fun _ => ?_) (fun h64 => absurd h64 (by decide))
              refine lv_iconst (v := (-1)) hx hb d_T_submit_88 (by decide) ?_
              exact x_iret cf hr hlk hP hS (by unfold qSubmit; rw [hno]; rfl) (by unfold pSubmit; rw [hno]; rfl) d_T_submit_89
            · skip
              have uh63 := i_nleN (by decide) h63
              have hno : qSubOk S h fr to am = false := qSub_no (fun q => by obtain ⟨q1, q2, q3, q4, q5, q6⟩ := q; omega)
              refine lv_iconst (v := nI 1) hx hb d_T_submit_56 (by decide) ?_
              refine lv_goto (tgt := 61) hx hb d_T_submit_57 (by decide) ?_
              refine lv_istore (lv' := [(7, .int (nI 1)), (6, .int (nI 1)), (5, .int (nI 1)), (0, .ref (X.2.2.2 25)), (1, .int h), (2, .int fr), (3, .int to), (4, .int am)]) hx hb d_T_submit_61 hl (by decide) rfl (fun ls hl => ?_)
              refine lv_iload hx hb d_T_submit_63 (lv_at hl 2 rfl) ?_
              refine n_if_ne (tgt := 88) hx hb d_T_submit_65 (by decide) (by decide) (fun _ => ?_) (fun h65 => absurd h65 (by decide))
              refine lv_iconst (v := (-1)) hx hb d_T_submit_88 (by decide) ?_
              exact x_iret cf hr hlk hP hS (by unfold qSubmit; rw [hno]; rfl) (by unfold pSubmit; rw [hno]; rfl) d_T_submit_89
set_option maxRecDepth 100000 in
set_option maxHeartbeats 4000000 in
theorem k_T_lead (l : Launch) {X : WX} (hX : xInj X) {S : Nat → Nat → Nat} {V : Nat} (hC : CI V X S) (hV1 : V + 1 ≤ 20000) (r : Int32) : MetI l X y_T_lead (Cond.code y_T_lead c_T_lead 6 (some .int) :: Mst) 3 [.ref (X.2.2.2 25), .int r] S (qLead S X.2.2.1 r) (pLead S X.2.2.1 r) := by
  refine MetI.of (by decide) (Nat.le_of_ble_eq_true rfl) ?_
  intro p e s m args below meth c cf hr hlk hP hK hN ls hl
  have hl : lv_has ls 6 [(0, .ref (X.2.2.2 25)), (1, .int r)] := hl
  have hx := cf.1
  have hb := cf.2.1
  have hD := xD_of hX
  have hS : va_S (xA X) s.heap s.heap [] := va_S.rf
  have hnn := hC.nn
  have hV := hC.V
  have hcn := hC.n
  have htr := hC.tr
  have hblc := hC.bl
  have hro := hC.ro
  obtain ⟨H, hH⟩ : ∃ H, H = s.heap := ⟨_, rfl⟩
  obtain ⟨locs, hlo⟩ : ∃ z : List Loc, z = [] := ⟨_, rfl⟩
  suffices hgo : PW X S H → va_S (xA X) s.heap H locs → W p l e (rmd 3) s m args below meth c H locs 0 0 (MQ below (QcI X (qLead S X.2.2.1 r) (pLead S X.2.2.1 r)) args s 0 0 (xA X)) (F0 m 0 ls []) by
    subst hH
    subst hlo
    exact hgo hP hS
  clear hP hS
  intro hP hS
  refine lv_aload_n hx hb d_T_lead_0 rfl (lv_at hl 0 rfl) ?_
  refine lv_iload_n hx hb d_T_lead_1 rfl (lv_at hl 1 rfl) ?_
  refine x_callVi (As := [.int r]) (rest := []) cf hK hN hP hS (k_T_isCorrect l hX hC r) (cw_T_isCorrect cf.2.2.2.2 w_227 ⟨Nat.le_of_ble_eq_true rfl, Nat.le_of_ble_eq_true rfl⟩) (rv_T hK hP) hl.1 rfl rfl (Nat.le_of_ble_eq_true rfl) ⟨Nat.zero_le _, Nat.zero_le _⟩ d_T_lead_2 (fun H locs hP hS => ?_)
  refine n_if_eq (tgt := 26) hx hb d_T_lead_5 (by decide) (tnat_lt _) (fun h1 => ?_) (fun h1 => ?_)
  · skip
    have hno : qLeadOk S X.2.2.1 r = false := by unfold qLeadOk; rw [tnat_0 h1]; rfl
    refine lv_iconst (v := (-1)) hx hb d_T_lead_26 (by decide) ?_
    exact x_iret cf hr hlk hP hS (by unfold qLead; rw [hno]; rfl) (by unfold pLead; rw [hno]; rfl) d_T_lead_27
  · skip
    have hcor := tnat_1 h1
    obtain ⟨j, hr0, rfl, hjc, hjt, hjb⟩ := cCorrect_ex hC hcor
    refine lv_aload_n hx hb d_T_lead_8 rfl (lv_at hl 0 rfl) ?_
    refine lv_iload_n hx hb d_T_lead_9 rfl (lv_at hl 1 rfl) ?_
    refine x_callVi (As := [.int (nI j)]) (rest := []) cf hK hN hP hS (k_T_mayPropose l hX hC (by omega)) (cw_T_mayPropose cf.2.2.2.2 w_235 ⟨Nat.le_of_ble_eq_true rfl, Nat.le_of_ble_eq_true rfl⟩) (rv_T hK hP) hl.1 rfl rfl (Nat.le_of_ble_eq_true rfl) ⟨Nat.zero_le _, Nat.zero_le _⟩ d_T_lead_10 (fun H locs hP hS => ?_)
    refine n_if_eq (tgt := 26) hx hb d_T_lead_13 (by decide) (tnat_lt _) (fun h2 => ?_) (fun h2 => ?_)
    · skip
      have hno : qLeadOk S X.2.2.1 (nI j) = false := by unfold qLeadOk; rw [hjc, tnat_0 h2, Bool.and_false]; rfl
      refine lv_iconst (v := (-1)) hx hb d_T_lead_26 (by decide) ?_
      exact x_iret cf hr hlk hP hS (by unfold qLead; rw [hno]; rfl) (by unfold pLead; rw [hno]; rfl) d_T_lead_27
    · skip
      refine lv_aload_n hx hb d_T_lead_16 rfl (lv_at hl 0 rfl) ?_
      refine x_getT (v := .ref (X.2.2.2 31)) cf hK hP 6 (by decide) w_183 rfl d_T_lead_17 ?_
      refine x_callVi (As := []) (rest := []) cf hK hN hP hS (k_Bl_isFull l hX hC) (cw_Bl_isFull cf.2.2.2.2 w_254 ⟨Nat.le_of_ble_eq_true rfl, Nat.le_of_ble_eq_true rfl⟩) (rv_Bl hK hP) hl.1 rfl rfl (Nat.le_of_ble_eq_true rfl) ⟨Nat.zero_le _, Nat.zero_le _⟩ d_T_lead_20 (fun H locs hP hS => ?_)
      refine n_if_eq (tgt := 28) hx hb d_T_lead_23 (by decide) (tnat_lt _) (fun h3 => ?_) (fun h3 => ?_)
      · skip
        have hnf := of_decide_eq_false (tnat_0 h3)
        have hok : qLeadOk S X.2.2.1 (nI j) = true := by unfold qLeadOk; rw [hcor, hjc, tnat_1 h2, decide_eq_true hnf]; rfl
        have hrp := hC.rp j
        have hfr : cFresh S j < 16777216 := Nat.lt_of_le_of_lt Nat.and_le_left hrp.2.2.2.2.2.1
        refine lv_aload_n hx hb d_T_lead_28 rfl (lv_at hl 0 rfl) ?_
        refine x_getT (v := .ref (X.2.2.2 26)) cf hK hP 4 (by decide) w_181 rfl d_T_lead_29 ?_
        refine lv_iload_n hx hb d_T_lead_32 rfl (lv_at hl 1 rfl) ?_
        refine x_aald cf hK hP hX.1 (by omega) d_T_lead_33 ?_
        refine lv_astore_n (lv' := [(2, .ref (X.2.2.2 (3 * j + 44))), (0, .ref (X.2.2.2 25)), (1, .int (nI j))]) hx hb d_T_lead_34 rfl hl (by decide) rfl (fun ls hl => ?_)
        refine lv_aload_n hx hb d_T_lead_35 rfl (lv_at hl 0 rfl) ?_
        refine x_getRp (v := .int (nI (S (3 * j + 44) 5))) cf hK hP hr0 5 (by decide) w_43 rfl d_T_lead_36 ?_
        refine lv_aload_n hx hb d_T_lead_39 rfl (lv_at hl 1 rfl) ?_
        refine x_getT (v := .ref (X.2.2.2 31)) cf hK hP 6 (by decide) w_183 rfl d_T_lead_40 ?_
        refine x_getBl (v := .ref (X.2.2.2 36)) cf hK hP 4 (by decide) w_120 rfl d_T_lead_43 ?_
        refine lv_aload_n hx hb d_T_lead_46 rfl (lv_at hl 0 rfl) ?_
        refine x_getRp (v := .int (nI (S (3 * j + 44) 6))) cf hK hP hr0 6 (by decide) w_45 rfl d_T_lead_47 ?_
        refine x_iald (v := (S 36 (S (3 * j + 44) 6))) cf hK hP (ia36 X) (by have := (hC.rp j); omega) rfl d_T_lead_50 ?_
        refine lv_iconst (v := (-1)) hx hb d_T_lead_51 (by decide) ?_
        refine lv_ixor hx hb d_T_lead_52 ?_
        refine lv_iand hx hb d_T_lead_53 ?_
        rw [show ((nI (S (3 * j + 44) 5)) &&& ((nI (S 36 (S (3 * j + 44) 6))) ^^^ (-1))) = nI (cFresh S j) from mask_eq (S (3 * j + 44) 5) (S 36 (S (3 * j + 44) 6))]
        refine lv_istore_n (lv' := [(3, .int (nI (cFresh S j))), (2, .ref (X.2.2.2 (3 * j + 44))), (0, .ref (X.2.2.2 25)), (1, .int (nI j))]) hx hb d_T_lead_54 rfl hl (by decide) rfl (fun ls hl => ?_)
        refine lv_aload_n hx hb d_T_lead_55 rfl (lv_at hl 2 rfl) ?_
        refine x_getT (v := .ref (X.2.2.2 31)) cf hK hP 6 (by decide) w_183 rfl d_T_lead_56 ?_
        refine lv_aload_n hx hb d_T_lead_59 rfl (lv_at hl 1 rfl) ?_
        refine x_getRp (v := .int (nI (S (3 * j + 44) 6))) cf hK hP hr0 6 (by decide) w_45 rfl d_T_lead_60 ?_
        refine lv_aload_n hx hb d_T_lead_63 rfl (lv_at hl 1 rfl) ?_
        refine x_getRp (v := .int (nI (S (3 * j + 44) 0))) cf hK hP hr0 0 (by decide) w_36 rfl d_T_lead_64 ?_
        refine lv_iload_n hx hb d_T_lead_67 rfl (lv_at hl 0 rfl) ?_
        refine lv_iconst (v := nI 2) hx hb d_T_lead_68 (by decide) ?_
        refine x_callSi (As := [.int (nI (cFresh S j)), .int (nI 2)]) (rest := [.int (nI (S (3 * j + 44) 0)), .int (nI (S (3 * j + 44) 6)), .ref (X.2.2.2 31)]) cf hK hN hP hS (k_T_leastMembers l hX (by omega) (by omega)) (cw_T_leastMembers cf.2.2.2.2 w_25 ⟨Nat.le_of_ble_eq_true rfl, Nat.le_of_ble_eq_true rfl⟩) hl.1 rfl rfl (Nat.le_of_ble_eq_true rfl) ⟨Nat.zero_le _, Nat.zero_le _⟩ d_T_lead_69 (fun H locs hP hS => ?_)
        refine x_callVi (As := [.int (nI (S (3 * j + 44) 6)), .int (nI (S (3 * j + 44) 0)), .int (nI (cLeast (cFresh S j) 2))]) (rest := []) cf hK hN hP hS (k_Bl_add l hX hC (by omega) (by have := (hC.rp j); omega)) (cw_Bl_add cf.2.2.2.2 w_258 ⟨Nat.le_of_ble_eq_true rfl, Nat.le_of_ble_eq_true rfl⟩) (rv_Bl hK hP) hl.1 rfl rfl (Nat.le_of_ble_eq_true rfl) ⟨Nat.zero_le _, Nat.zero_le _⟩ d_T_lead_72 (fun H locs hP hS => ?_)
        refine lv_istore (lv' := [(4, .int (nI (S 31 0))), (3, .int (nI (cFresh S j))), (2, .ref (X.2.2.2 (3 * j + 44))), (0, .ref (X.2.2.2 25)), (1, .int (nI j))]) hx hb d_T_lead_75 hl (by decide) rfl (fun ls hl => ?_)
        refine lv_aload_n hx hb d_T_lead_77 rfl (lv_at hl 2 rfl) ?_
        refine lv_aload_n hx hb d_T_lead_78 rfl (lv_at hl 2 rfl) ?_
        refine x_getRp (v := .int (nI ((cAdd S (S (3 * j + 44) 6) (S (3 * j + 44) 0) (cLeast (cFresh S j) 2)) (3 * j + 44) 0))) cf hK hP hr0 0 (by decide) w_36 rfl d_T_lead_79 ?_
        refine x_putRp cf hK hD hP hS hr0 4 (by decide) w_42 rfl (by decide +kernel) 4 rfl d_T_lead_82 (fun H locs hP hS => ?_)
        obtain ⟨T1, hT1⟩ : ∃ z, z = (up2 (cAdd S (S (3 * j + 44) 6) (S (3 * j + 44) 0) (cLeast (cFresh S j) 2)) (3 * j + 44) 4 ((cAdd S (S (3 * j + 44) 6) (S (3 * j + 44) 0) (cLeast (cFresh S j) 2)) (3 * j + 44) 0)) := ⟨_, rfl⟩
        rw [← hT1] at hP
        have hT1e : T1 = cLead1 S j := by rw [hT1]; unfold cLead1; rfl
        have hC1 : CI (V + 1) X T1 := by rw [hT1e]; exact hC.lead1 hV1 (by omega)
        refine lv_iconst (v := nI 0) hx hb d_T_lead_85 (by decide) ?_
        refine lv_istore (lv' := [(5, .int (nI 0)), (4, .int (nI (S 31 0))), (3, .int (nI (cFresh S j))), (2, .ref (X.2.2.2 (3 * j + 44))), (0, .ref (X.2.2.2 25)), (1, .int (nI j))]) hx hb d_T_lead_86 hl (by decide) rfl (fun ls hl => ?_)
        have lp88 : ∀ (dm : Nat) (q : Nat) (Z : Nat → Nat → Nat) (ls : Array Slot) (H : Heap) (locs : List Loc), lv_has ls 6 [(0, .ref (X.2.2.2 25)), (1, .int (nI j)), (4, .int (nI (S 31 0))), (5, .int (nI q))] → PW X Z H → va_S (xA X) s.heap H locs → (q ≤ X.2.2.1) → (CI (V + 1) X Z) → (Z = itr (fun q Z => cSend Z 0 q 0 (S 31 0) 0) 0 (cLead1 S j) q) → (X.2.2.1 - q = dm) → W p l e (rmd 3) s m args below meth c H locs 0 0 (MQ below (QcI X (qLead S X.2.2.1 (nI j)) (pLead S X.2.2.1 (nI j))) args s 0 0 (xA X)) (F0 m 88 ls []) := by
          intro dm
          induction dm using Nat.strongRecOn with | ind dm lp88 => ?_
          intro q Z ls H locs hl hP hS hq hCZ hz hdm
          have hnZ := hCZ.n
          refine lv_iload hx hb d_T_lead_88 (lv_at hl 3 rfl) ?_
          refine lv_aload_n hx hb d_T_lead_90 rfl (lv_at hl 0 rfl) ?_
          refine x_getT (v := .int (nI (Z 25 0))) cf hK hP 0 (by decide) w_177 rfl d_T_lead_91 ?_
          refine n_icmp_ge (tgt := 117) hx hb d_T_lead_94 (by decide) (by omega) (by omega) (fun h4 => ?_) (fun h4 => ?_)
          · skip
            refine lv_iload hx hb d_T_lead_117 (lv_at hl 2 rfl) ?_
            exact x_iret cf hr hlk hP hS (by unfold qLead; rw [hok]; rfl) (by unfold pLead; rw [hok, hjc, hz, show q = X.2.2.1 by omega]; rfl) d_T_lead_119
          · skip
            refine lv_aload_n hx hb d_T_lead_97 rfl (lv_at hl 0 rfl) ?_
            refine x_getT (v := .ref (X.2.2.2 38)) cf hK hP 7 (by decide) w_184 rfl d_T_lead_98 ?_
            refine lv_iconst (v := nI 0) hx hb d_T_lead_101 (by decide) ?_
            refine lv_iload hx hb d_T_lead_102 (lv_at hl 3 rfl) ?_
            refine lv_iconst (v := nI 0) hx hb d_T_lead_104 (by decide) ?_
            refine lv_iload hx hb d_T_lead_105 (lv_at hl 2 rfl) ?_
            refine lv_iconst (v := nI 0) hx hb d_T_lead_107 (by decide) ?_
            refine x_callVv (As := [.int (nI 0), .int (nI q), .int (nI 0), .int (nI (S 31 0)), .int (nI 0)]) (rest := []) cf hK hN hP hS (k_Ro_send l hX hCZ 0 q 0 (S 31 0) 0) (cw_Ro_send cf.2.2.2.2 w_262 ⟨Nat.le_of_ble_eq_true rfl, Nat.le_of_ble_eq_true rfl⟩) (rv_Ro hK hP) hl.1 rfl rfl (Nat.le_of_ble_eq_true rfl) ⟨Nat.zero_le _, Nat.zero_le _⟩ d_T_lead_108 (fun H locs hP hS => ?_)
            refine n_iinc1 (lv' := [(5, .int (nI (q + 1))), (0, .ref (X.2.2.2 25)), (1, .int (nI j)), (4, .int (nI (S 31 0)))]) (k := 3) hx hb d_T_lead_111 hl rfl (by decide) rfl (fun ls hl => ?_)
            refine lv_goto (tgt := 88) hx hb d_T_lead_114 (by decide) ?_
            exact lp88 _ (by omega) (q + 1) (cSend Z 0 q 0 (S 31 0) 0) ls H locs (lv_sub hl [1, 2, 3, 0] rfl) hP hS (by omega) (hCZ.send (by decide) (by omega) (by omega) (by omega) (by decide)) (by rw [itr_z, ← hz]) rfl
        exact lp88 _ 0 T1 ls H locs (lv_sub hl [4, 5, 1, 0] rfl) hP hS (by omega) (hC1) (hT1e) rfl
      · skip
        have hno : qLeadOk S X.2.2.1 (nI j) = false := by unfold qLeadOk; rw [decide_eq_false (p := ¬ 40 ≤ S 31 0) (fun q => q (of_decide_eq_true (tnat_1 h3))), Bool.and_false]
        refine lv_iconst (v := (-1)) hx hb d_T_lead_26 (by decide) ?_
        exact x_iret cf hr hlk hP hS (by unfold qLead; rw [hno]; rfl) (by unfold pLead; rw [hno]; rfl) d_T_lead_27
