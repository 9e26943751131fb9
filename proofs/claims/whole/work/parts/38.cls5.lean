theorem cCorrect_ex {V : Nat} {X : WX} {S : Nat → Nat → Nat} (hC : CI V X S) {r : Int32} (h : cCorrect S r = true) : ∃ j, j < X.2.2.1 ∧ r = nI j ∧ r.toNatClampNeg = j ∧ r.toInt = (j : Int) ∧ ¬ S 25 3 / 2 ^ j % 2 = 1 := by
  have hn := hC.n
  have hnn := hC.nn
  simp only [cCorrect, Bool.and_eq_true] at h
  obtain ⟨j, hj, rfl, hjc⟩ := cRepl_nI (by omega) h.1
  have h2 := of_decide_eq_true h.2
  rw [hjc] at h2
  exact ⟨j, by omega, rfl, hjc, nI_toInt (by omega), h2⟩
theorem cCorrupt_ex {V : Nat} {X : WX} {S : Nat → Nat → Nat} (hC : CI V X S) {r : Int32} (h : cCorrupt S r = true) : ∃ j, j < X.2.2.1 ∧ r = nI j ∧ r.toNatClampNeg = j ∧ r.toInt = (j : Int) ∧ S 25 3 / 2 ^ j % 2 = 1 := by
  have hn := hC.n
  have hnn := hC.nn
  simp only [cCorrupt, Bool.and_eq_true] at h
  obtain ⟨j, hj, rfl, hjc⟩ := cRepl_nI (by omega) h.1
  have h2 := of_decide_eq_true h.2
  rw [hjc] at h2
  exact ⟨j, by omega, rfl, hjc, nI_toInt (by omega), h2⟩
theorem cPlace_nI {S : Nat → Nat → Nat} {i : Int32} (h : cPlace S i = true) : ∃ j, j < S 38 0 ∧ i = nI j ∧ i.toNatClampNeg = j ∧ i.toInt = (j : Int) := by
  have h := of_decide_eq_true h
  obtain ⟨j, hj, rfl, hjt, hjc⟩ := i_nat (x := i) h.1
  exact ⟨j, by omega, rfl, hjc, hjt⟩
theorem cTrHas_nI {S : Nat → Nat → Nat} {i : Int32} (h : cTrHas S i = true) : ∃ j, j < S 27 0 ∧ i = nI j ∧ i.toNatClampNeg = j ∧ i.toInt = (j : Int) := by
  have h := of_decide_eq_true h
  obtain ⟨j, hj, rfl, hjt, hjc⟩ := i_nat (x := i) h.1
  exact ⟨j, by omega, rfl, hjc, hjt⟩
theorem cMaySend_ex {V : Nat} {X : WX} {S : Nat → Nat → Nat} (hC : CI V X S) {b r : Int32} (h : cMaySend S b r = true) : (∃ j, j < S 31 0 ∧ b = nI j ∧ b.toNatClampNeg = j ∧ b.toInt = (j : Int)) ∧ ∃ j, j < X.2.2.1 ∧ r = nI j ∧ r.toNatClampNeg = j := by
  have hn := hC.n
  have hnn := hC.nn
  simp only [cMaySend, Bool.and_eq_true] at h
  obtain ⟨j, hj, e1, e2, e3⟩ := cHas_nI h.1.1.2
  obtain ⟨k, hk, e4, e5⟩ := cRepl_nI (by omega) h.1.2
  exact ⟨⟨j, hj, e1, e2, e3⟩, k, by omega, e4, e5⟩
theorem cHasCert_ex {S : Nat → Nat → Nat} {b : Int32} (h : cHasCert S b = true) : ∃ j, j < S 31 0 ∧ b = nI j ∧ b.toNatClampNeg = j ∧ b.toInt = (j : Int) := by
  simp only [cHasCert, Bool.and_eq_true] at h
  exact cHas_nI h.1
theorem ushr_iff {x : Int32} {k : Nat} (hk : k ≤ 30) : ((x).toUInt32 >>> ((nI k).toUInt32 &&& Int32.toUInt32 31)).toInt32 = 0 ↔ 0 ≤ x.toInt ∧ x.toInt < ((2 ^ k : Nat) : Int) := by
  rw [← mask_iff hk]
  obtain ⟨a, ha, rfl⟩ := i_of32 x
  rw [nI_ushr ha (by omega), mask_eq]
  have hlt : a &&& ((1 * 2 ^ k - 1) ^^^ 4294967295) < 2 ^ 32 := Nat.lt_of_le_of_lt Nat.and_le_left ha
  have hpos : 0 < 2 ^ k := Nat.two_pow_pos k
  constructor
  · intro h
    have h1 : a / 2 ^ k = 0 := nI_z (Nat.lt_of_le_of_lt (Nat.div_le_self _ _) ha) h
    have h2 : a < 2 ^ k := (Nat.div_eq_zero_iff_lt hpos).mp h1
    rw [(mask_bits (by omega) ha).mpr h2]
    rfl
  · intro h
    have h2 := (mask_bits (by omega) ha).mp (nI_z hlt h)
    rw [Nat.div_eq_of_lt h2]
    rfl
def qMessage (S : Nat → Nat → Nat) (i : Int32) : Int32 := if cPlace S i = true then nI (S 39 i.toNatClampNeg) else -1
def qBlock (S : Nat → Nat → Nat) (b : Int32) : Int32 := if cHas S b = true then nI (64 * S 32 b.toNatClampNeg + S 33 b.toNatClampNeg) else -1
def qPayload (S : Nat → Nat → Nat) (b : Int32) : Int32 := if cHas S b = true then nI (S 34 b.toNatClampNeg) else -1
def qVotes (S : Nat → Nat → Nat) (b : Int32) : Int32 := if cHas S b = true then nI (S 35 b.toNatClampNeg) else -1
def pDrop (S : Nat → Nat → Nat) (i : Int32) : Nat → Nat → Nat := if cPlace S i = true then cRem S i.toNatClampNeg else S
def qDeliver (S : Nat → Nat → Nat) (i : Int32) : Int32 := if cPlace S i = true then nI (cCorrect S (nI (S 39 i.toNatClampNeg / 4 % 8))).toNat else -1
def pDeliver (S : Nat → Nat → Nat) (n : Nat) (i : Int32) : Nat → Nat → Nat := if cPlace S i = true then cHand S n i.toNatClampNeg else S
def cFl (S : Nat → Nat → Nat) (n : Nat) : Nat → (Nat → Nat → Nat)
  | 0 => S
  | k + 1 => if 0 < cFl S n k 38 0 then cHand (cFl S n k) n 0 else cFl S n k
def cFlN (S : Nat → Nat → Nat) (n : Nat) : Nat → Nat
  | 0 => 0
  | k + 1 => if 0 < cFl S n k 38 0 then cFlN S n k + 1 else cFlN S n k
theorem cFl_stop {S : Nat → Nat → Nat} {n a : Nat} (h : ¬ 0 < cFl S n a 38 0) : ∀ k, cFl S n (a + k) = cFl S n a ∧ cFlN S n (a + k) = cFlN S n a
  | 0 => ⟨rfl, rfl⟩
  | k + 1 => by
    obtain ⟨h1, h2⟩ := cFl_stop h k
    refine ⟨?_, ?_⟩
    · show (if 0 < cFl S n (a + k) 38 0 then _ else cFl S n (a + k)) = _
      rw [h1, if_neg h]
    · show (if 0 < cFl S n (a + k) 38 0 then _ else cFlN S n (a + k)) = _
      rw [h1, if_neg h, h2]
def qFlow (S : Nat → Nat → Nat) (n : Nat) (m : Int32) : Int32 := if 0 ≤ m.toInt ∧ m.toInt ≤ 40 then nI (cFlN S n m.toNatClampNeg) else -1
def pFlow (S : Nat → Nat → Nat) (n : Nat) (m : Int32) : Nat → Nat → Nat := if 0 ≤ m.toInt ∧ m.toInt ≤ 40 then cFl S n m.toNatClampNeg else S
def qOffer (S : Nat → Nat → Nat) (b r : Int32) : Bool := decide (¬ S 25 3 = 0) && cMaySend S b r
def pOffer (S : Nat → Nat → Nat) (b r : Int32) : Nat → Nat → Nat := if qOffer S b r = true then cSend S 0 r.toNatClampNeg 0 b.toNatClampNeg 0 else S
def qVote (S : Nat → Nat → Nat) (x b r : Int32) : Bool := cCorrupt S x && cMaySend S b r
def pVote (S : Nat → Nat → Nat) (x b r : Int32) : Nat → Nat → Nat := if qVote S x b r = true then cSend S 1 r.toNatClampNeg x.toNatClampNeg b.toNatClampNeg 0 else S
def qClaim (S : Nat → Nat → Nat) (x v b r : Int32) : Bool := cCorrupt S x && decide (1 ≤ v.toInt) && cHasCert S b && cRepl S r && decide (¬ 40 ≤ S 38 0)
def pClaim (S : Nat → Nat → Nat) (x v b r : Int32) : Nat → Nat → Nat := if qClaim S x v b r = true then cSend S 2 r.toNatClampNeg x.toNatClampNeg b.toNatClampNeg v.toNatClampNeg else S
def qForgeOk (S : Nat → Nat → Nat) (p v set : Int32) : Bool := cHasCert S p && decide ((S 32 p.toNatClampNeg : Int) < v.toInt) && decide (v.toInt ≤ 9999) && decide (0 ≤ set.toInt ∧ set.toInt < ((2 ^ S 27 0 : Nat) : Int)) && cCorrupt S (nI (cLeader S v.toNatClampNeg)) && decide (¬ 40 ≤ S 31 0)
def qForge (S : Nat → Nat → Nat) (p v set : Int32) : Int32 := if qForgeOk S p v set = true then nI (S 31 0) else -1
def pForge (S : Nat → Nat → Nat) (p v set : Int32) : Nat → Nat → Nat := if qForgeOk S p v set = true then cAdd S p.toNatClampNeg v.toNatClampNeg set.toNatClampNeg else S
def qState (S : Nat → Nat → Nat) (n : Nat) (r w : Int32) : Int32 := if cCorrect S r = true then (if w = nI 0 then nI (S (3 * r.toNatClampNeg + 44) 0) else if w = nI 1 then nI (S (3 * r.toNatClampNeg + 44) 1) else if w = nI 2 then nI (S (3 * r.toNatClampNeg + 44) 2) else if w = nI 3 then nI (S (3 * r.toNatClampNeg + 44) 3) else if w = nI 4 then nI (S (3 * r.toNatClampNeg + 44) 4) else if w = nI 5 then nI (S (3 * r.toNatClampNeg + 44) 6) else if w = nI 6 then nI (S (3 * r.toNatClampNeg + 44) 7) else if w = nI 7 then nI (S (3 * r.toNatClampNeg + 44) 8) else if w = nI 8 then nI (cPush S n r.toNatClampNeg (S 25 1)) else -1) else -1
def qCommitted (S : Nat → Nat → Nat) (r i : Int32) : Int32 := if cCorrect S r = true ∧ 0 ≤ i.toInt then cAtF S (S (3 * r.toNatClampNeg + 44) 8) i (S (3 * r.toNatClampNeg + 44) 8 + 1) 0 0 else -1
def qBalance (S : Nat → Nat → Nat) (r a : Int32) : Int32 := if cCorrect S r = true ∧ 0 ≤ a.toInt ∧ a.toInt < 4 then nI (cReplay S (S (3 * r.toNatClampNeg + 44) 8) 42 a.toNatClampNeg) else -1
def pBalance (S : Nat → Nat → Nat) (r a : Int32) : Nat → Nat → Nat := if cCorrect S r = true ∧ 0 ≤ a.toInt ∧ a.toInt < 4 then cReplay S (S (3 * r.toNatClampNeg + 44) 8) else S
def qOutcome (S : Nat → Nat → Nat) (r t : Int32) : Int32 := if cCorrect S r = true ∧ cTrHas S t = true then nI (cReplay S (S (3 * r.toNatClampNeg + 44) 8) 43 t.toNatClampNeg) else -1
def pOutcome (S : Nat → Nat → Nat) (r t : Int32) : Nat → Nat → Nat := if cCorrect S r = true ∧ cTrHas S t = true then cReplay S (S (3 * r.toNatClampNeg + 44) 8) else S
set_option maxRecDepth 100000 in
set_option maxHeartbeats 4000000 in
theorem k_T_waiting (l : Launch) {X : WX} (hX : xInj X) {S : Nat → Nat → Nat} {V : Nat} (hC : CI V X S) : MetI l X y_T_waiting (Cond.code y_T_waiting c_T_waiting 1 (some .int) :: Mst) 0 [.ref (X.2.2.2 25)] S (nI (S 38 0)) S := by
  refine MetI.of (by decide) (Nat.le_of_ble_eq_true rfl) ?_
  intro p e s m args below meth c cf hr hlk hP hK hN ls hl
  have hl : lv_has ls 1 [(0, .ref (X.2.2.2 25))] := hl
  have hx := cf.1
  have hb := cf.2.1
  have hD := xD_of hX
  have hS : va_S (xA X) s.heap s.heap [] := va_S.rf
  have hnn := hC.nn
  have hV := hC.V
  have hcn := hC.n
  have htr := hC.tr
  have hblc := hC.bl
  have hro := hC.ro
  obtain ⟨H, hH⟩ : ∃ H, H = s.heap := ⟨_, rfl⟩
  obtain ⟨locs, hlo⟩ : ∃ z : List Loc, z = [] := ⟨_, rfl⟩
  suffices hgo : PW X S H → va_S (xA X) s.heap H locs → W p l e (rmd 0) s m args below meth c H locs 0 0 (MQ below (QcI X (nI (S 38 0)) S) args s 0 0 (xA X)) (F0 m 0 ls []) by
    subst hH
    subst hlo
    exact hgo hP hS
  clear hP hS
  intro hP hS
  refine lv_aload_n hx hb d_T_waiting_0 rfl (lv_at hl 0 rfl) ?_
  refine x_getT (v := .ref (X.2.2.2 38)) cf hK hP 7 (by decide) w_184 rfl d_T_waiting_1 ?_
  refine x_getRo (v := .int (nI (S 38 0))) cf hK hP 2 (by decide) w_150 rfl d_T_waiting_4 ?_
  exact x_iret cf hr hlk hP hS (rfl) (rfl) d_T_waiting_7
set_option maxRecDepth 100000 in
set_option maxHeartbeats 4000000 in
theorem k_T_lost (l : Launch) {X : WX} (hX : xInj X) {S : Nat → Nat → Nat} {V : Nat} (hC : CI V X S) : MetI l X y_T_lost (Cond.code y_T_lost c_T_lost 1 (some .int) :: Mst) 0 [.ref (X.2.2.2 25)] S (nI (S 38 1)) S := by
  refine MetI.of (by decide) (Nat.le_of_ble_eq_true rfl) ?_
  intro p e s m args below meth c cf hr hlk hP hK hN ls hl
  have hl : lv_has ls 1 [(0, .ref (X.2.2.2 25))] := hl
  have hx := cf.1
  have hb := cf.2.1
  have hD := xD_of hX
  have hS : va_S (xA X) s.heap s.heap [] := va_S.rf
  have hnn := hC.nn
  have hV := hC.V
  have hcn := hC.n
  have htr := hC.tr
  have hblc := hC.bl
  have hro := hC.ro
  obtain ⟨H, hH⟩ : ∃ H, H = s.heap := ⟨_, rfl⟩
  obtain ⟨locs, hlo⟩ : ∃ z : List Loc, z = [] := ⟨_, rfl⟩
  suffices hgo : PW X S H → va_S (xA X) s.heap H locs → W p l e (rmd 0) s m args below meth c H locs 0 0 (MQ below (QcI X (nI (S 38 1)) S) args s 0 0 (xA X)) (F0 m 0 ls []) by
    subst hH
    subst hlo
    exact hgo hP hS
  clear hP hS
  intro hP hS
  refine lv_aload_n hx hb d_T_lost_0 rfl (lv_at hl 0 rfl) ?_
  refine x_getT (v := .ref (X.2.2.2 38)) cf hK hP 7 (by decide) w_184 rfl d_T_lost_1 ?_
  refine x_getRo (v := .int (nI (S 38 1))) cf hK hP 3 (by decide) w_152 rfl d_T_lost_4 ?_
  exact x_iret cf hr hlk hP hS (rfl) (rfl) d_T_lost_7
set_option maxRecDepth 100000 in
set_option maxHeartbeats 4000000 in
theorem k_T_message (l : Launch) {X : WX} (hX : xInj X) {S : Nat → Nat → Nat} {V : Nat} (hC : CI V X S) (i : Int32) : MetI l X y_T_message (Cond.code y_T_message c_T_message 2 (some .int) :: Mst) 1 [.ref (X.2.2.2 25), .int i] S (qMessage S i) S := by
  refine MetI.of (by decide) (Nat.le_of_ble_eq_true rfl) ?_
  intro p e s m args below meth c cf hr hlk hP hK hN ls hl
  have hl : lv_has ls 2 [(0, .ref (X.2.2.2 25)), (1, .int i)] := hl
  have hx := cf.1
  have hb := cf.2.1
  have hD := xD_of hX
  have hS : va_S (xA X) s.heap s.heap [] := va_S.rf
  have hnn := hC.nn
  have hV := hC.V
  have hcn := hC.n
  have htr := hC.tr
  have hblc := hC.bl
  have hro := hC.ro
  obtain ⟨H, hH⟩ : ∃ H, H = s.heap := ⟨_, rfl⟩
  obtain ⟨locs, hlo⟩ : ∃ z : List Loc, z = [] := ⟨_, rfl⟩
  suffices hgo : PW X S H → va_S (xA X) s.heap H locs → W p l e (rmd 1) s m args below meth c H locs 0 0 (MQ below (QcI X (qMessage S i) S) args s 0 0 (xA X)) (F0 m 0 ls []) by
    subst hH
    subst hlo
    exact hgo hP hS
  clear hP hS
  intro hP hS
  refine lv_aload_n hx hb d_T_message_0 rfl (lv_at hl 0 rfl) ?_
  refine x_getT (v := .ref (X.2.2.2 38)) cf hK hP 7 (by decide) w_184 rfl d_T_message_1 ?_
  refine lv_iload_n hx hb d_T_message_4 rfl (lv_at hl 1 rfl) ?_
  refine x_callVi (As := [.int i]) (rest := []) cf hK hN hP hS (k_Ro_hasPlace l hX hC i) (cw_Ro_hasPlace cf.2.2.2.2 w_282 ⟨Nat.le_of_ble_eq_true rfl, Nat.le_of_ble_eq_true rfl⟩) (rv_Ro hK hP) hl.1 rfl rfl (Nat.le_of_ble_eq_true rfl) ⟨Nat.zero_le _, Nat.zero_le _⟩ d_T_message_5 (fun H locs hP hS => ?_)
  refine n_if_eq (tgt := 23) hx hb d_T_message_8 (by decide) (tnat_lt _) (fun h1 => ?_) (fun h1 => ?_)
  · skip
    refine lv_iconst (v := (-1)) hx hb d_T_message_23 (by decide) ?_
    exact x_iret cf hr hlk hP hS (by unfold qMessage; rw [tnat_0 h1]; rfl) (rfl) d_T_message_24
  · skip
    have hpl := tnat_1 h1
    obtain ⟨j, hj, rfl, hjc, hjt⟩ := cPlace_nI hpl
    refine lv_aload_n hx hb d_T_message_11 rfl (lv_at hl 0 rfl) ?_
    refine x_getT (v := .ref (X.2.2.2 38)) cf hK hP 7 (by decide) w_184 rfl d_T_message_12 ?_
    refine x_getRo (v := .ref (X.2.2.2 39)) cf hK hP 0 (by decide) w_146 rfl d_T_message_15 ?_
    refine lv_iload_n hx hb d_T_message_18 rfl (lv_at hl 1 rfl) ?_
    refine x_iald (v := (S 39 j)) cf hK hP (ia39 X) (by omega) rfl d_T_message_19 ?_
    refine lv_goto (tgt := 24) hx hb d_T_message_20 (by decide) ?_
    exact x_iret cf hr hlk hP hS (by unfold qMessage; rw [hpl, hjc]; rfl) (rfl) d_T_message_24
set_option maxRecDepth 100000 in
set_option maxHeartbeats 4000000 in
theorem k_T_block (l : Launch) {X : WX} (hX : xInj X) {S : Nat → Nat → Nat} {V : Nat} (hC : CI V X S) (b : Int32) : MetI l X y_T_block (Cond.code y_T_block c_T_block 2 (some .int) :: Mst) 1 [.ref (X.2.2.2 25), .int b] S (qBlock S b) S := by
  refine MetI.of (by decide) (Nat.le_of_ble_eq_true rfl) ?_
  intro p e s m args below meth c cf hr hlk hP hK hN ls hl
  have hl : lv_has ls 2 [(0, .ref (X.2.2.2 25)), (1, .int b)] := hl
  have hx := cf.1
  have hb := cf.2.1
  have hD := xD_of hX
  have hS : va_S (xA X) s.heap s.heap [] := va_S.rf
  have hnn := hC.nn
  have hV := hC.V
  have hcn := hC.n
  have htr := hC.tr
  have hblc := hC.bl
  have hro := hC.ro
  obtain ⟨H, hH⟩ : ∃ H, H = s.heap := ⟨_, rfl⟩
  obtain ⟨locs, hlo⟩ : ∃ z : List Loc, z = [] := ⟨_, rfl⟩
  suffices hgo : PW X S H → va_S (xA X) s.heap H locs → W p l e (rmd 1) s m args below meth c H locs 0 0 (MQ below (QcI X (qBlock S b) S) args s 0 0 (xA X)) (F0 m 0 ls []) by
    subst hH
    subst hlo
    exact hgo hP hS
  clear hP hS
  intro hP hS
  refine lv_aload_n hx hb d_T_block_0 rfl (lv_at hl 0 rfl) ?_
  refine x_getT (v := .ref (X.2.2.2 31)) cf hK hP 6 (by decide) w_183 rfl d_T_block_1 ?_
  refine lv_iload_n hx hb d_T_block_4 rfl (lv_at hl 1 rfl) ?_
  refine x_callVi (As := [.int b]) (rest := []) cf hK hN hP hS (k_Bl_has l hX hC b) (cw_Bl_has cf.2.2.2.2 w_364 ⟨Nat.le_of_ble_eq_true rfl, Nat.le_of_ble_eq_true rfl⟩) (rv_Bl hK hP) hl.1 rfl rfl (Nat.le_of_ble_eq_true rfl) ⟨Nat.zero_le _, Nat.zero_le _⟩ d_T_block_5 (fun H locs hP hS => ?_)
  refine n_if_eq (tgt := 36) hx hb d_T_block_8 (by decide) (tnat_lt _) (fun h1 => ?_) (fun h1 => ?_)
  · skip
    refine lv_iconst (v := (-1)) hx hb d_T_block_36 (by decide) ?_
    exact x_iret cf hr hlk hP hS (by unfold qBlock; rw [tnat_0 h1]; rfl) (rfl) d_T_block_37
  · skip
    have hha := tnat_1 h1
    obtain ⟨j, hj, rfl, hjc, hjt⟩ := cHas_nI hha
    refine lv_bipush (v := nI 64) hx hb d_T_block_11 (by decide) ?_
    refine lv_aload_n hx hb d_T_block_13 rfl (lv_at hl 0 rfl) ?_
    refine x_getT (v := .ref (X.2.2.2 31)) cf hK hP 6 (by decide) w_183 rfl d_T_block_14 ?_
    refine x_getBl (v := .ref (X.2.2.2 32)) cf hK hP 0 (by decide) w_110 rfl d_T_block_17 ?_
    refine lv_iload_n hx hb d_T_block_20 rfl (lv_at hl 1 rfl) ?_
    refine x_iald (v := (S 32 j)) cf hK hP (ia32 X) (by omega) rfl d_T_block_21 ?_
    refine n_imul hx hb d_T_block_22 ?_
    refine lv_aload_n hx hb d_T_block_23 rfl (lv_at hl 0 rfl) ?_
    refine x_getT (v := .ref (X.2.2.2 31)) cf hK hP 6 (by decide) w_183 rfl d_T_block_24 ?_
    refine x_getBl (v := .ref (X.2.2.2 33)) cf hK hP 1 (by decide) w_113 rfl d_T_block_27 ?_
    refine lv_iload_n hx hb d_T_block_30 rfl (lv_at hl 1 rfl) ?_
    refine x_iald (v := (S 33 j)) cf hK hP (ia33 X) (by omega) rfl d_T_block_31 ?_
    refine n_iadd hx hb d_T_block_32 ?_
    refine lv_goto (tgt := 37) hx hb d_T_block_33 (by decide) ?_
    exact x_iret cf hr hlk hP hS (by unfold qBlock; rw [hha, hjc]; rfl) (rfl) d_T_block_37
set_option maxRecDepth 100000 in
set_option maxHeartbeats 4000000 in
theorem k_T_payload (l : Launch) {X : WX} (hX : xInj X) {S : Nat → Nat → Nat} {V : Nat} (hC : CI V X S) (b : Int32) : MetI l X y_T_payload (Cond.code y_T_payload c_T_payload 2 (some .int) :: Mst) 1 [.ref (X.2.2.2 25), .int b] S (qPayload S b) S := by
  refine MetI.of (by decide) (Nat.le_of_ble_eq_true rfl) ?_
  intro p e s m args below meth c cf hr hlk hP hK hN ls hl
  have hl : lv_has ls 2 [(0, .ref (X.2.2.2 25)), (1, .int b)] := hl
  have hx := cf.1
  have hb := cf.2.1
  have hD := xD_of hX
  have hS : va_S (xA X) s.heap s.heap [] := va_S.rf
  have hnn := hC.nn
  have hV := hC.V
  have hcn := hC.n
  have htr := hC.tr
  have hblc := hC.bl
  have hro := hC.ro
  obtain ⟨H, hH⟩ : ∃ H, H = s.heap := ⟨_, rfl⟩
  obtain ⟨locs, hlo⟩ : ∃ z : List Loc, z = [] := ⟨_, rfl⟩
  suffices hgo : PW X S H → va_S (xA X) s.heap H locs → W p l e (rmd 1) s m args below meth c H locs 0 0 (MQ below (QcI X (qPayload S b) S) args s 0 0 (xA X)) (F0 m 0 ls []) by
    subst hH
    subst hlo
    exact hgo hP hS
  clear hP hS
  intro hP hS
  refine lv_aload_n hx hb d_T_payload_0 rfl (lv_at hl 0 rfl) ?_
  refine x_getT (v := .ref (X.2.2.2 31)) cf hK hP 6 (by decide) w_183 rfl d_T_payload_1 ?_
  refine lv_iload_n hx hb d_T_payload_4 rfl (lv_at hl 1 rfl) ?_
  refine x_callVi (As := [.int b]) (rest := []) cf hK hN hP hS (k_Bl_has l hX hC b) (cw_Bl_has cf.2.2.2.2 w_364 ⟨Nat.le_of_ble_eq_true rfl, Nat.le_of_ble_eq_true rfl⟩) (rv_Bl hK hP) hl.1 rfl rfl (Nat.le_of_ble_eq_true rfl) ⟨Nat.zero_le _, Nat.zero_le _⟩ d_T_payload_5 (fun H locs hP hS => ?_)
  refine n_if_eq (tgt := 23) hx hb d_T_payload_8 (by decide) (tnat_lt _) (fun h1 => ?_) (fun h1 => ?_)
  · skip
    refine lv_iconst (v := (-1)) hx hb d_T_payload_23 (by decide) ?_
    exact x_iret cf hr hlk hP hS (by unfold qPayload; rw [tnat_0 h1]; rfl) (rfl) d_T_payload_24
  · skip
    have hha := tnat_1 h1
    obtain ⟨j, hj, rfl, hjc, hjt⟩ := cHas_nI hha
    refine lv_aload_n hx hb d_T_payload_11 rfl (lv_at hl 0 rfl) ?_
    refine x_getT (v := .ref (X.2.2.2 31)) cf hK hP 6 (by decide) w_183 rfl d_T_payload_12 ?_
    refine x_getBl (v := .ref (X.2.2.2 34)) cf hK hP 2 (by decide) w_116 rfl d_T_payload_15 ?_
    refine lv_iload_n hx hb d_T_payload_18 rfl (lv_at hl 1 rfl) ?_
    refine x_iald (v := (S 34 j)) cf hK hP (ia34 X) (by omega) rfl d_T_payload_19 ?_
    refine lv_goto (tgt := 24) hx hb d_T_payload_20 (by decide) ?_
    exact x_iret cf hr hlk hP hS (by unfold qPayload; rw [hha, hjc]; rfl) (rfl) d_T_payload_24
set_option maxRecDepth 100000 in
set_option maxHeartbeats 4000000 in
theorem k_T_votes (l : Launch) {X : WX} (hX : xInj X) {S : Nat → Nat → Nat} {V : Nat} (hC : CI V X S) (b : Int32) : MetI l X y_T_votes (Cond.code y_T_votes c_T_votes 2 (some .int) :: Mst) 1 [.ref (X.2.2.2 25), .int b] S (qVotes S b) S := by
  refine MetI.of (by decide) (Nat.le_of_ble_eq_true rfl) ?_
  intro p e s m args below meth c cf hr hlk hP hK hN ls hl
  have hl : lv_has ls 2 [(0, .ref (X.2.2.2 25)), (1, .int b)] := hl
  have hx := cf.1
  have hb := cf.2.1
  have hD := xD_of hX
  have hS : va_S (xA X) s.heap s.heap [] := va_S.rf
  have hnn := hC.nn
  have hV := hC.V
  have hcn := hC.n
  have htr := hC.tr
  have hblc := hC.bl
  have hro := hC.ro
  obtain ⟨H, hH⟩ : ∃ H, H = s.heap := ⟨_, rfl⟩
  obtain ⟨locs, hlo⟩ : ∃ z : List Loc, z = [] := ⟨_, rfl⟩
  suffices hgo : PW X S H → va_S (xA X) s.heap H locs → W p l e (rmd 1) s m args below meth c H locs 0 0 (MQ below (QcI X (qVotes S b) S) args s 0 0 (xA X)) (F0 m 0 ls []) by
    subst hH
    subst hlo
    exact hgo hP hS
  clear hP hS
  intro hP hS
  refine lv_aload_n hx hb d_T_votes_0 rfl (lv_at hl 0 rfl) ?_
  refine x_getT (v := .ref (X.2.2.2 31)) cf hK hP 6 (by decide) w_183 rfl d_T_votes_1 ?_
  refine lv_iload_n hx hb d_T_votes_4 rfl (lv_at hl 1 rfl) ?_
  refine x_callVi (As := [.int b]) (rest := []) cf hK hN hP hS (k_Bl_has l hX hC b) (cw_Bl_has cf.2.2.2.2 w_364 ⟨Nat.le_of_ble_eq_true rfl, Nat.le_of_ble_eq_true rfl⟩) (rv_Bl hK hP) hl.1 rfl rfl (Nat.le_of_ble_eq_true rfl) ⟨Nat.zero_le _, Nat.zero_le _⟩ d_T_votes_5 (fun H locs hP hS => ?_)
  refine n_if_eq (tgt := 23) hx hb d_T_votes_8 (by decide) (tnat_lt _) (fun h1 => ?_) (fun h1 => ?_)
  · skip
    refine lv_iconst (v := (-1)) hx hb d_T_votes_23 (by decide) ?_
    exact x_iret cf hr hlk hP hS (by unfold qVotes; rw [tnat_0 h1]; rfl) (rfl) d_T_votes_24
  · skip
    have hha := tnat_1 h1
    obtain ⟨j, hj, rfl, hjc, hjt⟩ := cHas_nI hha
    refine lv_aload_n hx hb d_T_votes_11 rfl (lv_at hl 0 rfl) ?_
    refine x_getT (v := .ref (X.2.2.2 31)) cf hK hP 6 (by decide) w_183 rfl d_T_votes_12 ?_
    refine x_getBl (v := .ref (X.2.2.2 35)) cf hK hP 3 (by decide) w_118 rfl d_T_votes_15 ?_
    refine lv_iload_n hx hb d_T_votes_18 rfl (lv_at hl 1 rfl) ?_
    refine x_iald (v := (S 35 j)) cf hK hP (ia35 X) (by omega) rfl d_T_votes_19 ?_
    refine lv_goto (tgt := 24) hx hb d_T_votes_20 (by decide) ?_
    exact x_iret cf hr hlk hP hS (by unfold qVotes; rw [hha, hjc]; rfl) (rfl) d_T_votes_24
set_option maxRecDepth 100000 in
set_option maxHeartbeats 4000000 in
theorem k_T_drop (l : Launch) {X : WX} (hX : xInj X) {S : Nat → Nat → Nat} {V : Nat} (hC : CI V X S) (i : Int32) : MetI l X y_T_drop (Cond.code y_T_drop c_T_drop 2 (some .boolean) :: Mst) 2 [.ref (X.2.2.2 25), .int i] S (nI (cPlace S i).toNat) (pDrop S i) := by
  refine MetI.of (by decide) (Nat.le_of_ble_eq_true rfl) ?_
  intro p e s m args below meth c cf hr hlk hP hK hN ls hl
  have hl : lv_has ls 2 [(0, .ref (X.2.2.2 25)), (1, .int i)] := hl
  have hx := cf.1
  have hb := cf.2.1
  have hD := xD_of hX
  have hS : va_S (xA X) s.heap s.heap [] := va_S.rf
  have hnn := hC.nn
  have hV := hC.V
  have hcn := hC.n
  have htr := hC.tr
  have hblc := hC.bl
  have hro := hC.ro
  obtain ⟨H, hH⟩ : ∃ H, H = s.heap := ⟨_, rfl⟩
  obtain ⟨locs, hlo⟩ : ∃ z : List Loc, z = [] := ⟨_, rfl⟩
  suffices hgo : PW X S H → va_S (xA X) s.heap H locs → W p l e (rmd 2) s m args below meth c H locs 0 0 (MQ below (QcI X (nI (cPlace S i).toNat) (pDrop S i)) args s 0 0 (xA X)) (F0 m 0 ls []) by
    subst hH
    subst hlo
    exact hgo hP hS
  clear hP hS
  intro hP hS
  refine lv_aload_n hx hb d_T_drop_0 rfl (lv_at hl 0 rfl) ?_
  refine x_getT (v := .ref (X.2.2.2 38)) cf hK hP 7 (by decide) w_184 rfl d_T_drop_1 ?_
  refine lv_iload_n hx hb d_T_drop_4 rfl (lv_at hl 1 rfl) ?_
  refine x_callVi (As := [.int i]) (rest := []) cf hK hN hP hS (k_Ro_hasPlace l hX hC i) (cw_Ro_hasPlace cf.2.2.2.2 w_282 ⟨Nat.le_of_ble_eq_true rfl, Nat.le_of_ble_eq_true rfl⟩) (rv_Ro hK hP) hl.1 rfl rfl (Nat.le_of_ble_eq_true rfl) ⟨Nat.zero_le _, Nat.zero_le _⟩ d_T_drop_5 (fun H locs hP hS => ?_)
  refine n_if_ne (tgt := 13) hx hb d_T_drop_8 (by decide) (tnat_lt _) (fun h1 => ?_) (fun h1 => ?_)
  · skip
    have hpl := tnat_1 h1
    obtain ⟨j, hj, rfl, hjc, hjt⟩ := cPlace_nI hpl
    refine lv_aload_n hx hb d_T_drop_13 rfl (lv_at hl 0 rfl) ?_
    refine x_getT (v := .ref (X.2.2.2 38)) cf hK hP 7 (by decide) w_184 rfl d_T_drop_14 ?_
    refine lv_iload_n hx hb d_T_drop_17 rfl (lv_at hl 1 rfl) ?_
    refine x_callVv (As := [.int (nI j)]) (rest := []) cf hK hN hP hS (k_Ro_remove l hX hC (by omega)) (cw_Ro_remove cf.2.2.2.2 w_290 ⟨Nat.le_of_ble_eq_true rfl, Nat.le_of_ble_eq_true rfl⟩) (rv_Ro hK hP) hl.1 rfl rfl (Nat.le_of_ble_eq_true rfl) ⟨Nat.zero_le _, Nat.zero_le _⟩ d_T_drop_18 (fun H locs hP hS => ?_)
    refine lv_iconst (v := nI 1) hx hb d_T_drop_21 (by decide) ?_
    exact x_zret cf hr hlk hP hS (by rw [hpl]; rfl) (by unfold pDrop; rw [hpl, hjc]; rfl) d_T_drop_22
  · skip
    refine lv_iconst (v := nI 0) hx hb d_T_drop_11 (by decide) ?_
    exact x_zret cf hr hlk hP hS (by rw [tnat_0 h1]; rfl) (by unfold pDrop; rw [tnat_0 h1]; rfl) d_T_drop_12
set_option maxRecDepth 100000 in
set_option maxHeartbeats 4000000 in
theorem k_T_deliver (l : Launch) {X : WX} (hX : xInj X) {S : Nat → Nat → Nat} {V : Nat} (hC : CI V X S) (i : Int32) : MetI l X y_T_deliver (Cond.code y_T_deliver c_T_deliver 2 (some .int) :: Mst) 4 [.ref (X.2.2.2 25), .int i] S (qDeliver S i) (pDeliver S X.2.2.1 i) := by
  refine MetI.of (by decide) (Nat.le_of_ble_eq_true rfl) ?_
  intro p e s m args below meth c cf hr hlk hP hK hN ls hl
  have hl : lv_has ls 2 [(0, .ref (X.2.2.2 25)), (1, .int i)] := hl
  have hx := cf.1
  have hb := cf.2.1
  have hD := xD_of hX
  have hS : va_S (xA X) s.heap s.heap [] := va_S.rf
  have hnn := hC.nn
  have hV := hC.V
  have hcn := hC.n
  have htr := hC.tr
  have hblc := hC.bl
  have hro := hC.ro
  obtain ⟨H, hH⟩ : ∃ H, H = s.heap := ⟨_, rfl⟩
  obtain ⟨locs, hlo⟩ : ∃ z : List Loc, z = [] := ⟨_, rfl⟩
  suffices hgo : PW X S H → va_S (xA X) s.heap H locs → W p l e (rmd 4) s m args below meth c H locs 0 0 (MQ below (QcI X (qDeliver S i) (pDeliver S X.2.2.1 i)) args s 0 0 (xA X)) (F0 m 0 ls []) by
    subst hH
    subst hlo
    exact hgo hP hS
  clear hP hS
  intro hP hS
  refine lv_aload_n hx hb d_T_deliver_0 rfl (lv_at hl 0 rfl) ?_
  refine x_getT (v := .ref (X.2.2.2 38)) cf hK hP 7 (by decide) w_184 rfl d_T_deliver_1 ?_
  refine lv_iload_n hx hb d_T_deliver_4 rfl (lv_at hl 1 rfl) ?_
  refine x_callVi (As := [.int i]) (rest := []) cf hK hN hP hS (k_Ro_hasPlace l hX hC i) (cw_Ro_hasPlace cf.2.2.2.2 w_282 ⟨Nat.le_of_ble_eq_true rfl, Nat.le_of_ble_eq_true rfl⟩) (rv_Ro hK hP) hl.1 rfl rfl (Nat.le_of_ble_eq_true rfl) ⟨Nat.zero_le _, Nat.zero_le _⟩ d_T_deliver_5 (fun H locs hP hS => ?_)
  refine n_if_ne (tgt := 13) hx hb d_T_deliver_8 (by decide) (tnat_lt _) (fun h1 => ?_) (fun h1 => ?_)
  · skip
    have hpl := tnat_1 h1
    obtain ⟨j, hj, rfl, hjc, hjt⟩ := cPlace_nI hpl
    refine lv_aload_n hx hb d_T_deliver_13 rfl (lv_at hl 0 rfl) ?_
    refine lv_iload_n hx hb d_T_deliver_14 rfl (lv_at hl 1 rfl) ?_
    refine x_callVi (As := [.int (nI j)]) (rest := []) cf hK hN hP hS (k_T_handOver l hX hC (by omega)) (cw_T_handOver cf.2.2.2.2 w_286 ⟨Nat.le_of_ble_eq_true rfl, Nat.le_of_ble_eq_true rfl⟩) (rv_T hK hP) hl.1 rfl rfl (Nat.le_of_ble_eq_true rfl) ⟨Nat.zero_le _, Nat.zero_le _⟩ d_T_deliver_15 (fun H locs hP hS => ?_)
    refine n_if_eq (tgt := 25) hx hb d_T_deliver_18 (by decide) (tnat_lt _) (fun h2 => ?_) (fun h2 => ?_)
    · skip
      refine lv_iconst (v := nI 0) hx hb d_T_deliver_25 (by decide) ?_
      exact x_iret cf hr hlk hP hS (by unfold qDeliver; rw [hpl, hjc, tnat_0 h2]; rfl) (by unfold pDeliver; rw [hpl, hjc]; rfl) d_T_deliver_26
    · skip
      refine lv_iconst (v := nI 1) hx hb d_T_deliver_21 (by decide) ?_
      refine lv_goto (tgt := 26) hx hb d_T_deliver_22 (by decide) ?_
      exact x_iret cf hr hlk hP hS (by unfold qDeliver; rw [hpl, hjc, tnat_1 h2]; rfl) (by unfold pDeliver; rw [hpl, hjc]; rfl) d_T_deliver_26
  · skip
    refine lv_iconst (v := (-1)) hx hb d_T_deliver_11 (by decide) ?_
    exact x_iret cf hr hlk hP hS (by unfold qDeliver; rw [tnat_0 h1]; rfl) (by unfold pDeliver; rw [tnat_0 h1]; rfl) d_T_deliver_12
set_option maxRecDepth 100000 in
set_option maxHeartbeats 4000000 in
theorem k_T_flow (l : Launch) {X : WX} (hX : xInj X) {S : Nat → Nat → Nat} {V : Nat} (hC : CI V X S) (hF : ∀ k, k ≤ 40 → CI V X (cFl S X.2.2.1 k)) (mm : Int32) : MetI l X y_T_flow (Cond.code y_T_flow c_T_flow 3 (some .int) :: Mst) 4 [.ref (X.2.2.2 25), .int mm] S (qFlow S X.2.2.1 mm) (pFlow S X.2.2.1 mm) := by
  refine MetI.of (by decide) (Nat.le_of_ble_eq_true rfl) ?_
  intro p e s m args below meth c cf hr hlk hP hK hN ls hl
  have hl : lv_has ls 3 [(0, .ref (X.2.2.2 25)), (1, .int mm)] := hl
  have hx := cf.1
  have hb := cf.2.1
  have hD := xD_of hX
  have hS : va_S (xA X) s.heap s.heap [] := va_S.rf
  have hnn := hC.nn
  have hV := hC.V
  have hcn := hC.n
  have htr := hC.tr
  have hblc := hC.bl
  have hro := hC.ro
  obtain ⟨H, hH⟩ : ∃ H, H = s.heap := ⟨_, rfl⟩
  obtain ⟨locs, hlo⟩ : ∃ z : List Loc, z = [] := ⟨_, rfl⟩
  suffices hgo : PW X S H → va_S (xA X) s.heap H locs → W p l e (rmd 4) s m args below meth c H locs 0 0 (MQ below (QcI X (qFlow S X.2.2.1 mm) (pFlow S X.2.2.1 mm)) args s 0 0 (xA X)) (F0 m 0 ls []) by
    subst hH
    subst hlo
    exact hgo hP hS
  clear hP hS
  intro hP hS
  refine lv_iload_n hx hb d_T_flow_0 rfl (lv_at hl 1 rfl) ?_
  refine lv_if_lt (tgt := 10) hx hb d_T_flow_1 (by decide) (fun h1 => ?_) (fun h1 => ?_)
  · skip
    have uh1 := i_lt0 h1
    refine lv_iconst (v := (-1)) hx hb d_T_flow_10 (by decide) ?_
    exact x_iret cf hr hlk hP hS (by unfold qFlow; rw [if_neg (by omega)]) (by unfold pFlow; rw [if_neg (by omega)]) d_T_flow_11
  · skip
    have uh1 := i_nlt0 h1
    refine lv_iload_n hx hb d_T_flow_4 rfl (lv_at hl 1 rfl) ?_
    refine lv_bipush (v := nI 40) hx hb d_T_flow_5 (by decide) ?_
    refine lv_icmp_le (tgt := 12) hx hb d_T_flow_7 (by decide) (fun h2 => ?_) (fun h2 => ?_)
    · skip
      have uh2 := i_leN (by decide) h2
      obtain ⟨k, hk31, rfl, hkt, hkc⟩ := i_nat uh1
      have hk40 : k ≤ 40 := by omega
      refine lv_iconst (v := nI 0) hx hb d_T_flow_12 (by decide) ?_
      refine lv_istore_n (lv' := [(2, .int (nI 0)), (0, .ref (X.2.2.2 25)), (1, .int (nI k))]) hx hb d_T_flow_13 rfl hl (by decide) rfl (fun ls hl => ?_)
      have lp14 : ∀ (dm : Nat) (dn : Nat) (T : Nat → Nat → Nat) (ls : Array Slot) (H : Heap) (locs : List Loc), lv_has ls 3 [(0, .ref (X.2.2.2 25)), (1, .int (nI k)), (2, .int (nI dn))] → PW X T H → va_S (xA X) s.heap H locs → (dn ≤ k) → (T = cFl S X.2.2.1 dn) → (cFlN S X.2.2.1 dn = dn) → (k - dn = dm) → W p l e (rmd 4) s m args below meth c H locs 0 0 (MQ below (QcI X (qFlow S X.2.2.1 (nI k)) (pFlow S X.2.2.1 (nI k))) args s 0 0 (xA X)) (F0 m 14 ls []) := by
        intro dm
        induction dm using Nat.strongRecOn with | ind dm lp14 => ?_
        intro dn T ls H locs hl hP hS hdn hT hNn hdm
        have hCT : CI V X T := by rw [hT]; exact hF dn (by omega)
        refine lv_iload_n hx hb d_T_flow_14 rfl (lv_at hl 2 rfl) ?_
        refine lv_iload_n hx hb d_T_flow_15 rfl (lv_at hl 1 rfl) ?_
        refine n_icmp_ge (tgt := 42) hx hb d_T_flow_16 (by decide) (by omega) (by omega) (fun h3 => ?_) (fun h3 => ?_)
        · skip
          refine lv_iload_n hx hb d_T_flow_42 rfl (lv_at hl 2 rfl) ?_
          exact x_iret cf hr hlk hP hS (by unfold qFlow; rw [if_pos (by omega), hkc, show k = dn by omega, hNn]) (by unfold pFlow; rw [if_pos (by omega), hkc, show k = dn by omega]; exact hT) d_T_flow_43
        · skip
          refine lv_aload_n hx hb d_T_flow_19 rfl (lv_at hl 0 rfl) ?_
          refine x_getT (v := .ref (X.2.2.2 38)) cf hK hP 7 (by decide) w_184 rfl d_T_flow_20 ?_
          refine lv_iconst (v := nI 0) hx hb d_T_flow_23 (by decide) ?_
          refine x_callVi (As := [.int (nI 0)]) (rest := []) cf hK hN hP hS (k_Ro_hasPlace l hX hCT (nI 0)) (cw_Ro_hasPlace cf.2.2.2.2 w_282 ⟨Nat.le_of_ble_eq_true rfl, Nat.le_of_ble_eq_true rfl⟩) (rv_Ro hK hP) hl.1 rfl rfl (Nat.le_of_ble_eq_true rfl) ⟨Nat.zero_le _, Nat.zero_le _⟩ d_T_flow_24 (fun H locs hP hS => ?_)
          refine n_if_eq (tgt := 42) hx hb d_T_flow_27 (by decide) (tnat_lt _) (fun h4 => ?_) (fun h4 => ?_)
          · skip
            have hsz0 : ¬ 0 < T 38 0 := fun q => of_decide_eq_false (tnat_0 h4) (by have e0 := nI_toInt (n := 0) (by decide); omega)
            refine lv_iload_n hx hb d_T_flow_42 rfl (lv_at hl 2 rfl) ?_
            exact x_iret cf hr hlk hP hS (by unfold qFlow; rw [if_pos (by omega), hkc, show k = dn + (k - dn) by omega, (cFl_stop (by rw [← hT]; exact hsz0) (k - dn)).2, hNn]) (by unfold pFlow; rw [if_pos (by omega), hkc, show k = dn + (k - dn) by omega, (cFl_stop (by rw [← hT]; exact hsz0) (k - dn)).1]; exact hT) d_T_flow_43
          · skip
            have hsz : 0 < T 38 0 := by have q := of_decide_eq_true (tnat_1 h4); have e0 := nI_toInt (n := 0) (by decide); omega
            refine lv_aload_n hx hb d_T_flow_30 rfl (lv_at hl 0 rfl) ?_
            refine lv_iconst (v := nI 0) hx hb d_T_flow_31 (by decide) ?_
            refine x_callVi (As := [.int (nI 0)]) (rest := []) cf hK hN hP hS (k_T_handOver l hX hCT (by omega)) (cw_T_handOver cf.2.2.2.2 w_286 ⟨Nat.le_of_ble_eq_true rfl, Nat.le_of_ble_eq_true rfl⟩) (rv_T hK hP) hl.1 rfl rfl (Nat.le_of_ble_eq_true rfl) ⟨Nat.zero_le _, Nat.zero_le _⟩ d_T_flow_32 (fun H locs hP hS => ?_)
            refine lv_pop hx hb d_T_flow_35 rfl ?_
            refine n_iinc1 (lv' := [(2, .int (nI (dn + 1))), (0, .ref (X.2.2.2 25)), (1, .int (nI k))]) (k := 2) hx hb d_T_flow_36 hl rfl (by decide) rfl (fun ls hl => ?_)
            refine lv_goto (tgt := 14) hx hb d_T_flow_39 (by decide) ?_
            exact lp14 _ (by omega) (dn + 1) (cHand T X.2.2.1 0) ls H locs (lv_sub hl [1, 2, 0] rfl) hP hS (by omega) (by show _ = (if 0 < cFl S X.2.2.1 dn 38 0 then cHand (cFl S X.2.2.1 dn) X.2.2.1 0 else _); rw [← hT, if_pos hsz]) (by show (if 0 < cFl S X.2.2.1 dn 38 0 then cFlN S X.2.2.1 dn + 1 else _) = _; rw [← hT, if_pos hsz, hNn]) rfl
      exact lp14 _ 0 S ls H locs (lv_sub hl [1, 2, 0] rfl) hP hS (by omega) (rfl) (rfl) rfl
    · skip
      have uh2 := i_nleN (by decide) h2
      refine lv_iconst (v := (-1)) hx hb d_T_flow_10 (by decide) ?_
      exact x_iret cf hr hlk hP hS (by unfold qFlow; rw [if_neg (by omega)]) (by unfold pFlow; rw [if_neg (by omega)]) d_T_flow_11
set_option maxRecDepth 100000 in
set_option maxHeartbeats 4000000 in
theorem k_T_offer (l : Launch) {X : WX} (hX : xInj X) {S : Nat → Nat → Nat} {V : Nat} (hC : CI V X S) (b r : Int32) : MetI l X y_T_offer (Cond.code y_T_offer c_T_offer 3 (some .boolean) :: Mst) 2 [.ref (X.2.2.2 25), .int b, .int r] S (nI (qOffer S b r).toNat) (pOffer S b r) := by
  refine MetI.of (by decide) (Nat.le_of_ble_eq_true rfl) ?_
  intro p e s m args below meth c cf hr hlk hP hK hN ls hl
  have hl : lv_has ls 3 [(0, .ref (X.2.2.2 25)), (1, .int b), (2, .int r)] := hl
  have hx := cf.1
  have hb := cf.2.1
  have hD := xD_of hX
  have hS : va_S (xA X) s.heap s.heap [] := va_S.rf
  have hnn := hC.nn
  have hV := hC.V
  have hcn := hC.n
  have htr := hC.tr
  have hblc := hC.bl
  have hro := hC.ro
  obtain ⟨H, hH⟩ : ∃ H, H = s.heap := ⟨_, rfl⟩
  obtain ⟨locs, hlo⟩ : ∃ z : List Loc, z = [] := ⟨_, rfl⟩
  suffices hgo : PW X S H → va_S (xA X) s.heap H locs → W p l e (rmd 2) s m args below meth c H locs 0 0 (MQ below (QcI X (nI (qOffer S b r).toNat) (pOffer S b r)) args s 0 0 (xA X)) (F0 m 0 ls []) by
    subst hH
    subst hlo
    exact hgo hP hS
  clear hP hS
  intro hP hS
  refine lv_aload_n hx hb d_T_offer_0 rfl (lv_at hl 0 rfl) ?_
  refine x_getT (v := .int (nI (S 25 3))) cf hK hP 3 (by decide) w_180 rfl d_T_offer_1 ?_
  refine n_if_eq (tgt := 16) hx hb d_T_offer_4 (by decide) (by omega) (fun h1 => ?_) (fun h1 => ?_)
  · skip
    have hno : qOffer S b r = false := by unfold qOffer; rw [decide_eq_false (p := ¬ S 25 3 = 0) (by omega)]; rfl
    refine lv_iconst (v := nI 0) hx hb d_T_offer_16 (by decide) ?_
    exact x_zret cf hr hlk hP hS (by rw [hno]; rfl) (by unfold pOffer; rw [hno]; rfl) d_T_offer_17
  · skip
    refine lv_aload_n hx hb d_T_offer_7 rfl (lv_at hl 0 rfl) ?_
    refine lv_iload_n hx hb d_T_offer_8 rfl (lv_at hl 1 rfl) ?_
    refine lv_iload_n hx hb d_T_offer_9 rfl (lv_at hl 2 rfl) ?_
    refine x_callVi (As := [.int b, .int r]) (rest := []) cf hK hN hP hS (k_T_maySend l hX hC b r) (cw_T_maySend cf.2.2.2.2 w_376 ⟨Nat.le_of_ble_eq_true rfl, Nat.le_of_ble_eq_true rfl⟩) (rv_T hK hP) hl.1 rfl rfl (Nat.le_of_ble_eq_true rfl) ⟨Nat.zero_le _, Nat.zero_le _⟩ d_T_offer_10 (fun H locs hP hS => ?_)
    refine n_if_ne (tgt := 18) hx hb d_T_offer_13 (by decide) (tnat_lt _) (fun h2 => ?_) (fun h2 => ?_)
    · skip
      have hyes : qOffer S b r = true := by unfold qOffer; rw [decide_eq_true (p := ¬ S 25 3 = 0) (by omega), tnat_1 h2]; rfl
      have hms := tnat_1 h2
      obtain ⟨⟨bj, hbj, rfl, hbjc, hbjt⟩, rj, hrj, rfl, hrjc⟩ := cMaySend_ex hC hms
      refine lv_aload_n hx hb d_T_offer_18 rfl (lv_at hl 0 rfl) ?_
      refine x_getT (v := .ref (X.2.2.2 38)) cf hK hP 7 (by decide) w_184 rfl d_T_offer_19 ?_
      refine lv_iconst (v := nI 0) hx hb d_T_offer_22 (by decide) ?_
      refine lv_iload_n hx hb d_T_offer_23 rfl (lv_at hl 2 rfl) ?_
      refine lv_iconst (v := nI 0) hx hb d_T_offer_24 (by decide) ?_
      refine lv_iload_n hx hb d_T_offer_25 rfl (lv_at hl 1 rfl) ?_
      refine lv_iconst (v := nI 0) hx hb d_T_offer_26 (by decide) ?_
      refine x_callVv (As := [.int (nI 0), .int (nI rj), .int (nI 0), .int (nI bj), .int (nI 0)]) (rest := []) cf hK hN hP hS (k_Ro_send l hX hC 0 rj 0 bj 0) (cw_Ro_send cf.2.2.2.2 w_262 ⟨Nat.le_of_ble_eq_true rfl, Nat.le_of_ble_eq_true rfl⟩) (rv_Ro hK hP) hl.1 rfl rfl (Nat.le_of_ble_eq_true rfl) ⟨Nat.zero_le _, Nat.zero_le _⟩ d_T_offer_27 (fun H locs hP hS => ?_)
      refine lv_iconst (v := nI 1) hx hb d_T_offer_30 (by decide) ?_
      exact x_zret cf hr hlk hP hS (by rw [hyes]; rfl) (by unfold pOffer; rw [hyes, hbjc, hrjc]; rfl) d_T_offer_31
    · skip
      have hno : qOffer S b r = false := by unfold qOffer; rw [tnat_0 h2, Bool.and_false]
      refine lv_iconst (v := nI 0) hx hb d_T_offer_16 (by decide) ?_
      exact x_zret cf hr hlk hP hS (by rw [hno]; rfl) (by unfold pOffer; rw [hno]; rfl) d_T_offer_17
set_option maxRecDepth 100000 in
set_option maxHeartbeats 4000000 in
theorem k_T_vote (l : Launch) {X : WX} (hX : xInj X) {S : Nat → Nat → Nat} {V : Nat} (hC : CI V X S) (x b r : Int32) : MetI l X y_T_vote (Cond.code y_T_vote c_T_vote 4 (some .boolean) :: Mst) 2 [.ref (X.2.2.2 25), .int x, .int b, .int r] S (nI (qVote S x b r).toNat) (pVote S x b r) := by
  refine MetI.of (by decide) (Nat.le_of_ble_eq_true rfl) ?_
  intro p e s m args below meth c cf hr hlk hP hK hN ls hl
  have hl : lv_has ls 4 [(0, .ref (X.2.2.2 25)), (1, .int x), (2, .int b), (3, .int r)] := hl
  have hx := cf.1
  have hb := cf.2.1
  have hD := xD_of hX
  have hS : va_S (xA X) s.heap s.heap [] := va_S.rf
  have hnn := hC.nn
  have hV := hC.V
  have hcn := hC.n
  have htr := hC.tr
  have hblc := hC.bl
  have hro := hC.ro
  obtain ⟨H, hH⟩ : ∃ H, H = s.heap := ⟨_, rfl⟩
  obtain ⟨locs, hlo⟩ : ∃ z : List Loc, z = [] := ⟨_, rfl⟩
  suffices hgo : PW X S H → va_S (xA X) s.heap H locs → W p l e (rmd 2) s m args below meth c H locs 0 0 (MQ below (QcI X (nI (qVote S x b r).toNat) (pVote S x b r)) args s 0 0 (xA X)) (F0 m 0 ls []) by
    subst hH
    subst hlo
    exact hgo hP hS
  clear hP hS
  intro hP hS
  refine lv_aload_n hx hb d_T_vote_0 rfl (lv_at hl 0 rfl) ?_
  refine lv_iload_n hx hb d_T_vote_1 rfl (lv_at hl 1 rfl) ?_
  refine x_callVi (As := [.int x]) (rest := []) cf hK hN hP hS (k_T_isCorrupt l hX hC x) (cw_T_isCorrupt cf.2.2.2.2 w_368 ⟨Nat.le_of_ble_eq_true rfl, Nat.le_of_ble_eq_true rfl⟩) (rv_T hK hP) hl.1 rfl rfl (Nat.le_of_ble_eq_true rfl) ⟨Nat.zero_le _, Nat.zero_le _⟩ d_T_vote_2 (fun H locs hP hS => ?_)
  refine n_if_eq (tgt := 17) hx hb d_T_vote_5 (by decide) (tnat_lt _) (fun h1 => ?_) (fun h1 => ?_)
  · skip
    have hno : qVote S x b r = false := by unfold qVote; rw [tnat_0 h1]; rfl
    refine lv_iconst (v := nI 0) hx hb d_T_vote_17 (by decide) ?_
    exact x_zret cf hr hlk hP hS (by rw [hno]; rfl) (by unfold pVote; rw [hno]; rfl) d_T_vote_18
  · skip
    have hcx := tnat_1 h1
    obtain ⟨xj, hxj, rfl, hxjc, hxjt, hxjb⟩ := cCorrupt_ex hC hcx
    refine lv_aload_n hx hb d_T_vote_8 rfl (lv_at hl 0 rfl) ?_
    refine lv_iload_n hx hb d_T_vote_9 rfl (lv_at hl 2 rfl) ?_
    refine lv_iload_n hx hb d_T_vote_10 rfl (lv_at hl 3 rfl) ?_
    refine x_callVi (As := [.int b, .int r]) (rest := []) cf hK hN hP hS (k_T_maySend l hX hC b r) (cw_T_maySend cf.2.2.2.2 w_376 ⟨Nat.le_of_ble_eq_true rfl, Nat.le_of_ble_eq_true rfl⟩) (rv_T hK hP) hl.1 rfl rfl (Nat.le_of_ble_eq_true rfl) ⟨Nat.zero_le _, Nat.zero_le _⟩ d_T_vote_11 (fun H locs hP hS => ?_)
    refine n_if_ne (tgt := 19) hx hb d_T_vote_14 (by decide) (tnat_lt _) (fun h2 => ?_) (fun h2 => ?_)
    · skip
      have hyes : qVote S (nI xj) b r = true := by unfold qVote; rw [hcx, tnat_1 h2]; rfl
      have hms := tnat_1 h2
      obtain ⟨⟨bj, hbj, rfl, hbjc, hbjt⟩, rj, hrj, rfl, hrjc⟩ := cMaySend_ex hC hms
      refine lv_aload_n hx hb d_T_vote_19 rfl (lv_at hl 0 rfl) ?_
      refine x_getT (v := .ref (X.2.2.2 38)) cf hK hP 7 (by decide) w_184 rfl d_T_vote_20 ?_
      refine lv_iconst (v := nI 1) hx hb d_T_vote_23 (by decide) ?_
      refine lv_iload_n hx hb d_T_vote_24 rfl (lv_at hl 3 rfl) ?_
      refine lv_iload_n hx hb d_T_vote_25 rfl (lv_at hl 1 rfl) ?_
      refine lv_iload_n hx hb d_T_vote_26 rfl (lv_at hl 2 rfl) ?_
      refine lv_iconst (v := nI 0) hx hb d_T_vote_27 (by decide) ?_
      refine x_callVv (As := [.int (nI 1), .int (nI rj), .int (nI xj), .int (nI bj), .int (nI 0)]) (rest := []) cf hK hN hP hS (k_Ro_send l hX hC 1 rj xj bj 0) (cw_Ro_send cf.2.2.2.2 w_262 ⟨Nat.le_of_ble_eq_true rfl, Nat.le_of_ble_eq_true rfl⟩) (rv_Ro hK hP) hl.1 rfl rfl (Nat.le_of_ble_eq_true rfl) ⟨Nat.zero_le _, Nat.zero_le _⟩ d_T_vote_28 (fun H locs hP hS => ?_)
      refine lv_iconst (v := nI 1) hx hb d_T_vote_31 (by decide) ?_
      exact x_zret cf hr hlk hP hS (by rw [hyes]; rfl) (by unfold pVote; rw [hyes, hxjc, hbjc, hrjc]; rfl) d_T_vote_32
    · skip
      have hno : qVote S (nI xj) b r = false := by unfold qVote; rw [tnat_0 h2, Bool.and_false]
      refine lv_iconst (v := nI 0) hx hb d_T_vote_17 (by decide) ?_
      exact x_zret cf hr hlk hP hS (by rw [hno]; rfl) (by unfold pVote; rw [hno]; rfl) d_T_vote_18
set_option maxRecDepth 100000 in
set_option maxHeartbeats 4000000 in
theorem k_T_claim (l : Launch) {X : WX} (hX : xInj X) {S : Nat → Nat → Nat} {V : Nat} (hC : CI V X S) (x v b r : Int32) : MetI l X y_T_claim (Cond.code y_T_claim c_T_claim 5 (some .boolean) :: Mst) 2 [.ref (X.2.2.2 25), .int x, .int v, .int b, .int r] S (nI (qClaim S x v b r).toNat) (pClaim S x v b r) := by
  refine MetI.of (by decide) (Nat.le_of_ble_eq_true rfl) ?_
  intro p e s m args below meth c cf hr hlk hP hK hN ls hl
  have hl : lv_has ls 5 [(0, .ref (X.2.2.2 25)), (1, .int x), (2, .int v), (3, .int b), (4, .int r)] := hl
  have hx := cf.1
  have hb := cf.2.1
  have hD := xD_of hX
  have hS : va_S (xA X) s.heap s.heap [] := va_S.rf
  have hnn := hC.nn
  have hV := hC.V
  have hcn := hC.n
  have htr := hC.tr
  have hblc := hC.bl
  have hro := hC.ro
  obtain ⟨H, hH⟩ : ∃ H, H = s.heap := ⟨_, rfl⟩
  obtain ⟨locs, hlo⟩ : ∃ z : List Loc, z = [] := ⟨_, rfl⟩
  suffices hgo : PW X S H → va_S (xA X) s.heap H locs → W p l e (rmd 2) s m args below meth c H locs 0 0 (MQ below (QcI X (nI (qClaim S x v b r).toNat) (pClaim S x v b r)) args s 0 0 (xA X)) (F0 m 0 ls []) by
    subst hH
    subst hlo
    exact hgo hP hS
  clear hP hS
  intro hP hS
  refine lv_aload_n hx hb d_T_claim_0 rfl (lv_at hl 0 rfl) ?_
  refine lv_iload_n hx hb d_T_claim_1 rfl (lv_at hl 1 rfl) ?_
  refine x_callVi (As := [.int x]) (rest := []) cf hK hN hP hS (k_T_isCorrupt l hX hC x) (cw_T_isCorrupt cf.2.2.2.2 w_368 ⟨Nat.le_of_ble_eq_true rfl, Nat.le_of_ble_eq_true rfl⟩) (rv_T hK hP) hl.1 rfl rfl (Nat.le_of_ble_eq_true rfl) ⟨Nat.zero_le _, Nat.zero_le _⟩ d_T_claim_2 (fun H locs hP hS => ?_)
  refine n_if_eq (tgt := 40) hx hb d_T_claim_5 (by decide) (tnat_lt _) (fun h1 => ?_) (fun h1 => ?_)
  · skip
    have hno : qClaim S x v b r = false := by unfold qClaim; rw [tnat_0 h1]; rfl
    refine lv_iconst (v := nI 0) hx hb d_T_claim_40 (by decide) ?_
    exact x_zret cf hr hlk hP hS (by rw [hno]; rfl) (by unfold pClaim; rw [hno]; rfl) d_T_claim_41
  · skip
    have hcx := tnat_1 h1
    obtain ⟨xj, hxj, rfl, hxjc, hxjt, hxjb⟩ := cCorrupt_ex hC hcx
    refine lv_iload_n hx hb d_T_claim_8 rfl (lv_at hl 2 rfl) ?_
    refine lv_iconst (v := nI 1) hx hb d_T_claim_9 (by decide) ?_
    refine lv_icmp_lt (tgt := 40) hx hb d_T_claim_10 (by decide) (fun h2 => ?_) (fun h2 => ?_)
    · skip
      have uh2 := i_ltN (by decide) h2
      have hno : qClaim S (nI xj) v b r = false := by unfold qClaim; rw [decide_eq_false (p := 1 ≤ v.toInt) (by omega), Bool.and_false]; rfl
      refine lv_iconst (v := nI 0) hx hb d_T_claim_40 (by decide) ?_
      exact x_zret cf hr hlk hP hS (by rw [hno]; rfl) (by unfold pClaim; rw [hno]; rfl) d_T_claim_41
    · skip
      have uh2 := i_nltN (by decide) h2
      obtain ⟨vj, hvj, rfl, hvjt, hvjc⟩ := i_nat (x := v) (by omega)
      refine lv_aload_n hx hb d_T_claim_13 rfl (lv_at hl 0 rfl) ?_
      refine lv_iload_n hx hb d_T_claim_14 rfl (lv_at hl 3 rfl) ?_
      refine x_callVi (As := [.int b]) (rest := []) cf hK hN hP hS (k_T_hasCertificate l hX hC b) (cw_T_hasCertificate cf.2.2.2.2 w_360 ⟨Nat.le_of_ble_eq_true rfl, Nat.le_of_ble_eq_true rfl⟩) (rv_T hK hP) hl.1 rfl rfl (Nat.le_of_ble_eq_true rfl) ⟨Nat.zero_le _, Nat.zero_le _⟩ d_T_claim_15 (fun H locs hP hS => ?_)
      refine n_if_eq (tgt := 40) hx hb d_T_claim_18 (by decide) (tnat_lt _) (fun h3 => ?_) (fun h3 => ?_)
      · skip
        have hno : qClaim S (nI xj) (nI vj) b r = false := by unfold qClaim; rw [tnat_0 (b := cHasCert S b) h3, Bool.and_false]; rfl
        refine lv_iconst (v := nI 0) hx hb d_T_claim_40 (by decide) ?_
        exact x_zret cf hr hlk hP hS (by rw [hno]; rfl) (by unfold pClaim; rw [hno]; rfl) d_T_claim_41
      · skip
        have hce := tnat_1 h3
        obtain ⟨bj, hbj, rfl, hbjc, hbjt⟩ := cHasCert_ex hce
        refine lv_aload_n hx hb d_T_claim_21 rfl (lv_at hl 0 rfl) ?_
        refine lv_iload hx hb d_T_claim_22 (lv_at hl 4 rfl) ?_
        refine x_callVi (As := [.int r]) (rest := []) cf hK hN hP hS (k_T_isReplica l hX hC r) (cw_T_isReplica cf.2.2.2.2 w_231 ⟨Nat.le_of_ble_eq_true rfl, Nat.le_of_ble_eq_true rfl⟩) (rv_T hK hP) hl.1 rfl rfl (Nat.le_of_ble_eq_true rfl) ⟨Nat.zero_le _, Nat.zero_le _⟩ d_T_claim_24 (fun H locs hP hS => ?_)
        refine n_if_eq (tgt := 40) hx hb d_T_claim_27 (by decide) (tnat_lt _) (fun h4 => ?_) (fun h4 => ?_)
        · skip
          have hno : qClaim S (nI xj) (nI vj) (nI bj) r = false := by unfold qClaim; rw [tnat_0 (b := cRepl S r) h4, Bool.and_false]; rfl
          refine lv_iconst (v := nI 0) hx hb d_T_claim_40 (by decide) ?_
          exact x_zret cf hr hlk hP hS (by rw [hno]; rfl) (by unfold pClaim; rw [hno]; rfl) d_T_claim_41
        · skip
          have hre := tnat_1 h4
          obtain ⟨rj, hrj, rfl, hrjc⟩ := cRepl_nI (by omega) hre
          refine lv_aload_n hx hb d_T_claim_30 rfl (lv_at hl 0 rfl) ?_
          refine x_getT (v := .ref (X.2.2.2 38)) cf hK hP 7 (by decide) w_184 rfl d_T_claim_31 ?_
          refine x_callVi (As := []) (rest := []) cf hK hN hP hS (k_Ro_isFull l hX hC) (cw_Ro_isFull cf.2.2.2.2 w_380 ⟨Nat.le_of_ble_eq_true rfl, Nat.le_of_ble_eq_true rfl⟩) (rv_Ro hK hP) hl.1 rfl rfl (Nat.le_of_ble_eq_true rfl) ⟨Nat.zero_le _, Nat.zero_le _⟩ d_T_claim_34 (fun H locs hP hS => ?_)
          refine n_if_eq (tgt := 42) hx hb d_T_claim_37 (by decide) (tnat_lt _) (fun h5 => ?_) (fun h5 => ?_)
          · skip
            have hyes : qClaim S (nI xj) (nI vj) (nI bj) (nI rj) = true := by unfold qClaim; rw [hcx, decide_eq_true (p := 1 ≤ (nI vj).toInt) (by omega), hce, hre, decide_eq_true (p := ¬ 40 ≤ S 38 0) (of_decide_eq_false (tnat_0 h5))]; rfl
            refine lv_aload_n hx hb d_T_claim_42 rfl (lv_at hl 0 rfl) ?_
            refine x_getT (v := .ref (X.2.2.2 38)) cf hK hP 7 (by decide) w_184 rfl d_T_claim_43 ?_
            refine lv_iconst (v := nI 2) hx hb d_T_claim_46 (by decide) ?_
            refine lv_iload hx hb d_T_claim_47 (lv_at hl 4 rfl) ?_
            refine lv_iload_n hx hb d_T_claim_49 rfl (lv_at hl 1 rfl) ?_
            refine lv_iload_n hx hb d_T_claim_50 rfl (lv_at hl 3 rfl) ?_
            refine lv_iload_n hx hb d_T_claim_51 rfl (lv_at hl 2 rfl) ?_
            refine x_callVv (As := [.int (nI 2), .int (nI rj), .int (nI xj), .int (nI bj), .int (nI vj)]) (rest := []) cf hK hN hP hS (k_Ro_send l hX hC 2 rj xj bj vj) (cw_Ro_send cf.2.2.2.2 w_262 ⟨Nat.le_of_ble_eq_true rfl, Nat.le_of_ble_eq_true rfl⟩) (rv_Ro hK hP) hl.1 rfl rfl (Nat.le_of_ble_eq_true rfl) ⟨Nat.zero_le _, Nat.zero_le _⟩ d_T_claim_52 (fun H locs hP hS => ?_)
            refine lv_iconst (v := nI 1) hx hb d_T_claim_55 (by decide) ?_
            exact x_zret cf hr hlk hP hS (by rw [hyes]; rfl) (by unfold pClaim; rw [hyes, hxjc, hvjc, hbjc, hrjc]; rfl) d_T_claim_56
          · skip
            have hno : qClaim S (nI xj) (nI vj) (nI bj) (nI rj) = false := by unfold qClaim; rw [decide_eq_false (p := ¬ 40 ≤ S 38 0) (fun q => q (of_decide_eq_true (tnat_1 h5))), Bool.and_false]
            refine lv_iconst (v := nI 0) hx hb d_T_claim_40 (by decide) ?_
            exact x_zret cf hr hlk hP hS (by rw [hno]; rfl) (by unfold pClaim; rw [hno]; rfl) d_T_claim_41
set_option maxRecDepth 100000 in
set_option maxHeartbeats 4000000 in
theorem k_T_forge (l : Launch) {X : WX} (hX : xInj X) {S : Nat → Nat → Nat} {V : Nat} (hC : CI V X S) (p0 v set : Int32) : MetI l X y_T_forge (Cond.code y_T_forge c_T_forge 5 (some .int) :: Mst) 2 [.ref (X.2.2.2 25), .int p0, .int v, .int set] S (qForge S p0 v set) (pForge S p0 v set) := by
  refine MetI.of (by decide) (Nat.le_of_ble_eq_true rfl) ?_
  intro p e s m args below meth c cf hr hlk hP hK hN ls hl
  have hl : lv_has ls 5 [(0, .ref (X.2.2.2 25)), (1, .int p0), (2, .int v), (3, .int set)] := hl
  have hx := cf.1
  have hb := cf.2.1
  have hD := xD_of hX
  have hS : va_S (xA X) s.heap s.heap [] := va_S.rf
  have hnn := hC.nn
  have hV := hC.V
  have hcn := hC.n
  have htr := hC.tr
  have hblc := hC.bl
  have hro := hC.ro
  obtain ⟨H, hH⟩ : ∃ H, H = s.heap := ⟨_, rfl⟩
  obtain ⟨locs, hlo⟩ : ∃ z : List Loc, z = [] := ⟨_, rfl⟩
  suffices hgo : PW X S H → va_S (xA X) s.heap H locs → W p l e (rmd 2) s m args below meth c H locs 0 0 (MQ below (QcI X (qForge S p0 v set) (pForge S p0 v set)) args s 0 0 (xA X)) (F0 m 0 ls []) by
    subst hH
    subst hlo
    exact hgo hP hS
  clear hP hS
  intro hP hS
  refine lv_aload_n hx hb d_T_forge_0 rfl (lv_at hl 0 rfl) ?_
  refine lv_iload_n hx hb d_T_forge_1 rfl (lv_at hl 1 rfl) ?_
  refine x_callVi (As := [.int p0]) (rest := []) cf hK hN hP hS (k_T_hasCertificate l hX hC p0) (cw_T_hasCertificate cf.2.2.2.2 w_360 ⟨Nat.le_of_ble_eq_true rfl, Nat.le_of_ble_eq_true rfl⟩) (rv_T hK hP) hl.1 rfl rfl (Nat.le_of_ble_eq_true rfl) ⟨Nat.zero_le _, Nat.zero_le _⟩ d_T_forge_2 (fun H locs hP hS => ?_)
  refine n_if_eq (tgt := 28) hx hb d_T_forge_5 (by decide) (tnat_lt _) (fun h1 => ?_) (fun h1 => ?_)
  · skip
    have hno : qForgeOk S p0 v set = false := by unfold qForgeOk; rw [tnat_0 h1]; rfl
    refine lv_iconst (v := (-1)) hx hb d_T_forge_28 (by decide) ?_
    exact x_iret cf hr hlk hP hS (by unfold qForge; rw [hno]; rfl) (by unfold pForge; rw [hno]; rfl) d_T_forge_29
  · skip
    have hce := tnat_1 h1
    obtain ⟨pj, hpj, rfl, hpjc, hpjt⟩ := cHasCert_ex hce
    refine lv_iload_n hx hb d_T_forge_8 rfl (lv_at hl 2 rfl) ?_
    refine lv_aload_n hx hb d_T_forge_9 rfl (lv_at hl 0 rfl) ?_
    refine x_getT (v := .ref (X.2.2.2 31)) cf hK hP 6 (by decide) w_183 rfl d_T_forge_10 ?_
    refine x_getBl (v := .ref (X.2.2.2 32)) cf hK hP 0 (by decide) w_110 rfl d_T_forge_13 ?_
    refine lv_iload_n hx hb d_T_forge_16 rfl (lv_at hl 1 rfl) ?_
    refine x_iald (v := (S 32 pj)) cf hK hP (ia32 X) (by omega) rfl d_T_forge_17 ?_
    refine lv_icmp_le (tgt := 28) hx hb d_T_forge_18 (by decide) (fun h2 => ?_) (fun h2 => ?_)
    · skip
      have uh2 := i_leN (by have := (show S 32 pj + 1 ≤ V from hC.c 32 pj); omega) h2
      have hno : qForgeOk S (nI pj) v set = false := by unfold qForgeOk; rw [hpjc, decide_eq_false (p := (S 32 pj : Int) < v.toInt) (by omega)]; simp
      refine lv_iconst (v := (-1)) hx hb d_T_forge_28 (by decide) ?_
      exact x_iret cf hr hlk hP hS (by unfold qForge; rw [hno]; rfl) (by unfold pForge; rw [hno]; rfl) d_T_forge_29
    · skip
      have uh2 := i_nleN (by have := (show S 32 pj + 1 ≤ V from hC.c 32 pj); omega) h2
      refine lv_iload_n hx hb d_T_forge_21 rfl (lv_at hl 2 rfl) ?_
      refine lv_sipush (v := nI 9999) hx hb d_T_forge_22 (by decide) ?_
      refine lv_icmp_le (tgt := 30) hx hb d_T_forge_25 (by decide) (fun h3 => ?_) (fun h3 => ?_)
      · skip
        have uh3 := i_leN (by decide) h3
        obtain ⟨vj, hvj, rfl, hvjt, hvjc⟩ := i_nat (x := v) (by omega)
        refine lv_iload_n hx hb d_T_forge_30 rfl (lv_at hl 3 rfl) ?_
        refine lv_aload_n hx hb d_T_forge_31 rfl (lv_at hl 0 rfl) ?_
        refine x_getT (v := .ref (X.2.2.2 27)) cf hK hP 5 (by decide) w_182 rfl d_T_forge_32 ?_
        refine x_getTr (v := .int (nI (S 27 0))) cf hK hP 3 (by decide) w_92 rfl d_T_forge_35 ?_
        refine lv_iushr hx hb d_T_forge_38 rfl ?_
        refine lv_if_eq (tgt := 46) hx hb d_T_forge_39 (by decide) (fun h4 => ?_) (fun h4 => ?_)
        · skip
          have uh4 := i_eq0 h4
          have hmk := (ushr_iff (by omega)).mp h4
          refine lv_iconst (v := nI 0) hx hb d_T_forge_46 (by decide) ?_
          refine lv_istore (lv' := [(4, .int (nI 0)), (0, .ref (X.2.2.2 25)), (1, .int (nI pj)), (2, .int (nI vj)), (3, .int set)]) hx hb d_T_forge_47 hl (by decide) rfl (fun ls hl => ?_)
          refine lv_aload_n hx hb d_T_forge_49 rfl (lv_at hl 1 rfl) ?_
          refine lv_aload_n hx hb d_T_forge_50 rfl (lv_at hl 1 rfl) ?_
          refine lv_iload_n hx hb d_T_forge_51 rfl (lv_at hl 3 rfl) ?_
          refine x_callVi (As := [.int (nI vj)]) (rest := [.ref (X.2.2.2 25)]) cf hK hN hP hS (k_T_leaderOf l hX hC (by omega)) (cw_T_leaderOf cf.2.2.2.2 w_239 ⟨Nat.le_of_ble_eq_true rfl, Nat.le_of_ble_eq_true rfl⟩) (rv_T hK hP) hl.1 rfl rfl (Nat.le_of_ble_eq_true rfl) ⟨Nat.zero_le _, Nat.zero_le _⟩ d_T_forge_52 (fun H locs hP hS => ?_)
          have hle := cLeader_lt hC vj
          refine x_callVi (As := [.int (nI (cLeader S vj))]) (rest := []) cf hK hN hP hS (k_T_isCorrupt l hX hC (nI (cLeader S vj))) (cw_T_isCorrupt cf.2.2.2.2 w_368 ⟨Nat.le_of_ble_eq_true rfl, Nat.le_of_ble_eq_true rfl⟩) (rv_T hK hP) hl.1 rfl rfl (Nat.le_of_ble_eq_true rfl) ⟨Nat.zero_le _, Nat.zero_le _⟩ d_T_forge_55 (fun H locs hP hS => ?_)
          refine n_if_eq (tgt := 76) hx hb d_T_forge_58 (by decide) (tnat_lt _) (fun h5 => ?_) (fun h5 => ?_)
          · skip
            have hno : qForgeOk S (nI pj) (nI vj) set = false := by unfold qForgeOk; rw [hvjc, tnat_0 (b := cCorrupt S (nI (cLeader S vj))) h5]; simp
            refine lv_iconst (v := (-1)) hx hb d_T_forge_76 (by decide) ?_
            exact x_iret cf hr hlk hP hS (by unfold qForge; rw [hno]; rfl) (by unfold pForge; rw [hno]; rfl) d_T_forge_77
          · skip
            have hco := tnat_1 h5
            refine lv_iload hx hb d_T_forge_61 (lv_at hl 0 rfl) ?_
            refine n_if_ne (tgt := 76) hx hb d_T_forge_63 (by decide) (by decide) (fun h6 => absurd h6 (by decide)) (fun _ => ?_)
            refine lv_aload_n hx hb d_T_forge_66 rfl (lv_at hl 1 rfl) ?_
            refine x_getT (v := .ref (X.2.2.2 31)) cf hK hP 6 (by decide) w_183 rfl d_T_forge_67 ?_
            refine x_callVi (As := []) (rest := []) cf hK hN hP hS (k_Bl_isFull l hX hC) (cw_Bl_isFull cf.2.2.2.2 w_254 ⟨Nat.le_of_ble_eq_true rfl, Nat.le_of_ble_eq_true rfl⟩) (rv_Bl hK hP) hl.1 rfl rfl (Nat.le_of_ble_eq_true rfl) ⟨Nat.zero_le _, Nat.zero_le _⟩ d_T_forge_70 (fun H locs hP hS => ?_)
            refine n_if_eq (tgt := 78) hx hb d_T_forge_73 (by decide) (tnat_lt _) (fun h7 => ?_) (fun h7 => ?_)
            · skip
              have hnf := of_decide_eq_false (tnat_0 h7)
              have hyes : qForgeOk S (nI pj) (nI vj) set = true := by unfold qForgeOk; rw [hce, hpjc, hvjc, decide_eq_true (p := (S 32 pj : Int) < (nI vj).toInt) (by omega), decide_eq_true (p := (nI vj).toInt ≤ 9999) (by omega), decide_eq_true hmk, hco, decide_eq_true (p := ¬ 40 ≤ S 31 0) hnf]; rfl
              obtain ⟨sj, hsj, rfl, hsjt, hsjc⟩ := i_nat (x := set) hmk.1
              refine lv_aload_n hx hb d_T_forge_78 rfl (lv_at hl 1 rfl) ?_
              refine x_getT (v := .ref (X.2.2.2 31)) cf hK hP 6 (by decide) w_183 rfl d_T_forge_79 ?_
              refine lv_iload_n hx hb d_T_forge_82 rfl (lv_at hl 2 rfl) ?_
              refine lv_iload_n hx hb d_T_forge_83 rfl (lv_at hl 3 rfl) ?_
              refine lv_iload_n hx hb d_T_forge_84 rfl (lv_at hl 4 rfl) ?_
              refine x_callVi (As := [.int (nI pj), .int (nI vj), .int (nI sj)]) (rest := []) cf hK hN hP hS (k_Bl_add l hX hC (by omega) (by omega)) (cw_Bl_add cf.2.2.2.2 w_258 ⟨Nat.le_of_ble_eq_true rfl, Nat.le_of_ble_eq_true rfl⟩) (rv_Bl hK hP) hl.1 rfl rfl (Nat.le_of_ble_eq_true rfl) ⟨Nat.zero_le _, Nat.zero_le _⟩ d_T_forge_85 (fun H locs hP hS => ?_)
              exact x_iret cf hr hlk hP hS (by unfold qForge; rw [hyes]; rfl) (by unfold pForge; rw [hyes, hpjc, hvjc, hsjc]; rfl) d_T_forge_88
            · skip
              have hno : qForgeOk S (nI pj) (nI vj) set = false := by unfold qForgeOk; rw [decide_eq_false (p := ¬ 40 ≤ S 31 0) (fun q => q (of_decide_eq_true (tnat_1 h7)))]; simp
              refine lv_iconst (v := (-1)) hx hb d_T_forge_76 (by decide) ?_
              exact x_iret cf hr hlk hP hS (by unfold qForge; rw [hno]; rfl) (by unfold pForge; rw [hno]; rfl) d_T_forge_77
        · skip
          have uh4 := i_ne0 h4
          have hmk0 : ¬ (0 ≤ set.toInt ∧ set.toInt < ((2 ^ S 27 0 : Nat) : Int)) := fun q => h4 ((ushr_iff (by omega)).mpr q)
          have hno : qForgeOk S (nI pj) (nI vj) set = false := by unfold qForgeOk; rw [decide_eq_false hmk0]; simp
          refine lv_iconst (v := nI 1) hx hb d_T_forge_42 (by decide) ?_
          refine lv_goto (tgt := 47) hx hb d_T_forge_43 (by decide) ?_
          refine lv_istore (lv' := [(4, .int (nI 1)), (0, .ref (X.2.2.2 25)), (1, .int (nI pj)), (2, .int (nI vj)), (3, .int set)]) hx hb d_T_forge_47 hl (by decide) rfl (fun ls hl => ?_)
          refine lv_aload_n hx hb d_T_forge_49 rfl (lv_at hl 1 rfl) ?_
          refine lv_aload_n hx hb d_T_forge_50 rfl (lv_at hl 1 rfl) ?_
          refine lv_iload_n hx hb d_T_forge_51 rfl (lv_at hl 3 rfl) ?_
          refine x_callVi (As := [.int (nI vj)]) (rest := [.ref (X.2.2.2 25)]) cf hK hN hP hS (k_T_leaderOf l hX hC (by omega)) (cw_T_leaderOf cf.2.2.2.2 w_239 ⟨Nat.le_of_ble_eq_true rfl, Nat.le_of_ble_eq_true rfl⟩) (rv_T hK hP) hl.1 rfl rfl (Nat.le_of_ble_eq_true rfl) ⟨Nat.zero_le _, Nat.zero_le _⟩ d_T_forge_52 (fun H locs hP hS => ?_)
          have hle := cLeader_lt hC vj
          refine x_callVi (As := [.int (nI (cLeader S vj))]) (rest := []) cf hK hN hP hS (k_T_isCorrupt l hX hC (nI (cLeader S vj))) (cw_T_isCorrupt cf.2.2.2.2 w_368 ⟨Nat.le_of_ble_eq_true rfl, Nat.le_of_ble_eq_true rfl⟩) (rv_T hK hP) hl.1 rfl rfl (Nat.le_of_ble_eq_true rfl) ⟨Nat.zero_le _, Nat.zero_le _⟩ d_T_forge_55 (fun H locs hP hS => ?_)
          refine n_if_eq (tgt := 76) hx hb d_T_forge_58 (by decide) (tnat_lt _) (fun h8 => ?_) (fun h8 => ?_)
          · skip
            have hno : qForgeOk S (nI pj) (nI vj) set = false := by unfold qForgeOk; rw [hvjc, tnat_0 (b := cCorrupt S (nI (cLeader S vj))) h8]; simp
            refine lv_iconst (v := (-1)) hx hb d_T_forge_76 (by decide) ?_
            exact x_iret cf hr hlk hP hS (by unfold qForge; rw [hno]; rfl) (by unfold pForge; rw [hno]; rfl) d_T_forge_77
          · skip
            have hco := tnat_1 h8
            refine lv_iload hx hb d_T_forge_61 (lv_at hl 0 rfl) ?_
            refine n_if_ne (tgt := 76) hx hb d_T_forge_63 (by decide) (by decide) (fun _ => ?_) (fun h9 => absurd h9 (by decide))
            refine lv_iconst (v := (-1)) hx hb d_T_forge_76 (by decide) ?_
            exact x_iret cf hr hlk hP hS (by unfold qForge; rw [hno]; rfl) (by unfold pForge; rw [hno]; rfl) d_T_forge_77
      · skip
        have uh3 := i_nleN (by decide) h3
        have hno : qForgeOk S (nI pj) v set = false := by unfold qForgeOk; rw [decide_eq_false (p := v.toInt ≤ 9999) (by omega)]; simp
        refine lv_iconst (v := (-1)) hx hb d_T_forge_28 (by decide) ?_
        exact x_iret cf hr hlk hP hS (by unfold qForge; rw [hno]; rfl) (by unfold pForge; rw [hno]; rfl) d_T_forge_29
set_option maxRecDepth 100000 in
set_option maxHeartbeats 4000000 in
theorem k_T_state (l : Launch) {X : WX} (hX : xInj X) {S : Nat → Nat → Nat} {V : Nat} (hC : CI V X S) (r w : Int32) : MetI l X y_T_state (Cond.code y_T_state c_T_state 4 (some .int) :: Mst) 2 [.ref (X.2.2.2 25), .int r, .int w] S (qState S X.2.2.1 r w) S := by
  refine MetI.of (by decide) (Nat.le_of_ble_eq_true rfl) ?_
  intro p e s m args below meth c cf hr hlk hP hK hN ls hl
  have hl : lv_has ls 4 [(0, .ref (X.2.2.2 25)), (1, .int r), (2, .int w)] := hl
  have hx := cf.1
  have hb := cf.2.1
  have hD := xD_of hX
  have hS : va_S (xA X) s.heap s.heap [] := va_S.rf
  have hnn := hC.nn
  have hV := hC.V
  have hcn := hC.n
  have htr := hC.tr
  have hblc := hC.bl
  have hro := hC.ro
  obtain ⟨H, hH⟩ : ∃ H, H = s.heap := ⟨_, rfl⟩
  obtain ⟨locs, hlo⟩ : ∃ z : List Loc, z = [] := ⟨_, rfl⟩
  suffices hgo : PW X S H → va_S (xA X) s.heap H locs → W p l e (rmd 2) s m args below meth c H locs 0 0 (MQ below (QcI X (qState S X.2.2.1 r w) S) args s 0 0 (xA X)) (F0 m 0 ls []) by
    subst hH
    subst hlo
    exact hgo hP hS
  clear hP hS
  intro hP hS
  refine lv_aload_n hx hb d_T_state_0 rfl (lv_at hl 0 rfl) ?_
  refine lv_iload_n hx hb d_T_state_1 rfl (lv_at hl 1 rfl) ?_
  refine x_callVi (As := [.int r]) (rest := []) cf hK hN hP hS (k_T_isCorrect l hX hC r) (cw_T_isCorrect cf.2.2.2.2 w_227 ⟨Nat.le_of_ble_eq_true rfl, Nat.le_of_ble_eq_true rfl⟩) (rv_T hK hP) hl.1 rfl rfl (Nat.le_of_ble_eq_true rfl) ⟨Nat.zero_le _, Nat.zero_le _⟩ d_T_state_2 (fun H locs hP hS => ?_)
  refine n_if_ne (tgt := 10) hx hb d_T_state_5 (by decide) (tnat_lt _) (fun h1 => ?_) (fun h1 => ?_)
  · skip
    have hcor := tnat_1 h1
    obtain ⟨j, hr0, rfl, hjc, hjt, hjb⟩ := cCorrect_ex hC hcor
    refine lv_aload_n hx hb d_T_state_10 rfl (lv_at hl 0 rfl) ?_
    refine x_getT (v := .ref (X.2.2.2 26)) cf hK hP 4 (by decide) w_181 rfl d_T_state_11 ?_
    refine lv_iload_n hx hb d_T_state_14 rfl (lv_at hl 1 rfl) ?_
    refine x_aald cf hK hP hX.1 (by omega) d_T_state_15 ?_
    refine lv_astore_n (lv' := [(3, .ref (X.2.2.2 (3 * j + 44))), (0, .ref (X.2.2.2 25)), (1, .int (nI j)), (2, .int w)]) hx hb d_T_state_16 rfl hl (by decide) rfl (fun ls hl => ?_)
    refine lv_iload_n hx hb d_T_state_17 rfl (lv_at hl 3 rfl) ?_
    by_cases hsw0 : w = nI 0
    · subst hsw0
      refine lv_tableIn (off := 50) (tgt := 68) hx hb d_T_state_18 (by decide) (by decide) (by decide) (by decide) ?_
      refine lv_aload_n hx hb d_T_state_68 rfl (lv_at hl 0 rfl) ?_
      refine x_getRp (v := .int (nI (S (3 * j + 44) 0))) cf hK hP hr0 0 (by decide) w_36 rfl d_T_state_69 ?_
      exact x_iret cf hr hlk hP hS (by unfold qState; rw [hcor, hjc]; rfl) (rfl) d_T_state_72
    by_cases hsw1 : w = nI 1
    · subst hsw1
      refine lv_tableIn (off := 55) (tgt := 73) hx hb d_T_state_18 (by decide) (by decide) (by decide) (by decide) ?_
      refine lv_aload_n hx hb d_T_state_73 rfl (lv_at hl 0 rfl) ?_
      refine x_getRp (v := .int (nI (S (3 * j + 44) 1))) cf hK hP hr0 1 (by decide) w_38 rfl d_T_state_74 ?_
      exact x_iret cf hr hlk hP hS (by unfold qState; rw [hcor, hjc]; rfl) (rfl) d_T_state_77
    by_cases hsw2 : w = nI 2
    · subst hsw2
      refine lv_tableIn (off := 60) (tgt := 78) hx hb d_T_state_18 (by decide) (by decide) (by decide) (by decide) ?_
      refine lv_aload_n hx hb d_T_state_78 rfl (lv_at hl 0 rfl) ?_
      refine x_getRp (v := .int (nI (S (3 * j + 44) 2))) cf hK hP hr0 2 (by decide) w_40 rfl d_T_state_79 ?_
      exact x_iret cf hr hlk hP hS (by unfold qState; rw [hcor, hjc]; rfl) (rfl) d_T_state_82
    by_cases hsw3 : w = nI 3
    · subst hsw3
      refine lv_tableIn (off := 65) (tgt := 83) hx hb d_T_state_18 (by decide) (by decide) (by decide) (by decide) ?_
      refine lv_aload_n hx hb d_T_state_83 rfl (lv_at hl 0 rfl) ?_
      refine x_getRp (v := .int (nI (S (3 * j + 44) 3))) cf hK hP hr0 3 (by decide) w_41 rfl d_T_state_84 ?_
      exact x_iret cf hr hlk hP hS (by unfold qState; rw [hcor, hjc]; rfl) (rfl) d_T_state_87
    by_cases hsw4 : w = nI 4
    · subst hsw4
      refine lv_tableIn (off := 70) (tgt := 88) hx hb d_T_state_18 (by decide) (by decide) (by decide) (by decide) ?_
      refine lv_aload_n hx hb d_T_state_88 rfl (lv_at hl 0 rfl) ?_
      refine x_getRp (v := .int (nI (S (3 * j + 44) 4))) cf hK hP hr0 4 (by decide) w_42 rfl d_T_state_89 ?_
      exact x_iret cf hr hlk hP hS (by unfold qState; rw [hcor, hjc]; rfl) (rfl) d_T_state_92
    by_cases hsw5 : w = nI 5
    · subst hsw5
      refine lv_tableIn (off := 75) (tgt := 93) hx hb d_T_state_18 (by decide) (by decide) (by decide) (by decide) ?_
      refine lv_aload_n hx hb d_T_state_93 rfl (lv_at hl 0 rfl) ?_
      refine x_getRp (v := .int (nI (S (3 * j + 44) 6))) cf hK hP hr0 6 (by decide) w_45 rfl d_T_state_94 ?_
      exact x_iret cf hr hlk hP hS (by unfold qState; rw [hcor, hjc]; rfl) (rfl) d_T_state_97
    by_cases hsw6 : w = nI 6
    · subst hsw6
      refine lv_tableIn (off := 80) (tgt := 98) hx hb d_T_state_18 (by decide) (by decide) (by decide) (by decide) ?_
      refine lv_aload_n hx hb d_T_state_98 rfl (lv_at hl 0 rfl) ?_
      refine x_getRp (v := .int (nI (S (3 * j + 44) 7))) cf hK hP hr0 7 (by decide) w_47 rfl d_T_state_99 ?_
      exact x_iret cf hr hlk hP hS (by unfold qState; rw [hcor, hjc]; rfl) (rfl) d_T_state_102
    by_cases hsw7 : w = nI 7
    · subst hsw7
      refine lv_tableIn (off := 85) (tgt := 103) hx hb d_T_state_18 (by decide) (by decide) (by decide) (by decide) ?_
      refine lv_aload_n hx hb d_T_state_103 rfl (lv_at hl 0 rfl) ?_
      refine x_getRp (v := .int (nI (S (3 * j + 44) 8))) cf hK hP hr0 8 (by decide) w_49 rfl d_T_state_104 ?_
      exact x_iret cf hr hlk hP hS (by unfold qState; rw [hcor, hjc]; rfl) (rfl) d_T_state_107
    by_cases hsw8 : w = nI 8
    · subst hsw8
      refine lv_tableIn (off := 90) (tgt := 108) hx hb d_T_state_18 (by decide) (by decide) (by decide) (by decide) ?_
      refine lv_aload_n hx hb d_T_state_108 rfl (lv_at hl 0 rfl) ?_
      refine lv_aload_n hx hb d_T_state_109 rfl (lv_at hl 1 rfl) ?_
      refine x_getT (v := .int (nI (S 25 1))) cf hK hP 1 (by decide) w_178 rfl d_T_state_110 ?_
      refine x_callVi (As := [.int (nI (S 25 1))]) (rest := []) cf hK hN hP hS (k_Rp_push l hX hC hr0 (by omega)) (cw_Rp_push cf.2.2.2.2 w_246 ⟨Nat.le_of_ble_eq_true rfl, Nat.le_of_ble_eq_true rfl⟩) (rv_Rp hK hP hr0) hl.1 rfl rfl (Nat.le_of_ble_eq_true rfl) ⟨Nat.zero_le _, Nat.zero_le _⟩ d_T_state_113 (fun H locs hP hS => ?_)
      exact x_iret cf hr hlk hP hS (by unfold qState; rw [hcor, hjc]; rfl) (rfl) d_T_state_116
    have hswO := tab_out8 (x := w) hsw0 hsw1 hsw2 hsw3 hsw4 hsw5 hsw6 hsw7 hsw8
    refine lv_tableOut (tgt := 117) hx hb d_T_state_18 hswO (by decide) ?_
    refine lv_iconst (v := (-1)) hx hb d_T_state_117 (by decide) ?_
    exact x_iret cf hr hlk hP hS (by unfold qState; rw [hcor, if_neg hsw0, if_neg hsw1, if_neg hsw2, if_neg hsw3, if_neg hsw4, if_neg hsw5, if_neg hsw6, if_neg hsw7, if_neg hsw8]; rfl) (rfl) d_T_state_118
  · skip
    refine lv_iconst (v := (-1)) hx hb d_T_state_8 (by decide) ?_
    exact x_iret cf hr hlk hP hS (by unfold qState; rw [tnat_0 h1]; rfl) (rfl) d_T_state_9
set_option maxRecDepth 100000 in
set_option maxHeartbeats 4000000 in
theorem k_T_committed (l : Launch) {X : WX} (hX : xInj X) {S : Nat → Nat → Nat} {V : Nat} (hC : CI V X S) (r i : Int32) : MetI l X y_T_committed (Cond.code y_T_committed c_T_committed 3 (some .int) :: Mst) 2 [.ref (X.2.2.2 25), .int r, .int i] S (qCommitted S r i) S := by
  refine MetI.of (by decide) (Nat.le_of_ble_eq_true rfl) ?_
  intro p e s m args below meth c cf hr hlk hP hK hN ls hl
  have hl : lv_has ls 3 [(0, .ref (X.2.2.2 25)), (1, .int r), (2, .int i)] := hl
  have hx := cf.1
  have hb := cf.2.1
  have hD := xD_of hX
  have hS : va_S (xA X) s.heap s.heap [] := va_S.rf
  have hnn := hC.nn
  have hV := hC.V
  have hcn := hC.n
  have htr := hC.tr
  have hblc := hC.bl
  have hro := hC.ro
  obtain ⟨H, hH⟩ : ∃ H, H = s.heap := ⟨_, rfl⟩
  obtain ⟨locs, hlo⟩ : ∃ z : List Loc, z = [] := ⟨_, rfl⟩
  suffices hgo : PW X S H → va_S (xA X) s.heap H locs → W p l e (rmd 2) s m args below meth c H locs 0 0 (MQ below (QcI X (qCommitted S r i) S) args s 0 0 (xA X)) (F0 m 0 ls []) by
    subst hH
    subst hlo
    exact hgo hP hS
  clear hP hS
  intro hP hS
  refine lv_aload_n hx hb d_T_committed_0 rfl (lv_at hl 0 rfl) ?_
  refine lv_iload_n hx hb d_T_committed_1 rfl (lv_at hl 1 rfl) ?_
  refine x_callVi (As := [.int r]) (rest := []) cf hK hN hP hS (k_T_isCorrect l hX hC r) (cw_T_isCorrect cf.2.2.2.2 w_227 ⟨Nat.le_of_ble_eq_true rfl, Nat.le_of_ble_eq_true rfl⟩) (rv_T hK hP) hl.1 rfl rfl (Nat.le_of_ble_eq_true rfl) ⟨Nat.zero_le _, Nat.zero_le _⟩ d_T_committed_2 (fun H locs hP hS => ?_)
  refine n_if_eq (tgt := 12) hx hb d_T_committed_5 (by decide) (tnat_lt _) (fun h1 => ?_) (fun h1 => ?_)
  · skip
    refine lv_iconst (v := (-1)) hx hb d_T_committed_12 (by decide) ?_
    exact x_iret cf hr hlk hP hS (by unfold qCommitted; rw [if_neg (fun q => by rw [tnat_0 h1] at q; exact absurd q.1 (by decide))]) (rfl) d_T_committed_13
  · skip
    have hcor := tnat_1 h1
    obtain ⟨j, hr0, rfl, hjc, hjt, hjb⟩ := cCorrect_ex hC hcor
    refine lv_iload_n hx hb d_T_committed_8 rfl (lv_at hl 2 rfl) ?_
    refine lv_if_ge (tgt := 14) hx hb d_T_committed_9 (by decide) (fun h2 => ?_) (fun h2 => ?_)
    · skip
      have uh2 := i_ge0 h2
      refine lv_aload_n hx hb d_T_committed_14 rfl (lv_at hl 0 rfl) ?_
      refine x_getT (v := .ref (X.2.2.2 31)) cf hK hP 6 (by decide) w_183 rfl d_T_committed_15 ?_
      refine lv_aload_n hx hb d_T_committed_18 rfl (lv_at hl 0 rfl) ?_
      refine x_getT (v := .ref (X.2.2.2 26)) cf hK hP 4 (by decide) w_181 rfl d_T_committed_19 ?_
      refine lv_iload_n hx hb d_T_committed_22 rfl (lv_at hl 1 rfl) ?_
      refine x_aald cf hK hP hX.1 (by omega) d_T_committed_23 ?_
      refine x_getRp (v := .int (nI (S (3 * j + 44) 8))) cf hK hP hr0 8 (by decide) w_49 rfl d_T_committed_24 ?_
      refine lv_iload_n hx hb d_T_committed_27 rfl (lv_at hl 2 rfl) ?_
      refine x_callVi (As := [.int (nI (S (3 * j + 44) 8)), .int i]) (rest := []) cf hK hN hP hS (k_Bl_atPlace l hX hC (by have := (hC.rp j); omega) i) (cw_Bl_atPlace cf.2.2.2.2 w_417 ⟨Nat.le_of_ble_eq_true rfl, Nat.le_of_ble_eq_true rfl⟩) (rv_Bl hK hP) hl.1 rfl rfl (Nat.le_of_ble_eq_true rfl) ⟨Nat.zero_le _, Nat.zero_le _⟩ d_T_committed_28 (fun H locs hP hS => ?_)
      exact x_iret cf hr hlk hP hS (by unfold qCommitted; rw [if_pos ⟨hcor, by omega⟩, hjc]) (rfl) d_T_committed_31
    · skip
      have uh2 := i_nge0 h2
      refine lv_iconst (v := (-1)) hx hb d_T_committed_12 (by decide) ?_
      exact x_iret cf hr hlk hP hS (by unfold qCommitted; rw [if_neg (by omega)]) (rfl) d_T_committed_13
set_option maxRecDepth 100000 in
set_option maxHeartbeats 4000000 in
theorem k_T_balance (l : Launch) {X : WX} (hX : xInj X) {S : Nat → Nat → Nat} {V : Nat} (hC : CI V X S) (r a : Int32) : MetI l X y_T_balance (Cond.code y_T_balance c_T_balance 3 (some .int) :: Mst) 3 [.ref (X.2.2.2 25), .int r, .int a] S (qBalance S r a) (pBalance S r a) := by
  refine MetI.of (by decide) (Nat.le_of_ble_eq_true rfl) ?_
  intro p e s m args below meth c cf hr hlk hP hK hN ls hl
  have hl : lv_has ls 3 [(0, .ref (X.2.2.2 25)), (1, .int r), (2, .int a)] := hl
  have hx := cf.1
  have hb := cf.2.1
  have hD := xD_of hX
  have hS : va_S (xA X) s.heap s.heap [] := va_S.rf
  have hnn := hC.nn
  have hV := hC.V
  have hcn := hC.n
  have htr := hC.tr
  have hblc := hC.bl
  have hro := hC.ro
  obtain ⟨H, hH⟩ : ∃ H, H = s.heap := ⟨_, rfl⟩
  obtain ⟨locs, hlo⟩ : ∃ z : List Loc, z = [] := ⟨_, rfl⟩
  suffices hgo : PW X S H → va_S (xA X) s.heap H locs → W p l e (rmd 3) s m args below meth c H locs 0 0 (MQ below (QcI X (qBalance S r a) (pBalance S r a)) args s 0 0 (xA X)) (F0 m 0 ls []) by
    subst hH
    subst hlo
    exact hgo hP hS
  clear hP hS
  intro hP hS
  refine lv_aload_n hx hb d_T_balance_0 rfl (lv_at hl 0 rfl) ?_
  refine lv_iload_n hx hb d_T_balance_1 rfl (lv_at hl 1 rfl) ?_
  refine x_callVi (As := [.int r]) (rest := []) cf hK hN hP hS (k_T_isCorrect l hX hC r) (cw_T_isCorrect cf.2.2.2.2 w_227 ⟨Nat.le_of_ble_eq_true rfl, Nat.le_of_ble_eq_true rfl⟩) (rv_T hK hP) hl.1 rfl rfl (Nat.le_of_ble_eq_true rfl) ⟨Nat.zero_le _, Nat.zero_le _⟩ d_T_balance_2 (fun H locs hP hS => ?_)
  refine n_if_eq (tgt := 15) hx hb d_T_balance_5 (by decide) (tnat_lt _) (fun h1 => ?_) (fun h1 => ?_)
  · skip
    refine lv_iconst (v := (-1)) hx hb d_T_balance_15 (by decide) ?_
    exact x_iret cf hr hlk hP hS (by unfold qBalance; rw [if_neg (fun q => by rw [tnat_0 h1] at q; exact absurd q.1 (by decide))]) (by unfold pBalance; rw [if_neg (fun q => by rw [tnat_0 h1] at q; exact absurd q.1 (by decide))]) d_T_balance_16
  · skip
    have hcor := tnat_1 h1
    obtain ⟨j, hr0, rfl, hjc, hjt, hjb⟩ := cCorrect_ex hC hcor
    refine lv_iload_n hx hb d_T_balance_8 rfl (lv_at hl 2 rfl) ?_
    refine x_callSi (As := [.int a]) (rest := []) cf hK hN hP hS (k_T_isAccount l hX a) (cw_T_isAccount cf.2.2.2.2 w_209 ⟨Nat.le_of_ble_eq_true rfl, Nat.le_of_ble_eq_true rfl⟩) hl.1 rfl rfl (Nat.le_of_ble_eq_true rfl) ⟨Nat.zero_le _, Nat.zero_le _⟩ d_T_balance_9 (fun H locs hP hS => ?_)
    refine n_if_ne (tgt := 17) hx hb d_T_balance_12 (by decide) (tnat_lt _) (fun h2 => ?_) (fun h2 => ?_)
    · skip
      have hacc := of_decide_eq_true (tnat_1 h2)
      obtain ⟨k, hk31, rfl, hkt, hkc⟩ := i_nat (x := a) hacc.1
      refine lv_aload_n hx hb d_T_balance_17 rfl (lv_at hl 0 rfl) ?_
      refine x_getT (v := .ref (X.2.2.2 41)) cf hK hP 8 (by decide) w_185 rfl d_T_balance_18 ?_
      refine lv_aload_n hx hb d_T_balance_21 rfl (lv_at hl 0 rfl) ?_
      refine x_getT (v := .ref (X.2.2.2 26)) cf hK hP 4 (by decide) w_181 rfl d_T_balance_22 ?_
      refine lv_iload_n hx hb d_T_balance_25 rfl (lv_at hl 1 rfl) ?_
      refine x_aald cf hK hP hX.1 (by omega) d_T_balance_26 ?_
      refine x_getRp (v := .int (nI (S (3 * j + 44) 8))) cf hK hP hr0 8 (by decide) w_49 rfl d_T_balance_27 ?_
      refine lv_aload_n hx hb d_T_balance_30 rfl (lv_at hl 0 rfl) ?_
      refine x_getT (v := .ref (X.2.2.2 31)) cf hK hP 6 (by decide) w_183 rfl d_T_balance_31 ?_
      refine lv_aload_n hx hb d_T_balance_34 rfl (lv_at hl 0 rfl) ?_
      refine x_getT (v := .ref (X.2.2.2 27)) cf hK hP 5 (by decide) w_182 rfl d_T_balance_35 ?_
      refine x_callVv (As := [.int (nI (S (3 * j + 44) 8)), .ref (X.2.2.2 31), .ref (X.2.2.2 27)]) (rest := []) cf hK hN hP hS (k_Le_replay l hX hC (by have := (hC.rp j); omega)) (cw_Le_replay cf.2.2.2.2 w_426 ⟨Nat.le_of_ble_eq_true rfl, Nat.le_of_ble_eq_true rfl⟩) (rv_Le hK hP) hl.1 rfl rfl (Nat.le_of_ble_eq_true rfl) ⟨Nat.zero_le _, Nat.zero_le _⟩ d_T_balance_38 (fun H locs hP hS => ?_)
      refine lv_aload_n hx hb d_T_balance_41 rfl (lv_at hl 0 rfl) ?_
      refine x_getT (v := .ref (X.2.2.2 41)) cf hK hP 8 (by decide) w_185 rfl d_T_balance_42 ?_
      refine x_getLe (v := .ref (X.2.2.2 42)) cf hK hP 0 (by decide) w_169 rfl d_T_balance_45 ?_
      refine lv_iload_n hx hb d_T_balance_48 rfl (lv_at hl 2 rfl) ?_
      refine x_iald (v := ((cReplay S (S (3 * j + 44) 8)) 42 k)) cf hK hP (ia42 X) (by omega) rfl d_T_balance_49 ?_
      exact x_iret cf hr hlk hP hS (by unfold qBalance; rw [if_pos ⟨hcor, hacc⟩, hjc, hkc]) (by unfold pBalance; rw [if_pos ⟨hcor, hacc⟩, hjc]) d_T_balance_50
    · skip
      have hacc0 := of_decide_eq_false (tnat_0 h2)
      refine lv_iconst (v := (-1)) hx hb d_T_balance_15 (by decide) ?_
      exact x_iret cf hr hlk hP hS (by unfold qBalance; rw [if_neg (fun q => hacc0 q.2)]) (by unfold pBalance; rw [if_neg (fun q => hacc0 q.2)]) d_T_balance_16
set_option maxRecDepth 100000 in
set_option maxHeartbeats 4000000 in
theorem k_T_outcome (l : Launch) {X : WX} (hX : xInj X) {S : Nat → Nat → Nat} {V : Nat} (hC : CI V X S) (r t : Int32) : MetI l X y_T_outcome (Cond.code y_T_outcome c_T_outcome 3 (some .int) :: Mst) 3 [.ref (X.2.2.2 25), .int r, .int t] S (qOutcome S r t) (pOutcome S r t) := by
  refine MetI.of (by decide) (Nat.le_of_ble_eq_true rfl) ?_
  intro p e s m args below meth c cf hr hlk hP hK hN ls hl
  have hl : lv_has ls 3 [(0, .ref (X.2.2.2 25)), (1, .int r), (2, .int t)] := hl
  have hx := cf.1
  have hb := cf.2.1
  have hD := xD_of hX
  have hS : va_S (xA X) s.heap s.heap [] := va_S.rf
  have hnn := hC.nn
  have hV := hC.V
  have hcn := hC.n
  have htr := hC.tr
  have hblc := hC.bl
  have hro := hC.ro
  obtain ⟨H, hH⟩ : ∃ H, H = s.heap := ⟨_, rfl⟩
  obtain ⟨locs, hlo⟩ : ∃ z : List Loc, z = [] := ⟨_, rfl⟩
  suffices hgo : PW X S H → va_S (xA X) s.heap H locs → W p l e (rmd 3) s m args below meth c H locs 0 0 (MQ below (QcI X (qOutcome S r t) (pOutcome S r t)) args s 0 0 (xA X)) (F0 m 0 ls []) by
    subst hH
    subst hlo
    exact hgo hP hS
  clear hP hS
  intro hP hS
  refine lv_aload_n hx hb d_T_outcome_0 rfl (lv_at hl 0 rfl) ?_
  refine lv_iload_n hx hb d_T_outcome_1 rfl (lv_at hl 1 rfl) ?_
  refine x_callVi (As := [.int r]) (rest := []) cf hK hN hP hS (k_T_isCorrect l hX hC r) (cw_T_isCorrect cf.2.2.2.2 w_227 ⟨Nat.le_of_ble_eq_true rfl, Nat.le_of_ble_eq_true rfl⟩) (rv_T hK hP) hl.1 rfl rfl (Nat.le_of_ble_eq_true rfl) ⟨Nat.zero_le _, Nat.zero_le _⟩ d_T_outcome_2 (fun H locs hP hS => ?_)
  refine n_if_eq (tgt := 19) hx hb d_T_outcome_5 (by decide) (tnat_lt _) (fun h1 => ?_) (fun h1 => ?_)
  · skip
    refine lv_iconst (v := (-1)) hx hb d_T_outcome_19 (by decide) ?_
    exact x_iret cf hr hlk hP hS (by unfold qOutcome; rw [if_neg (fun q => by rw [tnat_0 h1] at q; exact absurd q.1 (by decide))]) (by unfold pOutcome; rw [if_neg (fun q => by rw [tnat_0 h1] at q; exact absurd q.1 (by decide))]) d_T_outcome_20
  · skip
    have hcor := tnat_1 h1
    obtain ⟨j, hr0, rfl, hjc, hjt, hjb⟩ := cCorrect_ex hC hcor
    refine lv_aload_n hx hb d_T_outcome_8 rfl (lv_at hl 0 rfl) ?_
    refine x_getT (v := .ref (X.2.2.2 27)) cf hK hP 5 (by decide) w_182 rfl d_T_outcome_9 ?_
    refine lv_iload_n hx hb d_T_outcome_12 rfl (lv_at hl 2 rfl) ?_
    refine x_callVi (As := [.int t]) (rest := []) cf hK hN hP hS (k_Tr_has l hX hC t) (cw_Tr_has cf.2.2.2.2 w_444 ⟨Nat.le_of_ble_eq_true rfl, Nat.le_of_ble_eq_true rfl⟩) (rv_Tr hK hP) hl.1 rfl rfl (Nat.le_of_ble_eq_true rfl) ⟨Nat.zero_le _, Nat.zero_le _⟩ d_T_outcome_13 (fun H locs hP hS => ?_)
    refine n_if_ne (tgt := 21) hx hb d_T_outcome_16 (by decide) (tnat_lt _) (fun h2 => ?_) (fun h2 => ?_)
    · skip
      have hth := tnat_1 h2
      obtain ⟨k, hk, rfl, hkc, hkt⟩ := cTrHas_nI hth
      refine lv_aload_n hx hb d_T_outcome_21 rfl (lv_at hl 0 rfl) ?_
      refine x_getT (v := .ref (X.2.2.2 41)) cf hK hP 8 (by decide) w_185 rfl d_T_outcome_22 ?_
      refine lv_aload_n hx hb d_T_outcome_25 rfl (lv_at hl 0 rfl) ?_
      refine x_getT (v := .ref (X.2.2.2 26)) cf hK hP 4 (by decide) w_181 rfl d_T_outcome_26 ?_
      refine lv_iload_n hx hb d_T_outcome_29 rfl (lv_at hl 1 rfl) ?_
      refine x_aald cf hK hP hX.1 (by omega) d_T_outcome_30 ?_
      refine x_getRp (v := .int (nI (S (3 * j + 44) 8))) cf hK hP hr0 8 (by decide) w_49 rfl d_T_outcome_31 ?_
      refine lv_aload_n hx hb d_T_outcome_34 rfl (lv_at hl 0 rfl) ?_
      refine x_getT (v := .ref (X.2.2.2 31)) cf hK hP 6 (by decide) w_183 rfl d_T_outcome_35 ?_
      refine lv_aload_n hx hb d_T_outcome_38 rfl (lv_at hl 0 rfl) ?_
      refine x_getT (v := .ref (X.2.2.2 27)) cf hK hP 5 (by decide) w_182 rfl d_T_outcome_39 ?_
      refine x_callVv (As := [.int (nI (S (3 * j + 44) 8)), .ref (X.2.2.2 31), .ref (X.2.2.2 27)]) (rest := []) cf hK hN hP hS (k_Le_replay l hX hC (by have := (hC.rp j); omega)) (cw_Le_replay cf.2.2.2.2 w_426 ⟨Nat.le_of_ble_eq_true rfl, Nat.le_of_ble_eq_true rfl⟩) (rv_Le hK hP) hl.1 rfl rfl (Nat.le_of_ble_eq_true rfl) ⟨Nat.zero_le _, Nat.zero_le _⟩ d_T_outcome_42 (fun H locs hP hS => ?_)
      refine lv_aload_n hx hb d_T_outcome_45 rfl (lv_at hl 0 rfl) ?_
      refine x_getT (v := .ref (X.2.2.2 41)) cf hK hP 8 (by decide) w_185 rfl d_T_outcome_46 ?_
      refine x_getLe (v := .ref (X.2.2.2 43)) cf hK hP 1 (by decide) w_171 rfl d_T_outcome_49 ?_
      refine lv_iload_n hx hb d_T_outcome_52 rfl (lv_at hl 2 rfl) ?_
      refine x_iald (v := ((cReplay S (S (3 * j + 44) 8)) 43 k)) cf hK hP (ia43 X) (by omega) rfl d_T_outcome_53 ?_
      exact x_iret cf hr hlk hP hS (by unfold qOutcome; rw [if_pos ⟨hcor, hth⟩, hjc, hkc]) (by unfold pOutcome; rw [if_pos ⟨hcor, hth⟩, hjc]) d_T_outcome_54
    · skip
      refine lv_iconst (v := (-1)) hx hb d_T_outcome_19 (by decide) ?_
      exact x_iret cf hr hlk hP hS (by unfold qOutcome; rw [if_neg (fun q => by rw [tnat_0 h2] at q; exact absurd q.2 (by decide))]) (by unfold pOutcome; rw [if_neg (fun q => by rw [tnat_0 h2] at q; exact absurd q.2 (by decide))]) d_T_outcome_20
