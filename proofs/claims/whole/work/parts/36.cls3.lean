def cGP1 (S : Nat → Nat → Nat) (r b : Nat) : Nat → Nat → Nat := if cSee S r (S 33 b) (3 * r + 44) 0 < S 32 b then cEnter (cSee S r (S 33 b)) r (S 32 b) else cSee S r (S 33 b)
def cVotes (T : Nat → Nat → Nat) (r b v : Nat) : Bool := decide (T (3 * r + 44) 0 = v) && decide (T (3 * r + 44) 3 < v) && cSafe T (T (3 * r + 44) 7) b
def cGetProposal (S : Nat → Nat → Nat) (r b : Nat) : Nat → Nat → Nat := if cVotes (cGP1 S r b) r b (S 32 b) = true then cSend (up2 (up2 (cGP1 S r b) (3 * r + 44) 3 (S 32 b)) 35 b (cGP1 S r b 35 b ||| 1 * 2 ^ r)) 1 (cLeader (cGP1 S r b) (S 32 b + 1)) r b 0 else cGP1 S r b
def cGetVote (S : Nat → Nat → Nat) (r x b : Nat) : Nat → Nat → Nat := if S 25 1 ≤ mSize (S (3 * r + 45) b ||| 1 * 2 ^ x) then cSee (up2 S (3 * r + 45) b (S (3 * r + 45) b ||| 1 * 2 ^ x)) r b else up2 S (3 * r + 45) b (S (3 * r + 45) b ||| 1 * 2 ^ x)
def cGN1 (S : Nat → Nat → Nat) (r x b v : Nat) : Nat → Nat → Nat := cSee (up2 S (3 * r + 46) x (if S (3 * r + 46) x < v then v else S (3 * r + 46) x)) r b
def cGetNewView (S : Nat → Nat → Nat) (n r x b v : Nat) : Nat → Nat → Nat := if cGN1 S r x b v (3 * r + 44) 0 < cPush (cGN1 S r x b v) n r (cGN1 S r x b v 25 1) then cEnter (cGN1 S r x b v) r (cPush (cGN1 S r x b v) n r (cGN1 S r x b v 25 1)) else cGN1 S r x b v
def cMay (S : Nat → Nat → Nat) (n r : Nat) : Bool := decide (cLeader S (S (3 * r + 44) 0) = r) && decide (¬ S (3 * r + 44) 4 = S (3 * r + 44) 0) && (decide (S (3 * r + 44) 0 = 1) || decide (S 32 (S (3 * r + 44) 6) = S (3 * r + 44) 0 - 1) || decide (S (3 * r + 44) 0 ≤ cPush S n r (S 25 1)))
def cMaySend (S : Nat → Nat → Nat) (b r : Int32) : Bool := decide (¬ b.toInt = 0) && cHas S b && cRepl S r && decide (¬ 40 ≤ S 38 0)
def cHand (S : Nat → Nat → Nat) (n i : Nat) : Nat → Nat → Nat :=
  if cCorrect S (nI (S 39 i / 4 % 8)) = true then
    (if S 39 i % 4 = 0 then cGetProposal (cRem S i) (S 39 i / 4 % 8) (S 39 i / 256)
     else if S 39 i % 4 = 1 then cGetVote (cRem S i) (S 39 i / 4 % 8) (S 39 i / 32 % 8) (S 39 i / 256)
     else cGetNewView (cRem S i) n (S 39 i / 4 % 8) (S 39 i / 32 % 8) (S 39 i / 256) (S 40 i))
  else cRem S i
theorem cLeader_congr {S T : Nat → Nat → Nat} (h : T 25 = S 25) (v : Nat) : cLeader T v = cLeader S v := by
  unfold cLeader
  rw [h]
theorem cCorrect_congr {S T : Nat → Nat → Nat} (h : T 25 = S 25) (r : Int32) : cCorrect T r = cCorrect S r := by
  unfold cCorrect cRepl
  rw [h]
theorem max_nI {a b : Nat} (ha : a < 2 ^ 31) (hb : b < 2 ^ 31) : (if nI a < nI b then nI b else nI a) = nI (if a < b then b else a) := by
  by_cases h : a < b
  · rw [if_pos h, if_pos ((nI_ltI ha hb).mpr h)]
  · rw [if_neg h, if_neg (fun q => h ((nI_ltI ha hb).mp q))]
theorem min_nI {a b : Nat} (ha : a < 2 ^ 31) (hb : b < 2 ^ 31) : (if nI b < nI a then nI b else nI a) = nI (if b < a then b else a) := by
  by_cases h : b < a
  · rw [if_pos h, if_pos ((nI_ltI hb ha).mpr h)]
  · rw [if_neg h, if_neg (fun q => h ((nI_ltI hb ha).mp q))]
theorem co_kind (c : Nat) : c &&& 3 = c % 4 := Nat.and_two_pow_sub_one_eq_mod c 2
theorem co_to (c : Nat) : (c / 2 ^ 2) &&& 7 = c / 4 % 8 := Nat.and_two_pow_sub_one_eq_mod (c / 4) 3
theorem co_from (c : Nat) : (c / 2 ^ 5) &&& 7 = c / 32 % 8 := Nat.and_two_pow_sub_one_eq_mod (c / 32) 3
theorem co_b (c : Nat) : c / 2 ^ 8 = c / 256 := rfl
theorem CI.rem {V : Nat} {X : WX} {S : Nat → Nat → Nat} {i : Nat} (h : CI V X S) : CI V X (cRem S i) := by
  have hr := h.ro
  have h1 : CI V X (up2 S 38 0 (S 38 0 - 1)) := h.up (k := 38) (j := 0) (fun _ => by omega)
  refine ⟨h.1, h.2.1, fun k j => ?_⟩
  unfold cRem
  by_cases hk40 : k = 40
  · subst hk40
    rw [va_up_self]
    show va_cpy _ _ _ _ _ j < 2147483648
    unfold va_cpy
    split
    · exact (show S 40 _ < 2147483648 from h.c 40 _)
    · exact (show S 40 _ < 2147483648 from h.c 40 _)
  · rw [va_up_ne _ _ hk40]
    by_cases hk39 : k = 39
    · subst hk39
      rw [va_up_self]
      unfold va_cpy
      split
      · exact h.c 39 _
      · exact h.c 39 _
    · rw [va_up_ne _ _ hk39]
      exact h1.c k j
theorem cRem_ne {S : Nat → Nat → Nat} {i row : Nat} (h1 : row ≠ 38) (h2 : row ≠ 39) (h3 : row ≠ 40) : cRem S i row = S row := by
  unfold cRem
  rw [va_up_ne _ _ h3, va_up_ne _ _ h2, up2_ne _ _ _ h1]
theorem CI.gp1 {V : Nat} {X : WX} {S : Nat → Nat → Nat} {r b : Nat} (h : CI V X S) : CI V X (cGP1 S r b) := by
  have h5 := (show S 32 b + 1 ≤ V from h.c 32 b)
  have h1 := h.see (r := r) (show S 33 b < 40 from h.c 33 b)
  unfold cGP1
  split
  · exact h1.enter (by omega) (by omega)
  · exact h1
set_option maxRecDepth 100000 in
set_option maxHeartbeats 4000000 in
theorem k_T_getProposal (l : Launch) {X : WX} (hX : xInj X) {S : Nat → Nat → Nat} {V : Nat} (hC : CI V X S) {r : Nat} (hr0 : r < X.2.2.1) {b : Nat} (hb0 : b < 40) : MetV l X y_T_getProposal (Cond.code y_T_getProposal c_T_getProposal 5 none :: Mst) 2 [.ref (X.2.2.2 25), .int (nI r), .int (nI b)] S (cGetProposal S r b) := by
  refine MetV.of (by decide) (Nat.le_of_ble_eq_true rfl) ?_
  intro p e s m args below meth c cf hr hlk hP hK hN ls hl
  have hl : lv_has ls 5 [(0, .ref (X.2.2.2 25)), (1, .int (nI r)), (2, .int (nI b))] := hl
  have hx := cf.1
  have hb := cf.2.1
  have hD := xD_of hX
  have hS : va_S (xA X) s.heap s.heap [] := va_S.rf
  have hnn := hC.nn
  have hV := hC.V
  have hcn := hC.n
  have htr := hC.tr
  have hblc := hC.bl
  have hro := hC.ro
  obtain ⟨H, hH⟩ : ∃ H, H = s.heap := ⟨_, rfl⟩
  obtain ⟨locs, hlo⟩ : ∃ z : List Loc, z = [] := ⟨_, rfl⟩
  suffices hgo : PW X S H → va_S (xA X) s.heap H locs → W p l e (rmd 2) s m args below meth c H locs 0 0 (MQ below (QcV X (cGetProposal S r b)) args s 0 0 (xA X)) (F0 m 0 ls []) by
    subst hH
    subst hlo
    exact hgo hP hS
  clear hP hS
  intro hP hS
  refine lv_aload_n hx hb d_T_getProposal_0 rfl (lv_at hl 0 rfl) ?_
  refine x_getT (v := .ref (X.2.2.2 26)) cf hK hP 4 (by decide) w_181 rfl d_T_getProposal_1 ?_
  refine lv_iload_n hx hb d_T_getProposal_4 rfl (lv_at hl 1 rfl) ?_
  refine x_aald cf hK hP hX.1 (by omega) d_T_getProposal_5 ?_
  refine lv_astore_n (lv' := [(3, .ref (X.2.2.2 (3 * r + 44))), (0, .ref (X.2.2.2 25)), (1, .int (nI r)), (2, .int (nI b))]) hx hb d_T_getProposal_6 rfl hl (by decide) rfl (fun ls hl => ?_)
  refine lv_aload_n hx hb d_T_getProposal_7 rfl (lv_at hl 1 rfl) ?_
  refine x_getT (v := .ref (X.2.2.2 31)) cf hK hP 6 (by decide) w_183 rfl d_T_getProposal_8 ?_
  refine x_getBl (v := .ref (X.2.2.2 32)) cf hK hP 0 (by decide) w_110 rfl d_T_getProposal_11 ?_
  refine lv_iload_n hx hb d_T_getProposal_14 rfl (lv_at hl 3 rfl) ?_
  refine x_iald (v := (S 32 b)) cf hK hP (ia32 X) (by omega) rfl d_T_getProposal_15 ?_
  refine lv_istore (lv' := [(4, .int (nI (S 32 b))), (3, .ref (X.2.2.2 (3 * r + 44))), (0, .ref (X.2.2.2 25)), (1, .int (nI r)), (2, .int (nI b))]) hx hb d_T_getProposal_16 hl (by decide) rfl (fun ls hl => ?_)
  refine lv_aload_n hx hb d_T_getProposal_18 rfl (lv_at hl 1 rfl) ?_
  refine lv_aload_n hx hb d_T_getProposal_19 rfl (lv_at hl 2 rfl) ?_
  refine x_getT (v := .ref (X.2.2.2 31)) cf hK hP 6 (by decide) w_183 rfl d_T_getProposal_20 ?_
  refine x_getBl (v := .ref (X.2.2.2 33)) cf hK hP 1 (by decide) w_113 rfl d_T_getProposal_23 ?_
  refine lv_iload_n hx hb d_T_getProposal_26 rfl (lv_at hl 4 rfl) ?_
  refine x_iald (v := (S 33 b)) cf hK hP (ia33 X) (by omega) rfl d_T_getProposal_27 ?_
  refine lv_aload_n hx hb d_T_getProposal_28 rfl (lv_at hl 2 rfl) ?_
  refine x_getT (v := .ref (X.2.2.2 31)) cf hK hP 6 (by decide) w_183 rfl d_T_getProposal_29 ?_
  refine x_callVv (As := [.int (nI (S 33 b)), .ref (X.2.2.2 31)]) (rest := []) cf hK hN hP hS (k_Rp_see l hX hC hr0 (by have := (show S 33 b < 40 from hC.c 33 b); omega)) (cw_Rp_see cf.2.2.2.2 w_310 ⟨Nat.le_of_ble_eq_true rfl, Nat.le_of_ble_eq_true rfl⟩) (rv_Rp hK hP hr0) hl.1 rfl rfl (Nat.le_of_ble_eq_true rfl) ⟨Nat.zero_le _, Nat.zero_le _⟩ d_T_getProposal_32 (fun H locs hP hS => ?_)
  obtain ⟨T1, hT1⟩ : ∃ z, z = (cSee S r (S 33 b)) := ⟨_, rfl⟩
  rw [← hT1] at hP
  have hC1 : CI V X T1 := by rw [hT1]; exact hC.see (show S 33 b < 40 from hC.c 33 b)
  have cut50 : ∀ (T2 : Nat → Nat → Nat) (ls : Array Slot) (H : Heap) (locs : List Loc), lv_has ls 5 [(0, .ref (X.2.2.2 25)), (1, .int (nI r)), (2, .int (nI b)), (3, .ref (X.2.2.2 (3 * r + 44))), (4, .int (nI (S 32 b)))] → PW X T2 H → va_S (xA X) s.heap H locs → (CI V X T2) → (T2 = cGP1 S r b) → W p l e (rmd 2) s m args below meth c H locs 0 0 (MQ below (QcV X (cGetProposal S r b)) args s 0 0 (xA X)) (F0 m 50 ls []) := by
    intro T2 ls H locs hl hP hS hC2 hG
    have hn2 := hC2.n
    have hrp2 := hC2.rp r
    refine lv_aload_n hx hb d_T_getProposal_50 rfl (lv_at hl 3 rfl) ?_
    refine x_getRp (v := .int (nI (T2 (3 * r + 44) 0))) cf hK hP hr0 0 (by decide) w_36 rfl d_T_getProposal_51 ?_
    refine lv_iload hx hb d_T_getProposal_54 (lv_at hl 4 rfl) ?_
    refine n_icmp_ne (tgt := 120) hx hb d_T_getProposal_56 (by decide) (by have := (hC2.rp r); omega) (by have := (show S 32 b + 1 ≤ V from hC.c 32 b); omega) (fun h1 => ?_) (fun h1 => ?_)
    · skip
      exact x_vret cf hr hlk hP hS (by unfold cGetProposal; rw [← hG, if_neg (by unfold cVotes; rw [decide_eq_false (p := T2 (3 * r + 44) 0 = S 32 b) (by omega)]; simp)]) d_T_getProposal_120
    · skip
      refine lv_aload_n hx hb d_T_getProposal_59 rfl (lv_at hl 3 rfl) ?_
      refine x_getRp (v := .int (nI (T2 (3 * r + 44) 3))) cf hK hP hr0 3 (by decide) w_41 rfl d_T_getProposal_60 ?_
      refine lv_iload hx hb d_T_getProposal_63 (lv_at hl 4 rfl) ?_
      refine n_icmp_ge (tgt := 120) hx hb d_T_getProposal_65 (by decide) (by have := (hC2.rp r); omega) (by have := (show S 32 b + 1 ≤ V from hC.c 32 b); omega) (fun h2 => ?_) (fun h2 => ?_)
      · skip
        exact x_vret cf hr hlk hP hS (by unfold cGetProposal; rw [← hG, if_neg (by unfold cVotes; rw [decide_eq_false (p := T2 (3 * r + 44) 3 < S 32 b) (by omega)]; simp)]) d_T_getProposal_120
      · skip
        refine lv_aload_n hx hb d_T_getProposal_68 rfl (lv_at hl 0 rfl) ?_
        refine lv_aload_n hx hb d_T_getProposal_69 rfl (lv_at hl 3 rfl) ?_
        refine x_getRp (v := .int (nI (T2 (3 * r + 44) 7))) cf hK hP hr0 7 (by decide) w_47 rfl d_T_getProposal_70 ?_
        refine lv_iload_n hx hb d_T_getProposal_73 rfl (lv_at hl 2 rfl) ?_
        refine x_callVi (As := [.int (nI (T2 (3 * r + 44) 7)), .int (nI b)]) (rest := []) cf hK hN hP hS (k_T_isSafe l hX hC2 (by have := (hC2.rp r); omega) (by omega)) (cw_T_isSafe cf.2.2.2.2 w_323 ⟨Nat.le_of_ble_eq_true rfl, Nat.le_of_ble_eq_true rfl⟩) (rv_T hK hP) hl.1 rfl rfl (Nat.le_of_ble_eq_true rfl) ⟨Nat.zero_le _, Nat.zero_le _⟩ d_T_getProposal_74 (fun H locs hP hS => ?_)
        refine n_if_eq (tgt := 120) hx hb d_T_getProposal_77 (by decide) (tnat_lt _) (fun h3 => ?_) (fun h3 => ?_)
        · skip
          exact x_vret cf hr hlk hP hS (by unfold cGetProposal; rw [← hG, if_neg (by unfold cVotes; rw [tnat_0 (b := cSafe T2 (T2 (3 * r + 44) 7) b) (by assumption)]; simp)]) d_T_getProposal_120
        · skip
          refine lv_aload_n hx hb d_T_getProposal_80 rfl (lv_at hl 3 rfl) ?_
          refine lv_iload hx hb d_T_getProposal_81 (lv_at hl 4 rfl) ?_
          refine x_putRp cf hK hD hP hS hr0 3 (by decide) w_41 rfl (by decide +kernel) 3 rfl d_T_getProposal_83 (fun H locs hP hS => ?_)
          refine lv_aload_n hx hb d_T_getProposal_86 rfl (lv_at hl 0 rfl) ?_
          refine x_getT (v := .ref (X.2.2.2 31)) cf hK hP 6 (by decide) w_183 rfl d_T_getProposal_87 ?_
          refine x_getBl (v := .ref (X.2.2.2 35)) cf hK hP 3 (by decide) w_118 rfl d_T_getProposal_90 ?_
          refine lv_iload_n hx hb d_T_getProposal_93 rfl (lv_at hl 2 rfl) ?_
          refine lv_dup2_11 hx hb d_T_getProposal_94 rfl rfl ?_
          refine x_iald (v := (T2 35 b)) cf hK hP (ia35 X) (by omega) (by first | rfl | (simp [up2_at]; done) | (rw [upR_ne (by decide)]) | (rw [up2_at, if_neg (by omega)])) d_T_getProposal_95 ?_
          refine lv_iconst (v := nI 1) hx hb d_T_getProposal_96 (by decide) ?_
          refine lv_iload_n hx hb d_T_getProposal_97 rfl (lv_at hl 1 rfl) ?_
          refine n_ishl hx hb (by omega) (by have := p2_128 r (by omega); omega) d_T_getProposal_98 ?_
          refine n_ior hx hb d_T_getProposal_99 ?_
          refine x_iast cf hK hD hP hS (ia35 X) (by omega) d_T_getProposal_100 (fun H locs hP hS => ?_)
          refine lv_aload_n hx hb d_T_getProposal_101 rfl (lv_at hl 0 rfl) ?_
          refine x_getT (v := .ref (X.2.2.2 38)) cf hK hP 7 (by decide) w_184 rfl d_T_getProposal_102 ?_
          refine lv_iconst (v := nI 1) hx hb d_T_getProposal_105 (by decide) ?_
          refine lv_aload_n hx hb d_T_getProposal_106 rfl (lv_at hl 0 rfl) ?_
          refine lv_iload hx hb d_T_getProposal_107 (lv_at hl 4 rfl) ?_
          refine lv_iconst (v := nI 1) hx hb d_T_getProposal_109 (by decide) ?_
          refine n_iadd hx hb d_T_getProposal_110 ?_
          refine x_callVi (As := [.int (nI ((S 32 b) + 1))]) (rest := [.int (nI 1), .ref (X.2.2.2 38)]) cf hK hN hP hS (k_T_leaderOf l hX ((hC2.upR (r := r) (j := 3) (v := S 32 b) (show S 32 b ≤ V by have := (show S 32 b + 1 ≤ V from hC.c 32 b); omega)).up (k := 35) (j := b) (show (T2 35 b ||| 1 * 2 ^ r) < 128 from or_lt128 (hC2.c 35 b) (p2_128 r (by omega)))) (by have := (show S 32 b + 1 ≤ V from hC.c 32 b); omega)) (cw_T_leaderOf cf.2.2.2.2 w_239 ⟨Nat.le_of_ble_eq_true rfl, Nat.le_of_ble_eq_true rfl⟩) (rv_T hK hP) hl.1 rfl rfl (Nat.le_of_ble_eq_true rfl) ⟨Nat.zero_le _, Nat.zero_le _⟩ d_T_getProposal_111 (fun H locs hP hS => ?_)
          rw [cLeader_congr (S := T2) (T := up2 (up2 T2 (3 * r + 44) 3 (S 32 b)) 35 b (T2 35 b ||| 1 * 2 ^ r)) ((up2_ne _ _ _ (by decide)).trans (upR_ne (by decide)))]
          refine lv_iload_n hx hb d_T_getProposal_114 rfl (lv_at hl 1 rfl) ?_
          refine lv_iload_n hx hb d_T_getProposal_115 rfl (lv_at hl 2 rfl) ?_
          refine lv_iconst (v := nI 0) hx hb d_T_getProposal_116 (by decide) ?_
          refine x_callVv (As := [.int (nI 1), .int (nI (cLeader T2 (S 32 b + 1))), .int (nI r), .int (nI b), .int (nI 0)]) (rest := []) cf hK hN hP hS (k_Ro_send l hX ((hC2.upR (r := r) (j := 3) (v := S 32 b) (show S 32 b ≤ V by have := (show S 32 b + 1 ≤ V from hC.c 32 b); omega)).up (k := 35) (j := b) (show (T2 35 b ||| 1 * 2 ^ r) < 128 from or_lt128 (hC2.c 35 b) (p2_128 r (by omega)))) 1 (cLeader T2 (S 32 b + 1)) r b 0) (cw_Ro_send cf.2.2.2.2 w_262 ⟨Nat.le_of_ble_eq_true rfl, Nat.le_of_ble_eq_true rfl⟩) (rv_Ro hK hP) hl.1 rfl rfl (Nat.le_of_ble_eq_true rfl) ⟨Nat.zero_le _, Nat.zero_le _⟩ d_T_getProposal_117 (fun H locs hP hS => ?_)
          exact x_vret cf hr hlk hP hS (by unfold cGetProposal; rw [← hG, if_pos (by unfold cVotes; rw [tnat_1 (b := cSafe T2 (T2 (3 * r + 44) 7) b) (by assumption), decide_eq_true (p := T2 (3 * r + 44) 0 = S 32 b) (by omega), decide_eq_true (p := T2 (3 * r + 44) 3 < S 32 b) (by omega)]; rfl)]) d_T_getProposal_120
  refine lv_aload_n hx hb d_T_getProposal_35 rfl (lv_at hl 1 rfl) ?_
  refine x_getRp (v := .int (nI (T1 (3 * r + 44) 0))) cf hK hP hr0 0 (by decide) w_36 rfl d_T_getProposal_36 ?_
  refine lv_iload hx hb d_T_getProposal_39 (lv_at hl 0 rfl) ?_
  refine n_icmp_ge (tgt := 50) hx hb d_T_getProposal_41 (by decide) (by have := (hC1.rp r); omega) (by have := (show S 32 b + 1 ≤ V from hC.c 32 b); omega) (fun h4 => ?_) (fun h4 => ?_)
  · skip
    exact cut50 T1 ls H locs (lv_sub hl [2, 3, 4, 1, 0] rfl) hP hS (hC1) (by unfold cGP1; rw [← hT1, if_neg (by omega)])
  · skip
    refine lv_aload_n hx hb d_T_getProposal_44 rfl (lv_at hl 1 rfl) ?_
    refine lv_iload hx hb d_T_getProposal_45 (lv_at hl 0 rfl) ?_
    refine x_callVv (As := [.int (nI (S 32 b))]) (rest := []) cf hK hN hP hS (k_Rp_enter l hX hC1 hr0) (cw_Rp_enter cf.2.2.2.2 w_274 ⟨Nat.le_of_ble_eq_true rfl, Nat.le_of_ble_eq_true rfl⟩) (rv_Rp hK hP hr0) hl.1 rfl rfl (Nat.le_of_ble_eq_true rfl) ⟨Nat.zero_le _, Nat.zero_le _⟩ d_T_getProposal_47 (fun H locs hP hS => ?_)
    obtain ⟨T3, hT3⟩ : ∃ z, z = (cEnter T1 r (S 32 b)) := ⟨_, rfl⟩
    rw [← hT3] at hP
    have hC3 : CI V X T3 := by rw [hT3]; exact hC1.enter (by omega) (by have := (show S 32 b + 1 ≤ V from hC.c 32 b); omega)
    exact cut50 T3 ls H locs (lv_sub hl [2, 3, 4, 1, 0] rfl) hP hS (hC3) (by unfold cGP1; rw [← hT1, if_pos (by omega)]; exact hT3)
set_option maxRecDepth 100000 in
set_option maxHeartbeats 4000000 in
theorem k_T_getVote (l : Launch) {X : WX} (hX : xInj X) {S : Nat → Nat → Nat} {V : Nat} (hC : CI V X S) {r : Nat} (hr0 : r < X.2.2.1) {x b : Nat} (hx0 : x < 7) (hb0 : b < 40) : MetV l X y_T_getVote (Cond.code y_T_getVote c_T_getVote 5 none :: Mst) 2 [.ref (X.2.2.2 25), .int (nI r), .int (nI x), .int (nI b)] S (cGetVote S r x b) := by
  refine MetV.of (by decide) (Nat.le_of_ble_eq_true rfl) ?_
  intro p e s m args below meth c cf hr hlk hP hK hN ls hl
  have hl : lv_has ls 5 [(0, .ref (X.2.2.2 25)), (1, .int (nI r)), (2, .int (nI x)), (3, .int (nI b))] := hl
  have hx := cf.1
  have hb := cf.2.1
  have hD := xD_of hX
  have hS : va_S (xA X) s.heap s.heap [] := va_S.rf
  have hnn := hC.nn
  have hV := hC.V
  have hcn := hC.n
  have htr := hC.tr
  have hblc := hC.bl
  have hro := hC.ro
  obtain ⟨H, hH⟩ : ∃ H, H = s.heap := ⟨_, rfl⟩
  obtain ⟨locs, hlo⟩ : ∃ z : List Loc, z = [] := ⟨_, rfl⟩
  suffices hgo : PW X S H → va_S (xA X) s.heap H locs → W p l e (rmd 2) s m args below meth c H locs 0 0 (MQ below (QcV X (cGetVote S r x b)) args s 0 0 (xA X)) (F0 m 0 ls []) by
    subst hH
    subst hlo
    exact hgo hP hS
  clear hP hS
  intro hP hS
  refine lv_aload_n hx hb d_T_getVote_0 rfl (lv_at hl 0 rfl) ?_
  refine x_getT (v := .ref (X.2.2.2 26)) cf hK hP 4 (by decide) w_181 rfl d_T_getVote_1 ?_
  refine lv_iload_n hx hb d_T_getVote_4 rfl (lv_at hl 1 rfl) ?_
  refine x_aald cf hK hP hX.1 (by omega) d_T_getVote_5 ?_
  refine lv_astore (lv' := [(4, .ref (X.2.2.2 (3 * r + 44))), (0, .ref (X.2.2.2 25)), (1, .int (nI r)), (2, .int (nI x)), (3, .int (nI b))]) hx hb d_T_getVote_6 hl (by decide) rfl (fun ls hl => ?_)
  refine lv_aload hx hb d_T_getVote_8 (lv_at hl 0 rfl) ?_
  refine x_getRp (v := .ref (X.2.2.2 (3 * r + 45))) cf hK hP hr0 9 (by decide) w_51 rfl d_T_getVote_10 ?_
  refine lv_iload_n hx hb d_T_getVote_13 rfl (lv_at hl 4 rfl) ?_
  refine lv_dup2_11 hx hb d_T_getVote_14 rfl rfl ?_
  refine x_iald (v := (S (3 * r + 45) b)) cf hK hP (iaG hr0) (by omega) rfl d_T_getVote_15 ?_
  refine lv_iconst (v := nI 1) hx hb d_T_getVote_16 (by decide) ?_
  refine lv_iload_n hx hb d_T_getVote_17 rfl (lv_at hl 3 rfl) ?_
  refine n_ishl hx hb (by omega) (by have := p2_128 x (by omega); omega) d_T_getVote_18 ?_
  refine n_ior hx hb d_T_getVote_19 ?_
  refine x_iast cf hK hD hP hS (iaG hr0) (by omega) d_T_getVote_20 (fun H locs hP hS => ?_)
  refine lv_aload hx hb d_T_getVote_21 (lv_at hl 0 rfl) ?_
  refine x_getRp (v := .ref (X.2.2.2 (3 * r + 45))) cf hK hP hr0 9 (by decide) w_51 rfl d_T_getVote_23 ?_
  refine lv_iload_n hx hb d_T_getVote_26 rfl (lv_at hl 4 rfl) ?_
  refine x_iald (v := ((S (3 * r + 45) b) ||| (1 * (2 ^ x)))) cf hK hP (iaG hr0) (by omega) (by first | rfl | (simp [up2_at]; done) | (rw [upR_ne (by decide)]) | (rw [up2_at, if_neg (by omega)])) d_T_getVote_27 ?_
  refine x_callSi (As := [.int (nI ((S (3 * r + 45) b) ||| (1 * (2 ^ x))))]) (rest := []) cf hK hN hP hS (k_JI_bitCount l hX (or_lt128 (hC.rg r b) (p2_128 x hx0))) (cw_JI_bitCount cf.2.2.2.2 w_338 ⟨Nat.le_of_ble_eq_true rfl, Nat.le_of_ble_eq_true rfl⟩) hl.1 rfl rfl (Nat.le_of_ble_eq_true rfl) ⟨Nat.zero_le _, Nat.zero_le _⟩ d_T_getVote_28 (fun H locs hP hS => ?_)
  have hsz := mSize_le (S (3 * r + 45) b ||| 1 * 2 ^ x)
  refine lv_aload_n hx hb d_T_getVote_31 rfl (lv_at hl 1 rfl) ?_
  refine x_getT (v := .int (nI (S 25 1))) cf hK hP 1 (by decide) w_178 rfl d_T_getVote_32 ?_
  refine n_icmp_lt (tgt := 48) hx hb d_T_getVote_35 (by decide) (by omega) (by omega) (fun h1 => ?_) (fun h1 => ?_)
  · skip
    exact x_vret cf hr hlk hP hS (by unfold cGetVote; rw [if_neg (by omega)]) d_T_getVote_48
  · skip
    refine lv_aload hx hb d_T_getVote_38 (lv_at hl 0 rfl) ?_
    refine lv_iload_n hx hb d_T_getVote_40 rfl (lv_at hl 4 rfl) ?_
    refine lv_aload_n hx hb d_T_getVote_41 rfl (lv_at hl 1 rfl) ?_
    refine x_getT (v := .ref (X.2.2.2 31)) cf hK hP 6 (by decide) w_183 rfl d_T_getVote_42 ?_
    refine x_callVv (As := [.int (nI b), .ref (X.2.2.2 31)]) (rest := []) cf hK hN hP hS (k_Rp_see l hX (hC.up (k := 3 * r + 45) (j := b) (by rw [cellC_rg]; exact or_lt128 (hC.rg r b) (p2_128 x hx0))) hr0 (by omega)) (cw_Rp_see cf.2.2.2.2 w_310 ⟨Nat.le_of_ble_eq_true rfl, Nat.le_of_ble_eq_true rfl⟩) (rv_Rp hK hP hr0) hl.1 rfl rfl (Nat.le_of_ble_eq_true rfl) ⟨Nat.zero_le _, Nat.zero_le _⟩ d_T_getVote_45 (fun H locs hP hS => ?_)
    exact x_vret cf hr hlk hP hS (by unfold cGetVote; rw [if_pos (by omega)]) d_T_getVote_48
set_option maxRecDepth 100000 in
set_option maxHeartbeats 4000000 in
theorem k_T_getNewView (l : Launch) {X : WX} (hX : xInj X) {S : Nat → Nat → Nat} {V : Nat} (hC : CI V X S) {r : Nat} (hr0 : r < X.2.2.1) {x v b : Nat} (hx0 : x < X.2.2.1) (hv0 : v < 2147483648) (hb0 : b < 40) : MetV l X y_T_getNewView (Cond.code y_T_getNewView c_T_getNewView 7 none :: Mst) 2 [.ref (X.2.2.2 25), .int (nI r), .int (nI x), .int (nI v), .int (nI b)] S (cGetNewView S X.2.2.1 r x b v) := by
  refine MetV.of (by decide) (Nat.le_of_ble_eq_true rfl) ?_
  intro p e s m args below meth c cf hr hlk hP hK hN ls hl
  have hl : lv_has ls 7 [(0, .ref (X.2.2.2 25)), (1, .int (nI r)), (2, .int (nI x)), (3, .int (nI v)), (4, .int (nI b))] := hl
  have hx := cf.1
  have hb := cf.2.1
  have hD := xD_of hX
  have hS : va_S (xA X) s.heap s.heap [] := va_S.rf
  have hnn := hC.nn
  have hV := hC.V
  have hcn := hC.n
  have htr := hC.tr
  have hblc := hC.bl
  have hro := hC.ro
  obtain ⟨H, hH⟩ : ∃ H, H = s.heap := ⟨_, rfl⟩
  obtain ⟨locs, hlo⟩ : ∃ z : List Loc, z = [] := ⟨_, rfl⟩
  suffices hgo : PW X S H → va_S (xA X) s.heap H locs → W p l e (rmd 2) s m args below meth c H locs 0 0 (MQ below (QcV X (cGetNewView S X.2.2.1 r x b v)) args s 0 0 (xA X)) (F0 m 0 ls []) by
    subst hH
    subst hlo
    exact hgo hP hS
  clear hP hS
  intro hP hS
  refine lv_aload_n hx hb d_T_getNewView_0 rfl (lv_at hl 0 rfl) ?_
  refine x_getT (v := .ref (X.2.2.2 26)) cf hK hP 4 (by decide) w_181 rfl d_T_getNewView_1 ?_
  refine lv_iload_n hx hb d_T_getNewView_4 rfl (lv_at hl 1 rfl) ?_
  refine x_aald cf hK hP hX.1 (by omega) d_T_getNewView_5 ?_
  refine lv_astore (lv' := [(5, .ref (X.2.2.2 (3 * r + 44))), (0, .ref (X.2.2.2 25)), (1, .int (nI r)), (2, .int (nI x)), (3, .int (nI v)), (4, .int (nI b))]) hx hb d_T_getNewView_6 hl (by decide) rfl (fun ls hl => ?_)
  refine lv_aload hx hb d_T_getNewView_8 (lv_at hl 0 rfl) ?_
  refine x_getRp (v := .ref (X.2.2.2 (3 * r + 46))) cf hK hP hr0 10 (by decide) w_53 rfl d_T_getNewView_10 ?_
  refine lv_iload_n hx hb d_T_getNewView_13 rfl (lv_at hl 3 rfl) ?_
  refine lv_aload hx hb d_T_getNewView_14 (lv_at hl 0 rfl) ?_
  refine x_getRp (v := .ref (X.2.2.2 (3 * r + 46))) cf hK hP hr0 10 (by decide) w_53 rfl d_T_getNewView_16 ?_
  refine lv_iload_n hx hb d_T_getNewView_19 rfl (lv_at hl 3 rfl) ?_
  refine x_iald (v := (S (3 * r + 46) x)) cf hK hP (iaV hX.1 hr0) (by omega) rfl d_T_getNewView_20 ?_
  refine lv_iload_n hx hb d_T_getNewView_21 rfl (lv_at hl 4 rfl) ?_
  refine x_callSi (As := [.int (nI (S (3 * r + 46) x)), .int (nI v)]) (rest := [.int (nI x), .ref (X.2.2.2 (3 * r + 46))]) cf hK hN hP hS (k_JM_max l hX (nI (S (3 * r + 46) x)) (nI v)) (cw_JM_max cf.2.2.2.2 w_19 ⟨Nat.le_of_ble_eq_true rfl, Nat.le_of_ble_eq_true rfl⟩) hl.1 rfl rfl (Nat.le_of_ble_eq_true rfl) ⟨Nat.zero_le _, Nat.zero_le _⟩ d_T_getNewView_22 (fun H locs hP hS => ?_)
  rw [max_nI (hC.rn r x) hv0]
  refine x_iast cf hK hD hP hS (iaV hX.1 hr0) (by omega) d_T_getNewView_25 (fun H locs hP hS => ?_)
  refine lv_aload hx hb d_T_getNewView_26 (lv_at hl 0 rfl) ?_
  refine lv_iload hx hb d_T_getNewView_28 (lv_at hl 5 rfl) ?_
  refine lv_aload_n hx hb d_T_getNewView_30 rfl (lv_at hl 1 rfl) ?_
  refine x_getT (v := .ref (X.2.2.2 31)) cf hK hP 6 (by decide) w_183 rfl d_T_getNewView_31 ?_
  refine x_callVv (As := [.int (nI b), .ref (X.2.2.2 31)]) (rest := []) cf hK hN hP hS (k_Rp_see l hX (hC.up (k := 3 * r + 46) (j := x) (v := (if S (3 * r + 46) x < v then v else S (3 * r + 46) x)) (by rw [cellC_rn]; have := hC.rn r x; split <;> omega)) hr0 (by omega)) (cw_Rp_see cf.2.2.2.2 w_310 ⟨Nat.le_of_ble_eq_true rfl, Nat.le_of_ble_eq_true rfl⟩) (rv_Rp hK hP hr0) hl.1 rfl rfl (Nat.le_of_ble_eq_true rfl) ⟨Nat.zero_le _, Nat.zero_le _⟩ d_T_getNewView_34 (fun H locs hP hS => ?_)
  obtain ⟨T1, hT1⟩ : ∃ z, z = (cSee (up2 S (3 * r + 46) x (if S (3 * r + 46) x < v then v else S (3 * r + 46) x)) r b) := ⟨_, rfl⟩
  rw [← hT1] at hP
  have hC1 : CI V X T1 := by rw [hT1]; exact (hC.up (k := 3 * r + 46) (j := x) (v := (if S (3 * r + 46) x < v then v else S (3 * r + 46) x)) (by rw [cellC_rn]; have := hC.rn r x; split <;> omega)).see hb0
  have hT1e : T1 = cGN1 S r x b v := hT1
  have hn1 := hC1.n
  refine lv_aload hx hb d_T_getNewView_37 (lv_at hl 0 rfl) ?_
  refine lv_aload_n hx hb d_T_getNewView_39 rfl (lv_at hl 1 rfl) ?_
  refine x_getT (v := .int (nI (T1 25 1))) cf hK hP 1 (by decide) w_178 rfl d_T_getNewView_40 ?_
  refine x_callVi (As := [.int (nI (T1 25 1))]) (rest := []) cf hK hN hP hS (k_Rp_push l hX hC1 hr0 (by omega)) (cw_Rp_push cf.2.2.2.2 w_246 ⟨Nat.le_of_ble_eq_true rfl, Nat.le_of_ble_eq_true rfl⟩) (rv_Rp hK hP hr0) hl.1 rfl rfl (Nat.le_of_ble_eq_true rfl) ⟨Nat.zero_le _, Nat.zero_le _⟩ d_T_getNewView_43 (fun H locs hP hS => ?_)
  have hpu := cPush_lt hC1 X.2.2.1 r (T1 25 1)
  refine lv_istore (lv' := [(6, .int (nI (cPush T1 X.2.2.1 r (T1 25 1)))), (5, .ref (X.2.2.2 (3 * r + 44))), (0, .ref (X.2.2.2 25)), (1, .int (nI r)), (2, .int (nI x)), (3, .int (nI v)), (4, .int (nI b))]) hx hb d_T_getNewView_46 hl (by decide) rfl (fun ls hl => ?_)
  refine lv_iload hx hb d_T_getNewView_48 (lv_at hl 0 rfl) ?_
  refine lv_aload hx hb d_T_getNewView_50 (lv_at hl 1 rfl) ?_
  refine x_getRp (v := .int (nI (T1 (3 * r + 44) 0))) cf hK hP hr0 0 (by decide) w_36 rfl d_T_getNewView_52 ?_
  refine n_icmp_le (tgt := 65) hx hb d_T_getNewView_55 (by decide) (by omega) (by have := (hC1.rp r); omega) (fun h1 => ?_) (fun h1 => ?_)
  · skip
    exact x_vret cf hr hlk hP hS (by unfold cGetNewView; rw [← hT1e, if_neg (by omega)]) d_T_getNewView_65
  · skip
    refine lv_aload hx hb d_T_getNewView_58 (lv_at hl 1 rfl) ?_
    refine lv_iload hx hb d_T_getNewView_60 (lv_at hl 0 rfl) ?_
    refine x_callVv (As := [.int (nI (cPush T1 X.2.2.1 r (T1 25 1)))]) (rest := []) cf hK hN hP hS (k_Rp_enter l hX hC1 hr0) (cw_Rp_enter cf.2.2.2.2 w_274 ⟨Nat.le_of_ble_eq_true rfl, Nat.le_of_ble_eq_true rfl⟩) (rv_Rp hK hP hr0) hl.1 rfl rfl (Nat.le_of_ble_eq_true rfl) ⟨Nat.zero_le _, Nat.zero_le _⟩ d_T_getNewView_62 (fun H locs hP hS => ?_)
    exact x_vret cf hr hlk hP hS (by unfold cGetNewView; rw [← hT1e, if_pos (by omega)]) d_T_getNewView_65
set_option maxRecDepth 100000 in
set_option maxHeartbeats 4000000 in
theorem k_T_mayPropose (l : Launch) {X : WX} (hX : xInj X) {S : Nat → Nat → Nat} {V : Nat} (hC : CI V X S) {r : Nat} (hr0 : r < X.2.2.1) : MetI l X y_T_mayPropose (Cond.code y_T_mayPropose c_T_mayPropose 4 (some .boolean) :: Mst) 2 [.ref (X.2.2.2 25), .int (nI r)] S (nI (cMay S X.2.2.1 r).toNat) S := by
  refine MetI.of (by decide) (Nat.le_of_ble_eq_true rfl) ?_
  intro p e s m args below meth c cf hr hlk hP hK hN ls hl
  have hl : lv_has ls 4 [(0, .ref (X.2.2.2 25)), (1, .int (nI r))] := hl
  have hx := cf.1
  have hb := cf.2.1
  have hD := xD_of hX
  have hS : va_S (xA X) s.heap s.heap [] := va_S.rf
  have hnn := hC.nn
  have hV := hC.V
  have hcn := hC.n
  have htr := hC.tr
  have hblc := hC.bl
  have hro := hC.ro
  obtain ⟨H, hH⟩ : ∃ H, H = s.heap := ⟨_, rfl⟩
  obtain ⟨locs, hlo⟩ : ∃ z : List Loc, z = [] := ⟨_, rfl⟩
  suffices hgo : PW X S H → va_S (xA X) s.heap H locs → W p l e (rmd 2) s m args below meth c H locs 0 0 (MQ below (QcI X (nI (cMay S X.2.2.1 r).toNat) S) args s 0 0 (xA X)) (F0 m 0 ls []) by
    subst hH
    subst hlo
    exact hgo hP hS
  clear hP hS
  intro hP hS
  refine lv_aload_n hx hb d_T_mayPropose_0 rfl (lv_at hl 0 rfl) ?_
  refine x_getT (v := .ref (X.2.2.2 26)) cf hK hP 4 (by decide) w_181 rfl d_T_mayPropose_1 ?_
  refine lv_iload_n hx hb d_T_mayPropose_4 rfl (lv_at hl 1 rfl) ?_
  refine x_aald cf hK hP hX.1 (by omega) d_T_mayPropose_5 ?_
  refine lv_astore_n (lv' := [(2, .ref (X.2.2.2 (3 * r + 44))), (0, .ref (X.2.2.2 25)), (1, .int (nI r))]) hx hb d_T_mayPropose_6 rfl hl (by decide) rfl (fun ls hl => ?_)
  refine lv_aload_n hx hb d_T_mayPropose_7 rfl (lv_at hl 0 rfl) ?_
  refine x_getRp (v := .int (nI (S (3 * r + 44) 0))) cf hK hP hr0 0 (by decide) w_36 rfl d_T_mayPropose_8 ?_
  refine lv_istore_n (lv' := [(3, .int (nI (S (3 * r + 44) 0))), (2, .ref (X.2.2.2 (3 * r + 44))), (0, .ref (X.2.2.2 25)), (1, .int (nI r))]) hx hb d_T_mayPropose_11 rfl hl (by decide) rfl (fun ls hl => ?_)
  refine lv_aload_n hx hb d_T_mayPropose_12 rfl (lv_at hl 2 rfl) ?_
  refine lv_iload_n hx hb d_T_mayPropose_13 rfl (lv_at hl 0 rfl) ?_
  refine x_callVi (As := [.int (nI (S (3 * r + 44) 0))]) (rest := []) cf hK hN hP hS (k_T_leaderOf l hX hC (by have := (hC.rp r); omega)) (cw_T_leaderOf cf.2.2.2.2 w_239 ⟨Nat.le_of_ble_eq_true rfl, Nat.le_of_ble_eq_true rfl⟩) (rv_T hK hP) hl.1 rfl rfl (Nat.le_of_ble_eq_true rfl) ⟨Nat.zero_le _, Nat.zero_le _⟩ d_T_mayPropose_14 (fun H locs hP hS => ?_)
  have hle := cLeader_lt hC (S (3 * r + 44) 0)
  refine lv_iload_n hx hb d_T_mayPropose_17 rfl (lv_at hl 3 rfl) ?_
  refine n_icmp_ne (tgt := 29) hx hb d_T_mayPropose_18 (by decide) (by omega) (by omega) (fun h1 => ?_) (fun h1 => ?_)
  · skip
    refine lv_iconst (v := nI 0) hx hb d_T_mayPropose_29 (by decide) ?_
    exact x_zret cf hr hlk hP hS (by unfold cMay; rw [decide_eq_false (p := cLeader S (S (3 * r + 44) 0) = r) (by omega)]; rfl) (rfl) d_T_mayPropose_30
  · skip
    refine lv_aload_n hx hb d_T_mayPropose_21 rfl (lv_at hl 1 rfl) ?_
    refine x_getRp (v := .int (nI (S (3 * r + 44) 4))) cf hK hP hr0 4 (by decide) w_42 rfl d_T_mayPropose_22 ?_
    refine lv_iload_n hx hb d_T_mayPropose_25 rfl (lv_at hl 0 rfl) ?_
    refine n_icmp_ne (tgt := 31) hx hb d_T_mayPropose_26 (by decide) (by have := (hC.rp r); omega) (by have := (hC.rp r); omega) (fun h2 => ?_) (fun h2 => ?_)
    · skip
      refine lv_iload_n hx hb d_T_mayPropose_31 rfl (lv_at hl 0 rfl) ?_
      refine lv_iconst (v := nI 1) hx hb d_T_mayPropose_32 (by decide) ?_
      refine n_icmp_eq (tgt := 66) hx hb d_T_mayPropose_33 (by decide) (by have := (hC.rp r); omega) (by decide) (fun h3 => ?_) (fun h3 => ?_)
      · skip
        refine lv_iconst (v := nI 1) hx hb d_T_mayPropose_66 (by decide) ?_
        refine lv_goto (tgt := 71) hx hb d_T_mayPropose_67 (by decide) ?_
        exact x_zret cf hr hlk hP hS (by unfold cMay; rw [decide_eq_true (p := cLeader S (S (3 * r + 44) 0) = r) (by omega), decide_eq_true (p := ¬ S (3 * r + 44) 4 = S (3 * r + 44) 0) (by omega), decide_eq_true (p := S (3 * r + 44) 0 = 1) (by omega)]; rfl) (rfl) d_T_mayPropose_71
      · skip
        refine lv_aload_n hx hb d_T_mayPropose_36 rfl (lv_at hl 2 rfl) ?_
        refine x_getT (v := .ref (X.2.2.2 31)) cf hK hP 6 (by decide) w_183 rfl d_T_mayPropose_37 ?_
        refine x_getBl (v := .ref (X.2.2.2 32)) cf hK hP 0 (by decide) w_110 rfl d_T_mayPropose_40 ?_
        refine lv_aload_n hx hb d_T_mayPropose_43 rfl (lv_at hl 1 rfl) ?_
        refine x_getRp (v := .int (nI (S (3 * r + 44) 6))) cf hK hP hr0 6 (by decide) w_45 rfl d_T_mayPropose_44 ?_
        refine x_iald (v := (S 32 (S (3 * r + 44) 6))) cf hK hP (ia32 X) (by have := (hC.rp r); omega) rfl d_T_mayPropose_47 ?_
        refine lv_iload_n hx hb d_T_mayPropose_48 rfl (lv_at hl 0 rfl) ?_
        refine lv_iconst (v := nI 1) hx hb d_T_mayPropose_49 (by decide) ?_
        refine n_isub hx hb (by have := (hC.rp r); omega) d_T_mayPropose_50 ?_
        refine n_icmp_eq (tgt := 66) hx hb d_T_mayPropose_51 (by decide) (by have := (hC.rp r); have := (show S 32 (S (3 * r + 44) 6) + 1 ≤ V from hC.c 32 (S (3 * r + 44) 6)); omega) (by have := (hC.rp r); omega) (fun h4 => ?_) (fun h4 => ?_)
        · skip
          refine lv_iconst (v := nI 1) hx hb d_T_mayPropose_66 (by decide) ?_
          refine lv_goto (tgt := 71) hx hb d_T_mayPropose_67 (by decide) ?_
          exact x_zret cf hr hlk hP hS (by unfold cMay; rw [decide_eq_true (p := cLeader S (S (3 * r + 44) 0) = r) (by omega), decide_eq_true (p := ¬ S (3 * r + 44) 4 = S (3 * r + 44) 0) (by omega), decide_eq_true (p := S 32 (S (3 * r + 44) 6) = S (3 * r + 44) 0 - 1) (by omega), Bool.or_true]; rfl) (rfl) d_T_mayPropose_71
        · skip
          refine lv_aload_n hx hb d_T_mayPropose_54 rfl (lv_at hl 1 rfl) ?_
          refine lv_aload_n hx hb d_T_mayPropose_55 rfl (lv_at hl 2 rfl) ?_
          refine x_getT (v := .int (nI (S 25 1))) cf hK hP 1 (by decide) w_178 rfl d_T_mayPropose_56 ?_
          refine x_callVi (As := [.int (nI (S 25 1))]) (rest := []) cf hK hN hP hS (k_Rp_push l hX hC hr0 (by omega)) (cw_Rp_push cf.2.2.2.2 w_246 ⟨Nat.le_of_ble_eq_true rfl, Nat.le_of_ble_eq_true rfl⟩) (rv_Rp hK hP hr0) hl.1 rfl rfl (Nat.le_of_ble_eq_true rfl) ⟨Nat.zero_le _, Nat.zero_le _⟩ d_T_mayPropose_59 (fun H locs hP hS => ?_)
          have hpu := cPush_lt hC X.2.2.1 r (S 25 1)
          refine lv_iload_n hx hb d_T_mayPropose_62 rfl (lv_at hl 0 rfl) ?_
          refine n_icmp_lt (tgt := 70) hx hb d_T_mayPropose_63 (by decide) (by omega) (by have := (hC.rp r); omega) (fun h5 => ?_) (fun h5 => ?_)
          · skip
            refine lv_iconst (v := nI 0) hx hb d_T_mayPropose_70 (by decide) ?_
            exact x_zret cf hr hlk hP hS (by unfold cMay; rw [decide_eq_false (p := S (3 * r + 44) 0 = 1) (by omega), decide_eq_false (p := S 32 (S (3 * r + 44) 6) = S (3 * r + 44) 0 - 1) (by omega), decide_eq_false (p := S (3 * r + 44) 0 ≤ cPush S X.2.2.1 r (S 25 1)) (by omega), Bool.or_false, Bool.or_false, Bool.and_false]; rfl) (rfl) d_T_mayPropose_71
          · skip
            refine lv_iconst (v := nI 1) hx hb d_T_mayPropose_66 (by decide) ?_
            refine lv_goto (tgt := 71) hx hb d_T_mayPropose_67 (by decide) ?_
            exact x_zret cf hr hlk hP hS (by unfold cMay; rw [decide_eq_true (p := cLeader S (S (3 * r + 44) 0) = r) (by omega), decide_eq_true (p := ¬ S (3 * r + 44) 4 = S (3 * r + 44) 0) (by omega), decide_eq_true (p := S (3 * r + 44) 0 ≤ cPush S X.2.2.1 r (S 25 1)) (by omega), Bool.or_true]; rfl) (rfl) d_T_mayPropose_71
    · skip
      refine lv_iconst (v := nI 0) hx hb d_T_mayPropose_29 (by decide) ?_
      exact x_zret cf hr hlk hP hS (by unfold cMay; rw [decide_eq_false (p := ¬ S (3 * r + 44) 4 = S (3 * r + 44) 0) (by omega), Bool.and_false]; rfl) (rfl) d_T_mayPropose_30
set_option maxRecDepth 100000 in
set_option maxHeartbeats 4000000 in
theorem k_T_maySend (l : Launch) {X : WX} (hX : xInj X) {S : Nat → Nat → Nat} {V : Nat} (hC : CI V X S) (b r : Int32) : MetI l X y_T_maySend (Cond.code y_T_maySend c_T_maySend 3 (some .boolean) :: Mst) 1 [.ref (X.2.2.2 25), .int b, .int r] S (nI (cMaySend S b r).toNat) S := by
  refine MetI.of (by decide) (Nat.le_of_ble_eq_true rfl) ?_
  intro p e s m args below meth c cf hr hlk hP hK hN ls hl
  have hl : lv_has ls 3 [(0, .ref (X.2.2.2 25)), (1, .int b), (2, .int r)] := hl
  have hx := cf.1
  have hb := cf.2.1
  have hD := xD_of hX
  have hS : va_S (xA X) s.heap s.heap [] := va_S.rf
  have hnn := hC.nn
  have hV := hC.V
  have hcn := hC.n
  have htr := hC.tr
  have hblc := hC.bl
  have hro := hC.ro
  obtain ⟨H, hH⟩ : ∃ H, H = s.heap := ⟨_, rfl⟩
  obtain ⟨locs, hlo⟩ : ∃ z : List Loc, z = [] := ⟨_, rfl⟩
  suffices hgo : PW X S H → va_S (xA X) s.heap H locs → W p l e (rmd 1) s m args below meth c H locs 0 0 (MQ below (QcI X (nI (cMaySend S b r).toNat) S) args s 0 0 (xA X)) (F0 m 0 ls []) by
    subst hH
    subst hlo
    exact hgo hP hS
  clear hP hS
  intro hP hS
  refine lv_iload_n hx hb d_T_maySend_0 rfl (lv_at hl 1 rfl) ?_
  refine lv_if_eq (tgt := 37) hx hb d_T_maySend_1 (by decide) (fun h1 => ?_) (fun h1 => ?_)
  · skip
    have uh1 := i_eq0 h1
    refine lv_iconst (v := nI 0) hx hb d_T_maySend_37 (by decide) ?_
    exact x_zret cf hr hlk hP hS (by unfold cMaySend; rw [decide_eq_false (p := ¬ b.toInt = 0) (by omega)]; rfl) (rfl) d_T_maySend_38
  · skip
    have uh1 := i_ne0 h1
    refine lv_aload_n hx hb d_T_maySend_4 rfl (lv_at hl 0 rfl) ?_
    refine x_getT (v := .ref (X.2.2.2 31)) cf hK hP 6 (by decide) w_183 rfl d_T_maySend_5 ?_
    refine lv_iload_n hx hb d_T_maySend_8 rfl (lv_at hl 1 rfl) ?_
    refine x_callVi (As := [.int b]) (rest := []) cf hK hN hP hS (k_Bl_has l hX hC b) (cw_Bl_has cf.2.2.2.2 w_364 ⟨Nat.le_of_ble_eq_true rfl, Nat.le_of_ble_eq_true rfl⟩) (rv_Bl hK hP) hl.1 rfl rfl (Nat.le_of_ble_eq_true rfl) ⟨Nat.zero_le _, Nat.zero_le _⟩ d_T_maySend_9 (fun H locs hP hS => ?_)
    refine n_if_eq (tgt := 37) hx hb d_T_maySend_12 (by decide) (tnat_lt _) (fun h2 => ?_) (fun h2 => ?_)
    · skip
      refine lv_iconst (v := nI 0) hx hb d_T_maySend_37 (by decide) ?_
      exact x_zret cf hr hlk hP hS (by unfold cMaySend; rw [tnat_0 (b := cHas S b) h2, Bool.and_false]; rfl) (rfl) d_T_maySend_38
    · skip
      refine lv_aload_n hx hb d_T_maySend_15 rfl (lv_at hl 0 rfl) ?_
      refine lv_iload_n hx hb d_T_maySend_16 rfl (lv_at hl 2 rfl) ?_
      refine x_callVi (As := [.int r]) (rest := []) cf hK hN hP hS (k_T_isReplica l hX hC r) (cw_T_isReplica cf.2.2.2.2 w_231 ⟨Nat.le_of_ble_eq_true rfl, Nat.le_of_ble_eq_true rfl⟩) (rv_T hK hP) hl.1 rfl rfl (Nat.le_of_ble_eq_true rfl) ⟨Nat.zero_le _, Nat.zero_le _⟩ d_T_maySend_17 (fun H locs hP hS => ?_)
      refine n_if_eq (tgt := 37) hx hb d_T_maySend_20 (by decide) (tnat_lt _) (fun h3 => ?_) (fun h3 => ?_)
      · skip
        refine lv_iconst (v := nI 0) hx hb d_T_maySend_37 (by decide) ?_
        exact x_zret cf hr hlk hP hS (by unfold cMaySend; rw [tnat_0 (b := cRepl S r) h3, Bool.and_false]; rfl) (rfl) d_T_maySend_38
      · skip
        refine lv_aload_n hx hb d_T_maySend_23 rfl (lv_at hl 0 rfl) ?_
        refine x_getT (v := .ref (X.2.2.2 38)) cf hK hP 7 (by decide) w_184 rfl d_T_maySend_24 ?_
        refine x_callVi (As := []) (rest := []) cf hK hN hP hS (k_Ro_isFull l hX hC) (cw_Ro_isFull cf.2.2.2.2 w_380 ⟨Nat.le_of_ble_eq_true rfl, Nat.le_of_ble_eq_true rfl⟩) (rv_Ro hK hP) hl.1 rfl rfl (Nat.le_of_ble_eq_true rfl) ⟨Nat.zero_le _, Nat.zero_le _⟩ d_T_maySend_27 (fun H locs hP hS => ?_)
        refine n_if_ne (tgt := 37) hx hb d_T_maySend_30 (by decide) (tnat_lt _) (fun h4 => ?_) (fun h4 => ?_)
        · skip
          refine lv_iconst (v := nI 0) hx hb d_T_maySend_37 (by decide) ?_
          exact x_zret cf hr hlk hP hS (by unfold cMaySend; rw [decide_eq_false (p := ¬ 40 ≤ S 38 0) (fun q => q (of_decide_eq_true (tnat_1 h4))), Bool.and_false]; rfl) (rfl) d_T_maySend_38
        · skip
          refine lv_iconst (v := nI 1) hx hb d_T_maySend_33 (by decide) ?_
          refine lv_goto (tgt := 38) hx hb d_T_maySend_34 (by decide) ?_
          exact x_zret cf hr hlk hP hS (by unfold cMaySend; rw [decide_eq_true (p := ¬ b.toInt = 0) (by omega), tnat_1 (b := cHas S b) h2, tnat_1 (b := cRepl S r) h3, decide_eq_true (p := ¬ 40 ≤ S 38 0) (of_decide_eq_false (tnat_0 h4))]; rfl) (rfl) d_T_maySend_38
set_option maxRecDepth 100000 in
set_option maxHeartbeats 4000000 in
theorem k_T_handOver (l : Launch) {X : WX} (hX : xInj X) {S : Nat → Nat → Nat} {V : Nat} (hC : CI V X S) {i : Nat} (hi0 : i < S 38 0) : MetI l X y_T_handOver (Cond.code y_T_handOver c_T_handOver 6 (some .boolean) :: Mst) 3 [.ref (X.2.2.2 25), .int (nI i)] S (nI (cCorrect S (nI (S 39 i / 4 % 8))).toNat) (cHand S X.2.2.1 i) := by
  refine MetI.of (by decide) (Nat.le_of_ble_eq_true rfl) ?_
  intro p e s m args below meth c cf hr hlk hP hK hN ls hl
  have hl : lv_has ls 6 [(0, .ref (X.2.2.2 25)), (1, .int (nI i))] := hl
  have hx := cf.1
  have hb := cf.2.1
  have hD := xD_of hX
  have hS : va_S (xA X) s.heap s.heap [] := va_S.rf
  have hnn := hC.nn
  have hV := hC.V
  have hcn := hC.n
  have htr := hC.tr
  have hblc := hC.bl
  have hro := hC.ro
  obtain ⟨H, hH⟩ : ∃ H, H = s.heap := ⟨_, rfl⟩
  obtain ⟨locs, hlo⟩ : ∃ z : List Loc, z = [] := ⟨_, rfl⟩
  suffices hgo : PW X S H → va_S (xA X) s.heap H locs → W p l e (rmd 3) s m args below meth c H locs 0 0 (MQ below (QcI X (nI (cCorrect S (nI (S 39 i / 4 % 8))).toNat) (cHand S X.2.2.1 i)) args s 0 0 (xA X)) (F0 m 0 ls []) by
    subst hH
    subst hlo
    exact hgo hP hS
  clear hP hS
  intro hP hS
  refine lv_aload_n hx hb d_T_handOver_0 rfl (lv_at hl 0 rfl) ?_
  refine x_getT (v := .ref (X.2.2.2 38)) cf hK hP 7 (by decide) w_184 rfl d_T_handOver_1 ?_
  refine x_getRo (v := .ref (X.2.2.2 39)) cf hK hP 0 (by decide) w_146 rfl d_T_handOver_4 ?_
  refine lv_iload_n hx hb d_T_handOver_7 rfl (lv_at hl 1 rfl) ?_
  refine x_iald (v := (S 39 i)) cf hK hP (ia39 X) (by omega) rfl d_T_handOver_8 ?_
  refine lv_istore_n (lv' := [(2, .int (nI (S 39 i))), (0, .ref (X.2.2.2 25)), (1, .int (nI i))]) hx hb d_T_handOver_9 rfl hl (by decide) rfl (fun ls hl => ?_)
  refine lv_aload_n hx hb d_T_handOver_10 rfl (lv_at hl 1 rfl) ?_
  refine x_getT (v := .ref (X.2.2.2 38)) cf hK hP 7 (by decide) w_184 rfl d_T_handOver_11 ?_
  refine x_getRo (v := .ref (X.2.2.2 40)) cf hK hP 1 (by decide) w_148 rfl d_T_handOver_14 ?_
  refine lv_iload_n hx hb d_T_handOver_17 rfl (lv_at hl 2 rfl) ?_
  refine x_iald (v := (S 40 i)) cf hK hP (ia40 X) (by omega) rfl d_T_handOver_18 ?_
  refine lv_istore_n (lv' := [(3, .int (nI (S 40 i))), (2, .int (nI (S 39 i))), (0, .ref (X.2.2.2 25)), (1, .int (nI i))]) hx hb d_T_handOver_19 rfl hl (by decide) rfl (fun ls hl => ?_)
  refine lv_aload_n hx hb d_T_handOver_20 rfl (lv_at hl 2 rfl) ?_
  refine x_getT (v := .ref (X.2.2.2 38)) cf hK hP 7 (by decide) w_184 rfl d_T_handOver_21 ?_
  refine lv_iload_n hx hb d_T_handOver_24 rfl (lv_at hl 3 rfl) ?_
  refine x_callVv (As := [.int (nI i)]) (rest := []) cf hK hN hP hS (k_Ro_remove l hX hC (by omega)) (cw_Ro_remove cf.2.2.2.2 w_290 ⟨Nat.le_of_ble_eq_true rfl, Nat.le_of_ble_eq_true rfl⟩) (rv_Ro hK hP) hl.1 rfl rfl (Nat.le_of_ble_eq_true rfl) ⟨Nat.zero_le _, Nat.zero_le _⟩ d_T_handOver_25 (fun H locs hP hS => ?_)
  obtain ⟨T1, hT1⟩ : ∃ z, z = (cRem S i) := ⟨_, rfl⟩
  rw [← hT1] at hP
  have hC1 : CI V X T1 := by rw [hT1]; exact hC.rem
  have h125 : T1 25 = S 25 := by rw [hT1]; exact cRem_ne (by decide) (by decide) (by decide)
  have h39 := (show S 39 i < 10496 ∧ S 39 i / 4 % 8 < X.2.2.1 ∧ S 39 i / 32 % 8 < X.2.2.1 ∧ S 39 i / 256 < 40 from hC.c 39 i)
  have h40 := (show S 40 i < 2147483648 from hC.c 40 i)
  refine lv_iload_n hx hb d_T_handOver_28 rfl (lv_at hl 1 rfl) ?_
  refine x_callSi (As := [.int (nI (S 39 i))]) (rest := []) cf hK hN hP hS (k_Ro_receiver l hX (by have := (show S 39 i < 10496 ∧ S 39 i / 4 % 8 < X.2.2.1 ∧ S 39 i / 32 % 8 < X.2.2.1 ∧ S 39 i / 256 < 40 from hC.c 39 i); omega)) (cw_Ro_receiver cf.2.2.2.2 w_297 ⟨Nat.le_of_ble_eq_true rfl, Nat.le_of_ble_eq_true rfl⟩) hl.1 rfl rfl (Nat.le_of_ble_eq_true rfl) ⟨Nat.zero_le _, Nat.zero_le _⟩ d_T_handOver_29 (fun H locs hP hS => ?_)
  rw [co_to]
  refine lv_istore (lv' := [(4, .int (nI (S 39 i / 4 % 8))), (3, .int (nI (S 40 i))), (2, .int (nI (S 39 i))), (0, .ref (X.2.2.2 25)), (1, .int (nI i))]) hx hb d_T_handOver_32 hl (by decide) rfl (fun ls hl => ?_)
  refine lv_aload_n hx hb d_T_handOver_34 rfl (lv_at hl 3 rfl) ?_
  refine lv_iload hx hb d_T_handOver_35 (lv_at hl 0 rfl) ?_
  refine x_callVi (As := [.int (nI (S 39 i / 4 % 8))]) (rest := []) cf hK hN hP hS (k_T_isCorrect l hX hC1 (nI (S 39 i / 4 % 8))) (cw_T_isCorrect cf.2.2.2.2 w_227 ⟨Nat.le_of_ble_eq_true rfl, Nat.le_of_ble_eq_true rfl⟩) (rv_T hK hP) hl.1 rfl rfl (Nat.le_of_ble_eq_true rfl) ⟨Nat.zero_le _, Nat.zero_le _⟩ d_T_handOver_37 (fun H locs hP hS => ?_)
  rw [cCorrect_congr h125]
  refine n_if_ne (tgt := 45) hx hb d_T_handOver_40 (by decide) (tnat_lt _) (fun h1 => ?_) (fun h1 => ?_)
  · skip
    refine lv_iload_n hx hb d_T_handOver_45 rfl (lv_at hl 2 rfl) ?_
    refine x_callSi (As := [.int (nI (S 39 i))]) (rest := []) cf hK hN hP hS (k_Ro_subject l hX (by have := (show S 39 i < 10496 ∧ S 39 i / 4 % 8 < X.2.2.1 ∧ S 39 i / 32 % 8 < X.2.2.1 ∧ S 39 i / 256 < 40 from hC.c 39 i); omega)) (cw_Ro_subject cf.2.2.2.2 w_300 ⟨Nat.le_of_ble_eq_true rfl, Nat.le_of_ble_eq_true rfl⟩) hl.1 rfl rfl (Nat.le_of_ble_eq_true rfl) ⟨Nat.zero_le _, Nat.zero_le _⟩ d_T_handOver_46 (fun H locs hP hS => ?_)
    rw [co_b]
    refine lv_istore (lv' := [(5, .int (nI (S 39 i / 256))), (4, .int (nI (S 39 i / 4 % 8))), (3, .int (nI (S 40 i))), (2, .int (nI (S 39 i))), (0, .ref (X.2.2.2 25)), (1, .int (nI i))]) hx hb d_T_handOver_49 hl (by decide) rfl (fun ls hl => ?_)
    refine lv_iload_n hx hb d_T_handOver_51 rfl (lv_at hl 3 rfl) ?_
    refine x_callSi (As := [.int (nI (S 39 i))]) (rest := []) cf hK hN hP hS (k_Ro_kind l hX (by have := (show S 39 i < 10496 ∧ S 39 i / 4 % 8 < X.2.2.1 ∧ S 39 i / 32 % 8 < X.2.2.1 ∧ S 39 i / 256 < 40 from hC.c 39 i); omega)) (cw_Ro_kind cf.2.2.2.2 w_303 ⟨Nat.le_of_ble_eq_true rfl, Nat.le_of_ble_eq_true rfl⟩) hl.1 rfl rfl (Nat.le_of_ble_eq_true rfl) ⟨Nat.zero_le _, Nat.zero_le _⟩ d_T_handOver_52 (fun H locs hP hS => ?_)
    rw [co_kind]
    obtain ⟨kk, hkk⟩ : ∃ z, z = (S 39 i % 4) := ⟨_, rfl⟩
    rw [← hkk]
    by_cases hsw0 : kk = 0
    · skip
      rw [hsw0]
      refine lv_lookup (off := 25) (tgt := 80) hx hb d_T_handOver_55 (by decide) (by decide) (by decide) ?_
      refine lv_aload_n hx hb d_T_handOver_80 rfl (lv_at hl 4 rfl) ?_
      refine lv_iload hx hb d_T_handOver_81 (lv_at hl 1 rfl) ?_
      refine lv_iload hx hb d_T_handOver_83 (lv_at hl 0 rfl) ?_
      refine x_callVv (As := [.int (nI (S 39 i / 4 % 8)), .int (nI (S 39 i / 256))]) (rest := []) cf hK hN hP hS (k_T_getProposal l hX hC1 (by omega) (by omega)) (cw_T_getProposal cf.2.2.2.2 w_306 ⟨Nat.le_of_ble_eq_true rfl, Nat.le_of_ble_eq_true rfl⟩) (rv_T hK hP) hl.1 rfl rfl (Nat.le_of_ble_eq_true rfl) ⟨Nat.zero_le _, Nat.zero_le _⟩ d_T_handOver_85 (fun H locs hP hS => ?_)
      refine lv_goto (tgt := 119) hx hb d_T_handOver_88 (by decide) ?_
      refine lv_iconst (v := nI 1) hx hb d_T_handOver_119 (by decide) ?_
      exact x_zret cf hr hlk hP hS (by rw [tnat_1 h1]; rfl) (by unfold cHand; rw [← hT1]; rw [if_pos (tnat_1 h1), if_pos (by omega)]) d_T_handOver_120
    by_cases hsw1 : kk = 1
    · skip
      rw [hsw1]
      refine lv_lookup (off := 36) (tgt := 91) hx hb d_T_handOver_55 (by decide) (by decide) (by decide) ?_
      refine lv_aload_n hx hb d_T_handOver_91 rfl (lv_at hl 4 rfl) ?_
      refine lv_iload hx hb d_T_handOver_92 (lv_at hl 1 rfl) ?_
      refine lv_iload_n hx hb d_T_handOver_94 rfl (lv_at hl 3 rfl) ?_
      refine x_callSi (As := [.int (nI (S 39 i))]) (rest := [.int (nI (S 39 i / 4 % 8)), .ref (X.2.2.2 25)]) cf hK hN hP hS (k_Ro_sender l hX (by have := (show S 39 i < 10496 ∧ S 39 i / 4 % 8 < X.2.2.1 ∧ S 39 i / 32 % 8 < X.2.2.1 ∧ S 39 i / 256 < 40 from hC.c 39 i); omega)) (cw_Ro_sender cf.2.2.2.2 w_331 ⟨Nat.le_of_ble_eq_true rfl, Nat.le_of_ble_eq_true rfl⟩) hl.1 rfl rfl (Nat.le_of_ble_eq_true rfl) ⟨Nat.zero_le _, Nat.zero_le _⟩ d_T_handOver_95 (fun H locs hP hS => ?_)
      rw [co_from]
      refine lv_iload hx hb d_T_handOver_98 (lv_at hl 0 rfl) ?_
      refine x_callVv (As := [.int (nI (S 39 i / 4 % 8)), .int (nI (S 39 i / 32 % 8)), .int (nI (S 39 i / 256))]) (rest := []) cf hK hN hP hS (k_T_getVote l hX hC1 (by omega) (by omega) (by omega)) (cw_T_getVote cf.2.2.2.2 w_334 ⟨Nat.le_of_ble_eq_true rfl, Nat.le_of_ble_eq_true rfl⟩) (rv_T hK hP) hl.1 rfl rfl (Nat.le_of_ble_eq_true rfl) ⟨Nat.zero_le _, Nat.zero_le _⟩ d_T_handOver_100 (fun H locs hP hS => ?_)
      refine lv_goto (tgt := 119) hx hb d_T_handOver_103 (by decide) ?_
      refine lv_iconst (v := nI 1) hx hb d_T_handOver_119 (by decide) ?_
      exact x_zret cf hr hlk hP hS (by rw [tnat_1 h1]; rfl) (by unfold cHand; rw [← hT1]; rw [if_pos (tnat_1 h1), if_neg (by omega), if_pos (by omega)]) d_T_handOver_120
    refine lv_lookup (off := 51) (tgt := 106) hx hb d_T_handOver_55 (by decide) ((lv_osw (k := nI 0) (fun h => hsw0 ((nI_eq (by omega) (by decide)).mp h)) (by decide)).trans ((lv_osw (k := nI 1) (fun h => hsw1 ((nI_eq (by omega) (by decide)).mp h)) (by decide)).trans rfl)) (by decide) ?_
    refine lv_aload_n hx hb d_T_handOver_106 rfl (lv_at hl 4 rfl) ?_
    refine lv_iload hx hb d_T_handOver_107 (lv_at hl 1 rfl) ?_
    refine lv_iload_n hx hb d_T_handOver_109 rfl (lv_at hl 3 rfl) ?_
    refine x_callSi (As := [.int (nI (S 39 i))]) (rest := [.int (nI (S 39 i / 4 % 8)), .ref (X.2.2.2 25)]) cf hK hN hP hS (k_Ro_sender l hX (by have := (show S 39 i < 10496 ∧ S 39 i / 4 % 8 < X.2.2.1 ∧ S 39 i / 32 % 8 < X.2.2.1 ∧ S 39 i / 256 < 40 from hC.c 39 i); omega)) (cw_Ro_sender cf.2.2.2.2 w_331 ⟨Nat.le_of_ble_eq_true rfl, Nat.le_of_ble_eq_true rfl⟩) hl.1 rfl rfl (Nat.le_of_ble_eq_true rfl) ⟨Nat.zero_le _, Nat.zero_le _⟩ d_T_handOver_110 (fun H locs hP hS => ?_)
    rw [co_from]
    refine lv_iload_n hx hb d_T_handOver_113 rfl (lv_at hl 2 rfl) ?_
    refine lv_iload hx hb d_T_handOver_114 (lv_at hl 0 rfl) ?_
    refine x_callVv (As := [.int (nI (S 39 i / 4 % 8)), .int (nI (S 39 i / 32 % 8)), .int (nI (S 40 i)), .int (nI (S 39 i / 256))]) (rest := []) cf hK hN hP hS (k_T_getNewView l hX hC1 (by omega) (by omega) (by have := (show S 40 i < 2147483648 from hC.c 40 i); omega) (by omega)) (cw_T_getNewView cf.2.2.2.2 w_344 ⟨Nat.le_of_ble_eq_true rfl, Nat.le_of_ble_eq_true rfl⟩) (rv_T hK hP) hl.1 rfl rfl (Nat.le_of_ble_eq_true rfl) ⟨Nat.zero_le _, Nat.zero_le _⟩ d_T_handOver_116 (fun H locs hP hS => ?_)
    refine lv_iconst (v := nI 1) hx hb d_T_handOver_119 (by decide) ?_
    exact x_zret cf hr hlk hP hS (by rw [tnat_1 h1]; rfl) (by unfold cHand; rw [← hT1]; rw [if_pos (tnat_1 h1), if_neg (by omega), if_neg (by omega)]) d_T_handOver_120
  · skip
    refine lv_iconst (v := nI 0) hx hb d_T_handOver_43 (by decide) ?_
    exact x_zret cf hr hlk hP hS (by rw [tnat_0 h1]; rfl) (by unfold cHand; rw [← hT1]; rw [if_neg (by rw [tnat_0 h1]; decide)]) d_T_handOver_44
