def adG (ad u : Nat → Nat) (i : Nat) : Nat := if i < 25 then u i else ad i
theorem adG_lo {ad u : Nat → Nat} {i : Nat} (h : i < 25) : adG ad u i = u i := if_pos h
theorem adG_hi {ad u : Nat → Nat} {i : Nat} (h : 25 ≤ i) : adG ad u i = ad i := if_neg (by omega)
theorem xE_lo {D : va_G} {cs : ClassId × ClassId × ClassId × ClassId} {n : Nat} {ad u : Nat → Nat} : ∀ i, i < 25 → ∀ r : Nat → Nat, xE (D, cs, n, u) i r = xE (D, cs, n, adG ad u) i r := by
  refine i25 ?_ ?_ ?_ ?_ ?_ ?_ ?_ ?_ ?_ ?_ ?_ ?_ ?_ ?_ ?_ ?_ ?_ ?_ ?_ ?_ ?_ ?_ ?_ ?_ ?_ <;> exact fun r => rfl
set_option maxRecDepth 100000 in
theorem xE_hi {D : va_G} {cs : ClassId × ClassId × ClassId × ClassId} {n i : Nat} {ad u : Nat → Nat} (h : 25 ≤ i) (r : Nat → Nat) : xE (D, cs, n, ad) i r = xE (D, cs, n, adG ad u) i r := by
  by_cases h2 : i < 44
  · by_cases h26 : i = 26
    · subst h26
      have e : (fun q => some (ad (3 * q + 44))) = fun q => some (adG ad u (3 * q + 44)) := funext fun q => by rw [adG_hi (by omega)]
      show Sum.inl (cs.2.2.2, n, Sum.inr (Sum.inr (Sum.inr (Sum.inr (fun q => some (ad (3 * q + 44))))))) = Sum.inl (cs.2.2.2, n, Sum.inr (Sum.inr (Sum.inr (Sum.inr (fun q => some (adG ad u (3 * q + 44)))))))
      rw [e]
    · rcases (show i = 25 ∨ i = 27 ∨ i = 28 ∨ i = 29 ∨ i = 30 ∨ i = 31 ∨ i = 32 ∨ i = 33 ∨ i = 34 ∨ i = 35 ∨ i = 36 ∨ i = 37 ∨ i = 38 ∨ i = 39 ∨ i = 40 ∨ i = 41 ∨ i = 42 ∨ i = 43 by omega) with rfl | rfl | rfl | rfl | rfl | rfl | rfl | rfl | rfl | rfl | rfl | rfl | rfl | rfl | rfl | rfl | rfl | rfl <;> rfl
  · unfold xE
    rw [if_neg h2, if_neg h2]
    by_cases h3 : (i - 44) % 3 = 0
    · rw [if_pos h3, if_pos h3]
      simp only [fsRp]
      rw [adG_hi (show 25 ≤ i + 1 by omega), adG_hi (show 25 ≤ i + 2 by omega)]
    · rw [if_neg h3, if_neg h3]
def posG (n i : Nat) : Nat := if i < 25 then 19 + 3 * n + i else i - 25
theorem wC_len {X : WX} {n : Nat} {S : Nat → Nat → Nat} {ad : Nat → Nat} : (wC X n S ad).length = 19 + 3 * n := by simp [wC]
theorem glue_at {X0 : WX} {n i : Nat} {S : Nat → Nat → Nat} {ad u : Nat → Nat} (hi : i < 44 + 3 * n) : (wC X0 n S ad ++ wl 25 u (xE (X0.1, X0.2.1, n, u)) S)[posG n i]? = some (adG ad u i, xE (X0.1, X0.2.1, n, adG ad u) i (S i)) := by
  unfold posG
  by_cases h : i < 25
  · rw [if_pos h, List.getElem?_append_right (by rw [wC_len]; omega), wC_len, show 19 + 3 * n + i - (19 + 3 * n) = i by omega, wl_at h, adG_lo h, xE_lo (ad := ad) i h]
  · rw [if_neg h, List.getElem?_append_left (by rw [wC_len]; omega), wC_at (by omega), show 25 + (i - 25) = i by omega, adG_hi (by omega), xE_hi (u := u) (by omega)]
theorem glue {X0 : WX} {n : Nat} {S : Nat → Nat → Nat} {ad u : Nat → Nat} {A : Nat → Prop} {H : Heap} (hn7 : n ≤ 7) (hP : va_P X0.1 vcl (wC X0 n S ad ++ wl 25 u (xE (X0.1, X0.2.1, n, u)) S) H) (hD : va_D A (wC X0 n S ad ++ wl 25 u (xE (X0.1, X0.2.1, n, u)) S)) : PW (X0.1, X0.2.1, n, adG ad u) S H ∧ xInj (X0.1, X0.2.1, n, adG ad u) ∧ ∀ q, xA (X0.1, X0.2.1, n, adG ad u) q → A q := by
  refine ⟨fun k q hk => ?_, ⟨hn7, fun i j hi hj e => ?_⟩, fun q hq => ?_⟩
  · have hl := (List.getElem?_eq_some_iff.mp hk).1
    rw [wl_len] at hl
    have hl : k < 44 + 3 * n := hl
    rw [wl_at hl] at hk
    cases hk
    exact hP _ _ (glue_at hl)
  · have hi : i < 44 + 3 * n := hi
    have hj : j < 44 + 3 * n := hj
    have h := hD.1 _ _ _ _ (glue_at hi) (glue_at hj) e
    unfold posG at h
    split at h <;> split at h <;> omega
  · obtain ⟨i, hi, rfl⟩ := hq
    exact hD.2 _ _ (glue_at hi)
theorem and31 (v : Int32) : ∃ c0, c0 < 32 ∧ v &&& nI 31 = nI c0 := by
  obtain ⟨a, -, rfl⟩ := wb_of32 v
  refine ⟨a % 32, Nat.mod_lt _ (by decide), ?_⟩
  rw [nI_and, show a &&& 31 = a % 32 from Nat.and_two_pow_sub_one_eq_mod a 5]
theorem law_le {L k : Nat} (hL : L < 2 ^ 31) (hk : 3 + 5 * k < 2 ^ 31) (h : ¬ Int32.ofNat L - nI 5 < nI (3 + 5 * k)) : 3 + 5 * k + 5 ≤ L := by
  apply Classical.byContradiction
  intro q
  apply h
  by_cases h5 : 5 ≤ L
  · have e : Int32.ofNat L - nI 5 = nI (L - 5) := pk_sub h5
    rw [e]
    exact nI_lt (by omega) hk
  · have e : (Int32.ofNat L - nI 5).toInt < 0 := by
      rcases (show L = 0 ∨ L = 1 ∨ L = 2 ∨ L = 3 ∨ L = 4 by omega) with rfl | rfl | rfl | rfl | rfl <;> decide
    refine Int32.lt_iff_toInt_lt.mpr ?_
    rw [nI_toInt hk]
    omega
set_option maxRecDepth 100000 in
set_option maxHeartbeats 4000000 in
theorem law_loop {p : Program} {l : Launch} {e : Env} {s : State} {m : MethodId} {below : List Frame} {meth : Method} {c : Code} {X : WX} {b L : Nat} {xs : Nat → Int32} (cf : CallFix p m c code 4 s #[Value.ref b] Mst "ThreeChainLedgerLaw") (hr : meth.sig.returnType = ret) (hlk : meth.locks = false) (hX : xInj X) (hK : XK X s) (hN : NWs s) (hbA : ¬ xA X b) (hlow : ∀ q, xA X q → s.heap.size ≤ q) (hLN : L ≤ 2563) : ∀ (dm k : Nat) (S : Nat → Nat → Nat) (ls : Array Slot) (H : Heap), lv_has ls 4 [(0, .ref b), (1, .ref (X.2.2.2 25)), (2, .ref (X.2.2.2 0)), (3, .int (nI (3 + 5 * k)))] → PW X S H → KV (10000 + k) X S → va_X b L xs s H → b < H.size → L - 5 * k = dm → 5 * k ≤ 2563 → W p l e room_1 s m #[Value.ref b] below meth c H [] 600000 7302249 (lw_Z below #[Value.ref b] s) (F0 m 48 ls []) := by
  have hx := cf.1
  have hb := cf.2.1
  have hL : L < 2 ^ 31 := by omega
  intro dm
  induction dm using Nat.strongRecOn with | ind dm lp => ?_
  intro k S ls H hl hP hV hsc hbl hdm hk5
  refine lv_iload_n hx hb d_L_law_48 rfl (lv_at hl 3 rfl) ?_
  refine lv_aload_n hx hb d_L_law_49 rfl (lv_at hl 0 rfl) ?_
  refine va_slen (A := xA X) hx hb hsc hbl hbA va_S.rf d_L_law_50 ?_
  refine lv_iconst (v := nI 5) hx hb d_L_law_51 (by decide) ?_
  refine lv_isub hx hb d_L_law_52 ?_
  refine lv_icmp_gt (tgt := 752) hx hb d_L_law_53 (by decide) (fun h1 => ?_) (fun h1 => ?_)
  · refine lv_iconst (v := 1) hx hb d_L_law_752 (by decide) ?_
    exact lw_ret hx hb hr hlk d_L_law_753
  · have hle := law_le hL (by omega) h1
    refine lv_aload_n hx hb d_L_law_56 rfl (lv_at hl 0 rfl) ?_
    refine lv_iload_n hx hb d_L_law_57 rfl (lv_at hl 3 rfl) ?_
    refine va_sld (A := xA X) hx hb hsc hbl hbA va_S.rf (vp_in_nI (by omega) hL) d_L_law_58 ?_
    refine lv_bipush (v := nI 31) hx hb d_L_law_59 (by decide) ?_
    refine lv_iand hx hb d_L_law_61 ?_
    obtain ⟨c0, hc0, hce⟩ := and31 (xs (nI (3 + 5 * k)).toNatClampNeg)
    rw [hce]
    have C0 : LwS p m c s #[Value.ref b] ls H X S b L (10000 + k) (3 + 5 * k) xs 600000 7302249 := ⟨cf, hX, hK, hN, hP, hV, by omega, hsc, hbl, hbA, by omega, hL, hl, Nat.le_of_ble_eq_true rfl, Nat.le_of_ble_eq_true rfl⟩
    have nx : LwN p l e s m #[Value.ref b] below meth c ls H 600000 7302249 (lw_Z below #[Value.ref b] s) X (10000 + k) := by
      intro H1 locs1 S1 hP1 hS1 hk1
      refine va_forget (fun q hq => hlow _ (hS1.2.2 q hq)) ?_
      refine lv_iinc (n := 5) (x := nI (3 + 5 * k)) (v := nI (3 + 5 * (k + 1))) (k := 3) (lv' := [(3, .int (nI (3 + 5 * (k + 1)))), (0, .ref b), (1, .ref (X.2.2.2 25)), (2, .ref (X.2.2.2 0))]) hx hb d_L_law_746 hl rfl (by rw [show Int32.ofInt 5 = nI 5 from by decide, nI_add, show 3 + 5 * k + 5 = 3 + 5 * (k + 1) by omega]) (by decide) rfl (fun ls hl => ?_)
      refine lv_goto (tgt := 48) hx hb d_L_law_749 (by decide) ?_
      exact lp _ (by omega) (k + 1) S1 ls H1 (lv_sub hl [1, 2, 3, 0] rfl) hP1 hk1 (hsc.kept (hS1.2.1 b hbl hbA)) (Nat.lt_of_lt_of_le hbl hS1.1) rfl (by omega)
    by_cases h20 : c0 < 20
    · rcases (show c0 = 0 ∨ c0 = 1 ∨ c0 = 2 ∨ c0 = 3 ∨ c0 = 4 ∨ c0 = 5 ∨ c0 = 6 ∨ c0 = 7 ∨ c0 = 8 ∨ c0 = 9 ∨ c0 = 10 ∨ c0 = 11 ∨ c0 = 12 ∨ c0 = 13 ∨ c0 = 14 ∨ c0 = 15 ∨ c0 = 16 ∨ c0 = 17 ∨ c0 = 18 ∨ c0 = 19 by omega) with rfl | rfl | rfl | rfl | rfl | rfl | rfl | rfl | rfl | rfl | rfl | rfl | rfl | rfl | rfl | rfl | rfl | rfl | rfl | rfl
      · exact lv_tableIn (off := 94) (tgt := 156) hx hb d_L_law_62 (by decide) (by decide) (by decide) (by decide) (o_submit C0 nx)
      · exact lv_tableIn (off := 147) (tgt := 209) hx hb d_L_law_62 (by decide) (by decide) (by decide) (by decide) (o_lead C0 nx)
      · exact lv_tableIn (off := 170) (tgt := 232) hx hb d_L_law_62 (by decide) (by decide) (by decide) (by decide) (o_tick C0 nx)
      · exact lv_tableIn (off := 193) (tgt := 255) hx hb d_L_law_62 (by decide) (by decide) (by decide) (by decide) (o_deliver C0 nx)
      · exact lv_tableIn (off := 216) (tgt := 278) hx hb d_L_law_62 (by decide) (by decide) (by decide) (by decide) (o_flow C0 nx)
      · exact lv_tableIn (off := 239) (tgt := 301) hx hb d_L_law_62 (by decide) (by decide) (by decide) (by decide) (o_drop C0 nx)
      · exact lv_tableIn (off := 262) (tgt := 324) hx hb d_L_law_62 (by decide) (by decide) (by decide) (by decide) (o_forge C0 nx)
      · exact lv_tableIn (off := 305) (tgt := 367) hx hb d_L_law_62 (by decide) (by decide) (by decide) (by decide) (o_offer C0 nx)
      · exact lv_tableIn (off := 338) (tgt := 400) hx hb d_L_law_62 (by decide) (by decide) (by decide) (by decide) (o_vote C0 nx)
      · exact lv_tableIn (off := 381) (tgt := 443) hx hb d_L_law_62 (by decide) (by decide) (by decide) (by decide) (o_claim C0 nx)
      · exact lv_tableIn (off := 434) (tgt := 496) hx hb d_L_law_62 (by decide) (by decide) (by decide) (by decide) (o_waiting C0 nx)
      · exact lv_tableIn (off := 447) (tgt := 509) hx hb d_L_law_62 (by decide) (by decide) (by decide) (by decide) (o_message C0 nx)
      · exact lv_tableIn (off := 470) (tgt := 532) hx hb d_L_law_62 (by decide) (by decide) (by decide) (by decide) (o_block C0 nx)
      · exact lv_tableIn (off := 493) (tgt := 555) hx hb d_L_law_62 (by decide) (by decide) (by decide) (by decide) (o_payload C0 nx)
      · exact lv_tableIn (off := 516) (tgt := 578) hx hb d_L_law_62 (by decide) (by decide) (by decide) (by decide) (o_votes C0 nx)
      · exact lv_tableIn (off := 539) (tgt := 601) hx hb d_L_law_62 (by decide) (by decide) (by decide) (by decide) (o_state C0 nx)
      · exact lv_tableIn (off := 572) (tgt := 634) hx hb d_L_law_62 (by decide) (by decide) (by decide) (by decide) (o_committed C0 nx)
      · exact lv_tableIn (off := 605) (tgt := 667) hx hb d_L_law_62 (by decide) (by decide) (by decide) (by decide) (o_balance C0 nx)
      · exact lv_tableIn (off := 638) (tgt := 700) hx hb d_L_law_62 (by decide) (by decide) (by decide) (by decide) (o_outcome C0 nx)
      · exact lv_tableIn (off := 671) (tgt := 733) hx hb d_L_law_62 (by decide) (by decide) (by decide) (by decide) (o_lost C0 nx)
    · exact lv_tableOut (tgt := 746) hx hb d_L_law_62 (Or.inr (by rw [nI_toInt (by omega)]; omega)) (by decide) (nx H [] S hP va_S.rf (hV.up (by omega)))
