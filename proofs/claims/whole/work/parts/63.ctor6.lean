def sM (f n k cs r : Nat) (i q : Nat) : Nat := match i with
  | 0 => (match q with | 0 => f | 1 => n | 2 => k | 3 => cs | 5 => 1 | _ => 0)
  | 14 => if q < r then 1 else 0
  | 16 => if q < r then 2 else 0
  | 19 => if q % 40 = 0 ∧ q < 40 * r then 1 else 0
  | _ => 0
def sZ (f n k : Nat) (i q : Nat) : Nat := match i with
  | 0 => (match q with | 0 => f | 1 => n | 2 => k | 5 => 1 | _ => 0)
  | _ => 0
theorem i25 {P : Nat → Prop} (h0 : P 0) (h1 : P 1) (h2 : P 2) (h3 : P 3) (h4 : P 4) (h5 : P 5) (h6 : P 6) (h7 : P 7) (h8 : P 8) (h9 : P 9) (h10 : P 10) (h11 : P 11) (h12 : P 12) (h13 : P 13) (h14 : P 14) (h15 : P 15) (h16 : P 16) (h17 : P 17) (h18 : P 18) (h19 : P 19) (h20 : P 20) (h21 : P 21) (h22 : P 22) (h23 : P 23) (h24 : P 24) : ∀ i, i < 25 → P i := by
  intro i hi
  rcases (show i = 0 ∨ i = 1 ∨ i = 2 ∨ i = 3 ∨ i = 4 ∨ i = 5 ∨ i = 6 ∨ i = 7 ∨ i = 8 ∨ i = 9 ∨ i = 10 ∨ i = 11 ∨ i = 12 ∨ i = 13 ∨ i = 14 ∨ i = 15 ∨ i = 16 ∨ i = 17 ∨ i = 18 ∨ i = 19 ∨ i = 20 ∨ i = 21 ∨ i = 22 ∨ i = 23 ∨ i = 24 by omega) with rfl | rfl | rfl | rfl | rfl | rfl | rfl | rfl | rfl | rfl | rfl | rfl | rfl | rfl | rfl | rfl | rfl | rfl | rfl | rfl | rfl | rfl | rfl | rfl | rfl
  · exact h0
  · exact h1
  · exact h2
  · exact h3
  · exact h4
  · exact h5
  · exact h6
  · exact h7
  · exact h8
  · exact h9
  · exact h10
  · exact h11
  · exact h12
  · exact h13
  · exact h14
  · exact h15
  · exact h16
  · exact h17
  · exact h18
  · exact h19
  · exact h20
  · exact h21
  · exact h22
  · exact h23
  · exact h24
theorem sZ_0 {f n k : Nat} : sZ f n k 0 = sM f n k 0 0 0 := by
  funext q
  rcases (show q = 0 ∨ q = 1 ∨ q = 2 ∨ q = 3 ∨ q = 4 ∨ q = 5 ∨ 6 ≤ q by omega) with rfl | rfl | rfl | rfl | rfl | rfl | h6
  · rfl
  · rfl
  · rfl
  · rfl
  · rfl
  · rfl
  · obtain ⟨t, rfl⟩ : ∃ t, q = t + 6 := ⟨q - 6, by omega⟩
    rfl
theorem sZ_eq {f n k : Nat} : ∀ i, i < 25 → sZ f n k i = sM f n k 0 0 i := by
  refine i25 ?_ ?_ ?_ ?_ ?_ ?_ ?_ ?_ ?_ ?_ ?_ ?_ ?_ ?_ ?_ ?_ ?_ ?_ ?_ ?_ ?_ ?_ ?_ ?_ ?_
  · exact sZ_0
  · rfl
  · rfl
  · rfl
  · rfl
  · rfl
  · rfl
  · rfl
  · rfl
  · rfl
  · rfl
  · rfl
  · rfl
  · rfl
  · funext q; show 0 = if q < 0 then 1 else 0; rw [if_neg (by omega)]
  · rfl
  · funext q; show 0 = if q < 0 then 2 else 0; rw [if_neg (by omega)]
  · rfl
  · rfl
  · funext q; show 0 = if q % 40 = 0 ∧ q < 40 * 0 then 1 else 0; rw [if_neg (by omega)]
  · rfl
  · rfl
  · rfl
  · rfl
  · rfl
theorem sM_eq {f n k cs : Nat} : ∀ i, i < 25 → sM f n k cs n i = st0 f n k cs i := by
  refine i25 ?_ ?_ ?_ ?_ ?_ ?_ ?_ ?_ ?_ ?_ ?_ ?_ ?_ ?_ ?_ ?_ ?_ ?_ ?_ ?_ ?_ ?_ ?_ ?_ ?_ <;> rfl
theorem wl_congr {K : Nat} {ad : Nat → Nat} {E : Nat → (Nat → Nat) → va_E} {S S' : Nat → Nat → Nat} (h : ∀ i, i < K → S i = S' i) : wl K ad E S = wl K ad E S' := by
  unfold wl
  exact List.map_congr_left (fun i hi => by rw [h i (List.mem_range.mp hi)])
theorem D_any {A : Nat → Prop} {K : Nat} {ad : Nat → Nat} {E : Nat → (Nat → Nat) → va_E} {S : Nat → Nat → Nat} (h : va_D A (wl K ad E S)) (S' : Nat → Nat → Nat) : va_D A (wl K ad E S') := by
  have key : ∀ (k : Nat) (q : Nat × va_E), (wl K ad E S')[k]? = some q → (wl K ad E S)[k]? = some (ad k, E k (S k)) ∧ q.1 = ad k := by
    intro k q hk
    have hl := (List.getElem?_eq_some_iff.mp hk).1
    rw [wl_len] at hl
    rw [wl_at hl] at hk
    cases hk
    exact ⟨wl_at hl, rfl⟩
  refine ⟨fun i j x y hi hj hxy => ?_, fun k q hk => ?_⟩
  · obtain ⟨a1, a2⟩ := key i x hi
    obtain ⟨b1, b2⟩ := key j y hj
    exact h.1 i j _ _ a1 b1 (by rw [← a2, ← b2]; exact hxy)
  · obtain ⟨a1, a2⟩ := key k q hk
    rw [a2]
    exact h.2 k _ a1
theorem sM_step {f n k r : Nat} : up2 (up2 (up2 (sM f n k 0 r) 14 r 1) 16 r 2) 19 (40 * r) 1 = sM f n k 0 (r + 1) := by
  funext i q
  rw [up2_at, up2_at, up2_at]
  by_cases h19 : i = 19
  · subst h19
    show (if 19 = 19 ∧ q = 40 * r then 1 else if 19 = 16 ∧ q = r then 2 else if 19 = 14 ∧ q = r then 1 else if q % 40 = 0 ∧ q < 40 * r then 1 else 0) = if q % 40 = 0 ∧ q < 40 * (r + 1) then 1 else 0
    rw [if_neg (show ¬ (19 = 16 ∧ q = r) by omega), if_neg (show ¬ (19 = 14 ∧ q = r) by omega)]
    by_cases h : q = 40 * r
    · rw [if_pos ⟨rfl, h⟩, if_pos (by omega)]
    · rw [if_neg (fun z => h z.2)]
      by_cases h2 : q % 40 = 0 ∧ q < 40 * r
      · rw [if_pos h2, if_pos (by omega)]
      · rw [if_neg h2, if_neg (by omega)]
  · rw [if_neg (fun z => h19 z.1)]
    by_cases h16 : i = 16
    · subst h16
      show (if 16 = 16 ∧ q = r then 2 else if 16 = 14 ∧ q = r then 1 else if q < r then 2 else 0) = if q < r + 1 then 2 else 0
      rw [if_neg (show ¬ (16 = 14 ∧ q = r) by omega)]
      by_cases h : q = r
      · rw [if_pos ⟨rfl, h⟩, if_pos (by omega)]
      · rw [if_neg (fun z => h z.2)]
        by_cases h2 : q < r
        · rw [if_pos h2, if_pos (by omega)]
        · rw [if_neg h2, if_neg (by omega)]
    · rw [if_neg (fun z => h16 z.1)]
      by_cases h14 : i = 14
      · subst h14
        show (if 14 = 14 ∧ q = r then 1 else if q < r then 1 else 0) = if q < r + 1 then 1 else 0
        by_cases h : q = r
        · rw [if_pos ⟨rfl, h⟩, if_pos (by omega)]
        · rw [if_neg (fun z => h z.2)]
          by_cases h2 : q < r
          · rw [if_pos h2, if_pos (by omega)]
          · rw [if_neg h2, if_neg (by omega)]
      · rw [if_neg (fun z => h14 z.1)]
        unfold sM
        split <;> first | rfl | (exfalso; omega) | contradiction
theorem sM_cs {f n k cs r : Nat} : up2 (sM f n k 0 r) 0 3 cs = sM f n k cs r := by
  funext i q
  rw [up2_at]
  by_cases h : i = 0
  · subst h
    by_cases hq : q = 3
    · subst hq
      rw [if_pos ⟨rfl, rfl⟩]
      rfl
    · rw [if_neg (fun z => hq z.2)]
      rcases (show q = 0 ∨ q = 1 ∨ q = 2 ∨ q = 4 ∨ q = 5 ∨ 6 ≤ q by omega) with rfl | rfl | rfl | rfl | rfl | h6
      · rfl
      · rfl
      · rfl
      · rfl
      · rfl
      · obtain ⟨t, rfl⟩ : ∃ t, q = t + 6 := ⟨q - 6, by omega⟩
        rfl
  · rw [if_neg (fun z => h z.1)]
    unfold sM
    split <;> first | rfl | contradiction
theorem kF_lo {tu : Int32} (h : tu.toInt < 4) : kF tu = 4 := by
  unfold kF kV
  rw [if_pos (Int32.lt_iff_toInt_lt.mpr (by rw [nI_toInt (by decide)]; omega))]
  exact nI_clamp (by decide)
theorem kF_hi {tu : Int32} (h : 9 < tu.toInt) : kF tu = 9 := by
  unfold kF kV
  rw [if_neg (fun z => by have := i_ltN (by decide) z; omega), if_pos (Int32.lt_iff_toInt_lt.mpr (by rw [nI_toInt (by decide)]; omega))]
  exact nI_clamp (by decide)
theorem kF_mid {tu : Int32} (h1 : 4 ≤ tu.toInt) (h2 : tu.toInt ≤ 9) : tu = nI (kF tu) := by
  rw [← (kF_spec tu).1]
  unfold kV
  rw [if_neg (fun z => by have := i_ltN (by decide) z; omega), if_neg (fun z => by have := i_gtN (by decide) z; omega)]
theorem ctP_cs {f n b : Nat} (hf : f = 1 ∨ f = 2) (hn : n = 3 * f + 1) (hb : b < 2 ^ n) : (ctP b f n).1 = cLeast b f := by
  rcases hf with rfl | rfl
  · subst hn
    exact ctP_1 b hb
  · subst hn
    exact ctP_2 b hb
section RF
variable {p : Program} {l : Launch} {e : Env} {R : Room} {s : State} {m : MethodId} {args : Array Value} {below : List Frame} {meth : Method} {c : Code} {H : Heap} {locs : List Loc} {cells slots : Nat} {Q : State → Prop}
variable {cc : ByteArray} {pc : Nat} {ls : Array Slot} {rest : List Value} {D : va_G} {cl : List vw_C} {A : Nat → Prop} {tys : List (ClassId × FieldType)} {H0 : Heap} {K : Nat} {ad : Nat → Nat} {E : Nat → (Nat → Nat) → va_E} {S : Nat → Nat → Nat}
theorem r_putF (hx : p.tables.exec = Jvm.exec) (hb : c.code = cc) {own C : String} {T : u_T} {N ci index : Nat} {Ts : List Cond} (hts : ∀ w ∈ Ts, w.before args s = true) (hin : ∀ w ∈ u_ws C T N, w ∈ Ts) (ty0 : Nat → FieldType) (hty : ∀ k, k < N → parseFieldDescriptor (T k).2.2.1 = some (ty0 k)) (hnm : ∀ a, a < N → ∀ b, b < N → a ≠ b → (T a).2.1 ≠ (T b).2.1) (hown : s.vm.findClass own = some m.cls) (hK : va_K D cl tys s) (hP : va_P D cl (wl K ad E S) H) (hD : ∀ S : Nat → Nat → Nat, va_D A (wl K ad E S)) (hS : va_S A H0 H locs) (i : Nat) (hi : i < K) {fs : List Value} (he : E i (S i) = .inr (ci, fs)) (hc : cl[ci]? = some (C, T, N)) (k : Nat) (hk : k < N) (hl : Cond.fieldLink own index (T k).1 (T k).2.1 (T k).2.2.1 ∈ Ts) (hfin : (T k).2.2.2 = true) (hin2 : meth.name = "<init>") (hdecl : (T k).1 = own) (hd : parseFieldDescriptor (T k).2.2.1 = some .int) (hl2 : k < fs.length) (j : Nat) {v : Nat} (he2 : E i (va_up (S i) j v) = .inr (ci, fs.set k (.int (nI v)))) (hdg : decode cc pc = .ok (.putfield index, 3)) (kk : ∀ (H1 : Heap) (locs1 : List Loc), va_P D cl (wl K ad E (up2 S i j v)) H1 → va_S A H0 H1 locs1 → W p l e R s m args below meth c H1 locs1 cells slots Q (F0 m (pc + 3) ls rest)) : W p l e R s m args below meth c H locs cells slots Q (F0 m pc ls (.int (nI v) :: .ref (ad i) :: rest)) := by
  refine va_putF (v := .int (nI v)) (ty := .int) hx hb hts hin ty0 hty hnm hown hK hP (hD S) hS i ((wl_at hi).trans (by rw [he])) hc k hk (hts _ hl) (fun _ h => h) hfin hin2 hdecl hd rfl rfl hl2 hdg (fun H1 locs1 h1 _ h3 => kk H1 locs1 ?_ h3)
  rw [wl_set hi he2] at h1
  exact h1
end RF
set_option maxRecDepth 100000 in
set_option maxHeartbeats 4000000 in
theorem M_loop {p : Program} {l : Launch} {e : Env} {s : State} {m : MethodId} {args : Array Value} {below : List Frame} {meth : Method} {c : Code} {X : WX} {A : Nat → Prop} {ad : Nat → Nat} {n f k cs a : Nat} (cf : CallFix p m c c_M_init 7 s args Mst "ThreeChainLedgerModel") (hr : meth.sig.returnType = none) (hlk : meth.locks = false) (hnm : meth.name = "<init>") (hK : XK X s) (hf : f = 1 ∨ f = 2) (hn : n = 3 * f + 1) (hcs : cs = (ctP (a % 2 ^ n) f n).1) (hD : ∀ S : Nat → Nat → Nat, va_D A (wl 25 ad (xE (X.1, X.2.1, n, ad)) S)) : ∀ (dm r : Nat) (ls : Array Slot) (H : Heap) (locs : List Loc), lv_has ls 7 [(0, .ref (ad 0)), (2, .int (nI a)), (4, .int (nI (ctP (a % 2 ^ n) f r).1)), (5, .int (nI (ctP (a % 2 ^ n) f r).2)), (6, .int (nI r))] → va_P X.1 vcl (wl 25 ad (xE (X.1, X.2.1, n, ad)) (sM f n k 0 r)) H → va_S A s.heap H locs → r ≤ n → n - r = dm → W p l e (rmc 1 24 1168) s m args below meth c H locs 24 1168 (MQ below (QcC X 0 (ad 0) (fun ad => wl 25 ad (xE (X.1, X.2.1, n, ad)) (st0 f n k cs)) A) args s 24 1168 A) (F0 m 262 ls []) := by
  have hx := cf.1
  have hb := cf.2.1
  intro dm
  induction dm using Nat.strongRecOn with | ind dm lp => ?_
  intro r ls H locs hl hP hS hrn hdm
  have hn7 : n ≤ 7 := by omega
  have hcl := ctP_le (a % 2 ^ n) f r
  refine lv_iload hx hb d_M_init_262 (lv_at hl 4 rfl) ?_
  refine lv_aload_n hx hb d_M_init_264 rfl (lv_at hl 0 rfl) ?_
  refine r_get (ci := 0) (C := R_M) (T := F_M) (N := 32) (v := .int (nI n)) (fs := fsM ad (sM f n k 0 r 0)) hx hb cf.2.2.2.2 in_M cf.2.2.2.1 hK hP 0 (by decide) rfl rfl 1 (by decide) w_462 rfl d_M_init_265 ?_
  refine n_icmp_ge (tgt := 335) hx hb d_M_init_268 (by decide) (by omega) (by omega) (fun h1 => ?_) (fun h1 => ?_)
  · have hrn : r = n := by omega
    subst hrn
    refine lv_aload_n hx hb d_M_init_335 rfl (lv_at hl 0 rfl) ?_
    refine lv_iload hx hb d_M_init_336 (lv_at hl 2 rfl) ?_
    rw [← hcs]
    refine r_putF (ci := 0) (C := R_M) (T := F_M) (N := 32) (fs := fsM ad (sM f r k 0 r 0)) hx hb cf.2.2.2.2 in_M ty_M tok_M n_M_ cf.2.2.2.1 hK hP hD hS 0 (by decide) rfl rfl 3 (by decide) w_464 rfl hnm rfl (by decide +kernel) (Nat.le_of_ble_eq_true rfl) 3 (v := cs) rfl d_M_init_338 (fun H locs hP hS => ?_)
    rw [sM_cs, wl_congr (sM_eq (f := f) (n := r) (k := k) (cs := cs))] at hP
    exact c_vret (Wn := fun ad => wl 25 ad (xE (X.1, X.2.1, r, ad)) (st0 f r k cs)) cf hr hlk (Nat.le_refl _) (Nat.le_refl _) ad rfl hP (hD _) hS d_M_init_341
  · suffices key : ∀ ls : Array Slot, lv_has ls 7 [(0, .ref (ad 0)), (2, .int (nI a)), (4, .int (nI (ctP (a % 2 ^ n) f (r + 1)).1)), (5, .int (nI (ctP (a % 2 ^ n) f (r + 1)).2)), (6, .int (nI r))] → W p l e (rmc 1 24 1168) s m args below meth c H locs 24 1168 (MQ below (QcC X 0 (ad 0) (fun ad => wl 25 ad (xE (X.1, X.2.1, n, ad)) (st0 f n k cs)) A) args s 24 1168 A) (F0 m 302 ls []) by
      have hbm : (a % 2 ^ n) / 2 ^ r % 2 = a / 2 ^ r % 2 := bit_mod h1
      have hno : ¬ (a / 2 ^ r % 2 = 1 ∧ (ctP (a % 2 ^ n) f r).2 < f) → ctP (a % 2 ^ n) f (r + 1) = ctP (a % 2 ^ n) f r := fun h => by
        rw [ctP_s, hbm, if_neg h]
      refine lv_iload_n hx hb d_M_init_271 rfl (lv_at hl 1 rfl) ?_
      refine lv_iload hx hb d_M_init_272 (lv_at hl 4 rfl) ?_
      refine lv_ishr hx hb d_M_init_274 ?_
      refine lv_iconst (v := nI 1) hx hb d_M_init_275 (by decide) ?_
      refine lv_iand hx hb d_M_init_276 ?_
      rw [sar_bit a r (by omega)]
      refine lv_iconst (v := nI 1) hx hb d_M_init_277 (by decide) ?_
      refine n_icmp_ne (tgt := 302) hx hb d_M_init_278 (by decide) (by omega) (by omega) (fun h2 => ?_) (fun h2 => ?_)
      · refine key ls ?_
        rw [hno (fun z => h2 z.1)]
        exact hl
      · refine lv_iload hx hb d_M_init_281 (lv_at hl 3 rfl) ?_
        refine lv_aload_n hx hb d_M_init_283 rfl (lv_at hl 0 rfl) ?_
        refine r_get (ci := 0) (C := R_M) (T := F_M) (N := 32) (v := .int (nI f)) (fs := fsM ad (sM f n k 0 r 0)) hx hb cf.2.2.2.2 in_M cf.2.2.2.1 hK hP 0 (by decide) rfl rfl 0 (by decide) w_461 rfl d_M_init_284 ?_
        refine n_icmp_ge (tgt := 302) hx hb d_M_init_287 (by decide) (by omega) (by omega) (fun h3 => ?_) (fun h3 => ?_)
        · refine key ls ?_
          rw [hno (fun z => by omega)]
          exact hl
        · have hyes : ctP (a % 2 ^ n) f (r + 1) = ((ctP (a % 2 ^ n) f r).1 ||| 2 ^ r, (ctP (a % 2 ^ n) f r).2 + 1) := by
            rw [ctP_s, hbm, if_pos ⟨h2, h3⟩]
          have hp2 : 1 * 2 ^ r < 2 ^ 32 := by rw [Nat.one_mul]; exact Nat.pow_lt_pow_right (by decide) (by omega)
          refine lv_iload hx hb d_M_init_290 (lv_at hl 2 rfl) ?_
          refine lv_iconst (v := nI 1) hx hb d_M_init_292 (by decide) ?_
          refine lv_iload hx hb d_M_init_293 (lv_at hl 4 rfl) ?_
          refine n_ishl hx hb (by omega) hp2 d_M_init_295 ?_
          refine n_ior hx hb d_M_init_296 ?_
          rw [Nat.one_mul]
          refine lv_istore (lv' := [(4, .int (nI ((ctP (a % 2 ^ n) f r).1 ||| 2 ^ r))), (0, .ref (ad 0)), (2, .int (nI a)), (5, .int (nI (ctP (a % 2 ^ n) f r).2)), (6, .int (nI r))]) hx hb d_M_init_297 hl (by decide) rfl (fun ls hl => ?_)
          refine n_iinc1 (lv' := [(5, .int (nI ((ctP (a % 2 ^ n) f r).2 + 1))), (4, .int (nI ((ctP (a % 2 ^ n) f r).1 ||| 2 ^ r))), (0, .ref (ad 0)), (2, .int (nI a)), (6, .int (nI r))]) (k := 3) hx hb d_M_init_299 hl rfl (by decide) rfl (fun ls hl => ?_)
          refine key ls ?_
          rw [hyes]
          exact lv_sub hl [2, 3, 1, 0, 4] rfl
    intro ls hl
    refine lv_aload_n hx hb d_M_init_302 rfl (lv_at hl 0 rfl) ?_
    refine r_get (ci := 0) (C := R_M) (T := F_M) (N := 32) (v := .ref (ad 14)) (fs := fsM ad ((sM f n k 0 r) 0)) hx hb cf.2.2.2.2 in_M cf.2.2.2.1 hK hP 0 (by decide) rfl rfl 21 (by decide) w_482 rfl d_M_init_303 ?_
    refine lv_iload hx hb d_M_init_306 (lv_at hl 4 rfl) ?_
    refine lv_iconst (v := nI 1) hx hb d_M_init_308 (by decide) ?_
    refine r_iast hx hb hK hP hD hS 14 0 (by decide) (cA := X.2.1.1) (n := 7) (fun _ => rfl) rfl (j := r) (v := 1) (by omega) (by decide) d_M_init_309 (fun H locs hP hS => ?_)
    refine lv_aload_n hx hb d_M_init_310 rfl (lv_at hl 0 rfl) ?_
    refine r_get (ci := 0) (C := R_M) (T := F_M) (N := 32) (v := .ref (ad 16)) (fs := fsM ad ((up2 (sM f n k 0 r) 14 r 1) 0)) hx hb cf.2.2.2.2 in_M cf.2.2.2.1 hK hP 0 (by decide) rfl rfl 23 (by decide) w_484 rfl d_M_init_311 ?_
    refine lv_iload hx hb d_M_init_314 (lv_at hl 4 rfl) ?_
    refine lv_iconst (v := nI 2) hx hb d_M_init_316 (by decide) ?_
    refine r_iast hx hb hK hP hD hS 16 0 (by decide) (cA := X.2.1.1) (n := 7) (fun _ => rfl) rfl (j := r) (v := 2) (by omega) (by decide) d_M_init_317 (fun H locs hP hS => ?_)
    refine lv_aload_n hx hb d_M_init_318 rfl (lv_at hl 0 rfl) ?_
    refine r_get (ci := 0) (C := R_M) (T := F_M) (N := 32) (v := .ref (ad 19)) (fs := fsM ad ((up2 (up2 (sM f n k 0 r) 14 r 1) 16 r 2) 0)) hx hb cf.2.2.2.2 in_M cf.2.2.2.1 hK hP 0 (by decide) rfl rfl 26 (by decide) w_487 rfl d_M_init_319 ?_
    refine lv_bipush (v := nI 40) hx hb d_M_init_322 (by decide) ?_
    refine lv_iload hx hb d_M_init_324 (lv_at hl 4 rfl) ?_
    refine n_imul hx hb d_M_init_326 ?_
    refine lv_iconst (v := nI 1) hx hb d_M_init_327 (by decide) ?_
    refine r_zast hx hb hK hP hD hS 19 1 (by decide) (cA := X.2.1.2.1) (n := 280) (fun _ => rfl) rfl (j := 40 * r) (v := 1) (by omega) (by decide) (by decide) d_M_init_328 (fun H locs hP hS => ?_)
    rw [sM_step] at hP
    refine n_iinc1 (lv' := [(6, .int (nI (r + 1))), (0, .ref (ad 0)), (2, .int (nI a)), (4, .int (nI (ctP (a % 2 ^ n) f (r + 1)).1)), (5, .int (nI (ctP (a % 2 ^ n) f (r + 1)).2))]) (k := 4) hx hb d_M_init_329 hl rfl (by decide) rfl (fun ls hl => ?_)
    refine lv_goto (tgt := 262) hx hb d_M_init_332 (by decide) ?_
    exact lp _ (by omega) (r + 1) ls H locs (lv_sub hl [1, 2, 3, 4, 0] rfl) hP hS (by omega) rfl
theorem wl25 (ad : Nat → Nat) (E : Nat → (Nat → Nat) → va_E) (S : Nat → Nat → Nat) : wl 25 ad E S = [(ad 0, E 0 (S 0)), (ad 1, E 1 (S 1)), (ad 2, E 2 (S 2)), (ad 3, E 3 (S 3)), (ad 4, E 4 (S 4)), (ad 5, E 5 (S 5)), (ad 6, E 6 (S 6)), (ad 7, E 7 (S 7)), (ad 8, E 8 (S 8)), (ad 9, E 9 (S 9)), (ad 10, E 10 (S 10)), (ad 11, E 11 (S 11)), (ad 12, E 12 (S 12)), (ad 13, E 13 (S 13)), (ad 14, E 14 (S 14)), (ad 15, E 15 (S 15)), (ad 16, E 16 (S 16)), (ad 17, E 17 (S 17)), (ad 18, E 18 (S 18)), (ad 19, E 19 (S 19)), (ad 20, E 20 (S 20)), (ad 21, E 21 (S 21)), (ad 22, E 22 (S 22)), (ad 23, E 23 (S 23)), (ad 24, E 24 (S 24))] := rfl
set_option maxRecDepth 100000 in
set_option maxHeartbeats 4000000 in
theorem M_tail {p : Program} {l : Launch} {e : Env} {s : State} {m : MethodId} {args : Array Value} {below : List Frame} {meth : Method} {c : Code} {H : Heap} {locs : List Loc} {X : WX} {A : Nat → Prop} {ls : Array Slot} {h0 n f k cs a q1 q2 q3 q4 q5 q6 q7 q8 q9 q10 q11 q12 q13 q14 q15 q16 q17 q18 q19 q20 q21 q22 q23 q24 : Nat} {fa tu : Int32} (cf : CallFix p m c c_M_init 7 s args Mst "ThreeChainLedgerModel") (hr : meth.sig.returnType = none) (hlk : meth.locks = false) (hnm : meth.name = "<init>") (hK : XK X s) (hk : k = kF tu) (hfe : f = fF fa) (hf : f = 1 ∨ f = 2) (hn : n = 3 * f + 1) (hcs : cs = (ctP (a % 2 ^ n) f n).1) (hl : lv_has ls 7 [(0, .ref h0), (1, .int fa), (2, .int (nI a)), (3, .int tu)]) (hP : va_P X.1 vcl ((h0, .inr (0, [.int (nI 0), .int (nI 0), .int (nI 0), .int (nI 0), .int (nI 0), .ref q1, .ref q2, .ref q3, .ref q4, .int (nI 1), .ref q5, .ref q6, .ref q7, .ref q8, .int (nI 0), .int (nI 0), .ref q9, .ref q10, .ref q11, .ref q12, .ref q13, .ref q14, .ref q15, .ref q16, .ref q17, .ref q18, .ref q19, .ref q20, .ref q21, .ref q22, .ref q23, .ref q24])) :: [(q1, aI X.2.1.1 24), (q2, aI X.2.1.1 24), (q3, aI X.2.1.1 24), (q4, aI X.2.1.1 24), (q5, aI X.2.1.1 40), (q6, aI X.2.1.1 40), (q7, aI X.2.1.1 40), (q8, aI X.2.1.1 40), (q9, aI X.2.1.1 40), (q10, aI X.2.1.1 40), (q11, aI X.2.1.1 40), (q12, aI X.2.1.1 40), (q13, aI X.2.1.1 40), (q14, aI X.2.1.1 7), (q15, aI X.2.1.1 7), (q16, aI X.2.1.1 7), (q17, aI X.2.1.1 7), (q18, aI X.2.1.1 7), (q19, aI X.2.1.2.1 280), (q20, aI X.2.1.1 280), (q21, aI X.2.1.1 49), (q22, aI X.2.1.1 40), (q23, aI X.2.1.1 4), (q24, aI X.2.1.1 24)]) H) (hD : va_D A ((h0, .inr (0, [.int (nI 0), .int (nI 0), .int (nI 0), .int (nI 0), .int (nI 0), .ref q1, .ref q2, .ref q3, .ref q4, .int (nI 1), .ref q5, .ref q6, .ref q7, .ref q8, .int (nI 0), .int (nI 0), .ref q9, .ref q10, .ref q11, .ref q12, .ref q13, .ref q14, .ref q15, .ref q16, .ref q17, .ref q18, .ref q19, .ref q20, .ref q21, .ref q22, .ref q23, .ref q24])) :: [(q1, aI X.2.1.1 24), (q2, aI X.2.1.1 24), (q3, aI X.2.1.1 24), (q4, aI X.2.1.1 24), (q5, aI X.2.1.1 40), (q6, aI X.2.1.1 40), (q7, aI X.2.1.1 40), (q8, aI X.2.1.1 40), (q9, aI X.2.1.1 40), (q10, aI X.2.1.1 40), (q11, aI X.2.1.1 40), (q12, aI X.2.1.1 40), (q13, aI X.2.1.1 40), (q14, aI X.2.1.1 7), (q15, aI X.2.1.1 7), (q16, aI X.2.1.1 7), (q17, aI X.2.1.1 7), (q18, aI X.2.1.1 7), (q19, aI X.2.1.2.1 280), (q20, aI X.2.1.1 280), (q21, aI X.2.1.1 49), (q22, aI X.2.1.1 40), (q23, aI X.2.1.1 4), (q24, aI X.2.1.1 24)])) (hS : va_S A s.heap H locs) : W p l e (rmc 1 24 1168) s m args below meth c H locs 24 1168 (MQ below (QcC X 0 h0 (fun ad => wl 25 ad (xE (X.1, X.2.1, n, ad)) (st0 f n k cs)) A) args s 24 1168 A) (F0 m 202 ls []) := by
  have hx := cf.1
  have hb := cf.2.1
  refine lv_aload_n hx hb d_M_init_202 rfl (lv_at hl 0 rfl) ?_
  refine lv_iload_n hx hb d_M_init_203 rfl (lv_at hl 1 rfl) ?_
  refine lv_iconst (v := nI 2) hx hb d_M_init_204 (by decide) ?_
  suffices key : W p l e (rmc 1 24 1168) s m args below meth c H locs 24 1168 (MQ below (QcC X 0 h0 (fun ad => wl 25 ad (xE (X.1, X.2.1, n, ad)) (st0 f n k cs)) A) args s 24 1168 A) (F0 m 213 ls [.int (nI f), .ref h0]) by
    refine lv_icmp_ne (tgt := 212) hx hb d_M_init_205 (by decide) (fun h1 => ?_) (fun h1 => ?_)
    · have hf1 : f = 1 := by rw [hfe]; unfold fF; exact if_neg h1
      exact lv_iconst (v := nI f) hx hb d_M_init_212 (by rw [hf1]; decide) key
    · have hf2 : f = 2 := by rw [hfe]; unfold fF; exact if_pos h1
      refine lv_iconst (v := nI f) hx hb d_M_init_208 (by rw [hf2]; decide) ?_
      exact lv_goto (tgt := 213) hx hb d_M_init_209 (by decide) key
  refine c_putF (ty := .int) (v := .int (nI f)) cf hnm in_M ty_M tok_M n_M_ (ci := 0) rfl hK hP hD hS 0 (by decide) w_461 rfl rfl (by decide +kernel) rfl rfl (Nat.le_of_ble_eq_true rfl) d_M_init_213 (fun H locs hP hD hS => ?_)
  refine lv_aload_n hx hb d_M_init_216 rfl (lv_at hl 0 rfl) ?_
  refine lv_iconst (v := nI 3) hx hb d_M_init_217 (by decide) ?_
  refine lv_aload_n hx hb d_M_init_218 rfl (lv_at hl 0 rfl) ?_
  refine c_get cf in_M (ci := 0) (v := .int (nI f)) rfl hK hP 0 (by decide) w_461 rfl d_M_init_219 ?_
  refine n_imul hx hb d_M_init_222 ?_
  refine lv_iconst (v := nI 1) hx hb d_M_init_223 (by decide) ?_
  refine n_iadd hx hb d_M_init_224 ?_
  rw [← hn]
  refine c_putF (ty := .int) (v := .int (nI n)) cf hnm in_M ty_M tok_M n_M_ (ci := 0) rfl hK hP hD hS 1 (by decide) w_462 rfl rfl (by decide +kernel) rfl rfl (Nat.le_of_ble_eq_true rfl) d_M_init_225 (fun H locs hP hD hS => ?_)
  refine lv_aload_n hx hb d_M_init_228 rfl (lv_at hl 0 rfl) ?_
  refine lv_iload_n hx hb d_M_init_229 rfl (lv_at hl 3 rfl) ?_
  refine lv_iconst (v := nI 4) hx hb d_M_init_230 (by decide) ?_
  suffices key : W p l e (rmc 1 24 1168) s m args below meth c H locs 24 1168 (MQ below (QcC X 0 h0 (fun ad => wl 25 ad (xE (X.1, X.2.1, n, ad)) (st0 f n k cs)) A) args s 24 1168 A) (F0 m 250 ls [.int (nI k), .ref h0]) by
    refine lv_icmp_ge (tgt := 238) hx hb d_M_init_231 (by decide) (fun h1 => ?_) (fun h1 => ?_)
    · have h1 := i_geN (by decide) h1
      refine lv_iload_n hx hb d_M_init_238 rfl (lv_at hl 3 rfl) ?_
      refine lv_bipush (v := nI 9) hx hb d_M_init_239 (by decide) ?_
      refine lv_icmp_le (tgt := 249) hx hb d_M_init_241 (by decide) (fun h2 => ?_) (fun h2 => ?_)
      · have h2 := i_leN (by decide) h2
        refine lv_iload_n hx hb d_M_init_249 rfl (lv_at hl 3 rfl) ?_
        have hkt : tu = nI k := by rw [hk]; exact kF_mid (by omega) (by omega)
        rw [hkt]
        exact key
      · have h2 := i_nleN (by decide) h2
        have hk9 : k = 9 := by rw [hk]; exact kF_hi (by omega)
        refine lv_bipush (v := nI k) hx hb d_M_init_244 (by rw [hk9]; decide) ?_
        exact lv_goto (tgt := 250) hx hb d_M_init_246 (by decide) key
    · have h1 := i_ngeN (by decide) h1
      have hk4 : k = 4 := by rw [hk]; exact kF_lo (by omega)
      refine lv_iconst (v := nI k) hx hb d_M_init_234 (by rw [hk4]; decide) ?_
      exact lv_goto (tgt := 250) hx hb d_M_init_235 (by decide) key
  refine c_putF (ty := .int) (v := .int (nI k)) cf hnm in_M ty_M tok_M n_M_ (ci := 0) rfl hK hP hD hS 2 (by decide) w_463 rfl rfl (by decide +kernel) rfl rfl (Nat.le_of_ble_eq_true rfl) d_M_init_250 (fun H locs hP hD hS => ?_)
  refine lv_iconst (v := nI 0) hx hb d_M_init_253 (by decide) ?_
  refine lv_istore (lv' := [(4, .int (nI 0)), (0, .ref h0), (1, .int fa), (2, .int (nI a)), (3, .int tu)]) hx hb d_M_init_254 hl (by decide) rfl (fun ls hl => ?_)
  refine lv_iconst (v := nI 0) hx hb d_M_init_256 (by decide) ?_
  refine lv_istore (lv' := [(5, .int (nI 0)), (4, .int (nI 0)), (0, .ref h0), (1, .int fa), (2, .int (nI a)), (3, .int tu)]) hx hb d_M_init_257 hl (by decide) rfl (fun ls hl => ?_)
  refine lv_iconst (v := nI 0) hx hb d_M_init_259 (by decide) ?_
  refine lv_istore (lv' := [(6, .int (nI 0)), (5, .int (nI 0)), (4, .int (nI 0)), (0, .ref h0), (1, .int fa), (2, .int (nI a)), (3, .int tu)]) hx hb d_M_init_260 hl (by decide) rfl (fun ls hl => ?_)
  obtain ⟨ad, had⟩ : ∃ z : Nat → Nat, z = (fun i => match i with | 0 => h0 | 1 => q1 | 2 => q2 | 3 => q3 | 4 => q4 | 5 => q5 | 6 => q6 | 7 => q7 | 8 => q8 | 9 => q9 | 10 => q10 | 11 => q11 | 12 => q12 | 13 => q13 | 14 => q14 | 15 => q15 | 16 => q16 | 17 => q17 | 18 => q18 | 19 => q19 | 20 => q20 | 21 => q21 | 22 => q22 | 23 => q23 | _ => q24) := ⟨_, rfl⟩
  have hP : va_P X.1 vcl ((h0, .inr (0, [.int (nI f), .int (nI n), .int (nI k), .int (nI 0), .int (nI 0), .ref q1, .ref q2, .ref q3, .ref q4, .int (nI 1), .ref q5, .ref q6, .ref q7, .ref q8, .int (nI 0), .int (nI 0), .ref q9, .ref q10, .ref q11, .ref q12, .ref q13, .ref q14, .ref q15, .ref q16, .ref q17, .ref q18, .ref q19, .ref q20, .ref q21, .ref q22, .ref q23, .ref q24])) :: [(q1, aI X.2.1.1 24), (q2, aI X.2.1.1 24), (q3, aI X.2.1.1 24), (q4, aI X.2.1.1 24), (q5, aI X.2.1.1 40), (q6, aI X.2.1.1 40), (q7, aI X.2.1.1 40), (q8, aI X.2.1.1 40), (q9, aI X.2.1.1 40), (q10, aI X.2.1.1 40), (q11, aI X.2.1.1 40), (q12, aI X.2.1.1 40), (q13, aI X.2.1.1 40), (q14, aI X.2.1.1 7), (q15, aI X.2.1.1 7), (q16, aI X.2.1.1 7), (q17, aI X.2.1.1 7), (q18, aI X.2.1.1 7), (q19, aI X.2.1.2.1 280), (q20, aI X.2.1.1 280), (q21, aI X.2.1.1 49), (q22, aI X.2.1.1 40), (q23, aI X.2.1.1 4), (q24, aI X.2.1.1 24)]) H := hP
  have hD : va_D A ((h0, .inr (0, [.int (nI f), .int (nI n), .int (nI k), .int (nI 0), .int (nI 0), .ref q1, .ref q2, .ref q3, .ref q4, .int (nI 1), .ref q5, .ref q6, .ref q7, .ref q8, .int (nI 0), .int (nI 0), .ref q9, .ref q10, .ref q11, .ref q12, .ref q13, .ref q14, .ref q15, .ref q16, .ref q17, .ref q18, .ref q19, .ref q20, .ref q21, .ref q22, .ref q23, .ref q24])) :: [(q1, aI X.2.1.1 24), (q2, aI X.2.1.1 24), (q3, aI X.2.1.1 24), (q4, aI X.2.1.1 24), (q5, aI X.2.1.1 40), (q6, aI X.2.1.1 40), (q7, aI X.2.1.1 40), (q8, aI X.2.1.1 40), (q9, aI X.2.1.1 40), (q10, aI X.2.1.1 40), (q11, aI X.2.1.1 40), (q12, aI X.2.1.1 40), (q13, aI X.2.1.1 40), (q14, aI X.2.1.1 7), (q15, aI X.2.1.1 7), (q16, aI X.2.1.1 7), (q17, aI X.2.1.1 7), (q18, aI X.2.1.1 7), (q19, aI X.2.1.2.1 280), (q20, aI X.2.1.1 280), (q21, aI X.2.1.1 49), (q22, aI X.2.1.1 40), (q23, aI X.2.1.1 4), (q24, aI X.2.1.1 24)]) := hD
  have hP7 : va_P X.1 vcl (wl 25 ad (xE (X.1, X.2.1, n, ad)) (sZ f n k)) H := by
    rw [had, wl25]
    exact hP
  have hD7 : va_D A (wl 25 ad (xE (X.1, X.2.1, n, ad)) (sZ f n k)) := by
    rw [had, wl25]
    exact hD
  rw [wl_congr sZ_eq] at hP7
  have h0e : ad 0 = h0 := (congrFun had 0).trans rfl
  clear had
  subst h0e
  exact M_loop cf hr hlk hnm hK hf hn hcs (D_any hD7) _ 0 ls H locs (lv_sub hl [3, 5, 2, 1, 0] rfl) hP7 hS (by omega) rfl
