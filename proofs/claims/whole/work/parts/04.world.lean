abbrev rmd (d : Nat) : Room := { frames := d, cells := 0, slots := 0, locals := 34 * d }
/-- the one private method of a nest mate that is called behind the constructors -/
def nwH : Cond := .methodLinkNest "ThreeChainLedger$Ledger" 37 y_T_hasMember "ThreeChainLedger"
def NWs (U : State) : Prop := va_Nw nwH U
theorem NWs.same {u U : State} (h : u.vm = U.vm) (hN : NWs u) : NWs U := va_Nw.same rfl h hN
theorem NWs.warm {s U : State} (hW : s.WarmedH U.vm) (hN : NWs s) : NWs U := va_Nw.warmM hW hN
/-- classes and slots; the array classes of int, boolean, long, Replica; how many replicas; the addresses of the rows -/
abbrev WX : Type := va_G × (ClassId × ClassId × ClassId × ClassId) × Nat × (Nat → Nat)
def xlen (i : Nat) : Nat := ([0, 24, 24, 24, 24, 40, 40, 40, 40, 40, 40, 40, 40, 40, 7, 7, 7, 7, 7, 280, 280, 49, 40, 4, 24, 0, 0, 0, 24, 24, 24, 0, 40, 40, 40, 40, 40, 40, 0, 40, 40, 0, 4, 24] : List Nat).getD i 0
def fsM (ad : Nat → Nat) (r : Nat → Nat) : List Value := [.int (nI (r 0)), .int (nI (r 1)), .int (nI (r 2)), .int (nI (r 3)), .int (nI (r 4)), .ref (ad 1), .ref (ad 2), .ref (ad 3), .ref (ad 4), .int (nI (r 5)), .ref (ad 5), .ref (ad 6), .ref (ad 7), .ref (ad 8), .int (nI (r 6)), .int (nI (r 7)), .ref (ad 9), .ref (ad 10), .ref (ad 11), .ref (ad 12), .ref (ad 13), .ref (ad 14), .ref (ad 15), .ref (ad 16), .ref (ad 17), .ref (ad 18), .ref (ad 19), .ref (ad 20), .ref (ad 21), .ref (ad 22), .ref (ad 23), .ref (ad 24)]
def fsT (ad : Nat → Nat) (r : Nat → Nat) : List Value := [.int (nI (r 0)), .int (nI (r 1)), .int (nI (r 2)), .int (nI (r 3)), .ref (ad 26), .ref (ad 27), .ref (ad 31), .ref (ad 38), .ref (ad 41)]
def fsRp (ad : Nat → Nat) (i : Nat) (r : Nat → Nat) : List Value := [.int (nI (r 0)), .int (nI (r 1)), .int (nI (r 2)), .int (nI (r 3)), .int (nI (r 4)), .int (nI (r 5)), .int (nI (r 6)), .int (nI (r 7)), .int (nI (r 8)), .ref (ad (i + 1)), .ref (ad (i + 2))]
def fsTr (ad : Nat → Nat) (r : Nat → Nat) : List Value := [.ref (ad 28), .ref (ad 29), .ref (ad 30), .int (nI (r 0))]
def fsBl (ad : Nat → Nat) (r : Nat → Nat) : List Value := [.ref (ad 32), .ref (ad 33), .ref (ad 34), .ref (ad 35), .ref (ad 36), .ref (ad 37), .int (nI (r 0))]
def fsRo (ad : Nat → Nat) (r : Nat → Nat) : List Value := [.ref (ad 39), .ref (ad 40), .int (nI (r 0)), .int (nI (r 1))]
def fsLe (ad : Nat → Nat) (r : Nat → Nat) : List Value := [.ref (ad 42), .ref (ad 43)]
def xE (X : WX) (i : Nat) (r : Nat → Nat) : va_E :=
  if i < 44 then (match i with
    | 0 => .inr (0, fsM X.2.2.2 r)
    | 25 => .inr (1, fsT X.2.2.2 r)
    | 27 => .inr (3, fsTr X.2.2.2 r)
    | 31 => .inr (4, fsBl X.2.2.2 r)
    | 38 => .inr (5, fsRo X.2.2.2 r)
    | 41 => .inr (6, fsLe X.2.2.2 r)
    | 19 => .inl (X.2.1.2.1, 280, .inl (fun q => nI (r q)))
    | 26 => .inl (X.2.1.2.2.2, X.2.2.1, .inr (.inr (.inr (.inr (fun q => some (X.2.2.2 (3 * q + 44)))))))
    | 37 => .inl (X.2.1.2.2.1, 40, .inr (.inl (fun q => lN (r q))))
    | i => .inl (X.2.1.1, xlen i, .inl (fun q => nI (r q))))
  else if (i - 44) % 3 = 0 then .inr (2, fsRp X.2.2.2 i r)
  else .inl (X.2.1.1, if (i - 44) % 3 = 1 then 40 else X.2.2.1, .inl (fun q => nI (r q)))
abbrev xK (X : WX) : Nat := 44 + 3 * X.2.2.1
def xtys (X : WX) : List (ClassId × FieldType) := [(X.2.1.1, .int), (X.2.1.2.1, .boolean), (X.2.1.2.2.1, .long), (X.2.1.2.2.2, .object "ThreeChainLedger$Replica")]
def xA (X : WX) : Nat → Prop := fun q => ∃ i, i < xK X ∧ q = X.2.2.2 i
def xInj (X : WX) : Prop := X.2.2.1 ≤ 7 ∧ ∀ i j, i < xK X → j < xK X → X.2.2.2 i = X.2.2.2 j → i = j
abbrev PW (X : WX) (S : Nat → Nat → Nat) (H : Heap) : Prop := va_P X.1 vcl (wl (xK X) X.2.2.2 (xE X) S) H
abbrev XK (X : WX) (s : State) : Prop := va_K X.1 vcl (xtys X) s
theorem xD_of {X : WX} (h : xInj X) (S : Nat → Nat → Nat) : va_D (xA X) (wl (xK X) X.2.2.2 (xE X) S) := by
  have key : ∀ (k : Nat) (q : Nat × va_E), (wl (xK X) X.2.2.2 (xE X) S)[k]? = some q → k < xK X ∧ q.1 = X.2.2.2 k := by
    intro k q hk
    by_cases hl : k < xK X
    · rw [wl_at hl] at hk
      cases hk
      exact ⟨hl, rfl⟩
    · rw [List.getElem?_eq_none (by rw [wl_len]; omega)] at hk
      cases hk
  refine ⟨fun i j x y hi hj hxy => ?_, fun k q hk => ?_⟩
  · obtain ⟨a1, a2⟩ := key i x hi
    obtain ⟨b1, b2⟩ := key j y hj
    exact h.2 i j a1 b1 (by rw [← a2, ← b2]; exact hxy)
  · obtain ⟨a1, a2⟩ := key k q hk
    exact ⟨k, a1, a2⟩
def IA (X : WX) (i n : Nat) : Prop := i < xK X ∧ n < 2 ^ 31 ∧ ∀ r : Nat → Nat, xE X i r = .inl (X.2.1.1, n, .inl (fun q => nI (r q)))
theorem ia1 (X : WX) : IA X 1 24 := ⟨by show 1 < 44 + 3 * X.2.2.1; omega, by decide, fun _ => rfl⟩
theorem ia2 (X : WX) : IA X 2 24 := ⟨by show 2 < 44 + 3 * X.2.2.1; omega, by decide, fun _ => rfl⟩
theorem ia3 (X : WX) : IA X 3 24 := ⟨by show 3 < 44 + 3 * X.2.2.1; omega, by decide, fun _ => rfl⟩
theorem ia4 (X : WX) : IA X 4 24 := ⟨by show 4 < 44 + 3 * X.2.2.1; omega, by decide, fun _ => rfl⟩
theorem ia5 (X : WX) : IA X 5 40 := ⟨by show 5 < 44 + 3 * X.2.2.1; omega, by decide, fun _ => rfl⟩
theorem ia6 (X : WX) : IA X 6 40 := ⟨by show 6 < 44 + 3 * X.2.2.1; omega, by decide, fun _ => rfl⟩
theorem ia7 (X : WX) : IA X 7 40 := ⟨by show 7 < 44 + 3 * X.2.2.1; omega, by decide, fun _ => rfl⟩
theorem ia8 (X : WX) : IA X 8 40 := ⟨by show 8 < 44 + 3 * X.2.2.1; omega, by decide, fun _ => rfl⟩
theorem ia9 (X : WX) : IA X 9 40 := ⟨by show 9 < 44 + 3 * X.2.2.1; omega, by decide, fun _ => rfl⟩
theorem ia10 (X : WX) : IA X 10 40 := ⟨by show 10 < 44 + 3 * X.2.2.1; omega, by decide, fun _ => rfl⟩
theorem ia11 (X : WX) : IA X 11 40 := ⟨by show 11 < 44 + 3 * X.2.2.1; omega, by decide, fun _ => rfl⟩
theorem ia12 (X : WX) : IA X 12 40 := ⟨by show 12 < 44 + 3 * X.2.2.1; omega, by decide, fun _ => rfl⟩
theorem ia13 (X : WX) : IA X 13 40 := ⟨by show 13 < 44 + 3 * X.2.2.1; omega, by decide, fun _ => rfl⟩
theorem ia14 (X : WX) : IA X 14 7 := ⟨by show 14 < 44 + 3 * X.2.2.1; omega, by decide, fun _ => rfl⟩
theorem ia15 (X : WX) : IA X 15 7 := ⟨by show 15 < 44 + 3 * X.2.2.1; omega, by decide, fun _ => rfl⟩
theorem ia16 (X : WX) : IA X 16 7 := ⟨by show 16 < 44 + 3 * X.2.2.1; omega, by decide, fun _ => rfl⟩
theorem ia17 (X : WX) : IA X 17 7 := ⟨by show 17 < 44 + 3 * X.2.2.1; omega, by decide, fun _ => rfl⟩
theorem ia18 (X : WX) : IA X 18 7 := ⟨by show 18 < 44 + 3 * X.2.2.1; omega, by decide, fun _ => rfl⟩
theorem ia20 (X : WX) : IA X 20 280 := ⟨by show 20 < 44 + 3 * X.2.2.1; omega, by decide, fun _ => rfl⟩
theorem ia21 (X : WX) : IA X 21 49 := ⟨by show 21 < 44 + 3 * X.2.2.1; omega, by decide, fun _ => rfl⟩
theorem ia22 (X : WX) : IA X 22 40 := ⟨by show 22 < 44 + 3 * X.2.2.1; omega, by decide, fun _ => rfl⟩
theorem ia23 (X : WX) : IA X 23 4 := ⟨by show 23 < 44 + 3 * X.2.2.1; omega, by decide, fun _ => rfl⟩
theorem ia24 (X : WX) : IA X 24 24 := ⟨by show 24 < 44 + 3 * X.2.2.1; omega, by decide, fun _ => rfl⟩
theorem ia28 (X : WX) : IA X 28 24 := ⟨by show 28 < 44 + 3 * X.2.2.1; omega, by decide, fun _ => rfl⟩
theorem ia29 (X : WX) : IA X 29 24 := ⟨by show 29 < 44 + 3 * X.2.2.1; omega, by decide, fun _ => rfl⟩
theorem ia30 (X : WX) : IA X 30 24 := ⟨by show 30 < 44 + 3 * X.2.2.1; omega, by decide, fun _ => rfl⟩
theorem ia32 (X : WX) : IA X 32 40 := ⟨by show 32 < 44 + 3 * X.2.2.1; omega, by decide, fun _ => rfl⟩
theorem ia33 (X : WX) : IA X 33 40 := ⟨by show 33 < 44 + 3 * X.2.2.1; omega, by decide, fun _ => rfl⟩
theorem ia34 (X : WX) : IA X 34 40 := ⟨by show 34 < 44 + 3 * X.2.2.1; omega, by decide, fun _ => rfl⟩
theorem ia35 (X : WX) : IA X 35 40 := ⟨by show 35 < 44 + 3 * X.2.2.1; omega, by decide, fun _ => rfl⟩
theorem ia36 (X : WX) : IA X 36 40 := ⟨by show 36 < 44 + 3 * X.2.2.1; omega, by decide, fun _ => rfl⟩
theorem ia39 (X : WX) : IA X 39 40 := ⟨by show 39 < 44 + 3 * X.2.2.1; omega, by decide, fun _ => rfl⟩
theorem ia40 (X : WX) : IA X 40 40 := ⟨by show 40 < 44 + 3 * X.2.2.1; omega, by decide, fun _ => rfl⟩
theorem ia42 (X : WX) : IA X 42 4 := ⟨by show 42 < 44 + 3 * X.2.2.1; omega, by decide, fun _ => rfl⟩
theorem ia43 (X : WX) : IA X 43 24 := ⟨by show 43 < 44 + 3 * X.2.2.1; omega, by decide, fun _ => rfl⟩
theorem iaG {X : WX} {r : Nat} (h : r < X.2.2.1) : IA X (3 * r + 45) 40 := by
  refine ⟨by show 3 * r + 45 < 44 + 3 * X.2.2.1; omega, by decide, fun q => ?_⟩
  unfold xE
  rw [if_neg (by omega), if_neg (by omega), if_pos (by omega)]
theorem iaV {X : WX} (hX : X.2.2.1 ≤ 7) {r : Nat} (h : r < X.2.2.1) : IA X (3 * r + 46) X.2.2.1 := by
  refine ⟨by show 3 * r + 46 < 44 + 3 * X.2.2.1; omega, by omega, fun q => ?_⟩
  unfold xE
  rw [if_neg (by omega), if_neg (by omega), if_neg (by omega)]
theorem eRp {X : WX} {r : Nat} (q : Nat → Nat) : xE X (3 * r + 44) q = .inr (2, fsRp X.2.2.2 (3 * r + 44) q) := by
  unfold xE
  rw [if_neg (by omega), if_pos (by omega)]
section XR
variable {p : Program} {l : Launch} {e : Env} {R : Room} {s : State} {m : MethodId} {args : Array Value} {below : List Frame} {meth : Method} {c : Code} {H : Heap} {locs : List Loc} {cells slots : Nat} {Q : State → Prop}
variable {cc : ByteArray} {pc : Nat} {ls : Array Slot} {rest : List Value} {nL : Nat} {own : String} {X : WX} {S : Nat → Nat → Nat} {H0 : Heap}
theorem x_iald (cf : CallFix p m c cc nL s args Mst own) (hK : XK X s) (hP : PW X S H) {i n : Nat} (ia : IA X i n) {j v : Nat} (hj : j < n) (hv : S i j = v) (hdg : decode cc pc = .ok (.iaload, 1)) (k : W p l e R s m args below meth c H locs cells slots Q (F0 m (pc + 1) ls (.int (nI v) :: rest))) : W p l e R s m args below meth c H locs cells slots Q (F0 m pc ls (.int (nI j) :: .ref (X.2.2.2 i) :: rest)) := by
  subst hv
  exact r_iald cf.1 cf.2.1 hK hP i 0 ia.1 ia.2.2 rfl hj ia.2.1 hdg k
theorem x_iast (cf : CallFix p m c cc nL s args Mst own) (hK : XK X s) (hD : ∀ S : Nat → Nat → Nat, va_D (xA X) (wl (xK X) X.2.2.2 (xE X) S)) (hP : PW X S H) (hS : va_S (xA X) H0 H locs) {i n : Nat} (ia : IA X i n) {j v : Nat} (hj : j < n) (hdg : decode cc pc = .ok (.iastore, 1)) (k : ∀ (H1 : Heap) (locs1 : List Loc), PW X (up2 S i j v) H1 → va_S (xA X) H0 H1 locs1 → W p l e R s m args below meth c H1 locs1 cells slots Q (F0 m (pc + 1) ls rest)) : W p l e R s m args below meth c H locs cells slots Q (F0 m pc ls (.int (nI v) :: .int (nI j) :: .ref (X.2.2.2 i) :: rest)) :=
  r_iast cf.1 cf.2.1 hK hP hD hS i 0 ia.1 ia.2.2 rfl hj ia.2.1 hdg k
theorem x_zald (cf : CallFix p m c cc nL s args Mst own) (hK : XK X s) (hP : PW X S H) {j v : Nat} (hj : j < 280) (hv : S 19 j = v) (hdg : decode cc pc = .ok (.baload, 1)) (k : W p l e R s m args below meth c H locs cells slots Q (F0 m (pc + 1) ls (.int (nI v) :: rest))) : W p l e R s m args below meth c H locs cells slots Q (F0 m pc ls (.int (nI j) :: .ref (X.2.2.2 19) :: rest)) := by
  subst hv
  exact r_zald cf.1 cf.2.1 hK hP 19 1 (show 19 < 44 + 3 * X.2.2.1 by omega) (cA := X.2.1.2.1) (n := 280) (fun _ => rfl) rfl hj (by decide) hdg k
theorem x_zast (cf : CallFix p m c cc nL s args Mst own) (hK : XK X s) (hD : ∀ S : Nat → Nat → Nat, va_D (xA X) (wl (xK X) X.2.2.2 (xE X) S)) (hP : PW X S H) (hS : va_S (xA X) H0 H locs) {j v : Nat} (hj : j < 280) (hv : vp_nar .boolean (nI v) = nI v) (hdg : decode cc pc = .ok (.bastore, 1)) (k : ∀ (H1 : Heap) (locs1 : List Loc), PW X (up2 S 19 j v) H1 → va_S (xA X) H0 H1 locs1 → W p l e R s m args below meth c H1 locs1 cells slots Q (F0 m (pc + 1) ls rest)) : W p l e R s m args below meth c H locs cells slots Q (F0 m pc ls (.int (nI v) :: .int (nI j) :: .ref (X.2.2.2 19) :: rest)) :=
  r_zast cf.1 cf.2.1 hK hP hD hS 19 1 (show 19 < 44 + 3 * X.2.2.1 by omega) (cA := X.2.1.2.1) (n := 280) (fun _ => rfl) rfl hj (by decide) hv hdg k
theorem x_lald (cf : CallFix p m c cc nL s args Mst own) (hK : XK X s) (hP : PW X S H) {j v : Nat} (hj : j < 40) (hv : S 37 j = v) (hdg : decode cc pc = .ok (.laload, 1)) (k : W p l e R s m args below meth c H locs cells slots Q (F0 m (pc + 1) ls (.long (lN v) :: rest))) : W p l e R s m args below meth c H locs cells slots Q (F0 m pc ls (.int (nI j) :: .ref (X.2.2.2 37) :: rest)) := by
  subst hv
  exact r_lald cf.1 cf.2.1 hK hP 37 2 (show 37 < 44 + 3 * X.2.2.1 by omega) (cA := X.2.1.2.2.1) (n := 40) (fun _ => rfl) rfl hj (by decide) hdg k
theorem x_last (cf : CallFix p m c cc nL s args Mst own) (hK : XK X s) (hD : ∀ S : Nat → Nat → Nat, va_D (xA X) (wl (xK X) X.2.2.2 (xE X) S)) (hP : PW X S H) (hS : va_S (xA X) H0 H locs) {j v : Nat} (hj : j < 40) (hdg : decode cc pc = .ok (.lastore, 1)) (k : ∀ (H1 : Heap) (locs1 : List Loc), PW X (up2 S 37 j v) H1 → va_S (xA X) H0 H1 locs1 → W p l e R s m args below meth c H1 locs1 cells slots Q (F0 m (pc + 1) ls rest)) : W p l e R s m args below meth c H locs cells slots Q (F0 m pc ls (.long (lN v) :: .int (nI j) :: .ref (X.2.2.2 37) :: rest)) :=
  r_last cf.1 cf.2.1 hK hP hD hS 37 2 (show 37 < 44 + 3 * X.2.2.1 by omega) (cA := X.2.1.2.2.1) (n := 40) (fun _ => rfl) rfl hj (by decide) hdg k
theorem x_aald (cf : CallFix p m c cc nL s args Mst own) (hK : XK X s) (hP : PW X S H) {j : Nat} (hX : X.2.2.1 ≤ 7) (hj : j < X.2.2.1) (hdg : decode cc pc = .ok (.aaload, 1)) (k : W p l e R s m args below meth c H locs cells slots Q (F0 m (pc + 1) ls (.ref (X.2.2.2 (3 * j + 44)) :: rest))) : W p l e R s m args below meth c H locs cells slots Q (F0 m pc ls (.int (nI j) :: .ref (X.2.2.2 26) :: rest)) := by
  refine va_aldq cf.1 cf.2.1 hK hP 26 3 (cA := X.2.1.2.2.2) (n := X.2.2.1) (f := fun q => some (X.2.2.2 (3 * q + 44))) ((wl_at (show 26 < 44 + 3 * X.2.2.1 by omega)).trans rfl) rfl (vp_in_nI hj (by omega)) hdg ?_
  rw [nI_clamp (by omega)]
  exact k
theorem x_getM (cf : CallFix p m c cc nL s args Mst own) (hK : XK X s) (hP : PW X S H) (k : Nat) (hk : k < 32) {index : Nat} (hl : Cond.fieldLink own index (F_M k).1 (F_M k).2.1 (F_M k).2.2.1 ∈ Mst) {v : Value} (hv : (fsM X.2.2.2 (S 0))[k]? = some v) (hdg : decode cc pc = .ok (.getfield index, 3)) (kk : W p l e R s m args below meth c H locs cells slots Q (F0 m (pc + 3) ls (v :: rest))) : W p l e R s m args below meth c H locs cells slots Q (F0 m pc ls (.ref (X.2.2.2 0) :: rest)) :=
  r_get (ci := 0) (C := R_M) (T := F_M) (N := 32) cf.1 cf.2.1 cf.2.2.2.2 in_M cf.2.2.2.1 hK hP 0 (show 0 < 44 + 3 * X.2.2.1 by omega) rfl rfl k hk hl hv hdg kk
theorem x_putM (cf : CallFix p m c cc nL s args Mst own) (hK : XK X s) (hD : ∀ S : Nat → Nat → Nat, va_D (xA X) (wl (xK X) X.2.2.2 (xE X) S)) (hP : PW X S H) (hS : va_S (xA X) H0 H locs) (k : Nat) (hk : k < 32) {index : Nat} (hl : Cond.fieldLink own index (F_M k).1 (F_M k).2.1 (F_M k).2.2.1 ∈ Mst) (hfin : (F_M k).2.2.2 = false) (hd : parseFieldDescriptor (F_M k).2.2.1 = some .int) (j : Nat) {v : Nat} (he2 : fsM X.2.2.2 (va_up (S 0) j v) = (fsM X.2.2.2 (S 0)).set k (.int (nI v))) (hdg : decode cc pc = .ok (.putfield index, 3)) (kk : ∀ (H1 : Heap) (locs1 : List Loc), PW X (up2 S 0 j v) H1 → va_S (xA X) H0 H1 locs1 → W p l e R s m args below meth c H1 locs1 cells slots Q (F0 m (pc + 3) ls rest)) : W p l e R s m args below meth c H locs cells slots Q (F0 m pc ls (.int (nI v) :: .ref (X.2.2.2 0) :: rest)) :=
  r_put (ci := 0) (C := R_M) (T := F_M) (N := 32) cf.1 cf.2.1 cf.2.2.2.2 in_M ty_M tok_M n_M_ cf.2.2.2.1 hK hP hD hS 0 (show 0 < 44 + 3 * X.2.2.1 by omega) rfl rfl k hk hl hfin hd hk j ((show xE X 0 (va_up (S 0) j v) = .inr (0, fsM X.2.2.2 (va_up (S 0) j v)) from rfl).trans (by rw [he2])) hdg kk
theorem rv_M (hK : XK X s) (hP : PW X S H) : ∃ cell : Cell, H[X.2.2.2 0]? = some cell ∧ cell.vm.isStatics = false ∧ s.vm.findClass R_M = some cell.cls :=
  va_recv (q := (R_M, F_M, 32)) (ci := 0) (q0 := 0) (fs := (fsM X.2.2.2 (S 0))) hK hP rfl ((wl_at (show 0 < 44 + 3 * X.2.2.1 by omega)).trans (by rw [show xE X 0 (S 0) = .inr (0, fsM X.2.2.2 (S 0)) from rfl]))
theorem x_getT (cf : CallFix p m c cc nL s args Mst own) (hK : XK X s) (hP : PW X S H) (k : Nat) (hk : k < 9) {index : Nat} (hl : Cond.fieldLink own index (F_T k).1 (F_T k).2.1 (F_T k).2.2.1 ∈ Mst) {v : Value} (hv : (fsT X.2.2.2 (S 25))[k]? = some v) (hdg : decode cc pc = .ok (.getfield index, 3)) (kk : W p l e R s m args below meth c H locs cells slots Q (F0 m (pc + 3) ls (v :: rest))) : W p l e R s m args below meth c H locs cells slots Q (F0 m pc ls (.ref (X.2.2.2 25) :: rest)) :=
  r_get (ci := 1) (C := R_T) (T := F_T) (N := 9) cf.1 cf.2.1 cf.2.2.2.2 in_T cf.2.2.2.1 hK hP 25 (show 25 < 44 + 3 * X.2.2.1 by omega) rfl rfl k hk hl hv hdg kk
theorem x_putT (cf : CallFix p m c cc nL s args Mst own) (hK : XK X s) (hD : ∀ S : Nat → Nat → Nat, va_D (xA X) (wl (xK X) X.2.2.2 (xE X) S)) (hP : PW X S H) (hS : va_S (xA X) H0 H locs) (k : Nat) (hk : k < 9) {index : Nat} (hl : Cond.fieldLink own index (F_T k).1 (F_T k).2.1 (F_T k).2.2.1 ∈ Mst) (hfin : (F_T k).2.2.2 = false) (hd : parseFieldDescriptor (F_T k).2.2.1 = some .int) (j : Nat) {v : Nat} (he2 : fsT X.2.2.2 (va_up (S 25) j v) = (fsT X.2.2.2 (S 25)).set k (.int (nI v))) (hdg : decode cc pc = .ok (.putfield index, 3)) (kk : ∀ (H1 : Heap) (locs1 : List Loc), PW X (up2 S 25 j v) H1 → va_S (xA X) H0 H1 locs1 → W p l e R s m args below meth c H1 locs1 cells slots Q (F0 m (pc + 3) ls rest)) : W p l e R s m args below meth c H locs cells slots Q (F0 m pc ls (.int (nI v) :: .ref (X.2.2.2 25) :: rest)) :=
  r_put (ci := 1) (C := R_T) (T := F_T) (N := 9) cf.1 cf.2.1 cf.2.2.2.2 in_T ty_T tok_T n_T_ cf.2.2.2.1 hK hP hD hS 25 (show 25 < 44 + 3 * X.2.2.1 by omega) rfl rfl k hk hl hfin hd hk j ((show xE X 25 (va_up (S 25) j v) = .inr (1, fsT X.2.2.2 (va_up (S 25) j v)) from rfl).trans (by rw [he2])) hdg kk
theorem rv_T (hK : XK X s) (hP : PW X S H) : ∃ cell : Cell, H[X.2.2.2 25]? = some cell ∧ cell.vm.isStatics = false ∧ s.vm.findClass R_T = some cell.cls :=
  va_recv (q := (R_T, F_T, 9)) (ci := 1) (q0 := 25) (fs := (fsT X.2.2.2 (S 25))) hK hP rfl ((wl_at (show 25 < 44 + 3 * X.2.2.1 by omega)).trans (by rw [show xE X 25 (S 25) = .inr (1, fsT X.2.2.2 (S 25)) from rfl]))
theorem x_getRp (cf : CallFix p m c cc nL s args Mst own) (hK : XK X s) (hP : PW X S H) {r : Nat} (hr : r < X.2.2.1) (k : Nat) (hk : k < 11) {index : Nat} (hl : Cond.fieldLink own index (F_Rp k).1 (F_Rp k).2.1 (F_Rp k).2.2.1 ∈ Mst) {v : Value} (hv : (fsRp X.2.2.2 (3 * r + 44) (S (3 * r + 44)))[k]? = some v) (hdg : decode cc pc = .ok (.getfield index, 3)) (kk : W p l e R s m args below meth c H locs cells slots Q (F0 m (pc + 3) ls (v :: rest))) : W p l e R s m args below meth c H locs cells slots Q (F0 m pc ls (.ref (X.2.2.2 (3 * r + 44)) :: rest)) :=
  r_get (ci := 2) (C := R_Rp) (T := F_Rp) (N := 11) cf.1 cf.2.1 cf.2.2.2.2 in_Rp cf.2.2.2.1 hK hP (3 * r + 44) (show 3 * r + 44 < 44 + 3 * X.2.2.1 by omega) (eRp _) rfl k hk hl hv hdg kk
theorem x_putRp (cf : CallFix p m c cc nL s args Mst own) (hK : XK X s) (hD : ∀ S : Nat → Nat → Nat, va_D (xA X) (wl (xK X) X.2.2.2 (xE X) S)) (hP : PW X S H) (hS : va_S (xA X) H0 H locs) {r : Nat} (hr : r < X.2.2.1) (k : Nat) (hk : k < 11) {index : Nat} (hl : Cond.fieldLink own index (F_Rp k).1 (F_Rp k).2.1 (F_Rp k).2.2.1 ∈ Mst) (hfin : (F_Rp k).2.2.2 = false) (hd : parseFieldDescriptor (F_Rp k).2.2.1 = some .int) (j : Nat) {v : Nat} (he2 : fsRp X.2.2.2 (3 * r + 44) (va_up (S (3 * r + 44)) j v) = (fsRp X.2.2.2 (3 * r + 44) (S (3 * r + 44))).set k (.int (nI v))) (hdg : decode cc pc = .ok (.putfield index, 3)) (kk : ∀ (H1 : Heap) (locs1 : List Loc), PW X (up2 S (3 * r + 44) j v) H1 → va_S (xA X) H0 H1 locs1 → W p l e R s m args below meth c H1 locs1 cells slots Q (F0 m (pc + 3) ls rest)) : W p l e R s m args below meth c H locs cells slots Q (F0 m pc ls (.int (nI v) :: .ref (X.2.2.2 (3 * r + 44)) :: rest)) :=
  r_put (ci := 2) (C := R_Rp) (T := F_Rp) (N := 11) cf.1 cf.2.1 cf.2.2.2.2 in_Rp ty_Rp tok_Rp n_Rp_ cf.2.2.2.1 hK hP hD hS (3 * r + 44) (show 3 * r + 44 < 44 + 3 * X.2.2.1 by omega) (eRp _) rfl k hk hl hfin hd hk j ((eRp _).trans (by rw [he2])) hdg kk
theorem rv_Rp (hK : XK X s) (hP : PW X S H) {r : Nat} (hr : r < X.2.2.1) : ∃ cell : Cell, H[X.2.2.2 (3 * r + 44)]? = some cell ∧ cell.vm.isStatics = false ∧ s.vm.findClass R_Rp = some cell.cls :=
  va_recv (q := (R_Rp, F_Rp, 11)) (ci := 2) (q0 := (3 * r + 44)) (fs := (fsRp X.2.2.2 (3 * r + 44) (S (3 * r + 44)))) hK hP rfl ((wl_at (show 3 * r + 44 < 44 + 3 * X.2.2.1 by omega)).trans (by rw [eRp]))
theorem x_getTr (cf : CallFix p m c cc nL s args Mst own) (hK : XK X s) (hP : PW X S H) (k : Nat) (hk : k < 4) {index : Nat} (hl : Cond.fieldLink own index (F_Tr k).1 (F_Tr k).2.1 (F_Tr k).2.2.1 ∈ Mst) {v : Value} (hv : (fsTr X.2.2.2 (S 27))[k]? = some v) (hdg : decode cc pc = .ok (.getfield index, 3)) (kk : W p l e R s m args below meth c H locs cells slots Q (F0 m (pc + 3) ls (v :: rest))) : W p l e R s m args below meth c H locs cells slots Q (F0 m pc ls (.ref (X.2.2.2 27) :: rest)) :=
  r_get (ci := 3) (C := R_Tr) (T := F_Tr) (N := 4) cf.1 cf.2.1 cf.2.2.2.2 in_Tr cf.2.2.2.1 hK hP 27 (show 27 < 44 + 3 * X.2.2.1 by omega) rfl rfl k hk hl hv hdg kk
theorem x_putTr (cf : CallFix p m c cc nL s args Mst own) (hK : XK X s) (hD : ∀ S : Nat → Nat → Nat, va_D (xA X) (wl (xK X) X.2.2.2 (xE X) S)) (hP : PW X S H) (hS : va_S (xA X) H0 H locs) (k : Nat) (hk : k < 4) {index : Nat} (hl : Cond.fieldLink own index (F_Tr k).1 (F_Tr k).2.1 (F_Tr k).2.2.1 ∈ Mst) (hfin : (F_Tr k).2.2.2 = false) (hd : parseFieldDescriptor (F_Tr k).2.2.1 = some .int) (j : Nat) {v : Nat} (he2 : fsTr X.2.2.2 (va_up (S 27) j v) = (fsTr X.2.2.2 (S 27)).set k (.int (nI v))) (hdg : decode cc pc = .ok (.putfield index, 3)) (kk : ∀ (H1 : Heap) (locs1 : List Loc), PW X (up2 S 27 j v) H1 → va_S (xA X) H0 H1 locs1 → W p l e R s m args below meth c H1 locs1 cells slots Q (F0 m (pc + 3) ls rest)) : W p l e R s m args below meth c H locs cells slots Q (F0 m pc ls (.int (nI v) :: .ref (X.2.2.2 27) :: rest)) :=
  r_put (ci := 3) (C := R_Tr) (T := F_Tr) (N := 4) cf.1 cf.2.1 cf.2.2.2.2 in_Tr ty_Tr tok_Tr n_Tr_ cf.2.2.2.1 hK hP hD hS 27 (show 27 < 44 + 3 * X.2.2.1 by omega) rfl rfl k hk hl hfin hd hk j ((show xE X 27 (va_up (S 27) j v) = .inr (3, fsTr X.2.2.2 (va_up (S 27) j v)) from rfl).trans (by rw [he2])) hdg kk
theorem rv_Tr (hK : XK X s) (hP : PW X S H) : ∃ cell : Cell, H[X.2.2.2 27]? = some cell ∧ cell.vm.isStatics = false ∧ s.vm.findClass R_Tr = some cell.cls :=
  va_recv (q := (R_Tr, F_Tr, 4)) (ci := 3) (q0 := 27) (fs := (fsTr X.2.2.2 (S 27))) hK hP rfl ((wl_at (show 27 < 44 + 3 * X.2.2.1 by omega)).trans (by rw [show xE X 27 (S 27) = .inr (3, fsTr X.2.2.2 (S 27)) from rfl]))
theorem x_getBl (cf : CallFix p m c cc nL s args Mst own) (hK : XK X s) (hP : PW X S H) (k : Nat) (hk : k < 7) {index : Nat} (hl : Cond.fieldLink own index (F_Bl k).1 (F_Bl k).2.1 (F_Bl k).2.2.1 ∈ Mst) {v : Value} (hv : (fsBl X.2.2.2 (S 31))[k]? = some v) (hdg : decode cc pc = .ok (.getfield index, 3)) (kk : W p l e R s m args below meth c H locs cells slots Q (F0 m (pc + 3) ls (v :: rest))) : W p l e R s m args below meth c H locs cells slots Q (F0 m pc ls (.ref (X.2.2.2 31) :: rest)) :=
  r_get (ci := 4) (C := R_Bl) (T := F_Bl) (N := 7) cf.1 cf.2.1 cf.2.2.2.2 in_Bl cf.2.2.2.1 hK hP 31 (show 31 < 44 + 3 * X.2.2.1 by omega) rfl rfl k hk hl hv hdg kk
theorem x_putBl (cf : CallFix p m c cc nL s args Mst own) (hK : XK X s) (hD : ∀ S : Nat → Nat → Nat, va_D (xA X) (wl (xK X) X.2.2.2 (xE X) S)) (hP : PW X S H) (hS : va_S (xA X) H0 H locs) (k : Nat) (hk : k < 7) {index : Nat} (hl : Cond.fieldLink own index (F_Bl k).1 (F_Bl k).2.1 (F_Bl k).2.2.1 ∈ Mst) (hfin : (F_Bl k).2.2.2 = false) (hd : parseFieldDescriptor (F_Bl k).2.2.1 = some .int) (j : Nat) {v : Nat} (he2 : fsBl X.2.2.2 (va_up (S 31) j v) = (fsBl X.2.2.2 (S 31)).set k (.int (nI v))) (hdg : decode cc pc = .ok (.putfield index, 3)) (kk : ∀ (H1 : Heap) (locs1 : List Loc), PW X (up2 S 31 j v) H1 → va_S (xA X) H0 H1 locs1 → W p l e R s m args below meth c H1 locs1 cells slots Q (F0 m (pc + 3) ls rest)) : W p l e R s m args below meth c H locs cells slots Q (F0 m pc ls (.int (nI v) :: .ref (X.2.2.2 31) :: rest)) :=
  r_put (ci := 4) (C := R_Bl) (T := F_Bl) (N := 7) cf.1 cf.2.1 cf.2.2.2.2 in_Bl ty_Bl tok_Bl n_Bl_ cf.2.2.2.1 hK hP hD hS 31 (show 31 < 44 + 3 * X.2.2.1 by omega) rfl rfl k hk hl hfin hd hk j ((show xE X 31 (va_up (S 31) j v) = .inr (4, fsBl X.2.2.2 (va_up (S 31) j v)) from rfl).trans (by rw [he2])) hdg kk
theorem rv_Bl (hK : XK X s) (hP : PW X S H) : ∃ cell : Cell, H[X.2.2.2 31]? = some cell ∧ cell.vm.isStatics = false ∧ s.vm.findClass R_Bl = some cell.cls :=
  va_recv (q := (R_Bl, F_Bl, 7)) (ci := 4) (q0 := 31) (fs := (fsBl X.2.2.2 (S 31))) hK hP rfl ((wl_at (show 31 < 44 + 3 * X.2.2.1 by omega)).trans (by rw [show xE X 31 (S 31) = .inr (4, fsBl X.2.2.2 (S 31)) from rfl]))
theorem x_getRo (cf : CallFix p m c cc nL s args Mst own) (hK : XK X s) (hP : PW X S H) (k : Nat) (hk : k < 4) {index : Nat} (hl : Cond.fieldLink own index (F_Ro k).1 (F_Ro k).2.1 (F_Ro k).2.2.1 ∈ Mst) {v : Value} (hv : (fsRo X.2.2.2 (S 38))[k]? = some v) (hdg : decode cc pc = .ok (.getfield index, 3)) (kk : W p l e R s m args below meth c H locs cells slots Q (F0 m (pc + 3) ls (v :: rest))) : W p l e R s m args below meth c H locs cells slots Q (F0 m pc ls (.ref (X.2.2.2 38) :: rest)) :=
  r_get (ci := 5) (C := R_Ro) (T := F_Ro) (N := 4) cf.1 cf.2.1 cf.2.2.2.2 in_Ro cf.2.2.2.1 hK hP 38 (show 38 < 44 + 3 * X.2.2.1 by omega) rfl rfl k hk hl hv hdg kk
theorem x_putRo (cf : CallFix p m c cc nL s args Mst own) (hK : XK X s) (hD : ∀ S : Nat → Nat → Nat, va_D (xA X) (wl (xK X) X.2.2.2 (xE X) S)) (hP : PW X S H) (hS : va_S (xA X) H0 H locs) (k : Nat) (hk : k < 4) {index : Nat} (hl : Cond.fieldLink own index (F_Ro k).1 (F_Ro k).2.1 (F_Ro k).2.2.1 ∈ Mst) (hfin : (F_Ro k).2.2.2 = false) (hd : parseFieldDescriptor (F_Ro k).2.2.1 = some .int) (j : Nat) {v : Nat} (he2 : fsRo X.2.2.2 (va_up (S 38) j v) = (fsRo X.2.2.2 (S 38)).set k (.int (nI v))) (hdg : decode cc pc = .ok (.putfield index, 3)) (kk : ∀ (H1 : Heap) (locs1 : List Loc), PW X (up2 S 38 j v) H1 → va_S (xA X) H0 H1 locs1 → W p l e R s m args below meth c H1 locs1 cells slots Q (F0 m (pc + 3) ls rest)) : W p l e R s m args below meth c H locs cells slots Q (F0 m pc ls (.int (nI v) :: .ref (X.2.2.2 38) :: rest)) :=
  r_put (ci := 5) (C := R_Ro) (T := F_Ro) (N := 4) cf.1 cf.2.1 cf.2.2.2.2 in_Ro ty_Ro tok_Ro n_Ro_ cf.2.2.2.1 hK hP hD hS 38 (show 38 < 44 + 3 * X.2.2.1 by omega) rfl rfl k hk hl hfin hd hk j ((show xE X 38 (va_up (S 38) j v) = .inr (5, fsRo X.2.2.2 (va_up (S 38) j v)) from rfl).trans (by rw [he2])) hdg kk
theorem rv_Ro (hK : XK X s) (hP : PW X S H) : ∃ cell : Cell, H[X.2.2.2 38]? = some cell ∧ cell.vm.isStatics = false ∧ s.vm.findClass R_Ro = some cell.cls :=
  va_recv (q := (R_Ro, F_Ro, 4)) (ci := 5) (q0 := 38) (fs := (fsRo X.2.2.2 (S 38))) hK hP rfl ((wl_at (show 38 < 44 + 3 * X.2.2.1 by omega)).trans (by rw [show xE X 38 (S 38) = .inr (5, fsRo X.2.2.2 (S 38)) from rfl]))
theorem x_getLe (cf : CallFix p m c cc nL s args Mst own) (hK : XK X s) (hP : PW X S H) (k : Nat) (hk : k < 2) {index : Nat} (hl : Cond.fieldLink own index (F_Le k).1 (F_Le k).2.1 (F_Le k).2.2.1 ∈ Mst) {v : Value} (hv : (fsLe X.2.2.2 (S 41))[k]? = some v) (hdg : decode cc pc = .ok (.getfield index, 3)) (kk : W p l e R s m args below meth c H locs cells slots Q (F0 m (pc + 3) ls (v :: rest))) : W p l e R s m args below meth c H locs cells slots Q (F0 m pc ls (.ref (X.2.2.2 41) :: rest)) :=
  r_get (ci := 6) (C := R_Le) (T := F_Le) (N := 2) cf.1 cf.2.1 cf.2.2.2.2 in_Le cf.2.2.2.1 hK hP 41 (show 41 < 44 + 3 * X.2.2.1 by omega) rfl rfl k hk hl hv hdg kk
theorem x_putLe (cf : CallFix p m c cc nL s args Mst own) (hK : XK X s) (hD : ∀ S : Nat → Nat → Nat, va_D (xA X) (wl (xK X) X.2.2.2 (xE X) S)) (hP : PW X S H) (hS : va_S (xA X) H0 H locs) (k : Nat) (hk : k < 2) {index : Nat} (hl : Cond.fieldLink own index (F_Le k).1 (F_Le k).2.1 (F_Le k).2.2.1 ∈ Mst) (hfin : (F_Le k).2.2.2 = false) (hd : parseFieldDescriptor (F_Le k).2.2.1 = some .int) (j : Nat) {v : Nat} (he2 : fsLe X.2.2.2 (va_up (S 41) j v) = (fsLe X.2.2.2 (S 41)).set k (.int (nI v))) (hdg : decode cc pc = .ok (.putfield index, 3)) (kk : ∀ (H1 : Heap) (locs1 : List Loc), PW X (up2 S 41 j v) H1 → va_S (xA X) H0 H1 locs1 → W p l e R s m args below meth c H1 locs1 cells slots Q (F0 m (pc + 3) ls rest)) : W p l e R s m args below meth c H locs cells slots Q (F0 m pc ls (.int (nI v) :: .ref (X.2.2.2 41) :: rest)) :=
  r_put (ci := 6) (C := R_Le) (T := F_Le) (N := 2) cf.1 cf.2.1 cf.2.2.2.2 in_Le ty_Le tok_Le n_Le_ cf.2.2.2.1 hK hP hD hS 41 (show 41 < 44 + 3 * X.2.2.1 by omega) rfl rfl k hk hl hfin hd hk j ((show xE X 41 (va_up (S 41) j v) = .inr (6, fsLe X.2.2.2 (va_up (S 41) j v)) from rfl).trans (by rw [he2])) hdg kk
theorem rv_Le (hK : XK X s) (hP : PW X S H) : ∃ cell : Cell, H[X.2.2.2 41]? = some cell ∧ cell.vm.isStatics = false ∧ s.vm.findClass R_Le = some cell.cls :=
  va_recv (q := (R_Le, F_Le, 2)) (ci := 6) (q0 := 41) (fs := (fsLe X.2.2.2 (S 41))) hK hP rfl ((wl_at (show 41 < 44 + 3 * X.2.2.1 by omega)).trans (by rw [show xE X 41 (S 41) = .inr (6, fsLe X.2.2.2 (S 41)) from rfl]))
end XR
def PreW (X : WX) (S : Nat → Nat → Nat) (U : State) : Prop := PW X S U.heap ∧ XK X U ∧ NWs U
def QcI (X : WX) (r : Int32) (S' : Nat → Nat → Nat) : Array Value → State → Outcome → State → Prop := va_Qi (fun (x : Int32) (_ : Unit) => x = r) (fun _ t => PW X S' t.heap) (xA X)
def QcV (X : WX) (S' : Nat → Nat → Nat) : Array Value → State → Outcome → State → Prop := va_Qv (fun (_ : Unit) => True) (fun _ t => PW X S' t.heap) (xA X)
def MetI (l : Launch) (X : WX) (y : MethodName) (ws : List Cond) (d : Nat) (avs : List Value) (S : Nat → Nat → Nat) (r : Int32) (S' : Nat → Nat → Nat) : Prop := Met l y ws (rmd d) (va_Pc avs (PreW X S)) (QcI X r S') 0 0 (xA X)
def MetV (l : Launch) (X : WX) (y : MethodName) (ws : List Cond) (d : Nat) (avs : List Value) (S S' : Nat → Nat → Nat) : Prop := Met l y ws (rmd d) (va_Pc avs (PreW X S)) (QcV X S') 0 0 (xA X)
theorem PreW.blind {X : WX} {S : Nat → Nat → Nat} {avs : List Value} : FrameBlind (va_Pc avs (PreW X S)) := fun a U g mk q => by
  obtain ⟨q0, q1, q2, q3⟩ := q
  exact ⟨q0, q1, va_K.moved (u := U) (U := U.calling g mk a) (Vm.Alike.refl U.vm) q2, NWs.same (u := U) (U := U.calling g mk a) rfl q3⟩
section XM
variable {l : Launch} {X : WX} {y : MethodName} {d : Nat} {avs : List Value} {S S' : Nat → Nat → Nat} {r : Int32} {cc : ByteArray} {maxL : Nat} {ret : Option FieldType}
theorem MetI.of (hy : plainName y.cls = true) (hlen : (lg_sl avs).length ≤ maxL) (body : ∀ (p : Program) (e : Env) (s : State) (m : MethodId) (args : Array Value) (below : List Frame) (meth : Method) (c : Code), CallFix p m c cc maxL s args Mst y.cls → meth.sig.returnType = ret → meth.locks = false → PW X S s.heap → XK X s → NWs s → ∀ ls : Array Slot, lv_has ls maxL (lv_args 0 avs) → W p l e (rmd d) s m args below meth c s.heap [] 0 0 (MQ below (QcI X r S') args s 0 0 (xA X)) (F0 m 0 ls [])) : MetI l X y (Cond.code y cc maxL ret :: Mst) d avs S r S' := by
  refine Met.ofW (cc := cc) (maxL := maxL) (ret := ret) hy rfl ?_
  intro p e s m args below meth c s₁ B hml hv
  obtain ⟨rfl, hP, hK, hN⟩ := hv
  have hts := atoms_spec (ws := Cond.code y cc maxL ret :: Mst) B.pre
  have hl := lv_entry avs (n := maxL) hlen
  rw [lg_entry_eq]
  exact body p e s m _ below meth c ⟨B.exec, B.bytes, hml, findClass_of_methodNamed B.named, fun w h => hts w (List.mem_cons_of_mem _ h)⟩ B.returns B.notSynchronized hP hK hN _ hl
theorem MetV.of (hy : plainName y.cls = true) (hlen : (lg_sl avs).length ≤ maxL) (body : ∀ (p : Program) (e : Env) (s : State) (m : MethodId) (args : Array Value) (below : List Frame) (meth : Method) (c : Code), CallFix p m c cc maxL s args Mst y.cls → meth.sig.returnType = ret → meth.locks = false → PW X S s.heap → XK X s → NWs s → ∀ ls : Array Slot, lv_has ls maxL (lv_args 0 avs) → W p l e (rmd d) s m args below meth c s.heap [] 0 0 (MQ below (QcV X S') args s 0 0 (xA X)) (F0 m 0 ls [])) : MetV l X y (Cond.code y cc maxL ret :: Mst) d avs S S' := by
  refine Met.ofW (cc := cc) (maxL := maxL) (ret := ret) hy rfl ?_
  intro p e s m args below meth c s₁ B hml hv
  obtain ⟨rfl, hP, hK, hN⟩ := hv
  have hts := atoms_spec (ws := Cond.code y cc maxL ret :: Mst) B.pre
  have hl := lv_entry avs (n := maxL) hlen
  rw [lg_entry_eq]
  exact body p e s m _ below meth c ⟨B.exec, B.bytes, hml, findClass_of_methodNamed B.named, fun w h => hts w (List.mem_cons_of_mem _ h)⟩ B.returns B.notSynchronized hP hK hN _ hl
end XM
section XC
variable {p : Program} {l : Launch} {e : Env} {R : Room} {s : State} {m : MethodId} {args : Array Value} {below : List Frame} {meth : Method} {c : Code} {H : Heap} {locs : List Loc} {cells slots : Nat} {Q : State → Prop}
variable {cc : ByteArray} {pc : Nat} {ls : Array Slot} {rest st0 As : List Value} {nL : Nat} {own C : String} {X : WX} {S S' : Nat → Nat → Nat} {H0 : Heap} {y : MethodName} {d index maxL n b : Nat} {bytes : ByteArray} {ret : Option FieldType} {ws : List Cond} {r : Int32}
theorem x_iret (cf : CallFix p m c cc nL s args Mst own) (hr : meth.sig.returnType = some .int) (hlk : meth.locks = false) (hP : PW X S H) (hS : va_S (xA X) s.heap H locs) {v : Int32} (hv : v = r) (hSS : S = S') (hdg : decode cc pc = .ok (.ireturn, 1)) : W p l e R s m args below meth c H locs 0 0 (MQ below (QcI X r S') args s 0 0 (xA X)) (F0 m pc ls [.int v]) := by
  subst hv
  subst hSS
  exact W.iret (Qc := QcI X v S) cf.1 cf.2.1 hr (fun t ht _ => ⟨⟨v, (), rfl, rfl, by show PW X S t.heap; rw [ht]; exact hP⟩, hS.F ht⟩) hS.2.2 hdg hlk
theorem x_zret (cf : CallFix p m c cc nL s args Mst own) (hr : meth.sig.returnType = some .boolean) (hlk : meth.locks = false) (hP : PW X S H) (hS : va_S (xA X) s.heap H locs) {v : Int32} {z : Bool} (hv : v = nI z.toNat) (hSS : S = S') (hdg : decode cc pc = .ok (.ireturn, 1)) : W p l e R s m args below meth c H locs 0 0 (MQ below (QcI X (nI z.toNat) S') args s 0 0 (xA X)) (F0 m pc ls [.int v]) := by
  subst hv
  subst hSS
  exact W.zret (Qc := QcI X (nI z.toNat) S) cf.1 cf.2.1 hr (by cases z <;> rfl) (fun t ht _ => ⟨⟨nI z.toNat, (), rfl, rfl, by show PW X S t.heap; rw [ht]; exact hP⟩, hS.F ht⟩) hS.2.2 hdg hlk
theorem x_vret (cf : CallFix p m c cc nL s args Mst own) (hr : meth.sig.returnType = none) (hlk : meth.locks = false) (hP : PW X S H) (hS : va_S (xA X) s.heap H locs) (hSS : S = S') (hdg : decode cc pc = .ok (.return_, 1)) : W p l e R s m args below meth c H locs 0 0 (MQ below (QcV X S') args s 0 0 (xA X)) (F0 m pc ls []) := by
  subst hSS
  exact W.vret (Qc := QcV X S) cf.1 cf.2.1 hr (fun t ht _ => ⟨⟨(), rfl, trivial, by show PW X S t.heap; rw [ht]; exact hP⟩, hS.F ht⟩) hS.2.2 hdg hlk
theorem x_callVi (cf : CallFix p m c cc nL s args Mst own) (hK : XK X s) (hN : NWs s) (hP : PW X S H) (hS : va_S (xA X) H0 H locs) (hM : MetI l X y ws d (.ref b :: As) S r S') (cw : CallW R s args own C index y bytes maxL ret ws (rmd d) 0 0 n) (hrv : ∃ cell : Cell, H[b]? = some cell ∧ cell.vm.isStatics = false ∧ s.vm.findClass C = some cell.cls) (hsize : ls.size = nL) (hst : st0 = As.reverse ++ .ref b :: rest) (hn : As.length = n) (hrest : (rest.map fun v => v.category).sum ≤ 8) (hcs : cells ≤ R.cells ∧ slots ≤ R.slots) (hdg : decode cc pc = .ok (.invokevirtual index, 3)) (kk : ∀ (H1 : Heap) (locs1 : List Loc), PW X S' H1 → va_S (xA X) H0 H1 locs1 → W p l e R s m args below meth c H1 locs1 cells slots Q (F0 m (pc + 3) ls (.int r :: rest))) : W p l e R s m args below meth c H locs cells slots Q (F0 m pc ls st0) := by
  refine va_calli (va_runV (C := C) (b := b) (As := As) (rest := rest) cf hM cw ⟨PreW.blind, hrv, fun U hU hW => ⟨rfl, by rw [hU]; exact hP, va_K.moved hW.alike hK, NWs.warm hW hN⟩⟩ rfl hn hsize hst (lv_room hrest) hdg ⟨hcs.1, hcs.2⟩) hS (fun q _ h => h) (fun q h => h) (fun r2 u t H1 locs1 ht hvm hp hB hz hk hS1 => by
    subst hp
    exact kk H1 locs1 (ht ▸ hB) hS1)
theorem x_callVv (cf : CallFix p m c cc nL s args Mst own) (hK : XK X s) (hN : NWs s) (hP : PW X S H) (hS : va_S (xA X) H0 H locs) (hM : MetV l X y ws d (.ref b :: As) S S') (cw : CallW R s args own C index y bytes maxL ret ws (rmd d) 0 0 n) (hrv : ∃ cell : Cell, H[b]? = some cell ∧ cell.vm.isStatics = false ∧ s.vm.findClass C = some cell.cls) (hsize : ls.size = nL) (hst : st0 = As.reverse ++ .ref b :: rest) (hn : As.length = n) (hrest : (rest.map fun v => v.category).sum ≤ 8) (hcs : cells ≤ R.cells ∧ slots ≤ R.slots) (hdg : decode cc pc = .ok (.invokevirtual index, 3)) (kk : ∀ (H1 : Heap) (locs1 : List Loc), PW X S' H1 → va_S (xA X) H0 H1 locs1 → W p l e R s m args below meth c H1 locs1 cells slots Q (F0 m (pc + 3) ls (rest))) : W p l e R s m args below meth c H locs cells slots Q (F0 m pc ls st0) := by
  refine va_callv (va_runV (C := C) (b := b) (As := As) (rest := rest) cf hM cw ⟨PreW.blind, hrv, fun U hU hW => ⟨rfl, by rw [hU]; exact hP, va_K.moved hW.alike hK, NWs.warm hW hN⟩⟩ rfl hn hsize hst (lv_room hrest) hdg ⟨hcs.1, hcs.2⟩) hS (fun q _ h => h) (fun q h => h) (fun u t H1 locs1 ht hvm hp hB hz hk hS1 => kk H1 locs1 (ht ▸ hB) hS1)
theorem x_callSi (cf : CallFix p m c cc nL s args Mst own) (hK : XK X s) (hN : NWs s) (hP : PW X S H) (hS : va_S (xA X) H0 H locs) (hM : MetI l X y ws d (As) S r S') (cw : (CallB R s args own index y bytes maxL ret ws (rmd d) 0 0 n ∧ (Cond.static y).before args s = true)) (hsize : ls.size = nL) (hst : st0 = As.reverse ++ rest) (hn : As.length = n) (hrest : (rest.map fun v => v.category).sum ≤ 8) (hcs : cells ≤ R.cells ∧ slots ≤ R.slots) (hdg : decode cc pc = .ok (.invokestatic index, 3)) (kk : ∀ (H1 : Heap) (locs1 : List Loc), PW X S' H1 → va_S (xA X) H0 H1 locs1 → W p l e R s m args below meth c H1 locs1 cells slots Q (F0 m (pc + 3) ls (.int r :: rest))) : W p l e R s m args below meth c H locs cells slots Q (F0 m pc ls st0) := by
  refine va_calli (va_runS (As := As) (rest := rest) cf hM cw ⟨PreW.blind, fun U hU hW => ⟨rfl, by rw [hU]; exact hP, va_K.moved hW.alike hK, NWs.warm hW hN⟩⟩ rfl hn hsize hst (lv_room hrest) hdg ⟨hcs.1, hcs.2⟩) hS (fun q _ h => h) (fun q h => h) (fun r2 u t H1 locs1 ht hvm hp hB hz hk hS1 => by
    subst hp
    exact kk H1 locs1 (ht ▸ hB) hS1)
theorem x_callSv (cf : CallFix p m c cc nL s args Mst own) (hK : XK X s) (hN : NWs s) (hP : PW X S H) (hS : va_S (xA X) H0 H locs) (hM : MetV l X y ws d (As) S S') (cw : (CallB R s args own index y bytes maxL ret ws (rmd d) 0 0 n ∧ (Cond.static y).before args s = true)) (hsize : ls.size = nL) (hst : st0 = As.reverse ++ rest) (hn : As.length = n) (hrest : (rest.map fun v => v.category).sum ≤ 8) (hcs : cells ≤ R.cells ∧ slots ≤ R.slots) (hdg : decode cc pc = .ok (.invokestatic index, 3)) (kk : ∀ (H1 : Heap) (locs1 : List Loc), PW X S' H1 → va_S (xA X) H0 H1 locs1 → W p l e R s m args below meth c H1 locs1 cells slots Q (F0 m (pc + 3) ls (rest))) : W p l e R s m args below meth c H locs cells slots Q (F0 m pc ls st0) := by
  refine va_callv (va_runS (As := As) (rest := rest) cf hM cw ⟨PreW.blind, fun U hU hW => ⟨rfl, by rw [hU]; exact hP, va_K.moved hW.alike hK, NWs.warm hW hN⟩⟩ rfl hn hsize hst (lv_room hrest) hdg ⟨hcs.1, hcs.2⟩) hS (fun q _ h => h) (fun q h => h) (fun u t H1 locs1 ht hvm hp hB hz hk hS1 => kk H1 locs1 (ht ▸ hB) hS1)
end XC
