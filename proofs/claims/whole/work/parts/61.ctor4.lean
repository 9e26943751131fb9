def st0 (f n k cs : Nat) (i q : Nat) : Nat :=
  if i < 44 then (match i with
    | 0 => (match q with | 0 => f | 1 => n | 2 => k | 3 => cs | 5 => 1 | _ => 0)
    | 14 => if q < n then 1 else 0
    | 16 => if q < n then 2 else 0
    | 19 => if q % 40 = 0 ∧ q < 40 * n then 1 else 0
    | 25 => (match q with | 0 => n | 1 => 2 * f + 1 | 2 => k | 3 => cs | _ => 0)
    | 31 => if q = 0 then 1 else 0
    | 37 => if q = 0 then 1 else 0
    | _ => 0)
  else if (i - 44) % 3 = 0 then (match q with | 0 => 1 | 2 => 2 | _ => 0) else 0
theorem st0_hi {f n k cs i : Nat} (h : 44 ≤ i) : st0 f n k cs i = fun q => if (i - 44) % 3 = 0 then (match q with | 0 => 1 | 2 => 2 | _ => 0) else 0 := by
  funext q
  unfold st0
  rw [if_neg (by omega)]
def repsW (X : WX) (n : Nat) (u : Nat → Nat → Nat) : Nat → va_W
  | 0 => []
  | r + 1 => repsW X n u r ++ wRp X n (u r)
theorem repsW_len {X : WX} {n : Nat} {u : Nat → Nat → Nat} : ∀ r, (repsW X n u r).length = 3 * r
  | 0 => rfl
  | r + 1 => by
    unfold repsW
    rw [List.length_append, repsW_len r]
    show 3 * r + 3 = _
    omega
theorem repsW_congr {X : WX} {n : Nat} {u v : Nat → Nat → Nat} : ∀ r, (∀ i, i < r → u i = v i) → repsW X n u r = repsW X n v r
  | 0, _ => rfl
  | r + 1, h => by
    unfold repsW
    rw [repsW_congr r (fun i hi => h i (by omega)), h r (by omega)]
theorem repsW_at {X : WX} {n : Nat} {u : Nat → Nat → Nat} {i j : Nat} (hj : j < 3) : ∀ r, i < r → (repsW X n u r)[3 * i + j]? = (wRp X n (u i))[j]?
  | 0, h => by omega
  | r + 1, h => by
    unfold repsW
    by_cases hi : i = r
    · subst hi
      rw [List.getElem?_append_right (by rw [repsW_len]; omega), repsW_len, show 3 * i + j - 3 * i = j by omega]
    · rw [List.getElem?_append_left (by rw [repsW_len]; omega)]
      exact repsW_at hj r (by omega)
def fr (u : Nat → Nat → Nat) (r : Nat) : Nat → Option Nat := fun i => if i < r then some (u i 0) else none
theorem fr_0 (u : Nat → Nat → Nat) : fr u 0 = fun _ => none := by
  funext i
  simp [fr]
theorem fr_step {u : Nat → Nat → Nat} {v : Nat → Nat} {r q : Nat} (hv : v 0 = q) (hr : r < 2 ^ 31) : va_up (fr u r) (nI r).toNatClampNeg (some q) = fr (va_up u r v) (r + 1) := by
  funext i
  rw [nI_clamp hr]
  by_cases h : i = r
  · subst h
    rw [va_up_self]
    simp [fr, va_up_self, hv]
  · rw [va_up_ne _ _ h]
    unfold fr
    rw [va_up_ne _ _ h]
    by_cases h2 : i < r
    · rw [if_pos h2, if_pos (by omega)]
    · rw [if_neg h2, if_neg (by omega)]
theorem reps_step {X : WX} {n r : Nat} {u : Nat → Nat → Nat} {v : Nat → Nat} : repsW X n u r ++ wRp X n v = repsW X n (va_up u r v) (r + 1) := by
  show _ = repsW X n (va_up u r v) r ++ wRp X n (va_up u r v r)
  rw [va_up_self, repsW_congr r (fun i hi => (va_up_ne u v (show i ≠ r by omega)).symm)]
def wC (X : WX) (n : Nat) (S : Nat → Nat → Nat) (ad : Nat → Nat) : va_W := (List.range (19 + 3 * n)).map (fun j => (ad (25 + j), xE (X.1, X.2.1, n, ad) (25 + j) (S (25 + j))))
def adT (h0 arr : Nat) (tr bl ro le : Nat → Nat) (u : Nat → Nat → Nat) (i : Nat) : Nat :=
  if i < 44 then (match i with
    | 25 => h0 | 26 => arr | 27 => tr 0 | 28 => tr 1 | 29 => tr 2 | 30 => tr 3
    | 31 => bl 0 | 32 => bl 1 | 33 => bl 2 | 34 => bl 3 | 35 => bl 4 | 36 => bl 5 | 37 => bl 6
    | 38 => ro 0 | 39 => ro 1 | 40 => ro 2 | 41 => le 0 | 42 => le 1 | 43 => le 2 | _ => 0)
  else u ((i - 44) / 3) ((i - 44) % 3)
theorem adT_rep {h0 arr : Nat} {tr bl ro le : Nat → Nat} {u : Nat → Nat → Nat} {r j : Nat} (hj : j < 3) : adT h0 arr tr bl ro le u (3 * r + 44 + j) = u r j := by
  unfold adT
  rw [if_neg (by omega), show (3 * r + 44 + j - 44) / 3 = r by omega, show (3 * r + 44 + j - 44) % 3 = j by omega]
theorem wC_get {X : WX} {n : Nat} {S : Nat → Nat → Nat} {ad : Nat → Nat} {j : Nat} {q : Nat × va_E} (h : (wC X n S ad)[j]? = some q) : j < 19 + 3 * n ∧ q = (ad (25 + j), xE (X.1, X.2.1, n, ad) (25 + j) (S (25 + j))) := by
  have hl := (List.getElem?_eq_some_iff.mp h).1
  have hj : j < 19 + 3 * n := by simpa [wC] using hl
  unfold wC at h
  rw [List.getElem?_map, List.getElem?_range hj] at h
  exact ⟨hj, (Option.some.inj h).symm⟩
theorem wC_at {X : WX} {n : Nat} {S : Nat → Nat → Nat} {ad : Nat → Nat} {j : Nat} (hj : j < 19 + 3 * n) : (wC X n S ad)[j]? = some (ad (25 + j), xE (X.1, X.2.1, n, ad) (25 + j) (S (25 + j))) := by
  unfold wC
  rw [List.getElem?_map, List.getElem?_range hj]
  rfl
theorem arrV_congr {cI : ClassId} {N : Nat} {f g : Nat → Value} (h : ∀ j, j < N → f j = g j) : arrV cI N f = arrV cI N g := by
  unfold arrV
  have e : (fun j : Fin N => f j.val) = fun j : Fin N => g j.val := funext fun j => h j.val j.isLt
  rw [e]
abbrev tlW (X : WX) (tr bl ro le : Nat → Nat) : va_W := wTr X tr ++ (wBl X bl ++ (wRo X ro ++ wLe X le))
abbrev lsE (X : WX) (h0 arr n f k cs : Nat) (tr bl ro le : Nat → Nat) (u : Nat → Nat → Nat) : va_W := (h0, .inr (1, [.int (nI n), .int (nI (2 * f + 1)), .int (nI k), .int (nI cs), .ref arr, .ref (tr 0), .ref (bl 0), .ref (ro 0), .ref (le 0)])) :: (arr, .inl (X.2.1.2.2.2, n, .inr (.inr (.inr (.inr (fr u n)))))) :: (repsW X n u n ++ tlW X tr bl ro le)
def posC (n j : Nat) : Nat := if j < 2 then j else if j < 19 then 3 * n + j else j - 17
theorem tl_at {X : WX} {n t : Nat} {u : Nat → Nat → Nat} {x y : Nat × va_E} {T : va_W} : (x :: y :: (repsW X n u n ++ T))[3 * n + (t + 2)]? = T[t]? := by
  show (repsW X n u n ++ T)[3 * n + t]? = _
  rw [List.getElem?_append_right (by rw [repsW_len]; omega), repsW_len, show 3 * n + t - 3 * n = t by omega]
theorem rp_at {X : WX} {n i j : Nat} {u : Nat → Nat → Nat} {x y : Nat × va_E} {T : va_W} (hi : i < n) (hj : j < 3) : (x :: y :: (repsW X n u n ++ T))[3 * i + j + 2]? = (wRp X n (u i))[j]? := by
  show (repsW X n u n ++ T)[3 * i + j]? = _
  rw [List.getElem?_append_left (by rw [repsW_len]; omega), repsW_at hj n hi]
set_option maxRecDepth 100000 in
set_option maxHeartbeats 4000000 in
theorem lsE_at {X : WX} {h0 arr n f k cs j : Nat} {tr bl ro le : Nat → Nat} {u : Nat → Nat → Nat} (hn7 : n ≤ 7) (hj : j < 19 + 3 * n) : ∃ e : va_E, (lsE X h0 arr n f k cs tr bl ro le u)[posC n j]? = some (adT h0 arr tr bl ro le u (25 + j), e) ∧ ∀ H : Heap, va_at X.1 vcl (adT h0 arr tr bl ro le u (25 + j), e) H → va_at X.1 vcl (adT h0 arr tr bl ro le u (25 + j), xE (X.1, X.2.1, n, adT h0 arr tr bl ro le u) (25 + j) (st0 f n k cs (25 + j))) H := by
  by_cases h2 : j < 2
  · unfold posC
    rw [if_pos h2]
    rcases (show j = 0 ∨ j = 1 by omega) with rfl | rfl
    · exact ⟨_, rfl, fun _ h => h⟩
    · refine ⟨_, rfl, fun H h => ?_⟩
      have h : H[arr]? = some (vp_cell X.2.1.2.2.2 (n, .inr (.inr (.inr (.inr (fr u n)))))) := h
      show H[arr]? = some (vp_cell X.2.1.2.2.2 (n, .inr (.inr (.inr (.inr (fun q => some (adT h0 arr tr bl ro le u (3 * q + 44))))))))
      rw [h, vp_cell_q, vp_cell_q]
      refine congrArg some (arrV_congr (fun i hi => ?_))
      unfold fr
      rw [if_pos hi, show 3 * i + 44 = 3 * i + 44 + 0 by omega, adT_rep (by decide)]
  · by_cases h19 : j < 19
    · unfold posC
      rw [if_neg h2, if_pos h19]
      obtain ⟨t, rfl⟩ : ∃ t, j = t + 2 := ⟨j - 2, by omega⟩
      rw [tl_at]
      have ht : t < 17 := by omega
      clear h2 h19 hj
      refine ⟨xE (X.1, X.2.1, n, adT h0 arr tr bl ro le u) (25 + (t + 2)) (st0 f n k cs (25 + (t + 2))), ?_, fun _ h => h⟩
      rcases (show t = 0 ∨ t = 1 ∨ t = 2 ∨ t = 3 ∨ t = 4 ∨ t = 5 ∨ t = 6 ∨ t = 7 ∨ t = 8 ∨ t = 9 ∨ t = 10 ∨ t = 11 ∨ t = 12 ∨ t = 13 ∨ t = 14 ∨ t = 15 ∨ t = 16 by omega) with rfl | rfl | rfl | rfl | rfl | rfl | rfl | rfl | rfl | rfl | rfl | rfl | rfl | rfl | rfl | rfl | rfl <;> rfl
    · unfold posC
      rw [if_neg h2, if_neg h19]
      obtain ⟨r, i, hi, rfl⟩ : ∃ r i, i < 3 ∧ j = 19 + (3 * r + i) := ⟨(j - 19) / 3, (j - 19) % 3, by omega, by omega⟩
      have hr : r < n := by omega
      rw [show 19 + (3 * r + i) - 17 = 3 * r + i + 2 by omega, rp_at hr hi, show 25 + (19 + (3 * r + i)) = 3 * r + 44 + i by omega, adT_rep hi]
      refine ⟨xE (X.1, X.2.1, n, adT h0 arr tr bl ro le u) (3 * r + 44 + i) (st0 f n k cs (3 * r + 44 + i)), ?_, fun _ h => h⟩
      rcases (show i = 0 ∨ i = 1 ∨ i = 2 by omega) with rfl | rfl | rfl
      · have e1 : adT h0 arr tr bl ro le u (3 * r + 44 + 1) = u r 1 := adT_rep (by decide)
        have e2 : adT h0 arr tr bl ro le u (3 * r + 44 + 2) = u r 2 := adT_rep (by decide)
        have e4 : st0 f n k cs (3 * r + 44) = fun q => (match q with | 0 => 1 | 2 => 2 | _ => 0) := by
          rw [st0_hi (by omega)]
          funext q
          exact if_pos (by omega)
        show (wRp X n (u r))[0]? = some (u r 0, xE (X.1, X.2.1, n, adT h0 arr tr bl ro le u) (3 * r + 44) (st0 f n k cs (3 * r + 44)))
        rw [eRp, e4]
        show some (u r 0, Sum.inr (2, _)) = some (u r 0, Sum.inr (2, _))
        unfold fsRp
        show _ = some (u r 0, (Sum.inr (2, ([.int (nI 1), .int (nI 0), .int (nI 2), .int (nI 0), .int (nI 0), .int (nI 0), .int (nI 0), .int (nI 0), .int (nI 0), .ref (adT h0 arr tr bl ro le u (3 * r + 44 + 1)), .ref (adT h0 arr tr bl ro le u (3 * r + 44 + 2))] : List Value)) : va_E))
        rw [e1, e2]
      · have e4 : st0 f n k cs (3 * r + 45) = fun _ => 0 := by
          rw [st0_hi (by omega)]
          funext q
          exact if_neg (by omega)
        show (wRp X n (u r))[1]? = some (u r 1, xE (X.1, X.2.1, n, adT h0 arr tr bl ro le u) (3 * r + 45) (st0 f n k cs (3 * r + 45)))
        rw [e4, (iaG (X := (X.1, X.2.1, n, adT h0 arr tr bl ro le u)) hr).2.2]
        rfl
      · have e4 : st0 f n k cs (3 * r + 46) = fun _ => 0 := by
          rw [st0_hi (by omega)]
          funext q
          exact if_neg (by omega)
        show (wRp X n (u r))[2]? = some (u r 2, xE (X.1, X.2.1, n, adT h0 arr tr bl ro le u) (3 * r + 46) (st0 f n k cs (3 * r + 46)))
        rw [e4, (iaV (X := (X.1, X.2.1, n, adT h0 arr tr bl ro le u)) hn7 hr).2.2]
        rfl
theorem posC_inj {n i j : Nat} (hi : i < 19 + 3 * n) (hj : j < 19 + 3 * n) (h : posC n i = posC n j) : i = j := by
  unfold posC at h
  split at h <;> split at h <;> (try split at h) <;> (try split at h) <;> omega
theorem wC_of {X : WX} {h0 arr n f k cs : Nat} {tr bl ro le : Nat → Nat} {u : Nat → Nat → Nat} {A : Nat → Prop} {H : Heap} (hn7 : n ≤ 7) (hP : va_P X.1 vcl (lsE X h0 arr n f k cs tr bl ro le u) H) (hD : va_D A (lsE X h0 arr n f k cs tr bl ro le u)) : va_P X.1 vcl (wC X n (st0 f n k cs) (adT h0 arr tr bl ro le u)) H ∧ va_D A (wC X n (st0 f n k cs) (adT h0 arr tr bl ro le u)) := by
  refine ⟨fun j q hq => ?_, fun i j a b ha hb hab => ?_, fun j q hq => ?_⟩
  · obtain ⟨h1, rfl⟩ := wC_get hq
    obtain ⟨e, h2, h3⟩ := lsE_at (X := X) (h0 := h0) (arr := arr) (f := f) (k := k) (cs := cs) (tr := tr) (bl := bl) (ro := ro) (le := le) (u := u) hn7 h1
    exact h3 H (hP _ _ h2)
  · obtain ⟨h1, rfl⟩ := wC_get ha
    obtain ⟨h2, rfl⟩ := wC_get hb
    obtain ⟨e1, a1, -⟩ := lsE_at (X := X) (h0 := h0) (arr := arr) (f := f) (k := k) (cs := cs) (tr := tr) (bl := bl) (ro := ro) (le := le) (u := u) hn7 h1
    obtain ⟨e2, a2, -⟩ := lsE_at (X := X) (h0 := h0) (arr := arr) (f := f) (k := k) (cs := cs) (tr := tr) (bl := bl) (ro := ro) (le := le) (u := u) hn7 h2
    exact posC_inj h1 h2 (hD.1 _ _ _ _ a1 a2 hab)
  · obtain ⟨h1, rfl⟩ := wC_get hq
    obtain ⟨e, h2, h3⟩ := lsE_at (X := X) (h0 := h0) (arr := arr) (f := f) (k := k) (cs := cs) (tr := tr) (bl := bl) (ro := ro) (le := le) (u := u) hn7 h1
    have h9 := hD.2 _ _ h2
    exact h9
