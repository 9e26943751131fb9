theorem JV.mono {V W n : Nat} {M C : Nat → Nat → Nat} (h : JV V n M C) (h1 : V ≤ W) (h2 : W ≤ 20000) : JV W n M C := ⟨h.1.mono h1 h2, fun i q => Nat.le_trans (h.2.1 i q) h1, h.2.2⟩
theorem JV.send {V n : Nat} {M C : Nat → Nat → Nat} {k x to b v : Nat} (h : JV V n M C) (hk : k ≤ 2) (hx : x < n) (hto : to < n) (hb : b < M 0 5) (hv : v < 2147483648) (hm : M 0 3 / 2 ^ x % 2 = 0 → v ≤ V) (h0 : k = 0 → 1 ≤ b) (h1 : k = 1 → 1 ≤ b ∧ (M 0 3 / 2 ^ x % 2 = 1 ∨ M 8 b / 2 ^ x % 2 = 1)) (h2 : k = 2 → mCert M b = true) : JV V n (mSend M k x to b v) (cSend C k to x b v) := by
  have hn := h.n
  exact ⟨h.1.send hk (by omega) (by omega) hb hv, h.2.1.send hm, h.2.2.1.send h0 h1 h2, h.2.2.2.send⟩
theorem JV.newBlock {V n : Nat} {M C : Nat → Nat → Nat} {v p set : Nat} (h : JV V n M C) (hb : M 0 5 < 40) (hv : v + 1 ≤ V) (hp : p < M 0 5) (hc : mCert M p = true) (hl : M 5 p < v) (hs : set < 16777216) : JV V n (mNewBlock M v p set) (cAdd C p v set) := by
  refine ⟨h.1.newBlock hb hv (by omega) hs, h.2.1.of ?_ ?_ ?_, h.2.2.1.newBlock h.1 hp hc hl, h.2.2.2.newBlock h.1 h.2.2.1 hb hp⟩
  · rfl
  · rfl
  · rfl
theorem JV.sc {V n : Nat} {M C : Nat → Nat → Nat} {r v k j : Nat} (h : JV V n M C) (hr : r < n) (hkj : (k = 15 ∧ j = 1) ∨ (k = 16 ∧ j = 2) ∨ (k = 18 ∧ j = 4)) (hv : (k ≠ 16 → v ≤ V) ∧ (k = 16 → v ≤ 32)) : JV V n (up2 M k r v) (up2 C (3 * r + 44) j v) := by
  refine ⟨h.1.up (by omega) ?_, h.2.1.of ?_ ?_ ?_, h.2.2.1.up (by omega), h.2.2.2.sc hr (by omega)⟩
  · rcases hkj with ⟨rfl, rfl⟩ | ⟨rfl, rfl⟩ | ⟨rfl, rfl⟩
    · exact hv.1 (by decide)
    · exact hv.2 rfl
    · exact hv.1 (by decide)
  · rw [up2_ne _ _ _ (by omega)]
  · rw [up2_ne _ _ _ (by omega)]
  · rw [up2_ne _ _ _ (by omega)]
-- replica, correct, corrupt, block: the same on both sides
theorem JV.rep_eq {V n : Nat} {M C : Nat → Nat → Nat} (h : JV V n M C) (r : Int32) : cRepl C r = mRep M r := by
  unfold cRepl mRep
  rw [h.2.2.2.1.1, Bool.decide_and]
theorem JV.correct_eq {V n : Nat} {M C : Nat → Nat → Nat} (h : JV V n M C) (r : Int32) : cCorrect C r = mCorrect M r := by
  unfold cCorrect mCorrect
  rw [h.rep_eq, h.2.2.2.1.2.2.2.1]
  congr 1
  have := bt01 (M 0 3) r.toNatClampNeg
  by_cases hc : M 0 3 / 2 ^ r.toNatClampNeg % 2 = 0
  · rw [decide_eq_true hc, decide_eq_true (by omega)]
  · rw [decide_eq_false hc, decide_eq_false (by omega)]
theorem JV.corrupt_eq {V n : Nat} {M C : Nat → Nat → Nat} (h : JV V n M C) (r : Int32) : cCorrupt C r = mCorrupt M r := by
  unfold cCorrupt mCorrupt
  rw [h.rep_eq, h.2.2.2.1.2.2.2.1]
theorem JV.has_eq {V n : Nat} {M C : Nat → Nat → Nat} (h : JV V n M C) (b : Int32) : cHas C b = mBlock M b := by
  unfold cHas mBlock
  rw [h.2.2.2.2.2.1.1, Bool.decide_and]
theorem JV.high_eq {V n : Nat} {M C : Nat → Nat → Nat} (h : JV V n M C) {r : Nat} (hr : r < n) : C (3 * r + 44) 6 = mHigh M r := hi_eq h.1 h.2.2.1 (by rw [h.n]; exact hr) (h.2.2.2.2.2.2.2.2.2.2.2 r hr).1
theorem JV.lock_eq {V n : Nat} {M C : Nat → Nat → Nat} (h : JV V n M C) {r : Nat} (hr : r < n) : C (3 * r + 44) 7 = mLock M r := lo_eq h.1 h.2.2.1 (h.2.2.2.2.2.2.2.2.2.2.2 r hr).2.1
theorem JV.tip_eq {V n : Nat} {M C : Nat → Nat → Nat} (h : JV V n M C) {r : Nat} (hr : r < n) : C (3 * r + 44) 8 = mTip M r := ti_eq h.1 h.2.2.1 (h.2.2.2.2.2.2.2.2.2.2.2 r hr).2.2
theorem JV.push_eq {V n : Nat} {M C : Nat → Nat → Nat} (h : JV V n M C) {r : Nat} (hr : r < n) : cPush C n r (C 25 1) = mPush M r := by
  rw [h.2.2.2.1.2.1]
  exact cPush_eq h.n (h.2.2.2.2.2.2.2.2.2.2.1 r hr).2
theorem mHigh_ok {V n : Nat} {M C : Nat → Nat → Nat} (h : JV V n M C) {r : Nat} (hr : r < n) : mHigh M r < M 0 5 ∧ mCert M (mHigh M r) = true ∧ (M 5 (mHigh M r) < M 14 r) := by
  have hn := h.n
  have hbl := h.1.b
  have h14 := (show M 14 r ≤ V ∧ (r < M 0 1 → 1 ≤ M 14 r) from h.1.c 14 r).2 (by omega)
  rcases (mHigh_max h.1 r).1 with q | ⟨b, b1, b2, b3, b4⟩
  · rw [q]
    exact ⟨by omega, mCert_0, by rw [h.2.2.1.1.2.1]; omega⟩
  · obtain ⟨a1, a2, a3⟩ := h.2.2.1.2.2.2.1 r b (by omega) (by omega) b3
    rw [b4]
    exact ⟨a1, a2, a3⟩
-- submit
theorem held_ne {h t row : Nat} {Z : Nat → Nat → Nat} : ∀ k, (∀ q, q < k → row ≠ 3 * q + 44) → itr (cHeldF h t) 0 Z k row = Z row
  | 0, _ => rfl
  | k + 1, hk => by
    have ih := held_ne (h := h) (t := t) (row := row) (Z := Z) k (fun q hq => hk q (by omega))
    rw [itr_z]
    generalize itr (cHeldF h t) 0 Z k = U at ih
    unfold cHeldF
    split
    · rw [up2_ne _ _ _ (hk k (by omega))]
      exact ih
    · exact ih
theorem held_at {h t q j : Nat} {Z : Nat → Nat → Nat} : ∀ k, itr (cHeldF h t) 0 Z k (3 * q + 44) j = if j = 5 ∧ q < k ∧ h / 2 ^ q % 2 = 1 then Z (3 * q + 44) 5 ||| 1 * 2 ^ t else Z (3 * q + 44) j
  | 0 => by rw [if_neg (by omega)]; rfl
  | k + 1 => by
    have ih := held_at (h := h) (t := t) (q := q) (j := j) (Z := Z) k
    have ih5 : itr (cHeldF h t) 0 Z k (3 * k + 44) 5 = Z (3 * k + 44) 5 := by rw [held_ne k (fun q hq => by omega)]
    rw [itr_z]
    generalize itr (cHeldF h t) 0 Z k = U at ih ih5
    unfold cHeldF
    split
    · rename_i hh
      rw [up2_at]
      by_cases hq : q = k
      · subst hq
        by_cases hj : j = 5
        · subst hj
          rw [if_pos ⟨rfl, rfl⟩, if_pos ⟨rfl, by omega, hh⟩, ih5]
        · rw [if_neg (fun z => hj z.2), if_neg (fun z => hj z.1), ih, if_neg (fun z => hj z.1)]
      · rw [if_neg (by omega), ih]
        by_cases hc : j = 5 ∧ q < k ∧ h / 2 ^ q % 2 = 1
        · rw [if_pos hc, if_pos ⟨hc.1, by omega, hc.2.2⟩]
        · rw [if_neg hc, if_neg (fun z => hc ⟨z.1, by omega, z.2.2⟩)]
    · rename_i hh
      rw [ih]
      by_cases hc : j = 5 ∧ q < k ∧ h / 2 ^ q % 2 = 1
      · rw [if_pos hc, if_pos ⟨hc.1, by omega, hc.2.2⟩]
      · rw [if_neg hc, if_neg (fun z => hc ⟨z.1, by
          have z2 := z.2.1
          by_cases hq : q = k
          · rw [hq] at z
            exact absurd z.2.2 hh
          · omega, z.2.2⟩)]
theorem JV.sub_ok {V n : Nat} {M C : Nat → Nat → Nat} (h : JV V n M C) (a fr to am : Int32) : qSubOk C a fr to am = rSubOk M a fr to am := by
  unfold qSubOk rSubOk
  rw [h.2.2.2.1.1, h.2.2.2.2.1.1]
  apply decide_eq_decide.mpr
  constructor
  · rintro ⟨h1, h2, h3, h4, h5, h6⟩
    exact ⟨h1, by omega, by omega, h4, h5, h6⟩
  · rintro ⟨h1, h2, h3, h4, h5, h6⟩
    exact ⟨h1, by omega, by omega, h4, h5, h6⟩
theorem JV.submit {V n : Nat} {M C : Nat → Nat → Nat} (h : JV V n M C) (a fr to am : Int32) : qSubmit C a fr to am = rSubmit M a fr to am ∧ JV V n (mSubmit M a fr to am) (pSubmit C n a fr to am) := by
  unfold qSubmit rSubmit mSubmit pSubmit
  rw [h.sub_ok]
  have hn := h.n
  have hnn := h.1.n
  obtain ⟨hI, hM, hS, ra, rb, rc, rd, re, rf, rg, rh, ri⟩ := h
  by_cases ok : rSubOk M a fr to am = true
  · rw [if_pos ok, if_pos ok, if_pos ok, if_pos ok, rb.1]
    refine ⟨rfl, ?_⟩
    have ok' := of_decide_eq_true ok
    obtain ⟨o1, o2, o3, o4, o5, o6⟩ := ok'
    obtain ⟨ja, -, ea, ia, ca⟩ := i_nat o1.1
    obtain ⟨jf, -, ef, jf', cf⟩ := i_nat o2.1
    obtain ⟨jt, -, et, it, ct⟩ := i_nat o3.1
    obtain ⟨jm, -, em, im, cm⟩ := i_nat (show 0 ≤ am.toInt by omega)
    rw [ca, cf, ct, cm]
    have ha2 : ja < 2 ^ n := by
      have := o1.2
      rw [ia, hn] at this
      exact Int.ofNat_lt.mp this
    have p7 : (2 : Nat) ^ n ≤ 2 ^ 7 := Nat.pow_le_pow_right (by decide) (by omega)
    have ha : ja < 128 := Nat.lt_of_lt_of_le ha2 p7
    generalize hT : up2 (up2 (up2 (up2 (up2 M 1 (M 0 4) ja) 2 (M 0 4) jf) 3 (M 0 4) jt) 4 (M 0 4) jm) 0 4 (M 0 4 + 1) = T
    generalize hD : itr (cHeldF ja (M 0 4)) 0 (cTrAdd C jf jt jm) n = D
    have tr : ∀ row, row ≠ 0 → row ≠ 1 → row ≠ 2 → row ≠ 3 → row ≠ 4 → T row = M row := fun row a b c d e => by
      rw [← hT, up2_ne _ _ _ a, up2_ne _ _ _ e, up2_ne _ _ _ d, up2_ne _ _ _ c, up2_ne _ _ _ b]
    have t0 : ∀ j, j ≠ 4 → T 0 j = M 0 j := fun j hj => by rw [← hT]; simp [up2_at, hj]
    have t04 : T 0 4 = M 0 4 + 1 := by rw [← hT]; rfl
    have t1 : ∀ j, T 1 j = if j = M 0 4 then ja else M 1 j := fun j => by rw [← hT]; simp [up2_at]
    have t2 : T 2 = va_up (M 2) (M 0 4) jf := by rw [← hT, up2_ne _ _ _ (by decide), up2_ne _ _ _ (by decide), up2_ne _ _ _ (by decide), up2_row]; rfl
    have t3 : T 3 = va_up (M 3) (M 0 4) jt := by rw [← hT, up2_ne _ _ _ (by decide), up2_ne _ _ _ (by decide), up2_row]; rfl
    have t4 : T 4 = va_up (M 4) (M 0 4) jm := by rw [← hT, up2_ne _ _ _ (by decide), up2_row]; rfl
    have d0 : ∀ row, (∀ q, row ≠ 3 * q + 44) → D row = cTrAdd C jf jt jm row := fun row hq => by rw [← hD]; exact held_ne n (fun q _ => hq q)
    have dc : ∀ row, row ≠ 27 → row ≠ 28 → row ≠ 29 → row ≠ 30 → cTrAdd C jf jt jm row = C row := fun row a b c d => by
      unfold cTrAdd
      rw [up2_ne _ _ _ a, up2_ne _ _ _ d, up2_ne _ _ _ c, up2_ne _ _ _ b]
    have dr : ∀ row, row ≠ 27 → row ≠ 28 → row ≠ 29 → row ≠ 30 → (∀ q, row ≠ 3 * q + 44) → D row = C row := fun row a b c d e => by rw [d0 row e, dc row a b c d]
    have dj : ∀ q j, j ≠ 5 → D (3 * q + 44) j = C (3 * q + 44) j := fun q j hj => by
      rw [← hD, held_at, if_neg (fun z => hj z.1), dc _ (by omega) (by omega) (by omega) (by omega)]
    have d5 : ∀ q, q < n → D (3 * q + 44) 5 = if ja / 2 ^ q % 2 = 1 then C (3 * q + 44) 5 ||| 1 * 2 ^ M 0 4 else C (3 * q + 44) 5 := fun q hq => by
      rw [← hD, held_at, dc _ (by omega) (by omega) (by omega) (by omega)]
      by_cases hc : ja / 2 ^ q % 2 = 1
      · rw [if_pos hc, if_pos ⟨rfl, hq, hc⟩]
      · rw [if_neg hc, if_neg (fun z => hc z.2.2)]
    have d27 : D 27 0 = M 0 4 + 1 := by
      rw [d0 27 (fun q => by omega)]
      unfold cTrAdd
      rw [up2_at, if_pos ⟨rfl, rfl⟩, rb.1]
    have d28 : D 28 = va_up (C 28) (M 0 4) jf := by
      rw [d0 28 (fun q => by omega)]
      unfold cTrAdd
      rw [up2_ne _ _ _ (by decide), up2_ne _ _ _ (by decide), up2_ne _ _ _ (by decide), up2_row, rb.1]
    have d29 : D 29 = va_up (C 29) (M 0 4) jt := by
      rw [d0 29 (fun q => by omega)]
      unfold cTrAdd
      rw [up2_ne _ _ _ (by decide), up2_ne _ _ _ (by decide), up2_row, rb.1]
      rfl
    have d30 : D 30 = va_up (C 30) (M 0 4) jm := by
      rw [d0 30 (fun q => by omega)]
      unfold cTrAdd
      rw [up2_ne _ _ _ (by decide), up2_row, rb.1]
      rfl
    have m5 := tr 5 (by decide) (by decide) (by decide) (by decide) (by decide)
    have m6 := tr 6 (by decide) (by decide) (by decide) (by decide) (by decide)
    have m7 := tr 7 (by decide) (by decide) (by decide) (by decide) (by decide)
    have m8 := tr 8 (by decide) (by decide) (by decide) (by decide) (by decide)
    have m9 := tr 9 (by decide) (by decide) (by decide) (by decide) (by decide)
    have m11 := tr 11 (by decide) (by decide) (by decide) (by decide) (by decide)
    have m12 := tr 12 (by decide) (by decide) (by decide) (by decide) (by decide)
    have m13 := tr 13 (by decide) (by decide) (by decide) (by decide) (by decide)
    have m14 := tr 14 (by decide) (by decide) (by decide) (by decide) (by decide)
    have m17 := tr 17 (by decide) (by decide) (by decide) (by decide) (by decide)
    have m19 := tr 19 (by decide) (by decide) (by decide) (by decide) (by decide)
    have m20 := tr 20 (by decide) (by decide) (by decide) (by decide) (by decide)
    have c25 := dr 25 (by decide) (by decide) (by decide) (by decide) (fun q => by omega)
    have c31 := dr 31 (by decide) (by decide) (by decide) (by decide) (fun q => by omega)
    have c32 := dr 32 (by decide) (by decide) (by decide) (by decide) (fun q => by omega)
    have c33 := dr 33 (by decide) (by decide) (by decide) (by decide) (fun q => by omega)
    have c34 := dr 34 (by decide) (by decide) (by decide) (by decide) (fun q => by omega)
    have c35 := dr 35 (by decide) (by decide) (by decide) (by decide) (fun q => by omega)
    have c36 := dr 36 (by decide) (by decide) (by decide) (by decide) (fun q => by omega)
    have c37 := dr 37 (by decide) (by decide) (by decide) (by decide) (fun q => by omega)
    have hIT : IW V T := by
      rw [← hT]
      have i1 : IW V (up2 M 1 (M 0 4) ja) := hI.up (k := 1) (by decide) ha
      have i2 : IW V (up2 (up2 M 1 (M 0 4) ja) 2 (M 0 4) jf) := i1.up (k := 2) (by decide) (show jf < 4 by omega)
      have i3 : IW V (up2 (up2 (up2 M 1 (M 0 4) ja) 2 (M 0 4) jf) 3 (M 0 4) jt) := i2.up (k := 3) (by decide) (show jt < 4 by omega)
      have i4 : IW V (up2 (up2 (up2 (up2 M 1 (M 0 4) ja) 2 (M 0 4) jf) 3 (M 0 4) jt) 4 (M 0 4) jm) := i3.up (k := 4) (by decide) (show jm ≤ 1000 by omega)
      exact i4.up0 (by decide) (fun _ => by omega) (fun q => by omega) (fun q => by omega)
    have hcc : ∀ c, mCert T c = mCert M c := fun c => mCert_congr (t0 0 (by decide)) (t0 3 (by decide)) (by rw [m8])
    refine ⟨hIT, hM.of (t0 3 (by decide)) m11 m13, ?_, ?_, ⟨?_, ?_, ?_, ?_⟩, ?_, ?_, ?_, ?_, fun q hq t => ?_, ?_, ?_⟩
    · refine hS.of6 (t0 0 (by decide)) (t0 1 (by decide)) (t0 3 (by decide)) (t0 5 (by decide)) m5 m6 m7 m8 m17 m20 ?_ ?_
      · unfold S4
        rw [t0 1 (by decide), t0 5 (by decide), m5, m14, m19]
        intro r b k1 k2 k3
        rw [hcc]
        exact hS.2.2.2.1 r b k1 k2 k3
      · unfold S6
        rw [t0 6 (by decide), t0 3 (by decide), m8, m9, m11, m12]
        intro i k1
        rw [hcc]
        exact hS.2.2.2.2.2.1 i k1
    · unfold RA
      rw [c25, t0 0 (by decide), t0 1 (by decide), t0 2 (by decide), t0 3 (by decide)]
      exact ra
    · rw [d27, t04]
    · rw [d28, t2, rb.2.1]
    · rw [d29, t3, rb.2.2.1]
    · rw [d30, t4, rb.2.2.2]
    · unfold RC
      rw [c31, c32, c33, c34, c35, t0 5 (by decide), m5, m6, m7, m8]
      exact rc
    · unfold RD
      rw [c37, c36, t0 5 (by decide), m7]
      intro x hx
      obtain ⟨e1, e2⟩ := rd x hx
      refine ⟨fun y hy => ?_, fun t => ?_⟩
      · rw [anc_of m6]
        exact e1 y hy
      · rw [e2 t]
        simp only [anc_of m6]
    · exact re.of (t0 6 (by decide)) (t0 7 (by decide)) m9 (tr 10 (by decide) (by decide) (by decide) (by decide) (by decide)) m11 m12 m13 (dr 38 (by decide) (by decide) (by decide) (by decide) (fun q => by omega)) (dr 39 (by decide) (by decide) (by decide) (by decide) (fun q => by omega)) (dr 40 (by decide) (by decide) (by decide) (by decide) (fun q => by omega))
    · exact rf.of m14 (tr 15 (by decide) (by decide) (by decide) (by decide) (by decide)) (tr 16 (by decide) (by decide) (by decide) (by decide) (by decide)) m17 (tr 18 (by decide) (by decide) (by decide) (by decide) (by decide)) (fun q _ i hi => dj q i (by omega))
    · rw [d5 q hq, t04, t1]
      have g := rg q hq t
      by_cases ht : t = M 0 4
      · subst ht
        rw [if_pos rfl]
        have hno : ¬ C (3 * q + 44) 5 / 2 ^ M 0 4 % 2 = 1 := fun z => by
          have := (g.mp z).1
          omega
        by_cases hc : ja / 2 ^ q % 2 = 1
        · rw [if_pos hc, or_bit]
          exact ⟨fun _ => ⟨by omega, hc⟩, fun _ => Or.inr rfl⟩
        · rw [if_neg hc]
          exact ⟨fun z => absurd z hno, fun z => absurd z.2 hc⟩
      · rw [if_neg ht]
        have e : (if ja / 2 ^ q % 2 = 1 then C (3 * q + 44) 5 ||| 1 * 2 ^ M 0 4 else C (3 * q + 44) 5) / 2 ^ t % 2 = 1 ↔ C (3 * q + 44) 5 / 2 ^ t % 2 = 1 := by
          split
          · rw [or_bit]
            exact ⟨fun z => z.elim id (fun w => absurd w.symm ht), Or.inl⟩
          · exact Iff.rfl
        rw [e, g]
        exact ⟨fun z => ⟨by omega, z.2⟩, fun z => ⟨by omega, z.2⟩⟩
    · exact rh.of m20 (tr 21 (by decide) (by decide) (by decide) (by decide) (by decide)) (fun q _ => dr _ (by omega) (by omega) (by omega) (by omega) (fun z => by omega)) (fun q _ => dr _ (by omega) (by omega) (by omega) (by omega) (fun z => by omega))
    · exact ri.of (t0 5 (by decide)) m5 m6 m19 (fun q _ => ⟨dj q 6 (by decide), dj q 7 (by decide), dj q 8 (by decide)⟩)
  · rw [if_neg ok, if_neg ok, if_neg ok, if_neg ok]
    exact ⟨rfl, hI, hM, hS, ra, rb, rc, rd, re, rf, rg, rh, ri⟩
