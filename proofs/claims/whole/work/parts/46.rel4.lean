theorem Rl.ofR8 {n : Nat} {M C T D : Nat → Nat → Nat} (h : Rl n M C) (m0 : ∀ j, j ≤ 5 → T 0 j = M 0 j) (m1 : T 1 = M 1) (m2 : T 2 = M 2) (m3 : T 3 = M 3) (m4 : T 4 = M 4) (m5 : T 5 = M 5) (m6 : T 6 = M 6) (m7 : T 7 = M 7) (c8 : D 35 = T 8) (k : ∀ row, 25 ≤ row → row < 38 → row ≠ 35 → D row = C row) (e : RE T D) (f : RF n T D) (g5 : ∀ r, r < n → D (3 * r + 44) 5 = C (3 * r + 44) 5) (hh : RH n T D) (i : RI n T D) : Rl n T D := by
  obtain ⟨a, b, c, d, -, -, g, -, -⟩ := h
  refine ⟨?_, ?_, ?_, ?_, e, f, fun q hq t => ?_, hh, i⟩
  · unfold RA
    rw [k 25 (by decide) (by decide) (by decide), m0 0 (by decide), m0 1 (by decide), m0 2 (by decide), m0 3 (by decide)]
    exact a
  · unfold RB
    rw [k 27 (by decide) (by decide) (by decide), k 28 (by decide) (by decide) (by decide), k 29 (by decide) (by decide) (by decide), k 30 (by decide) (by decide) (by decide), m0 4 (by decide), m2, m3, m4]
    exact b
  · unfold RC
    rw [k 31 (by decide) (by decide) (by decide), k 32 (by decide) (by decide) (by decide), k 33 (by decide) (by decide) (by decide), k 34 (by decide) (by decide) (by decide), m0 5 (by decide), m5, m6, m7]
    exact ⟨c.1, c.2.1, c.2.2.1, c.2.2.2.1, c8⟩
  · unfold RD
    rw [k 37 (by decide) (by decide) (by decide), k 36 (by decide) (by decide) (by decide), m0 5 (by decide), m7]
    intro x hx
    obtain ⟨d1, d2⟩ := d x hx
    refine ⟨fun y hy => ?_, fun t => ?_⟩
    · rw [anc_of m6]
      exact d1 y hy
    · rw [d2 t]
      simp only [anc_of m6]
  · rw [g5 q hq, m0 4 (by decide), m1]
    exact g q hq t
theorem RE.of {M C T D : Nat → Nat → Nat} (h : RE M C) (m06 : T 0 6 = M 0 6) (m07 : T 0 7 = M 0 7) (m9 : T 9 = M 9) (m10 : T 10 = M 10) (m11 : T 11 = M 11) (m12 : T 12 = M 12) (m13 : T 13 = M 13) (k38 : D 38 = C 38) (k39 : D 39 = C 39) (k40 : D 40 = C 40) : RE T D := by
  unfold RE
  rw [m06, m07, m9, m10, m11, m12, m13, k38, k39, k40]
  exact h
theorem RF.of {n : Nat} {M C T D : Nat → Nat → Nat} (h : RF n M C) (m14 : T 14 = M 14) (m15 : T 15 = M 15) (m16 : T 16 = M 16) (m17 : T 17 = M 17) (m18 : T 18 = M 18) (k : ∀ r, r < n → ∀ j, j ≤ 4 → D (3 * r + 44) j = C (3 * r + 44) j) : RF n T D := by
  intro r hr
  rw [m14, m15, m16, m17, m18, k r hr 0 (by decide), k r hr 1 (by decide), k r hr 2 (by decide), k r hr 3 (by decide), k r hr 4 (by decide)]
  exact h r hr
theorem RH.of {n : Nat} {M C T D : Nat → Nat → Nat} (h : RH n M C) (m20 : T 20 = M 20) (m21 : T 21 = M 21) (k1 : ∀ r, r < n → D (3 * r + 45) = C (3 * r + 45)) (k2 : ∀ r, r < n → D (3 * r + 46) = C (3 * r + 46)) : RH n T D := by
  intro r hr
  rw [m20, m21, k1 r hr, k2 r hr]
  exact h r hr
/-- one of a replica's five numbers, on both sides -/
theorem Rl.sc {n : Nat} {M C : Nat → Nat → Nat} {r v k j : Nat} (h : Rl n M C) (hr : r < n) (hkj : (k = 14 ∧ j = 0) ∨ (k = 15 ∧ j = 1) ∨ (k = 16 ∧ j = 2) ∨ (k = 17 ∧ j = 3) ∨ (k = 18 ∧ j = 4)) : Rl n (up2 M k r v) (up2 C (3 * r + 44) j v) := by
  have hk : 14 ≤ k ∧ k ≤ 18 := by omega
  have hj : j ≤ 4 := by omega
  have m : ∀ row, row < 14 ∨ 18 < row → up2 M k r v row = M row := fun row a => up2_ne _ _ _ (by omega)
  have c : ∀ row, (∀ q, row ≠ 3 * q + 44) → up2 C (3 * r + 44) j v row = C row := fun row a => up2_ne _ _ _ (a r)
  have ca : ∀ q i, up2 C (3 * r + 44) j v (3 * q + 44) i = if q = r ∧ i = j then v else C (3 * q + 44) i := fun q i => by
    rw [up2_at]
    by_cases hq : q = r
    · subst hq
      simp
    · rw [if_neg (by omega), if_neg (fun z => hq z.1)]
  have hh := h
  obtain ⟨ra, rb, rc, rd, re, rf, rg, rh, ri⟩ := hh
  refine h.ofR (fun i _ => by rw [m 0 (by decide)]) (m 1 (by decide)) (m 2 (by decide)) (m 3 (by decide)) (m 4 (by decide)) (m 5 (by decide)) (m 6 (by decide)) (m 7 (by decide)) (m 8 (by decide)) (fun row a b => c row (fun q => by omega)) ?_ (fun q hq => ?_) (fun q hq => ?_) ?_ ?_
  · exact re.of (by rw [m 0 (by decide)]) (by rw [m 0 (by decide)]) (m 9 (by decide)) (m 10 (by decide)) (m 11 (by decide)) (m 12 (by decide)) (m 13 (by decide)) (c 38 (fun q => by omega)) (c 39 (fun q => by omega)) (c 40 (fun q => by omega))
  · obtain ⟨f0, f1, f2, f3, f4⟩ := rf q hq
    simp only [ca]
    simp only [up2_at]
    by_cases hqr : q = r
    · subst hqr
      rcases hkj with ⟨rfl, rfl⟩ | ⟨rfl, rfl⟩ | ⟨rfl, rfl⟩ | ⟨rfl, rfl⟩ | ⟨rfl, rfl⟩ <;> simp [f0, f1, f2, f3, f4]
    · simp [hqr, f0, f1, f2, f3, f4]
  · rw [ca, if_neg (by omega)]
  · exact rh.of (m 20 (by decide)) (m 21 (by decide)) (fun q _ => c _ (fun z => by omega)) (fun q _ => c _ (fun z => by omega))
  · refine ri.of (by rw [m 0 (by decide)]) (m 5 (by decide)) (m 6 (by decide)) (m 19 (by decide)) (fun q hq => ?_)
    rw [ca, ca, ca, if_neg (by omega), if_neg (by omega), if_neg (by omega)]
    exact ⟨rfl, rfl, rfl⟩
theorem Rl.got {n : Nat} {M C : Nat → Nat → Nat} {r b w : Nat} (h : Rl n M C) (hr : r < n) (hb : b < 40) : Rl n (up2 M 20 (40 * r + b) w) (up2 C (3 * r + 45) b w) := by
  have c : ∀ row, row ≠ 3 * r + 45 → up2 C (3 * r + 45) b w row = C row := fun row a => up2_ne _ _ _ a
  have hh := h
  obtain ⟨ra, rb, rc, rd, re, rf, rg, rh, ri⟩ := hh
  refine h.ofR (fun i _ => rfl) rfl rfl rfl rfl rfl rfl rfl rfl (fun row a b => c row (by omega)) ?_ ?_ (fun q hq => by rw [c _ (by omega)]) (fun q hq => ⟨fun d hd => ?_, fun x hx => ?_⟩) ?_
  · exact re.of rfl rfl rfl rfl rfl rfl rfl (c 38 (by omega)) (c 39 (by omega)) (c 40 (by omega))
  · exact rf.of rfl rfl rfl rfl rfl (fun q _ i _ => by rw [c _ (by omega)])
  · have := (rh q hq).1 d hd
    rw [up2_at, up2_at]
    by_cases he : 40 * q + d = 40 * r + b
    · rw [if_pos ⟨by omega, by omega⟩, if_pos ⟨rfl, he⟩]
    · rw [if_neg (by omega), if_neg (by omega)]
      exact this
  · rw [c _ (by omega)]
    exact (rh q hq).2 x hx
  · exact ri.of rfl rfl rfl rfl (fun q _ => by rw [c _ (by omega)]; exact ⟨rfl, rfl, rfl⟩)
theorem Rl.claim {n : Nat} {M C : Nat → Nat → Nat} {r x w : Nat} (h : Rl n M C) (hn : n ≤ 7) (hr : r < n) (hx : x < n) : Rl n (up2 M 21 (7 * r + x) w) (up2 C (3 * r + 46) x w) := by
  have c : ∀ row, row ≠ 3 * r + 46 → up2 C (3 * r + 46) x w row = C row := fun row a => up2_ne _ _ _ a
  have hh := h
  obtain ⟨ra, rb, rc, rd, re, rf, rg, rh, ri⟩ := hh
  refine h.ofR (fun i _ => rfl) rfl rfl rfl rfl rfl rfl rfl rfl (fun row a b => c row (by omega)) ?_ ?_ (fun q hq => by rw [c _ (by omega)]) (fun q hq => ⟨fun d hd => ?_, fun y hy => ?_⟩) ?_
  · exact re.of rfl rfl rfl rfl rfl rfl rfl (c 38 (by omega)) (c 39 (by omega)) (c 40 (by omega))
  · exact rf.of rfl rfl rfl rfl rfl (fun q _ i _ => by rw [c _ (by omega)])
  · rw [c _ (by omega)]
    exact (rh q hq).1 d hd
  · have := (rh q hq).2 y hy
    rw [up2_at, up2_at]
    by_cases he : 7 * q + y = 7 * r + x
    · rw [if_pos ⟨by omega, by omega⟩, if_pos ⟨rfl, he⟩]
    · rw [if_neg (by omega), if_neg (by omega)]
      exact this
  · exact ri.of rfl rfl rfl rfl (fun q _ => by rw [c _ (by omega)]; exact ⟨rfl, rfl, rfl⟩)
theorem Rl.votedFor {n : Nat} {M C : Nat → Nat → Nat} {b w : Nat} (h : Rl n M C) : Rl n (up2 M 8 b w) (up2 C 35 b w) := by
  have c : ∀ row, row ≠ 35 → up2 C 35 b w row = C row := fun row a => up2_ne _ _ _ a
  have hh := h
  obtain ⟨ra, rb, rc, rd, re, rf, rg, rh, ri⟩ := hh
  refine h.ofR8 (fun i _ => rfl) rfl rfl rfl rfl rfl rfl rfl ?_ (fun row _ _ a => c row a) ?_ ?_ (fun q hq => by rw [c _ (by omega)]) ?_ ?_
  · rw [up2_row, up2_row, rc.2.2.2.2]
  · exact re.of rfl rfl rfl rfl rfl rfl rfl rfl rfl rfl
  · exact rf.of rfl rfl rfl rfl rfl (fun q _ i _ => by rw [c _ (by omega)])
  · exact rh.of rfl rfl (fun q _ => c _ (by omega)) (fun q _ => c _ (by omega))
  · exact ri.of rfl rfl rfl rfl (fun q _ => by rw [c _ (by omega)]; exact ⟨rfl, rfl, rfl⟩)
theorem Rl.send {n : Nat} {M C : Nat → Nat → Nat} {k x to b v : Nat} (h : Rl n M C) : Rl n (mSend M k x to b v) (cSend C k to x b v) := by
  have hh := h
  obtain ⟨ra, rb, rc, rd, re, rf, rg, rh, ri⟩ := hh
  unfold mSend cSend
  rw [re.1]
  split
  · have c : ∀ row, row ≠ 38 → up2 C 38 1 (C 38 1 + 1) row = C row := fun row a => up2_ne _ _ _ a
    refine h.ofR (fun i hi => by rw [up2_at, if_neg (by omega)]) rfl rfl rfl rfl rfl rfl rfl rfl (fun row a b => c row (by omega)) ⟨re.1, ?_, re.2.2⟩ ?_ (fun q hq => by rw [c _ (by omega)]) ?_ ?_
    · show C 38 1 + 1 = M 0 7 + 1
      rw [re.2.1]
    · exact rf.of rfl rfl rfl rfl rfl (fun q _ i _ => by rw [c _ (by omega)])
    · exact rh.of rfl rfl (fun q _ => c _ (by omega)) (fun q _ => c _ (by omega))
    · exact ri.of rfl rfl rfl rfl (fun q _ => by rw [c _ (by omega)]; exact ⟨rfl, rfl, rfl⟩)
  · have c : ∀ row, row < 38 ∨ 40 < row → up2 (up2 (up2 C 39 (M 0 6) (k + 4 * to + 32 * x + 256 * b)) 40 (M 0 6) v) 38 0 (M 0 6 + 1) row = C row := fun row a => by
      rw [up2_ne _ _ _ (by omega), up2_ne _ _ _ (by omega), up2_ne _ _ _ (by omega)]
    refine h.ofR (fun i hi => by rw [up2_at, if_neg (by omega)]; rfl) rfl rfl rfl rfl rfl rfl rfl rfl (fun row a b => c row (by omega)) ⟨rfl, re.2.1, fun i hi => ?_⟩ ?_ (fun q hq => by rw [c _ (by omega)]) ?_ ?_
    · have hi' : i < M 0 6 + 1 := hi
      by_cases hm : i = M 0 6
      · subst hm
        simp [up2_at]
      · obtain ⟨e1, e2⟩ := re.2.2 i (by omega)
        simp [up2_at, hm, e1, e2]
    · exact rf.of rfl rfl rfl rfl rfl (fun q _ i _ => by rw [c _ (by omega)])
    · exact rh.of rfl rfl (fun q _ => c _ (by omega)) (fun q _ => c _ (by omega))
    · exact ri.of rfl rfl rfl rfl (fun q _ => by rw [c _ (by omega)]; exact ⟨rfl, rfl, rfl⟩)
theorem Rl.take {n : Nat} {M C : Nat → Nat → Nat} {i : Nat} (h : Rl n M C) (hi : i < M 0 6) : Rl n (mTake M i) (cRem C i) := by
  have er : ∀ row, row ≠ 0 → (row < 9 ∨ 13 < row) → mTake M i row = M row := fun row a b => funext (fun x => by rw [mTake_at, if_neg (by omega), if_neg (by omega)])
  have c : ∀ row, row < 38 ∨ 40 < row → cRem C i row = C row := fun row a => cRem_ne (by omega) (by omega) (by omega)
  have hh := h
  obtain ⟨ra, rb, rc, rd, re, rf, rg, rh, ri⟩ := hh
  refine h.ofR (fun j hj => mTake_0 (by omega)) (er 1 (by decide) (by decide)) (er 2 (by decide) (by decide)) (er 3 (by decide) (by decide)) (er 4 (by decide) (by decide)) (er 5 (by decide) (by decide)) (er 6 (by decide) (by decide)) (er 7 (by decide) (by decide)) (er 8 (by decide) (by decide)) (fun row a b => c row (by omega)) ⟨?_, ?_, fun j hj => ?_⟩ ?_ (fun q hq => by rw [c _ (by omega)]) ?_ ?_
  · rw [mTake_at, if_neg (by omega), if_pos ⟨rfl, rfl⟩, ← re.1]
    rfl
  · rw [mTake_0 (by decide), ← re.2.1]
    rfl
  · rw [mTake_at, if_neg (by omega), if_pos ⟨rfl, rfl⟩] at hj
    have e39 : cRem C i 39 j = va_cpy (C 39) (C 39) (i + 1) i (C 38 0 - 1 - i) j := rfl
    have e40 : cRem C i 40 j = va_cpy (C 40) (C 40) (i + 1) i (C 38 0 - 1 - i) j := rfl
    rw [e39, e40, re.1]
    unfold va_cpy
    simp only [mTake_at]
    by_cases hc : i ≤ j ∧ j < i + (M 0 6 - 1 - i)
    · rw [if_pos hc, if_pos hc]
      obtain ⟨e1, e2⟩ := re.2.2 (j + 1) (by omega)
      rw [show i + 1 + (j - i) = j + 1 by omega, e1, e2]
      simp [hc]
    · rw [if_neg hc, if_neg hc]
      obtain ⟨e1, e2⟩ := re.2.2 j (by omega)
      rw [e1, e2]
      simp [hc]
  · exact rf.of (er 14 (by decide) (by decide)) (er 15 (by decide) (by decide)) (er 16 (by decide) (by decide)) (er 17 (by decide) (by decide)) (er 18 (by decide) (by decide)) (fun q _ j _ => by rw [c _ (by omega)])
  · exact rh.of (er 20 (by decide) (by decide)) (er 21 (by decide) (by decide)) (fun q _ => c _ (by omega)) (fun q _ => c _ (by omega))
  · exact ri.of (mTake_0 (by decide)) (er 5 (by decide) (by decide)) (er 6 (by decide) (by decide)) (er 19 (by decide) (by decide)) (fun q _ => by rw [c _ (by omega)]; exact ⟨rfl, rfl, rfl⟩)
