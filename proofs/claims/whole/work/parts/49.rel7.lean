theorem Rl.newBlock {V n : Nat} {M C : Nat → Nat → Nat} {v p set : Nat} (hI : IW V M) (hS : SV M) (h : Rl n M C) (hb : M 0 5 < 40) (hp : p < M 0 5) : Rl n (mNewBlock M v p set) (cAdd C p v set) := by
  have hbl := hI.b
  have hn := hI.n
  obtain ⟨ra, rb, rc, rd, re, rf, rg, rh, ri⟩ := h
  obtain ⟨c1, c2, c3, c4, c5⟩ := rc
  generalize hT : mNewBlock M v p set = T
  generalize hD : cAdd C p v set = D
  have t05 : T 0 5 = M 0 5 + 1 := by rw [← hT]; rfl
  have t0 : ∀ j, j ≠ 5 → T 0 j = M 0 j := fun j hj => by rw [← hT]; unfold mNewBlock; simp [up2_at, hj]
  have t5 : ∀ c, T 5 c = if c = M 0 5 then v else M 5 c := fun c => by rw [← hT]; unfold mNewBlock; simp [up2_at]
  have t6 : ∀ c, T 6 c = if c = M 0 5 then p else M 6 c := fun c => by rw [← hT]; unfold mNewBlock; simp [up2_at]
  have t7 : ∀ c, T 7 c = if c = M 0 5 then set else M 7 c := fun c => by rw [← hT]; unfold mNewBlock; simp [up2_at]
  have tr : ∀ row, row ≠ 0 → row ≠ 5 → row ≠ 6 → row ≠ 7 → T row = M row := fun row a b c d => by
    rw [← hT]
    unfold mNewBlock
    rw [up2_ne _ _ _ a, up2_ne _ _ _ d, up2_ne _ _ _ c, up2_ne _ _ _ b]
  have d31 : D 31 0 = M 0 5 + 1 := by rw [← hD]; unfold cAdd; rw [c1]; rfl
  have d32 : ∀ c, D 32 c = if c = M 0 5 then v else C 32 c := fun c => by rw [← hD]; unfold cAdd; rw [c1]; simp [up2_at]
  have d33 : ∀ c, D 33 c = if c = M 0 5 then p else C 33 c := fun c => by rw [← hD]; unfold cAdd; rw [c1]; simp [up2_at]
  have d34 : ∀ c, D 34 c = if c = M 0 5 then set else C 34 c := fun c => by rw [← hD]; unfold cAdd; rw [c1]; simp [up2_at]
  have d36 : ∀ c, D 36 c = if c = M 0 5 then C 36 p ||| set else C 36 c := fun c => by rw [← hD]; unfold cAdd; rw [c1]; simp [up2_at]
  have d37 : ∀ c, D 37 c = if c = M 0 5 then C 37 p ||| 1 * 2 ^ M 0 5 else C 37 c := fun c => by rw [← hD]; unfold cAdd; rw [c1]; simp [up2_at]
  have dr : ∀ row, row ≠ 31 → row ≠ 32 → row ≠ 33 → row ≠ 34 → row ≠ 36 → row ≠ 37 → D row = C row := fun row a b c d e f => by
    rw [← hD]
    unfold cAdd
    rw [up2_ne _ _ _ a, up2_ne _ _ _ f, up2_ne _ _ _ e, up2_ne _ _ _ d, up2_ne _ _ _ c, up2_ne _ _ _ b]
  have par : ParOk M (M 0 5) := hS.par
  have parT : ParOk T (M 0 5) := ⟨by rw [t6, if_neg (by omega)]; exact par.1, fun b b1 b2 => by rw [t6, if_neg (by omega)]; exact par.2 b b1 b2⟩
  have parT' : ParOk T (M 0 5 + 1) := ⟨parT.1, fun b b1 b2 => by
    by_cases he : b = M 0 5
    · rw [t6, if_pos he]
      omega
    · exact parT.2 b b1 (by omega)⟩
  have anco : ∀ a b, b < M 0 5 → anc T a b = anc M a b := fun a b hb' => anc_congr par parT hbl.2 (fun x hx => by rw [t6, if_neg (by omega)]) b hb'
  have ancn : ∀ a, anc T a (M 0 5) = (decide (M 0 5 = a) || anc M a p) := fun a => by
    rw [anc_step parT' (by omega) (by omega) (by omega), t6, if_pos rfl, anco a p hp]
  have sawn : ∀ q, q < n → ¬ sawP M q (M 0 5) := fun q hq hs => by
    have := (hS.2.2.2.1 q (M 0 5) (by have := ra.2.2.2.2; omega) hb hs).1
    omega
  refine ⟨?_, ?_, ⟨?_, ?_, ?_, ?_, ?_⟩, fun b hb' => ?_, ?_, ?_, fun q hq t => ?_, ?_, fun q hq => ?_⟩
  · unfold RA
    rw [dr 25 (by decide) (by decide) (by decide) (by decide) (by decide) (by decide), t0 0 (by decide), t0 1 (by decide), t0 2 (by decide), t0 3 (by decide)]
    exact ra
  · unfold RB
    rw [dr 27 (by decide) (by decide) (by decide) (by decide) (by decide) (by decide), dr 28 (by decide) (by decide) (by decide) (by decide) (by decide) (by decide), dr 29 (by decide) (by decide) (by decide) (by decide) (by decide) (by decide), dr 30 (by decide) (by decide) (by decide) (by decide) (by decide) (by decide), t0 4 (by decide), tr 2 (by decide) (by decide) (by decide) (by decide), tr 3 (by decide) (by decide) (by decide) (by decide), tr 4 (by decide) (by decide) (by decide) (by decide)]
    exact rb
  · rw [d31, t05]
  · funext c
    rw [d32, t5, c2]
  · funext c
    rw [d33, t6, c3]
  · funext c
    rw [d34, t7, c4]
  · rw [dr 35 (by decide) (by decide) (by decide) (by decide) (by decide) (by decide), tr 8 (by decide) (by decide) (by decide) (by decide), c5]
  · rw [t05] at hb'
    by_cases he : b = M 0 5
    · subst he
      obtain ⟨e1, e2⟩ := rd p hp
      refine ⟨fun a ha => ?_, fun t => ?_⟩
      · rw [d37, if_pos rfl, or_bit, ancn, e1 a ha, Bool.or_eq_true, decide_eq_true_iff]
        exact Or.comm
      · rw [d36, if_pos rfl, bt_or1, e2 t]
        constructor
        · rintro (⟨a, a1, a2, a3⟩ | hs)
          · have hle := anc_le par hbl.2 p hp a2
            exact ⟨a, a1, by rw [ancn, a2, Bool.or_true], by rw [t7, if_neg (by omega)]; exact a3⟩
          · exact ⟨M 0 5, hb, by rw [ancn, decide_eq_true rfl, Bool.true_or], by rw [t7, if_pos rfl]; exact hs⟩
        · rintro ⟨a, a1, a2, a3⟩
          rw [ancn, Bool.or_eq_true, decide_eq_true_iff] at a2
          rcases a2 with rfl | a2
          · rw [t7, if_pos rfl] at a3
            exact Or.inr a3
          · have hle := anc_le par hbl.2 p hp a2
            rw [t7, if_neg (by omega)] at a3
            exact Or.inl ⟨a, a1, a2, a3⟩
    · have hlt : b < M 0 5 := by omega
      obtain ⟨e1, e2⟩ := rd b hlt
      refine ⟨fun a ha => ?_, fun t => ?_⟩
      · rw [d37, if_neg he, anco a b hlt]
        exact e1 a ha
      · rw [d36, if_neg he, e2 t]
        constructor
        · rintro ⟨a, a1, a2, a3⟩
          have hle := anc_le par hbl.2 b hlt a2
          exact ⟨a, a1, by rw [anco a b hlt]; exact a2, by rw [t7, if_neg (by omega)]; exact a3⟩
        · rintro ⟨a, a1, a2, a3⟩
          rw [anco a b hlt] at a2
          have hle := anc_le par hbl.2 b hlt a2
          rw [t7, if_neg (by omega)] at a3
          exact ⟨a, a1, a2, a3⟩
  · exact re.of (t0 6 (by decide)) (t0 7 (by decide)) (tr 9 (by decide) (by decide) (by decide) (by decide)) (tr 10 (by decide) (by decide) (by decide) (by decide)) (tr 11 (by decide) (by decide) (by decide) (by decide)) (tr 12 (by decide) (by decide) (by decide) (by decide)) (tr 13 (by decide) (by decide) (by decide) (by decide)) (dr 38 (by decide) (by decide) (by decide) (by decide) (by decide) (by decide)) (dr 39 (by decide) (by decide) (by decide) (by decide) (by decide) (by decide)) (dr 40 (by decide) (by decide) (by decide) (by decide) (by decide) (by decide))
  · exact rf.of (tr 14 (by decide) (by decide) (by decide) (by decide)) (tr 15 (by decide) (by decide) (by decide) (by decide)) (tr 16 (by decide) (by decide) (by decide) (by decide)) (tr 17 (by decide) (by decide) (by decide) (by decide)) (tr 18 (by decide) (by decide) (by decide) (by decide)) (fun q _ i _ => by rw [dr _ (by omega) (by omega) (by omega) (by omega) (by omega) (by omega)])
  · rw [dr _ (by omega) (by omega) (by omega) (by omega) (by omega) (by omega), t0 4 (by decide), tr 1 (by decide) (by decide) (by decide) (by decide)]
    exact rg q hq t
  · exact rh.of (tr 20 (by decide) (by decide) (by decide) (by decide)) (tr 21 (by decide) (by decide) (by decide) (by decide)) (fun q _ => dr _ (by omega) (by omega) (by omega) (by omega) (by omega) (by omega)) (fun q _ => dr _ (by omega) (by omega) (by omega) (by omega) (by omega) (by omega))
  · obtain ⟨i1, i2, i3⟩ := ri q hq
    rw [dr _ (by omega) (by omega) (by omega) (by omega) (by omega) (by omega)]
    have sw : ∀ b, sawP T q b ↔ sawP M q b := fun b => by
      unfold sawP
      rw [tr 19 (by decide) (by decide) (by decide) (by decide)]
    have back : ∀ b, 1 ≤ b → b < M 0 5 + 1 → sawP T q b → b < M 0 5 ∧ sawP M q b := fun b b1 b2 b3 => by
      have s := (sw b).mp b3
      by_cases he : b = M 0 5
      · subst he
        exact absurd s (sawn q hq)
      · exact ⟨by omega, s⟩
    have lo5 : ∀ b, b < M 0 5 → T 5 b = M 5 b := fun b hb' => by rw [t5, if_neg (by omega)]
    have lo6 : ∀ b, b < M 0 5 → T 6 b = M 6 b := fun b hb' => by rw [t6, if_neg (by omega)]
    have th : ∀ b, b < M 0 5 → (threeP T b ↔ threeP M b) := fun b hb' => by
      have p1 := par.lt hb'
      have p2 := par.lt p1
      unfold threeP
      rw [lo6 b hb', lo5 b hb', lo5 _ p1, lo6 _ p1, lo5 _ p2]
    unfold HiMax at i1
    unfold LoMax at i2
    unfold TiMax at i3
    unfold HiMax LoMax TiMax
    rw [t05]
    refine ⟨?_, ?_, ?_⟩
    · exact i1.same (by omega) back (fun b b1 b2 b3 => (sw b).mpr b3) (fun _ _ => rfl) (fun b hb' _ => lo5 b hb') (lo5 0 (by omega))
    · exact i2.same (by omega) back (fun b b1 b2 b3 => (sw b).mpr b3) (fun b hb' => lo6 b hb') (fun b hb' _ => lo5 _ (par.lt hb')) (lo5 0 (by omega))
    · refine i3.same (by omega) (fun b b1 b2 b3 => ?_) (fun b b1 b2 b3 => ⟨(sw b).mpr b3.1, (th b b2).mpr b3.2⟩) (fun b hb' => ?_) (fun b hb' _ => lo5 _ (par.lt (par.lt hb'))) (lo5 0 (by omega))
      · obtain ⟨k1, k2⟩ := back b b1 b2 b3.1
        exact ⟨k1, k2, (th b k1).mp b3.2⟩
      · show T 6 (T 6 b) = M 6 (M 6 b)
        rw [lo6 b hb', lo6 _ (par.lt hb')]
