theorem cs_1 : ∀ b, b < 16 → mSize (cLeast b 1) ≤ 1 := by decide +kernel
theorem cs_2 : ∀ b, b < 128 → mSize (cLeast b 2) ≤ 2 := by decide +kernel
theorem cs_ok {f b : Nat} (hf : f = 1 ∨ f = 2) (hb : b < 2 ^ (3 * f + 1)) : cLeast b f < 128 ∧ cLeast b f < 2 ^ (3 * f + 1) ∧ mSize (cLeast b f) ≤ f := by
  have h1 : cLeast b f < 2 ^ (3 * f + 1) := Nat.lt_of_le_of_lt Nat.and_le_left hb
  rcases hf with rfl | rfl
  · have h2 : cLeast b 1 < 16 := h1
    exact ⟨by omega, h1, cs_1 b hb⟩
  · have h2 : cLeast b 2 < 128 := h1
    exact ⟨by omega, h1, cs_2 b hb⟩
theorem iw0 {f n k cs : Nat} (hf : f = 1 ∨ f = 2) (hn : n = 3 * f + 1) (hk : 4 ≤ k ∧ k ≤ 9) (hcs : cs < 128 ∧ cs < 2 ^ n ∧ mSize cs ≤ f) : IW 10000 (st0 f n k cs) := by
  refine ⟨hf, hn, hk, hcs, (show 0 ≤ 24 by decide), (show 1 ≤ 1 ∧ 1 ≤ 40 by decide), (show 0 ≤ 40 by decide), by decide, ?_⟩
  show ∀ k' j, cellOk 10000 n 1 cs k' j (st0 f n k cs k' j)
  intro k'
  by_cases h : k' < 25
  · revert k'
    refine i25 ?_ ?_ ?_ ?_ ?_ ?_ ?_ ?_ ?_ ?_ ?_ ?_ ?_ ?_ ?_ ?_ ?_ ?_ ?_ ?_ ?_ ?_ ?_ ?_ ?_
    · exact fun j => trivial
    · exact fun j => (by show 0 < 128; decide)
    · exact fun j => (by show 0 < 4; decide)
    · exact fun j => (by show 0 < 4; decide)
    · exact fun j => (by show 0 ≤ 1000; decide)
    · exact fun j => (by show 0 + 1 ≤ 10000; decide)
    · exact fun j => (by show 0 < 40; decide)
    · exact fun j => (by show 0 < 16777216; decide)
    · exact fun j => (by show 0 < 128; decide)
    · exact fun j => (by show 0 ≤ 2; decide)
    · exact fun j => (by show 0 < n; omega)
    · exact fun j => (by show 0 < n; omega)
    · exact fun j => (by show 0 < 1; decide)
    · exact fun j => (by show 0 < 2147483648; decide)
    · exact fun j => (by show (if j < n then 1 else 0) ≤ 10000 ∧ (j < n → 1 ≤ if j < n then 1 else 0); split <;> omega)
    · exact fun j => (by show 0 ≤ 10000; decide)
    · exact fun j => (by show (if j < n then 2 else 0) ≤ 32; split <;> omega)
    · exact fun j => (by show 0 ≤ 10000; decide)
    · exact fun j => (by show 0 ≤ 10000; decide)
    · exact fun j => (by show (if j % 40 = 0 ∧ j < 40 * n then 1 else 0) ≤ 1; split <;> omega)
    · exact fun j => (by show 0 < 128; decide)
    · exact fun j => (by show 0 < 2147483648 ∧ (j < 49 → cs / 2 ^ (j % 7) % 2 = 0 → 0 ≤ 10000); exact ⟨by decide, fun _ _ => by decide⟩)
    · exact fun j => (by show 0 < 40; decide)
    · exact fun j => trivial
    · exact fun j => (by show 0 ≤ 2; decide)
  · intro j
    unfold cellOk
    split <;> first | trivial | (exfalso; omega)
theorem sv0 {f n k cs : Nat} (hn : n = 3 * f + 1) : SV (st0 f n k cs) := by
  have z : ∀ x : Nat, ¬ 0 / 2 ^ x % 2 = 1 := fun x h => by rw [Nat.zero_div] at h; omega
  refine ⟨⟨rfl, rfl, fun b h1 h2 => ?_⟩, fun b r _ _ _ h => absurd h (z r), fun b c r _ _ _ _ h => absurd h (z r), fun r b hr hb h => ?_, fun r b x _ _ h => absurd h (z x), fun i hi => absurd hi (Nat.not_lt_zero i), fun b => Nat.pow_pos (by decide), fun b _ => rfl, fun b _ => ⟨rfl, rfl, rfl⟩⟩
  · have h2 : b < 1 := h2
    omega
  · have hr : r < n := hr
    have h : ¬ (if (40 * r + b) % 40 = 0 ∧ 40 * r + b < 40 * n then 1 else 0) = 0 := h
    have hb0 : b = 0 := by
      apply Classical.byContradiction
      intro q
      rw [if_neg (by omega)] at h
      exact h rfl
    subst hb0
    refine ⟨(show 0 < 1 by decide), by simp [mCert], ?_⟩
    show 0 < if r < n then 1 else 0
    rw [if_pos hr]
    decide
theorem rl0 {f n k cs : Nat} (hn : n = 3 * f + 1) : Rl n (st0 f n k cs) (st0 f n k cs) := by
  have z : ∀ x : Nat, ¬ 0 / 2 ^ x % 2 = 1 := fun x h => by rw [Nat.zero_div] at h; omega
  have e44 : ∀ r q, st0 f n k cs (3 * r + 44) q = (match q with | 0 => 1 | 2 => 2 | _ => 0) := fun r q => by rw [st0_hi (by omega)]; exact if_pos (by omega)
  have e45 : ∀ r q, st0 f n k cs (3 * r + 45) q = 0 := fun r q => by rw [st0_hi (by omega)]; exact if_neg (by omega)
  have e46 : ∀ r q, st0 f n k cs (3 * r + 46) q = 0 := fun r q => by rw [st0_hi (by omega)]; exact if_neg (by omega)
  refine ⟨⟨rfl, rfl, rfl, rfl, rfl⟩, ⟨rfl, rfl, rfl, rfl⟩, ⟨rfl, rfl, rfl, rfl, rfl⟩, fun b hb => ?_, ⟨rfl, rfl, fun i hi => absurd hi (Nat.not_lt_zero i)⟩, fun r hr => ?_, fun r hr t => ?_, fun r hr => ⟨fun b _ => ?_, fun x _ => ?_⟩, fun r hr => ?_⟩
  · have hb : b < 1 := hb
    have hb0 : b = 0 := by omega
    subst hb0
    refine ⟨fun a ha => ?_, fun t => ⟨fun h => absurd h (z t), fun h => ?_⟩⟩
    · rw [anc_0]
      show 1 / 2 ^ a % 2 = 1 ↔ decide (a = 0) = true
      rw [decide_eq_true_iff]
      by_cases h0 : a = 0
      · subst h0
        exact ⟨fun _ => rfl, fun _ => rfl⟩
      · have h1 : 1 / 2 ^ a = 0 := Nat.div_eq_of_lt (Nat.lt_of_lt_of_le (by decide : 1 < 2 ^ 1) (Nat.pow_le_pow_right (by decide) (by omega)))
        rw [h1]
        exact ⟨fun q => absurd q (by decide), fun q => absurd q h0⟩
    · obtain ⟨a, -, -, h⟩ := h
      exact absurd h (z t)
  · have h1 : (if r < n then 1 else 0) = 1 := if_pos hr
    have h2 : (if r < n then 2 else 0) = 2 := if_pos hr
    exact ⟨(e44 r 0).trans h1.symm, e44 r 1, (e44 r 2).trans h2.symm, e44 r 3, e44 r 4⟩
  · rw [e44]
    exact ⟨fun h => absurd h (z t), fun h => absurd h.1 (Nat.not_lt_zero t)⟩
  · exact e45 r b
  · exact e46 r x
  · rw [e44, e44, e44]
    have hz : ∀ (P : Nat → Prop) (g : Nat → Nat), AMax (st0 f n k cs 5) (st0 f n k cs 0 5) P g 0 := fun P g => ⟨Or.inl rfl, fun b h1 h2 => by
      have h2 : b < 1 := h2
      omega⟩
    exact ⟨hz _ _, hz _ _, hz _ _⟩
theorem ci0 {X : WX} {f n k cs : Nat} (hX : X.2.2.1 = n) (hf : f = 1 ∨ f = 2) (hn : n = 3 * f + 1) (hk : 4 ≤ k ∧ k ≤ 9) (hcs : cs < 128) : CI 10000 X (st0 f n k cs) := by
  unfold CI
  rw [hX]
  refine ⟨by omega, by decide, fun k' => ?_⟩
  by_cases h : k' < 25
  · revert k'
    refine i25 ?_ ?_ ?_ ?_ ?_ ?_ ?_ ?_ ?_ ?_ ?_ ?_ ?_ ?_ ?_ ?_ ?_ ?_ ?_ ?_ ?_ ?_ ?_ ?_ ?_ <;> exact fun j => trivial
  · by_cases h2 : k' < 44
    · intro j
      rcases (show k' = 25 ∨ k' = 26 ∨ k' = 27 ∨ k' = 28 ∨ k' = 29 ∨ k' = 30 ∨ k' = 31 ∨ k' = 32 ∨ k' = 33 ∨ k' = 34 ∨ k' = 35 ∨ k' = 36 ∨ k' = 37 ∨ k' = 38 ∨ k' = 39 ∨ k' = 40 ∨ k' = 41 ∨ k' = 42 ∨ k' = 43 by omega) with rfl | rfl | rfl | rfl | rfl | rfl | rfl | rfl | rfl | rfl | rfl | rfl | rfl | rfl | rfl | rfl | rfl | rfl | rfl
      · exact ⟨fun h => by subst h; rfl, fun h => by subst h; show 2 * f + 1 ≤ 7; omega, fun h => by subst h; exact hk, fun h => by subst h; exact hcs⟩
      · exact trivial
      · exact fun h => (by show 0 ≤ 24; decide)
      · exact (by show 0 < 4; decide)
      · exact (by show 0 < 4; decide)
      · exact (by show 0 ≤ 1000; decide)
      · exact fun h => by subst h; show 1 ≤ 1 ∧ 1 ≤ 40; decide
      · exact (by show 0 + 1 ≤ 10000; decide)
      · exact (by show 0 < 40; decide)
      · exact (by show 0 < 16777216; decide)
      · exact (by show 0 < 128; decide)
      · exact (by show 0 < 16777216; decide)
      · exact (by show (if j = 0 then 1 else 0) < 1099511627776; split <;> omega)
      · exact fun h => (by show 0 ≤ 40; decide)
      · exact (by show 0 < 10496 ∧ 0 / 4 % 8 < n ∧ 0 / 32 % 8 < n ∧ 0 / 256 < 40; omega)
      · exact (by show 0 < 2147483648; decide)
      · exact trivial
      · exact trivial
      · exact (by show 0 ≤ 2; decide)
    · intro j
      unfold cellC
      rw [if_neg h2, st0_hi (by omega)]
      by_cases h3 : (k' - 44) % 3 = 0
      · rw [if_pos h3]
        show cRp 10000 j (if (k' - 44) % 3 = 0 then (match j with | 0 => 1 | 2 => 2 | _ => 0) else 0)
        rw [if_pos h3]
        rcases (show j = 0 ∨ j = 1 ∨ j = 2 ∨ j = 3 ∨ j = 4 ∨ j = 5 ∨ j = 6 ∨ j = 7 ∨ j = 8 ∨ 9 ≤ j by omega) with rfl | rfl | rfl | rfl | rfl | rfl | rfl | rfl | rfl | h9
        · show 1 ≤ 1 ∧ 1 ≤ 10000
          decide
        · show 0 ≤ 10000
          decide
        · show 2 ≤ 32
          decide
        · show 0 ≤ 10000
          decide
        · show 0 ≤ 10000
          decide
        · show 0 < 16777216
          decide
        · show 0 < 40
          decide
        · show 0 < 40
          decide
        · show 0 < 40
          decide
        · unfold cRp
          split <;> first | trivial | (exfalso; omega)
      · rw [if_neg h3]
        show if (k' - 44) % 3 = 1 then (if (k' - 44) % 3 = 0 then (match j with | 0 => 1 | 2 => 2 | _ => 0) else 0) < 128 else (if (k' - 44) % 3 = 0 then (match j with | 0 => 1 | 2 => 2 | _ => 0) else 0) < 2147483648
        rw [if_neg h3]
        split <;> decide
theorem kv0 {X : WX} {f n k b : Nat} (hX : X.2.2.1 = n) (hf : f = 1 ∨ f = 2) (hn : n = 3 * f + 1) (hk : 4 ≤ k ∧ k ≤ 9) (hb : b < 2 ^ n) : KV 10000 X (st0 f n k (cLeast b f)) := by
  have hcs : cLeast b f < 128 ∧ cLeast b f < 2 ^ n ∧ mSize (cLeast b f) ≤ f := by
    have := cs_ok hf (show b < 2 ^ (3 * f + 1) by rw [← hn]; exact hb)
    rw [← hn] at this
    exact this
  refine ⟨⟨iw0 hf hn hk hcs, fun i _ => (show 0 ≤ 10000 by decide), sv0 hn, ?_⟩, ci0 hX hf hn hk hcs.1, Nat.le_refl _⟩
  rw [hX]
  exact rl0 hn
