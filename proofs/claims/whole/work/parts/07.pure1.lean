-- bits
theorem tb1 (a i : Nat) : a.testBit i = true ↔ a / 2 ^ i % 2 = 1 := by
  rw [Nat.testBit_eq_decide_div_mod_eq]
  exact decide_eq_true_iff
theorem bt01 (a i : Nat) : a / 2 ^ i % 2 = 0 ∨ a / 2 ^ i % 2 = 1 := Nat.mod_two_eq_zero_or_one _
theorem bt_or1 (a b i : Nat) : (a ||| b) / 2 ^ i % 2 = 1 ↔ a / 2 ^ i % 2 = 1 ∨ b / 2 ^ i % 2 = 1 := by
  rw [← tb1, ← tb1, ← tb1, Nat.testBit_or, Bool.or_eq_true]
theorem bt_and1 (a b i : Nat) : (a &&& b) / 2 ^ i % 2 = 1 ↔ a / 2 ^ i % 2 = 1 ∧ b / 2 ^ i % 2 = 1 := by
  rw [← tb1, ← tb1, ← tb1, Nat.testBit_and, Bool.and_eq_true]
theorem bt_pow1 (i j : Nat) : 2 ^ j / 2 ^ i % 2 = 1 ↔ j = i := by
  rw [← tb1, Nat.testBit_two_pow]
  exact decide_eq_true_iff
theorem bt_zero (i : Nat) : 0 / 2 ^ i % 2 = 0 := by rw [Nat.zero_div]
theorem bt_big {a k i : Nat} (h : a < 2 ^ k) (hi : k ≤ i) : a / 2 ^ i % 2 = 0 := by
  rw [Nat.div_eq_of_lt (Nat.lt_of_lt_of_le h (Nat.pow_le_pow_right (by decide) hi))]
theorem bt_ext {a b : Nat} (h : ∀ i, a / 2 ^ i % 2 = 1 ↔ b / 2 ^ i % 2 = 1) : a = b := by
  apply Nat.eq_of_testBit_eq
  intro i
  have h1 := h i
  rw [← tb1, ← tb1] at h1
  cases ha : a.testBit i <;> cases hb : b.testBit i <;> simp_all
theorem or_lt {a b k : Nat} (ha : a < 2 ^ k) (hb : b < 2 ^ k) : a ||| b < 2 ^ k := Nat.or_lt_two_pow ha hb
-- how many of seven
theorem mSize_eq (a : Nat) : mSize a = a / 2 ^ 0 % 2 + a / 2 ^ 1 % 2 + a / 2 ^ 2 % 2 + a / 2 ^ 3 % 2 + a / 2 ^ 4 % 2 + a / 2 ^ 5 % 2 + a / 2 ^ 6 % 2 := by
  simp only [mSize, itr, Nat.zero_add]
theorem mSize_le (a : Nat) : mSize a ≤ 7 := by
  rw [mSize_eq]
  have h0 := bt01 a 0
  have h1 := bt01 a 1
  have h2 := bt01 a 2
  have h3 := bt01 a 3
  have h4 := bt01 a 4
  have h5 := bt01 a 5
  have h6 := bt01 a 6
  omega
/-- two sets of more than two thirds, the corrupt ones counted to both, have a correct one in common -/
theorem quorum {A B C f n : Nat} (hn : n = 3 * f + 1) (hf : f = 1 ∨ f = 2) (hA : A < 2 ^ n) (hB : B < 2 ^ n) (hC : C < 2 ^ n) (hc : mSize C ≤ f) (h1 : 2 * f + 1 ≤ mSize (A ||| C)) (h2 : 2 * f + 1 ≤ mSize (B ||| C)) : ∃ r, r < n ∧ C / 2 ^ r % 2 = 0 ∧ A / 2 ^ r % 2 = 1 ∧ B / 2 ^ r % 2 = 1 := by
  apply Classical.byContradiction
  intro hno
  have key : ∀ i, (A ||| C) / 2 ^ i % 2 + (B ||| C) / 2 ^ i % 2 ≤ (if i < n then 1 else 0) + C / 2 ^ i % 2 := by
    intro i
    have a1 := bt_or1 A C i
    have b1 := bt_or1 B C i
    have a2 := bt01 (A ||| C) i
    have b2 := bt01 (B ||| C) i
    have a3 := bt01 A i
    have b3 := bt01 B i
    have c3 := bt01 C i
    by_cases hi : i < n
    · rw [if_pos hi]
      have hno' : ¬ (C / 2 ^ i % 2 = 0 ∧ A / 2 ^ i % 2 = 1 ∧ B / 2 ^ i % 2 = 1) := fun q => hno ⟨i, hi, q⟩
      omega
    · rw [if_neg hi]
      have a4 := bt_big hA (show n ≤ i by omega)
      have b4 := bt_big hB (show n ≤ i by omega)
      have c4 := bt_big hC (show n ≤ i by omega)
      omega
  rw [mSize_eq] at h1 h2 hc
  have k0 := key 0
  have k1 := key 1
  have k2 := key 2
  have k3 := key 3
  have k4 := key 4
  have k5 := key 5
  have k6 := key 6
  rcases hf with rfl | rfl
  · subst hn
    simp at k0 k1 k2 k3 k4 k5 k6 h1 h2 hc
    omega
  · subst hn
    simp at k0 k1 k2 k3 k4 k5 k6 h1 h2 hc
    omega
-- the greatest by w of those that P names, through g, first come
def amF (P : Nat → Prop) [DecidablePred P] (g w : Nat → Nat) (b best : Nat) : Nat := if P b ∧ w best < w (g b) then g b else best
theorem am_spec (P : Nat → Prop) [DecidablePred P] (g w : Nat → Nat) : ∀ N, (itr (amF P g w) 1 0 N = 0 ∨ ∃ b, 1 ≤ b ∧ b < 1 + N ∧ P b ∧ itr (amF P g w) 1 0 N = g b) ∧ (∀ b, 1 ≤ b → b < 1 + N → P b → w (g b) ≤ w (itr (amF P g w) 1 0 N)) ∧ w 0 ≤ w (itr (amF P g w) 1 0 N)
  | 0 => ⟨Or.inl rfl, fun b h1 h2 => by omega, Nat.le_refl _⟩
  | N + 1 => by
    obtain ⟨h1, h2, h3⟩ := am_spec P g w N
    rw [itr_s]
    generalize itr (amF P g w) 1 0 N = m at h1 h2 h3
    unfold amF
    by_cases hc : P (1 + N) ∧ w m < w (g (1 + N))
    · rw [if_pos hc]
      refine ⟨Or.inr ⟨1 + N, by omega, by omega, hc.1, rfl⟩, fun b hb1 hb2 hb3 => ?_, by omega⟩
      by_cases hb : b = 1 + N
      · rw [hb]
        exact Nat.le_refl _
      · have := h2 b hb1 (by omega) hb3
        omega
    · rw [if_neg hc]
      refine ⟨?_, fun b hb1 hb2 hb3 => ?_, h3⟩
      · rcases h1 with h1 | ⟨b, g1, g2, g3, g4⟩
        · exact Or.inl h1
        · exact Or.inr ⟨b, g1, by omega, g3, g4⟩
      · by_cases hb : b = 1 + N
        · subst hb
          have : ¬ w m < w (g (1 + N)) := fun q => hc ⟨hb3, q⟩
          omega
        · exact h2 b hb1 (by omega) hb3
