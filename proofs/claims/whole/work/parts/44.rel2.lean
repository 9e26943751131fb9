-- class (rows 25 and on of C) beside reference (rows 0 to 24 of M)
def RA (n : Nat) (M C : Nat → Nat → Nat) : Prop := C 25 0 = M 0 1 ∧ C 25 1 = 2 * M 0 0 + 1 ∧ C 25 2 = M 0 2 ∧ C 25 3 = M 0 3 ∧ M 0 1 = n
def RB (M C : Nat → Nat → Nat) : Prop := C 27 0 = M 0 4 ∧ C 28 = M 2 ∧ C 29 = M 3 ∧ C 30 = M 4
def RC (M C : Nat → Nat → Nat) : Prop := C 31 0 = M 0 5 ∧ C 32 = M 5 ∧ C 33 = M 6 ∧ C 34 = M 7 ∧ C 35 = M 8
def RD (M C : Nat → Nat → Nat) : Prop := ∀ b, b < M 0 5 → (∀ a, a < 40 → (C 37 b / 2 ^ a % 2 = 1 ↔ anc M a b = true)) ∧ ∀ t, (C 36 b / 2 ^ t % 2 = 1 ↔ ∃ a, a < 40 ∧ anc M a b = true ∧ M 7 a / 2 ^ t % 2 = 1)
def RE (M C : Nat → Nat → Nat) : Prop := C 38 0 = M 0 6 ∧ C 38 1 = M 0 7 ∧ ∀ i, i < M 0 6 → C 39 i = M 9 i + 4 * M 10 i + 32 * M 11 i + 256 * M 12 i ∧ C 40 i = M 13 i
def RF (n : Nat) (M C : Nat → Nat → Nat) : Prop := ∀ r, r < n → C (3 * r + 44) 0 = M 14 r ∧ C (3 * r + 44) 1 = M 15 r ∧ C (3 * r + 44) 2 = M 16 r ∧ C (3 * r + 44) 3 = M 17 r ∧ C (3 * r + 44) 4 = M 18 r
def RG (n : Nat) (M C : Nat → Nat → Nat) : Prop := ∀ r, r < n → ∀ t, (C (3 * r + 44) 5 / 2 ^ t % 2 = 1 ↔ t < M 0 4 ∧ M 1 t / 2 ^ r % 2 = 1)
def RH (n : Nat) (M C : Nat → Nat → Nat) : Prop := ∀ r, r < n → (∀ b, b < 40 → C (3 * r + 45) b = M 20 (40 * r + b)) ∧ ∀ x, x < n → C (3 * r + 46) x = M 21 (7 * r + x)
def RI (n : Nat) (M C : Nat → Nat → Nat) : Prop := ∀ r, r < n → HiMax M r (C (3 * r + 44) 6) ∧ LoMax M r (C (3 * r + 44) 7) ∧ TiMax M r (C (3 * r + 44) 8)
def Rl (n : Nat) (M C : Nat → Nat → Nat) : Prop := RA n M C ∧ RB M C ∧ RC M C ∧ RD M C ∧ RE M C ∧ RF n M C ∧ RG n M C ∧ RH n M C ∧ RI n M C
theorem anc_of {M T : Nat → Nat → Nat} (h6 : T 6 = M 6) (a b : Nat) : anc T a b = anc M a b := by
  have key : ∀ f x, mInC T a f x = mInC M a f x := by
    intro f
    induction f with
    | zero => intro x; rfl
    | succ f ih =>
      intro x
      show (if x = a then true else if x = 0 then false else mInC T a f (T 6 x)) = (if x = a then true else if x = 0 then false else mInC M a f (M 6 x))
      rw [h6, ih]
  exact key 40 b
theorem RI.of {n : Nat} {M T C D : Nat → Nat → Nat} (h : RI n M C) (h05 : T 0 5 = M 0 5) (h5 : T 5 = M 5) (h6 : T 6 = M 6) (h19 : T 19 = M 19) (hD : ∀ r, r < n → D (3 * r + 44) 6 = C (3 * r + 44) 6 ∧ D (3 * r + 44) 7 = C (3 * r + 44) 7 ∧ D (3 * r + 44) 8 = C (3 * r + 44) 8) : RI n T D := by
  intro r hr
  obtain ⟨d1, d2, d3⟩ := hD r hr
  rw [d1, d2, d3]
  unfold HiMax LoMax TiMax sawP threeP
  rw [h05, h5, h6, h19]
  exact h r hr
-- entering a view, on both sides
theorem cEnter_at {C : Nat → Nat → Nat} {r v q j : Nat} : cEnter C r v (3 * q + 44) j = if q = r then (if j = 0 then v else if j = 1 then 0 else C (3 * q + 44) j) else C (3 * q + 44) j := by
  unfold cEnter
  simp only [up2_at]
  by_cases hq : q = r
  · subst hq
    by_cases h0 : j = 0
    · subst h0; simp
    · by_cases h1 : j = 1
      · subst h1; simp
      · simp [h0, h1]
  · rw [if_neg (by omega), if_neg (by omega), if_neg hq]
theorem mEnter_at {M : Nat → Nat → Nat} {r v k j : Nat} : mEnter M r v k j = if k = 14 ∧ j = r then v else if k = 15 ∧ j = r then 0 else M k j := by
  unfold mEnter
  simp only [up2_at]
  by_cases h15 : k = 15
  · subst h15
    by_cases hj : j = r
    · simp [hj]
    · simp [hj]
  · simp [h15]
theorem Rl.enter {n : Nat} {M C : Nat → Nat → Nat} {r v : Nat} (h : Rl n M C) (hr : r < n) : Rl n (mEnter M r v) (cEnter C r v) := by
  obtain ⟨a, b, c, d, e, f, g, hh, i⟩ := h
  have m : ∀ row, row ≠ 14 → row ≠ 15 → mEnter M r v row = M row := fun row x y => mEnter_ne x y
  have k : ∀ row, (∀ q, row ≠ 3 * q + 44) → cEnter C r v row = C row := fun row x => cEnter_ne (x r)
  have m0 := m 0 (by decide) (by decide)
  have m6 := m 6 (by decide) (by decide)
  refine ⟨?_, ?_, ?_, ?_, ?_, fun q hq => ?_, fun q hq t => ?_, fun q hq => ?_, ?_⟩
  · unfold RA
    rw [k 25 (fun q => by omega), m0]
    exact a
  · unfold RB
    rw [k 27 (fun q => by omega), k 28 (fun q => by omega), k 29 (fun q => by omega), k 30 (fun q => by omega), m0, m 2 (by decide) (by decide), m 3 (by decide) (by decide), m 4 (by decide) (by decide)]
    exact b
  · unfold RC
    rw [k 31 (fun q => by omega), k 32 (fun q => by omega), k 33 (fun q => by omega), k 34 (fun q => by omega), k 35 (fun q => by omega), m0, m 5 (by decide) (by decide), m6, m 7 (by decide) (by decide), m 8 (by decide) (by decide)]
    exact c
  · unfold RD
    rw [k 37 (fun q => by omega), k 36 (fun q => by omega), m0, m 7 (by decide) (by decide)]
    intro x hx
    obtain ⟨d1, d2⟩ := d x hx
    refine ⟨fun y hy => ?_, fun t => ?_⟩
    · rw [anc_of m6]
      exact d1 y hy
    · rw [d2 t]
      simp only [anc_of m6]
  · unfold RE
    rw [k 38 (fun q => by omega), k 39 (fun q => by omega), k 40 (fun q => by omega), m0, m 9 (by decide) (by decide), m 10 (by decide) (by decide), m 11 (by decide) (by decide), m 12 (by decide) (by decide), m 13 (by decide) (by decide)]
    exact e
  · obtain ⟨f0, f1, f2, f3, f4⟩ := f q hq
    simp only [cEnter_at, mEnter_at]
    by_cases hqr : q = r
    · subst hqr
      simp [f2, f3, f4]
    · simp [hqr, f0, f1, f2, f3, f4]
  · rw [m0, m 1 (by decide) (by decide), cEnter_at]
    have := g q hq t
    by_cases hqr : q = r
    · simpa [hqr] using this
    · simpa [hqr] using this
  · rw [k (3 * q + 45) (fun z => by omega), k (3 * q + 46) (fun z => by omega), m 20 (by decide) (by decide), m 21 (by decide) (by decide)]
    exact hh q hq
  · refine i.of (by rw [m0]) (m 5 (by decide) (by decide)) m6 (m 19 (by decide) (by decide)) (fun q hq => ?_)
    simp only [cEnter_at]
    by_cases hqr : q = r <;> simp [hqr]
