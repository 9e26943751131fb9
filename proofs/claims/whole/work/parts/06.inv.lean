/-- what a place of the reference's rows may hold: V a bound of views, n replicas, bl blocks, cs the corrupt set -/
def cellOk (V n bl cs : Nat) (k j v : Nat) : Prop :=
  match k with
  | 1 => v < 128
  | 2 => v < 4
  | 3 => v < 4
  | 4 => v ≤ 1000
  | 5 => v + 1 ≤ V
  | 6 => v < 40
  | 7 => v < 16777216
  | 8 => v < 128
  | 9 => v ≤ 2
  | 10 => v < n
  | 11 => v < n
  | 12 => v < bl
  | 13 => v < 2147483648
  | 14 => v ≤ V ∧ (j < n → 1 ≤ v)
  | 15 => v ≤ V
  | 16 => v ≤ 32
  | 17 => v ≤ V
  | 18 => v ≤ V
  | 19 => v ≤ 1
  | 20 => v < 128
  | 21 => v < 2147483648 ∧ (j < 49 → cs / 2 ^ (j % 7) % 2 = 0 → v ≤ V)
  | 22 => v < 40
  | 24 => v ≤ 2
  | _ => True
def IW (V : Nat) (S : Nat → Nat → Nat) : Prop :=
  (S 0 0 = 1 ∨ S 0 0 = 2) ∧ S 0 1 = 3 * S 0 0 + 1 ∧ (4 ≤ S 0 2 ∧ S 0 2 ≤ 9) ∧ (S 0 3 < 128 ∧ S 0 3 < 2 ^ S 0 1 ∧ mSize (S 0 3) ≤ S 0 0) ∧ S 0 4 ≤ 24 ∧ (1 ≤ S 0 5 ∧ S 0 5 ≤ 40) ∧ S 0 6 ≤ 40 ∧ V ≤ 20000 ∧ ∀ k j, cellOk V (S 0 1) (S 0 5) (S 0 3) k j (S k j)
theorem IW.f {V : Nat} {S : Nat → Nat → Nat} (h : IW V S) : S 0 0 = 1 ∨ S 0 0 = 2 := h.1
theorem IW.n {V : Nat} {S : Nat → Nat → Nat} (h : IW V S) : S 0 1 = 3 * S 0 0 + 1 ∧ 4 ≤ S 0 1 ∧ S 0 1 ≤ 7 := by
  have h1 := h.1
  have h2 := h.2.1
  omega
theorem IW.k {V : Nat} {S : Nat → Nat → Nat} (h : IW V S) : 4 ≤ S 0 2 ∧ S 0 2 ≤ 9 := h.2.2.1
theorem IW.cs {V : Nat} {S : Nat → Nat → Nat} (h : IW V S) : S 0 3 < 128 := h.2.2.2.1.1
theorem IW.cq {V : Nat} {S : Nat → Nat → Nat} (h : IW V S) : S 0 3 < 2 ^ S 0 1 ∧ mSize (S 0 3) ≤ S 0 0 := h.2.2.2.1.2
theorem IW.t {V : Nat} {S : Nat → Nat → Nat} (h : IW V S) : S 0 4 ≤ 24 := h.2.2.2.2.1
theorem IW.b {V : Nat} {S : Nat → Nat → Nat} (h : IW V S) : 1 ≤ S 0 5 ∧ S 0 5 ≤ 40 := h.2.2.2.2.2.1
theorem IW.m {V : Nat} {S : Nat → Nat → Nat} (h : IW V S) : S 0 6 ≤ 40 := h.2.2.2.2.2.2.1
theorem IW.V {V : Nat} {S : Nat → Nat → Nat} (h : IW V S) : V ≤ 20000 := h.2.2.2.2.2.2.2.1
theorem IW.c {V : Nat} {S : Nat → Nat → Nat} (h : IW V S) (k j : Nat) : cellOk V (S 0 1) (S 0 5) (S 0 3) k j (S k j) := h.2.2.2.2.2.2.2.2 k j
theorem IW.up {V : Nat} {S : Nat → Nat → Nat} {k j v : Nat} (h : IW V S) (hk : k ≠ 0) (hv : cellOk V (S 0 1) (S 0 5) (S 0 3) k j v) : IW V (up2 S k j v) := by
  have e : up2 S k j v 0 = S 0 := up2_ne S j v (fun q => hk q.symm)
  unfold IW
  rw [e]
  refine ⟨h.1, h.2.1, h.2.2.1, h.2.2.2.1, h.2.2.2.2.1, h.2.2.2.2.2.1, h.2.2.2.2.2.2.1, h.2.2.2.2.2.2.2.1, fun k' j' => ?_⟩
  rw [up2_at]
  split
  · rename_i hh
    obtain ⟨rfl, rfl⟩ := hh
    exact hv
  · exact h.c k' j'
/-- one block more, one message more or less, one transfer more, one loss more -/
theorem IW.up0 {V : Nat} {S : Nat → Nat → Nat} {j v : Nat} (h : IW V S) (hj : 4 ≤ j) (h4 : j = 4 → v ≤ 24) (h5 : j = 5 → S 0 5 ≤ v ∧ v ≤ 40) (h6 : j = 6 → v ≤ 40) : IW V (up2 S 0 j v) := by
  have e : ∀ x, up2 S 0 j v 0 x = if x = j then v else S 0 x := fun x => by rw [up2_at]; simp
  have h1 := h.b
  have h2 := h.t
  have h3 := h.m
  unfold IW
  rw [e 0, e 1, e 2, e 3, e 4, e 5, e 6, if_neg (show ¬ 0 = j by omega), if_neg (show ¬ 1 = j by omega), if_neg (show ¬ 2 = j by omega), if_neg (show ¬ 3 = j by omega)]
  refine ⟨h.1, h.2.1, h.2.2.1, h.2.2.2.1, ?_, ?_, ?_, h.2.2.2.2.2.2.2.1, fun k' j' => ?_⟩
  · split
    · exact h4 (by omega)
    · exact h2
  · split
    · have := h5 (by omega)
      omega
    · exact h1
  · split
    · exact h6 (by omega)
    · exact h3
  · have hb : S 0 5 ≤ (if 5 = j then v else S 0 5) := by
      split
      · exact (h5 (by omega)).1
      · exact Nat.le_refl _
    have hc := h.c k' j'
    generalize (if 5 = j then v else S 0 5) = bl at hb
    rw [up2_at]
    split
    · rename_i hh
      obtain ⟨rfl, rfl⟩ := hh
      trivial
    · revert hc
      generalize S k' j' = w
      intro hc
      unfold cellOk at hc ⊢
      split at hc <;> first | exact hc | exact Nat.lt_of_lt_of_le hc hb
