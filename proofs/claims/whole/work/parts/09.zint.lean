theorem i_0 : (0 : Int32).toInt = 0 := by decide
theorem i_lt0 {x : Int32} (h : x < 0) : x.toInt < 0 := by have := Int32.lt_iff_toInt_lt.mp h; rwa [i_0] at this
theorem i_nlt0 {x : Int32} (h : ¬ x < 0) : 0 ≤ x.toInt := by
  have : ¬ x.toInt < (0 : Int32).toInt := fun q => h (Int32.lt_iff_toInt_lt.mpr q)
  rw [i_0] at this
  omega
theorem i_ge0 {x : Int32} (h : 0 ≤ x) : 0 ≤ x.toInt := by have := Int32.le_iff_toInt_le.mp h; rwa [i_0] at this
theorem i_nge0 {x : Int32} (h : ¬ 0 ≤ x) : x.toInt < 0 := by
  have : ¬ (0 : Int32).toInt ≤ x.toInt := fun q => h (Int32.le_iff_toInt_le.mpr q)
  rw [i_0] at this
  omega
theorem i_eq0 {x : Int32} (h : x = 0) : x.toInt = 0 := by rw [h, i_0]
theorem i_ne0 {x : Int32} (h : ¬ x = 0) : ¬ x.toInt = 0 := fun q => h (Int32.toInt_inj.mp (by rw [q, i_0]))
theorem i_ltN {x : Int32} {k : Nat} (hk : k < 2 ^ 31) (h : x < nI k) : x.toInt < (k : Int) := by have := Int32.lt_iff_toInt_lt.mp h; rwa [nI_toInt hk] at this
theorem i_nltN {x : Int32} {k : Nat} (hk : k < 2 ^ 31) (h : ¬ x < nI k) : (k : Int) ≤ x.toInt := by
  have : ¬ x.toInt < (nI k).toInt := fun q => h (Int32.lt_iff_toInt_lt.mpr q)
  rw [nI_toInt hk] at this
  omega
theorem i_gtN {x : Int32} {k : Nat} (hk : k < 2 ^ 31) (h : nI k < x) : (k : Int) < x.toInt := by have := Int32.lt_iff_toInt_lt.mp h; rwa [nI_toInt hk] at this
theorem i_ngtN {x : Int32} {k : Nat} (hk : k < 2 ^ 31) (h : ¬ nI k < x) : x.toInt ≤ (k : Int) := by
  have : ¬ (nI k).toInt < x.toInt := fun q => h (Int32.lt_iff_toInt_lt.mpr q)
  rw [nI_toInt hk] at this
  omega
theorem i_leN {x : Int32} {k : Nat} (hk : k < 2 ^ 31) (h : x ≤ nI k) : x.toInt ≤ (k : Int) := by have := Int32.le_iff_toInt_le.mp h; rwa [nI_toInt hk] at this
theorem i_nleN {x : Int32} {k : Nat} (hk : k < 2 ^ 31) (h : ¬ x ≤ nI k) : (k : Int) < x.toInt := by
  have : ¬ x.toInt ≤ (nI k).toInt := fun q => h (Int32.le_iff_toInt_le.mpr q)
  rw [nI_toInt hk] at this
  omega
theorem i_geN {x : Int32} {k : Nat} (hk : k < 2 ^ 31) (h : nI k ≤ x) : (k : Int) ≤ x.toInt := by have := Int32.le_iff_toInt_le.mp h; rwa [nI_toInt hk] at this
theorem i_ngeN {x : Int32} {k : Nat} (hk : k < 2 ^ 31) (h : ¬ nI k ≤ x) : x.toInt < (k : Int) := by
  have : ¬ (nI k).toInt ≤ x.toInt := fun q => h (Int32.le_iff_toInt_le.mpr q)
  rw [nI_toInt hk] at this
  omega
theorem i_nat {x : Int32} (h : 0 ≤ x.toInt) : ∃ j : Nat, j < 2 ^ 31 ∧ x = nI j ∧ x.toInt = (j : Int) ∧ x.toNatClampNeg = j := by
  obtain ⟨j, hj, rfl⟩ := nI_of (x := x) (fun q => by have := i_lt0 q; omega)
  exact ⟨j, hj, rfl, nI_toInt hj, nI_clamp hj⟩
theorem mRep_iff {S : Nat → Nat → Nat} {r : Int32} : mRep S r = true ↔ 0 ≤ r.toInt ∧ r.toInt < (S 0 1 : Int) := by simp [mRep]
theorem mBlock_iff {S : Nat → Nat → Nat} {r : Int32} : mBlock S r = true ↔ 0 ≤ r.toInt ∧ r.toInt < (S 0 5 : Int) := by simp [mBlock]
theorem tab_out8 {x : Int32} (h0 : ¬ x = nI 0) (h1 : ¬ x = nI 1) (h2 : ¬ x = nI 2) (h3 : ¬ x = nI 3) (h4 : ¬ x = nI 4) (h5 : ¬ x = nI 5) (h6 : ¬ x = nI 6) (h7 : ¬ x = nI 7) (h8 : ¬ x = nI 8) : x.toInt < 0 ∨ 8 < x.toInt := by
  apply Classical.byContradiction
  intro h
  obtain ⟨j, hj, rfl, hjt, -⟩ := i_nat (x := x) (by omega)
  have hj8 : j ≤ 8 := by omega
  have : j = 0 ∨ j = 1 ∨ j = 2 ∨ j = 3 ∨ j = 4 ∨ j = 5 ∨ j = 6 ∨ j = 7 ∨ j = 8 := by omega
  rcases this with rfl | rfl | rfl | rfl | rfl | rfl | rfl | rfl | rfl <;> first | exact h0 rfl | exact h1 rfl | exact h2 rfl | exact h3 rfl | exact h4 rfl | exact h5 rfl | exact h6 rfl | exact h7 rfl | exact h8 rfl
