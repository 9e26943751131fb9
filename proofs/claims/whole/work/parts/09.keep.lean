theorem IW.enter {V : Nat} {S : Nat → Nat → Nat} {r v : Nat} (h : IW V S) (h1 : 1 ≤ v) (h2 : v ≤ V) : IW V (mEnter S r v) := by
  unfold mEnter
  refine (h.up (k := 14) (by decide) ?_).up (k := 15) (by decide) ?_
  · show v ≤ V ∧ (_ → 1 ≤ v)
    exact ⟨h2, fun _ => h1⟩
  · show 0 ≤ V
    omega
theorem IW.see {V : Nat} {S : Nat → Nat → Nat} {r x : Nat} (h : IW V S) : IW V (mSee S r x) := by
  have h5 := (show S 5 x + 1 ≤ V from h.c 5 x)
  have h19 : IW V (up2 S 19 (40 * r + x) 1) := h.up (k := 19) (by decide) (show 1 ≤ 1 by decide)
  unfold mSee
  split
  · exact h19
  · exact (h19.enter (by omega) (by omega)).up (k := 16) (by decide) (show 2 ≤ 32 by decide)
theorem IW.send {V : Nat} {S : Nat → Nat → Nat} {a0 a1 a2 a3 a4 : Nat} (h : IW V S) (h0 : a0 ≤ 2) (h1 : a1 < S 0 1) (h2 : a2 < S 0 1) (h3 : a3 < S 0 5) (h4 : a4 < 2147483648) : IW V (mSend S a0 a1 a2 a3 a4) := by
  have hm := h.m
  unfold mSend
  split
  · exact h.up0 (by decide) (fun q => by omega) (fun q => by omega) (fun q => by omega)
  · exact (((((h.up (k := 9) (by decide) h0).up (k := 11) (by decide) h1).up (k := 10) (by decide) h2).up (k := 12) (by decide) h3).up (k := 13) (by decide) h4).up0 (by decide) (fun q => by omega) (fun q => by omega) (fun q => by omega)
theorem IW.newBlock {V : Nat} {S : Nat → Nat → Nat} {v p0 set : Nat} (h : IW V S) (hb : S 0 5 < 40) (hv : v + 1 ≤ V) (hp : p0 < 40) (hs : set < 16777216) : IW V (mNewBlock S v p0 set) := by
  unfold mNewBlock
  refine (((h.up (k := 5) (by decide) hv).up (k := 6) (by decide) hp).up (k := 7) (by decide) hs).up0 (by decide) (fun q => by omega) (fun _ => ?_) (fun q => by omega)
  show S 0 5 ≤ S 0 5 + 1 ∧ S 0 5 + 1 ≤ 40
  omega
theorem IW.takeF {V : Nat} {S : Nat → Nat → Nat} {j : Nat} (h : IW V S) : IW V (mTakeF j S) := by
  unfold mTakeF
  exact ((((h.up (k := 9) (j := j) (by decide) (show S 9 (j + 1) ≤ 2 from h.c 9 (j + 1))).up (k := 11) (j := j) (by decide) (show S 11 (j + 1) < S 0 1 from h.c 11 (j + 1))).up (k := 10) (j := j) (by decide) (show S 10 (j + 1) < S 0 1 from h.c 10 (j + 1))).up (k := 12) (j := j) (by decide) (show S 12 (j + 1) < S 0 5 from h.c 12 (j + 1))).up (k := 13) (j := j) (by decide) (show S 13 (j + 1) < 2147483648 from h.c 13 (j + 1))
theorem IW.takes {V : Nat} {S : Nat → Nat → Nat} (h : IW V S) (i : Nat) : ∀ k, IW V (itr mTakeF i S k)
  | 0 => h
  | k + 1 => (IW.takes h i k).takeF
theorem IW.take {V : Nat} {S : Nat → Nat → Nat} {i : Nat} (h : IW V S) : IW V (mTake S i) := by
  have hm := h.m
  exact IW.takes (h.up0 (by decide) (fun q => by omega) (fun q => by omega) (fun _ => by omega)) i _
theorem IW.mono {V W : Nat} {S : Nat → Nat → Nat} (h : IW V S) (h1 : V ≤ W) (h2 : W ≤ 20000) : IW W S := by
  refine ⟨h.1, h.2.1, h.2.2.1, h.2.2.2.1, h.2.2.2.2.1, h.2.2.2.2.2.1, h.2.2.2.2.2.2.1, h2, fun k j => ?_⟩
  have hc := h.c k j
  revert hc
  generalize S k j = w
  intro hc
  unfold cellOk at hc ⊢
  split at hc <;> first | exact hc | exact Nat.le_trans hc h1 | exact ⟨Nat.le_trans hc.1 h1, hc.2⟩ | exact ⟨hc.1, fun a b => Nat.le_trans (hc.2 a b) h1⟩
-- what takeOut leaves
theorem mTake_rows {S : Nat → Nat → Nat} {i : Nat} : ∀ k, (∀ row x, (row < 9 ∨ 13 < row) → itr mTakeF i S k row x = S row x) ∧ (∀ row x, 9 ≤ row → row ≤ 13 → itr mTakeF i S k row x = if i ≤ x ∧ x < i + k then S row (x + 1) else S row x)
  | 0 => ⟨fun _ _ _ => rfl, fun row x _ _ => by rw [if_neg (by omega)]; rfl⟩
  | k + 1 => by
    obtain ⟨h1, h2⟩ := mTake_rows (S := S) (i := i) k
    rw [itr_s]
    generalize itr mTakeF i S k = T at h1 h2
    have e : ∀ row x, mTakeF (i + k) T row x = if 9 ≤ row ∧ row ≤ 13 ∧ x = i + k then T row (i + k + 1) else T row x := by
      intro row x
      unfold mTakeF
      simp only [up2_at]
      by_cases hx : x = i + k
      · subst hx
        by_cases h9 : row = 9
        · subst h9; simp
        · by_cases h10 : row = 10
          · subst h10; simp
          · by_cases h11 : row = 11
            · subst h11; simp
            · by_cases h12 : row = 12
              · subst h12; simp
              · by_cases h13 : row = 13
                · subst h13; simp
                · rw [if_neg (show ¬ (9 ≤ row ∧ row ≤ 13 ∧ i + k = i + k) by omega)]
                  simp [h9, h10, h11, h12, h13]
      · rw [if_neg (show ¬ (9 ≤ row ∧ row ≤ 13 ∧ x = i + k) by omega)]
        simp [hx]
    refine ⟨fun row x hr => ?_, fun row x hr1 hr2 => ?_⟩
    · rw [e, if_neg (by omega)]
      exact h1 row x hr
    · rw [e]
      by_cases hx : x = i + k
      · rw [if_pos ⟨hr1, hr2, hx⟩, h2 row _ hr1 hr2, if_neg (by omega), if_pos (by omega), hx]
      · rw [if_neg (by omega), h2 row x hr1 hr2]
        by_cases hc : i ≤ x ∧ x < i + k
        · rw [if_pos hc, if_pos (by omega)]
        · rw [if_neg hc, if_neg (by omega)]
theorem mTake_at {S : Nat → Nat → Nat} {i : Nat} (row x : Nat) : mTake S i row x = if 9 ≤ row ∧ row ≤ 13 ∧ i ≤ x ∧ x < i + (S 0 6 - 1 - i) then S row (x + 1) else if row = 0 ∧ x = 6 then S 0 6 - 1 else S row x := by
  obtain ⟨h1, h2⟩ := mTake_rows (S := up2 S 0 6 (S 0 6 - 1)) (i := i) (S 0 6 - 1 - i)
  unfold mTake
  by_cases hr : 9 ≤ row ∧ row ≤ 13
  · rw [h2 row x hr.1 hr.2]
    by_cases hc : i ≤ x ∧ x < i + (S 0 6 - 1 - i)
    · rw [if_pos hc, if_pos ⟨hr.1, hr.2, hc⟩, up2_at, if_neg (by omega)]
    · rw [if_neg hc, if_neg (show ¬ (9 ≤ row ∧ row ≤ 13 ∧ i ≤ x ∧ x < i + (S 0 6 - 1 - i)) by omega), up2_at]
  · rw [h1 row x (by omega), if_neg (show ¬ (9 ≤ row ∧ row ≤ 13 ∧ i ≤ x ∧ x < i + (S 0 6 - 1 - i)) by omega), up2_at]
