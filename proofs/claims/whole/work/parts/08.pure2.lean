-- chains: every parent's number is smaller
def ParOk (S : Nat → Nat → Nat) (bl : Nat) : Prop := S 6 0 = 0 ∧ ∀ b, 1 ≤ b → b < bl → S 6 b < b
theorem mInC_fuel {S : Nat → Nat → Nat} {bl : Nat} (h : ParOk S bl) (a : Nat) : ∀ x, x < bl → ∀ f f', x ≤ f → x ≤ f' → mInC S a f x = mInC S a f' x := by
  intro x
  induction x using Nat.strongRecOn with
  | ind x ih =>
    intro hx f f' hf hf'
    by_cases h0 : x = 0
    · subst h0
      cases f <;> cases f' <;> simp [mInC] <;> (try omega)
    · obtain ⟨f, rfl⟩ : ∃ k, f = k + 1 := ⟨f - 1, by omega⟩
      obtain ⟨f', rfl⟩ : ∃ k, f' = k + 1 := ⟨f' - 1, by omega⟩
      have hp := h.2 x (by omega) hx
      show (if x = a then true else if x = 0 then false else mInC S a f (S 6 x)) = (if x = a then true else if x = 0 then false else mInC S a f' (S 6 x))
      rw [ih (S 6 x) hp (by omega) f f' (by omega) (by omega)]
/-- a is an ancestor of b, or b -/
def anc (S : Nat → Nat → Nat) (a b : Nat) : Bool := mInC S a 40 b
theorem anc_self {S : Nat → Nat → Nat} (a : Nat) : anc S a a = true := by
  show (if a = a then true else _) = true
  rw [if_pos rfl]
theorem anc_0 {S : Nat → Nat → Nat} {a : Nat} : anc S a 0 = decide (a = 0) := by
  show (if 0 = a then true else if 0 = 0 then false else _) = _
  by_cases h : a = 0
  · subst h
    simp
  · rw [if_neg (fun q => h q.symm), if_pos rfl]
    simp [h]
theorem anc_step {S : Nat → Nat → Nat} {bl : Nat} (h : ParOk S bl) {a b : Nat} (hb : b < bl) (hbl : bl ≤ 40) (h0 : b ≠ 0) : anc S a b = (decide (b = a) || anc S a (S 6 b)) := by
  have hp := h.2 b (by omega) hb
  show (if b = a then true else if b = 0 then false else mInC S a 39 (S 6 b)) = _
  rw [mInC_fuel h a (S 6 b) (by omega) 39 40 (by omega) (by omega)]
  by_cases ha : b = a
  · simp [ha]
  · rw [if_neg ha, if_neg h0]
    simp [ha, anc]
theorem anc_le {S : Nat → Nat → Nat} {bl : Nat} (h : ParOk S bl) (hbl : bl ≤ 40) {a : Nat} : ∀ b, b < bl → anc S a b = true → a ≤ b := by
  intro b
  induction b using Nat.strongRecOn with
  | ind b ih =>
    intro hb hc
    by_cases h0 : b = 0
    · subst h0
      rw [anc_0] at hc
      have := of_decide_eq_true hc
      omega
    · rw [anc_step h hb hbl h0] at hc
      have hp := h.2 b (by omega) hb
      rcases (Bool.or_eq_true _ _).mp hc with h1 | h1
      · have := of_decide_eq_true h1
        omega
      · have := ih (S 6 b) hp (by omega) h1
        omega
theorem anc_zero {S : Nat → Nat → Nat} {bl : Nat} (h : ParOk S bl) (hbl : bl ≤ 40) : ∀ b, b < bl → anc S 0 b = true := by
  intro b
  induction b using Nat.strongRecOn with
  | ind b ih =>
    intro hb
    by_cases h0 : b = 0
    · subst h0
      exact anc_self 0
    · have hp := h.2 b (by omega) hb
      rw [anc_step h hb hbl h0, ih (S 6 b) hp (by omega), Bool.or_true]
/-- the chain of b is the same where parents below b are the same -/
theorem anc_congr {S T : Nat → Nat → Nat} {bl : Nat} (h : ParOk S bl) (h' : ParOk T bl) (hbl : bl ≤ 40) (hT : ∀ x, x < bl → T 6 x = S 6 x) {a : Nat} : ∀ b, b < bl → anc T a b = anc S a b := by
  intro b
  induction b using Nat.strongRecOn with
  | ind b ih =>
    intro hb
    by_cases h0 : b = 0
    · subst h0
      rw [anc_0, anc_0]
    · have hp := h.2 b (by omega) hb
      rw [anc_step h hb hbl h0, anc_step h' hb hbl h0, hT b hb, ih (S 6 b) hp (by omega)]
