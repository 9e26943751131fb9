/-- m is 0 or g of one that P names, and none that P names has a later view -/
def AMax (w : Nat → Nat) (bl : Nat) (P : Nat → Prop) (g : Nat → Nat) (m : Nat) : Prop := (m = 0 ∨ ∃ b, 1 ≤ b ∧ b < bl ∧ P b ∧ m = g b) ∧ ∀ b, 1 ≤ b → b < bl → P b → w (g b) ≤ w m
theorem AMax.of_am {w : Nat → Nat} {bl : Nat} (hbl : 1 ≤ bl) (P : Nat → Prop) [DecidablePred P] (g : Nat → Nat) : AMax w bl P g (itr (amF P g w) 1 0 (bl - 1)) := by
  obtain ⟨h1, h2, -⟩ := am_spec P g w (bl - 1)
  refine ⟨?_, fun b b1 b2 b3 => h2 b b1 (by omega) b3⟩
  rcases h1 with h1 | ⟨b, b1, b2, b3, b4⟩
  · exact Or.inl h1
  · exact Or.inr ⟨b, b1, by omega, b3, b4⟩
theorem AMax.view {w : Nat → Nat} {bl : Nat} {P : Nat → Prop} {g : Nat → Nat} {m m' : Nat} (h0 : w 0 = 0) (h : AMax w bl P g m) (h' : AMax w bl P g m') : w m ≤ w m' := by
  rcases h.1 with rfl | ⟨b, b1, b2, b3, rfl⟩
  · omega
  · exact h'.2 b b1 b2 b3
theorem AMax.add {w : Nat → Nat} {bl : Nat} {P P' : Nat → Prop} {g : Nat → Nat} {m x : Nat} (h : AMax w bl P g m) (hx : 1 ≤ x ∧ x < bl) (hP : ∀ b, 1 ≤ b → (P' b ↔ P b ∨ b = x)) : AMax w bl P' g (if w m < w (g x) then g x else m) := by
  by_cases hc : w m < w (g x)
  · rw [if_pos hc]
    refine ⟨Or.inr ⟨x, hx.1, hx.2, (hP x hx.1).mpr (Or.inr rfl), rfl⟩, fun b b1 b2 b3 => ?_⟩
    rcases (hP b b1).mp b3 with q | rfl
    · have := h.2 b b1 b2 q
      omega
    · exact Nat.le_refl _
  · rw [if_neg hc]
    refine ⟨?_, fun b b1 b2 b3 => ?_⟩
    · rcases h.1 with q | ⟨b, b1, b2, b3, b4⟩
      · exact Or.inl q
      · exact Or.inr ⟨b, b1, b2, (hP b b1).mpr (Or.inl b3), b4⟩
    · rcases (hP b b1).mp b3 with q | rfl
      · exact h.2 b b1 b2 q
      · omega
theorem AMax.same {w w' : Nat → Nat} {bl bl' : Nat} {P P' : Nat → Prop} {g g' : Nat → Nat} {m : Nat} (h : AMax w bl P g m) (hbl : bl ≤ bl') (hP : ∀ b, 1 ≤ b → b < bl' → P' b → b < bl ∧ P b) (hP2 : ∀ b, 1 ≤ b → b < bl → P b → P' b) (hg : ∀ b, b < bl → g' b = g b) (hw : ∀ b, b < bl → P b → w' (g b) = w (g b)) (hw0 : w' 0 = w 0) : AMax w' bl' P' g' m := by
  refine ⟨?_, fun b b1 b2 b3 => ?_⟩
  · rcases h.1 with q | ⟨b, b1, b2, b3, b4⟩
    · exact Or.inl q
    · exact Or.inr ⟨b, b1, by omega, hP2 b b1 b2 b3, by rw [hg b b2]; exact b4⟩
  · obtain ⟨k1, k2⟩ := hP b b1 b2 b3
    rw [hg b k1, hw b k1 k2]
    have hm : w' m = w m := by
      rcases h.1 with q | ⟨c, c1, c2, c3, c4⟩
      · rw [q, hw0]
      · rw [c4, hw c c2 c3]
    rw [hm]
    exact h.2 b b1 k1 k2
def sawP (M : Nat → Nat → Nat) (r b : Nat) : Prop := ¬ M 19 (40 * r + b) = 0
def threeP (M : Nat → Nat → Nat) (b : Nat) : Prop := 0 < M 6 b ∧ M 5 b = M 5 (M 6 b) + 1 ∧ M 5 (M 6 b) = M 5 (M 6 (M 6 b)) + 1
def HiMax (M : Nat → Nat → Nat) (r m : Nat) : Prop := AMax (M 5) (M 0 5) (sawP M r) (fun b => b) m
def LoMax (M : Nat → Nat → Nat) (r m : Nat) : Prop := AMax (M 5) (M 0 5) (sawP M r) (fun b => M 6 b) m
def TiMax (M : Nat → Nat → Nat) (r m : Nat) : Prop := AMax (M 5) (M 0 5) (fun b => sawP M r b ∧ threeP M b) (fun b => M 6 (M 6 b)) m
theorem mHigh_max {V : Nat} {M : Nat → Nat → Nat} (hI : IW V M) (r : Nat) : HiMax M r (mHigh M r) := by
  have h := AMax.of_am (w := M 5) hI.b.1 (fun b => ¬ M 19 (40 * r + b) = 0) (fun b => b)
  exact h
theorem mLock_max {V : Nat} {M : Nat → Nat → Nat} (hI : IW V M) (r : Nat) : LoMax M r (mLock M r) := by
  have h := AMax.of_am (w := M 5) hI.b.1 (fun b => ¬ M 19 (40 * r + b) = 0) (fun b => M 6 b)
  exact h
theorem mTip_max {V : Nat} {M : Nat → Nat → Nat} (hI : IW V M) (r : Nat) : TiMax M r (mTip M r) := by
  have h := AMax.of_am (w := M 5) hI.b.1 (fun b => ¬ M 19 (40 * r + b) = 0 ∧ 0 < M 6 b ∧ M 5 b = M 5 (M 6 b) + 1 ∧ M 5 (M 6 b) = M 5 (M 6 (M 6 b)) + 1) (fun b => M 6 (M 6 b))
  exact h
/-- a block that is certified, or 0, and is there -/
def okB (M : Nat → Nat → Nat) (b : Nat) : Prop := b < M 0 5 ∧ mCert M b = true
theorem okB_par {V : Nat} {M : Nat → Nat → Nat} (hI : IW V M) (hS : SV M) {b : Nat} (hb : b < M 0 5) : okB M (M 6 b) := by
  have hbl := hI.b
  by_cases h0 : b = 0
  · subst h0
    rw [hS.1.1]
    exact ⟨by omega, mCert_0⟩
  · obtain ⟨a1, a2, a3⟩ := hS.1.2.2 b (by omega) hb
    exact ⟨by omega, a3⟩
theorem max_uni {V : Nat} {M : Nat → Nat → Nat} (hI : IW V M) (hS : SV M) {P : Nat → Prop} {g : Nat → Nat} {m m' : Nat} (hg : ∀ b, 1 ≤ b → b < M 0 5 → P b → okB M (g b)) (h : AMax (M 5) (M 0 5) P g m) (h' : AMax (M 5) (M 0 5) P g m') : m = m' := by
  have hbl := hI.b
  have ok : ∀ k, AMax (M 5) (M 0 5) P g k → okB M k := by
    intro k hk
    rcases hk.1 with rfl | ⟨b, b1, b2, b3, rfl⟩
    · exact ⟨by omega, mCert_0⟩
    · exact hg b b1 b2 b3
  have h1 := AMax.view hS.1.2.1 h h'
  have h2 := AMax.view hS.1.2.1 h' h
  exact cert_uni hI hS (ok m h).1 (ok m' h').1 (ok m h).2 (ok m' h').2 (by omega)
theorem hi_eq {V : Nat} {M : Nat → Nat → Nat} (hI : IW V M) (hS : SV M) {r m : Nat} (hr : r < M 0 1) (h : HiMax M r m) : m = mHigh M r := by
  have hbl := hI.b
  exact max_uni hI hS (fun b b1 b2 b3 => by
    obtain ⟨a1, a2, -⟩ := hS.2.2.2.1 r b hr (by omega) b3
    exact ⟨a1, a2⟩) h (mHigh_max hI r)
theorem lo_eq {V : Nat} {M : Nat → Nat → Nat} (hI : IW V M) (hS : SV M) {r m : Nat} (h : LoMax M r m) : m = mLock M r :=
  max_uni hI hS (fun b b1 b2 b3 => okB_par hI hS b2) h (mLock_max hI r)
theorem ti_eq {V : Nat} {M : Nat → Nat → Nat} (hI : IW V M) (hS : SV M) {r m : Nat} (h : TiMax M r m) : m = mTip M r :=
  max_uni hI hS (fun b b1 b2 b3 => okB_par hI hS (okB_par hI hS b2).1) h (mTip_max hI r)
-- seeing a certificate: the three are kept up
theorem sawP_mark {M : Nat → Nat → Nat} {r x b : Nat} (hx : x < 40) (hb : b < 40) : sawP (up2 M 19 (40 * r + x) 1) r b ↔ sawP M r b ∨ b = x := by
  unfold sawP
  rw [up2_at]
  by_cases h : b = x
  · subst h
    simp
  · rw [if_neg (by omega)]
    simp [h]
theorem sawP_other {M : Nat → Nat → Nat} {r q x b : Nat} (hq : q ≠ r) (hx : x < 40) (hb : b < 40) : sawP (up2 M 19 (40 * r + x) 1) q b ↔ sawP M q b := by
  unfold sawP
  rw [up2_at, if_neg (by omega)]
theorem mSee_19 {M : Nat → Nat → Nat} {r x : Nat} : mSee M r x 19 = up2 M 19 (40 * r + x) 1 19 := by
  unfold mSee
  split
  · rfl
  · rw [up2_ne _ _ _ (by decide), mEnter_ne (by decide) (by decide)]
theorem sawP_see {M : Nat → Nat → Nat} {r x b : Nat} (hx : x < 40) (hb : b < 40) : sawP (mSee M r x) r b ↔ sawP M r b ∨ b = x := by
  rw [← sawP_mark hx hb]
  unfold sawP
  rw [mSee_19]
theorem sawP_seeo {M : Nat → Nat → Nat} {r q x b : Nat} (hq : q ≠ r) (hx : x < 40) (hb : b < 40) : sawP (mSee M r x) q b ↔ sawP M q b := by
  rw [← sawP_other (M := M) hq hx hb]
  unfold sawP
  rw [mSee_19]
theorem AMax.grow {w : Nat → Nat} {bl : Nat} {P P' : Nat → Prop} {g : Nat → Nat} {m x : Nat} (hbl : bl ≤ 40) (h : AMax w bl P g m) (hx : x < bl) (hg0 : w (g 0) = 0) (hP : ∀ b, 1 ≤ b → b < 40 → (P' b ↔ P b ∨ b = x)) : AMax w bl P' g (if w m < w (g x) then g x else m) := by
  by_cases h0 : x = 0
  · subst h0
    rw [if_neg (by omega)]
    exact h.same (Nat.le_refl _) (fun b b1 b2 b3 => by
      rcases (hP b b1 (by omega)).mp b3 with q | q
      · exact ⟨b2, q⟩
      · omega) (fun b b1 b2 b3 => (hP b b1 (by omega)).mpr (Or.inl b3)) (fun _ _ => rfl) (fun _ _ _ => rfl) rfl
  · have h1 : AMax w bl (fun b => P b ∨ b = x) g (if w m < w (g x) then g x else m) := h.add ⟨by omega, hx⟩ (fun b _ => Iff.rfl)
    exact h1.same (Nat.le_refl _) (fun b b1 b2 b3 => ⟨b2, (hP b b1 (by omega)).mp b3⟩) (fun b b1 b2 b3 => (hP b b1 (by omega)).mpr b3) (fun _ _ => rfl) (fun _ _ _ => rfl) rfl
