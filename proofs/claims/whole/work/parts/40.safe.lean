-- what holds of every reachable state of the reference
def S1 (M : Nat → Nat → Nat) : Prop := M 6 0 = 0 ∧ M 5 0 = 0 ∧ ∀ b, 1 ≤ b → b < M 0 5 → M 6 b < b ∧ M 5 (M 6 b) < M 5 b ∧ mCert M (M 6 b) = true
def S2 (M : Nat → Nat → Nat) : Prop := ∀ b r, b < M 0 5 → r < M 0 1 → M 0 3 / 2 ^ r % 2 = 0 → M 8 b / 2 ^ r % 2 = 1 → 1 ≤ b ∧ M 5 b ≤ M 17 r
def S3 (M : Nat → Nat → Nat) : Prop := ∀ b c r, b < M 0 5 → c < M 0 5 → r < M 0 1 → M 0 3 / 2 ^ r % 2 = 0 → M 8 b / 2 ^ r % 2 = 1 → M 8 c / 2 ^ r % 2 = 1 → M 5 b = M 5 c → b = c
def S4 (M : Nat → Nat → Nat) : Prop := ∀ r b, r < M 0 1 → b < 40 → ¬ M 19 (40 * r + b) = 0 → b < M 0 5 ∧ mCert M b = true ∧ M 5 b < M 14 r
def S5 (M : Nat → Nat → Nat) : Prop := ∀ r b x, r < M 0 1 → b < 40 → M 20 (40 * r + b) / 2 ^ x % 2 = 1 → M 0 3 / 2 ^ x % 2 = 1 ∨ M 8 b / 2 ^ x % 2 = 1
def S6 (M : Nat → Nat → Nat) : Prop := ∀ i, i < M 0 6 → (M 9 i = 0 → 1 ≤ M 12 i) ∧ (M 9 i = 1 → 1 ≤ M 12 i ∧ (M 0 3 / 2 ^ M 11 i % 2 = 1 ∨ M 8 (M 12 i) / 2 ^ M 11 i % 2 = 1)) ∧ (M 9 i = 2 → mCert M (M 12 i) = true)
def S7 (M : Nat → Nat → Nat) : Prop := (∀ b, M 8 b < 2 ^ M 0 1) ∧ (∀ b, M 0 5 ≤ b → M 8 b = 0) ∧ (∀ b, M 0 5 ≤ b → M 5 b = 0 ∧ M 6 b = 0 ∧ M 7 b = 0)
def SV (M : Nat → Nat → Nat) : Prop := S1 M ∧ S2 M ∧ S3 M ∧ S4 M ∧ S5 M ∧ S6 M ∧ S7 M
theorem mCert_0 {M : Nat → Nat → Nat} : mCert M 0 = true := by simp [mCert]
theorem mCert_iff {M : Nat → Nat → Nat} {b : Nat} : mCert M b = true ↔ b = 0 ∨ 2 * M 0 0 + 1 ≤ mSize (M 8 b ||| M 0 3) := by simp [mCert]
theorem mCert_congr {M T : Nat → Nat → Nat} {b : Nat} (h0 : T 0 0 = M 0 0) (h3 : T 0 3 = M 0 3) (h8 : T 8 b = M 8 b) : mCert T b = mCert M b := by
  unfold mCert
  rw [h0, h3, h8]
theorem mSize_mono {a b : Nat} (h : ∀ i, a / 2 ^ i % 2 = 1 → b / 2 ^ i % 2 = 1) : mSize a ≤ mSize b := by
  rw [mSize_eq, mSize_eq]
  have k : ∀ i, a / 2 ^ i % 2 ≤ b / 2 ^ i % 2 := fun i => by
    have h1 := h i
    have h2 := bt01 a i
    have h3 := bt01 b i
    omega
  have k0 := k 0
  have k1 := k 1
  have k2 := k 2
  have k3 := k 3
  have k4 := k 4
  have k5 := k 5
  have k6 := k 6
  omega
theorem mCert_mono {M T : Nat → Nat → Nat} {b : Nat} (h0 : T 0 0 = M 0 0) (h3 : T 0 3 = M 0 3) (h8 : ∀ i, M 8 b / 2 ^ i % 2 = 1 → T 8 b / 2 ^ i % 2 = 1) (h : mCert M b = true) : mCert T b = true := by
  rw [mCert_iff] at h ⊢
  rcases h with h | h
  · exact Or.inl h
  · refine Or.inr (Nat.le_trans (by rw [h0]; exact h) (mSize_mono (fun i hi => ?_)))
    rw [bt_or1] at hi ⊢
    rw [h3]
    rcases hi with hi | hi
    · exact Or.inl (h8 i hi)
    · exact Or.inr hi
/-- at most one certified block of a view -/
theorem cert_one {V : Nat} {M : Nat → Nat → Nat} (hI : IW V M) (h3 : S3 M) (h7 : S7 M) {b c : Nat} (hb : 1 ≤ b ∧ b < M 0 5) (hc : 1 ≤ c ∧ c < M 0 5) (h1 : mCert M b = true) (h2 : mCert M c = true) (hv : M 5 b = M 5 c) : b = c := by
  rw [mCert_iff] at h1 h2
  have hq := hI.cq
  obtain ⟨r, hr, g1, g2, g3⟩ := quorum hI.n.1 hI.f (h7.1 b) (h7.1 c) hq.1 hq.2 (by omega) (by omega)
  exact h3 b c r hb.2 hc.2 hr g1 g2 g3 hv
/-- the same, with block 0 -/
theorem cert_uni {V : Nat} {M : Nat → Nat → Nat} (hI : IW V M) (hS : SV M) {b c : Nat} (hb : b < M 0 5) (hc : c < M 0 5) (h1 : mCert M b = true) (h2 : mCert M c = true) (hv : M 5 b = M 5 c) : b = c := by
  obtain ⟨g1, g2, g3, g4, g5, g6, g7⟩ := hS
  by_cases b0 : b = 0
  · by_cases c0 : c = 0
    · omega
    · have := (g1.2.2 c (by omega) hc).2.1
      rw [b0, g1.2.1] at hv
      omega
  · by_cases c0 : c = 0
    · have := (g1.2.2 b (by omega) hb).2.1
      rw [c0, g1.2.1] at hv
      omega
    · exact cert_one hI g3 g7 ⟨by omega, hb⟩ ⟨by omega, hc⟩ h1 h2 hv
theorem SV.par {M : Nat → Nat → Nat} (h : SV M) : ParOk M (M 0 5) := ⟨h.1.1, fun b h1 h2 => (h.1.2.2 b h1 h2).1⟩
-- rows that one does not need to look at
theorem SV.of {M T : Nat → Nat → Nat} (h : SV M) (h0 : T 0 = M 0) (h5 : T 5 = M 5) (h6 : T 6 = M 6) (h7 : T 7 = M 7) (h8 : T 8 = M 8) (h9 : T 9 = M 9) (h11 : T 11 = M 11) (h12 : T 12 = M 12) (h17 : T 17 = M 17) (h19 : T 19 = M 19) (h20 : T 20 = M 20) (h14 : ∀ r, r < M 0 1 → M 14 r ≤ T 14 r) : SV T := by
  have hc : ∀ b, mCert T b = mCert M b := fun b => mCert_congr (by rw [h0]) (by rw [h0]) (by rw [h8])
  obtain ⟨g1, g2, g3, g4, g5, g6, g7⟩ := h
  refine ⟨?_, ?_, ?_, ?_, ?_, ?_, ?_⟩
  · unfold S1
    rw [h0, h5, h6]
    refine ⟨g1.1, g1.2.1, fun b b1 b2 => ?_⟩
    rw [hc]
    exact g1.2.2 b b1 b2
  · unfold S2
    rw [h0, h5, h8, h17]
    exact g2
  · unfold S3
    rw [h0, h5, h8]
    exact g3
  · unfold S4
    rw [h0, h5, h19]
    intro r b hr hb hs
    rw [hc]
    obtain ⟨a1, a2, a3⟩ := g4 r b hr hb hs
    exact ⟨a1, a2, Nat.lt_of_lt_of_le a3 (h14 r hr)⟩
  · unfold S5
    rw [h0, h8, h20]
    exact g5
  · unfold S6
    rw [h0, h8, h9, h11, h12]
    intro i hi
    rw [hc]
    exact g6 i hi
  · unfold S7
    rw [h0, h5, h6, h7, h8]
    exact g7
theorem SV.enter {M : Nat → Nat → Nat} {r v : Nat} (h : SV M) (hv : M 14 r ≤ v) : SV (mEnter M r v) := by
  have e : ∀ row, row ≠ 14 → row ≠ 15 → mEnter M r v row = M row := fun row a b => mEnter_ne a b
  refine h.of (e 0 (by decide) (by decide)) (e 5 (by decide) (by decide)) (e 6 (by decide) (by decide)) (e 7 (by decide) (by decide)) (e 8 (by decide) (by decide)) (e 9 (by decide) (by decide)) (e 11 (by decide) (by decide)) (e 12 (by decide) (by decide)) (e 17 (by decide) (by decide)) (e 19 (by decide) (by decide)) (e 20 (by decide) (by decide)) (fun q _ => ?_)
  unfold mEnter
  simp only [up2_at]
  by_cases hq : q = r
  · subst hq
    simpa using hv
  · simp [hq]
/-- a place of a row that SV does not look at -/
theorem SV.up {M : Nat → Nat → Nat} {k j v : Nat} (h : SV M) (hk : k = 1 ∨ k = 2 ∨ k = 3 ∨ k = 4 ∨ k = 10 ∨ k = 13 ∨ k = 15 ∨ k = 16 ∨ k = 18 ∨ k = 21 ∨ k = 22 ∨ k = 23 ∨ k = 24) : SV (up2 M k j v) := by
  have e : ∀ row, row ≠ k → up2 M k j v row = M row := fun row a => up2_ne _ _ _ a
  exact h.of (e 0 (by omega)) (e 5 (by omega)) (e 6 (by omega)) (e 7 (by omega)) (e 8 (by omega)) (e 9 (by omega)) (e 11 (by omega)) (e 12 (by omega)) (e 17 (by omega)) (e 19 (by omega)) (e 20 (by omega)) (fun q _ => by rw [e 14 (by omega)]; exact Nat.le_refl _)
