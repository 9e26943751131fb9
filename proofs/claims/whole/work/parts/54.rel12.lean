-- how deep a block lies, how many of a chain lie below a number
theorem mDep_fuel {S : Nat → Nat → Nat} {bl : Nat} (h : ParOk S bl) : ∀ x, x < bl → ∀ f f', x ≤ f → x ≤ f' → mDep S f x = mDep S f' x := by
  intro x
  induction x using Nat.strongRecOn with
  | ind x ih =>
    intro hx f f' hf hf'
    by_cases h0 : x = 0
    · subst h0
      cases f <;> cases f' <;> simp [mDep]
    · obtain ⟨g, rfl⟩ : ∃ g, f = g + 1 := ⟨f - 1, by omega⟩
      obtain ⟨g', rfl⟩ : ∃ g', f' = g' + 1 := ⟨f' - 1, by omega⟩
      have hl := h.2 x (by omega) hx
      show (if x = 0 then 0 else mDep S g (S 6 x) + 1) = (if x = 0 then 0 else mDep S g' (S 6 x) + 1)
      rw [if_neg h0, if_neg h0, ih (S 6 x) hl (h.lt hx) g g' (by omega) (by omega)]
def dp (S : Nat → Nat → Nat) (x : Nat) : Nat := mDep S 40 x
theorem dp_0 {S : Nat → Nat → Nat} : dp S 0 = 0 := by simp [dp, mDep]
theorem dp_s {S : Nat → Nat → Nat} {bl : Nat} (h : ParOk S bl) (hbl : bl ≤ 40) {x : Nat} (hx : x < bl) (h0 : x ≠ 0) : dp S x = dp S (S 6 x) + 1 := by
  have hl := h.2 x (by omega) hx
  show (if x = 0 then 0 else mDep S 39 (S 6 x) + 1) = _
  rw [if_neg h0, mDep_fuel h (S 6 x) (h.lt hx) 39 40 (by omega) (by omega)]
  rfl
theorem dp_pth {S : Nat → Nat → Nat} {bl : Nat} (h : ParOk S bl) (hbl : bl ≤ 40) : ∀ j b, b < bl → j ≤ dp S b → dp S (pth S b j) = dp S b - j
  | 0, b, _, _ => rfl
  | j + 1, b, hb, hj => by
    have h0 : b ≠ 0 := fun q => by rw [q, dp_0] at hj; omega
    have e := dp_s h hbl hb h0
    rw [pth_s, dp_pth h hbl j (S 6 b) (h.lt hb) (by omega)]
    omega
theorem anc_dp {S : Nat → Nat → Nat} {bl : Nat} (h : ParOk S bl) (hbl : bl ≤ 40) {a : Nat} : ∀ b, b < bl → anc S a b = true → dp S a ≤ dp S b ∧ pth S b (dp S b - dp S a) = a := by
  intro b
  induction b using Nat.strongRecOn with
  | ind b ih =>
    intro hb ha
    by_cases h0 : b = 0
    · subst h0
      rw [anc_0] at ha
      have := of_decide_eq_true ha
      subst this
      exact ⟨Nat.le_refl _, by rw [Nat.sub_self]; rfl⟩
    · rw [anc_step h hb hbl h0, Bool.or_eq_true, decide_eq_true_iff] at ha
      rcases ha with rfl | ha
      · exact ⟨Nat.le_refl _, by rw [Nat.sub_self]; rfl⟩
      · have hlt := h.2 b (by omega) hb
        obtain ⟨i1, i2⟩ := ih (S 6 b) hlt (h.lt hb) ha
        have e := dp_s h hbl hb h0
        refine ⟨by omega, ?_⟩
        rw [e, show dp S (S 6 b) + 1 - dp S a = (dp S (S 6 b) - dp S a) + 1 by omega, pth_s]
        exact i2
def nb (P : Nat → Bool) : Nat → Nat
  | 0 => 0
  | x + 1 => if P x = true then nb P x + 1 else nb P x
theorem nb_mono (P : Nat → Bool) (a : Nat) : ∀ d, nb P a ≤ nb P (a + d)
  | 0 => Nat.le_refl _
  | d + 1 => by
    have := nb_mono P a d
    show nb P a ≤ if P (a + d) = true then nb P (a + d) + 1 else nb P (a + d)
    split <;> omega
theorem nb_congr {P Q : Nat → Bool} : ∀ a, (∀ x, x < a → P x = Q x) → nb P a = nb Q a
  | 0, _ => rfl
  | a + 1, h => by
    show (if P a = true then nb P a + 1 else nb P a) = (if Q a = true then nb Q a + 1 else nb Q a)
    rw [nb_congr a (fun x hx => h x (by omega)), h a (by omega)]
theorem nb_none {P : Nat → Bool} {a : Nat} : ∀ d, (∀ x, a ≤ x → x < a + d → P x = false) → nb P (a + d) = nb P a
  | 0, _ => rfl
  | d + 1, h => by
    show (if P (a + d) = true then nb P (a + d) + 1 else nb P (a + d)) = nb P a
    rw [h (a + d) (by omega) (by omega), nb_none d (fun x h1 h2 => h x h1 (by omega))]
    rfl
/-- of a chain's blocks as many lie below one as it is deep -/
theorem nb_dp {S : Nat → Nat → Nat} {bl : Nat} (h : ParOk S bl) (hbl : bl ≤ 40) {a : Nat} : ∀ b, b < bl → anc S a b = true → nb (fun x => anc S x b) a = dp S a := by
  intro b
  induction b using Nat.strongRecOn generalizing a with
  | ind b ih =>
    intro hb ha
    by_cases h0 : b = 0
    · subst h0
      rw [anc_0] at ha
      have := of_decide_eq_true ha
      subst this
      rw [dp_0]
      rfl
    · have hlt := h.2 b (by omega) hb
      have same : ∀ x, x < b → anc S x b = anc S x (S 6 b) := fun x hx => by
        rw [anc_step h hb hbl h0, decide_eq_false (by omega), Bool.false_or]
      by_cases hab : a = b
      · subst hab
        have hs := ih (S 6 a) hlt (h.lt hb) (anc_self (S 6 a))
        have e := dp_s h hbl hb h0
        have c1 : nb (fun x => anc S x a) a = nb (fun x => anc S x (S 6 a)) a := nb_congr a same
        have c2 : nb (fun x => anc S x (S 6 a)) a = nb (fun x => anc S x (S 6 a)) (S 6 a + 1) := by
          have := nb_none (P := fun x => anc S x (S 6 a)) (a := S 6 a + 1) (a - (S 6 a + 1)) (fun x h1 h2 => by
            cases hz : anc S x (S 6 a)
            · rfl
            · have := anc_le h hbl (S 6 a) (h.lt hb) hz
              omega)
          rw [show S 6 a + 1 + (a - (S 6 a + 1)) = a by omega] at this
          exact this
        have c3 : nb (fun x => anc S x (S 6 a)) (S 6 a + 1) = nb (fun x => anc S x (S 6 a)) (S 6 a) + 1 := by
          show (if anc S (S 6 a) (S 6 a) = true then nb (fun x => anc S x (S 6 a)) (S 6 a) + 1 else nb (fun x => anc S x (S 6 a)) (S 6 a)) = _
          rw [anc_self, if_pos rfl]
        rw [c1, c2, c3, hs, e]
      · have hle := anc_le h hbl b hb ha
        have c1 : nb (fun x => anc S x b) a = nb (fun x => anc S x (S 6 b)) a := nb_congr a (fun x hx => same x (by omega))
        rw [c1]
        refine ih (S 6 b) hlt (h.lt hb) ?_
        rw [← same a (by omega)]
        exact ha
theorem at_find {C : Nat → Nat → Nat} {b i : Nat} (P : Nat → Bool) (hi : i < 2 ^ 31) : ∀ f a, a + f ≤ 1000 → nb P a ≤ a → (∀ x, x < a + f → P x = cInC C x b) → (∀ x, a ≤ x → x < a + f → P x = true → nb P x = i → cAtF C b (nI i) f a (nb P a) = nI x) ∧ ((∀ x, a ≤ x → x < a + f → P x = true → nb P x ≠ i) → cAtF C b (nI i) f a (nb P a) = -1)
  | 0, a, _, _, _ => ⟨fun x h1 h2 => by omega, fun _ => rfl⟩
  | f + 1, a, hb, hn, hP => by
    have hPa := hP a (by omega)
    have hs : nb P (a + 1) = if P a = true then nb P a + 1 else nb P a := rfl
    have hn' : nb P (a + 1) ≤ a + 1 := by
      rw [hs]
      split <;> omega
    obtain ⟨i1, i2⟩ := at_find (C := C) (b := b) (i := i) P hi f (a + 1) (by omega) hn' (fun x hx => hP x (by omega))
    have ev : cAtF C b (nI i) (f + 1) a (nb P a) = if P a = true then (if nI (nb P a) = nI i then nI a else cAtF C b (nI i) f (a + 1) (nb P (a + 1))) else cAtF C b (nI i) f (a + 1) (nb P (a + 1)) := by
      show (if cInC C a b = true then (if nI (nb P a) = nI i then nI a else cAtF C b (nI i) f (a + 1) (nb P a + 1)) else cAtF C b (nI i) f (a + 1) (nb P a)) = _
      rw [← hPa, hs]
      by_cases hp : P a = true
      · simp only [if_pos hp]
      · simp only [if_neg hp]
    rw [ev]
    have inj : nI (nb P a) = nI i ↔ nb P a = i := ⟨fun q => by
      have q2 := congrArg Int32.toInt q
      rw [nI_toInt (by omega), nI_toInt hi] at q2
      omega, fun q => by rw [q]⟩
    by_cases hp : P a = true
    · rw [if_pos hp]
      rw [if_pos hp] at hs
      by_cases he : nb P a = i
      · rw [if_pos (inj.mpr he)]
        refine ⟨fun x h1 h2 h3 h4 => ?_, fun hno => absurd he (hno a (Nat.le_refl _) (by omega) hp)⟩
        by_cases hx : x = a
        · rw [hx]
        · have := nb_mono P (a + 1) (x - (a + 1))
          rw [show a + 1 + (x - (a + 1)) = x by omega] at this
          omega
      · rw [if_neg (fun q => he (inj.mp q))]
        refine ⟨fun x h1 h2 h3 h4 => ?_, fun hno => i2 (fun x h1 h2 h3 => hno x (by omega) (by omega) h3)⟩
        by_cases hx : x = a
        · subst hx
          exact absurd h4 he
        · exact i1 x (by omega) (by omega) h3 h4
    · rw [if_neg hp]
      refine ⟨fun x h1 h2 h3 h4 => ?_, fun hno => i2 (fun x h1 h2 h3 => hno x (by omega) (by omega) h3)⟩
      by_cases hx : x = a
      · subst hx
        exact absurd h3 hp
      · exact i1 x (by omega) (by omega) h3 h4
theorem lay_at {S : Nat → Nat → Nat} {x len : Nat} : ∀ k, k ≤ len → ∀ j, len - k ≤ j → j < len → itr (mLayF S x len) 0 S k 22 j = pth S x (len - 1 - j)
  | 0, _, j, h1, h2 => by omega
  | k + 1, hk, j, h1, h2 => by
    rw [itr_z]
    unfold mLayF
    rw [up2_at]
    by_cases hj : j = len - 1 - k
    · rw [if_pos ⟨rfl, hj⟩, hj]
      congr 1
      omega
    · rw [if_neg (fun z => hj z.2)]
      exact lay_at k (by omega) j (by omega) h2
theorem mLay_22 {S : Nat → Nat → Nat} {r j : Nat} (hj : j < mLen S r) : mLay S r 22 j = pth S (mTip S r) (mLen S r - 1 - j) := lay_at (mLen S r) (Nat.le_refl _) j (by omega) hj
theorem JV.inc_eq {V n : Nat} {M C : Nat → Nat → Nat} (h : JV V n M C) {a b : Nat} (ha : a < 40) (hb : b < M 0 5) : cInC C a b = anc M a b := by
  have := (h.2.2.2.2.2.2.1 b hb).1 a ha
  unfold cInC
  cases hz : anc M a b
  · rw [hz] at this
    exact decide_eq_false (fun q => by have := this.mp q; cases this)
  · rw [hz] at this
    exact decide_eq_true (this.mpr rfl)
theorem JV.committed {V n : Nat} {M C : Nat → Nat → Nat} (h : JV V n M C) (r i : Int32) : qCommitted C r i = rCommitted M r i := by
  have hbl := h.1.b
  have par := h.2.2.1.par
  unfold qCommitted rCommitted
  rw [h.correct_eq]
  by_cases hc : mCorrect M r = true ∧ 0 ≤ i.toInt
  · rw [if_pos hc, if_pos hc]
    obtain ⟨j, hj, -, ej, -⟩ := h.r_ex hc.1
    obtain ⟨k, hk, ek, ik, ck⟩ := i_nat hc.2
    rw [ej, ck, ik, ek, h.tip_eq hj]
    have ht := mTip_bl h.1 par j
    generalize htp : mTip M j = tip at ht
    have hlen : mLen M j = 1 + dp M tip := by rw [← htp]; rfl
    obtain ⟨g1, g2⟩ := at_find (C := C) (b := tip) (i := k) (fun x => anc M x tip) hk (tip + 1) 0 (by omega) (Nat.le_refl _) (fun x hx => (h.inc_eq (by omega) ht).symm)
    by_cases hl : k < 1 + dp M tip
    · have hpa := pth_anc par hbl.2 (dp M tip - k) tip ht
      have hle := anc_le par hbl.2 tip ht hpa.1
      have hd := dp_pth par hbl.2 (dp M tip - k) tip ht (by omega)
      rw [if_pos (by rw [hlen]; omega), mLay_22 (by rw [hlen]; omega), hlen, htp, show 1 + dp M tip - 1 - k = dp M tip - k by omega]
      exact g1 _ (Nat.zero_le _) (by omega) hpa.1 (by rw [nb_dp par hbl.2 tip ht hpa.1, hd]; omega)
    · rw [if_neg (by rw [hlen]; omega)]
      refine g2 (fun x h1 h2 h3 => ?_)
      rw [nb_dp par hbl.2 tip ht h3]
      have := (anc_dp par hbl.2 tip ht h3).1
      omega
  · rw [if_neg hc, if_neg hc]
