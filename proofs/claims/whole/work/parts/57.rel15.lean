theorem CI.lo {V : Nat} {X : WX} {S T : Nat → Nat → Nat} (h : CI V X S) (l : Lo S T) : CI V X T := by
  refine ⟨h.1, h.2.1, fun k j => ?_⟩
  by_cases hk : 25 ≤ k
  · rw [l k hk]
    exact h.c k j
  · unfold cellC
    rw [if_pos (by omega)]
    split <;> first | omega | trivial
theorem IW.hi {V : Nat} {S T : Nat → Nat → Nat} (h : IW V S) (l : Hi S T) : IW V T := by
  have e0 := l 0 (by decide)
  unfold IW
  rw [e0]
  refine ⟨h.1, h.2.1, h.2.2.1, h.2.2.2.1, h.2.2.2.2.1, h.2.2.2.2.2.1, h.2.2.2.2.2.2.1, h.2.2.2.2.2.2.2.1, fun k j => ?_⟩
  by_cases hk : k < 25
  · rw [l k hk]
    exact h.c k j
  · unfold cellOk
    split <;> first | omega | trivial
theorem JV.hi {V n : Nat} {S C T : Nat → Nat → Nat} (h : JV V n S C) (l : Hi S T) : JV V n T C := h.work (h.1.hi l) (fun row hr => l row (by omega)) (fun _ _ _ _ => rfl)
theorem JV.lo {V n : Nat} {M C T : Nat → Nat → Nat} (h : JV V n M C) (l : Lo C T) : JV V n M T := h.work h.1 (fun _ _ => rfl) (fun row hr _ _ => l row hr)
theorem CI.prop {V : Nat} {X : WX} {S : Nat → Nat → Nat} {r b : Nat} (h : CI V X S) (hr : r < X.2.2.1) (hb : b < 40) : CI V X (cGetProposal S r b) := by
  have hnn := h.nn
  have h5 := (show S 32 b + 1 ≤ V from h.c 32 b)
  have h1 := h.gp1 (r := r) (b := b)
  have h35 := (show cGP1 S r b 35 b < 128 from h1.c 35 b)
  unfold cGetProposal
  split
  · refine ((h1.upR (j := 3) (show S 32 b ≤ V by omega)).up (k := 35) ?_).send (by decide) (cLeader_lt h1 _) hr hb (by decide)
    exact or_lt128 h35 (p2_128 r (by omega))
  · exact h1
theorem CI.vote {V : Nat} {X : WX} {S : Nat → Nat → Nat} {r x b : Nat} (h : CI V X S) (hx : x < 7) (hb : b < 40) : CI V X (cGetVote S r x b) := by
  have h45 := h.rg r b
  have h1 : CI V X (up2 S (3 * r + 45) b (S (3 * r + 45) b ||| 1 * 2 ^ x)) := h.up (by rw [cellC_rg]; exact or_lt128 h45 (p2_128 x hx))
  unfold cGetVote
  split
  · exact h1.see hb
  · exact h1
theorem CI.newview {V : Nat} {X : WX} {S : Nat → Nat → Nat} {n r x b v : Nat} (h : CI V X S) (hb : b < 40) (hv : v < 2147483648) (hq : cGetNewView S n r x b v (3 * r + 44) 0 ≤ V) : CI V X (cGetNewView S n r x b v) := by
  have h46 := h.rn r x
  have h1 : CI V X (cGN1 S r x b v) := by
    unfold cGN1
    refine (h.up ?_).see hb
    rw [cellC_rn]
    split
    · exact hv
    · exact h46
  unfold cGetNewView at hq ⊢
  split
  · rename_i hc
    rw [if_pos hc, cEnter_at, if_pos rfl, if_pos rfl] at hq
    exact h1.enter (by omega) hq
  · exact h1
theorem CI.hand {V : Nat} {X : WX} {S : Nat → Nat → Nat} {i : Nat} (h : CI V X S) (hq : ∀ r, r < X.2.2.1 → cHand S X.2.2.1 i (3 * r + 44) 0 ≤ V) : CI V X (cHand S X.2.2.1 i) := by
  have hnn := h.nn
  have h39 := (show S 39 i < 10496 ∧ S 39 i / 4 % 8 < X.2.2.1 ∧ S 39 i / 32 % 8 < X.2.2.1 ∧ S 39 i / 256 < 40 from h.c 39 i)
  have h40 := (show S 40 i < 2147483648 from h.c 40 i)
  have h1 := h.rem (i := i)
  have hq' := hq _ h39.2.1
  unfold cHand at hq' ⊢
  split
  · rename_i hc
    rw [if_pos hc] at hq'
    split
    · exact h1.prop h39.2.1 h39.2.2.2
    · rename_i k0
      rw [if_neg k0] at hq'
      split
      · exact h1.vote (by omega) h39.2.2.2
      · rename_i k1
        rw [if_neg k1] at hq'
        exact h1.newview h39.2.2.2 h40 hq'
  · exact h1
theorem JV.view_le {V n : Nat} {M C : Nat → Nat → Nat} (h : JV V n M C) {r : Nat} (hr : r < n) : C (3 * r + 44) 0 ≤ V := by
  rw [(h.2.2.2.2.2.2.2.2.1 r hr).1]
  exact (show M 14 r ≤ V ∧ (r < M 0 1 → 1 ≤ M 14 r) from h.1.c 14 r).1
theorem CI.fl {V : Nat} {X : WX} {M C : Nat → Nat → Nat} (hC : CI V X C) (h : JV V X.2.2.1 M C) : ∀ k, CI V X (cFl C X.2.2.1 k)
  | 0 => hC
  | k + 1 => by
    have ih := CI.fl hC h k
    have hk := (h.fl (k + 1)).1
    show CI V X (if 0 < cFl C X.2.2.1 k 38 0 then cHand (cFl C X.2.2.1 k) X.2.2.1 0 else cFl C X.2.2.1 k)
    have e : cFl C X.2.2.1 (k + 1) = if 0 < cFl C X.2.2.1 k 38 0 then cHand (cFl C X.2.2.1 k) X.2.2.1 0 else cFl C X.2.2.1 k := rfl
    rw [e] at hk
    split
    · rename_i hc
      rw [if_pos hc] at hk
      exact ih.hand (fun r hr => hk.view_le hr)
    · exact ih
theorem CI.tickN {V : Nat} {X : WX} {S : Nat → Nat → Nat} {r : Nat} (h : CI V X S) (hV : V + 1 ≤ 20000) (hr : r < X.2.2.1) : CI (V + 1) X (cTickN S r) := by
  have hp := h.rp r
  have h' := h.mono (Nat.le_succ V) hV
  have h1 : CI (V + 1) X (up2 S (3 * r + 44) 1 (S (3 * r + 44) 1 + 1)) := h'.upR (j := 1) (show S (3 * r + 44) 1 + 1 ≤ V + 1 by omega)
  unfold cTickN
  split
  · have h2 : CI (V + 1) X (cTick1 S r) := by
      unfold cTick1
      refine (h1.enter (by omega) (by omega)).upR (j := 2) ?_
      show (if 32 < 2 * S (3 * r + 44) 2 then 32 else 2 * S (3 * r + 44) 2) ≤ 32
      split <;> omega
    have hl := cLeader_lt h (S (3 * r + 44) 0 + 1)
    exact h2.send (by decide) hl hr hp.2.2.2.2.2.2.1 (by omega)
  · exact h1
theorem CI.replay {V : Nat} {X : WX} {S : Nat → Nat → Nat} {tip : Nat} (h : CI V X S) : CI V X (cReplay S tip) := by
  have h0 := h.go0
  unfold cReplay
  generalize tip + 1 = k
  induction k with
  | zero => exact h0
  | succ k ih =>
    rw [itr_z]
    generalize itr (cRepF tip) 0 (cGo0 S) k = Z at ih
    unfold cRepF
    split
    · exact ih.settle
    · exact ih
-- what holds between two calls of the law
def KV (V : Nat) (X : WX) (S : Nat → Nat → Nat) : Prop := JV V X.2.2.1 S S ∧ CI V X S ∧ 10000 ≤ V
def MM (V : Nat) (P : Nat → Nat → Nat) : Prop := IW V P ∧ MI V P ∧ ParOk P (P 0 5)
theorem JV.mm {V n : Nat} {P C : Nat → Nat → Nat} (h : JV V n P C) : MM V P := ⟨h.1, h.2.1, h.2.2.1.par⟩
/-- a call on both sides: the class's first, then the reference's -/
theorem KV.call {V : Nat} {X : WX} {S P T : Nat → Nat → Nat} {α : Type} {q r : α} (h : KV V X S) (hV : V + 1 ≤ 20000) (hi : Hi S P) (lo : Lo P T) (hc : CI (V + 1) X P) (hj : JV V X.2.2.1 P S → q = r ∧ JV (V + 1) X.2.2.1 T P) : MM V P ∧ q = r ∧ KV (V + 1) X T := by
  have h1 := h.1.hi hi
  obtain ⟨g1, g2⟩ := hj h1
  exact ⟨h1.mm, g1, g2.lo lo, hc.lo lo, by have := h.2.2; omega⟩
theorem KV.up {V : Nat} {X : WX} {S : Nat → Nat → Nat} (h : KV V X S) (hV : V + 1 ≤ 20000) : KV (V + 1) X S := ⟨h.1.mono (Nat.le_succ V) hV, h.2.1.mono (Nat.le_succ V) hV, by have := h.2.2; omega⟩
theorem JVup {V n : Nat} {α : Type} {q r : α} {M C : Nat → Nat → Nat} (hV : V + 1 ≤ 20000) (h : q = r ∧ JV V n M C) : q = r ∧ JV (V + 1) n M C := ⟨h.1, h.2.mono (Nat.le_succ V) hV⟩
theorem KV.submit {V : Nat} {X : WX} {S : Nat → Nat → Nat} (h : KV V X S) (hV : V + 1 ≤ 20000) (a b c d : Int32) : MM V (pSubmit S X.2.2.1 a b c d) ∧ qSubmit S a b c d = rSubmit (pSubmit S X.2.2.1 a b c d) a b c d ∧ KV (V + 1) X (mSubmit (pSubmit S X.2.2.1 a b c d) a b c d) := by
  refine h.call hV (hi_submit _ _ _ _ _ _) (lo_submit _ _ _ _ _) ?_ (fun g => JVup hV (g.submit a b c d))
  have h' := h.2.1.mono (Nat.le_succ V) hV
  unfold pSubmit
  split
  · rename_i ok
    have ok' := of_decide_eq_true ok
    obtain ⟨o1, o2, o3, o4, o5, o6⟩ := ok'
    obtain ⟨jf, -, -, jf', cf⟩ := i_nat o2.1
    obtain ⟨jt, -, -, it, ct⟩ := i_nat o3.1
    obtain ⟨jm, -, -, im, cm⟩ := i_nat (show 0 ≤ d.toInt by omega)
    rw [cf, ct, cm]
    have h1 := h'.trAdd (a := jf) (b := jt) (c := jm) o6 (by omega) (by omega) (by omega)
    generalize X.2.2.1 = k
    induction k with
    | zero => exact h1
    | succ k ih => rw [itr_z]; exact ih.held o6
  · exact h'
theorem KV.lead {V : Nat} {X : WX} {S : Nat → Nat → Nat} (h : KV V X S) (hV : V + 1 ≤ 20000) (r : Int32) : MM V (pLead S X.2.2.1 r) ∧ qLead S X.2.2.1 r = rLead (pLead S X.2.2.1 r) r ∧ KV (V + 1) X (mLead (pLead S X.2.2.1 r) r) := by
  refine h.call hV (hi_lead _ _ _) (lo_lead _ _) ?_ (fun g => g.lead hV r)
  unfold pLead
  split
  · rename_i ok
    unfold qLeadOk at ok
    simp only [Bool.and_eq_true] at ok
    have hb := of_decide_eq_true ok.2
    exact (h.2.1.lead1 hV (by omega)).leads (by omega) _ (Nat.le_refl _)
  · exact h.2.1.mono (Nat.le_succ V) hV
theorem KV.tick {V : Nat} {X : WX} {S : Nat → Nat → Nat} (h : KV V X S) (hV : V + 1 ≤ 20000) (r : Int32) : MM V (pTick S r) ∧ qTick S r = rTick (pTick S r) r ∧ KV (V + 1) X (mTick (pTick S r) r) := by
  refine h.call hV (hi_tick _ _) (lo_tick _ _) ?_ (fun g => g.tick hV r)
  unfold pTick
  split
  · rename_i ok
    obtain ⟨j, hj, -, ej, -⟩ := cCorrect_ex h.2.1 ok
    rw [ej]
    exact h.2.1.tickN hV hj
  · exact h.2.1.mono (Nat.le_succ V) hV
theorem KV.deliver {V : Nat} {X : WX} {S : Nat → Nat → Nat} (h : KV V X S) (hV : V + 1 ≤ 20000) (i : Int32) : MM V (pDeliver S X.2.2.1 i) ∧ qDeliver S i = rDeliver (pDeliver S X.2.2.1 i) i ∧ KV (V + 1) X (mDeliver (pDeliver S X.2.2.1 i) i) := by
  refine h.call hV (hi_deliver _ _ _) (lo_deliver _ _) ?_ (fun g => JVup hV (g.deliver i))
  refine CI.mono ?_ (Nat.le_succ V) hV
  have hd := (h.1.deliver i).2
  unfold pDeliver at hd ⊢
  split
  · rename_i hc
    rw [if_pos hc] at hd
    exact h.2.1.hand (fun r hr => hd.view_le hr)
  · exact h.2.1
theorem KV.hF {V : Nat} {X : WX} {S : Nat → Nat → Nat} (h : KV V X S) : ∀ k, k ≤ 40 → CI V X (cFl S X.2.2.1 k) := fun k _ => h.2.1.fl h.1 k
theorem KV.flow {V : Nat} {X : WX} {S : Nat → Nat → Nat} (h : KV V X S) (hV : V + 1 ≤ 20000) (i : Int32) : MM V (pFlow S X.2.2.1 i) ∧ qFlow S X.2.2.1 i = rFlow (pFlow S X.2.2.1 i) i ∧ KV (V + 1) X (mFlow (pFlow S X.2.2.1 i) i) := by
  refine h.call hV (hi_flow _ _ _) (lo_flow _ _) ?_ (fun g => JVup hV (g.flow i))
  refine CI.mono ?_ (Nat.le_succ V) hV
  unfold pFlow
  split
  · exact h.2.1.fl h.1 _
  · exact h.2.1
theorem KV.drop {V : Nat} {X : WX} {S : Nat → Nat → Nat} (h : KV V X S) (hV : V + 1 ≤ 20000) (i : Int32) : MM V (pDrop S i) ∧ cPlace S i = rMsg (pDrop S i) i ∧ KV (V + 1) X (mDrop (pDrop S i) i) := by
  refine h.call hV (hi_drop _ _) (lo_drop _ _) ?_ (fun g => JVup hV (g.drop i))
  refine CI.mono ?_ (Nat.le_succ V) hV
  unfold pDrop
  split
  · exact h.2.1.rem
  · exact h.2.1
theorem KV.forge {V : Nat} {X : WX} {S : Nat → Nat → Nat} (h : KV V X S) (hV : V + 1 ≤ 20000) (a b c : Int32) : MM V (pForge S a b c) ∧ qForge S a b c = rForge (pForge S a b c) a b c ∧ KV (V + 1) X (mForge (pForge S a b c) a b c) := by
  refine h.call hV (hi_forge _ _ _ _) (lo_forge _ _ _ _) ?_ (fun g => JVup hV (g.forge h.2.2 a b c))
  refine CI.mono ?_ (Nat.le_succ V) hV
  have h10 := h.2.2
  unfold pForge
  split
  · rename_i hc
    unfold qForgeOk at hc
    simp only [Bool.and_eq_true] at hc
    obtain ⟨⟨⟨⟨⟨c1, c2⟩, c3⟩, c4⟩, c5⟩, c6⟩ := hc
    obtain ⟨jp, hp, -, ep, -⟩ := cHasCert_ex c1
    have c2' := of_decide_eq_true c2
    have c3' := of_decide_eq_true c3
    have c4' := of_decide_eq_true c4
    have c6' := of_decide_eq_true c6
    obtain ⟨jv, hv, -, iv, ev⟩ := i_nat (show 0 ≤ b.toInt by omega)
    obtain ⟨js, hs, -, is, es⟩ := i_nat c4'.1
    have ht := h.2.1.tr
    have hs2 : js < 2 ^ S 27 0 := by
      have := c4'.2
      rw [is] at this
      exact Int.ofNat_lt.mp this
    have p24 : (2 : Nat) ^ S 27 0 ≤ 2 ^ 24 := Nat.pow_le_pow_right (by decide) ht
    rw [ep, ev, es]
    exact h.2.1.add (by omega) (by omega) (by omega) (Nat.lt_of_lt_of_le hs2 p24)
  · exact h.2.1
theorem KV.offer {V : Nat} {X : WX} {S : Nat → Nat → Nat} (h : KV V X S) (hV : V + 1 ≤ 20000) (a b : Int32) : MM V (pOffer S a b) ∧ qOffer S a b = rOffer (pOffer S a b) a b ∧ KV (V + 1) X (mOffer (pOffer S a b) a b) := by
  refine h.call hV (hi_offer _ _ _) (lo_offer _ _ _) ?_ (fun g => JVup hV (g.offer a b))
  refine CI.mono ?_ (Nat.le_succ V) hV
  have hbl := h.2.1.bl
  have hnn := h.2.1.nn
  unfold pOffer
  split
  · rename_i hc
    unfold qOffer at hc
    simp only [Bool.and_eq_true] at hc
    obtain ⟨⟨jb, hb, -, eb, -⟩, jr, hr, -, er⟩ := cMaySend_ex h.2.1 hc.2
    rw [eb, er]
    exact h.2.1.send (by decide) hr (by omega) (by omega) (by decide)
  · exact h.2.1
theorem KV.vote {V : Nat} {X : WX} {S : Nat → Nat → Nat} (h : KV V X S) (hV : V + 1 ≤ 20000) (x a b : Int32) : MM V (pVote S x a b) ∧ qVote S x a b = rVote (pVote S x a b) x a b ∧ KV (V + 1) X (mVote (pVote S x a b) x a b) := by
  refine h.call hV (hi_pvote _ _ _ _) (lo_mvote _ _ _ _) ?_ (fun g => JVup hV (g.vote' x a b))
  refine CI.mono ?_ (Nat.le_succ V) hV
  have hbl := h.2.1.bl
  unfold pVote
  split
  · rename_i hc
    unfold qVote at hc
    simp only [Bool.and_eq_true] at hc
    obtain ⟨⟨jb, hb, -, eb, -⟩, jr, hr, -, er⟩ := cMaySend_ex h.2.1 hc.2
    obtain ⟨jx, hx, -, ex, -⟩ := cCorrupt_ex h.2.1 hc.1
    rw [eb, er, ex]
    exact h.2.1.send (by decide) hr hx (by omega) (by decide)
  · exact h.2.1
theorem KV.claim {V : Nat} {X : WX} {S : Nat → Nat → Nat} (h : KV V X S) (hV : V + 1 ≤ 20000) (x v a b : Int32) : MM V (pClaim S x v a b) ∧ qClaim S x v a b = rClaim (pClaim S x v a b) x v a b ∧ KV (V + 1) X (mClaim (pClaim S x v a b) x v a b) := by
  refine h.call hV (hi_claim _ _ _ _ _) (lo_claim _ _ _ _ _) ?_ (fun g => JVup hV (g.claim' x v a b))
  refine CI.mono ?_ (Nat.le_succ V) hV
  have hbl := h.2.1.bl
  have hn := h.2.1.n
  have hnn := h.2.1.nn
  unfold pClaim
  split
  · rename_i hc
    unfold qClaim at hc
    simp only [Bool.and_eq_true] at hc
    obtain ⟨⟨⟨⟨c1, c2⟩, c3⟩, c4⟩, c5⟩ := hc
    obtain ⟨jx, hx, -, ex, -⟩ := cCorrupt_ex h.2.1 c1
    obtain ⟨jb, hb, -, eb, -⟩ := cHasCert_ex c3
    obtain ⟨jr, hr, -, er⟩ := cRepl_nI (by omega) c4
    have c2' := of_decide_eq_true c2
    obtain ⟨jv, hv, -, iv, ev⟩ := i_nat (show 0 ≤ v.toInt by omega)
    rw [eb, er, ex, ev]
    exact h.2.1.send (by decide) (by omega) hx (by omega) hv
  · exact h.2.1
theorem KV.quest {V : Nat} {X : WX} {S : Nat → Nat → Nat} {α : Type} {q r : α} (h : KV V X S) (hV : V + 1 ≤ 20000) (hq : q = r) : MM V S ∧ q = r ∧ KV (V + 1) X S := ⟨h.1.mm, hq, h.up hV⟩
theorem KV.committed {V : Nat} {X : WX} {S : Nat → Nat → Nat} (h : KV V X S) (hV : V + 1 ≤ 20000) (a b : Int32) : MM V S ∧ qCommitted S a b = rCommitted S a b ∧ KV (V + 1) X (mCommitted S a b) :=
  h.call hV (Hi.r S) (lo_committed _ _ _) (h.2.1.mono (Nat.le_succ V) hV) (fun g => JVup hV ⟨g.committed a b, g.mcommitted a b⟩)
theorem KV.balance {V : Nat} {X : WX} {S : Nat → Nat → Nat} (h : KV V X S) (hV : V + 1 ≤ 20000) (a b : Int32) : MM V (pBalance S a b) ∧ qBalance S a b = rBalance (pBalance S a b) a b ∧ KV (V + 1) X (mBalance (pBalance S a b) a b) := by
  refine h.call hV (hi_balance _ _ _) (lo_balance _ _ _) ?_ (fun g => JVup hV (g.balance a b))
  refine CI.mono ?_ (Nat.le_succ V) hV
  unfold pBalance
  split
  · exact h.2.1.replay
  · exact h.2.1
theorem KV.outcome {V : Nat} {X : WX} {S : Nat → Nat → Nat} (h : KV V X S) (hV : V + 1 ≤ 20000) (a b : Int32) : MM V (pOutcome S a b) ∧ qOutcome S a b = rOutcome (pOutcome S a b) a b ∧ KV (V + 1) X (mOutcome (pOutcome S a b) a b) := by
  refine h.call hV (hi_outcome _ _ _) (lo_outcome _ _ _) ?_ (fun g => JVup hV (g.outcome a b))
  refine CI.mono ?_ (Nat.le_succ V) hV
  unfold pOutcome
  split
  · exact h.2.1.replay
  · exact h.2.1
