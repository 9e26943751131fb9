def Hi (S T : Nat → Nat → Nat) : Prop := ∀ row, row < 25 → T row = S row
def Lo (S T : Nat → Nat → Nat) : Prop := ∀ row, 25 ≤ row → T row = S row
theorem Hi.r (S : Nat → Nat → Nat) : Hi S S := fun _ _ => rfl
theorem Lo.r (S : Nat → Nat → Nat) : Lo S S := fun _ _ => rfl
theorem Hi.t {S T U : Nat → Nat → Nat} (h : Hi S T) (k : Hi T U) : Hi S U := fun row hr => (k row hr).trans (h row hr)
theorem Lo.t {S T U : Nat → Nat → Nat} (h : Lo S T) (k : Lo T U) : Lo S U := fun row hr => (k row hr).trans (h row hr)
theorem Hi.up {S T : Nat → Nat → Nat} (h : Hi S T) {k j v : Nat} (hk : 25 ≤ k) : Hi S (up2 T k j v) := fun row hr => by rw [up2_ne _ _ _ (by omega)]; exact h row hr
theorem Lo.up {S T : Nat → Nat → Nat} (h : Lo S T) {k j v : Nat} (hk : k < 25) : Lo S (up2 T k j v) := fun row hr => by rw [up2_ne _ _ _ (by omega)]; exact h row hr
theorem Hi.itr {S : Nat → Nat → Nat} {f : Nat → (Nat → Nat → Nat) → (Nat → Nat → Nat)} (hf : ∀ i Z, Hi Z (f i Z)) : ∀ k, Hi S (itr f 0 S k)
  | 0 => Hi.r S
  | k + 1 => (Hi.itr hf k).t (hf _ _)
theorem Lo.itr {S : Nat → Nat → Nat} {f : Nat → (Nat → Nat → Nat) → (Nat → Nat → Nat)} (hf : ∀ i Z, Lo Z (f i Z)) : ∀ k, Lo S (itr f 0 S k)
  | 0 => Lo.r S
  | k + 1 => (Lo.itr hf k).t (hf _ _)
-- the class
theorem hi_send (S : Nat → Nat → Nat) (a b c d e : Nat) : Hi S (cSend S a b c d e) := by
  unfold cSend
  split
  · exact (Hi.r S).up (by decide)
  · exact (((Hi.r S).up (by decide)).up (by decide)).up (by decide)
theorem hi_rem (S : Nat → Nat → Nat) (i : Nat) : Hi S (cRem S i) := fun row hr => cRem_ne (by omega) (by omega) (by omega)
theorem hi_enter (S : Nat → Nat → Nat) (r v : Nat) : Hi S (cEnter S r v) := fun row hr => cEnter_ne (by omega)
theorem hi_see (S : Nat → Nat → Nat) (r x : Nat) : Hi S (cSee S r x) := fun row hr => cSee_ne (by omega)
theorem hi_gp1 (S : Nat → Nat → Nat) (r b : Nat) : Hi S (cGP1 S r b) := by
  unfold cGP1
  split
  · exact (hi_see S r _).t (hi_enter _ _ _)
  · exact hi_see S r _
theorem hi_prop (S : Nat → Nat → Nat) (r b : Nat) : Hi S (cGetProposal S r b) := by
  unfold cGetProposal
  split
  · exact (((hi_gp1 S r b).up (by omega)).up (by decide)).t (hi_send _ _ _ _ _ _)
  · exact hi_gp1 S r b
theorem hi_vote (S : Nat → Nat → Nat) (r x b : Nat) : Hi S (cGetVote S r x b) := by
  unfold cGetVote
  split
  · exact ((Hi.r S).up (by omega)).t (hi_see _ _ _)
  · exact (Hi.r S).up (by omega)
theorem hi_gn1 (S : Nat → Nat → Nat) (r x b v : Nat) : Hi S (cGN1 S r x b v) := ((Hi.r S).up (by omega)).t (hi_see _ _ _)
theorem hi_newview (S : Nat → Nat → Nat) (n r x b v : Nat) : Hi S (cGetNewView S n r x b v) := by
  unfold cGetNewView
  split
  · exact (hi_gn1 S r x b v).t (hi_enter _ _ _)
  · exact hi_gn1 S r x b v
theorem hi_hand (S : Nat → Nat → Nat) (n i : Nat) : Hi S (cHand S n i) := by
  unfold cHand
  split
  · split
    · exact (hi_rem S i).t (hi_prop _ _ _)
    · split
      · exact (hi_rem S i).t (hi_vote _ _ _ _)
      · exact (hi_rem S i).t (hi_newview _ _ _ _ _ _)
  · exact hi_rem S i
theorem hi_fl (S : Nat → Nat → Nat) (n : Nat) : ∀ k, Hi S (cFl S n k)
  | 0 => Hi.r S
  | k + 1 => by
    show Hi S (if 0 < cFl S n k 38 0 then cHand (cFl S n k) n 0 else cFl S n k)
    split
    · exact (hi_fl S n k).t (hi_hand _ _ _)
    · exact hi_fl S n k
theorem hi_add (S : Nat → Nat → Nat) (p v s : Nat) : Hi S (cAdd S p v s) := by
  unfold cAdd
  exact ((((((Hi.r S).up (by decide)).up (by decide)).up (by decide)).up (by decide)).up (by decide)).up (by decide)
theorem hi_replay (S : Nat → Nat → Nat) (tip : Nat) : Hi S (cReplay S tip) := fun row hr => cReplay_ne (by omega) (by omega)
theorem hi_tickN (S : Nat → Nat → Nat) (r : Nat) : Hi S (cTickN S r) := by
  have h1 : Hi S (cTick1 S r) := fun row hr => cTick1_ne (by omega)
  unfold cTickN
  split
  · exact h1.t (hi_send _ _ _ _ _ _)
  · exact (Hi.r S).up (by omega)
theorem hi_submit (S : Nat → Nat → Nat) (n : Nat) (a b c d : Int32) : Hi S (pSubmit S n a b c d) := by
  unfold pSubmit
  split
  · refine Hi.t (T := cTrAdd S b.toNatClampNeg c.toNatClampNeg d.toNatClampNeg) ?_ (Hi.itr (fun i Z => ?_) n)
    · exact ((((Hi.r S).up (by decide)).up (by decide)).up (by decide)).up (by decide)
    · unfold cHeldF
      split
      · exact (Hi.r Z).up (by omega)
      · exact Hi.r Z
  · exact Hi.r S
theorem hi_lead (S : Nat → Nat → Nat) (n : Nat) (r : Int32) : Hi S (pLead S n r) := by
  unfold pLead
  split
  · refine Hi.t (T := cLead1 S r.toNatClampNeg) ?_ (Hi.itr (fun i Z => hi_send _ _ _ _ _ _) n)
    exact (hi_add S _ _ _).up (by omega)
  · exact Hi.r S
theorem hi_tick (S : Nat → Nat → Nat) (r : Int32) : Hi S (pTick S r) := by
  unfold pTick
  split
  · exact hi_tickN _ _
  · exact Hi.r S
theorem hi_deliver (S : Nat → Nat → Nat) (n : Nat) (i : Int32) : Hi S (pDeliver S n i) := by
  unfold pDeliver
  split
  · exact hi_hand _ _ _
  · exact Hi.r S
theorem hi_flow (S : Nat → Nat → Nat) (n : Nat) (i : Int32) : Hi S (pFlow S n i) := by
  unfold pFlow
  split
  · exact hi_fl _ _ _
  · exact Hi.r S
theorem hi_drop (S : Nat → Nat → Nat) (i : Int32) : Hi S (pDrop S i) := by
  unfold pDrop
  split
  · exact hi_rem _ _
  · exact Hi.r S
theorem hi_forge (S : Nat → Nat → Nat) (a b c : Int32) : Hi S (pForge S a b c) := by
  unfold pForge
  split
  · exact hi_add _ _ _ _
  · exact Hi.r S
theorem hi_offer (S : Nat → Nat → Nat) (a b : Int32) : Hi S (pOffer S a b) := by
  unfold pOffer
  split
  · exact hi_send _ _ _ _ _ _
  · exact Hi.r S
theorem hi_pvote (S : Nat → Nat → Nat) (a b c : Int32) : Hi S (pVote S a b c) := by
  unfold pVote
  split
  · exact hi_send _ _ _ _ _ _
  · exact Hi.r S
theorem hi_claim (S : Nat → Nat → Nat) (a b c d : Int32) : Hi S (pClaim S a b c d) := by
  unfold pClaim
  split
  · exact hi_send _ _ _ _ _ _
  · exact Hi.r S
theorem hi_balance (S : Nat → Nat → Nat) (a b : Int32) : Hi S (pBalance S a b) := by
  unfold pBalance
  split
  · exact hi_replay _ _
  · exact Hi.r S
theorem hi_outcome (S : Nat → Nat → Nat) (a b : Int32) : Hi S (pOutcome S a b) := by
  unfold pOutcome
  split
  · exact hi_replay _ _
  · exact Hi.r S
-- the reference
theorem lo_send (S : Nat → Nat → Nat) (a b c d e : Nat) : Lo S (mSend S a b c d e) := by
  unfold mSend
  split
  · exact (Lo.r S).up (by decide)
  · exact ((((((Lo.r S).up (by decide)).up (by decide)).up (by decide)).up (by decide)).up (by decide)).up (by decide)
theorem lo_take (S : Nat → Nat → Nat) (i : Nat) : Lo S (mTake S i) := fun row hr => funext (fun x => by rw [mTake_at, if_neg (by omega), if_neg (by omega)])
theorem lo_enter (S : Nat → Nat → Nat) (r v : Nat) : Lo S (mEnter S r v) := fun row hr => mEnter_ne (by omega) (by omega)
theorem lo_see (S : Nat → Nat → Nat) (r x : Nat) : Lo S (mSee S r x) := fun row hr => mSee_ne (by omega) (by omega) (by omega) (by omega)
theorem lo_gp1 (S : Nat → Nat → Nat) (r b : Nat) : Lo S (mGP1 S r b) := fun row hr => mGP1_ne (by omega) (by omega) (by omega) (by omega)
theorem lo_prop (S : Nat → Nat → Nat) (r b : Nat) : Lo S (mGetProposal S r b) := by
  unfold mGetProposal
  split
  · exact (((lo_gp1 S r b).up (by decide)).up (by decide)).t (lo_send _ _ _ _ _ _)
  · exact lo_gp1 S r b
theorem lo_vote (S : Nat → Nat → Nat) (r x b : Nat) : Lo S (mGetVote S r x b) := by
  unfold mGetVote
  split
  · exact ((Lo.r S).up (by decide)).t (lo_see _ _ _)
  · exact (Lo.r S).up (by decide)
theorem lo_gn1 (S : Nat → Nat → Nat) (r x b v : Nat) : Lo S (mGN1 S r x b v) := by
  unfold mGN1
  split
  · exact (lo_see S r b).up (by decide)
  · exact lo_see S r b
theorem lo_newview (S : Nat → Nat → Nat) (r x b v : Nat) : Lo S (mGetNewView S r x b v) := by
  unfold mGetNewView
  split
  · exact (lo_gn1 S r x b v).t (lo_enter _ _ _)
  · exact lo_gn1 S r x b v
theorem lo_hand (S : Nat → Nat → Nat) (i : Nat) : Lo S (mHand S i) := by
  unfold mHand
  split
  · exact lo_take S i
  · split
    · exact (lo_take S i).t (lo_prop _ _ _)
    · split
      · exact (lo_take S i).t (lo_vote _ _ _ _)
      · exact (lo_take S i).t (lo_newview _ _ _ _ _)
theorem lo_fl (S : Nat → Nat → Nat) : ∀ k, Lo S (mFl S k)
  | 0 => Lo.r S
  | k + 1 => by
    show Lo S (if 0 < mFl S k 0 6 then mHand (mFl S k) 0 else mFl S k)
    split
    · exact (lo_fl S k).t (lo_hand _ _)
    · exact lo_fl S k
theorem lo_new (S : Nat → Nat → Nat) (p v s : Nat) : Lo S (mNewBlock S p v s) := by
  unfold mNewBlock
  exact ((((Lo.r S).up (by decide)).up (by decide)).up (by decide)).up (by decide)
theorem lo_go (S : Nat → Nat → Nat) (r : Nat) : Lo S (mGo S r) := fun row hr => mGo_ne (by omega) (by omega) (by omega)
theorem lo_submit (S : Nat → Nat → Nat) (a b c d : Int32) : Lo S (mSubmit S a b c d) := by
  unfold mSubmit
  split
  · exact (((((Lo.r S).up (by decide)).up (by decide)).up (by decide)).up (by decide)).up (by decide)
  · exact Lo.r S
theorem lo_lead (S : Nat → Nat → Nat) (r : Int32) : Lo S (mLead S r) := by
  unfold mLead
  split
  · refine Lo.t (T := mLead1 S r.toNatClampNeg) ?_ (Lo.itr (fun i Z => lo_send _ _ _ _ _ _) _)
    exact (lo_new S _ _ _).up (by decide)
  · exact Lo.r S
theorem lo_tick (S : Nat → Nat → Nat) (r : Int32) : Lo S (mTick S r) := by
  unfold mTick
  split
  · have h1 : Lo S (mTick1 S r.toNatClampNeg) := fun row hr => mTick1_rows (by omega) (by omega) (by omega)
    unfold mTickN
    split
    · exact h1.t (lo_send _ _ _ _ _ _)
    · exact (Lo.r S).up (by decide)
  · exact Lo.r S
theorem lo_deliver (S : Nat → Nat → Nat) (i : Int32) : Lo S (mDeliver S i) := by
  unfold mDeliver
  split
  · exact lo_hand _ _
  · exact Lo.r S
theorem lo_flow (S : Nat → Nat → Nat) (i : Int32) : Lo S (mFlow S i) := by
  unfold mFlow
  split
  · rw [(mFl_eq _ _).1]
    exact lo_fl _ _
  · exact Lo.r S
theorem lo_drop (S : Nat → Nat → Nat) (i : Int32) : Lo S (mDrop S i) := by
  unfold mDrop
  split
  · exact lo_take _ _
  · exact Lo.r S
theorem lo_forge (S : Nat → Nat → Nat) (a b c : Int32) : Lo S (mForge S a b c) := by
  unfold mForge
  split
  · exact lo_new _ _ _ _
  · exact Lo.r S
theorem lo_offer (S : Nat → Nat → Nat) (a b : Int32) : Lo S (mOffer S a b) := by
  unfold mOffer
  split
  · exact lo_send _ _ _ _ _ _
  · exact Lo.r S
theorem lo_mvote (S : Nat → Nat → Nat) (a b c : Int32) : Lo S (mVote S a b c) := by
  unfold mVote
  split
  · exact lo_send _ _ _ _ _ _
  · exact Lo.r S
theorem lo_claim (S : Nat → Nat → Nat) (a b c d : Int32) : Lo S (mClaim S a b c d) := by
  unfold mClaim
  split
  · exact lo_send _ _ _ _ _ _
  · exact Lo.r S
theorem lo_committed (S : Nat → Nat → Nat) (a b : Int32) : Lo S (mCommitted S a b) := by
  unfold mCommitted
  split
  · exact fun row hr => mLay_ne (by omega)
  · exact Lo.r S
theorem lo_balance (S : Nat → Nat → Nat) (a b : Int32) : Lo S (mBalance S a b) := by
  unfold mBalance
  split
  · exact lo_go _ _
  · exact Lo.r S
theorem lo_outcome (S : Nat → Nat → Nat) (a b : Int32) : Lo S (mOutcome S a b) := by
  unfold mOutcome
  split
  · exact lo_go _ _
  · exact Lo.r S
