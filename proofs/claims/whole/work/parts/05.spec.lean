def itr {α : Type} (f : Nat → α → α) (i : Nat) (z : α) : Nat → α
  | 0 => z
  | k + 1 => f (i + k) (itr f i z k)
theorem itr_0 {α : Type} (f : Nat → α → α) (i : Nat) (z : α) : itr f i z 0 = z := rfl
theorem itr_s {α : Type} (f : Nat → α → α) (i : Nat) (z : α) (k : Nat) : itr f i z (k + 1) = f (i + k) (itr f i z k) := rfl
/-- the step of a loop whose variable starts at i and stands at b -/
theorem itr_b {α : Type} (f : Nat → α → α) {i b : Nat} (z : α) (h : i ≤ b) : itr f i z (b + 1 - i) = f b (itr f i z (b - i)) := by
  rw [show b + 1 - i = (b - i) + 1 by omega, itr_s, show i + (b - i) = b by omega]
theorem itr_b0 {α : Type} (f : Nat → α → α) (i : Nat) (z : α) : itr f i z (i - i) = z := by rw [Nat.sub_self]; rfl
-- the reference (rows 0 to 24)
def mRep (S : Nat → Nat → Nat) (r : Int32) : Bool := decide (0 ≤ r.toInt) && decide (r.toInt < (S 0 1 : Int))
def mCorrect (S : Nat → Nat → Nat) (r : Int32) : Bool := mRep S r && decide (S 0 3 / 2 ^ r.toNatClampNeg % 2 = 0)
def mCorrupt (S : Nat → Nat → Nat) (r : Int32) : Bool := mRep S r && decide (S 0 3 / 2 ^ r.toNatClampNeg % 2 = 1)
def mBlock (S : Nat → Nat → Nat) (b : Int32) : Bool := decide (0 ≤ b.toInt) && decide (b.toInt < (S 0 5 : Int))
def mLeader (S : Nat → Nat → Nat) (v : Nat) : Nat := (v - 1) / S 0 2 % S 0 1
def mSize (a : Nat) : Nat := itr (fun i acc => acc + a / 2 ^ i % 2) 0 0 7
def mCert (S : Nat → Nat → Nat) (b : Nat) : Bool := decide (b = 0) || decide (2 * S 0 0 + 1 ≤ mSize (S 8 b ||| S 0 3))
def mInC (S : Nat → Nat → Nat) (a : Nat) : Nat → Nat → Bool
  | 0, x => decide (x = a)
  | f + 1, x => if x = a then true else if x = 0 then false else mInC S a f (S 6 x)
def mHighF (S : Nat → Nat → Nat) (r b best : Nat) : Nat := if ¬ S 19 (40 * r + b) = 0 ∧ S 5 best < S 5 b then b else best
def mHigh (S : Nat → Nat → Nat) (r : Nat) : Nat := itr (mHighF S r) 1 0 (S 0 5 - 1)
def mLockF (S : Nat → Nat → Nat) (r b best : Nat) : Nat := if ¬ S 19 (40 * r + b) = 0 ∧ S 5 best < S 5 (S 6 b) then S 6 b else best
def mLock (S : Nat → Nat → Nat) (r : Nat) : Nat := itr (mLockF S r) 1 0 (S 0 5 - 1)
def mThree (S : Nat → Nat → Nat) (r x : Nat) : Prop := ¬ S 19 (40 * r + x) = 0 ∧ 0 < S 6 x ∧ S 5 x = S 5 (S 6 x) + 1 ∧ S 5 (S 6 x) = S 5 (S 6 (S 6 x)) + 1
def mTipF (S : Nat → Nat → Nat) (r x best : Nat) : Nat := if (¬ S 19 (40 * r + x) = 0 ∧ 0 < S 6 x ∧ S 5 x = S 5 (S 6 x) + 1 ∧ S 5 (S 6 x) = S 5 (S 6 (S 6 x)) + 1) ∧ S 5 best < S 5 (S 6 (S 6 x)) then S 6 (S 6 x) else best
def mTip (S : Nat → Nat → Nat) (r : Nat) : Nat := itr (mTipF S r) 1 0 (S 0 5 - 1)
def mCntF (S : Nat → Nat → Nat) (r v q many : Nat) : Nat := if v ≤ S 21 (7 * r + q) then many + 1 else many
def mCnt (S : Nat → Nat → Nat) (r v : Nat) : Nat := itr (mCntF S r v) 0 0 (S 0 1)
def mPushF (S : Nat → Nat → Nat) (r x best : Nat) : Nat := if 2 * S 0 0 + 1 ≤ mCnt S r (S 21 (7 * r + x)) ∧ best < S 21 (7 * r + x) then S 21 (7 * r + x) else best
def mPush (S : Nat → Nat → Nat) (r : Nat) : Nat := itr (mPushF S r) 0 0 (S 0 1)
def mSend (S : Nat → Nat → Nat) (what sender receiver block v : Nat) : Nat → Nat → Nat :=
  if 40 ≤ S 0 6 then up2 S 0 7 (S 0 7 + 1) else up2 (up2 (up2 (up2 (up2 (up2 S 9 (S 0 6) what) 11 (S 0 6) sender) 10 (S 0 6) receiver) 12 (S 0 6) block) 13 (S 0 6) v) 0 6 (S 0 6 + 1)
def mEnter (S : Nat → Nat → Nat) (r v : Nat) : Nat → Nat → Nat := up2 (up2 S 14 r v) 15 r 0
def mSee (S : Nat → Nat → Nat) (r x : Nat) : Nat → Nat → Nat :=
  if S 5 x < S 14 r then up2 S 19 (40 * r + x) 1 else up2 (mEnter (up2 S 19 (40 * r + x) 1) r (S 5 x + 1)) 16 r 2
def mNewBlock (S : Nat → Nat → Nat) (v parent set : Nat) : Nat → Nat → Nat := up2 (up2 (up2 (up2 S 5 (S 0 5) v) 6 (S 0 5) parent) 7 (S 0 5) set) 0 5 (S 0 5 + 1)
def mGP1 (S : Nat → Nat → Nat) (r b : Nat) : Nat → Nat → Nat := if mSee S r (S 6 b) 14 r < S 5 b then mEnter (mSee S r (S 6 b)) r (S 5 b) else mSee S r (S 6 b)
def mVotes (S : Nat → Nat → Nat) (r b : Nat) : Bool := decide (S 14 r = S 5 b) && decide (S 17 r < S 5 b) && (mInC S (mLock S r) 40 b || decide (S 5 (mLock S r) < S 5 (S 6 b)))
def mGetProposal (S : Nat → Nat → Nat) (r b : Nat) : Nat → Nat → Nat :=
  if mVotes (mGP1 S r b) r b = true then mSend (up2 (up2 (mGP1 S r b) 17 r (S 5 b)) 8 b (mGP1 S r b 8 b ||| 1 * 2 ^ r)) 1 r (mLeader (mGP1 S r b) (S 5 b + 1)) b 0 else mGP1 S r b
def mGetVote (S : Nat → Nat → Nat) (r x b : Nat) : Nat → Nat → Nat :=
  if 2 * S 0 0 + 1 ≤ mSize (S 20 (40 * r + b) ||| 1 * 2 ^ x) then mSee (up2 S 20 (40 * r + b) (S 20 (40 * r + b) ||| 1 * 2 ^ x)) r b else up2 S 20 (40 * r + b) (S 20 (40 * r + b) ||| 1 * 2 ^ x)
def mGN1 (S : Nat → Nat → Nat) (r x b v : Nat) : Nat → Nat → Nat := if mSee S r b 21 (7 * r + x) < v then up2 (mSee S r b) 21 (7 * r + x) v else mSee S r b
def mGetNewView (S : Nat → Nat → Nat) (r x b v : Nat) : Nat → Nat → Nat := if mGN1 S r x b v 14 r < mPush (mGN1 S r x b v) r then mEnter (mGN1 S r x b v) r (mPush (mGN1 S r x b v) r) else mGN1 S r x b v
def mTakeF (j : Nat) (S : Nat → Nat → Nat) : Nat → Nat → Nat := up2 (up2 (up2 (up2 (up2 S 9 j (S 9 (j + 1))) 11 j (S 11 (j + 1))) 10 j (S 10 (j + 1))) 12 j (S 12 (j + 1))) 13 j (S 13 (j + 1))
def mTake (S : Nat → Nat → Nat) (i : Nat) : Nat → Nat → Nat := itr mTakeF i (up2 S 0 6 (S 0 6 - 1)) (S 0 6 - 1 - i)
def mHand (S : Nat → Nat → Nat) (i : Nat) : Nat → Nat → Nat :=
  if S 0 3 / 2 ^ S 10 i % 2 = 1 then mTake S i
  else if S 9 i = 0 then mGetProposal (mTake S i) (S 10 i) (S 12 i)
  else if S 9 i = 1 then mGetVote (mTake S i) (S 10 i) (S 11 i) (S 12 i)
  else mGetNewView (mTake S i) (S 10 i) (S 11 i) (S 12 i) (S 13 i)
-- walking down a chain: what its blocks carry, where it comes to
def mUsedF (S : Nat → Nat → Nat) (_ : Nat) (q : Nat × Nat) : Nat × Nat := (q.1 ||| S 7 q.2, S 6 q.2)
def mUsed (S : Nat → Nat → Nat) (b : Nat) : Nat := (itr (mUsedF S) 0 (0, b) 40).1
def mPickF (S : Nat → Nat → Nat) (r used t : Nat) (q : Nat × Nat) : Nat × Nat := if q.2 < 2 ∧ S 1 t / 2 ^ r % 2 = 1 ∧ used / 2 ^ t % 2 = 0 then (q.1 ||| 1 * 2 ^ t, q.2 + 1) else q
def mPick (S : Nat → Nat → Nat) (r used : Nat) : Nat := (itr (mPickF S r used) 0 (0, 0) (S 0 4)).1
def mLeadOk (S : Nat → Nat → Nat) (r : Int32) : Bool := mCorrect S r && decide (mLeader S (S 14 r.toNatClampNeg) = r.toNatClampNeg) && !decide (S 18 r.toNatClampNeg = S 14 r.toNatClampNeg) && decide (S 0 5 < 40) && (decide (S 14 r.toNatClampNeg = 1) || decide (S 5 (mHigh S r.toNatClampNeg) = S 14 r.toNatClampNeg - 1) || decide (S 14 r.toNatClampNeg ≤ mPush S r.toNatClampNeg))
def mLead1 (S : Nat → Nat → Nat) (r : Nat) : Nat → Nat → Nat := up2 (mNewBlock S (S 14 r) (mHigh S r) (mPick S r (mUsed S (mHigh S r)))) 18 r (S 14 r)
def mLead (S : Nat → Nat → Nat) (r : Int32) : Nat → Nat → Nat := if mLeadOk S r = true then itr (fun q Z => mSend Z 0 0 q (S 0 5) 0) 0 (mLead1 S r.toNatClampNeg) (S 0 1) else S
def mTick1 (S : Nat → Nat → Nat) (r : Nat) : Nat → Nat → Nat := up2 (mEnter (up2 S 15 r (S 15 r + 1)) r (S 14 r + 1)) 16 r (if 16 < S 16 r then 32 else 2 * S 16 r)
def mTickN (S : Nat → Nat → Nat) (r : Nat) : Nat → Nat → Nat := if S 15 r + 1 = S 16 r then mSend (mTick1 S r) 2 r (mLeader S (S 14 r + 1)) (mHigh S r) (S 14 r + 1) else up2 S 15 r (S 15 r + 1)
def mTick (S : Nat → Nat → Nat) (r : Int32) : Nat → Nat → Nat := if mCorrect S r = true then mTickN S r.toNatClampNeg else S
def mMsg (S : Nat → Nat → Nat) (i : Int32) : Bool := decide (0 ≤ i.toInt) && decide (i.toInt < (S 0 6 : Int))
def mFlowF (_ : Nat) (S : Nat → Nat → Nat) : Nat → Nat → Nat := mHand S 0
/-- how often the first message is handed over: the loop's own count of at most so many -/
def mFlowN : Nat → (Nat → Nat → Nat) → Nat
  | 0, _ => 0
  | k + 1, S => if 0 < S 0 6 then mFlowN k (mHand S 0) + 1 else 0
def mFlowS : Nat → (Nat → Nat → Nat) → Nat → Nat → Nat
  | 0, S => S
  | k + 1, S => if 0 < S 0 6 then mFlowS k (mHand S 0) else S
