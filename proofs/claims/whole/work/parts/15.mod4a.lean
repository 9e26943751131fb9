-- masks
theorem mask_eq (a m : Nat) : nI a &&& (nI m ^^^ (-1)) = nI (a &&& (m ^^^ 4294967295)) := by
  apply Int32.toBitVec_inj.1
  show BitVec.ofNat 32 a &&& (BitVec.ofNat 32 m ^^^ BitVec.ofNat 32 4294967295) = BitVec.ofNat 32 (a &&& (m ^^^ 4294967295))
  apply BitVec.eq_of_getLsbD_eq
  intro i hi
  simp [hi]
theorem i_of32 (x : Int32) : ∃ a, a < 2 ^ 32 ∧ x = nI a := ⟨x.toBitVec.toNat, x.toBitVec.isLt, by
  apply Int32.toBitVec_inj.1
  show x.toBitVec = BitVec.ofNat 32 x.toBitVec.toNat
  simp⟩
theorem nI_z {a : Nat} (ha : a < 2 ^ 32) (h : nI a = 0) : a = 0 := by
  have h1 : (nI a).toBitVec.toNat = a := pk_tn ha
  rw [h] at h1
  exact h1.symm
theorem full_bit {i : Nat} : (4294967295 : Nat).testBit i = decide (i < 32) := by
  rw [show (4294967295 : Nat) = 2 ^ 32 - 1 from rfl, Nat.testBit_two_pow_sub_one]
theorem mask_bits {a k : Nat} (hk : k ≤ 31) (ha : a < 2 ^ 32) : a &&& ((1 * 2 ^ k - 1) ^^^ 4294967295) = 0 ↔ a < 2 ^ k := by
  rw [Nat.one_mul]
  constructor
  · intro h
    apply Nat.lt_pow_two_of_testBit
    intro i hi
    have h1 : (a &&& ((2 ^ k - 1) ^^^ 4294967295)).testBit i = false := by rw [h]; exact Nat.zero_testBit i
    rw [Nat.testBit_and, Nat.testBit_xor, Nat.testBit_two_pow_sub_one, full_bit] at h1
    by_cases h32 : i < 32
    · rw [decide_eq_false (show ¬ i < k by omega), decide_eq_true h32] at h1
      simpa using h1
    · exact Nat.testBit_lt_two_pow (Nat.lt_of_lt_of_le ha (Nat.pow_le_pow_right (by decide) (by omega)))
  · intro h
    apply Nat.eq_of_testBit_eq
    intro i
    rw [Nat.zero_testBit, Nat.testBit_and, Nat.testBit_xor, Nat.testBit_two_pow_sub_one, full_bit]
    by_cases hi : i < k
    · rw [decide_eq_true hi, decide_eq_true (show i < 32 by omega)]
      simp
    · rw [Nat.testBit_lt_two_pow (Nat.lt_of_lt_of_le h (Nat.pow_le_pow_right (by decide) (by omega)))]
      simp
theorem mask_iff {x : Int32} {k : Nat} (hk : k ≤ 30) : (x &&& (nI (1 * 2 ^ k - 1) ^^^ (-1))) = 0 ↔ 0 ≤ x.toInt ∧ x.toInt < ((2 ^ k : Nat) : Int) := by
  obtain ⟨a, ha, rfl⟩ := i_of32 x
  rw [mask_eq]
  have hlt : a &&& ((1 * 2 ^ k - 1) ^^^ 4294967295) < 2 ^ 32 := Nat.lt_of_le_of_lt Nat.and_le_left ha
  have h2k : 2 ^ k ≤ 2 ^ 30 := Nat.pow_le_pow_right (by decide) hk
  constructor
  · intro h
    have h1 := (mask_bits (by omega) ha).mp (nI_z hlt h)
    rw [nI_toInt (by omega)]
    omega
  · intro h
    have h1 : a < 2 ^ k := by
      by_cases h31 : a < 2 ^ 31
      · rw [nI_toInt h31] at h
        omega
      · have : (nI a).toInt < 0 := by
          apply Classical.byContradiction
          intro q
          obtain ⟨j, hj, hje, -⟩ := i_nat (x := nI a) (by omega)
          have e1 : (nI a).toBitVec.toNat = a := pk_tn ha
          have e2 : (nI j).toBitVec.toNat = j := pk_tn (by omega)
          rw [hje] at e1
          omega
        omega
    rw [(mask_bits (by omega) ha).mpr h1]
    rfl
-- answers and ends of the reference's calls
def rSubOk (S : Nat → Nat → Nat) (h fr to am : Int32) : Bool := decide ((0 ≤ h.toInt ∧ h.toInt < ((2 ^ S 0 1 : Nat) : Int)) ∧ (0 ≤ fr.toInt ∧ fr.toInt ≤ 3) ∧ (0 ≤ to.toInt ∧ to.toInt ≤ 3) ∧ ¬ fr = to ∧ (1 ≤ am.toInt ∧ am.toInt ≤ 1000) ∧ S 0 4 < 24)
def rSubmit (S : Nat → Nat → Nat) (h fr to am : Int32) : Int32 := if rSubOk S h fr to am = true then nI (S 0 4) else -1
def mSubmit (S : Nat → Nat → Nat) (h fr to am : Int32) : Nat → Nat → Nat := if rSubOk S h fr to am = true then up2 (up2 (up2 (up2 (up2 S 1 (S 0 4) h.toNatClampNeg) 2 (S 0 4) fr.toNatClampNeg) 3 (S 0 4) to.toNatClampNeg) 4 (S 0 4) am.toNatClampNeg) 0 4 (S 0 4 + 1) else S
def rMessage (S : Nat → Nat → Nat) (i : Int32) : Int32 := if 0 ≤ i.toInt ∧ i.toInt < (S 0 6 : Int) then nI (S 9 i.toNatClampNeg + 4 * S 10 i.toNatClampNeg + 32 * S 11 i.toNatClampNeg + 256 * S 12 i.toNatClampNeg) else -1
def rBlock (S : Nat → Nat → Nat) (b : Int32) : Int32 := if mBlock S b = true then nI (64 * S 5 b.toNatClampNeg + S 6 b.toNatClampNeg) else -1
def rPayload (S : Nat → Nat → Nat) (b : Int32) : Int32 := if mBlock S b = true then nI (S 7 b.toNatClampNeg) else -1
def rVotes (S : Nat → Nat → Nat) (b : Int32) : Int32 := if mBlock S b = true then nI (S 8 b.toNatClampNeg) else -1
def rMsg (S : Nat → Nat → Nat) (i : Int32) : Bool := decide (0 ≤ i.toInt ∧ i.toInt < (S 0 6 : Int))
def mDrop (S : Nat → Nat → Nat) (i : Int32) : Nat → Nat → Nat := if rMsg S i = true then mTake S i.toNatClampNeg else S
def rOffer (S : Nat → Nat → Nat) (b r : Int32) : Bool := decide (¬ S 0 3 = 0) && decide (¬ b.toInt = 0) && mBlock S b && mRep S r && decide (S 0 6 < 40)
def mOffer (S : Nat → Nat → Nat) (b r : Int32) : Nat → Nat → Nat := if rOffer S b r = true then mSend S 0 0 r.toNatClampNeg b.toNatClampNeg 0 else S
def rVote (S : Nat → Nat → Nat) (x b r : Int32) : Bool := mCorrupt S x && decide (¬ b.toInt = 0) && mBlock S b && mRep S r && decide (S 0 6 < 40)
def mVote (S : Nat → Nat → Nat) (x b r : Int32) : Nat → Nat → Nat := if rVote S x b r = true then mSend S 1 x.toNatClampNeg r.toNatClampNeg b.toNatClampNeg 0 else S
def rClaim (S : Nat → Nat → Nat) (x v b r : Int32) : Bool := mCorrupt S x && decide (1 ≤ v.toInt) && mBlock S b && mCert S b.toNatClampNeg && mRep S r && decide (S 0 6 < 40)
def mClaim (S : Nat → Nat → Nat) (x v b r : Int32) : Nat → Nat → Nat := if rClaim S x v b r = true then mSend S 2 x.toNatClampNeg r.toNatClampNeg b.toNatClampNeg v.toNatClampNeg else S
def rDeliver (S : Nat → Nat → Nat) (i : Int32) : Int32 := if rMsg S i = true then nI (if S 0 3 / 2 ^ S 10 i.toNatClampNeg % 2 = 1 then 0 else 1) else -1
def mDeliver (S : Nat → Nat → Nat) (i : Int32) : Nat → Nat → Nat := if rMsg S i = true then mHand S i.toNatClampNeg else S
def rTick (S : Nat → Nat → Nat) (r : Int32) : Int32 := if mCorrect S r = true then nI (mTickN S r.toNatClampNeg 14 r.toNatClampNeg) else -1
def rState (S : Nat → Nat → Nat) (r w : Int32) : Int32 := if mCorrect S r = true then (if w = nI 0 then nI (S 14 r.toNatClampNeg) else if w = nI 1 then nI (S 15 r.toNatClampNeg) else if w = nI 2 then nI (S 16 r.toNatClampNeg) else if w = nI 3 then nI (S 17 r.toNatClampNeg) else if w = nI 4 then nI (S 18 r.toNatClampNeg) else if w = nI 5 then nI (mHigh S r.toNatClampNeg) else if w = nI 6 then nI (mLock S r.toNatClampNeg) else if w = nI 7 then nI (mTip S r.toNatClampNeg) else if w = nI 8 then nI (mPush S r.toNatClampNeg) else -1) else -1
