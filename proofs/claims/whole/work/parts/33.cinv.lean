/-- what a place of the class's rows may hold -/
def cRp (V j v : Nat) : Prop :=
  match j with
  | 0 => 1 ≤ v ∧ v ≤ V
  | 1 => v ≤ V
  | 2 => v ≤ 32
  | 3 => v ≤ V
  | 4 => v ≤ V
  | 5 => v < 16777216
  | 6 => v < 40
  | 7 => v < 40
  | 8 => v < 40
  | _ => True
def cellC (V n : Nat) (k j v : Nat) : Prop :=
  if k < 44 then (match k with
    | 25 => (j = 0 → v = n) ∧ (j = 1 → v ≤ 7) ∧ (j = 2 → 4 ≤ v ∧ v ≤ 9) ∧ (j = 3 → v < 128)
    | 27 => j = 0 → v ≤ 24
    | 28 => v < 4
    | 29 => v < 4
    | 30 => v ≤ 1000
    | 31 => j = 0 → 1 ≤ v ∧ v ≤ 40
    | 32 => v + 1 ≤ V
    | 33 => v < 40
    | 34 => v < 16777216
    | 35 => v < 128
    | 36 => v < 16777216
    | 37 => v < 1099511627776
    | 38 => j = 0 → v ≤ 40
    | 39 => v < 10496 ∧ v / 4 % 8 < n ∧ v / 32 % 8 < n ∧ v / 256 < 40
    | 40 => v < 2147483648
    | 43 => v ≤ 2
    | _ => True)
  else if (k - 44) % 3 = 0 then cRp V j v else if (k - 44) % 3 = 1 then v < 128 else v < 2147483648
def CI (V : Nat) (X : WX) (S : Nat → Nat → Nat) : Prop := (4 ≤ X.2.2.1 ∧ X.2.2.1 ≤ 7) ∧ V ≤ 20000 ∧ ∀ k j, cellC V X.2.2.1 k j (S k j)
theorem CI.nn {V : Nat} {X : WX} {S : Nat → Nat → Nat} (h : CI V X S) : 4 ≤ X.2.2.1 ∧ X.2.2.1 ≤ 7 := h.1
theorem CI.V {V : Nat} {X : WX} {S : Nat → Nat → Nat} (h : CI V X S) : V ≤ 20000 := h.2.1
theorem CI.c {V : Nat} {X : WX} {S : Nat → Nat → Nat} (h : CI V X S) (k j : Nat) : cellC V X.2.2.1 k j (S k j) := h.2.2 k j
theorem CI.n {V : Nat} {X : WX} {S : Nat → Nat → Nat} (h : CI V X S) : S 25 0 = X.2.2.1 ∧ S 25 1 ≤ 7 ∧ (4 ≤ S 25 2 ∧ S 25 2 ≤ 9) ∧ S 25 3 < 128 := ⟨(h.c 25 0).1 rfl, (h.c 25 1).2.1 rfl, (h.c 25 2).2.2.1 rfl, (h.c 25 3).2.2.2 rfl⟩
theorem CI.tr {V : Nat} {X : WX} {S : Nat → Nat → Nat} (h : CI V X S) : S 27 0 ≤ 24 := h.c 27 0 rfl
theorem CI.bl {V : Nat} {X : WX} {S : Nat → Nat → Nat} (h : CI V X S) : 1 ≤ S 31 0 ∧ S 31 0 ≤ 40 := h.c 31 0 rfl
theorem CI.ro {V : Nat} {X : WX} {S : Nat → Nat → Nat} (h : CI V X S) : S 38 0 ≤ 40 := h.c 38 0 rfl
theorem cellC_rp {V n r j v : Nat} : cellC V n (3 * r + 44) j v = cRp V j v := by
  unfold cellC
  rw [if_neg (by omega), if_pos (by omega)]
theorem cellC_rg {V n r j v : Nat} : cellC V n (3 * r + 45) j v = (v < 128) := by
  unfold cellC
  rw [if_neg (by omega), if_neg (by omega), if_pos (by omega)]
theorem cellC_rn {V n r j v : Nat} : cellC V n (3 * r + 46) j v = (v < 2147483648) := by
  unfold cellC
  rw [if_neg (by omega), if_neg (by omega), if_neg (by omega)]
theorem CI.rp {V : Nat} {X : WX} {S : Nat → Nat → Nat} (h : CI V X S) (r : Nat) : (1 ≤ S (3 * r + 44) 0 ∧ S (3 * r + 44) 0 ≤ V) ∧ S (3 * r + 44) 1 ≤ V ∧ S (3 * r + 44) 2 ≤ 32 ∧ S (3 * r + 44) 3 ≤ V ∧ S (3 * r + 44) 4 ≤ V ∧ S (3 * r + 44) 5 < 16777216 ∧ S (3 * r + 44) 6 < 40 ∧ S (3 * r + 44) 7 < 40 ∧ S (3 * r + 44) 8 < 40 := by
  have h0 := h.c (3 * r + 44) 0
  have h1 := h.c (3 * r + 44) 1
  have h2 := h.c (3 * r + 44) 2
  have h3 := h.c (3 * r + 44) 3
  have h4 := h.c (3 * r + 44) 4
  have h5 := h.c (3 * r + 44) 5
  have h6 := h.c (3 * r + 44) 6
  have h7 := h.c (3 * r + 44) 7
  have h8 := h.c (3 * r + 44) 8
  rw [cellC_rp] at h0 h1 h2 h3 h4 h5 h6 h7 h8
  exact ⟨h0, h1, h2, h3, h4, h5, h6, h7, h8⟩
theorem CI.rg {V : Nat} {X : WX} {S : Nat → Nat → Nat} (h : CI V X S) (r j : Nat) : S (3 * r + 45) j < 128 := by
  have h0 := h.c (3 * r + 45) j
  rw [cellC_rg] at h0
  exact h0
theorem CI.rn {V : Nat} {X : WX} {S : Nat → Nat → Nat} (h : CI V X S) (r j : Nat) : S (3 * r + 46) j < 2147483648 := by
  have h0 := h.c (3 * r + 46) j
  rw [cellC_rn] at h0
  exact h0
theorem CI.up {V : Nat} {X : WX} {S : Nat → Nat → Nat} {k j v : Nat} (h : CI V X S) (hv : cellC V X.2.2.1 k j v) : CI V X (up2 S k j v) := by
  refine ⟨h.1, h.2.1, fun k' j' => ?_⟩
  rw [up2_at]
  split
  · rename_i hh
    obtain ⟨rfl, rfl⟩ := hh
    exact hv
  · exact h.c k' j'
theorem CI.upR {V : Nat} {X : WX} {S : Nat → Nat → Nat} {r j v : Nat} (h : CI V X S) (hv : cRp V j v) : CI V X (up2 S (3 * r + 44) j v) := h.up (by rw [cellC_rp]; exact hv)
theorem CI.mono {V W : Nat} {X : WX} {S : Nat → Nat → Nat} (h : CI V X S) (h1 : V ≤ W) (h2 : W ≤ 20000) : CI W X S := by
  refine ⟨h.1, h2, fun k j => ?_⟩
  have hc := h.c k j
  revert hc
  generalize S k j = w
  intro hc
  unfold cellC at hc ⊢
  split
  · rename_i hk
    rw [if_pos hk] at hc
    split at hc <;> first | exact hc | exact Nat.le_trans hc h1
  · rename_i hk
    rw [if_neg hk] at hc
    split
    · rename_i hm
      rw [if_pos hm] at hc
      unfold cRp at hc ⊢
      split at hc <;> first | exact hc | exact ⟨hc.1, Nat.le_trans hc.2 h1⟩ | exact Nat.le_trans hc h1
    · rename_i hm
      rw [if_neg hm] at hc
      exact hc
-- what the class's calls do (rows 25 and on)
def cHas (S : Nat → Nat → Nat) (b : Int32) : Bool := decide (0 ≤ b.toInt ∧ b.toInt < (S 31 0 : Int))
def cAdd (S : Nat → Nat → Nat) (p v set : Nat) : Nat → Nat → Nat := up2 (up2 (up2 (up2 (up2 (up2 S 32 (S 31 0) v) 33 (S 31 0) p) 34 (S 31 0) set) 36 (S 31 0) (up2 (up2 (up2 S 32 (S 31 0) v) 33 (S 31 0) p) 34 (S 31 0) set 36 p ||| set)) 37 (S 31 0) (S 37 p ||| 1 * 2 ^ S 31 0)) 31 0 (S 31 0 + 1)
def cLater (S : Nat → Nat → Nat) (a b : Nat) : Nat := if S 32 a < S 32 b then b else a
def cFol (S : Nat → Nat → Nat) (b : Nat) : Bool := decide (S 32 b = S 32 (S 33 b) + 1)
def cInC (S : Nat → Nat → Nat) (a b : Nat) : Bool := decide (S 37 b / 2 ^ a % 2 = 1)
/-- the place-th of the numbers from a on that are in b's chain, counting from passed -/
def cAtF (S : Nat → Nat → Nat) (b : Nat) (place : Int32) : Nat → Nat → Nat → Int32
  | 0, _, _ => -1
  | f + 1, a, passed => if cInC S a b = true then (if nI passed = place then nI a else cAtF S b place f (a + 1) (passed + 1)) else cAtF S b place f (a + 1) passed
def cSend (S : Nat → Nat → Nat) (k to fr b v : Nat) : Nat → Nat → Nat := if 40 ≤ S 38 0 then up2 S 38 1 (S 38 1 + 1) else up2 (up2 (up2 S 39 (S 38 0) (k + 4 * to + 32 * fr + 256 * b)) 40 (S 38 0) v) 38 0 (S 38 0 + 1)
def cRem (S : Nat → Nat → Nat) (i : Nat) : Nat → Nat → Nat := va_up (va_up (up2 S 38 0 (S 38 0 - 1)) 39 (va_cpy (S 39) (S 39) (i + 1) i (S 38 0 - 1 - i))) 40 (va_cpy (S 40) (S 40) (i + 1) i (S 38 0 - 1 - i))
def cPlace (S : Nat → Nat → Nat) (i : Int32) : Bool := decide (0 ≤ i.toInt ∧ i.toInt < (S 38 0 : Int))
def cTrAdd (S : Nat → Nat → Nat) (a b c : Nat) : Nat → Nat → Nat := up2 (up2 (up2 (up2 S 28 (S 27 0) a) 29 (S 27 0) b) 30 (S 27 0) c) 27 0 (S 27 0 + 1)
def cTrHas (S : Nat → Nat → Nat) (t : Int32) : Bool := decide (0 ≤ t.toInt ∧ t.toInt < (S 27 0 : Int))
def cEnter (S : Nat → Nat → Nat) (r v : Nat) : Nat → Nat → Nat := up2 (up2 S (3 * r + 44) 0 v) (3 * r + 44) 1 0
def cSee1 (S : Nat → Nat → Nat) (r x : Nat) : Nat → Nat → Nat := up2 (up2 S (3 * r + 44) 6 (cLater S (S (3 * r + 44) 6) x)) (3 * r + 44) 7 (cLater S (S (3 * r + 44) 7) (S 33 x))
def cSee2 (S : Nat → Nat → Nat) (r x : Nat) : Nat → Nat → Nat := if cFol S x = true ∧ cFol S (S 33 x) = true then up2 (cSee1 S r x) (3 * r + 44) 8 (cLater S (S (3 * r + 44) 8) (S 33 (S 33 x))) else cSee1 S r x
def cSee (S : Nat → Nat → Nat) (r x : Nat) : Nat → Nat → Nat := if S 32 x < S (3 * r + 44) 0 then cSee2 S r x else up2 (cEnter (cSee2 S r x) r (S 32 x + 1)) (3 * r + 44) 2 2
def cCntF (S : Nat → Nat → Nat) (r v q many : Nat) : Nat := if v ≤ S (3 * r + 46) q then many + 1 else many
def cCnt (S : Nat → Nat → Nat) (n r v : Nat) : Nat := itr (cCntF S r v) 0 0 n
def cPushF (S : Nat → Nat → Nat) (n r quo x best : Nat) : Nat := if best < S (3 * r + 46) x ∧ quo ≤ cCnt S n r (S (3 * r + 46) x) then S (3 * r + 46) x else best
def cPush (S : Nat → Nat → Nat) (n r quo : Nat) : Nat := itr (cPushF S n r quo) 0 0 n
