theorem itr_z {α : Type} (f : Nat → α → α) (z : α) (i : Nat) : itr f 0 z (i + 1) = f i (itr f 0 z i) := by rw [itr_s, Nat.zero_add]
theorem itr_1 {α : Type} (f : Nat → α → α) (z : α) {b : Nat} (h : 1 ≤ b) : itr f 1 z (b + 1 - 1) = f b (itr f 1 z (b - 1)) := itr_b f z h
theorem tnat_t : (true).toNat = 1 := rfl
theorem tnat_f : (false).toNat = 0 := rfl
theorem tnat_0 {b : Bool} (h : b.toNat = 0) : b = false := by cases b <;> simp_all
theorem tnat_1 {b : Bool} (h : ¬ b.toNat = 0) : b = true := by cases b <;> simp_all
theorem tnat_lt (b : Bool) : b.toNat < 2 ^ 31 := by cases b <;> decide
theorem mRep_nI {S : Nat → Nat → Nat} {r : Int32} (hn : S 0 1 < 2 ^ 31) (h : mRep S r = true) : ∃ j, j < S 0 1 ∧ r = nI j := by
  simp only [mRep, Bool.and_eq_true, decide_eq_true_eq] at h
  obtain ⟨h1, h2⟩ := h
  obtain ⟨j, hj, rfl⟩ := nI_of (x := r) (fun q => by have := Int32.lt_iff_toInt_lt.mp q; simp at this; omega)
  rw [nI_toInt hj] at h2
  exact ⟨j, by omega, rfl⟩
theorem mBlock_nI {S : Nat → Nat → Nat} {r : Int32} (hn : S 0 5 < 2 ^ 31) (h : mBlock S r = true) : ∃ j, j < S 0 5 ∧ r = nI j := by
  simp only [mBlock, Bool.and_eq_true, decide_eq_true_eq] at h
  obtain ⟨h1, h2⟩ := h
  obtain ⟨j, hj, rfl⟩ := nI_of (x := r) (fun q => by have := Int32.lt_iff_toInt_lt.mp q; simp at this; omega)
  rw [nI_toInt hj] at h2
  exact ⟨j, by omega, rfl⟩
theorem mRep_f1 {S : Nat → Nat → Nat} {r : Int32} (h : r < 0) : mRep S r = false := by
  have : r.toInt < 0 := by simpa using Int32.lt_iff_toInt_lt.mp h
  simp only [mRep, Bool.and_eq_false_iff, decide_eq_false_iff_not]
  omega
theorem mRep_f2 {S : Nat → Nat → Nat} {r : Int32} (hn : S 0 1 < 2 ^ 31) (h : nI (S 0 1) ≤ r) : mRep S r = false := by
  have h1 : (nI (S 0 1)).toInt ≤ r.toInt := Int32.le_iff_toInt_le.mp h
  rw [nI_toInt hn] at h1
  simp only [mRep, Bool.and_eq_false_iff, decide_eq_false_iff_not]
  omega
theorem mRep_t {S : Nat → Nat → Nat} {r : Int32} (hn : S 0 1 < 2 ^ 31) (h1 : ¬ r < 0) (h2 : ¬ nI (S 0 1) ≤ r) : mRep S r = true := by
  have h3 : ¬ r.toInt < 0 := fun q => h1 (Int32.lt_iff_toInt_lt.mpr (by simpa using q))
  have h4 : ¬ (nI (S 0 1)).toInt ≤ r.toInt := fun q => h2 (Int32.le_iff_toInt_le.mpr q)
  rw [nI_toInt hn] at h4
  simp only [mRep, Bool.and_eq_true, decide_eq_true_eq]
  omega
theorem mBlock_f1 {S : Nat → Nat → Nat} {r : Int32} (h : r < 0) : mBlock S r = false := by
  have : r.toInt < 0 := by simpa using Int32.lt_iff_toInt_lt.mp h
  simp only [mBlock, Bool.and_eq_false_iff, decide_eq_false_iff_not]
  omega
theorem mBlock_f2 {S : Nat → Nat → Nat} {r : Int32} (hn : S 0 5 < 2 ^ 31) (h : nI (S 0 5) ≤ r) : mBlock S r = false := by
  have h1 : (nI (S 0 5)).toInt ≤ r.toInt := Int32.le_iff_toInt_le.mp h
  rw [nI_toInt hn] at h1
  simp only [mBlock, Bool.and_eq_false_iff, decide_eq_false_iff_not]
  omega
theorem mBlock_t {S : Nat → Nat → Nat} {r : Int32} (hn : S 0 5 < 2 ^ 31) (h1 : ¬ r < 0) (h2 : ¬ nI (S 0 5) ≤ r) : mBlock S r = true := by
  have h3 : ¬ r.toInt < 0 := fun q => h1 (Int32.lt_iff_toInt_lt.mpr (by simpa using q))
  have h4 : ¬ (nI (S 0 5)).toInt ≤ r.toInt := fun q => h2 (Int32.le_iff_toInt_le.mpr q)
  rw [nI_toInt hn] at h4
  simp only [mBlock, Bool.and_eq_true, decide_eq_true_eq]
  omega
set_option maxRecDepth 100000 in
set_option maxHeartbeats 4000000 in
theorem k_M_isReplica (l : Launch) {X : WX} (hX : xInj X) {S : Nat → Nat → Nat} {V : Nat} (hI : IW V S) (r : Int32) : MetI l X y_M_isReplica (Cond.code y_M_isReplica c_M_isReplica 2 (some .boolean) :: Mst) 0 [.ref (X.2.2.2 0), .int r] S (nI (mRep S r).toNat) S := by
  refine MetI.of (by decide) (Nat.le_of_ble_eq_true rfl) ?_
  intro p e s m args below meth c cf hr hlk hP hK hN ls hl
  have hl : lv_has ls 2 [(0, .ref (X.2.2.2 0)), (1, .int r)] := hl
  have hx := cf.1
  have hb := cf.2.1
  have hD := xD_of hX
  have hS : va_S (xA X) s.heap s.heap [] := va_S.rf
  have hf := hI.f
  have hn := hI.n
  have hk := hI.k
  have hcs := hI.cs
  have ht := hI.t
  have hbl := hI.b
  have hm := hI.m
  have hV := hI.V
  obtain ⟨H, hH⟩ : ∃ H, H = s.heap := ⟨_, rfl⟩
  obtain ⟨locs, hlo⟩ : ∃ z : List Loc, z = [] := ⟨_, rfl⟩
  suffices hgo : PW X S H → va_S (xA X) s.heap H locs → W p l e (rmd 0) s m args below meth c H locs 0 0 (MQ below (QcI X (nI (mRep S r).toNat) S) args s 0 0 (xA X)) (F0 m 0 ls []) by
    subst hH
    subst hlo
    exact hgo hP hS
  clear hP hS
  intro hP hS
  refine lv_iload_n hx hb d_M_isReplica_0 rfl (lv_at hl 1 rfl) ?_
  refine lv_if_lt (tgt := 16) hx hb d_M_isReplica_1 (by decide) (fun h1 => ?_) (fun h1 => ?_)
  · skip
    have uh1 := i_lt0 h1
    refine lv_iconst (v := nI 0) hx hb d_M_isReplica_16 (by decide) ?_
    exact x_zret cf hr hlk hP hS (by rw [mRep_f1 h1]; rfl) (rfl) d_M_isReplica_17
  · skip
    have uh1 := i_nlt0 h1
    refine lv_iload_n hx hb d_M_isReplica_4 rfl (lv_at hl 1 rfl) ?_
    refine lv_aload_n hx hb d_M_isReplica_5 rfl (lv_at hl 0 rfl) ?_
    refine x_getM (v := .int (nI (S 0 1))) cf hK hP 1 (by decide) w_462 rfl d_M_isReplica_6 ?_
    refine lv_icmp_ge (tgt := 16) hx hb d_M_isReplica_9 (by decide) (fun h2 => ?_) (fun h2 => ?_)
    · skip
      have uh2 := i_geN (by omega) h2
      refine lv_iconst (v := nI 0) hx hb d_M_isReplica_16 (by decide) ?_
      exact x_zret cf hr hlk hP hS (by rw [mRep_f2 (by omega) h2]; rfl) (rfl) d_M_isReplica_17
    · skip
      have uh2 := i_ngeN (by omega) h2
      refine lv_iconst (v := nI 1) hx hb d_M_isReplica_12 (by decide) ?_
      refine lv_goto (tgt := 17) hx hb d_M_isReplica_13 (by decide) ?_
      exact x_zret cf hr hlk hP hS (by rw [mRep_t (by omega) h1 h2]; rfl) (rfl) d_M_isReplica_17
set_option maxRecDepth 100000 in
set_option maxHeartbeats 4000000 in
theorem k_M_isBlock (l : Launch) {X : WX} (hX : xInj X) {S : Nat → Nat → Nat} {V : Nat} (hI : IW V S) (r : Int32) : MetI l X y_M_isBlock (Cond.code y_M_isBlock c_M_isBlock 2 (some .boolean) :: Mst) 0 [.ref (X.2.2.2 0), .int r] S (nI (mBlock S r).toNat) S := by
  refine MetI.of (by decide) (Nat.le_of_ble_eq_true rfl) ?_
  intro p e s m args below meth c cf hr hlk hP hK hN ls hl
  have hl : lv_has ls 2 [(0, .ref (X.2.2.2 0)), (1, .int r)] := hl
  have hx := cf.1
  have hb := cf.2.1
  have hD := xD_of hX
  have hS : va_S (xA X) s.heap s.heap [] := va_S.rf
  have hf := hI.f
  have hn := hI.n
  have hk := hI.k
  have hcs := hI.cs
  have ht := hI.t
  have hbl := hI.b
  have hm := hI.m
  have hV := hI.V
  obtain ⟨H, hH⟩ : ∃ H, H = s.heap := ⟨_, rfl⟩
  obtain ⟨locs, hlo⟩ : ∃ z : List Loc, z = [] := ⟨_, rfl⟩
  suffices hgo : PW X S H → va_S (xA X) s.heap H locs → W p l e (rmd 0) s m args below meth c H locs 0 0 (MQ below (QcI X (nI (mBlock S r).toNat) S) args s 0 0 (xA X)) (F0 m 0 ls []) by
    subst hH
    subst hlo
    exact hgo hP hS
  clear hP hS
  intro hP hS
  refine lv_iload_n hx hb d_M_isBlock_0 rfl (lv_at hl 1 rfl) ?_
  refine lv_if_lt (tgt := 16) hx hb d_M_isBlock_1 (by decide) (fun h1 => ?_) (fun h1 => ?_)
  · skip
    have uh1 := i_lt0 h1
    refine lv_iconst (v := nI 0) hx hb d_M_isBlock_16 (by decide) ?_
    exact x_zret cf hr hlk hP hS (by rw [mBlock_f1 h1]; rfl) (rfl) d_M_isBlock_17
  · skip
    have uh1 := i_nlt0 h1
    refine lv_iload_n hx hb d_M_isBlock_4 rfl (lv_at hl 1 rfl) ?_
    refine lv_aload_n hx hb d_M_isBlock_5 rfl (lv_at hl 0 rfl) ?_
    refine x_getM (v := .int (nI (S 0 5))) cf hK hP 9 (by decide) w_470 rfl d_M_isBlock_6 ?_
    refine lv_icmp_ge (tgt := 16) hx hb d_M_isBlock_9 (by decide) (fun h2 => ?_) (fun h2 => ?_)
    · skip
      have uh2 := i_geN (by omega) h2
      refine lv_iconst (v := nI 0) hx hb d_M_isBlock_16 (by decide) ?_
      exact x_zret cf hr hlk hP hS (by rw [mBlock_f2 (by omega) h2]; rfl) (rfl) d_M_isBlock_17
    · skip
      have uh2 := i_ngeN (by omega) h2
      refine lv_iconst (v := nI 1) hx hb d_M_isBlock_12 (by decide) ?_
      refine lv_goto (tgt := 17) hx hb d_M_isBlock_13 (by decide) ?_
      exact x_zret cf hr hlk hP hS (by rw [mBlock_t (by omega) h1 h2]; rfl) (rfl) d_M_isBlock_17
set_option maxRecDepth 100000 in
set_option maxHeartbeats 4000000 in
theorem k_M_leader (l : Launch) {X : WX} (hX : xInj X) {S : Nat → Nat → Nat} {V : Nat} (hI : IW V S) (v : Nat) (hv : 1 ≤ v ∧ v < 2147483648) : MetI l X y_M_leader (Cond.code y_M_leader c_M_leader 2 (some .int) :: Mst) 0 [.ref (X.2.2.2 0), .int (nI v)] S (nI (mLeader S v)) S := by
  refine MetI.of (by decide) (Nat.le_of_ble_eq_true rfl) ?_
  intro p e s m args below meth c cf hr hlk hP hK hN ls hl
  have hl : lv_has ls 2 [(0, .ref (X.2.2.2 0)), (1, .int (nI v))] := hl
  have hx := cf.1
  have hb := cf.2.1
  have hD := xD_of hX
  have hS : va_S (xA X) s.heap s.heap [] := va_S.rf
  have hf := hI.f
  have hn := hI.n
  have hk := hI.k
  have hcs := hI.cs
  have ht := hI.t
  have hbl := hI.b
  have hm := hI.m
  have hV := hI.V
  obtain ⟨H, hH⟩ : ∃ H, H = s.heap := ⟨_, rfl⟩
  obtain ⟨locs, hlo⟩ : ∃ z : List Loc, z = [] := ⟨_, rfl⟩
  suffices hgo : PW X S H → va_S (xA X) s.heap H locs → W p l e (rmd 0) s m args below meth c H locs 0 0 (MQ below (QcI X (nI (mLeader S v)) S) args s 0 0 (xA X)) (F0 m 0 ls []) by
    subst hH
    subst hlo
    exact hgo hP hS
  clear hP hS
  intro hP hS
  refine lv_iload_n hx hb d_M_leader_0 rfl (lv_at hl 1 rfl) ?_
  refine lv_iconst (v := nI 1) hx hb d_M_leader_1 (by decide) ?_
  refine n_isub hx hb (by omega) d_M_leader_2 ?_
  refine lv_aload_n hx hb d_M_leader_3 rfl (lv_at hl 0 rfl) ?_
  refine x_getM (v := .int (nI (S 0 2))) cf hK hP 2 (by decide) w_463 rfl d_M_leader_4 ?_
  refine n_idiv hx hb (by omega) (by omega) (by omega) d_M_leader_7 ?_
  refine lv_aload_n hx hb d_M_leader_8 rfl (lv_at hl 0 rfl) ?_
  refine x_getM (v := .int (nI (S 0 1))) cf hK hP 1 (by decide) w_462 rfl d_M_leader_9 ?_
  refine n_irem hx hb (by have := Nat.div_le_self (v - 1) (S 0 2); omega) (by omega) (by omega) d_M_leader_12 ?_
  exact x_iret cf hr hlk hP hS (rfl) (rfl) d_M_leader_13
set_option maxRecDepth 100000 in
set_option maxHeartbeats 4000000 in
theorem k_M_size (l : Launch) {X : WX} (hX : xInj X) {S : Nat → Nat → Nat} (a : Nat) (ha : a < 2147483648) : MetI l X y_M_size (Cond.code y_M_size c_M_size 3 (some .int) :: Mst) 0 [.int (nI a)] S (nI (mSize a)) S := by
  refine MetI.of (by decide) (Nat.le_of_ble_eq_true rfl) ?_
  intro p e s m args below meth c cf hr hlk hP hK hN ls hl
  have hl : lv_has ls 3 [(0, .int (nI a))] := hl
  have hx := cf.1
  have hb := cf.2.1
  have hD := xD_of hX
  have hS : va_S (xA X) s.heap s.heap [] := va_S.rf
  obtain ⟨H, hH⟩ : ∃ H, H = s.heap := ⟨_, rfl⟩
  obtain ⟨locs, hlo⟩ : ∃ z : List Loc, z = [] := ⟨_, rfl⟩
  suffices hgo : PW X S H → va_S (xA X) s.heap H locs → W p l e (rmd 0) s m args below meth c H locs 0 0 (MQ below (QcI X (nI (mSize a)) S) args s 0 0 (xA X)) (F0 m 0 ls []) by
    subst hH
    subst hlo
    exact hgo hP hS
  clear hP hS
  intro hP hS
  refine lv_iconst (v := nI 0) hx hb d_M_size_0 (by decide) ?_
  refine lv_istore_n (lv' := [(1, .int (nI 0)), (0, .int (nI a))]) hx hb d_M_size_1 rfl hl (by decide) rfl (fun ls hl => ?_)
  refine lv_iconst (v := nI 0) hx hb d_M_size_2 (by decide) ?_
  refine lv_istore_n (lv' := [(2, .int (nI 0)), (1, .int (nI 0)), (0, .int (nI a))]) hx hb d_M_size_3 rfl hl (by decide) rfl (fun ls hl => ?_)
  have lp4 : ∀ (dm : Nat) (z : Nat) (i : Nat) (ls : Array Slot) (H : Heap) (locs : List Loc), lv_has ls 3 [(0, .int (nI a)), (1, .int (nI z)), (2, .int (nI i))] → PW X S H → va_S (xA X) s.heap H locs → (i ≤ 7) → (z = itr (fun i acc => acc + a / 2 ^ i % 2) 0 0 i) → (7 - i = dm) → W p l e (rmd 0) s m args below meth c H locs 0 0 (MQ below (QcI X (nI (mSize a)) S) args s 0 0 (xA X)) (F0 m 4 ls []) := by
    intro dm
    induction dm using Nat.strongRecOn with | ind dm lp4 => ?_
    intro z i ls H locs hl hP hS hi hz hdm
    refine lv_iload_n hx hb d_M_size_4 rfl (lv_at hl 2 rfl) ?_
    refine lv_bipush (v := nI 7) hx hb d_M_size_5 (by decide) ?_
    refine n_icmp_ge (tgt := 24) hx hb d_M_size_7 (by decide) (by omega) (by decide) (fun h1 => ?_) (fun h1 => ?_)
    · skip
      refine lv_iload_n hx hb d_M_size_24 rfl (lv_at hl 1 rfl) ?_
      exact x_iret cf hr hlk hP hS (by rw [hz, show i = 7 by omega]; rfl) (rfl) d_M_size_25
    · skip
      refine lv_iload_n hx hb d_M_size_10 rfl (lv_at hl 1 rfl) ?_
      refine lv_iload_n hx hb d_M_size_11 rfl (lv_at hl 0 rfl) ?_
      refine lv_iload_n hx hb d_M_size_12 rfl (lv_at hl 2 rfl) ?_
      refine n_ishr hx hb (by omega) (by omega) d_M_size_13 ?_
      refine lv_iconst (v := nI 1) hx hb d_M_size_14 (by decide) ?_
      refine n_and1 hx hb d_M_size_15 ?_
      refine n_iadd hx hb d_M_size_16 ?_
      refine lv_istore_n (lv' := [(1, .int (nI (z + ((a / (2 ^ i)) % 2)))), (0, .int (nI a)), (2, .int (nI i))]) hx hb d_M_size_17 rfl hl (by decide) rfl (fun ls hl => ?_)
      refine n_iinc1 (lv' := [(2, .int (nI (i + 1))), (1, .int (nI (z + ((a / (2 ^ i)) % 2)))), (0, .int (nI a))]) (k := 2) hx hb d_M_size_18 hl rfl (by decide) rfl (fun ls hl => ?_)
      refine lv_goto (tgt := 4) hx hb d_M_size_21 (by decide) ?_
      exact lp4 _ (by omega) (z + ((a / (2 ^ i)) % 2)) (i + 1) ls H locs (lv_sub hl [2, 1, 0] rfl) hP hS (by omega) (by rw [itr_z, ← hz]) rfl
  exact lp4 _ 0 0 ls H locs (lv_sub hl [2, 1, 0] rfl) hP hS (by omega) (rfl) rfl
set_option maxRecDepth 100000 in
set_option maxHeartbeats 4000000 in
theorem k_M_high (l : Launch) {X : WX} (hX : xInj X) {S : Nat → Nat → Nat} {V : Nat} (hI : IW V S) {r : Nat} (hr0 : r < 7) : MetI l X y_M_high (Cond.code y_M_high c_M_high 4 (some .int) :: Mst) 0 [.ref (X.2.2.2 0), .int (nI r)] S (nI (mHigh S r)) S := by
  refine MetI.of (by decide) (Nat.le_of_ble_eq_true rfl) ?_
  intro p e s m args below meth c cf hr hlk hP hK hN ls hl
  have hl : lv_has ls 4 [(0, .ref (X.2.2.2 0)), (1, .int (nI r))] := hl
  have hx := cf.1
  have hb := cf.2.1
  have hD := xD_of hX
  have hS : va_S (xA X) s.heap s.heap [] := va_S.rf
  have hf := hI.f
  have hn := hI.n
  have hk := hI.k
  have hcs := hI.cs
  have ht := hI.t
  have hbl := hI.b
  have hm := hI.m
  have hV := hI.V
  obtain ⟨H, hH⟩ : ∃ H, H = s.heap := ⟨_, rfl⟩
  obtain ⟨locs, hlo⟩ : ∃ z : List Loc, z = [] := ⟨_, rfl⟩
  suffices hgo : PW X S H → va_S (xA X) s.heap H locs → W p l e (rmd 0) s m args below meth c H locs 0 0 (MQ below (QcI X (nI (mHigh S r)) S) args s 0 0 (xA X)) (F0 m 0 ls []) by
    subst hH
    subst hlo
    exact hgo hP hS
  clear hP hS
  intro hP hS
  refine lv_iconst (v := nI 0) hx hb d_M_high_0 (by decide) ?_
  refine lv_istore_n (lv' := [(2, .int (nI 0)), (0, .ref (X.2.2.2 0)), (1, .int (nI r))]) hx hb d_M_high_1 rfl hl (by decide) rfl (fun ls hl => ?_)
  refine lv_iconst (v := nI 1) hx hb d_M_high_2 (by decide) ?_
  refine lv_istore_n (lv' := [(3, .int (nI 1)), (2, .int (nI 0)), (0, .ref (X.2.2.2 0)), (1, .int (nI r))]) hx hb d_M_high_3 rfl hl (by decide) rfl (fun ls hl => ?_)
  have lp4 : ∀ (dm : Nat) (best : Nat) (b : Nat) (ls : Array Slot) (H : Heap) (locs : List Loc), lv_has ls 4 [(0, .ref (X.2.2.2 0)), (1, .int (nI r)), (2, .int (nI best)), (3, .int (nI b))] → PW X S H → va_S (xA X) s.heap H locs → (1 ≤ b ∧ b ≤ S 0 5) → (best < 40) → (best = itr (mHighF S r) 1 0 (b - 1)) → (S 0 5 - b = dm) → W p l e (rmd 0) s m args below meth c H locs 0 0 (MQ below (QcI X (nI (mHigh S r)) S) args s 0 0 (xA X)) (F0 m 4 ls []) := by
    intro dm
    induction dm using Nat.strongRecOn with | ind dm lp4 => ?_
    intro best b ls H locs hl hP hS hb1 hbe hz hdm
    refine lv_iload_n hx hb d_M_high_4 rfl (lv_at hl 3 rfl) ?_
    refine lv_aload_n hx hb d_M_high_5 rfl (lv_at hl 0 rfl) ?_
    refine x_getM (v := .int (nI (S 0 5))) cf hK hP 9 (by decide) w_470 rfl d_M_high_6 ?_
    refine n_icmp_ge (tgt := 49) hx hb d_M_high_9 (by decide) (by omega) (by omega) (fun h1 => ?_) (fun h1 => ?_)
    · skip
      refine lv_iload_n hx hb d_M_high_49 rfl (lv_at hl 2 rfl) ?_
      exact x_iret cf hr hlk hP hS (by rw [hz, show b = S 0 5 by omega]; rfl) (rfl) d_M_high_50
    · skip
      refine lv_aload_n hx hb d_M_high_12 rfl (lv_at hl 0 rfl) ?_
      refine x_getM (v := .ref (X.2.2.2 19)) cf hK hP 26 (by decide) w_487 rfl d_M_high_13 ?_
      refine lv_bipush (v := nI 40) hx hb d_M_high_16 (by decide) ?_
      refine lv_iload_n hx hb d_M_high_18 rfl (lv_at hl 1 rfl) ?_
      refine n_imul hx hb d_M_high_19 ?_
      refine lv_iload_n hx hb d_M_high_20 rfl (lv_at hl 3 rfl) ?_
      refine n_iadd hx hb d_M_high_21 ?_
      refine x_zald (v := (S 19 ((40 * r) + b))) cf hK hP (by omega) rfl d_M_high_22 ?_
      refine n_if_eq (tgt := 43) hx hb d_M_high_23 (by decide) (by have := (show S 19 ((40 * r) + b) ≤ 1 from hI.c 19 ((40 * r) + b)); omega) (fun h2 => ?_) (fun h2 => ?_)
      · skip
        refine n_iinc1 (lv' := [(3, .int (nI (b + 1))), (0, .ref (X.2.2.2 0)), (1, .int (nI r)), (2, .int (nI best))]) (k := 3) hx hb d_M_high_43 hl rfl (by decide) rfl (fun ls hl => ?_)
        refine lv_goto (tgt := 4) hx hb d_M_high_46 (by decide) ?_
        exact lp4 _ (by omega) best (b + 1) ls H locs (lv_sub hl [1, 2, 3, 0] rfl) hP hS (by omega) (by have := (show S 6 b < 40 from hI.c 6 b); have := (show S 6 (S 6 b) < 40 from hI.c 6 (S 6 b)); omega) (by rw [itr_1 _ _ hb1.1, ← hz]; unfold mHighF; first | (rw [if_pos (by simp; omega)]) | (rw [if_neg (by simp; omega)]) | (split <;> first | rfl | omega)) rfl
      · skip
        refine lv_aload_n hx hb d_M_high_26 rfl (lv_at hl 0 rfl) ?_
        refine x_getM (v := .ref (X.2.2.2 5)) cf hK hP 10 (by decide) w_471 rfl d_M_high_27 ?_
        refine lv_iload_n hx hb d_M_high_30 rfl (lv_at hl 3 rfl) ?_
        refine x_iald (v := (S 5 b)) cf hK hP (ia5 X) (by omega) rfl d_M_high_31 ?_
        refine lv_aload_n hx hb d_M_high_32 rfl (lv_at hl 0 rfl) ?_
        refine x_getM (v := .ref (X.2.2.2 5)) cf hK hP 10 (by decide) w_471 rfl d_M_high_33 ?_
        refine lv_iload_n hx hb d_M_high_36 rfl (lv_at hl 2 rfl) ?_
        refine x_iald (v := (S 5 best)) cf hK hP (ia5 X) (by omega) rfl d_M_high_37 ?_
        refine n_icmp_le (tgt := 43) hx hb d_M_high_38 (by decide) (by have := (show S 5 b + 1 ≤ V from hI.c 5 b); omega) (by have := (show S 5 best + 1 ≤ V from hI.c 5 best); omega) (fun h3 => ?_) (fun h3 => ?_)
        · skip
          refine n_iinc1 (lv' := [(3, .int (nI (b + 1))), (0, .ref (X.2.2.2 0)), (1, .int (nI r)), (2, .int (nI best))]) (k := 3) hx hb d_M_high_43 hl rfl (by decide) rfl (fun ls hl => ?_)
          refine lv_goto (tgt := 4) hx hb d_M_high_46 (by decide) ?_
          exact lp4 _ (by omega) best (b + 1) ls H locs (lv_sub hl [1, 2, 3, 0] rfl) hP hS (by omega) (by have := (show S 6 b < 40 from hI.c 6 b); have := (show S 6 (S 6 b) < 40 from hI.c 6 (S 6 b)); omega) (by rw [itr_1 _ _ hb1.1, ← hz]; unfold mHighF; first | (rw [if_pos (by simp; omega)]) | (rw [if_neg (by simp; omega)]) | (split <;> first | rfl | omega)) rfl
        · skip
          refine lv_iload_n hx hb d_M_high_41 rfl (lv_at hl 3 rfl) ?_
          refine lv_istore_n (lv' := [(2, .int (nI b)), (0, .ref (X.2.2.2 0)), (1, .int (nI r)), (3, .int (nI b))]) hx hb d_M_high_42 rfl hl (by decide) rfl (fun ls hl => ?_)
          refine n_iinc1 (lv' := [(3, .int (nI (b + 1))), (2, .int (nI b)), (0, .ref (X.2.2.2 0)), (1, .int (nI r))]) (k := 3) hx hb d_M_high_43 hl rfl (by decide) rfl (fun ls hl => ?_)
          refine lv_goto (tgt := 4) hx hb d_M_high_46 (by decide) ?_
          exact lp4 _ (by omega) b (b + 1) ls H locs (lv_sub hl [2, 3, 1, 0] rfl) hP hS (by omega) (by have := (show S 6 b < 40 from hI.c 6 b); have := (show S 6 (S 6 b) < 40 from hI.c 6 (S 6 b)); omega) (by rw [itr_1 _ _ hb1.1, ← hz]; unfold mHighF; first | (rw [if_pos (by simp; omega)]) | (rw [if_neg (by simp; omega)]) | (split <;> first | rfl | omega)) rfl
  exact lp4 _ 0 1 ls H locs (lv_sub hl [2, 3, 1, 0] rfl) hP hS (by omega) (by omega) (rfl) rfl
set_option maxRecDepth 100000 in
set_option maxHeartbeats 4000000 in
theorem k_M_lock (l : Launch) {X : WX} (hX : xInj X) {S : Nat → Nat → Nat} {V : Nat} (hI : IW V S) {r : Nat} (hr0 : r < 7) : MetI l X y_M_lock (Cond.code y_M_lock c_M_lock 4 (some .int) :: Mst) 0 [.ref (X.2.2.2 0), .int (nI r)] S (nI (mLock S r)) S := by
  refine MetI.of (by decide) (Nat.le_of_ble_eq_true rfl) ?_
  intro p e s m args below meth c cf hr hlk hP hK hN ls hl
  have hl : lv_has ls 4 [(0, .ref (X.2.2.2 0)), (1, .int (nI r))] := hl
  have hx := cf.1
  have hb := cf.2.1
  have hD := xD_of hX
  have hS : va_S (xA X) s.heap s.heap [] := va_S.rf
  have hf := hI.f
  have hn := hI.n
  have hk := hI.k
  have hcs := hI.cs
  have ht := hI.t
  have hbl := hI.b
  have hm := hI.m
  have hV := hI.V
  obtain ⟨H, hH⟩ : ∃ H, H = s.heap := ⟨_, rfl⟩
  obtain ⟨locs, hlo⟩ : ∃ z : List Loc, z = [] := ⟨_, rfl⟩
  suffices hgo : PW X S H → va_S (xA X) s.heap H locs → W p l e (rmd 0) s m args below meth c H locs 0 0 (MQ below (QcI X (nI (mLock S r)) S) args s 0 0 (xA X)) (F0 m 0 ls []) by
    subst hH
    subst hlo
    exact hgo hP hS
  clear hP hS
  intro hP hS
  refine lv_iconst (v := nI 0) hx hb d_M_lock_0 (by decide) ?_
  refine lv_istore_n (lv' := [(2, .int (nI 0)), (0, .ref (X.2.2.2 0)), (1, .int (nI r))]) hx hb d_M_lock_1 rfl hl (by decide) rfl (fun ls hl => ?_)
  refine lv_iconst (v := nI 1) hx hb d_M_lock_2 (by decide) ?_
  refine lv_istore_n (lv' := [(3, .int (nI 1)), (2, .int (nI 0)), (0, .ref (X.2.2.2 0)), (1, .int (nI r))]) hx hb d_M_lock_3 rfl hl (by decide) rfl (fun ls hl => ?_)
  have lp4 : ∀ (dm : Nat) (best : Nat) (b : Nat) (ls : Array Slot) (H : Heap) (locs : List Loc), lv_has ls 4 [(0, .ref (X.2.2.2 0)), (1, .int (nI r)), (2, .int (nI best)), (3, .int (nI b))] → PW X S H → va_S (xA X) s.heap H locs → (1 ≤ b ∧ b ≤ S 0 5) → (best < 40) → (best = itr (mLockF S r) 1 0 (b - 1)) → (S 0 5 - b = dm) → W p l e (rmd 0) s m args below meth c H locs 0 0 (MQ below (QcI X (nI (mLock S r)) S) args s 0 0 (xA X)) (F0 m 4 ls []) := by
    intro dm
    induction dm using Nat.strongRecOn with | ind dm lp4 => ?_
    intro best b ls H locs hl hP hS hb1 hbe hz hdm
    refine lv_iload_n hx hb d_M_lock_4 rfl (lv_at hl 3 rfl) ?_
    refine lv_aload_n hx hb d_M_lock_5 rfl (lv_at hl 0 rfl) ?_
    refine x_getM (v := .int (nI (S 0 5))) cf hK hP 9 (by decide) w_470 rfl d_M_lock_6 ?_
    refine n_icmp_ge (tgt := 59) hx hb d_M_lock_9 (by decide) (by omega) (by omega) (fun h1 => ?_) (fun h1 => ?_)
    · skip
      refine lv_iload_n hx hb d_M_lock_59 rfl (lv_at hl 2 rfl) ?_
      exact x_iret cf hr hlk hP hS (by rw [hz, show b = S 0 5 by omega]; rfl) (rfl) d_M_lock_60
    · skip
      refine lv_aload_n hx hb d_M_lock_12 rfl (lv_at hl 0 rfl) ?_
      refine x_getM (v := .ref (X.2.2.2 19)) cf hK hP 26 (by decide) w_487 rfl d_M_lock_13 ?_
      refine lv_bipush (v := nI 40) hx hb d_M_lock_16 (by decide) ?_
      refine lv_iload_n hx hb d_M_lock_18 rfl (lv_at hl 1 rfl) ?_
      refine n_imul hx hb d_M_lock_19 ?_
      refine lv_iload_n hx hb d_M_lock_20 rfl (lv_at hl 3 rfl) ?_
      refine n_iadd hx hb d_M_lock_21 ?_
      refine x_zald (v := (S 19 ((40 * r) + b))) cf hK hP (by omega) rfl d_M_lock_22 ?_
      refine n_if_eq (tgt := 53) hx hb d_M_lock_23 (by decide) (by have := (show S 19 ((40 * r) + b) ≤ 1 from hI.c 19 ((40 * r) + b)); omega) (fun h2 => ?_) (fun h2 => ?_)
      · skip
        refine n_iinc1 (lv' := [(3, .int (nI (b + 1))), (0, .ref (X.2.2.2 0)), (1, .int (nI r)), (2, .int (nI best))]) (k := 3) hx hb d_M_lock_53 hl rfl (by decide) rfl (fun ls hl => ?_)
        refine lv_goto (tgt := 4) hx hb d_M_lock_56 (by decide) ?_
        exact lp4 _ (by omega) best (b + 1) ls H locs (lv_sub hl [1, 2, 3, 0] rfl) hP hS (by omega) (by have := (show S 6 b < 40 from hI.c 6 b); have := (show S 6 (S 6 b) < 40 from hI.c 6 (S 6 b)); omega) (by rw [itr_1 _ _ hb1.1, ← hz]; unfold mLockF; first | (rw [if_pos (by simp; omega)]) | (rw [if_neg (by simp; omega)]) | (split <;> first | rfl | omega)) rfl
      · skip
        refine lv_aload_n hx hb d_M_lock_26 rfl (lv_at hl 0 rfl) ?_
        refine x_getM (v := .ref (X.2.2.2 5)) cf hK hP 10 (by decide) w_471 rfl d_M_lock_27 ?_
        refine lv_aload_n hx hb d_M_lock_30 rfl (lv_at hl 0 rfl) ?_
        refine x_getM (v := .ref (X.2.2.2 6)) cf hK hP 11 (by decide) w_472 rfl d_M_lock_31 ?_
        refine lv_iload_n hx hb d_M_lock_34 rfl (lv_at hl 3 rfl) ?_
        refine x_iald (v := (S 6 b)) cf hK hP (ia6 X) (by omega) rfl d_M_lock_35 ?_
        refine x_iald (v := (S 5 (S 6 b))) cf hK hP (ia5 X) (by have := (show S 6 b < 40 from hI.c 6 b); omega) rfl d_M_lock_36 ?_
        refine lv_aload_n hx hb d_M_lock_37 rfl (lv_at hl 0 rfl) ?_
        refine x_getM (v := .ref (X.2.2.2 5)) cf hK hP 10 (by decide) w_471 rfl d_M_lock_38 ?_
        refine lv_iload_n hx hb d_M_lock_41 rfl (lv_at hl 2 rfl) ?_
        refine x_iald (v := (S 5 best)) cf hK hP (ia5 X) (by omega) rfl d_M_lock_42 ?_
        refine n_icmp_le (tgt := 53) hx hb d_M_lock_43 (by decide) (by have := (show S 6 b < 40 from hI.c 6 b); have := (show S 5 (S 6 b) + 1 ≤ V from hI.c 5 (S 6 b)); omega) (by have := (show S 5 best + 1 ≤ V from hI.c 5 best); omega) (fun h3 => ?_) (fun h3 => ?_)
        · skip
          refine n_iinc1 (lv' := [(3, .int (nI (b + 1))), (0, .ref (X.2.2.2 0)), (1, .int (nI r)), (2, .int (nI best))]) (k := 3) hx hb d_M_lock_53 hl rfl (by decide) rfl (fun ls hl => ?_)
          refine lv_goto (tgt := 4) hx hb d_M_lock_56 (by decide) ?_
          exact lp4 _ (by omega) best (b + 1) ls H locs (lv_sub hl [1, 2, 3, 0] rfl) hP hS (by omega) (by have := (show S 6 b < 40 from hI.c 6 b); have := (show S 6 (S 6 b) < 40 from hI.c 6 (S 6 b)); omega) (by rw [itr_1 _ _ hb1.1, ← hz]; unfold mLockF; first | (rw [if_pos (by simp; omega)]) | (rw [if_neg (by simp; omega)]) | (split <;> first | rfl | omega)) rfl
        · skip
          refine lv_aload_n hx hb d_M_lock_46 rfl (lv_at hl 0 rfl) ?_
          refine x_getM (v := .ref (X.2.2.2 6)) cf hK hP 11 (by decide) w_472 rfl d_M_lock_47 ?_
          refine lv_iload_n hx hb d_M_lock_50 rfl (lv_at hl 3 rfl) ?_
          refine x_iald (v := (S 6 b)) cf hK hP (ia6 X) (by omega) rfl d_M_lock_51 ?_
          refine lv_istore_n (lv' := [(2, .int (nI (S 6 b))), (0, .ref (X.2.2.2 0)), (1, .int (nI r)), (3, .int (nI b))]) hx hb d_M_lock_52 rfl hl (by decide) rfl (fun ls hl => ?_)
          refine n_iinc1 (lv' := [(3, .int (nI (b + 1))), (2, .int (nI (S 6 b))), (0, .ref (X.2.2.2 0)), (1, .int (nI r))]) (k := 3) hx hb d_M_lock_53 hl rfl (by decide) rfl (fun ls hl => ?_)
          refine lv_goto (tgt := 4) hx hb d_M_lock_56 (by decide) ?_
          exact lp4 _ (by omega) (S 6 b) (b + 1) ls H locs (lv_sub hl [2, 3, 1, 0] rfl) hP hS (by omega) (by have := (show S 6 b < 40 from hI.c 6 b); have := (show S 6 (S 6 b) < 40 from hI.c 6 (S 6 b)); omega) (by rw [itr_1 _ _ hb1.1, ← hz]; unfold mLockF; first | (rw [if_pos (by simp; omega)]) | (rw [if_neg (by simp; omega)]) | (split <;> first | rfl | omega)) rfl
  exact lp4 _ 0 1 ls H locs (lv_sub hl [2, 3, 1, 0] rfl) hP hS (by omega) (by omega) (rfl) rfl
set_option maxRecDepth 100000 in
set_option maxHeartbeats 4000000 in
theorem k_M_tip (l : Launch) {X : WX} (hX : xInj X) {S : Nat → Nat → Nat} {V : Nat} (hI : IW V S) {r : Nat} (hr0 : r < 7) : MetI l X y_M_tip (Cond.code y_M_tip c_M_tip 7 (some .int) :: Mst) 0 [.ref (X.2.2.2 0), .int (nI r)] S (nI (mTip S r)) S := by
  refine MetI.of (by decide) (Nat.le_of_ble_eq_true rfl) ?_
  intro p e s m args below meth c cf hr hlk hP hK hN ls hl
  have hl : lv_has ls 7 [(0, .ref (X.2.2.2 0)), (1, .int (nI r))] := hl
  have hx := cf.1
  have hb := cf.2.1
  have hD := xD_of hX
  have hS : va_S (xA X) s.heap s.heap [] := va_S.rf
  have hf := hI.f
  have hn := hI.n
  have hk := hI.k
  have hcs := hI.cs
  have ht := hI.t
  have hbl := hI.b
  have hm := hI.m
  have hV := hI.V
  obtain ⟨H, hH⟩ : ∃ H, H = s.heap := ⟨_, rfl⟩
  obtain ⟨locs, hlo⟩ : ∃ z : List Loc, z = [] := ⟨_, rfl⟩
  suffices hgo : PW X S H → va_S (xA X) s.heap H locs → W p l e (rmd 0) s m args below meth c H locs 0 0 (MQ below (QcI X (nI (mTip S r)) S) args s 0 0 (xA X)) (F0 m 0 ls []) by
    subst hH
    subst hlo
    exact hgo hP hS
  clear hP hS
  intro hP hS
  refine lv_iconst (v := nI 0) hx hb d_M_tip_0 (by decide) ?_
  refine lv_istore_n (lv' := [(2, .int (nI 0)), (0, .ref (X.2.2.2 0)), (1, .int (nI r))]) hx hb d_M_tip_1 rfl hl (by decide) rfl (fun ls hl => ?_)
  refine lv_iconst (v := nI 1) hx hb d_M_tip_2 (by decide) ?_
  refine lv_istore_n (lv' := [(3, .int (nI 1)), (2, .int (nI 0)), (0, .ref (X.2.2.2 0)), (1, .int (nI r))]) hx hb d_M_tip_3 rfl hl (by decide) rfl (fun ls hl => ?_)
  have lp4 : ∀ (dm : Nat) (best : Nat) (b : Nat) (ls : Array Slot) (H : Heap) (locs : List Loc), lv_has ls 7 [(0, .ref (X.2.2.2 0)), (1, .int (nI r)), (2, .int (nI best)), (3, .int (nI b))] → PW X S H → va_S (xA X) s.heap H locs → (1 ≤ b ∧ b ≤ S 0 5) → (best < 40) → (best = itr (mTipF S r) 1 0 (b - 1)) → (S 0 5 - b = dm) → W p l e (rmd 0) s m args below meth c H locs 0 0 (MQ below (QcI X (nI (mTip S r)) S) args s 0 0 (xA X)) (F0 m 4 ls []) := by
    intro dm
    induction dm using Nat.strongRecOn with | ind dm lp4 => ?_
    intro best b ls H locs hl hP hS hb1 hbe hz hdm
    refine lv_iload_n hx hb d_M_tip_4 rfl (lv_at hl 3 rfl) ?_
    refine lv_aload_n hx hb d_M_tip_5 rfl (lv_at hl 0 rfl) ?_
    refine x_getM (v := .int (nI (S 0 5))) cf hK hP 9 (by decide) w_470 rfl d_M_tip_6 ?_
    refine n_icmp_ge (tgt := 122) hx hb d_M_tip_9 (by decide) (by omega) (by omega) (fun h1 => ?_) (fun h1 => ?_)
    · skip
      refine lv_iload_n hx hb d_M_tip_122 rfl (lv_at hl 2 rfl) ?_
      exact x_iret cf hr hlk hP hS (by rw [hz, show b = S 0 5 by omega]; rfl) (rfl) d_M_tip_123
    · skip
      refine lv_aload_n hx hb d_M_tip_12 rfl (lv_at hl 0 rfl) ?_
      refine x_getM (v := .ref (X.2.2.2 6)) cf hK hP 11 (by decide) w_472 rfl d_M_tip_13 ?_
      refine lv_iload_n hx hb d_M_tip_16 rfl (lv_at hl 3 rfl) ?_
      refine x_iald (v := (S 6 b)) cf hK hP (ia6 X) (by omega) rfl d_M_tip_17 ?_
      refine lv_istore (lv' := [(4, .int (nI (S 6 b))), (0, .ref (X.2.2.2 0)), (1, .int (nI r)), (2, .int (nI best)), (3, .int (nI b))]) hx hb d_M_tip_18 hl (by decide) rfl (fun ls hl => ?_)
      refine lv_aload_n hx hb d_M_tip_20 rfl (lv_at hl 1 rfl) ?_
      refine x_getM (v := .ref (X.2.2.2 6)) cf hK hP 11 (by decide) w_472 rfl d_M_tip_21 ?_
      refine lv_iload hx hb d_M_tip_24 (lv_at hl 0 rfl) ?_
      refine x_iald (v := (S 6 (S 6 b))) cf hK hP (ia6 X) (by have := (show S 6 b < 40 from hI.c 6 b); omega) rfl d_M_tip_26 ?_
      refine lv_istore (lv' := [(5, .int (nI (S 6 (S 6 b)))), (4, .int (nI (S 6 b))), (0, .ref (X.2.2.2 0)), (1, .int (nI r)), (2, .int (nI best)), (3, .int (nI b))]) hx hb d_M_tip_27 hl (by decide) rfl (fun ls hl => ?_)
      refine lv_aload_n hx hb d_M_tip_29 rfl (lv_at hl 2 rfl) ?_
      refine x_getM (v := .ref (X.2.2.2 19)) cf hK hP 26 (by decide) w_487 rfl d_M_tip_30 ?_
      refine lv_bipush (v := nI 40) hx hb d_M_tip_33 (by decide) ?_
      refine lv_iload_n hx hb d_M_tip_35 rfl (lv_at hl 3 rfl) ?_
      refine n_imul hx hb d_M_tip_36 ?_
      refine lv_iload_n hx hb d_M_tip_37 rfl (lv_at hl 5 rfl) ?_
      refine n_iadd hx hb d_M_tip_38 ?_
      refine x_zald (v := (S 19 ((40 * r) + b))) cf hK hP (by omega) rfl d_M_tip_39 ?_
      refine n_if_eq (tgt := 89) hx hb d_M_tip_40 (by decide) (by have := (show S 19 ((40 * r) + b) ≤ 1 from hI.c 19 ((40 * r) + b)); omega) (fun h2 => ?_) (fun h2 => ?_)
      · skip
        refine lv_iconst (v := nI 0) hx hb d_M_tip_89 (by decide) ?_
        refine lv_istore (lv' := [(6, .int (nI 0)), (5, .int (nI (S 6 (S 6 b)))), (4, .int (nI (S 6 b))), (0, .ref (X.2.2.2 0)), (1, .int (nI r)), (2, .int (nI best)), (3, .int (nI b))]) hx hb d_M_tip_90 hl (by decide) rfl (fun ls hl => ?_)
        refine lv_iload hx hb d_M_tip_92 (lv_at hl 0 rfl) ?_
        refine n_if_eq (tgt := 116) hx hb d_M_tip_94 (by decide) (by decide) (fun _ => ?_) (fun h3 => absurd h3 (by decide))
        refine n_iinc1 (lv' := [(3, .int (nI (b + 1))), (6, .int (nI 0)), (5, .int (nI (S 6 (S 6 b)))), (4, .int (nI (S 6 b))), (0, .ref (X.2.2.2 0)), (1, .int (nI r)), (2, .int (nI best))]) (k := 6) hx hb d_M_tip_116 hl rfl (by decide) rfl (fun ls hl => ?_)
        refine lv_goto (tgt := 4) hx hb d_M_tip_119 (by decide) ?_
        exact lp4 _ (by omega) best (b + 1) ls H locs (lv_sub hl [4, 5, 6, 0] rfl) hP hS (by omega) (by have := (show S 6 b < 40 from hI.c 6 b); have := (show S 6 (S 6 b) < 40 from hI.c 6 (S 6 b)); omega) (by rw [itr_1 _ _ hb1.1, ← hz]; unfold mTipF; first | (rw [if_pos (by simp; omega)]) | (rw [if_neg (by simp; omega)]) | (split <;> first | rfl | omega)) rfl
      · skip
        refine lv_iload hx hb d_M_tip_43 (lv_at hl 1 rfl) ?_
        refine n_if_le (tgt := 89) hx hb d_M_tip_45 (by decide) (by have := (show S 6 b < 40 from hI.c 6 b); omega) (fun h4 => ?_) (fun h4 => ?_)
        · skip
          refine lv_iconst (v := nI 0) hx hb d_M_tip_89 (by decide) ?_
          refine lv_istore (lv' := [(6, .int (nI 0)), (5, .int (nI (S 6 (S 6 b)))), (4, .int (nI (S 6 b))), (0, .ref (X.2.2.2 0)), (1, .int (nI r)), (2, .int (nI best)), (3, .int (nI b))]) hx hb d_M_tip_90 hl (by decide) rfl (fun ls hl => ?_)
          refine lv_iload hx hb d_M_tip_92 (lv_at hl 0 rfl) ?_
          refine n_if_eq (tgt := 116) hx hb d_M_tip_94 (by decide) (by decide) (fun _ => ?_) (fun h5 => absurd h5 (by decide))
          refine n_iinc1 (lv' := [(3, .int (nI (b + 1))), (6, .int (nI 0)), (5, .int (nI (S 6 (S 6 b)))), (4, .int (nI (S 6 b))), (0, .ref (X.2.2.2 0)), (1, .int (nI r)), (2, .int (nI best))]) (k := 6) hx hb d_M_tip_116 hl rfl (by decide) rfl (fun ls hl => ?_)
          refine lv_goto (tgt := 4) hx hb d_M_tip_119 (by decide) ?_
          exact lp4 _ (by omega) best (b + 1) ls H locs (lv_sub hl [4, 5, 6, 0] rfl) hP hS (by omega) (by have := (show S 6 b < 40 from hI.c 6 b); have := (show S 6 (S 6 b) < 40 from hI.c 6 (S 6 b)); omega) (by rw [itr_1 _ _ hb1.1, ← hz]; unfold mTipF; first | (rw [if_pos (by simp; omega)]) | (rw [if_neg (by simp; omega)]) | (split <;> first | rfl | omega)) rfl
        · skip
          refine lv_aload_n hx hb d_M_tip_48 rfl (lv_at hl 2 rfl) ?_
          refine x_getM (v := .ref (X.2.2.2 5)) cf hK hP 10 (by decide) w_471 rfl d_M_tip_49 ?_
          refine lv_iload_n hx hb d_M_tip_52 rfl (lv_at hl 5 rfl) ?_
          refine x_iald (v := (S 5 b)) cf hK hP (ia5 X) (by omega) rfl d_M_tip_53 ?_
          refine lv_aload_n hx hb d_M_tip_54 rfl (lv_at hl 2 rfl) ?_
          refine x_getM (v := .ref (X.2.2.2 5)) cf hK hP 10 (by decide) w_471 rfl d_M_tip_55 ?_
          refine lv_iload hx hb d_M_tip_58 (lv_at hl 1 rfl) ?_
          refine x_iald (v := (S 5 (S 6 b))) cf hK hP (ia5 X) (by have := (show S 6 b < 40 from hI.c 6 b); omega) rfl d_M_tip_60 ?_
          refine lv_iconst (v := nI 1) hx hb d_M_tip_61 (by decide) ?_
          refine n_iadd hx hb d_M_tip_62 ?_
          refine n_icmp_ne (tgt := 89) hx hb d_M_tip_63 (by decide) (by have := (show S 5 b + 1 ≤ V from hI.c 5 b); omega) (by have := (show S 6 b < 40 from hI.c 6 b); have := (show S 5 (S 6 b) + 1 ≤ V from hI.c 5 (S 6 b)); omega) (fun h6 => ?_) (fun h6 => ?_)
          · skip
            refine lv_iconst (v := nI 0) hx hb d_M_tip_89 (by decide) ?_
            refine lv_istore (lv' := [(6, .int (nI 0)), (5, .int (nI (S 6 (S 6 b)))), (4, .int (nI (S 6 b))), (0, .ref (X.2.2.2 0)), (1, .int (nI r)), (2, .int (nI best)), (3, .int (nI b))]) hx hb d_M_tip_90 hl (by decide) rfl (fun ls hl => ?_)
            refine lv_iload hx hb d_M_tip_92 (lv_at hl 0 rfl) ?_
            refine n_if_eq (tgt := 116) hx hb d_M_tip_94 (by decide) (by decide) (fun _ => ?_) (fun h7 => absurd h7 (by decide))
            refine n_iinc1 (lv' := [(3, .int (nI (b + 1))), (6, .int (nI 0)), (5, .int (nI (S 6 (S 6 b)))), (4, .int (nI (S 6 b))), (0, .ref (X.2.2.2 0)), (1, .int (nI r)), (2, .int (nI best))]) (k := 6) hx hb d_M_tip_116 hl rfl (by decide) rfl (fun ls hl => ?_)
            refine lv_goto (tgt := 4) hx hb d_M_tip_119 (by decide) ?_
            exact lp4 _ (by omega) best (b + 1) ls H locs (lv_sub hl [4, 5, 6, 0] rfl) hP hS (by omega) (by have := (show S 6 b < 40 from hI.c 6 b); have := (show S 6 (S 6 b) < 40 from hI.c 6 (S 6 b)); omega) (by rw [itr_1 _ _ hb1.1, ← hz]; unfold mTipF; first | (rw [if_pos (by simp; omega)]) | (rw [if_neg (by simp; omega)]) | (split <;> first | rfl | omega)) rfl
          · skip
            refine lv_aload_n hx hb d_M_tip_66 rfl (lv_at hl 2 rfl) ?_
            refine x_getM (v := .ref (X.2.2.2 5)) cf hK hP 10 (by decide) w_471 rfl d_M_tip_67 ?_
            refine lv_iload hx hb d_M_tip_70 (lv_at hl 1 rfl) ?_
            refine x_iald (v := (S 5 (S 6 b))) cf hK hP (ia5 X) (by have := (show S 6 b < 40 from hI.c 6 b); omega) rfl d_M_tip_72 ?_
            refine lv_aload_n hx hb d_M_tip_73 rfl (lv_at hl 2 rfl) ?_
            refine x_getM (v := .ref (X.2.2.2 5)) cf hK hP 10 (by decide) w_471 rfl d_M_tip_74 ?_
            refine lv_iload hx hb d_M_tip_77 (lv_at hl 0 rfl) ?_
            refine x_iald (v := (S 5 (S 6 (S 6 b)))) cf hK hP (ia5 X) (by have := (show S 6 b < 40 from hI.c 6 b); have := (show S 6 (S 6 b) < 40 from hI.c 6 (S 6 b)); omega) rfl d_M_tip_79 ?_
            refine lv_iconst (v := nI 1) hx hb d_M_tip_80 (by decide) ?_
            refine n_iadd hx hb d_M_tip_81 ?_
            refine n_icmp_ne (tgt := 89) hx hb d_M_tip_82 (by decide) (by have := (show S 6 b < 40 from hI.c 6 b); have := (show S 5 (S 6 b) + 1 ≤ V from hI.c 5 (S 6 b)); omega) (by have := (show S 6 b < 40 from hI.c 6 b); have := (show S 6 (S 6 b) < 40 from hI.c 6 (S 6 b)); have := (show S 5 (S 6 (S 6 b)) + 1 ≤ V from hI.c 5 (S 6 (S 6 b))); omega) (fun h8 => ?_) (fun h8 => ?_)
            · skip
              refine lv_iconst (v := nI 0) hx hb d_M_tip_89 (by decide) ?_
              refine lv_istore (lv' := [(6, .int (nI 0)), (5, .int (nI (S 6 (S 6 b)))), (4, .int (nI (S 6 b))), (0, .ref (X.2.2.2 0)), (1, .int (nI r)), (2, .int (nI best)), (3, .int (nI b))]) hx hb d_M_tip_90 hl (by decide) rfl (fun ls hl => ?_)
              refine lv_iload hx hb d_M_tip_92 (lv_at hl 0 rfl) ?_
              refine n_if_eq (tgt := 116) hx hb d_M_tip_94 (by decide) (by decide) (fun _ => ?_) (fun h9 => absurd h9 (by decide))
              refine n_iinc1 (lv' := [(3, .int (nI (b + 1))), (6, .int (nI 0)), (5, .int (nI (S 6 (S 6 b)))), (4, .int (nI (S 6 b))), (0, .ref (X.2.2.2 0)), (1, .int (nI r)), (2, .int (nI best))]) (k := 6) hx hb d_M_tip_116 hl rfl (by decide) rfl (fun ls hl => ?_)
              refine lv_goto (tgt := 4) hx hb d_M_tip_119 (by decide) ?_
              exact lp4 _ (by omega) best (b + 1) ls H locs (lv_sub hl [4, 5, 6, 0] rfl) hP hS (by omega) (by have := (show S 6 b < 40 from hI.c 6 b); have := (show S 6 (S 6 b) < 40 from hI.c 6 (S 6 b)); omega) (by rw [itr_1 _ _ hb1.1, ← hz]; unfold mTipF; first | (rw [if_pos (by simp; omega)]) | (rw [if_neg (by simp; omega)]) | (split <;> first | rfl | omega)) rfl
            · skip
              refine lv_iconst (v := nI 1) hx hb d_M_tip_85 (by decide) ?_
              refine lv_goto (tgt := 90) hx hb d_M_tip_86 (by decide) ?_
              refine lv_istore (lv' := [(6, .int (nI 1)), (5, .int (nI (S 6 (S 6 b)))), (4, .int (nI (S 6 b))), (0, .ref (X.2.2.2 0)), (1, .int (nI r)), (2, .int (nI best)), (3, .int (nI b))]) hx hb d_M_tip_90 hl (by decide) rfl (fun ls hl => ?_)
              refine lv_iload hx hb d_M_tip_92 (lv_at hl 0 rfl) ?_
              refine n_if_eq (tgt := 116) hx hb d_M_tip_94 (by decide) (by decide) (fun h10 => absurd h10 (by decide)) (fun _ => ?_)
              refine lv_aload_n hx hb d_M_tip_97 rfl (lv_at hl 3 rfl) ?_
              refine x_getM (v := .ref (X.2.2.2 5)) cf hK hP 10 (by decide) w_471 rfl d_M_tip_98 ?_
              refine lv_iload hx hb d_M_tip_101 (lv_at hl 1 rfl) ?_
              refine x_iald (v := (S 5 (S 6 (S 6 b)))) cf hK hP (ia5 X) (by have := (show S 6 b < 40 from hI.c 6 b); have := (show S 6 (S 6 b) < 40 from hI.c 6 (S 6 b)); omega) rfl d_M_tip_103 ?_
              refine lv_aload_n hx hb d_M_tip_104 rfl (lv_at hl 3 rfl) ?_
              refine x_getM (v := .ref (X.2.2.2 5)) cf hK hP 10 (by decide) w_471 rfl d_M_tip_105 ?_
              refine lv_iload_n hx hb d_M_tip_108 rfl (lv_at hl 5 rfl) ?_
              refine x_iald (v := (S 5 best)) cf hK hP (ia5 X) (by omega) rfl d_M_tip_109 ?_
              refine n_icmp_le (tgt := 116) hx hb d_M_tip_110 (by decide) (by have := (show S 6 b < 40 from hI.c 6 b); have := (show S 6 (S 6 b) < 40 from hI.c 6 (S 6 b)); have := (show S 5 (S 6 (S 6 b)) + 1 ≤ V from hI.c 5 (S 6 (S 6 b))); omega) (by have := (show S 5 best + 1 ≤ V from hI.c 5 best); omega) (fun h11 => ?_) (fun h11 => ?_)
              · skip
                refine n_iinc1 (lv' := [(3, .int (nI (b + 1))), (6, .int (nI 1)), (5, .int (nI (S 6 (S 6 b)))), (4, .int (nI (S 6 b))), (0, .ref (X.2.2.2 0)), (1, .int (nI r)), (2, .int (nI best))]) (k := 6) hx hb d_M_tip_116 hl rfl (by decide) rfl (fun ls hl => ?_)
                refine lv_goto (tgt := 4) hx hb d_M_tip_119 (by decide) ?_
                exact lp4 _ (by omega) best (b + 1) ls H locs (lv_sub hl [4, 5, 6, 0] rfl) hP hS (by omega) (by have := (show S 6 b < 40 from hI.c 6 b); have := (show S 6 (S 6 b) < 40 from hI.c 6 (S 6 b)); omega) (by rw [itr_1 _ _ hb1.1, ← hz]; unfold mTipF; first | (rw [if_pos (by simp; omega)]) | (rw [if_neg (by simp; omega)]) | (split <;> first | rfl | omega)) rfl
              · skip
                refine lv_iload hx hb d_M_tip_113 (lv_at hl 1 rfl) ?_
                refine lv_istore_n (lv' := [(2, .int (nI (S 6 (S 6 b)))), (6, .int (nI 1)), (5, .int (nI (S 6 (S 6 b)))), (4, .int (nI (S 6 b))), (0, .ref (X.2.2.2 0)), (1, .int (nI r)), (3, .int (nI b))]) hx hb d_M_tip_115 rfl hl (by decide) rfl (fun ls hl => ?_)
                refine n_iinc1 (lv' := [(3, .int (nI (b + 1))), (2, .int (nI (S 6 (S 6 b)))), (6, .int (nI 1)), (5, .int (nI (S 6 (S 6 b)))), (4, .int (nI (S 6 b))), (0, .ref (X.2.2.2 0)), (1, .int (nI r))]) (k := 6) hx hb d_M_tip_116 hl rfl (by decide) rfl (fun ls hl => ?_)
                refine lv_goto (tgt := 4) hx hb d_M_tip_119 (by decide) ?_
                exact lp4 _ (by omega) (S 6 (S 6 b)) (b + 1) ls H locs (lv_sub hl [5, 6, 1, 0] rfl) hP hS (by omega) (by have := (show S 6 b < 40 from hI.c 6 b); have := (show S 6 (S 6 b) < 40 from hI.c 6 (S 6 b)); omega) (by rw [itr_1 _ _ hb1.1, ← hz]; unfold mTipF; first | (rw [if_pos (by simp; omega)]) | (rw [if_neg (by simp; omega)]) | (split <;> first | rfl | omega)) rfl
  exact lp4 _ 0 1 ls H locs (lv_sub hl [2, 3, 1, 0] rfl) hP hS (by omega) (by omega) (rfl) rfl
set_option maxRecDepth 100000 in
set_option maxHeartbeats 4000000 in
theorem k_M_enter (l : Launch) {X : WX} (hX : xInj X) {S : Nat → Nat → Nat} {V : Nat} (hI : IW V S) {r : Nat} (hr0 : r < 7) {v : Nat} : MetV l X y_M_enter (Cond.code y_M_enter c_M_enter 3 none :: Mst) 0 [.ref (X.2.2.2 0), .int (nI r), .int (nI v)] S (mEnter S r v) := by
  refine MetV.of (by decide) (Nat.le_of_ble_eq_true rfl) ?_
  intro p e s m args below meth c cf hr hlk hP hK hN ls hl
  have hl : lv_has ls 3 [(0, .ref (X.2.2.2 0)), (1, .int (nI r)), (2, .int (nI v))] := hl
  have hx := cf.1
  have hb := cf.2.1
  have hD := xD_of hX
  have hS : va_S (xA X) s.heap s.heap [] := va_S.rf
  have hf := hI.f
  have hn := hI.n
  have hk := hI.k
  have hcs := hI.cs
  have ht := hI.t
  have hbl := hI.b
  have hm := hI.m
  have hV := hI.V
  obtain ⟨H, hH⟩ : ∃ H, H = s.heap := ⟨_, rfl⟩
  obtain ⟨locs, hlo⟩ : ∃ z : List Loc, z = [] := ⟨_, rfl⟩
  suffices hgo : PW X S H → va_S (xA X) s.heap H locs → W p l e (rmd 0) s m args below meth c H locs 0 0 (MQ below (QcV X (mEnter S r v)) args s 0 0 (xA X)) (F0 m 0 ls []) by
    subst hH
    subst hlo
    exact hgo hP hS
  clear hP hS
  intro hP hS
  refine lv_aload_n hx hb d_M_enter_0 rfl (lv_at hl 0 rfl) ?_
  refine x_getM (v := .ref (X.2.2.2 14)) cf hK hP 21 (by decide) w_482 rfl d_M_enter_1 ?_
  refine lv_iload_n hx hb d_M_enter_4 rfl (lv_at hl 1 rfl) ?_
  refine lv_iload_n hx hb d_M_enter_5 rfl (lv_at hl 2 rfl) ?_
  refine x_iast cf hK hD hP hS (ia14 X) (by omega) d_M_enter_6 (fun H locs hP hS => ?_)
  refine lv_aload_n hx hb d_M_enter_7 rfl (lv_at hl 0 rfl) ?_
  refine x_getM (v := .ref (X.2.2.2 15)) cf hK hP 22 (by decide) w_483 rfl d_M_enter_8 ?_
  refine lv_iload_n hx hb d_M_enter_11 rfl (lv_at hl 1 rfl) ?_
  refine lv_iconst (v := nI 0) hx hb d_M_enter_12 (by decide) ?_
  refine x_iast cf hK hD hP hS (ia15 X) (by omega) d_M_enter_13 (fun H locs hP hS => ?_)
  exact x_vret cf hr hlk hP hS (rfl) d_M_enter_14
set_option maxRecDepth 100000 in
set_option maxHeartbeats 4000000 in
theorem k_M_send (l : Launch) {X : WX} (hX : xInj X) {S : Nat → Nat → Nat} {V : Nat} (hI : IW V S) (a0 a1 a2 a3 a4 : Nat) : MetV l X y_M_send (Cond.code y_M_send c_M_send 6 none :: Mst) 0 [.ref (X.2.2.2 0), .int (nI a0), .int (nI a1), .int (nI a2), .int (nI a3), .int (nI a4)] S (mSend S a0 a1 a2 a3 a4) := by
  refine MetV.of (by decide) (Nat.le_of_ble_eq_true rfl) ?_
  intro p e s m args below meth c cf hr hlk hP hK hN ls hl
  have hl : lv_has ls 6 [(0, .ref (X.2.2.2 0)), (1, .int (nI a0)), (2, .int (nI a1)), (3, .int (nI a2)), (4, .int (nI a3)), (5, .int (nI a4))] := hl
  have hx := cf.1
  have hb := cf.2.1
  have hD := xD_of hX
  have hS : va_S (xA X) s.heap s.heap [] := va_S.rf
  have hf := hI.f
  have hn := hI.n
  have hk := hI.k
  have hcs := hI.cs
  have ht := hI.t
  have hbl := hI.b
  have hm := hI.m
  have hV := hI.V
  obtain ⟨H, hH⟩ : ∃ H, H = s.heap := ⟨_, rfl⟩
  obtain ⟨locs, hlo⟩ : ∃ z : List Loc, z = [] := ⟨_, rfl⟩
  suffices hgo : PW X S H → va_S (xA X) s.heap H locs → W p l e (rmd 0) s m args below meth c H locs 0 0 (MQ below (QcV X (mSend S a0 a1 a2 a3 a4)) args s 0 0 (xA X)) (F0 m 0 ls []) by
    subst hH
    subst hlo
    exact hgo hP hS
  clear hP hS
  intro hP hS
  refine lv_aload_n hx hb d_M_send_0 rfl (lv_at hl 0 rfl) ?_
  refine x_getM (v := .int (nI (S 0 6))) cf hK hP 14 (by decide) w_475 rfl d_M_send_1 ?_
  refine lv_bipush (v := nI 40) hx hb d_M_send_4 (by decide) ?_
  refine n_icmp_lt (tgt := 20) hx hb d_M_send_6 (by decide) (by omega) (by decide) (fun h1 => ?_) (fun h1 => ?_)
  · skip
    refine lv_aload_n hx hb d_M_send_20 rfl (lv_at hl 0 rfl) ?_
    refine x_getM (v := .ref (X.2.2.2 9)) cf hK hP 16 (by decide) w_477 rfl d_M_send_21 ?_
    refine lv_aload_n hx hb d_M_send_24 rfl (lv_at hl 0 rfl) ?_
    refine x_getM (v := .int (nI (S 0 6))) cf hK hP 14 (by decide) w_475 rfl d_M_send_25 ?_
    refine lv_iload_n hx hb d_M_send_28 rfl (lv_at hl 1 rfl) ?_
    refine x_iast cf hK hD hP hS (ia9 X) (by omega) d_M_send_29 (fun H locs hP hS => ?_)
    refine lv_aload_n hx hb d_M_send_30 rfl (lv_at hl 0 rfl) ?_
    refine x_getM (v := .ref (X.2.2.2 11)) cf hK hP 18 (by decide) w_479 rfl d_M_send_31 ?_
    refine lv_aload_n hx hb d_M_send_34 rfl (lv_at hl 0 rfl) ?_
    refine x_getM (v := .int (nI (S 0 6))) cf hK hP 14 (by decide) w_475 rfl d_M_send_35 ?_
    refine lv_iload_n hx hb d_M_send_38 rfl (lv_at hl 2 rfl) ?_
    refine x_iast cf hK hD hP hS (ia11 X) (by omega) d_M_send_39 (fun H locs hP hS => ?_)
    refine lv_aload_n hx hb d_M_send_40 rfl (lv_at hl 0 rfl) ?_
    refine x_getM (v := .ref (X.2.2.2 10)) cf hK hP 17 (by decide) w_478 rfl d_M_send_41 ?_
    refine lv_aload_n hx hb d_M_send_44 rfl (lv_at hl 0 rfl) ?_
    refine x_getM (v := .int (nI (S 0 6))) cf hK hP 14 (by decide) w_475 rfl d_M_send_45 ?_
    refine lv_iload_n hx hb d_M_send_48 rfl (lv_at hl 3 rfl) ?_
    refine x_iast cf hK hD hP hS (ia10 X) (by omega) d_M_send_49 (fun H locs hP hS => ?_)
    refine lv_aload_n hx hb d_M_send_50 rfl (lv_at hl 0 rfl) ?_
    refine x_getM (v := .ref (X.2.2.2 12)) cf hK hP 19 (by decide) w_480 rfl d_M_send_51 ?_
    refine lv_aload_n hx hb d_M_send_54 rfl (lv_at hl 0 rfl) ?_
    refine x_getM (v := .int (nI (S 0 6))) cf hK hP 14 (by decide) w_475 rfl d_M_send_55 ?_
    refine lv_iload hx hb d_M_send_58 (lv_at hl 4 rfl) ?_
    refine x_iast cf hK hD hP hS (ia12 X) (by omega) d_M_send_60 (fun H locs hP hS => ?_)
    refine lv_aload_n hx hb d_M_send_61 rfl (lv_at hl 0 rfl) ?_
    refine x_getM (v := .ref (X.2.2.2 13)) cf hK hP 20 (by decide) w_481 rfl d_M_send_62 ?_
    refine lv_aload_n hx hb d_M_send_65 rfl (lv_at hl 0 rfl) ?_
    refine x_getM (v := .int (nI (S 0 6))) cf hK hP 14 (by decide) w_475 rfl d_M_send_66 ?_
    refine lv_iload hx hb d_M_send_69 (lv_at hl 5 rfl) ?_
    refine x_iast cf hK hD hP hS (ia13 X) (by omega) d_M_send_71 (fun H locs hP hS => ?_)
    refine lv_aload_n hx hb d_M_send_72 rfl (lv_at hl 0 rfl) ?_
    refine lv_dup hx hb d_M_send_73 rfl ?_
    refine x_getM (v := .int (nI (S 0 6))) cf hK hP 14 (by decide) w_475 rfl d_M_send_74 ?_
    refine lv_iconst (v := nI 1) hx hb d_M_send_77 (by decide) ?_
    refine n_iadd hx hb d_M_send_78 ?_
    refine x_putM cf hK hD hP hS 14 (by decide) w_475 rfl (by decide +kernel) 6 rfl d_M_send_79 (fun H locs hP hS => ?_)
    exact x_vret cf hr hlk hP hS (by unfold mSend; rw [if_neg (by omega)]) d_M_send_82
  · skip
    refine lv_aload_n hx hb d_M_send_9 rfl (lv_at hl 0 rfl) ?_
    refine lv_dup hx hb d_M_send_10 rfl ?_
    refine x_getM (v := .int (nI (S 0 7))) cf hK hP 15 (by decide) w_476 rfl d_M_send_11 ?_
    refine lv_iconst (v := nI 1) hx hb d_M_send_14 (by decide) ?_
    refine n_iadd hx hb d_M_send_15 ?_
    refine x_putM cf hK hD hP hS 15 (by decide) w_476 rfl (by decide +kernel) 7 rfl d_M_send_16 (fun H locs hP hS => ?_)
    exact x_vret cf hr hlk hP hS (by unfold mSend; rw [if_pos (by omega)]) d_M_send_19
