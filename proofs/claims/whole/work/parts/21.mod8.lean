theorem mUsed_snd {S : Nat → Nat → Nat} {V : Nat} (hI : IW V S) {x : Nat} (hx : x < 40) : ∀ k, (itr (mUsedF S) 0 (0, x) k).1 < 16777216 ∧ (itr (mUsedF S) 0 (0, x) k).2 < 40
  | 0 => ⟨show 0 < 16777216 by decide, hx⟩
  | k + 1 => by
    obtain ⟨h1, h2⟩ := mUsed_snd hI hx k
    rw [itr_s]
    generalize itr (mUsedF S) 0 (0, x) k = q at h1 h2 ⊢
    exact ⟨Nat.or_lt_two_pow (n := 24) h1 (show S 7 q.2 < 16777216 from hI.c 7 _), (show S 6 q.2 < 40 from hI.c 6 _)⟩
theorem mPick_lt {S : Nat → Nat → Nat} {r used : Nat} : ∀ k, k ≤ 24 → (itr (mPickF S r used) 0 (0, 0) k).1 < 16777216 ∧ (itr (mPickF S r used) 0 (0, 0) k).2 ≤ 2
  | 0, _ => ⟨show 0 < 16777216 by decide, show 0 ≤ 2 by decide⟩
  | k + 1, hk => by
    obtain ⟨h1, h2⟩ := mPick_lt (S := S) (r := r) (used := used) k (by omega)
    rw [itr_z]
    generalize itr (mPickF S r used) 0 (0, 0) k = q at h1 h2 ⊢
    unfold mPickF
    split
    · rename_i hc
      exact ⟨Nat.or_lt_two_pow (n := 24) h1 (p2_24 k (by omega)), by have := hc.1; show q.2 + 1 ≤ 2; omega⟩
    · exact ⟨h1, h2⟩
theorem mPick_stop {S : Nat → Nat → Nat} {r used t : Nat} (h : (itr (mPickF S r used) 0 (0, 0) t).2 = 2) : ∀ k, itr (mPickF S r used) 0 (0, 0) (t + k) = itr (mPickF S r used) 0 (0, 0) t
  | 0 => rfl
  | k + 1 => by
    rw [← Nat.add_assoc, itr_s, mPick_stop h k]
    unfold mPickF
    rw [if_neg (by
      intro q
      have := q.1
      have h' := h
      unfold mPickF at h'
      omega)]
def rLead (S : Nat → Nat → Nat) (r : Int32) : Int32 := if mLeadOk S r = true then nI (S 0 5) else -1
theorem IW.lead1 {V : Nat} {S : Nat → Nat → Nat} {r : Nat} (h : IW V S) (hV : V + 1 ≤ 20000) (hb : S 0 5 < 40) : IW (V + 1) (mLead1 S r) := by
  have hJ := h.mono (show V ≤ V + 1 by omega) hV
  have h14 := (show S 14 r ≤ V ∧ _ from h.c 14 r).1
  have hh := mHigh_lt h r
  have ht := h.t
  refine (hJ.newBlock hb (by omega) (by omega) (mPick_lt _ (by omega)).1).up (k := 18) (by decide) ?_
  show S 14 r ≤ V + 1
  omega
theorem IW.leads {V b : Nat} {S : Nat → Nat → Nat} (h : IW V S) (hb : b < S 0 5) : ∀ k, k ≤ S 0 1 → IW V (itr (fun q Z => mSend Z 0 0 q b 0) 0 S k) ∧ itr (fun q Z => mSend Z 0 0 q b 0) 0 S k 0 1 = S 0 1 ∧ itr (fun q Z => mSend Z 0 0 q b 0) 0 S k 0 5 = S 0 5
  | 0, _ => ⟨h, rfl, rfl⟩
  | k + 1, hk => by
    obtain ⟨h1, h2, h3⟩ := IW.leads h hb k (by omega)
    have hn := h.n
    rw [itr_z]
    generalize itr (fun q Z => mSend Z 0 0 q b 0) 0 S k = Z at h1 h2 h3 ⊢
    refine ⟨h1.send (by decide) (by omega) (by omega) (by omega) (by decide), ?_, ?_⟩
    · show mSend Z 0 0 k b 0 0 1 = S 0 1
      unfold mSend
      split <;> simp [up2_at, h2]
    · show mSend Z 0 0 k b 0 0 5 = S 0 5
      unfold mSend
      split <;> simp [up2_at, h3]
set_option maxRecDepth 100000 in
set_option maxHeartbeats 4000000 in
theorem k_M_lead (l : Launch) {X : WX} (hX : xInj X) {S : Nat → Nat → Nat} {V : Nat} (hI : IW V S) (hV1 : V + 1 ≤ 20000) (r : Int32) : MetI l X y_M_lead (Cond.code y_M_lead c_M_lead 11 (some .int) :: Mst) 2 [.ref (X.2.2.2 0), .int r] S (rLead S r) (mLead S r) := by
  refine MetI.of (by decide) (Nat.le_of_ble_eq_true rfl) ?_
  intro p e s m args below meth c cf hr hlk hP hK hN ls hl
  have hl : lv_has ls 11 [(0, .ref (X.2.2.2 0)), (1, .int r)] := hl
  have hx := cf.1
  have hb := cf.2.1
  have hD := xD_of hX
  have hS : va_S (xA X) s.heap s.heap [] := va_S.rf
  have hf := hI.f
  have hn := hI.n
  have hk := hI.k
  have hcs := hI.cs
  have ht := hI.t
  have hbl := hI.b
  have hm := hI.m
  have hV := hI.V
  obtain ⟨H, hH⟩ : ∃ H, H = s.heap := ⟨_, rfl⟩
  obtain ⟨locs, hlo⟩ : ∃ z : List Loc, z = [] := ⟨_, rfl⟩
  suffices hgo : PW X S H → va_S (xA X) s.heap H locs → W p l e (rmd 2) s m args below meth c H locs 0 0 (MQ below (QcI X (rLead S r) (mLead S r)) args s 0 0 (xA X)) (F0 m 0 ls []) by
    subst hH
    subst hlo
    exact hgo hP hS
  clear hP hS
  intro hP hS
  refine lv_aload_n hx hb d_M_lead_0 rfl (lv_at hl 0 rfl) ?_
  refine lv_iload_n hx hb d_M_lead_1 rfl (lv_at hl 1 rfl) ?_
  refine x_callVi (As := [.int r]) (rest := []) cf hK hN hP hS (k_M_isCorrect l hX hI r) (cw_M_isCorrect cf.2.2.2.2 w_567 ⟨Nat.le_of_ble_eq_true rfl, Nat.le_of_ble_eq_true rfl⟩) (rv_M hK hP) hl.1 rfl rfl (Nat.le_of_ble_eq_true rfl) ⟨Nat.zero_le _, Nat.zero_le _⟩ d_M_lead_2 (fun H locs hP hS => ?_)
  refine n_if_eq (tgt := 46) hx hb d_M_lead_5 (by decide) (tnat_lt _) (fun h1 => ?_) (fun h1 => ?_)
  · skip
    have hno : mLeadOk S r = false := by unfold mLeadOk; rw [tnat_0 (b := mCorrect S r) h1]; simp
    refine lv_iconst (v := (-1)) hx hb d_M_lead_46 (by decide) ?_
    exact x_iret cf hr hlk hP hS (by unfold rLead; rw [hno]; rfl) (by unfold mLead; rw [hno]; rfl) d_M_lead_47
  · skip
    have hcor := tnat_1 h1
    obtain ⟨j, hj, rfl, hjb⟩ := mCorrect_ex (by omega) hcor
    have hjc := nI_clamp (show j < 2 ^ 31 by omega)
    refine lv_aload_n hx hb d_M_lead_8 rfl (lv_at hl 0 rfl) ?_
    refine lv_aload_n hx hb d_M_lead_9 rfl (lv_at hl 0 rfl) ?_
    refine x_getM (v := .ref (X.2.2.2 14)) cf hK hP 21 (by decide) w_482 rfl d_M_lead_10 ?_
    refine lv_iload_n hx hb d_M_lead_13 rfl (lv_at hl 1 rfl) ?_
    refine x_iald (v := (S 14 j)) cf hK hP (ia14 X) (by omega) rfl d_M_lead_14 ?_
    refine x_callVi (As := [.int (nI (S 14 j))]) (rest := []) cf hK hN hP hS (k_M_leader l hX hI (S 14 j) (by have := (show S 14 j ≤ V ∧ (j < S 0 1 → 1 ≤ S 14 j) from hI.c 14 j); omega)) (cw_M_leader cf.2.2.2.2 w_575 ⟨Nat.le_of_ble_eq_true rfl, Nat.le_of_ble_eq_true rfl⟩) (rv_M hK hP) hl.1 rfl rfl (Nat.le_of_ble_eq_true rfl) ⟨Nat.zero_le _, Nat.zero_le _⟩ d_M_lead_15 (fun H locs hP hS => ?_)
    have hle := mLeader_lt hI (S 14 j)
    refine lv_iload_n hx hb d_M_lead_18 rfl (lv_at hl 1 rfl) ?_
    refine n_icmp_ne (tgt := 46) hx hb d_M_lead_19 (by decide) (by omega) (by omega) (fun h2 => ?_) (fun h2 => ?_)
    · skip
      have hno : mLeadOk S (nI j) = false := by unfold mLeadOk; rw [hjc, decide_eq_false (p := mLeader S (S 14 j) = j) (by omega)]; simp
      refine lv_iconst (v := (-1)) hx hb d_M_lead_46 (by decide) ?_
      exact x_iret cf hr hlk hP hS (by unfold rLead; rw [hno]; rfl) (by unfold mLead; rw [hno]; rfl) d_M_lead_47
    · skip
      refine lv_aload_n hx hb d_M_lead_22 rfl (lv_at hl 0 rfl) ?_
      refine x_getM (v := .ref (X.2.2.2 18)) cf hK hP 25 (by decide) w_486 rfl d_M_lead_23 ?_
      refine lv_iload_n hx hb d_M_lead_26 rfl (lv_at hl 1 rfl) ?_
      refine x_iald (v := (S 18 j)) cf hK hP (ia18 X) (by omega) rfl d_M_lead_27 ?_
      refine lv_aload_n hx hb d_M_lead_28 rfl (lv_at hl 0 rfl) ?_
      refine x_getM (v := .ref (X.2.2.2 14)) cf hK hP 21 (by decide) w_482 rfl d_M_lead_29 ?_
      refine lv_iload_n hx hb d_M_lead_32 rfl (lv_at hl 1 rfl) ?_
      refine x_iald (v := (S 14 j)) cf hK hP (ia14 X) (by omega) rfl d_M_lead_33 ?_
      refine n_icmp_eq (tgt := 46) hx hb d_M_lead_34 (by decide) (by have := (show S 18 j ≤ V from hI.c 18 j); omega) (by have := (show S 14 j ≤ V ∧ (j < S 0 1 → 1 ≤ S 14 j) from hI.c 14 j); omega) (fun h3 => ?_) (fun h3 => ?_)
      · skip
        have hno : mLeadOk S (nI j) = false := by unfold mLeadOk; rw [hjc, decide_eq_true (p := S 18 j = S 14 j) (by omega)]; simp
        refine lv_iconst (v := (-1)) hx hb d_M_lead_46 (by decide) ?_
        exact x_iret cf hr hlk hP hS (by unfold rLead; rw [hno]; rfl) (by unfold mLead; rw [hno]; rfl) d_M_lead_47
      · skip
        refine lv_aload_n hx hb d_M_lead_37 rfl (lv_at hl 0 rfl) ?_
        refine x_getM (v := .int (nI (S 0 5))) cf hK hP 9 (by decide) w_470 rfl d_M_lead_38 ?_
        refine lv_bipush (v := nI 40) hx hb d_M_lead_41 (by decide) ?_
        refine n_icmp_lt (tgt := 48) hx hb d_M_lead_43 (by decide) (by omega) (by decide) (fun h4 => ?_) (fun h4 => ?_)
        · skip
          refine lv_aload_n hx hb d_M_lead_48 rfl (lv_at hl 0 rfl) ?_
          refine x_getM (v := .ref (X.2.2.2 14)) cf hK hP 21 (by decide) w_482 rfl d_M_lead_49 ?_
          refine lv_iload_n hx hb d_M_lead_52 rfl (lv_at hl 1 rfl) ?_
          refine x_iald (v := (S 14 j)) cf hK hP (ia14 X) (by omega) rfl d_M_lead_53 ?_
          refine lv_istore_n (lv' := [(2, .int (nI (S 14 j))), (0, .ref (X.2.2.2 0)), (1, .int (nI j))]) hx hb d_M_lead_54 rfl hl (by decide) rfl (fun ls hl => ?_)
          refine lv_aload_n hx hb d_M_lead_55 rfl (lv_at hl 1 rfl) ?_
          refine lv_iload_n hx hb d_M_lead_56 rfl (lv_at hl 2 rfl) ?_
          refine x_callVi (As := [.int (nI j)]) (rest := []) cf hK hN hP hS (k_M_high l hX hI (by omega)) (cw_M_high cf.2.2.2.2 w_579 ⟨Nat.le_of_ble_eq_true rfl, Nat.le_of_ble_eq_true rfl⟩) (rv_M hK hP) hl.1 rfl rfl (Nat.le_of_ble_eq_true rfl) ⟨Nat.zero_le _, Nat.zero_le _⟩ d_M_lead_57 (fun H locs hP hS => ?_)
          have hhi := mHigh_lt hI j
          refine lv_istore_n (lv' := [(3, .int (nI (mHigh S j))), (2, .int (nI (S 14 j))), (0, .ref (X.2.2.2 0)), (1, .int (nI j))]) hx hb d_M_lead_60 rfl hl (by decide) rfl (fun ls hl => ?_)
          refine lv_aload_n hx hb d_M_lead_61 rfl (lv_at hl 2 rfl) ?_
          refine lv_iload_n hx hb d_M_lead_62 rfl (lv_at hl 3 rfl) ?_
          refine x_callVi (As := [.int (nI j)]) (rest := []) cf hK hN hP hS (k_M_push l hX hI (by omega)) (cw_M_push cf.2.2.2.2 w_583 ⟨Nat.le_of_ble_eq_true rfl, Nat.le_of_ble_eq_true rfl⟩) (rv_M hK hP) hl.1 rfl rfl (Nat.le_of_ble_eq_true rfl) ⟨Nat.zero_le _, Nat.zero_le _⟩ d_M_lead_63 (fun H locs hP hS => ?_)
          have hpu := mPush_lt hI j
          refine lv_istore (lv' := [(4, .int (nI (mPush S j))), (3, .int (nI (mHigh S j))), (2, .int (nI (S 14 j))), (0, .ref (X.2.2.2 0)), (1, .int (nI j))]) hx hb d_M_lead_66 hl (by decide) rfl (fun ls hl => ?_)
          have cut93 : ∀ (ls : Array Slot) (H : Heap) (locs : List Loc), lv_has ls 11 [(0, .ref (X.2.2.2 0)), (1, .int (nI j)), (2, .int (nI (S 14 j))), (3, .int (nI (mHigh S j)))] → PW X S H → va_S (xA X) s.heap H locs → (mLeadOk S (nI j) = true) → W p l e (rmd 2) s m args below meth c H locs 0 0 (MQ below (QcI X (rLead S (nI j)) (mLead S (nI j))) args s 0 0 (xA X)) (F0 m 93 ls []) := by
            intro ls H locs hl hP hS hok
            refine lv_iconst (v := nI 0) hx hb d_M_lead_93 (by decide) ?_
            refine lv_istore (lv' := [(5, .int (nI 0)), (0, .ref (X.2.2.2 0)), (1, .int (nI j)), (2, .int (nI (S 14 j))), (3, .int (nI (mHigh S j)))]) hx hb d_M_lead_94 hl (by decide) rfl (fun ls hl => ?_)
            refine lv_iload_n hx hb d_M_lead_96 rfl (lv_at hl 4 rfl) ?_
            refine lv_istore (lv' := [(6, .int (nI (mHigh S j))), (5, .int (nI 0)), (0, .ref (X.2.2.2 0)), (1, .int (nI j)), (2, .int (nI (S 14 j))), (3, .int (nI (mHigh S j)))]) hx hb d_M_lead_97 hl (by decide) rfl (fun ls hl => ?_)
            refine lv_iconst (v := nI 0) hx hb d_M_lead_99 (by decide) ?_
            refine lv_istore (lv' := [(7, .int (nI 0)), (6, .int (nI (mHigh S j))), (5, .int (nI 0)), (0, .ref (X.2.2.2 0)), (1, .int (nI j)), (2, .int (nI (S 14 j))), (3, .int (nI (mHigh S j)))]) hx hb d_M_lead_100 hl (by decide) rfl (fun ls hl => ?_)
            have lp102 : ∀ (dm : Nat) (us : Nat) (x : Nat) (i : Nat) (ls : Array Slot) (H : Heap) (locs : List Loc), lv_has ls 11 [(0, .ref (X.2.2.2 0)), (1, .int (nI j)), (2, .int (nI (S 14 j))), (3, .int (nI (mHigh S j))), (5, .int (nI us)), (6, .int (nI x)), (7, .int (nI i))] → PW X S H → va_S (xA X) s.heap H locs → (i ≤ 40) → (itr (mUsedF S) 0 (0, mHigh S j) i = (us, x)) → (40 - i = dm) → W p l e (rmd 2) s m args below meth c H locs 0 0 (MQ below (QcI X (rLead S (nI j)) (mLead S (nI j))) args s 0 0 (xA X)) (F0 m 102 ls []) := by
              intro dm
              induction dm using Nat.strongRecOn with | ind dm lp102 => ?_
              intro us x i ls H locs hl hP hS hi hz hdm
              have hus := mUsed_snd hI (show mHigh S j < 40 by omega) i
              rw [hz] at hus
              have hus1 : us < 16777216 := hus.1
              have hx40 : x < 40 := hus.2
              refine lv_iload hx hb d_M_lead_102 (lv_at hl 6 rfl) ?_
              refine lv_bipush (v := nI 40) hx hb d_M_lead_104 (by decide) ?_
              refine n_icmp_ge (tgt := 136) hx hb d_M_lead_106 (by decide) (by omega) (by decide) (fun h5 => ?_) (fun h5 => ?_)
              · skip
                refine lv_iconst (v := nI 0) hx hb d_M_lead_136 (by decide) ?_
                refine lv_istore (lv' := [(7, .int (nI 0)), (0, .ref (X.2.2.2 0)), (1, .int (nI j)), (2, .int (nI (S 14 j))), (3, .int (nI (mHigh S j))), (5, .int (nI us)), (6, .int (nI x))]) hx hb d_M_lead_137 hl (by decide) rfl (fun ls hl => ?_)
                refine lv_iconst (v := nI 0) hx hb d_M_lead_139 (by decide) ?_
                refine lv_istore (lv' := [(8, .int (nI 0)), (7, .int (nI 0)), (0, .ref (X.2.2.2 0)), (1, .int (nI j)), (2, .int (nI (S 14 j))), (3, .int (nI (mHigh S j))), (5, .int (nI us)), (6, .int (nI x))]) hx hb d_M_lead_140 hl (by decide) rfl (fun ls hl => ?_)
                refine lv_iconst (v := nI 0) hx hb d_M_lead_142 (by decide) ?_
                refine lv_istore (lv' := [(9, .int (nI 0)), (8, .int (nI 0)), (7, .int (nI 0)), (0, .ref (X.2.2.2 0)), (1, .int (nI j)), (2, .int (nI (S 14 j))), (3, .int (nI (mHigh S j))), (5, .int (nI us)), (6, .int (nI x))]) hx hb d_M_lead_143 hl (by decide) rfl (fun ls hl => ?_)
                have lp145 : ∀ (dm : Nat) (set : Nat) (many : Nat) (t : Nat) (ls : Array Slot) (H : Heap) (locs : List Loc), lv_has ls 11 [(0, .ref (X.2.2.2 0)), (1, .int (nI j)), (2, .int (nI (S 14 j))), (3, .int (nI (mHigh S j))), (5, .int (nI us)), (7, .int (nI set)), (8, .int (nI many)), (9, .int (nI t))] → PW X S H → va_S (xA X) s.heap H locs → (t ≤ S 0 4) → (itr (mPickF S j us) 0 (0, 0) t = (set, many)) → (S 0 4 - t = dm) → W p l e (rmd 2) s m args below meth c H locs 0 0 (MQ below (QcI X (rLead S (nI j)) (mLead S (nI j))) args s 0 0 (xA X)) (F0 m 145 ls []) := by
                  intro dm
                  induction dm using Nat.strongRecOn with | ind dm lp145 => ?_
                  intro set many t ls H locs hl hP hS ht4 hzp hdm
                  have hpk := mPick_lt (S := S) (r := j) (used := us) t (by omega)
                  rw [hzp] at hpk
                  have hset : set < 16777216 := hpk.1
                  have hmany : many ≤ 2 := hpk.2
                  have hh1 := (show S 1 t < 128 from hI.c 1 t)
                  refine lv_iload hx hb d_M_lead_145 (lv_at hl 7 rfl) ?_
                  refine lv_aload_n hx hb d_M_lead_147 rfl (lv_at hl 0 rfl) ?_
                  refine x_getM (v := .int (nI (S 0 4))) cf hK hP 4 (by decide) w_465 rfl d_M_lead_148 ?_
                  refine n_icmp_ge (tgt := 203) hx hb d_M_lead_151 (by decide) (by omega) (by omega) (fun h6 => ?_) (fun h6 => ?_)
                  · skip
                    have hset2 : set = mPick S j (mUsed S (mHigh S j)) := by have hus2 : us = mUsed S (mHigh S j) := (by unfold mUsed; rw [← show i = 40 by omega, hz]); unfold mPick; rw [← hus2]; first | (rw [← show t = S 0 4 by omega, hzp]; done) | (rw [show S 0 4 = t + (S 0 4 - t) by omega, mPick_stop (by rw [hzp]; show many = 2; omega), hzp]; done)
                    refine lv_aload_n hx hb d_M_lead_203 rfl (lv_at hl 0 rfl) ?_
                    refine lv_iload_n hx hb d_M_lead_204 rfl (lv_at hl 2 rfl) ?_
                    refine lv_iload_n hx hb d_M_lead_205 rfl (lv_at hl 3 rfl) ?_
                    refine lv_iload hx hb d_M_lead_206 (lv_at hl 5 rfl) ?_
                    refine x_callVi (As := [.int (nI (S 14 j)), .int (nI (mHigh S j)), .int (nI set)]) (rest := []) cf hK hN hP hS (k_M_newBlock l hX hI (by omega) (S 14 j) (mHigh S j) set) (cw_M_newBlock cf.2.2.2.2 w_587 ⟨Nat.le_of_ble_eq_true rfl, Nat.le_of_ble_eq_true rfl⟩) (rv_M hK hP) hl.1 rfl rfl (Nat.le_of_ble_eq_true rfl) ⟨Nat.zero_le _, Nat.zero_le _⟩ d_M_lead_208 (fun H locs hP hS => ?_)
                    refine lv_istore (lv' := [(9, .int (nI (S 0 5))), (0, .ref (X.2.2.2 0)), (1, .int (nI j)), (2, .int (nI (S 14 j))), (3, .int (nI (mHigh S j))), (5, .int (nI us)), (7, .int (nI set)), (8, .int (nI many))]) hx hb d_M_lead_211 hl (by decide) rfl (fun ls hl => ?_)
                    refine lv_aload_n hx hb d_M_lead_213 rfl (lv_at hl 1 rfl) ?_
                    refine x_getM (v := .ref (X.2.2.2 18)) cf hK hP 25 (by decide) w_486 rfl d_M_lead_214 ?_
                    refine lv_iload_n hx hb d_M_lead_217 rfl (lv_at hl 2 rfl) ?_
                    refine lv_iload_n hx hb d_M_lead_218 rfl (lv_at hl 3 rfl) ?_
                    refine x_iast cf hK hD hP hS (ia18 X) (by omega) d_M_lead_219 (fun H locs hP hS => ?_)
                    have hL1 := hI.lead1 (r := j) hV1 (by omega)
                    have hT1e : (up2 (mNewBlock S (S 14 j) (mHigh S j) set) 18 j (S 14 j)) = itr (fun q Z => mSend Z 0 0 q (S 0 5) 0) 0 (mLead1 S j) 0 := by rw [hset2]; rfl
                    rw [hT1e] at hP
                    refine lv_iconst (v := nI 0) hx hb d_M_lead_220 (by decide) ?_
                    refine lv_istore (lv' := [(10, .int (nI 0)), (9, .int (nI (S 0 5))), (0, .ref (X.2.2.2 0)), (1, .int (nI j)), (2, .int (nI (S 14 j))), (3, .int (nI (mHigh S j))), (5, .int (nI us)), (7, .int (nI set)), (8, .int (nI many))]) hx hb d_M_lead_221 hl (by decide) rfl (fun ls hl => ?_)
                    have lp223 : ∀ (dm : Nat) (q : Nat) (Z : Nat → Nat → Nat) (ls : Array Slot) (H : Heap) (locs : List Loc), lv_has ls 11 [(0, .ref (X.2.2.2 0)), (1, .int (nI j)), (9, .int (nI (S 0 5))), (10, .int (nI q))] → PW X Z H → va_S (xA X) s.heap H locs → (q ≤ S 0 1) → (IW (V + 1) Z) → (Z 0 1 = S 0 1) → (Z = itr (fun q Z => mSend Z 0 0 q (S 0 5) 0) 0 (mLead1 S j) q) → (S 0 1 - q = dm) → W p l e (rmd 2) s m args below meth c H locs 0 0 (MQ below (QcI X (rLead S (nI j)) (mLead S (nI j))) args s 0 0 (xA X)) (F0 m 223 ls []) := by
                      intro dm
                      induction dm using Nat.strongRecOn with | ind dm lp223 => ?_
                      intro q Z ls H locs hl hP hS hq hIZ hZ1 hZz hdm
                      refine lv_iload hx hb d_M_lead_223 (lv_at hl 3 rfl) ?_
                      refine lv_aload_n hx hb d_M_lead_225 rfl (lv_at hl 0 rfl) ?_
                      refine x_getM (v := .int (nI (Z 0 1))) cf hK hP 1 (by decide) w_462 rfl d_M_lead_226 ?_
                      refine n_icmp_ge (tgt := 249) hx hb d_M_lead_229 (by decide) (by omega) (by omega) (fun h7 => ?_) (fun h7 => ?_)
                      · skip
                        refine lv_iload hx hb d_M_lead_249 (lv_at hl 2 rfl) ?_
                        exact x_iret cf hr hlk hP hS (by unfold rLead; rw [hok]; rfl) (by unfold mLead; rw [hok, hjc, hZz, show q = S 0 1 by omega]; rfl) d_M_lead_251
                      · skip
                        refine lv_aload_n hx hb d_M_lead_232 rfl (lv_at hl 0 rfl) ?_
                        refine lv_iconst (v := nI 0) hx hb d_M_lead_233 (by decide) ?_
                        refine lv_iconst (v := nI 0) hx hb d_M_lead_234 (by decide) ?_
                        refine lv_iload hx hb d_M_lead_235 (lv_at hl 3 rfl) ?_
                        refine lv_iload hx hb d_M_lead_237 (lv_at hl 2 rfl) ?_
                        refine lv_iconst (v := nI 0) hx hb d_M_lead_239 (by decide) ?_
                        refine x_callVv (As := [.int (nI 0), .int (nI 0), .int (nI q), .int (nI (S 0 5)), .int (nI 0)]) (rest := []) cf hK hN hP hS (k_M_send l hX hIZ 0 0 q (S 0 5) 0) (cw_M_send cf.2.2.2.2 w_591 ⟨Nat.le_of_ble_eq_true rfl, Nat.le_of_ble_eq_true rfl⟩) (rv_M hK hP) hl.1 rfl rfl (Nat.le_of_ble_eq_true rfl) ⟨Nat.zero_le _, Nat.zero_le _⟩ d_M_lead_240 (fun H locs hP hS => ?_)
                        refine n_iinc1 (lv' := [(10, .int (nI (q + 1))), (0, .ref (X.2.2.2 0)), (1, .int (nI j)), (9, .int (nI (S 0 5)))]) (k := 3) hx hb d_M_lead_243 hl rfl (by decide) rfl (fun ls hl => ?_)
                        refine lv_goto (tgt := 223) hx hb d_M_lead_246 (by decide) ?_
                        have hIZ2 : IW (V + 1) (mSend Z 0 0 q (S 0 5) 0) := by have := (IW.leads hL1 (b := S 0 5) (show S 0 5 < S 0 5 + 1 by omega) (q + 1) (show q + 1 ≤ S 0 1 by omega)).1; rw [itr_z, ← hZz] at this; exact this
                        have hZ12 : (mSend Z 0 0 q (S 0 5) 0) 0 1 = S 0 1 := by have := (IW.leads hL1 (b := S 0 5) (show S 0 5 < S 0 5 + 1 by omega) (q + 1) (show q + 1 ≤ S 0 1 by omega)).2.1; rw [itr_z, ← hZz] at this; exact this
                        exact lp223 _ (by omega) (q + 1) (mSend Z 0 0 q (S 0 5) 0) ls H locs (lv_sub hl [1, 2, 3, 0] rfl) hP hS (by omega) (hIZ2) (hZ12) (by rw [itr_z, ← hZz]) rfl
                    exact lp223 _ 0 (itr (fun q Z => mSend Z 0 0 q (S 0 5) 0) 0 (mLead1 S j) 0) ls H locs (lv_sub hl [2, 3, 1, 0] rfl) hP hS (by omega) (hL1) (rfl) (rfl) rfl
                  · skip
                    refine lv_iload hx hb d_M_lead_154 (lv_at hl 6 rfl) ?_
                    refine lv_iconst (v := nI 2) hx hb d_M_lead_156 (by decide) ?_
                    refine n_icmp_ge (tgt := 203) hx hb d_M_lead_157 (by decide) (by omega) (by decide) (fun h8 => ?_) (fun h8 => ?_)
                    · skip
                      have hset2 : set = mPick S j (mUsed S (mHigh S j)) := by have hus2 : us = mUsed S (mHigh S j) := (by unfold mUsed; rw [← show i = 40 by omega, hz]); unfold mPick; rw [← hus2]; first | (rw [← show t = S 0 4 by omega, hzp]; done) | (rw [show S 0 4 = t + (S 0 4 - t) by omega, mPick_stop (by rw [hzp]; show many = 2; omega), hzp]; done)
                      refine lv_aload_n hx hb d_M_lead_203 rfl (lv_at hl 0 rfl) ?_
                      refine lv_iload_n hx hb d_M_lead_204 rfl (lv_at hl 2 rfl) ?_
                      refine lv_iload_n hx hb d_M_lead_205 rfl (lv_at hl 3 rfl) ?_
                      refine lv_iload hx hb d_M_lead_206 (lv_at hl 5 rfl) ?_
                      refine x_callVi (As := [.int (nI (S 14 j)), .int (nI (mHigh S j)), .int (nI set)]) (rest := []) cf hK hN hP hS (k_M_newBlock l hX hI (by omega) (S 14 j) (mHigh S j) set) (cw_M_newBlock cf.2.2.2.2 w_587 ⟨Nat.le_of_ble_eq_true rfl, Nat.le_of_ble_eq_true rfl⟩) (rv_M hK hP) hl.1 rfl rfl (Nat.le_of_ble_eq_true rfl) ⟨Nat.zero_le _, Nat.zero_le _⟩ d_M_lead_208 (fun H locs hP hS => ?_)
                      refine lv_istore (lv' := [(9, .int (nI (S 0 5))), (0, .ref (X.2.2.2 0)), (1, .int (nI j)), (2, .int (nI (S 14 j))), (3, .int (nI (mHigh S j))), (5, .int (nI us)), (7, .int (nI set)), (8, .int (nI many))]) hx hb d_M_lead_211 hl (by decide) rfl (fun ls hl => ?_)
                      refine lv_aload_n hx hb d_M_lead_213 rfl (lv_at hl 1 rfl) ?_
                      refine x_getM (v := .ref (X.2.2.2 18)) cf hK hP 25 (by decide) w_486 rfl d_M_lead_214 ?_
                      refine lv_iload_n hx hb d_M_lead_217 rfl (lv_at hl 2 rfl) ?_
                      refine lv_iload_n hx hb d_M_lead_218 rfl (lv_at hl 3 rfl) ?_
                      refine x_iast cf hK hD hP hS (ia18 X) (by omega) d_M_lead_219 (fun H locs hP hS => ?_)
                      have hL1 := hI.lead1 (r := j) hV1 (by omega)
                      have hT1e : (up2 (mNewBlock S (S 14 j) (mHigh S j) set) 18 j (S 14 j)) = itr (fun q Z => mSend Z 0 0 q (S 0 5) 0) 0 (mLead1 S j) 0 := by rw [hset2]; rfl
                      rw [hT1e] at hP
                      refine lv_iconst (v := nI 0) hx hb d_M_lead_220 (by decide) ?_
                      refine lv_istore (lv' := [(10, .int (nI 0)), (9, .int (nI (S 0 5))), (0, .ref (X.2.2.2 0)), (1, .int (nI j)), (2, .int (nI (S 14 j))), (3, .int (nI (mHigh S j))), (5, .int (nI us)), (7, .int (nI set)), (8, .int (nI many))]) hx hb d_M_lead_221 hl (by decide) rfl (fun ls hl => ?_)
                      have lp223 : ∀ (dm : Nat) (q : Nat) (Z : Nat → Nat → Nat) (ls : Array Slot) (H : Heap) (locs : List Loc), lv_has ls 11 [(0, .ref (X.2.2.2 0)), (1, .int (nI j)), (9, .int (nI (S 0 5))), (10, .int (nI q))] → PW X Z H → va_S (xA X) s.heap H locs → (q ≤ S 0 1) → (IW (V + 1) Z) → (Z 0 1 = S 0 1) → (Z = itr (fun q Z => mSend Z 0 0 q (S 0 5) 0) 0 (mLead1 S j) q) → (S 0 1 - q = dm) → W p l e (rmd 2) s m args below meth c H locs 0 0 (MQ below (QcI X (rLead S (nI j)) (mLead S (nI j))) args s 0 0 (xA X)) (F0 m 223 ls []) := by
                        intro dm
                        induction dm using Nat.strongRecOn with | ind dm lp223 => ?_
                        intro q Z ls H locs hl hP hS hq hIZ hZ1 hZz hdm
                        refine lv_iload hx hb d_M_lead_223 (lv_at hl 3 rfl) ?_
                        refine lv_aload_n hx hb d_M_lead_225 rfl (lv_at hl 0 rfl) ?_
                        refine x_getM (v := .int (nI (Z 0 1))) cf hK hP 1 (by decide) w_462 rfl d_M_lead_226 ?_
                        refine n_icmp_ge (tgt := 249) hx hb d_M_lead_229 (by decide) (by omega) (by omega) (fun h9 => ?_) (fun h9 => ?_)
                        · skip
                          refine lv_iload hx hb d_M_lead_249 (lv_at hl 2 rfl) ?_
                          exact x_iret cf hr hlk hP hS (by unfold rLead; rw [hok]; rfl) (by unfold mLead; rw [hok, hjc, hZz, show q = S 0 1 by omega]; rfl) d_M_lead_251
                        · skip
                          refine lv_aload_n hx hb d_M_lead_232 rfl (lv_at hl 0 rfl) ?_
                          refine lv_iconst (v := nI 0) hx hb d_M_lead_233 (by decide) ?_
                          refine lv_iconst (v := nI 0) hx hb d_M_lead_234 (by decide) ?_
                          refine lv_iload hx hb d_M_lead_235 (lv_at hl 3 rfl) ?_
                          refine lv_iload hx hb d_M_lead_237 (lv_at hl 2 rfl) ?_
                          refine lv_iconst (v := nI 0) hx hb d_M_lead_239 (by decide) ?_
                          refine x_callVv (As := [.int (nI 0), .int (nI 0), .int (nI q), .int (nI (S 0 5)), .int (nI 0)]) (rest := []) cf hK hN hP hS (k_M_send l hX hIZ 0 0 q (S 0 5) 0) (cw_M_send cf.2.2.2.2 w_591 ⟨Nat.le_of_ble_eq_true rfl, Nat.le_of_ble_eq_true rfl⟩) (rv_M hK hP) hl.1 rfl rfl (Nat.le_of_ble_eq_true rfl) ⟨Nat.zero_le _, Nat.zero_le _⟩ d_M_lead_240 (fun H locs hP hS => ?_)
                          refine n_iinc1 (lv' := [(10, .int (nI (q + 1))), (0, .ref (X.2.2.2 0)), (1, .int (nI j)), (9, .int (nI (S 0 5)))]) (k := 3) hx hb d_M_lead_243 hl rfl (by decide) rfl (fun ls hl => ?_)
                          refine lv_goto (tgt := 223) hx hb d_M_lead_246 (by decide) ?_
                          have hIZ2 : IW (V + 1) (mSend Z 0 0 q (S 0 5) 0) := by have := (IW.leads hL1 (b := S 0 5) (show S 0 5 < S 0 5 + 1 by omega) (q + 1) (show q + 1 ≤ S 0 1 by omega)).1; rw [itr_z, ← hZz] at this; exact this
                          have hZ12 : (mSend Z 0 0 q (S 0 5) 0) 0 1 = S 0 1 := by have := (IW.leads hL1 (b := S 0 5) (show S 0 5 < S 0 5 + 1 by omega) (q + 1) (show q + 1 ≤ S 0 1 by omega)).2.1; rw [itr_z, ← hZz] at this; exact this
                          exact lp223 _ (by omega) (q + 1) (mSend Z 0 0 q (S 0 5) 0) ls H locs (lv_sub hl [1, 2, 3, 0] rfl) hP hS (by omega) (hIZ2) (hZ12) (by rw [itr_z, ← hZz]) rfl
                      exact lp223 _ 0 (itr (fun q Z => mSend Z 0 0 q (S 0 5) 0) 0 (mLead1 S j) 0) ls H locs (lv_sub hl [2, 3, 1, 0] rfl) hP hS (by omega) (hL1) (rfl) (rfl) rfl
                    · skip
                      refine lv_aload_n hx hb d_M_lead_160 rfl (lv_at hl 0 rfl) ?_
                      refine x_getM (v := .ref (X.2.2.2 1)) cf hK hP 5 (by decide) w_466 rfl d_M_lead_161 ?_
                      refine lv_iload hx hb d_M_lead_164 (lv_at hl 7 rfl) ?_
                      refine x_iald (v := (S 1 t)) cf hK hP (ia1 X) (by omega) rfl d_M_lead_166 ?_
                      refine lv_iload_n hx hb d_M_lead_167 rfl (lv_at hl 1 rfl) ?_
                      refine n_ishr hx hb (by have := (show S 1 t < 128 from hI.c 1 t); omega) (by omega) d_M_lead_168 ?_
                      refine lv_iconst (v := nI 1) hx hb d_M_lead_169 (by decide) ?_
                      refine n_and1 hx hb d_M_lead_170 ?_
                      refine lv_iconst (v := nI 1) hx hb d_M_lead_171 (by decide) ?_
                      refine n_icmp_ne (tgt := 197) hx hb d_M_lead_172 (by decide) (by have := (show S 1 t < 128 from hI.c 1 t); have := Nat.div_le_self (S 1 t) (2 ^ j); omega) (by decide) (fun h10 => ?_) (fun h10 => ?_)
                      · skip
                        refine n_iinc1 (lv' := [(9, .int (nI (t + 1))), (0, .ref (X.2.2.2 0)), (1, .int (nI j)), (2, .int (nI (S 14 j))), (3, .int (nI (mHigh S j))), (5, .int (nI us)), (7, .int (nI set)), (8, .int (nI many))]) (k := 7) hx hb d_M_lead_197 hl rfl (by decide) rfl (fun ls hl => ?_)
                        refine lv_goto (tgt := 145) hx hb d_M_lead_200 (by decide) ?_
                        exact lp145 _ (by omega) set many (t + 1) ls H locs (lv_sub hl [1, 2, 3, 4, 5, 6, 7, 0] rfl) hP hS (by omega) (by rw [itr_z, hzp]; unfold mPickF; first | (rw [if_pos (by simp only []; omega)]; done) | (rw [if_neg (by simp only []; omega)]; done)) rfl
                      · skip
                        refine lv_iload hx hb d_M_lead_175 (lv_at hl 4 rfl) ?_
                        refine lv_iload hx hb d_M_lead_177 (lv_at hl 7 rfl) ?_
                        refine n_ishr hx hb (by omega) (by omega) d_M_lead_179 ?_
                        refine lv_iconst (v := nI 1) hx hb d_M_lead_180 (by decide) ?_
                        refine n_and1 hx hb d_M_lead_181 ?_
                        refine n_if_ne (tgt := 197) hx hb d_M_lead_182 (by decide) (by have := Nat.div_le_self us (2 ^ t); omega) (fun h11 => ?_) (fun h11 => ?_)
                        · skip
                          refine n_iinc1 (lv' := [(9, .int (nI (t + 1))), (0, .ref (X.2.2.2 0)), (1, .int (nI j)), (2, .int (nI (S 14 j))), (3, .int (nI (mHigh S j))), (5, .int (nI us)), (7, .int (nI set)), (8, .int (nI many))]) (k := 7) hx hb d_M_lead_197 hl rfl (by decide) rfl (fun ls hl => ?_)
                          refine lv_goto (tgt := 145) hx hb d_M_lead_200 (by decide) ?_
                          exact lp145 _ (by omega) set many (t + 1) ls H locs (lv_sub hl [1, 2, 3, 4, 5, 6, 7, 0] rfl) hP hS (by omega) (by rw [itr_z, hzp]; unfold mPickF; first | (rw [if_pos (by simp only []; omega)]; done) | (rw [if_neg (by simp only []; omega)]; done)) rfl
                        · skip
                          refine lv_iload hx hb d_M_lead_185 (lv_at hl 5 rfl) ?_
                          refine lv_iconst (v := nI 1) hx hb d_M_lead_187 (by decide) ?_
                          refine lv_iload hx hb d_M_lead_188 (lv_at hl 7 rfl) ?_
                          refine n_ishl hx hb (by omega) (by have := p2_24 t (by omega); omega) d_M_lead_190 ?_
                          refine n_ior hx hb d_M_lead_191 ?_
                          refine lv_istore (lv' := [(7, .int (nI (set ||| (1 * (2 ^ t))))), (0, .ref (X.2.2.2 0)), (1, .int (nI j)), (2, .int (nI (S 14 j))), (3, .int (nI (mHigh S j))), (5, .int (nI us)), (8, .int (nI many)), (9, .int (nI t))]) hx hb d_M_lead_192 hl (by decide) rfl (fun ls hl => ?_)
                          refine n_iinc1 (lv' := [(8, .int (nI (many + 1))), (7, .int (nI (set ||| (1 * (2 ^ t))))), (0, .ref (X.2.2.2 0)), (1, .int (nI j)), (2, .int (nI (S 14 j))), (3, .int (nI (mHigh S j))), (5, .int (nI us)), (9, .int (nI t))]) (k := 6) hx hb d_M_lead_194 hl rfl (by decide) rfl (fun ls hl => ?_)
                          refine n_iinc1 (lv' := [(9, .int (nI (t + 1))), (8, .int (nI (many + 1))), (7, .int (nI (set ||| (1 * (2 ^ t))))), (0, .ref (X.2.2.2 0)), (1, .int (nI j)), (2, .int (nI (S 14 j))), (3, .int (nI (mHigh S j))), (5, .int (nI us))]) (k := 7) hx hb d_M_lead_197 hl rfl (by decide) rfl (fun ls hl => ?_)
                          refine lv_goto (tgt := 145) hx hb d_M_lead_200 (by decide) ?_
                          exact lp145 _ (by omega) (set ||| (1 * (2 ^ t))) (many + 1) (t + 1) ls H locs (lv_sub hl [3, 4, 5, 6, 7, 2, 1, 0] rfl) hP hS (by omega) (by rw [itr_z, hzp]; unfold mPickF; first | (rw [if_pos (by simp only []; omega)]; done) | (rw [if_neg (by simp only []; omega)]; done)) rfl
                exact lp145 _ 0 0 0 ls H locs (lv_sub hl [3, 4, 5, 6, 7, 2, 1, 0] rfl) hP hS (by omega) (rfl) rfl
              · skip
                refine lv_iload hx hb d_M_lead_109 (lv_at hl 4 rfl) ?_
                refine lv_aload_n hx hb d_M_lead_111 rfl (lv_at hl 0 rfl) ?_
                refine x_getM (v := .ref (X.2.2.2 7)) cf hK hP 12 (by decide) w_473 rfl d_M_lead_112 ?_
                refine lv_iload hx hb d_M_lead_115 (lv_at hl 5 rfl) ?_
                refine x_iald (v := (S 7 x)) cf hK hP (ia7 X) (by omega) rfl d_M_lead_117 ?_
                refine n_ior hx hb d_M_lead_118 ?_
                refine lv_istore (lv' := [(5, .int (nI (us ||| (S 7 x)))), (0, .ref (X.2.2.2 0)), (1, .int (nI j)), (2, .int (nI (S 14 j))), (3, .int (nI (mHigh S j))), (6, .int (nI x)), (7, .int (nI i))]) hx hb d_M_lead_119 hl (by decide) rfl (fun ls hl => ?_)
                refine lv_aload_n hx hb d_M_lead_121 rfl (lv_at hl 1 rfl) ?_
                refine x_getM (v := .ref (X.2.2.2 6)) cf hK hP 11 (by decide) w_472 rfl d_M_lead_122 ?_
                refine lv_iload hx hb d_M_lead_125 (lv_at hl 5 rfl) ?_
                refine x_iald (v := (S 6 x)) cf hK hP (ia6 X) (by omega) rfl d_M_lead_127 ?_
                refine lv_istore (lv' := [(6, .int (nI (S 6 x))), (5, .int (nI (us ||| (S 7 x)))), (0, .ref (X.2.2.2 0)), (1, .int (nI j)), (2, .int (nI (S 14 j))), (3, .int (nI (mHigh S j))), (7, .int (nI i))]) hx hb d_M_lead_128 hl (by decide) rfl (fun ls hl => ?_)
                refine n_iinc1 (lv' := [(7, .int (nI (i + 1))), (6, .int (nI (S 6 x))), (5, .int (nI (us ||| (S 7 x)))), (0, .ref (X.2.2.2 0)), (1, .int (nI j)), (2, .int (nI (S 14 j))), (3, .int (nI (mHigh S j)))]) (k := 6) hx hb d_M_lead_130 hl rfl (by decide) rfl (fun ls hl => ?_)
                refine lv_goto (tgt := 102) hx hb d_M_lead_133 (by decide) ?_
                exact lp102 _ (by omega) (us ||| (S 7 x)) (S 6 x) (i + 1) ls H locs (lv_sub hl [3, 4, 5, 6, 2, 1, 0] rfl) hP hS (by omega) (by rw [itr_z, hz]; rfl) rfl
            exact lp102 _ 0 (mHigh S j) 0 ls H locs (lv_sub hl [3, 4, 5, 6, 2, 1, 0] rfl) hP hS (by omega) (rfl) rfl
          refine lv_iload_n hx hb d_M_lead_68 rfl (lv_at hl 2 rfl) ?_
          refine lv_iconst (v := nI 1) hx hb d_M_lead_69 (by decide) ?_
          refine n_icmp_eq (tgt := 93) hx hb d_M_lead_70 (by decide) (by have := (show S 14 j ≤ V ∧ (j < S 0 1 → 1 ≤ S 14 j) from hI.c 14 j); omega) (by decide) (fun h12 => ?_) (fun h12 => ?_)
          · skip
            exact cut93  ls H locs (lv_sub hl [3, 4, 2, 1] rfl) hP hS (by unfold mLeadOk; rw [hjc, hcor, decide_eq_true (p := mLeader S (S 14 j) = j) (by omega), decide_eq_false (p := S 18 j = S 14 j) (by omega), decide_eq_true (p := S 0 5 < 40) (by omega), decide_eq_true (p := S 14 j = 1) (by omega)]; rfl)
          · skip
            refine lv_aload_n hx hb d_M_lead_73 rfl (lv_at hl 3 rfl) ?_
            refine x_getM (v := .ref (X.2.2.2 5)) cf hK hP 10 (by decide) w_471 rfl d_M_lead_74 ?_
            refine lv_iload_n hx hb d_M_lead_77 rfl (lv_at hl 1 rfl) ?_
            refine x_iald (v := (S 5 (mHigh S j))) cf hK hP (ia5 X) (by omega) rfl d_M_lead_78 ?_
            refine lv_iload_n hx hb d_M_lead_79 rfl (lv_at hl 2 rfl) ?_
            refine lv_iconst (v := nI 1) hx hb d_M_lead_80 (by decide) ?_
            refine n_isub hx hb (by have := (show S 14 j ≤ V ∧ (j < S 0 1 → 1 ≤ S 14 j) from hI.c 14 j); omega) d_M_lead_81 ?_
            refine n_icmp_eq (tgt := 93) hx hb d_M_lead_82 (by decide) (by have := (show S 5 (mHigh S j) + 1 ≤ V from hI.c 5 (mHigh S j)); omega) (by have := (show S 14 j ≤ V ∧ (j < S 0 1 → 1 ≤ S 14 j) from hI.c 14 j); omega) (fun h13 => ?_) (fun h13 => ?_)
            · skip
              exact cut93  ls H locs (lv_sub hl [3, 4, 2, 1] rfl) hP hS (by unfold mLeadOk; rw [hjc, hcor, decide_eq_true (p := mLeader S (S 14 j) = j) (by omega), decide_eq_false (p := S 18 j = S 14 j) (by omega), decide_eq_true (p := S 0 5 < 40) (by omega), decide_eq_true (p := S 5 (mHigh S j) = S 14 j - 1) (by omega)]; simp)
            · skip
              refine lv_iload hx hb d_M_lead_85 (lv_at hl 0 rfl) ?_
              refine lv_iload_n hx hb d_M_lead_87 rfl (lv_at hl 2 rfl) ?_
              refine n_icmp_ge (tgt := 93) hx hb d_M_lead_88 (by decide) (by omega) (by have := (show S 14 j ≤ V ∧ (j < S 0 1 → 1 ≤ S 14 j) from hI.c 14 j); omega) (fun h14 => ?_) (fun h14 => ?_)
              · skip
                exact cut93  ls H locs (lv_sub hl [3, 4, 2, 1] rfl) hP hS (by unfold mLeadOk; rw [hjc, hcor, decide_eq_true (p := mLeader S (S 14 j) = j) (by omega), decide_eq_false (p := S 18 j = S 14 j) (by omega), decide_eq_true (p := S 0 5 < 40) (by omega), decide_eq_true (p := S 14 j ≤ mPush S j) (by omega)]; simp)
              · skip
                have hno : mLeadOk S (nI j) = false := by unfold mLeadOk; rw [hjc, decide_eq_false (p := S 14 j = 1) (by omega), decide_eq_false (p := S 5 (mHigh S j) = S 14 j - 1) (by omega), decide_eq_false (p := S 14 j ≤ mPush S j) (by omega)]; simp
                refine lv_iconst (v := (-1)) hx hb d_M_lead_91 (by decide) ?_
                exact x_iret cf hr hlk hP hS (by unfold rLead; rw [hno]; rfl) (by unfold mLead; rw [hno]; rfl) d_M_lead_92
        · skip
          have hno : mLeadOk S (nI j) = false := by unfold mLeadOk; rw [decide_eq_false (p := S 0 5 < 40) (by omega)]; simp
          refine lv_iconst (v := (-1)) hx hb d_M_lead_46 (by decide) ?_
          exact x_iret cf hr hlk hP hS (by unfold rLead; rw [hno]; rfl) (by unfold mLead; rw [hno]; rfl) d_M_lead_47
