theorem gV {own C : String} {index maxL : Nat} {y : MethodName} {b : ByteArray} {ret : Option FieldType} (h1 : Cond.methodLink own index y ∈ Mst) (h2 : Cond.instanceMethod y ∈ Mst) (h3 : Cond.selects C y y ∈ Mst) (h4 : Cond.initialized C ∈ Mst) (h5 : Cond.code y b maxL ret ∈ Mst) : GoodIn Mst (wsV own index C y (Cond.code y b maxL ret :: Mst)) := by
  intro w hw
  have hm : w ∈ Mst := by
    rcases List.mem_append.mp hw with h | h
    · simp only [List.mem_cons, List.not_mem_nil, or_false] at h
      rcases h with rfl | rfl | rfl | rfl
      · exact h1
      · exact h2
      · exact h3
      · exact h4
    · rcases List.mem_cons.mp h with rfl | h
      · exact h5
      · exact h
  exact ⟨hm, mst_good w hm⟩
theorem gS {own : String} {index maxL : Nat} {y : MethodName} {b : ByteArray} {ret : Option FieldType} (h1 : Cond.methodLink own index y ∈ Mst) (h2 : Cond.static y ∈ Mst) (h4 : Cond.initialized own ∈ Mst) (h5 : Cond.code y b maxL ret ∈ Mst) : GoodIn Mst (wsS own index y (Cond.code y b maxL ret :: Mst)) := by
  intro w hw
  have hm : w ∈ Mst := by
    rcases List.mem_append.mp hw with h | h
    · simp only [List.mem_cons, List.not_mem_nil, or_false] at h
      rcases h with rfl | rfl | rfl
      · exact h1
      · exact h2
      · exact h4
    · rcases List.mem_cons.mp h with rfl | h
      · exact h5
      · exact h
  exact ⟨hm, mst_good w hm⟩
theorem gT {own : String} {index maxL : Nat} {y : MethodName} {b : ByteArray} {ret : Option FieldType} (h1 : Cond.methodLink own index y ∈ Mst) (h2 : Cond.static y ∈ Mst) (h4 : Cond.initialized y.cls ∈ Mst) (h5 : Cond.code y b maxL ret ∈ Mst) : GoodIn Mst (va_wsS own index y (Cond.code y b maxL ret :: Mst)) := by
  intro w hw
  have hm : w ∈ Mst := by
    rcases List.mem_append.mp hw with h | h
    · simp only [List.mem_cons, List.not_mem_nil, or_false] at h
      rcases h with rfl | rfl | rfl
      · exact h1
      · exact h2
      · exact h4
    · rcases List.mem_cons.mp h with rfl | h
      · exact h5
      · exact h
  exact ⟨hm, mst_good w hm⟩
theorem cw_M_isReplica {R : Room} {s : State} {args : Array Value} {own : String} {index : Nat} (hts : ∀ w ∈ Mst, w.before args s = true) (hl : Cond.methodLink own index y_M_isReplica ∈ Mst) (hR : 0 + 1 ≤ R.frames ∧ 8 + (2 + 11) + 34 * 0 ≤ R.locals) : CallW R s args own "ThreeChainLedgerModel" index y_M_isReplica c_M_isReplica 2 (some .boolean) (Cond.code y_M_isReplica c_M_isReplica 2 (some .boolean) :: Mst) (rmd 0) 0 0 1 :=
  cwV 1 hts (gV hl w_573 ws_16 w_8 w_574) rfl rfl rfl ⟨rfl, by decide, by decide, by decide +kernel⟩ hR
theorem cw_M_isCorrect {R : Room} {s : State} {args : Array Value} {own : String} {index : Nat} (hts : ∀ w ∈ Mst, w.before args s = true) (hl : Cond.methodLink own index y_M_isCorrect ∈ Mst) (hR : 1 + 1 ≤ R.frames ∧ 8 + (2 + 11) + 34 * 1 ≤ R.locals) : CallW R s args own "ThreeChainLedgerModel" index y_M_isCorrect c_M_isCorrect 2 (some .boolean) (Cond.code y_M_isCorrect c_M_isCorrect 2 (some .boolean) :: Mst) (rmd 1) 0 0 1 :=
  cwV 1 hts (gV hl w_569 ws_15 w_8 w_570) rfl rfl rfl ⟨rfl, by decide, by decide, by decide +kernel⟩ hR
theorem cw_M_isCorrupt {R : Room} {s : State} {args : Array Value} {own : String} {index : Nat} (hts : ∀ w ∈ Mst, w.before args s = true) (hl : Cond.methodLink own index y_M_isCorrupt ∈ Mst) (hR : 1 + 1 ≤ R.frames ∧ 8 + (2 + 11) + 34 * 1 ≤ R.locals) : CallW R s args own "ThreeChainLedgerModel" index y_M_isCorrupt c_M_isCorrupt 2 (some .boolean) (Cond.code y_M_isCorrupt c_M_isCorrupt 2 (some .boolean) :: Mst) (rmd 1) 0 0 1 :=
  cwV 1 hts (gV hl w_613 ws_24 w_8 w_614) rfl rfl rfl ⟨rfl, by decide, by decide, by decide +kernel⟩ hR
theorem cw_M_isBlock {R : Room} {s : State} {args : Array Value} {own : String} {index : Nat} (hts : ∀ w ∈ Mst, w.before args s = true) (hl : Cond.methodLink own index y_M_isBlock ∈ Mst) (hR : 0 + 1 ≤ R.frames ∧ 8 + (2 + 11) + 34 * 0 ≤ R.locals) : CallW R s args own "ThreeChainLedgerModel" index y_M_isBlock c_M_isBlock 2 (some .boolean) (Cond.code y_M_isBlock c_M_isBlock 2 (some .boolean) :: Mst) (rmd 0) 0 0 1 :=
  cwV 1 hts (gV hl w_657 ws_31 w_8 w_658) rfl rfl rfl ⟨rfl, by decide, by decide, by decide +kernel⟩ hR
theorem cw_M_leader {R : Room} {s : State} {args : Array Value} {own : String} {index : Nat} (hts : ∀ w ∈ Mst, w.before args s = true) (hl : Cond.methodLink own index y_M_leader ∈ Mst) (hR : 0 + 1 ≤ R.frames ∧ 8 + (2 + 11) + 34 * 0 ≤ R.locals) : CallW R s args own "ThreeChainLedgerModel" index y_M_leader c_M_leader 2 (some .int) (Cond.code y_M_leader c_M_leader 2 (some .int) :: Mst) (rmd 0) 0 0 1 :=
  cwV 1 hts (gV hl w_577 ws_17 w_8 w_578) rfl rfl rfl ⟨rfl, by decide, by decide, by decide +kernel⟩ hR
theorem cw_M_size {R : Room} {s : State} {args : Array Value} {own : String} {index : Nat} (hts : ∀ w ∈ Mst, w.before args s = true) (hl : Cond.methodLink own index y_M_size ∈ Mst) (hR : 0 + 1 ≤ R.frames ∧ 8 + (3 + 11) + 34 * 0 ≤ R.locals) : CallB R s args own index y_M_size c_M_size 3 (some .int) (Cond.code y_M_size c_M_size 3 (some .int) :: Mst) (rmd 0) 0 0 1 ∧ (Cond.static y_M_size).before args s = true :=
  va_cwS 1 hts (gT hl w_636 w_8 w_637) rfl rfl rfl ⟨by decide, by decide, by decide +kernel⟩ hR
theorem cw_M_certified {R : Room} {s : State} {args : Array Value} {own : String} {index : Nat} (hts : ∀ w ∈ Mst, w.before args s = true) (hl : Cond.methodLink own index y_M_certified ∈ Mst) (hR : 1 + 1 ≤ R.frames ∧ 8 + (2 + 11) + 34 * 1 ≤ R.locals) : CallW R s args own "ThreeChainLedgerModel" index y_M_certified c_M_certified 2 (some .boolean) (Cond.code y_M_certified c_M_certified 2 (some .boolean) :: Mst) (rmd 1) 0 0 1 :=
  cwV 1 hts (gV hl w_661 ws_32 w_8 w_662) rfl rfl rfl ⟨rfl, by decide, by decide, by decide +kernel⟩ hR
theorem cw_M_inChain {R : Room} {s : State} {args : Array Value} {own : String} {index : Nat} (hts : ∀ w ∈ Mst, w.before args s = true) (hl : Cond.methodLink own index y_M_inChain ∈ Mst) (hR : 0 + 1 ≤ R.frames ∧ 8 + (5 + 11) + 34 * 0 ≤ R.locals) : CallW R s args own "ThreeChainLedgerModel" index y_M_inChain c_M_inChain 5 (some .boolean) (Cond.code y_M_inChain c_M_inChain 5 (some .boolean) :: Mst) (rmd 0) 0 0 2 :=
  cwV 2 hts (gV hl w_629 ws_28 w_8 w_630) rfl rfl rfl ⟨rfl, by decide, by decide, by decide +kernel⟩ hR
theorem cw_M_high {R : Room} {s : State} {args : Array Value} {own : String} {index : Nat} (hts : ∀ w ∈ Mst, w.before args s = true) (hl : Cond.methodLink own index y_M_high ∈ Mst) (hR : 0 + 1 ≤ R.frames ∧ 8 + (4 + 11) + 34 * 0 ≤ R.locals) : CallW R s args own "ThreeChainLedgerModel" index y_M_high c_M_high 4 (some .int) (Cond.code y_M_high c_M_high 4 (some .int) :: Mst) (rmd 0) 0 0 1 :=
  cwV 1 hts (gV hl w_581 ws_18 w_8 w_582) rfl rfl rfl ⟨rfl, by decide, by decide, by decide +kernel⟩ hR
theorem cw_M_lock {R : Room} {s : State} {args : Array Value} {own : String} {index : Nat} (hts : ∀ w ∈ Mst, w.before args s = true) (hl : Cond.methodLink own index y_M_lock ∈ Mst) (hR : 0 + 1 ≤ R.frames ∧ 8 + (4 + 11) + 34 * 0 ≤ R.locals) : CallW R s args own "ThreeChainLedgerModel" index y_M_lock c_M_lock 4 (some .int) (Cond.code y_M_lock c_M_lock 4 (some .int) :: Mst) (rmd 0) 0 0 1 :=
  cwV 1 hts (gV hl w_625 ws_27 w_8 w_626) rfl rfl rfl ⟨rfl, by decide, by decide, by decide +kernel⟩ hR
theorem cw_M_tip {R : Room} {s : State} {args : Array Value} {own : String} {index : Nat} (hts : ∀ w ∈ Mst, w.before args s = true) (hl : Cond.methodLink own index y_M_tip ∈ Mst) (hR : 0 + 1 ≤ R.frames ∧ 8 + (7 + 11) + 34 * 0 ≤ R.locals) : CallW R s args own "ThreeChainLedgerModel" index y_M_tip c_M_tip 7 (some .int) (Cond.code y_M_tip c_M_tip 7 (some .int) :: Mst) (rmd 0) 0 0 1 :=
  cwV 1 hts (gV hl w_701 ws_33 w_8 w_702) rfl rfl rfl ⟨rfl, by decide, by decide, by decide +kernel⟩ hR
theorem cw_M_push {R : Room} {s : State} {args : Array Value} {own : String} {index : Nat} (hts : ∀ w ∈ Mst, w.before args s = true) (hl : Cond.methodLink own index y_M_push ∈ Mst) (hR : 0 + 1 ≤ R.frames ∧ 8 + (7 + 11) + 34 * 0 ≤ R.locals) : CallW R s args own "ThreeChainLedgerModel" index y_M_push c_M_push 7 (some .int) (Cond.code y_M_push c_M_push 7 (some .int) :: Mst) (rmd 0) 0 0 1 :=
  cwV 1 hts (gV hl w_585 ws_19 w_8 w_586) rfl rfl rfl ⟨rfl, by decide, by decide, by decide +kernel⟩ hR
theorem cw_M_send {R : Room} {s : State} {args : Array Value} {own : String} {index : Nat} (hts : ∀ w ∈ Mst, w.before args s = true) (hl : Cond.methodLink own index y_M_send ∈ Mst) (hR : 0 + 1 ≤ R.frames ∧ 8 + (6 + 11) + 34 * 0 ≤ R.locals) : CallW R s args own "ThreeChainLedgerModel" index y_M_send c_M_send 6 none (Cond.code y_M_send c_M_send 6 none :: Mst) (rmd 0) 0 0 5 :=
  cwV 5 hts (gV hl w_593 ws_21 w_8 w_594) rfl rfl rfl ⟨rfl, by decide, by decide, by decide +kernel⟩ hR
theorem cw_M_enter {R : Room} {s : State} {args : Array Value} {own : String} {index : Nat} (hts : ∀ w ∈ Mst, w.before args s = true) (hl : Cond.methodLink own index y_M_enter ∈ Mst) (hR : 0 + 1 ≤ R.frames ∧ 8 + (3 + 11) + 34 * 0 ≤ R.locals) : CallW R s args own "ThreeChainLedgerModel" index y_M_enter c_M_enter 3 none (Cond.code y_M_enter c_M_enter 3 none :: Mst) (rmd 0) 0 0 2 :=
  cwV 2 hts (gV hl w_601 ws_22 w_8 w_602) rfl rfl rfl ⟨rfl, by decide, by decide, by decide +kernel⟩ hR
theorem cw_M_see {R : Room} {s : State} {args : Array Value} {own : String} {index : Nat} (hts : ∀ w ∈ Mst, w.before args s = true) (hl : Cond.methodLink own index y_M_see ∈ Mst) (hR : 1 + 1 ≤ R.frames ∧ 8 + (3 + 11) + 34 * 1 ≤ R.locals) : CallW R s args own "ThreeChainLedgerModel" index y_M_see c_M_see 3 none (Cond.code y_M_see c_M_see 3 none :: Mst) (rmd 1) 0 0 2 :=
  cwV 2 hts (gV hl w_621 ws_26 w_8 w_622) rfl rfl rfl ⟨rfl, by decide, by decide, by decide +kernel⟩ hR
theorem cw_M_getProposal {R : Room} {s : State} {args : Array Value} {own : String} {index : Nat} (hts : ∀ w ∈ Mst, w.before args s = true) (hl : Cond.methodLink own index y_M_getProposal ∈ Mst) (hR : 2 + 1 ≤ R.frames ∧ 8 + (7 + 11) + 34 * 2 ≤ R.locals) : CallW R s args own "ThreeChainLedgerModel" index y_M_getProposal c_M_getProposal 7 none (Cond.code y_M_getProposal c_M_getProposal 7 none :: Mst) (rmd 2) 0 0 2 :=
  cwV 2 hts (gV hl w_617 ws_25 w_8 w_618) rfl rfl rfl ⟨rfl, by decide, by decide, by decide +kernel⟩ hR
theorem cw_M_getVote {R : Room} {s : State} {args : Array Value} {own : String} {index : Nat} (hts : ∀ w ∈ Mst, w.before args s = true) (hl : Cond.methodLink own index y_M_getVote ∈ Mst) (hR : 2 + 1 ≤ R.frames ∧ 8 + (4 + 11) + 34 * 2 ≤ R.locals) : CallW R s args own "ThreeChainLedgerModel" index y_M_getVote c_M_getVote 4 none (Cond.code y_M_getVote c_M_getVote 4 none :: Mst) (rmd 2) 0 0 3 :=
  cwV 3 hts (gV hl w_633 ws_29 w_8 w_634) rfl rfl rfl ⟨rfl, by decide, by decide, by decide +kernel⟩ hR
theorem cw_M_getNewView {R : Room} {s : State} {args : Array Value} {own : String} {index : Nat} (hts : ∀ w ∈ Mst, w.before args s = true) (hl : Cond.methodLink own index y_M_getNewView ∈ Mst) (hR : 2 + 1 ≤ R.frames ∧ 8 + (6 + 11) + 34 * 2 ≤ R.locals) : CallW R s args own "ThreeChainLedgerModel" index y_M_getNewView c_M_getNewView 6 none (Cond.code y_M_getNewView c_M_getNewView 6 none :: Mst) (rmd 2) 0 0 4 :=
  cwV 4 hts (gV hl w_640 ws_30 w_8 w_641) rfl rfl rfl ⟨rfl, by decide, by decide, by decide +kernel⟩ hR
theorem cw_M_takeOut {R : Room} {s : State} {args : Array Value} {own : String} {index : Nat} (hts : ∀ w ∈ Mst, w.before args s = true) (hl : Cond.methodLink own index y_M_takeOut ∈ Mst) (hR : 0 + 1 ≤ R.frames ∧ 8 + (3 + 11) + 34 * 0 ≤ R.locals) : CallW R s args own "ThreeChainLedgerModel" index y_M_takeOut c_M_takeOut 3 none (Cond.code y_M_takeOut c_M_takeOut 3 none :: Mst) (rmd 0) 0 0 1 :=
  cwV 1 hts (gV hl w_609 ws_23 w_8 w_610) rfl rfl rfl ⟨rfl, by decide, by decide, by decide +kernel⟩ hR
theorem cw_M_submit {R : Room} {s : State} {args : Array Value} {own : String} {index : Nat} (hts : ∀ w ∈ Mst, w.before args s = true) (hl : Cond.methodLink own index y_M_submit ∈ Mst) (hR : 0 + 1 ≤ R.frames ∧ 8 + (5 + 11) + 34 * 0 ≤ R.locals) : CallW R s args own "ThreeChainLedgerModel" index y_M_submit c_M_submit 5 (some .int) (Cond.code y_M_submit c_M_submit 5 (some .int) :: Mst) (rmd 0) 0 0 4 :=
  cwV 4 hts (gV hl w_560 w_561 w_8 w_562) rfl rfl rfl ⟨rfl, by decide, by decide, by decide +kernel⟩ hR
theorem cw_M_newBlock {R : Room} {s : State} {args : Array Value} {own : String} {index : Nat} (hts : ∀ w ∈ Mst, w.before args s = true) (hl : Cond.methodLink own index y_M_newBlock ∈ Mst) (hR : 0 + 1 ≤ R.frames ∧ 8 + (4 + 11) + 34 * 0 ≤ R.locals) : CallW R s args own "ThreeChainLedgerModel" index y_M_newBlock c_M_newBlock 4 (some .int) (Cond.code y_M_newBlock c_M_newBlock 4 (some .int) :: Mst) (rmd 0) 0 0 3 :=
  cwV 3 hts (gV hl w_589 ws_20 w_8 w_590) rfl rfl rfl ⟨rfl, by decide, by decide, by decide +kernel⟩ hR
theorem cw_M_lead {R : Room} {s : State} {args : Array Value} {own : String} {index : Nat} (hts : ∀ w ∈ Mst, w.before args s = true) (hl : Cond.methodLink own index y_M_lead ∈ Mst) (hR : 2 + 1 ≤ R.frames ∧ 8 + (11 + 11) + 34 * 2 ≤ R.locals) : CallW R s args own "ThreeChainLedgerModel" index y_M_lead c_M_lead 11 (some .int) (Cond.code y_M_lead c_M_lead 11 (some .int) :: Mst) (rmd 2) 0 0 1 :=
  cwV 1 hts (gV hl w_564 w_565 w_8 w_566) rfl rfl rfl ⟨rfl, by decide, by decide, by decide +kernel⟩ hR
theorem cw_M_tick {R : Room} {s : State} {args : Array Value} {own : String} {index : Nat} (hts : ∀ w ∈ Mst, w.before args s = true) (hl : Cond.methodLink own index y_M_tick ∈ Mst) (hR : 2 + 1 ≤ R.frames ∧ 8 + (4 + 11) + 34 * 2 ≤ R.locals) : CallW R s args own "ThreeChainLedgerModel" index y_M_tick c_M_tick 4 (some .int) (Cond.code y_M_tick c_M_tick 4 (some .int) :: Mst) (rmd 2) 0 0 1 :=
  cwV 1 hts (gV hl w_596 w_597 w_8 w_598) rfl rfl rfl ⟨rfl, by decide, by decide, by decide +kernel⟩ hR
theorem cw_M_deliver {R : Room} {s : State} {args : Array Value} {own : String} {index : Nat} (hts : ∀ w ∈ Mst, w.before args s = true) (hl : Cond.methodLink own index y_M_deliver ∈ Mst) (hR : 3 + 1 ≤ R.frames ∧ 8 + (7 + 11) + 34 * 3 ≤ R.locals) : CallW R s args own "ThreeChainLedgerModel" index y_M_deliver c_M_deliver 7 (some .int) (Cond.code y_M_deliver c_M_deliver 7 (some .int) :: Mst) (rmd 3) 0 0 1 :=
  cwV 1 hts (gV hl w_604 w_605 w_8 w_606) rfl rfl rfl ⟨rfl, by decide, by decide, by decide +kernel⟩ hR
theorem cw_M_flow {R : Room} {s : State} {args : Array Value} {own : String} {index : Nat} (hts : ∀ w ∈ Mst, w.before args s = true) (hl : Cond.methodLink own index y_M_flow ∈ Mst) (hR : 4 + 1 ≤ R.frames ∧ 8 + (3 + 11) + 34 * 4 ≤ R.locals) : CallW R s args own "ThreeChainLedgerModel" index y_M_flow c_M_flow 3 (some .int) (Cond.code y_M_flow c_M_flow 3 (some .int) :: Mst) (rmd 4) 0 0 1 :=
  cwV 1 hts (gV hl w_643 w_644 w_8 w_645) rfl rfl rfl ⟨rfl, by decide, by decide, by decide +kernel⟩ hR
theorem cw_M_drop {R : Room} {s : State} {args : Array Value} {own : String} {index : Nat} (hts : ∀ w ∈ Mst, w.before args s = true) (hl : Cond.methodLink own index y_M_drop ∈ Mst) (hR : 1 + 1 ≤ R.frames ∧ 8 + (2 + 11) + 34 * 1 ≤ R.locals) : CallW R s args own "ThreeChainLedgerModel" index y_M_drop c_M_drop 2 (some .boolean) (Cond.code y_M_drop c_M_drop 2 (some .boolean) :: Mst) (rmd 1) 0 0 1 :=
  cwV 1 hts (gV hl w_648 w_649 w_8 w_650) rfl rfl rfl ⟨rfl, by decide, by decide, by decide +kernel⟩ hR
theorem cw_M_forge {R : Room} {s : State} {args : Array Value} {own : String} {index : Nat} (hts : ∀ w ∈ Mst, w.before args s = true) (hl : Cond.methodLink own index y_M_forge ∈ Mst) (hR : 2 + 1 ≤ R.frames ∧ 8 + (5 + 11) + 34 * 2 ≤ R.locals) : CallW R s args own "ThreeChainLedgerModel" index y_M_forge c_M_forge 5 (some .int) (Cond.code y_M_forge c_M_forge 5 (some .int) :: Mst) (rmd 2) 0 0 3 :=
  cwV 3 hts (gV hl w_652 w_653 w_8 w_654) rfl rfl rfl ⟨rfl, by decide, by decide, by decide +kernel⟩ hR
theorem cw_M_offer {R : Room} {s : State} {args : Array Value} {own : String} {index : Nat} (hts : ∀ w ∈ Mst, w.before args s = true) (hl : Cond.methodLink own index y_M_offer ∈ Mst) (hR : 1 + 1 ≤ R.frames ∧ 8 + (3 + 11) + 34 * 1 ≤ R.locals) : CallW R s args own "ThreeChainLedgerModel" index y_M_offer c_M_offer 3 (some .boolean) (Cond.code y_M_offer c_M_offer 3 (some .boolean) :: Mst) (rmd 1) 0 0 2 :=
  cwV 2 hts (gV hl w_664 w_665 w_8 w_666) rfl rfl rfl ⟨rfl, by decide, by decide, by decide +kernel⟩ hR
theorem cw_M_vote {R : Room} {s : State} {args : Array Value} {own : String} {index : Nat} (hts : ∀ w ∈ Mst, w.before args s = true) (hl : Cond.methodLink own index y_M_vote ∈ Mst) (hR : 2 + 1 ≤ R.frames ∧ 8 + (4 + 11) + 34 * 2 ≤ R.locals) : CallW R s args own "ThreeChainLedgerModel" index y_M_vote c_M_vote 4 (some .boolean) (Cond.code y_M_vote c_M_vote 4 (some .boolean) :: Mst) (rmd 2) 0 0 3 :=
  cwV 3 hts (gV hl w_668 w_669 w_8 w_670) rfl rfl rfl ⟨rfl, by decide, by decide, by decide +kernel⟩ hR
theorem cw_M_claim {R : Room} {s : State} {args : Array Value} {own : String} {index : Nat} (hts : ∀ w ∈ Mst, w.before args s = true) (hl : Cond.methodLink own index y_M_claim ∈ Mst) (hR : 2 + 1 ≤ R.frames ∧ 8 + (5 + 11) + 34 * 2 ≤ R.locals) : CallW R s args own "ThreeChainLedgerModel" index y_M_claim c_M_claim 5 (some .boolean) (Cond.code y_M_claim c_M_claim 5 (some .boolean) :: Mst) (rmd 2) 0 0 4 :=
  cwV 4 hts (gV hl w_672 w_673 w_8 w_674) rfl rfl rfl ⟨rfl, by decide, by decide, by decide +kernel⟩ hR
theorem cw_M_waiting {R : Room} {s : State} {args : Array Value} {own : String} {index : Nat} (hts : ∀ w ∈ Mst, w.before args s = true) (hl : Cond.methodLink own index y_M_waiting ∈ Mst) (hR : 0 + 1 ≤ R.frames ∧ 8 + (1 + 11) + 34 * 0 ≤ R.locals) : CallW R s args own "ThreeChainLedgerModel" index y_M_waiting c_M_waiting 1 (some .int) (Cond.code y_M_waiting c_M_waiting 1 (some .int) :: Mst) (rmd 0) 0 0 0 :=
  cwV 0 hts (gV hl w_676 w_677 w_8 w_678) rfl rfl rfl ⟨rfl, by decide, by decide, by decide +kernel⟩ hR
theorem cw_M_message {R : Room} {s : State} {args : Array Value} {own : String} {index : Nat} (hts : ∀ w ∈ Mst, w.before args s = true) (hl : Cond.methodLink own index y_M_message ∈ Mst) (hR : 0 + 1 ≤ R.frames ∧ 8 + (2 + 11) + 34 * 0 ≤ R.locals) : CallW R s args own "ThreeChainLedgerModel" index y_M_message c_M_message 2 (some .int) (Cond.code y_M_message c_M_message 2 (some .int) :: Mst) (rmd 0) 0 0 1 :=
  cwV 1 hts (gV hl w_680 w_681 w_8 w_682) rfl rfl rfl ⟨rfl, by decide, by decide, by decide +kernel⟩ hR
theorem cw_M_block {R : Room} {s : State} {args : Array Value} {own : String} {index : Nat} (hts : ∀ w ∈ Mst, w.before args s = true) (hl : Cond.methodLink own index y_M_block ∈ Mst) (hR : 1 + 1 ≤ R.frames ∧ 8 + (2 + 11) + 34 * 1 ≤ R.locals) : CallW R s args own "ThreeChainLedgerModel" index y_M_block c_M_block 2 (some .int) (Cond.code y_M_block c_M_block 2 (some .int) :: Mst) (rmd 1) 0 0 1 :=
  cwV 1 hts (gV hl w_684 w_685 w_8 w_686) rfl rfl rfl ⟨rfl, by decide, by decide, by decide +kernel⟩ hR
theorem cw_M_payload {R : Room} {s : State} {args : Array Value} {own : String} {index : Nat} (hts : ∀ w ∈ Mst, w.before args s = true) (hl : Cond.methodLink own index y_M_payload ∈ Mst) (hR : 1 + 1 ≤ R.frames ∧ 8 + (2 + 11) + 34 * 1 ≤ R.locals) : CallW R s args own "ThreeChainLedgerModel" index y_M_payload c_M_payload 2 (some .int) (Cond.code y_M_payload c_M_payload 2 (some .int) :: Mst) (rmd 1) 0 0 1 :=
  cwV 1 hts (gV hl w_688 w_689 w_8 w_690) rfl rfl rfl ⟨rfl, by decide, by decide, by decide +kernel⟩ hR
theorem cw_M_votes {R : Room} {s : State} {args : Array Value} {own : String} {index : Nat} (hts : ∀ w ∈ Mst, w.before args s = true) (hl : Cond.methodLink own index y_M_votes ∈ Mst) (hR : 1 + 1 ≤ R.frames ∧ 8 + (2 + 11) + 34 * 1 ≤ R.locals) : CallW R s args own "ThreeChainLedgerModel" index y_M_votes c_M_votes 2 (some .int) (Cond.code y_M_votes c_M_votes 2 (some .int) :: Mst) (rmd 1) 0 0 1 :=
  cwV 1 hts (gV hl w_692 w_693 w_8 w_694) rfl rfl rfl ⟨rfl, by decide, by decide, by decide +kernel⟩ hR
theorem cw_M_state {R : Room} {s : State} {args : Array Value} {own : String} {index : Nat} (hts : ∀ w ∈ Mst, w.before args s = true) (hl : Cond.methodLink own index y_M_state ∈ Mst) (hR : 2 + 1 ≤ R.frames ∧ 8 + (3 + 11) + 34 * 2 ≤ R.locals) : CallW R s args own "ThreeChainLedgerModel" index y_M_state c_M_state 3 (some .int) (Cond.code y_M_state c_M_state 3 (some .int) :: Mst) (rmd 2) 0 0 2 :=
  cwV 2 hts (gV hl w_696 w_697 w_8 w_698) rfl rfl rfl ⟨rfl, by decide, by decide, by decide +kernel⟩ hR
theorem cw_M_layOut {R : Room} {s : State} {args : Array Value} {own : String} {index : Nat} (hts : ∀ w ∈ Mst, w.before args s = true) (hl : Cond.methodLink own index y_M_layOut ∈ Mst) (hR : 1 + 1 ≤ R.frames ∧ 8 + (6 + 11) + 34 * 1 ≤ R.locals) : CallW R s args own "ThreeChainLedgerModel" index y_M_layOut c_M_layOut 6 (some .int) (Cond.code y_M_layOut c_M_layOut 6 (some .int) :: Mst) (rmd 1) 0 0 1 :=
  cwV 1 hts (gV hl w_709 ws_34 w_8 w_710) rfl rfl rfl ⟨rfl, by decide, by decide, by decide +kernel⟩ hR
theorem cw_M_committed {R : Room} {s : State} {args : Array Value} {own : String} {index : Nat} (hts : ∀ w ∈ Mst, w.before args s = true) (hl : Cond.methodLink own index y_M_committed ∈ Mst) (hR : 2 + 1 ≤ R.frames ∧ 8 + (4 + 11) + 34 * 2 ≤ R.locals) : CallW R s args own "ThreeChainLedgerModel" index y_M_committed c_M_committed 4 (some .int) (Cond.code y_M_committed c_M_committed 4 (some .int) :: Mst) (rmd 2) 0 0 2 :=
  cwV 2 hts (gV hl w_704 w_705 w_8 w_706) rfl rfl rfl ⟨rfl, by decide, by decide, by decide +kernel⟩ hR
theorem cw_M_goThrough {R : Room} {s : State} {args : Array Value} {own : String} {index : Nat} (hts : ∀ w ∈ Mst, w.before args s = true) (hl : Cond.methodLink own index y_M_goThrough ∈ Mst) (hR : 2 + 1 ≤ R.frames ∧ 8 + (5 + 11) + 34 * 2 ≤ R.locals) : CallW R s args own "ThreeChainLedgerModel" index y_M_goThrough c_M_goThrough 5 none (Cond.code y_M_goThrough c_M_goThrough 5 none :: Mst) (rmd 2) 0 0 1 :=
  cwV 1 hts (gV hl w_717 ws_35 w_8 w_718) rfl rfl rfl ⟨rfl, by decide, by decide, by decide +kernel⟩ hR
theorem cw_M_balance {R : Room} {s : State} {args : Array Value} {own : String} {index : Nat} (hts : ∀ w ∈ Mst, w.before args s = true) (hl : Cond.methodLink own index y_M_balance ∈ Mst) (hR : 3 + 1 ≤ R.frames ∧ 8 + (3 + 11) + 34 * 3 ≤ R.locals) : CallW R s args own "ThreeChainLedgerModel" index y_M_balance c_M_balance 3 (some .int) (Cond.code y_M_balance c_M_balance 3 (some .int) :: Mst) (rmd 3) 0 0 2 :=
  cwV 2 hts (gV hl w_712 w_713 w_8 w_714) rfl rfl rfl ⟨rfl, by decide, by decide, by decide +kernel⟩ hR
theorem cw_M_outcome {R : Room} {s : State} {args : Array Value} {own : String} {index : Nat} (hts : ∀ w ∈ Mst, w.before args s = true) (hl : Cond.methodLink own index y_M_outcome ∈ Mst) (hR : 3 + 1 ≤ R.frames ∧ 8 + (3 + 11) + 34 * 3 ≤ R.locals) : CallW R s args own "ThreeChainLedgerModel" index y_M_outcome c_M_outcome 3 (some .int) (Cond.code y_M_outcome c_M_outcome 3 (some .int) :: Mst) (rmd 3) 0 0 2 :=
  cwV 2 hts (gV hl w_720 w_721 w_8 w_722) rfl rfl rfl ⟨rfl, by decide, by decide, by decide +kernel⟩ hR
theorem cw_M_lost {R : Room} {s : State} {args : Array Value} {own : String} {index : Nat} (hts : ∀ w ∈ Mst, w.before args s = true) (hl : Cond.methodLink own index y_M_lost ∈ Mst) (hR : 0 + 1 ≤ R.frames ∧ 8 + (1 + 11) + 34 * 0 ≤ R.locals) : CallW R s args own "ThreeChainLedgerModel" index y_M_lost c_M_lost 1 (some .int) (Cond.code y_M_lost c_M_lost 1 (some .int) :: Mst) (rmd 0) 0 0 0 :=
  cwV 0 hts (gV hl w_724 w_725 w_8 w_726) rfl rfl rfl ⟨rfl, by decide, by decide, by decide +kernel⟩ hR
