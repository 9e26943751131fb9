section
-- ===== PART A: goes FIRST, ahead of the names: the tables' words, and 'selects' of the private methods out of them =====
/-- a private method of a class that the tables say can be made, by its rows of tables_1 -/
def lw_okq (q : MethodName × Nat) : Prop := (q.1.cls ≠ "java/lang/invoke/MethodHandle" ∧ q.1.cls ≠ "java/lang/invoke/VarHandle") ∧ Cond.instantiable q.1.cls q.2 ∈ tables_1 ∧ Cond.privateMethod q.1 ∈ tables_1 ∧ Cond.instanceMethod q.1 ∈ tables_1
theorem lw_p0 : lw_okq (⟨"ThreeChainLedger", "isCorrect", "(I)Z"⟩, 9) := ⟨⟨by decide +kernel, by decide +kernel⟩, List.mem_of_getElem? (i := 12) (by decide +kernel), List.mem_of_getElem? (i := 228) (by decide +kernel), List.mem_of_getElem? (i := 229) (by decide +kernel)⟩
theorem lw_p1 : lw_okq (⟨"ThreeChainLedger", "isReplica", "(I)Z"⟩, 9) := ⟨⟨by decide +kernel, by decide +kernel⟩, List.mem_of_getElem? (i := 12) (by decide +kernel), List.mem_of_getElem? (i := 232) (by decide +kernel), List.mem_of_getElem? (i := 233) (by decide +kernel)⟩
theorem lw_p2 : lw_okq (⟨"ThreeChainLedger", "mayPropose", "(I)Z"⟩, 9) := ⟨⟨by decide +kernel, by decide +kernel⟩, List.mem_of_getElem? (i := 12) (by decide +kernel), List.mem_of_getElem? (i := 236) (by decide +kernel), List.mem_of_getElem? (i := 237) (by decide +kernel)⟩
theorem lw_p3 : lw_okq (⟨"ThreeChainLedger", "leaderOf", "(I)I"⟩, 9) := ⟨⟨by decide +kernel, by decide +kernel⟩, List.mem_of_getElem? (i := 12) (by decide +kernel), List.mem_of_getElem? (i := 240) (by decide +kernel), List.mem_of_getElem? (i := 241) (by decide +kernel)⟩
theorem lw_p4 : lw_okq (⟨"ThreeChainLedger$Replica", "countFrom", "(I)I"⟩, 11) := ⟨⟨by decide +kernel, by decide +kernel⟩, List.mem_of_getElem? (i := 30) (by decide +kernel), List.mem_of_getElem? (i := 251) (by decide +kernel), List.mem_of_getElem? (i := 252) (by decide +kernel)⟩
theorem lw_p5 : lw_okq (⟨"ThreeChainLedger", "handOver", "(I)Z"⟩, 9) := ⟨⟨by decide +kernel, by decide +kernel⟩, List.mem_of_getElem? (i := 12) (by decide +kernel), List.mem_of_getElem? (i := 287) (by decide +kernel), List.mem_of_getElem? (i := 288) (by decide +kernel)⟩
theorem lw_p6 : lw_okq (⟨"ThreeChainLedger", "getProposal", "(II)V"⟩, 9) := ⟨⟨by decide +kernel, by decide +kernel⟩, List.mem_of_getElem? (i := 12) (by decide +kernel), List.mem_of_getElem? (i := 307) (by decide +kernel), List.mem_of_getElem? (i := 308) (by decide +kernel)⟩
theorem lw_p7 : lw_okq (⟨"ThreeChainLedger", "isSafe", "(II)Z"⟩, 9) := ⟨⟨by decide +kernel, by decide +kernel⟩, List.mem_of_getElem? (i := 12) (by decide +kernel), List.mem_of_getElem? (i := 324) (by decide +kernel), List.mem_of_getElem? (i := 325) (by decide +kernel)⟩
theorem lw_p8 : lw_okq (⟨"ThreeChainLedger", "getVote", "(III)V"⟩, 9) := ⟨⟨by decide +kernel, by decide +kernel⟩, List.mem_of_getElem? (i := 12) (by decide +kernel), List.mem_of_getElem? (i := 335) (by decide +kernel), List.mem_of_getElem? (i := 336) (by decide +kernel)⟩
theorem lw_p9 : lw_okq (⟨"ThreeChainLedger", "getNewView", "(IIII)V"⟩, 9) := ⟨⟨by decide +kernel, by decide +kernel⟩, List.mem_of_getElem? (i := 12) (by decide +kernel), List.mem_of_getElem? (i := 345) (by decide +kernel), List.mem_of_getElem? (i := 346) (by decide +kernel)⟩
theorem lw_p10 : lw_okq (⟨"ThreeChainLedger", "hasCertificate", "(I)Z"⟩, 9) := ⟨⟨by decide +kernel, by decide +kernel⟩, List.mem_of_getElem? (i := 12) (by decide +kernel), List.mem_of_getElem? (i := 361) (by decide +kernel), List.mem_of_getElem? (i := 362) (by decide +kernel)⟩
theorem lw_p11 : lw_okq (⟨"ThreeChainLedger", "isCorrupt", "(I)Z"⟩, 9) := ⟨⟨by decide +kernel, by decide +kernel⟩, List.mem_of_getElem? (i := 12) (by decide +kernel), List.mem_of_getElem? (i := 369) (by decide +kernel), List.mem_of_getElem? (i := 370) (by decide +kernel)⟩
theorem lw_p12 : lw_okq (⟨"ThreeChainLedger", "maySend", "(II)Z"⟩, 9) := ⟨⟨by decide +kernel, by decide +kernel⟩, List.mem_of_getElem? (i := 12) (by decide +kernel), List.mem_of_getElem? (i := 377) (by decide +kernel), List.mem_of_getElem? (i := 378) (by decide +kernel)⟩
theorem lw_p13 : lw_okq (⟨"ThreeChainLedger$Ledger", "settle", "(ILThreeChainLedger$Transfers;)V"⟩, 2) := ⟨⟨by decide +kernel, by decide +kernel⟩, List.mem_of_getElem? (i := 163) (by decide +kernel), List.mem_of_getElem? (i := 432) (by decide +kernel), List.mem_of_getElem? (i := 433) (by decide +kernel)⟩
theorem lw_p14 : lw_okq (⟨"ThreeChainLedger$Ledger", "pay", "(III)Z"⟩, 2) := ⟨⟨by decide +kernel, by decide +kernel⟩, List.mem_of_getElem? (i := 163) (by decide +kernel), List.mem_of_getElem? (i := 437) (by decide +kernel), List.mem_of_getElem? (i := 438) (by decide +kernel)⟩
theorem lw_p15 : lw_okq (⟨"ThreeChainLedgerModel", "isCorrect", "(I)Z"⟩, 32) := ⟨⟨by decide +kernel, by decide +kernel⟩, List.mem_of_getElem? (i := 456) (by decide +kernel), List.mem_of_getElem? (i := 568) (by decide +kernel), List.mem_of_getElem? (i := 569) (by decide +kernel)⟩
def lw_privs_1 : List (MethodName × Nat) := [(⟨"ThreeChainLedger", "isCorrect", "(I)Z"⟩, 9), (⟨"ThreeChainLedger", "isReplica", "(I)Z"⟩, 9), (⟨"ThreeChainLedger", "mayPropose", "(I)Z"⟩, 9), (⟨"ThreeChainLedger", "leaderOf", "(I)I"⟩, 9), (⟨"ThreeChainLedger$Replica", "countFrom", "(I)I"⟩, 11), (⟨"ThreeChainLedger", "handOver", "(I)Z"⟩, 9), (⟨"ThreeChainLedger", "getProposal", "(II)V"⟩, 9), (⟨"ThreeChainLedger", "isSafe", "(II)Z"⟩, 9), (⟨"ThreeChainLedger", "getVote", "(III)V"⟩, 9), (⟨"ThreeChainLedger", "getNewView", "(IIII)V"⟩, 9), (⟨"ThreeChainLedger", "hasCertificate", "(I)Z"⟩, 9), (⟨"ThreeChainLedger", "isCorrupt", "(I)Z"⟩, 9), (⟨"ThreeChainLedger", "maySend", "(II)Z"⟩, 9), (⟨"ThreeChainLedger$Ledger", "settle", "(ILThreeChainLedger$Transfers;)V"⟩, 2), (⟨"ThreeChainLedger$Ledger", "pay", "(III)Z"⟩, 2), (⟨"ThreeChainLedgerModel", "isCorrect", "(I)Z"⟩, 32)]
theorem lw_r1 : ∀ q ∈ lw_privs_1, lw_okq q := List.forall_mem_cons.mpr ⟨lw_p0, List.forall_mem_cons.mpr ⟨lw_p1, List.forall_mem_cons.mpr ⟨lw_p2, List.forall_mem_cons.mpr ⟨lw_p3, List.forall_mem_cons.mpr ⟨lw_p4, List.forall_mem_cons.mpr ⟨lw_p5, List.forall_mem_cons.mpr ⟨lw_p6, List.forall_mem_cons.mpr ⟨lw_p7, List.forall_mem_cons.mpr ⟨lw_p8, List.forall_mem_cons.mpr ⟨lw_p9, List.forall_mem_cons.mpr ⟨lw_p10, List.forall_mem_cons.mpr ⟨lw_p11, List.forall_mem_cons.mpr ⟨lw_p12, List.forall_mem_cons.mpr ⟨lw_p13, List.forall_mem_cons.mpr ⟨lw_p14, List.forall_mem_cons.mpr ⟨lw_p15, fun _ h => absurd h List.not_mem_nil⟩⟩⟩⟩⟩⟩⟩⟩⟩⟩⟩⟩⟩⟩⟩⟩
theorem lw_p16 : lw_okq (⟨"ThreeChainLedgerModel", "isReplica", "(I)Z"⟩, 32) := ⟨⟨by decide +kernel, by decide +kernel⟩, List.mem_of_getElem? (i := 456) (by decide +kernel), List.mem_of_getElem? (i := 572) (by decide +kernel), List.mem_of_getElem? (i := 573) (by decide +kernel)⟩
theorem lw_p17 : lw_okq (⟨"ThreeChainLedgerModel", "leader", "(I)I"⟩, 32) := ⟨⟨by decide +kernel, by decide +kernel⟩, List.mem_of_getElem? (i := 456) (by decide +kernel), List.mem_of_getElem? (i := 576) (by decide +kernel), List.mem_of_getElem? (i := 577) (by decide +kernel)⟩
theorem lw_p18 : lw_okq (⟨"ThreeChainLedgerModel", "high", "(I)I"⟩, 32) := ⟨⟨by decide +kernel, by decide +kernel⟩, List.mem_of_getElem? (i := 456) (by decide +kernel), List.mem_of_getElem? (i := 580) (by decide +kernel), List.mem_of_getElem? (i := 581) (by decide +kernel)⟩
theorem lw_p19 : lw_okq (⟨"ThreeChainLedgerModel", "push", "(I)I"⟩, 32) := ⟨⟨by decide +kernel, by decide +kernel⟩, List.mem_of_getElem? (i := 456) (by decide +kernel), List.mem_of_getElem? (i := 584) (by decide +kernel), List.mem_of_getElem? (i := 585) (by decide +kernel)⟩
theorem lw_p20 : lw_okq (⟨"ThreeChainLedgerModel", "newBlock", "(III)I"⟩, 32) := ⟨⟨by decide +kernel, by decide +kernel⟩, List.mem_of_getElem? (i := 456) (by decide +kernel), List.mem_of_getElem? (i := 588) (by decide +kernel), List.mem_of_getElem? (i := 589) (by decide +kernel)⟩
theorem lw_p21 : lw_okq (⟨"ThreeChainLedgerModel", "send", "(IIIII)V"⟩, 32) := ⟨⟨by decide +kernel, by decide +kernel⟩, List.mem_of_getElem? (i := 456) (by decide +kernel), List.mem_of_getElem? (i := 592) (by decide +kernel), List.mem_of_getElem? (i := 593) (by decide +kernel)⟩
theorem lw_p22 : lw_okq (⟨"ThreeChainLedgerModel", "enter", "(II)V"⟩, 32) := ⟨⟨by decide +kernel, by decide +kernel⟩, List.mem_of_getElem? (i := 456) (by decide +kernel), List.mem_of_getElem? (i := 600) (by decide +kernel), List.mem_of_getElem? (i := 601) (by decide +kernel)⟩
theorem lw_p23 : lw_okq (⟨"ThreeChainLedgerModel", "takeOut", "(I)V"⟩, 32) := ⟨⟨by decide +kernel, by decide +kernel⟩, List.mem_of_getElem? (i := 456) (by decide +kernel), List.mem_of_getElem? (i := 608) (by decide +kernel), List.mem_of_getElem? (i := 609) (by decide +kernel)⟩
theorem lw_p24 : lw_okq (⟨"ThreeChainLedgerModel", "isCorrupt", "(I)Z"⟩, 32) := ⟨⟨by decide +kernel, by decide +kernel⟩, List.mem_of_getElem? (i := 456) (by decide +kernel), List.mem_of_getElem? (i := 612) (by decide +kernel), List.mem_of_getElem? (i := 613) (by decide +kernel)⟩
theorem lw_p25 : lw_okq (⟨"ThreeChainLedgerModel", "getProposal", "(II)V"⟩, 32) := ⟨⟨by decide +kernel, by decide +kernel⟩, List.mem_of_getElem? (i := 456) (by decide +kernel), List.mem_of_getElem? (i := 616) (by decide +kernel), List.mem_of_getElem? (i := 617) (by decide +kernel)⟩
theorem lw_p26 : lw_okq (⟨"ThreeChainLedgerModel", "see", "(II)V"⟩, 32) := ⟨⟨by decide +kernel, by decide +kernel⟩, List.mem_of_getElem? (i := 456) (by decide +kernel), List.mem_of_getElem? (i := 620) (by decide +kernel), List.mem_of_getElem? (i := 621) (by decide +kernel)⟩
theorem lw_p27 : lw_okq (⟨"ThreeChainLedgerModel", "lock", "(I)I"⟩, 32) := ⟨⟨by decide +kernel, by decide +kernel⟩, List.mem_of_getElem? (i := 456) (by decide +kernel), List.mem_of_getElem? (i := 624) (by decide +kernel), List.mem_of_getElem? (i := 625) (by decide +kernel)⟩
theorem lw_p28 : lw_okq (⟨"ThreeChainLedgerModel", "inChain", "(II)Z"⟩, 32) := ⟨⟨by decide +kernel, by decide +kernel⟩, List.mem_of_getElem? (i := 456) (by decide +kernel), List.mem_of_getElem? (i := 628) (by decide +kernel), List.mem_of_getElem? (i := 629) (by decide +kernel)⟩
theorem lw_p29 : lw_okq (⟨"ThreeChainLedgerModel", "getVote", "(III)V"⟩, 32) := ⟨⟨by decide +kernel, by decide +kernel⟩, List.mem_of_getElem? (i := 456) (by decide +kernel), List.mem_of_getElem? (i := 632) (by decide +kernel), List.mem_of_getElem? (i := 633) (by decide +kernel)⟩
theorem lw_p30 : lw_okq (⟨"ThreeChainLedgerModel", "getNewView", "(IIII)V"⟩, 32) := ⟨⟨by decide +kernel, by decide +kernel⟩, List.mem_of_getElem? (i := 456) (by decide +kernel), List.mem_of_getElem? (i := 639) (by decide +kernel), List.mem_of_getElem? (i := 640) (by decide +kernel)⟩
theorem lw_p31 : lw_okq (⟨"ThreeChainLedgerModel", "isBlock", "(I)Z"⟩, 32) := ⟨⟨by decide +kernel, by decide +kernel⟩, List.mem_of_getElem? (i := 456) (by decide +kernel), List.mem_of_getElem? (i := 656) (by decide +kernel), List.mem_of_getElem? (i := 657) (by decide +kernel)⟩
def lw_privs_2 : List (MethodName × Nat) := [(⟨"ThreeChainLedgerModel", "isReplica", "(I)Z"⟩, 32), (⟨"ThreeChainLedgerModel", "leader", "(I)I"⟩, 32), (⟨"ThreeChainLedgerModel", "high", "(I)I"⟩, 32), (⟨"ThreeChainLedgerModel", "push", "(I)I"⟩, 32), (⟨"ThreeChainLedgerModel", "newBlock", "(III)I"⟩, 32), (⟨"ThreeChainLedgerModel", "send", "(IIIII)V"⟩, 32), (⟨"ThreeChainLedgerModel", "enter", "(II)V"⟩, 32), (⟨"ThreeChainLedgerModel", "takeOut", "(I)V"⟩, 32), (⟨"ThreeChainLedgerModel", "isCorrupt", "(I)Z"⟩, 32), (⟨"ThreeChainLedgerModel", "getProposal", "(II)V"⟩, 32), (⟨"ThreeChainLedgerModel", "see", "(II)V"⟩, 32), (⟨"ThreeChainLedgerModel", "lock", "(I)I"⟩, 32), (⟨"ThreeChainLedgerModel", "inChain", "(II)Z"⟩, 32), (⟨"ThreeChainLedgerModel", "getVote", "(III)V"⟩, 32), (⟨"ThreeChainLedgerModel", "getNewView", "(IIII)V"⟩, 32), (⟨"ThreeChainLedgerModel", "isBlock", "(I)Z"⟩, 32)]
theorem lw_r2 : ∀ q ∈ lw_privs_2, lw_okq q := List.forall_mem_cons.mpr ⟨lw_p16, List.forall_mem_cons.mpr ⟨lw_p17, List.forall_mem_cons.mpr ⟨lw_p18, List.forall_mem_cons.mpr ⟨lw_p19, List.forall_mem_cons.mpr ⟨lw_p20, List.forall_mem_cons.mpr ⟨lw_p21, List.forall_mem_cons.mpr ⟨lw_p22, List.forall_mem_cons.mpr ⟨lw_p23, List.forall_mem_cons.mpr ⟨lw_p24, List.forall_mem_cons.mpr ⟨lw_p25, List.forall_mem_cons.mpr ⟨lw_p26, List.forall_mem_cons.mpr ⟨lw_p27, List.forall_mem_cons.mpr ⟨lw_p28, List.forall_mem_cons.mpr ⟨lw_p29, List.forall_mem_cons.mpr ⟨lw_p30, List.forall_mem_cons.mpr ⟨lw_p31, fun _ h => absurd h List.not_mem_nil⟩⟩⟩⟩⟩⟩⟩⟩⟩⟩⟩⟩⟩⟩⟩⟩
theorem lw_p32 : lw_okq (⟨"ThreeChainLedgerModel", "certified", "(I)Z"⟩, 32) := ⟨⟨by decide +kernel, by decide +kernel⟩, List.mem_of_getElem? (i := 456) (by decide +kernel), List.mem_of_getElem? (i := 660) (by decide +kernel), List.mem_of_getElem? (i := 661) (by decide +kernel)⟩
theorem lw_p33 : lw_okq (⟨"ThreeChainLedgerModel", "tip", "(I)I"⟩, 32) := ⟨⟨by decide +kernel, by decide +kernel⟩, List.mem_of_getElem? (i := 456) (by decide +kernel), List.mem_of_getElem? (i := 700) (by decide +kernel), List.mem_of_getElem? (i := 701) (by decide +kernel)⟩
theorem lw_p34 : lw_okq (⟨"ThreeChainLedgerModel", "layOut", "(I)I"⟩, 32) := ⟨⟨by decide +kernel, by decide +kernel⟩, List.mem_of_getElem? (i := 456) (by decide +kernel), List.mem_of_getElem? (i := 708) (by decide +kernel), List.mem_of_getElem? (i := 709) (by decide +kernel)⟩
theorem lw_p35 : lw_okq (⟨"ThreeChainLedgerModel", "goThrough", "(I)V"⟩, 32) := ⟨⟨by decide +kernel, by decide +kernel⟩, List.mem_of_getElem? (i := 456) (by decide +kernel), List.mem_of_getElem? (i := 716) (by decide +kernel), List.mem_of_getElem? (i := 717) (by decide +kernel)⟩
def lw_privs_3 : List (MethodName × Nat) := [(⟨"ThreeChainLedgerModel", "certified", "(I)Z"⟩, 32), (⟨"ThreeChainLedgerModel", "tip", "(I)I"⟩, 32), (⟨"ThreeChainLedgerModel", "layOut", "(I)I"⟩, 32), (⟨"ThreeChainLedgerModel", "goThrough", "(I)V"⟩, 32)]
theorem lw_r3 : ∀ q ∈ lw_privs_3, lw_okq q := List.forall_mem_cons.mpr ⟨lw_p32, List.forall_mem_cons.mpr ⟨lw_p33, List.forall_mem_cons.mpr ⟨lw_p34, List.forall_mem_cons.mpr ⟨lw_p35, fun _ h => absurd h List.not_mem_nil⟩⟩⟩⟩
def lw_privs : List (MethodName × Nat) := lw_privs_1 ++ (lw_privs_2 ++ (lw_privs_3))
def lw_tbl : List Cond := k2_sels lw_privs ++ tables_1
theorem lw_privs_ok : ∀ q ∈ lw_privs, lw_okq q := by
  show ∀ q ∈ lw_privs_1 ++ (lw_privs_2 ++ (lw_privs_3)), lw_okq q
  exact List.forall_mem_append.mpr ⟨lw_r1, List.forall_mem_append.mpr ⟨lw_r2, lw_r3⟩⟩
end
section
def R_M : String := "ThreeChainLedgerModel"
def F_M : u_T := fun k => match k with
  | 0 => ("ThreeChainLedgerModel", "f", "I", true)
  | 1 => ("ThreeChainLedgerModel", "n", "I", true)
  | 2 => ("ThreeChainLedgerModel", "k", "I", true)
  | 3 => ("ThreeChainLedgerModel", "corrupt", "I", true)
  | 4 => ("ThreeChainLedgerModel", "transfers", "I", false)
  | 5 => ("ThreeChainLedgerModel", "holding", "[I", true)
  | 6 => ("ThreeChainLedgerModel", "source", "[I", true)
  | 7 => ("ThreeChainLedgerModel", "target", "[I", true)
  | 8 => ("ThreeChainLedgerModel", "amounts", "[I", true)
  | 9 => ("ThreeChainLedgerModel", "blocks", "I", false)
  | 10 => ("ThreeChainLedgerModel", "viewOf", "[I", true)
  | 11 => ("ThreeChainLedgerModel", "parentOf", "[I", true)
  | 12 => ("ThreeChainLedgerModel", "setOf", "[I", true)
  | 13 => ("ThreeChainLedgerModel", "votedFor", "[I", true)
  | 14 => ("ThreeChainLedgerModel", "messages", "I", false)
  | 15 => ("ThreeChainLedgerModel", "losses", "I", false)
  | 16 => ("ThreeChainLedgerModel", "kind", "[I", true)
  | 17 => ("ThreeChainLedgerModel", "to", "[I", true)
  | 18 => ("ThreeChainLedgerModel", "from", "[I", true)
  | 19 => ("ThreeChainLedgerModel", "about", "[I", true)
  | 20 => ("ThreeChainLedgerModel", "forView", "[I", true)
  | 21 => ("ThreeChainLedgerModel", "view", "[I", true)
  | 22 => ("ThreeChainLedgerModel", "timer", "[I", true)
  | 23 => ("ThreeChainLedgerModel", "patience", "[I", true)
  | 24 => ("ThreeChainLedgerModel", "voted", "[I", true)
  | 25 => ("ThreeChainLedgerModel", "proposed", "[I", true)
  | 26 => ("ThreeChainLedgerModel", "saw", "[Z", true)
  | 27 => ("ThreeChainLedgerModel", "got", "[I", true)
  | 28 => ("ThreeChainLedgerModel", "claimed", "[I", true)
  | 29 => ("ThreeChainLedgerModel", "path", "[I", true)
  | 30 => ("ThreeChainLedgerModel", "purse", "[I", true)
  | _ => ("ThreeChainLedgerModel", "fate", "[I", true)
def ty_M : Nat → FieldType := fun k => match k with
  | 0 => .int
  | 1 => .int
  | 2 => .int
  | 3 => .int
  | 4 => .int
  | 5 => .array .int
  | 6 => .array .int
  | 7 => .array .int
  | 8 => .array .int
  | 9 => .int
  | 10 => .array .int
  | 11 => .array .int
  | 12 => .array .int
  | 13 => .array .int
  | 14 => .int
  | 15 => .int
  | 16 => .array .int
  | 17 => .array .int
  | 18 => .array .int
  | 19 => .array .int
  | 20 => .array .int
  | 21 => .array .int
  | 22 => .array .int
  | 23 => .array .int
  | 24 => .array .int
  | 25 => .array .int
  | 26 => .array .boolean
  | 27 => .array .int
  | 28 => .array .int
  | 29 => .array .int
  | 30 => .array .int
  | _ => .array .int
theorem n_M_ : ∀ a, a < 32 → ∀ b, b < 32 → a ≠ b → (F_M a).2.1 ≠ (F_M b).2.1 := by decide +kernel
theorem tok_M : ∀ k, k < 32 → parseFieldDescriptor (F_M k).2.2.1 = some (ty_M k) := by decide +kernel
def R_T : String := "ThreeChainLedger"
def F_T : u_T := fun k => match k with
  | 0 => ("ThreeChainLedger", "replicaCount", "I", true)
  | 1 => ("ThreeChainLedger", "quorum", "I", true)
  | 2 => ("ThreeChainLedger", "viewsInARow", "I", true)
  | 3 => ("ThreeChainLedger", "corruptSet", "I", true)
  | 4 => ("ThreeChainLedger", "replicas", "[LThreeChainLedger$Replica;", true)
  | 5 => ("ThreeChainLedger", "transfers", "LThreeChainLedger$Transfers;", true)
  | 6 => ("ThreeChainLedger", "blocks", "LThreeChainLedger$Blocks;", true)
  | 7 => ("ThreeChainLedger", "row", "LThreeChainLedger$Row;", true)
  | _ => ("ThreeChainLedger", "ledger", "LThreeChainLedger$Ledger;", true)
def ty_T : Nat → FieldType := fun k => match k with
  | 0 => .int
  | 1 => .int
  | 2 => .int
  | 3 => .int
  | 4 => .array (.object "ThreeChainLedger$Replica")
  | 5 => .object "ThreeChainLedger$Transfers"
  | 6 => .object "ThreeChainLedger$Blocks"
  | 7 => .object "ThreeChainLedger$Row"
  | _ => .object "ThreeChainLedger$Ledger"
theorem n_T_ : ∀ a, a < 9 → ∀ b, b < 9 → a ≠ b → (F_T a).2.1 ≠ (F_T b).2.1 := by decide +kernel
theorem tok_T : ∀ k, k < 9 → parseFieldDescriptor (F_T k).2.2.1 = some (ty_T k) := by decide +kernel
def R_Rp : String := "ThreeChainLedger$Replica"
def F_Rp : u_T := fun k => match k with
  | 0 => ("ThreeChainLedger$Replica", "view", "I", false)
  | 1 => ("ThreeChainLedger$Replica", "timer", "I", false)
  | 2 => ("ThreeChainLedger$Replica", "patience", "I", false)
  | 3 => ("ThreeChainLedger$Replica", "voted", "I", false)
  | 4 => ("ThreeChainLedger$Replica", "proposed", "I", false)
  | 5 => ("ThreeChainLedger$Replica", "held", "I", false)
  | 6 => ("ThreeChainLedger$Replica", "high", "I", false)
  | 7 => ("ThreeChainLedger$Replica", "lock", "I", false)
  | 8 => ("ThreeChainLedger$Replica", "tip", "I", false)
  | 9 => ("ThreeChainLedger$Replica", "votesGot", "[I", true)
  | _ => ("ThreeChainLedger$Replica", "newViews", "[I", true)
def ty_Rp : Nat → FieldType := fun k => match k with
  | 0 => .int
  | 1 => .int
  | 2 => .int
  | 3 => .int
  | 4 => .int
  | 5 => .int
  | 6 => .int
  | 7 => .int
  | 8 => .int
  | 9 => .array .int
  | _ => .array .int
theorem n_Rp_ : ∀ a, a < 11 → ∀ b, b < 11 → a ≠ b → (F_Rp a).2.1 ≠ (F_Rp b).2.1 := by decide +kernel
theorem tok_Rp : ∀ k, k < 11 → parseFieldDescriptor (F_Rp k).2.2.1 = some (ty_Rp k) := by decide +kernel
def R_Tr : String := "ThreeChainLedger$Transfers"
def F_Tr : u_T := fun k => match k with
  | 0 => ("ThreeChainLedger$Transfers", "payers", "[I", true)
  | 1 => ("ThreeChainLedger$Transfers", "payees", "[I", true)
  | 2 => ("ThreeChainLedger$Transfers", "amounts", "[I", true)
  | _ => ("ThreeChainLedger$Transfers", "count", "I", false)
def ty_Tr : Nat → FieldType := fun k => match k with
  | 0 => .array .int
  | 1 => .array .int
  | 2 => .array .int
  | _ => .int
theorem n_Tr_ : ∀ a, a < 4 → ∀ b, b < 4 → a ≠ b → (F_Tr a).2.1 ≠ (F_Tr b).2.1 := by decide +kernel
theorem tok_Tr : ∀ k, k < 4 → parseFieldDescriptor (F_Tr k).2.2.1 = some (ty_Tr k) := by decide +kernel
def R_Bl : String := "ThreeChainLedger$Blocks"
def F_Bl : u_T := fun k => match k with
  | 0 => ("ThreeChainLedger$Blocks", "views", "[I", true)
  | 1 => ("ThreeChainLedger$Blocks", "parents", "[I", true)
  | 2 => ("ThreeChainLedger$Blocks", "payloads", "[I", true)
  | 3 => ("ThreeChainLedger$Blocks", "voters", "[I", true)
  | 4 => ("ThreeChainLedger$Blocks", "chainTransfers", "[I", true)
  | 5 => ("ThreeChainLedger$Blocks", "chains", "[J", true)
  | _ => ("ThreeChainLedger$Blocks", "count", "I", false)
def ty_Bl : Nat → FieldType := fun k => match k with
  | 0 => .array .int
  | 1 => .array .int
  | 2 => .array .int
  | 3 => .array .int
  | 4 => .array .int
  | 5 => .array .long
  | _ => .int
theorem n_Bl_ : ∀ a, a < 7 → ∀ b, b < 7 → a ≠ b → (F_Bl a).2.1 ≠ (F_Bl b).2.1 := by decide +kernel
theorem tok_Bl : ∀ k, k < 7 → parseFieldDescriptor (F_Bl k).2.2.1 = some (ty_Bl k) := by decide +kernel
def R_Ro : String := "ThreeChainLedger$Row"
def F_Ro : u_T := fun k => match k with
  | 0 => ("ThreeChainLedger$Row", "codes", "[I", true)
  | 1 => ("ThreeChainLedger$Row", "views", "[I", true)
  | 2 => ("ThreeChainLedger$Row", "size", "I", false)
  | _ => ("ThreeChainLedger$Row", "lostCount", "I", false)
def ty_Ro : Nat → FieldType := fun k => match k with
  | 0 => .array .int
  | 1 => .array .int
  | 2 => .int
  | _ => .int
theorem n_Ro_ : ∀ a, a < 4 → ∀ b, b < 4 → a ≠ b → (F_Ro a).2.1 ≠ (F_Ro b).2.1 := by decide +kernel
theorem tok_Ro : ∀ k, k < 4 → parseFieldDescriptor (F_Ro k).2.2.1 = some (ty_Ro k) := by decide +kernel
def R_Le : String := "ThreeChainLedger$Ledger"
def F_Le : u_T := fun k => match k with
  | 0 => ("ThreeChainLedger$Ledger", "balances", "[I", true)
  | _ => ("ThreeChainLedger$Ledger", "outcomes", "[I", true)
def ty_Le : Nat → FieldType := fun k => match k with
  | 0 => .array .int
  | _ => .array .int
theorem n_Le_ : ∀ a, a < 2 → ∀ b, b < 2 → a ≠ b → (F_Le a).2.1 ≠ (F_Le b).2.1 := by decide +kernel
theorem tok_Le : ∀ k, k < 2 → parseFieldDescriptor (F_Le k).2.2.1 = some (ty_Le k) := by decide +kernel
abbrev vcl : List vw_C := [(R_M, F_M, 32), (R_T, F_T, 9), (R_Rp, F_Rp, 11), (R_Tr, F_Tr, 4), (R_Bl, F_Bl, 7), (R_Ro, F_Ro, 4), (R_Le, F_Le, 2)]
abbrev c_T_init : ByteArray := prog_1_method_1_code
def y_T_init : MethodName := ⟨"ThreeChainLedger", "<init>", "(III)V"⟩
abbrev c_T_submit : ByteArray := prog_1_method_2_code
def y_T_submit : MethodName := ⟨"ThreeChainLedger", "submit", "(IIII)I"⟩
abbrev c_T_lead : ByteArray := prog_1_method_3_code
def y_T_lead : MethodName := ⟨"ThreeChainLedger", "lead", "(I)I"⟩
abbrev c_T_tick : ByteArray := prog_1_method_4_code
def y_T_tick : MethodName := ⟨"ThreeChainLedger", "tick", "(I)I"⟩
abbrev c_T_deliver : ByteArray := prog_1_method_5_code
def y_T_deliver : MethodName := ⟨"ThreeChainLedger", "deliver", "(I)I"⟩
abbrev c_T_flow : ByteArray := prog_1_method_6_code
def y_T_flow : MethodName := ⟨"ThreeChainLedger", "flow", "(I)I"⟩
abbrev c_T_drop : ByteArray := prog_1_method_7_code
def y_T_drop : MethodName := ⟨"ThreeChainLedger", "drop", "(I)Z"⟩
abbrev c_T_forge : ByteArray := prog_1_method_8_code
def y_T_forge : MethodName := ⟨"ThreeChainLedger", "forge", "(III)I"⟩
abbrev c_T_offer : ByteArray := prog_1_method_9_code
def y_T_offer : MethodName := ⟨"ThreeChainLedger", "offer", "(II)Z"⟩
abbrev c_T_vote : ByteArray := prog_1_method_10_code
def y_T_vote : MethodName := ⟨"ThreeChainLedger", "vote", "(III)Z"⟩
abbrev c_T_claim : ByteArray := prog_1_method_11_code
def y_T_claim : MethodName := ⟨"ThreeChainLedger", "claim", "(IIII)Z"⟩
abbrev c_T_waiting : ByteArray := prog_1_method_12_code
def y_T_waiting : MethodName := ⟨"ThreeChainLedger", "waiting", "()I"⟩
abbrev c_T_message : ByteArray := prog_1_method_13_code
def y_T_message : MethodName := ⟨"ThreeChainLedger", "message", "(I)I"⟩
abbrev c_T_block : ByteArray := prog_1_method_14_code
def y_T_block : MethodName := ⟨"ThreeChainLedger", "block", "(I)I"⟩
abbrev c_T_payload : ByteArray := prog_1_method_15_code
def y_T_payload : MethodName := ⟨"ThreeChainLedger", "payload", "(I)I"⟩
abbrev c_T_votes : ByteArray := prog_1_method_16_code
def y_T_votes : MethodName := ⟨"ThreeChainLedger", "votes", "(I)I"⟩
abbrev c_T_state : ByteArray := prog_1_method_17_code
def y_T_state : MethodName := ⟨"ThreeChainLedger", "state", "(II)I"⟩
abbrev c_T_committed : ByteArray := prog_1_method_18_code
def y_T_committed : MethodName := ⟨"ThreeChainLedger", "committed", "(II)I"⟩
abbrev c_T_balance : ByteArray := prog_1_method_19_code
def y_T_balance : MethodName := ⟨"ThreeChainLedger", "balance", "(II)I"⟩
abbrev c_T_outcome : ByteArray := prog_1_method_20_code
def y_T_outcome : MethodName := ⟨"ThreeChainLedger", "outcome", "(II)I"⟩
abbrev c_T_lost : ByteArray := prog_1_method_21_code
def y_T_lost : MethodName := ⟨"ThreeChainLedger", "lost", "()I"⟩
abbrev c_T_hasMember : ByteArray := prog_1_method_22_code
def y_T_hasMember : MethodName := ⟨"ThreeChainLedger", "hasMember", "(II)Z"⟩
abbrev c_T_leastMembers : ByteArray := prog_1_method_23_code
def y_T_leastMembers : MethodName := ⟨"ThreeChainLedger", "leastMembers", "(II)I"⟩
abbrev c_T_isAccount : ByteArray := prog_1_method_24_code
def y_T_isAccount : MethodName := ⟨"ThreeChainLedger", "isAccount", "(I)Z"⟩
abbrev c_T_isReplica : ByteArray := prog_1_method_25_code
def y_T_isReplica : MethodName := ⟨"ThreeChainLedger", "isReplica", "(I)Z"⟩
abbrev c_T_isCorrupt : ByteArray := prog_1_method_26_code
def y_T_isCorrupt : MethodName := ⟨"ThreeChainLedger", "isCorrupt", "(I)Z"⟩
abbrev c_T_isCorrect : ByteArray := prog_1_method_27_code
def y_T_isCorrect : MethodName := ⟨"ThreeChainLedger", "isCorrect", "(I)Z"⟩
abbrev c_T_leaderOf : ByteArray := prog_1_method_28_code
def y_T_leaderOf : MethodName := ⟨"ThreeChainLedger", "leaderOf", "(I)I"⟩
abbrev c_T_mayPropose : ByteArray := prog_1_method_29_code
def y_T_mayPropose : MethodName := ⟨"ThreeChainLedger", "mayPropose", "(I)Z"⟩
abbrev c_T_maySend : ByteArray := prog_1_method_30_code
def y_T_maySend : MethodName := ⟨"ThreeChainLedger", "maySend", "(II)Z"⟩
abbrev c_T_hasCertificate : ByteArray := prog_1_method_31_code
def y_T_hasCertificate : MethodName := ⟨"ThreeChainLedger", "hasCertificate", "(I)Z"⟩
abbrev c_T_handOver : ByteArray := prog_1_method_32_code
def y_T_handOver : MethodName := ⟨"ThreeChainLedger", "handOver", "(I)Z"⟩
abbrev c_T_getProposal : ByteArray := prog_1_method_33_code
def y_T_getProposal : MethodName := ⟨"ThreeChainLedger", "getProposal", "(II)V"⟩
abbrev c_T_isSafe : ByteArray := prog_1_method_34_code
def y_T_isSafe : MethodName := ⟨"ThreeChainLedger", "isSafe", "(II)Z"⟩
abbrev c_T_getVote : ByteArray := prog_1_method_35_code
def y_T_getVote : MethodName := ⟨"ThreeChainLedger", "getVote", "(III)V"⟩
abbrev c_T_getNewView : ByteArray := prog_1_method_36_code
def y_T_getNewView : MethodName := ⟨"ThreeChainLedger", "getNewView", "(IIII)V"⟩
abbrev c_M_init : ByteArray := prog_8_method_1_code
def y_M_init : MethodName := ⟨"ThreeChainLedgerModel", "<init>", "(III)V"⟩
abbrev c_M_isReplica : ByteArray := prog_8_method_2_code
def y_M_isReplica : MethodName := ⟨"ThreeChainLedgerModel", "isReplica", "(I)Z"⟩
abbrev c_M_isCorrect : ByteArray := prog_8_method_3_code
def y_M_isCorrect : MethodName := ⟨"ThreeChainLedgerModel", "isCorrect", "(I)Z"⟩
abbrev c_M_isCorrupt : ByteArray := prog_8_method_4_code
def y_M_isCorrupt : MethodName := ⟨"ThreeChainLedgerModel", "isCorrupt", "(I)Z"⟩
abbrev c_M_isBlock : ByteArray := prog_8_method_5_code
def y_M_isBlock : MethodName := ⟨"ThreeChainLedgerModel", "isBlock", "(I)Z"⟩
abbrev c_M_leader : ByteArray := prog_8_method_6_code
def y_M_leader : MethodName := ⟨"ThreeChainLedgerModel", "leader", "(I)I"⟩
abbrev c_M_size : ByteArray := prog_8_method_7_code
def y_M_size : MethodName := ⟨"ThreeChainLedgerModel", "size", "(I)I"⟩
abbrev c_M_certified : ByteArray := prog_8_method_8_code
def y_M_certified : MethodName := ⟨"ThreeChainLedgerModel", "certified", "(I)Z"⟩
abbrev c_M_inChain : ByteArray := prog_8_method_9_code
def y_M_inChain : MethodName := ⟨"ThreeChainLedgerModel", "inChain", "(II)Z"⟩
abbrev c_M_high : ByteArray := prog_8_method_10_code
def y_M_high : MethodName := ⟨"ThreeChainLedgerModel", "high", "(I)I"⟩
abbrev c_M_lock : ByteArray := prog_8_method_11_code
def y_M_lock : MethodName := ⟨"ThreeChainLedgerModel", "lock", "(I)I"⟩
abbrev c_M_tip : ByteArray := prog_8_method_12_code
def y_M_tip : MethodName := ⟨"ThreeChainLedgerModel", "tip", "(I)I"⟩
abbrev c_M_push : ByteArray := prog_8_method_13_code
def y_M_push : MethodName := ⟨"ThreeChainLedgerModel", "push", "(I)I"⟩
abbrev c_M_send : ByteArray := prog_8_method_14_code
def y_M_send : MethodName := ⟨"ThreeChainLedgerModel", "send", "(IIIII)V"⟩
abbrev c_M_enter : ByteArray := prog_8_method_15_code
def y_M_enter : MethodName := ⟨"ThreeChainLedgerModel", "enter", "(II)V"⟩
abbrev c_M_see : ByteArray := prog_8_method_16_code
def y_M_see : MethodName := ⟨"ThreeChainLedgerModel", "see", "(II)V"⟩
abbrev c_M_getProposal : ByteArray := prog_8_method_17_code
def y_M_getProposal : MethodName := ⟨"ThreeChainLedgerModel", "getProposal", "(II)V"⟩
abbrev c_M_getVote : ByteArray := prog_8_method_18_code
def y_M_getVote : MethodName := ⟨"ThreeChainLedgerModel", "getVote", "(III)V"⟩
abbrev c_M_getNewView : ByteArray := prog_8_method_19_code
def y_M_getNewView : MethodName := ⟨"ThreeChainLedgerModel", "getNewView", "(IIII)V"⟩
abbrev c_M_takeOut : ByteArray := prog_8_method_20_code
def y_M_takeOut : MethodName := ⟨"ThreeChainLedgerModel", "takeOut", "(I)V"⟩
abbrev c_M_submit : ByteArray := prog_8_method_21_code
def y_M_submit : MethodName := ⟨"ThreeChainLedgerModel", "submit", "(IIII)I"⟩
abbrev c_M_newBlock : ByteArray := prog_8_method_22_code
def y_M_newBlock : MethodName := ⟨"ThreeChainLedgerModel", "newBlock", "(III)I"⟩
abbrev c_M_lead : ByteArray := prog_8_method_23_code
def y_M_lead : MethodName := ⟨"ThreeChainLedgerModel", "lead", "(I)I"⟩
abbrev c_M_tick : ByteArray := prog_8_method_24_code
def y_M_tick : MethodName := ⟨"ThreeChainLedgerModel", "tick", "(I)I"⟩
abbrev c_M_deliver : ByteArray := prog_8_method_25_code
def y_M_deliver : MethodName := ⟨"ThreeChainLedgerModel", "deliver", "(I)I"⟩
abbrev c_M_flow : ByteArray := prog_8_method_26_code
def y_M_flow : MethodName := ⟨"ThreeChainLedgerModel", "flow", "(I)I"⟩
abbrev c_M_drop : ByteArray := prog_8_method_27_code
def y_M_drop : MethodName := ⟨"ThreeChainLedgerModel", "drop", "(I)Z"⟩
abbrev c_M_forge : ByteArray := prog_8_method_28_code
def y_M_forge : MethodName := ⟨"ThreeChainLedgerModel", "forge", "(III)I"⟩
abbrev c_M_offer : ByteArray := prog_8_method_29_code
def y_M_offer : MethodName := ⟨"ThreeChainLedgerModel", "offer", "(II)Z"⟩
abbrev c_M_vote : ByteArray := prog_8_method_30_code
def y_M_vote : MethodName := ⟨"ThreeChainLedgerModel", "vote", "(III)Z"⟩
abbrev c_M_claim : ByteArray := prog_8_method_31_code
def y_M_claim : MethodName := ⟨"ThreeChainLedgerModel", "claim", "(IIII)Z"⟩
abbrev c_M_waiting : ByteArray := prog_8_method_32_code
def y_M_waiting : MethodName := ⟨"ThreeChainLedgerModel", "waiting", "()I"⟩
abbrev c_M_message : ByteArray := prog_8_method_33_code
def y_M_message : MethodName := ⟨"ThreeChainLedgerModel", "message", "(I)I"⟩
abbrev c_M_block : ByteArray := prog_8_method_34_code
def y_M_block : MethodName := ⟨"ThreeChainLedgerModel", "block", "(I)I"⟩
abbrev c_M_payload : ByteArray := prog_8_method_35_code
def y_M_payload : MethodName := ⟨"ThreeChainLedgerModel", "payload", "(I)I"⟩
abbrev c_M_votes : ByteArray := prog_8_method_36_code
def y_M_votes : MethodName := ⟨"ThreeChainLedgerModel", "votes", "(I)I"⟩
abbrev c_M_state : ByteArray := prog_8_method_37_code
def y_M_state : MethodName := ⟨"ThreeChainLedgerModel", "state", "(II)I"⟩
abbrev c_M_layOut : ByteArray := prog_8_method_38_code
def y_M_layOut : MethodName := ⟨"ThreeChainLedgerModel", "layOut", "(I)I"⟩
abbrev c_M_committed : ByteArray := prog_8_method_39_code
def y_M_committed : MethodName := ⟨"ThreeChainLedgerModel", "committed", "(II)I"⟩
abbrev c_M_goThrough : ByteArray := prog_8_method_40_code
def y_M_goThrough : MethodName := ⟨"ThreeChainLedgerModel", "goThrough", "(I)V"⟩
abbrev c_M_balance : ByteArray := prog_8_method_41_code
def y_M_balance : MethodName := ⟨"ThreeChainLedgerModel", "balance", "(II)I"⟩
abbrev c_M_outcome : ByteArray := prog_8_method_42_code
def y_M_outcome : MethodName := ⟨"ThreeChainLedgerModel", "outcome", "(II)I"⟩
abbrev c_M_lost : ByteArray := prog_8_method_43_code
def y_M_lost : MethodName := ⟨"ThreeChainLedgerModel", "lost", "()I"⟩
abbrev c_Bl_init : ByteArray := prog_2_method_1_code
def y_Bl_init : MethodName := ⟨"ThreeChainLedger$Blocks", "<init>", "()V"⟩
abbrev c_Bl_has : ByteArray := prog_2_method_2_code
def y_Bl_has : MethodName := ⟨"ThreeChainLedger$Blocks", "has", "(I)Z"⟩
abbrev c_Bl_isFull : ByteArray := prog_2_method_3_code
def y_Bl_isFull : MethodName := ⟨"ThreeChainLedger$Blocks", "isFull", "()Z"⟩
abbrev c_Bl_add : ByteArray := prog_2_method_4_code
def y_Bl_add : MethodName := ⟨"ThreeChainLedger$Blocks", "add", "(III)I"⟩
abbrev c_Bl_inChain : ByteArray := prog_2_method_5_code
def y_Bl_inChain : MethodName := ⟨"ThreeChainLedger$Blocks", "inChain", "(II)Z"⟩
abbrev c_Bl_later : ByteArray := prog_2_method_6_code
def y_Bl_later : MethodName := ⟨"ThreeChainLedger$Blocks", "later", "(II)I"⟩
abbrev c_Bl_followsAtOnce : ByteArray := prog_2_method_7_code
def y_Bl_followsAtOnce : MethodName := ⟨"ThreeChainLedger$Blocks", "followsAtOnce", "(I)Z"⟩
abbrev c_Bl_atPlace : ByteArray := prog_2_method_8_code
def y_Bl_atPlace : MethodName := ⟨"ThreeChainLedger$Blocks", "atPlace", "(II)I"⟩
abbrev c_Le_init : ByteArray := prog_3_method_1_code
def y_Le_init : MethodName := ⟨"ThreeChainLedger$Ledger", "<init>", "()V"⟩
abbrev c_Le_replay : ByteArray := prog_3_method_2_code
def y_Le_replay : MethodName := ⟨"ThreeChainLedger$Ledger", "replay", "(ILThreeChainLedger$Blocks;LThreeChainLedger$Transfers;)V"⟩
abbrev c_Le_settle : ByteArray := prog_3_method_3_code
def y_Le_settle : MethodName := ⟨"ThreeChainLedger$Ledger", "settle", "(ILThreeChainLedger$Transfers;)V"⟩
abbrev c_Le_pay : ByteArray := prog_3_method_4_code
def y_Le_pay : MethodName := ⟨"ThreeChainLedger$Ledger", "pay", "(III)Z"⟩
abbrev c_Rp_init : ByteArray := prog_4_method_1_code
def y_Rp_init : MethodName := ⟨"ThreeChainLedger$Replica", "<init>", "(I)V"⟩
abbrev c_Rp_enter : ByteArray := prog_4_method_2_code
def y_Rp_enter : MethodName := ⟨"ThreeChainLedger$Replica", "enter", "(I)V"⟩
abbrev c_Rp_see : ByteArray := prog_4_method_3_code
def y_Rp_see : MethodName := ⟨"ThreeChainLedger$Replica", "see", "(ILThreeChainLedger$Blocks;)V"⟩
abbrev c_Rp_push : ByteArray := prog_4_method_4_code
def y_Rp_push : MethodName := ⟨"ThreeChainLedger$Replica", "push", "(I)I"⟩
abbrev c_Rp_countFrom : ByteArray := prog_4_method_5_code
def y_Rp_countFrom : MethodName := ⟨"ThreeChainLedger$Replica", "countFrom", "(I)I"⟩
abbrev c_Ro_init : ByteArray := prog_5_method_1_code
def y_Ro_init : MethodName := ⟨"ThreeChainLedger$Row", "<init>", "()V"⟩
abbrev c_Ro_kind : ByteArray := prog_5_method_2_code
def y_Ro_kind : MethodName := ⟨"ThreeChainLedger$Row", "kind", "(I)I"⟩
abbrev c_Ro_receiver : ByteArray := prog_5_method_3_code
def y_Ro_receiver : MethodName := ⟨"ThreeChainLedger$Row", "receiver", "(I)I"⟩
abbrev c_Ro_sender : ByteArray := prog_5_method_4_code
def y_Ro_sender : MethodName := ⟨"ThreeChainLedger$Row", "sender", "(I)I"⟩
abbrev c_Ro_subject : ByteArray := prog_5_method_5_code
def y_Ro_subject : MethodName := ⟨"ThreeChainLedger$Row", "subject", "(I)I"⟩
abbrev c_Ro_hasPlace : ByteArray := prog_5_method_6_code
def y_Ro_hasPlace : MethodName := ⟨"ThreeChainLedger$Row", "hasPlace", "(I)Z"⟩
abbrev c_Ro_isFull : ByteArray := prog_5_method_7_code
def y_Ro_isFull : MethodName := ⟨"ThreeChainLedger$Row", "isFull", "()Z"⟩
abbrev c_Ro_send : ByteArray := prog_5_method_8_code
def y_Ro_send : MethodName := ⟨"ThreeChainLedger$Row", "send", "(IIIII)V"⟩
abbrev c_Ro_remove : ByteArray := prog_5_method_9_code
def y_Ro_remove : MethodName := ⟨"ThreeChainLedger$Row", "remove", "(I)V"⟩
abbrev c_Tr_init : ByteArray := prog_6_method_1_code
def y_Tr_init : MethodName := ⟨"ThreeChainLedger$Transfers", "<init>", "()V"⟩
abbrev c_Tr_has : ByteArray := prog_6_method_2_code
def y_Tr_has : MethodName := ⟨"ThreeChainLedger$Transfers", "has", "(I)Z"⟩
abbrev c_Tr_isFull : ByteArray := prog_6_method_3_code
def y_Tr_isFull : MethodName := ⟨"ThreeChainLedger$Transfers", "isFull", "()Z"⟩
abbrev c_Tr_add : ByteArray := prog_6_method_4_code
def y_Tr_add : MethodName := ⟨"ThreeChainLedger$Transfers", "add", "(III)I"⟩
abbrev c_L_cell : ByteArray := method_2_code
def y_L_cell : MethodName := ⟨"ThreeChainLedgerLaw", "cell", "([II)I"⟩
abbrev c_L_law : ByteArray := code
def y_L_law : MethodName := ⟨"ThreeChainLedgerLaw", "law", "([I)Z"⟩
abbrev c_JI_bitCount : ByteArray := prog_9_method_49_code
def y_JI_bitCount : MethodName := ⟨"java/lang/Integer", "bitCount", "(I)I"⟩
abbrev c_JM_floorMod : ByteArray := prog_10_method_50_code
def y_JM_floorMod : MethodName := ⟨"java/lang/Math", "floorMod", "(II)I"⟩
abbrev c_JM_max : ByteArray := prog_10_method_65_code
def y_JM_max : MethodName := ⟨"java/lang/Math", "max", "(II)I"⟩
abbrev c_JM_min : ByteArray := prog_10_method_69_code
def y_JM_min : MethodName := ⟨"java/lang/Math", "min", "(II)I"⟩
def Mst : List Cond := lw_tbl.filter goodWord
theorem mst {w : Cond} (h : w ∈ lw_tbl) (g : goodWord w = true) : w ∈ Mst := List.mem_filter.mpr ⟨h, g⟩
theorem mst_good : ∀ w ∈ Mst, (w.onTables && w.keeps) = true ∨ ∃ ty, w = .arrayClass ty := fun w h => good_of_word (List.mem_filter.mp h).2
theorem mst_of (ws : List Cond) (h : ws.all (fun w => decide (w ∈ lw_tbl) && goodWord w) = true) : ∀ w ∈ ws, w ∈ Mst := by
  intro w hw
  have h1 := List.all_eq_true.mp h w hw
  simp only [Bool.and_eq_true, decide_eq_true_eq] at h1
  exact mst h1.1 h1.2
theorem in_M : ∀ w ∈ u_ws R_M F_M 32, w ∈ Mst := mst_of _ (by decide +kernel)
theorem in_T : ∀ w ∈ u_ws R_T F_T 9, w ∈ Mst := mst_of _ (by decide +kernel)
theorem in_Rp : ∀ w ∈ u_ws R_Rp F_Rp 11, w ∈ Mst := mst_of _ (by decide +kernel)
theorem in_Tr : ∀ w ∈ u_ws R_Tr F_Tr 4, w ∈ Mst := mst_of _ (by decide +kernel)
theorem in_Bl : ∀ w ∈ u_ws R_Bl F_Bl 7, w ∈ Mst := mst_of _ (by decide +kernel)
theorem in_Ro : ∀ w ∈ u_ws R_Ro F_Ro 4, w ∈ Mst := mst_of _ (by decide +kernel)
theorem in_Le : ∀ w ∈ u_ws R_Le F_Le 2, w ∈ Mst := mst_of _ (by decide +kernel)
end
section
theorem w_0 : (Cond.initialized "ThreeChainLedgerLaw") ∈ Mst := mst (List.mem_of_getElem? (i := 36) (by decide +kernel)) (by decide +kernel)
theorem w_1 : (Cond.initialized "ThreeChainLedger") ∈ Mst := mst (List.mem_of_getElem? (i := 37) (by decide +kernel)) (by decide +kernel)
theorem w_2 : (Cond.initialized "java/lang/Math") ∈ Mst := mst (List.mem_of_getElem? (i := 38) (by decide +kernel)) (by decide +kernel)
theorem w_3 : (Cond.initialized "ThreeChainLedger$Replica") ∈ Mst := mst (List.mem_of_getElem? (i := 39) (by decide +kernel)) (by decide +kernel)
theorem w_4 : (Cond.initialized "ThreeChainLedger$Transfers") ∈ Mst := mst (List.mem_of_getElem? (i := 40) (by decide +kernel)) (by decide +kernel)
theorem w_5 : (Cond.initialized "ThreeChainLedger$Blocks") ∈ Mst := mst (List.mem_of_getElem? (i := 41) (by decide +kernel)) (by decide +kernel)
theorem w_6 : (Cond.initialized "ThreeChainLedger$Row") ∈ Mst := mst (List.mem_of_getElem? (i := 42) (by decide +kernel)) (by decide +kernel)
theorem w_7 : (Cond.initialized "ThreeChainLedger$Ledger") ∈ Mst := mst (List.mem_of_getElem? (i := 43) (by decide +kernel)) (by decide +kernel)
theorem w_8 : (Cond.initialized "ThreeChainLedgerModel") ∈ Mst := mst (List.mem_of_getElem? (i := 44) (by decide +kernel)) (by decide +kernel)
theorem w_9 : (Cond.initialized "java/lang/System") ∈ Mst := mst (List.mem_of_getElem? (i := 45) (by decide +kernel)) (by decide +kernel)
theorem w_10 : (Cond.initialized "java/lang/Integer") ∈ Mst := mst (List.mem_of_getElem? (i := 46) (by decide +kernel)) (by decide +kernel)
theorem w_11 : (Cond.classLink "ThreeChainLedgerLaw" (7 : Nat) "ThreeChainLedger") ∈ Mst := mst (List.mem_of_getElem? (i := 47) (by decide +kernel)) (by decide +kernel)
theorem w_12 : (Cond.instantiable "ThreeChainLedger" (9 : Nat)) ∈ Mst := mst (List.mem_of_getElem? (i := 48) (by decide +kernel)) (by decide +kernel)
theorem w_13 : (Cond.methodLink "ThreeChainLedgerLaw" (15 : Nat) y_T_init) ∈ Mst := mst (List.mem_of_getElem? (i := 49) (by decide +kernel)) (by decide +kernel)
theorem w_14 : (Cond.instanceMethod y_T_init) ∈ Mst := mst (List.mem_of_getElem? (i := 50) (by decide +kernel)) (by decide +kernel)
theorem w_15 : (Cond.code y_T_init c_T_init (6 : Nat) (Option.none : Option FieldType)) ∈ Mst := mst (List.mem_of_getElem? (i := 51) (by decide +kernel)) (by decide +kernel)
theorem w_16 : (Cond.methodLink "ThreeChainLedger" (1 : Nat) (⟨"java/lang/Object", "<init>", "()V"⟩ : MethodName)) ∈ Mst := mst (List.mem_of_getElem? (i := 52) (by decide +kernel)) (by decide +kernel)
theorem w_17 : (Cond.instanceMethod (⟨"java/lang/Object", "<init>", "()V"⟩ : MethodName)) ∈ Mst := mst (List.mem_of_getElem? (i := 53) (by decide +kernel)) (by decide +kernel)
theorem w_18 : (Cond.code (⟨"java/lang/Object", "<init>", "()V"⟩ : MethodName) object_method_1_code (1 : Nat) (Option.none : Option FieldType)) ∈ Mst := mst (List.mem_of_getElem? (i := 54) (by decide +kernel)) (by decide +kernel)
theorem w_19 : (Cond.methodLink "ThreeChainLedger" (16 : Nat) y_JM_max) ∈ Mst := mst (List.mem_of_getElem? (i := 55) (by decide +kernel)) (by decide +kernel)
theorem w_20 : (Cond.static y_JM_max) ∈ Mst := mst (List.mem_of_getElem? (i := 56) (by decide +kernel)) (by decide +kernel)
theorem w_21 : (Cond.code y_JM_max c_JM_max (2 : Nat) (Option.some FieldType.int)) ∈ Mst := mst (List.mem_of_getElem? (i := 57) (by decide +kernel)) (by decide +kernel)
theorem w_22 : (Cond.methodLink "ThreeChainLedger" (22 : Nat) y_JM_min) ∈ Mst := mst (List.mem_of_getElem? (i := 58) (by decide +kernel)) (by decide +kernel)
theorem w_23 : (Cond.static y_JM_min) ∈ Mst := mst (List.mem_of_getElem? (i := 59) (by decide +kernel)) (by decide +kernel)
theorem w_24 : (Cond.code y_JM_min c_JM_min (2 : Nat) (Option.some FieldType.int)) ∈ Mst := mst (List.mem_of_getElem? (i := 60) (by decide +kernel)) (by decide +kernel)
theorem w_25 : (Cond.methodLink "ThreeChainLedger" (28 : Nat) y_T_leastMembers) ∈ Mst := mst (List.mem_of_getElem? (i := 61) (by decide +kernel)) (by decide +kernel)
theorem w_26 : (Cond.static y_T_leastMembers) ∈ Mst := mst (List.mem_of_getElem? (i := 62) (by decide +kernel)) (by decide +kernel)
theorem w_27 : (Cond.code y_T_leastMembers c_T_leastMembers (4 : Nat) (Option.some FieldType.int)) ∈ Mst := mst (List.mem_of_getElem? (i := 63) (by decide +kernel)) (by decide +kernel)
theorem w_28 : (Cond.classLink "ThreeChainLedger" (34 : Nat) "ThreeChainLedger$Replica") ∈ Mst := mst (List.mem_of_getElem? (i := 64) (by decide +kernel)) (by decide +kernel)
theorem w_30 : (Cond.instantiable "ThreeChainLedger$Replica" (11 : Nat)) ∈ Mst := mst (List.mem_of_getElem? (i := 66) (by decide +kernel)) (by decide +kernel)
theorem w_31 : (Cond.methodLink "ThreeChainLedger" (40 : Nat) y_Rp_init) ∈ Mst := mst (List.mem_of_getElem? (i := 67) (by decide +kernel)) (by decide +kernel)
theorem w_32 : (Cond.instanceMethod y_Rp_init) ∈ Mst := mst (List.mem_of_getElem? (i := 68) (by decide +kernel)) (by decide +kernel)
theorem w_33 : (Cond.code y_Rp_init c_Rp_init (2 : Nat) (Option.none : Option FieldType)) ∈ Mst := mst (List.mem_of_getElem? (i := 69) (by decide +kernel)) (by decide +kernel)
theorem w_34 : (Cond.methodLink "ThreeChainLedger$Replica" (3 : Nat) (⟨"java/lang/Object", "<init>", "()V"⟩ : MethodName)) ∈ Mst := mst (List.mem_of_getElem? (i := 70) (by decide +kernel)) (by decide +kernel)
theorem w_35 : (Cond.fieldLink "ThreeChainLedger$Replica" (9 : Nat) "ThreeChainLedger$Replica" "view" "I") ∈ Mst := mst (List.mem_of_getElem? (i := 71) (by decide +kernel)) (by decide +kernel)
theorem w_36 : (Cond.fieldLink "ThreeChainLedger" (104 : Nat) "ThreeChainLedger$Replica" "view" "I") ∈ Mst := mst (List.mem_of_getElem? (i := 72) (by decide +kernel)) (by decide +kernel)
theorem w_37 : (Cond.fieldLink "ThreeChainLedger$Replica" (25 : Nat) "ThreeChainLedger$Replica" "timer" "I") ∈ Mst := mst (List.mem_of_getElem? (i := 73) (by decide +kernel)) (by decide +kernel)
theorem w_38 : (Cond.fieldLink "ThreeChainLedger" (115 : Nat) "ThreeChainLedger$Replica" "timer" "I") ∈ Mst := mst (List.mem_of_getElem? (i := 74) (by decide +kernel)) (by decide +kernel)
theorem w_39 : (Cond.fieldLink "ThreeChainLedger$Replica" (15 : Nat) "ThreeChainLedger$Replica" "patience" "I") ∈ Mst := mst (List.mem_of_getElem? (i := 75) (by decide +kernel)) (by decide +kernel)
theorem w_40 : (Cond.fieldLink "ThreeChainLedger" (118 : Nat) "ThreeChainLedger$Replica" "patience" "I") ∈ Mst := mst (List.mem_of_getElem? (i := 76) (by decide +kernel)) (by decide +kernel)
theorem w_41 : (Cond.fieldLink "ThreeChainLedger" (174 : Nat) "ThreeChainLedger$Replica" "voted" "I") ∈ Mst := mst (List.mem_of_getElem? (i := 77) (by decide +kernel)) (by decide +kernel)
theorem w_42 : (Cond.fieldLink "ThreeChainLedger" (108 : Nat) "ThreeChainLedger$Replica" "proposed" "I") ∈ Mst := mst (List.mem_of_getElem? (i := 78) (by decide +kernel)) (by decide +kernel)
theorem w_43 : (Cond.fieldLink "ThreeChainLedger" (87 : Nat) "ThreeChainLedger$Replica" "held" "I") ∈ Mst := mst (List.mem_of_getElem? (i := 79) (by decide +kernel)) (by decide +kernel)
theorem w_44 : (Cond.fieldLink "ThreeChainLedger$Replica" (33 : Nat) "ThreeChainLedger$Replica" "high" "I") ∈ Mst := mst (List.mem_of_getElem? (i := 80) (by decide +kernel)) (by decide +kernel)
theorem w_45 : (Cond.fieldLink "ThreeChainLedger" (101 : Nat) "ThreeChainLedger$Replica" "high" "I") ∈ Mst := mst (List.mem_of_getElem? (i := 81) (by decide +kernel)) (by decide +kernel)
theorem w_46 : (Cond.fieldLink "ThreeChainLedger$Replica" (40 : Nat) "ThreeChainLedger$Replica" "lock" "I") ∈ Mst := mst (List.mem_of_getElem? (i := 82) (by decide +kernel)) (by decide +kernel)
theorem w_47 : (Cond.fieldLink "ThreeChainLedger" (177 : Nat) "ThreeChainLedger$Replica" "lock" "I") ∈ Mst := mst (List.mem_of_getElem? (i := 83) (by decide +kernel)) (by decide +kernel)
theorem w_48 : (Cond.fieldLink "ThreeChainLedger$Replica" (47 : Nat) "ThreeChainLedger$Replica" "tip" "I") ∈ Mst := mst (List.mem_of_getElem? (i := 84) (by decide +kernel)) (by decide +kernel)
theorem w_49 : (Cond.fieldLink "ThreeChainLedger" (180 : Nat) "ThreeChainLedger$Replica" "tip" "I") ∈ Mst := mst (List.mem_of_getElem? (i := 85) (by decide +kernel)) (by decide +kernel)
theorem w_50 : (Cond.fieldLink "ThreeChainLedger$Replica" (18 : Nat) "ThreeChainLedger$Replica" "votesGot" "[I") ∈ Mst := mst (List.mem_of_getElem? (i := 86) (by decide +kernel)) (by decide +kernel)
theorem w_51 : (Cond.fieldLink "ThreeChainLedger" (246 : Nat) "ThreeChainLedger$Replica" "votesGot" "[I") ∈ Mst := mst (List.mem_of_getElem? (i := 87) (by decide +kernel)) (by decide +kernel)
theorem w_52 : (Cond.fieldLink "ThreeChainLedger$Replica" (22 : Nat) "ThreeChainLedger$Replica" "newViews" "[I") ∈ Mst := mst (List.mem_of_getElem? (i := 88) (by decide +kernel)) (by decide +kernel)
theorem w_53 : (Cond.fieldLink "ThreeChainLedger" (249 : Nat) "ThreeChainLedger$Replica" "newViews" "[I") ∈ Mst := mst (List.mem_of_getElem? (i := 89) (by decide +kernel)) (by decide +kernel)
theorem w_77 : (Cond.arrayClass FieldType.int) ∈ Mst := mst (List.mem_of_getElem? (i := 113) (by decide +kernel)) (by decide +kernel)
theorem w_78 : (Cond.classLink "ThreeChainLedger" (43 : Nat) "ThreeChainLedger$Transfers") ∈ Mst := mst (List.mem_of_getElem? (i := 114) (by decide +kernel)) (by decide +kernel)
theorem w_79 : (Cond.instantiable "ThreeChainLedger$Transfers" (4 : Nat)) ∈ Mst := mst (List.mem_of_getElem? (i := 115) (by decide +kernel)) (by decide +kernel)
theorem w_81 : (Cond.instanceMethod y_Tr_init) ∈ Mst := mst (List.mem_of_getElem? (i := 117) (by decide +kernel)) (by decide +kernel)
theorem w_82 : (Cond.code y_Tr_init c_Tr_init (1 : Nat) (Option.none : Option FieldType)) ∈ Mst := mst (List.mem_of_getElem? (i := 118) (by decide +kernel)) (by decide +kernel)
theorem w_83 : (Cond.methodLink "ThreeChainLedger$Transfers" (3 : Nat) (⟨"java/lang/Object", "<init>", "()V"⟩ : MethodName)) ∈ Mst := mst (List.mem_of_getElem? (i := 119) (by decide +kernel)) (by decide +kernel)
theorem w_84 : (Cond.fieldLink "ThreeChainLedger$Transfers" (9 : Nat) "ThreeChainLedger$Transfers" "payers" "[I") ∈ Mst := mst (List.mem_of_getElem? (i := 120) (by decide +kernel)) (by decide +kernel)
theorem w_85 : (Cond.fieldLink "ThreeChainLedger$Ledger" (40 : Nat) "ThreeChainLedger$Transfers" "payers" "[I") ∈ Mst := mst (List.mem_of_getElem? (i := 121) (by decide +kernel)) (by decide +kernel)
theorem w_86 : (Cond.fieldLink "ThreeChainLedger$Transfers" (15 : Nat) "ThreeChainLedger$Transfers" "payees" "[I") ∈ Mst := mst (List.mem_of_getElem? (i := 122) (by decide +kernel)) (by decide +kernel)
theorem w_87 : (Cond.fieldLink "ThreeChainLedger$Ledger" (43 : Nat) "ThreeChainLedger$Transfers" "payees" "[I") ∈ Mst := mst (List.mem_of_getElem? (i := 123) (by decide +kernel)) (by decide +kernel)
theorem w_88 : (Cond.fieldLink "ThreeChainLedger$Transfers" (18 : Nat) "ThreeChainLedger$Transfers" "amounts" "[I") ∈ Mst := mst (List.mem_of_getElem? (i := 124) (by decide +kernel)) (by decide +kernel)
theorem w_89 : (Cond.fieldLink "ThreeChainLedger$Ledger" (46 : Nat) "ThreeChainLedger$Transfers" "amounts" "[I") ∈ Mst := mst (List.mem_of_getElem? (i := 125) (by decide +kernel)) (by decide +kernel)
theorem w_90 : (Cond.fieldLink "ThreeChainLedger$Transfers" (21 : Nat) "ThreeChainLedger$Transfers" "count" "I") ∈ Mst := mst (List.mem_of_getElem? (i := 126) (by decide +kernel)) (by decide +kernel)
theorem w_91 : (Cond.fieldLink "ThreeChainLedger$Ledger" (31 : Nat) "ThreeChainLedger$Transfers" "count" "I") ∈ Mst := mst (List.mem_of_getElem? (i := 127) (by decide +kernel)) (by decide +kernel)
theorem w_92 : (Cond.fieldLink "ThreeChainLedger" (143 : Nat) "ThreeChainLedger$Transfers" "count" "I") ∈ Mst := mst (List.mem_of_getElem? (i := 128) (by decide +kernel)) (by decide +kernel)
theorem w_102 : (Cond.classLink "ThreeChainLedger" (50 : Nat) "ThreeChainLedger$Blocks") ∈ Mst := mst (List.mem_of_getElem? (i := 138) (by decide +kernel)) (by decide +kernel)
theorem w_103 : (Cond.instantiable "ThreeChainLedger$Blocks" (7 : Nat)) ∈ Mst := mst (List.mem_of_getElem? (i := 139) (by decide +kernel)) (by decide +kernel)
theorem w_104 : (Cond.methodLink "ThreeChainLedger" (52 : Nat) y_Bl_init) ∈ Mst := mst (List.mem_of_getElem? (i := 140) (by decide +kernel)) (by decide +kernel)
theorem w_105 : (Cond.instanceMethod y_Bl_init) ∈ Mst := mst (List.mem_of_getElem? (i := 141) (by decide +kernel)) (by decide +kernel)
theorem w_106 : (Cond.code y_Bl_init c_Bl_init (1 : Nat) (Option.none : Option FieldType)) ∈ Mst := mst (List.mem_of_getElem? (i := 142) (by decide +kernel)) (by decide +kernel)
theorem w_107 : (Cond.methodLink "ThreeChainLedger$Blocks" (3 : Nat) (⟨"java/lang/Object", "<init>", "()V"⟩ : MethodName)) ∈ Mst := mst (List.mem_of_getElem? (i := 143) (by decide +kernel)) (by decide +kernel)
theorem w_108 : (Cond.fieldLink "ThreeChainLedger$Blocks" (9 : Nat) "ThreeChainLedger$Blocks" "views" "[I") ∈ Mst := mst (List.mem_of_getElem? (i := 144) (by decide +kernel)) (by decide +kernel)
theorem w_109 : (Cond.fieldLink "ThreeChainLedger$Replica" (50 : Nat) "ThreeChainLedger$Blocks" "views" "[I") ∈ Mst := mst (List.mem_of_getElem? (i := 145) (by decide +kernel)) (by decide +kernel)
theorem w_110 : (Cond.fieldLink "ThreeChainLedger" (140 : Nat) "ThreeChainLedger$Blocks" "views" "[I") ∈ Mst := mst (List.mem_of_getElem? (i := 146) (by decide +kernel)) (by decide +kernel)
theorem w_111 : (Cond.fieldLink "ThreeChainLedger$Blocks" (15 : Nat) "ThreeChainLedger$Blocks" "parents" "[I") ∈ Mst := mst (List.mem_of_getElem? (i := 147) (by decide +kernel)) (by decide +kernel)
theorem w_112 : (Cond.fieldLink "ThreeChainLedger$Replica" (28 : Nat) "ThreeChainLedger$Blocks" "parents" "[I") ∈ Mst := mst (List.mem_of_getElem? (i := 148) (by decide +kernel)) (by decide +kernel)
theorem w_113 : (Cond.fieldLink "ThreeChainLedger" (165 : Nat) "ThreeChainLedger$Blocks" "parents" "[I") ∈ Mst := mst (List.mem_of_getElem? (i := 149) (by decide +kernel)) (by decide +kernel)
theorem w_114 : (Cond.fieldLink "ThreeChainLedger$Blocks" (18 : Nat) "ThreeChainLedger$Blocks" "payloads" "[I") ∈ Mst := mst (List.mem_of_getElem? (i := 150) (by decide +kernel)) (by decide +kernel)
theorem w_115 : (Cond.fieldLink "ThreeChainLedger$Ledger" (24 : Nat) "ThreeChainLedger$Blocks" "payloads" "[I") ∈ Mst := mst (List.mem_of_getElem? (i := 151) (by decide +kernel)) (by decide +kernel)
theorem w_116 : (Cond.fieldLink "ThreeChainLedger" (168 : Nat) "ThreeChainLedger$Blocks" "payloads" "[I") ∈ Mst := mst (List.mem_of_getElem? (i := 152) (by decide +kernel)) (by decide +kernel)
theorem w_117 : (Cond.fieldLink "ThreeChainLedger$Blocks" (21 : Nat) "ThreeChainLedger$Blocks" "voters" "[I") ∈ Mst := mst (List.mem_of_getElem? (i := 153) (by decide +kernel)) (by decide +kernel)
theorem w_118 : (Cond.fieldLink "ThreeChainLedger" (171 : Nat) "ThreeChainLedger$Blocks" "voters" "[I") ∈ Mst := mst (List.mem_of_getElem? (i := 154) (by decide +kernel)) (by decide +kernel)
theorem w_119 : (Cond.fieldLink "ThreeChainLedger$Blocks" (24 : Nat) "ThreeChainLedger$Blocks" "chainTransfers" "[I") ∈ Mst := mst (List.mem_of_getElem? (i := 155) (by decide +kernel)) (by decide +kernel)
theorem w_120 : (Cond.fieldLink "ThreeChainLedger" (97 : Nat) "ThreeChainLedger$Blocks" "chainTransfers" "[I") ∈ Mst := mst (List.mem_of_getElem? (i := 156) (by decide +kernel)) (by decide +kernel)
theorem w_121 : (Cond.fieldLink "ThreeChainLedger$Blocks" (27 : Nat) "ThreeChainLedger$Blocks" "chains" "[J") ∈ Mst := mst (List.mem_of_getElem? (i := 157) (by decide +kernel)) (by decide +kernel)
theorem w_122 : (Cond.fieldLink "ThreeChainLedger$Blocks" (31 : Nat) "ThreeChainLedger$Blocks" "count" "I") ∈ Mst := mst (List.mem_of_getElem? (i := 158) (by decide +kernel)) (by decide +kernel)
theorem w_138 : (Cond.arrayClass FieldType.long) ∈ Mst := mst (List.mem_of_getElem? (i := 174) (by decide +kernel)) (by decide +kernel)
theorem w_139 : (Cond.classLink "ThreeChainLedger" (57 : Nat) "ThreeChainLedger$Row") ∈ Mst := mst (List.mem_of_getElem? (i := 175) (by decide +kernel)) (by decide +kernel)
theorem w_140 : (Cond.instantiable "ThreeChainLedger$Row" (4 : Nat)) ∈ Mst := mst (List.mem_of_getElem? (i := 176) (by decide +kernel)) (by decide +kernel)
theorem w_142 : (Cond.instanceMethod y_Ro_init) ∈ Mst := mst (List.mem_of_getElem? (i := 178) (by decide +kernel)) (by decide +kernel)
theorem w_143 : (Cond.code y_Ro_init c_Ro_init (1 : Nat) (Option.none : Option FieldType)) ∈ Mst := mst (List.mem_of_getElem? (i := 179) (by decide +kernel)) (by decide +kernel)
theorem w_144 : (Cond.methodLink "ThreeChainLedger$Row" (3 : Nat) (⟨"java/lang/Object", "<init>", "()V"⟩ : MethodName)) ∈ Mst := mst (List.mem_of_getElem? (i := 180) (by decide +kernel)) (by decide +kernel)
theorem w_145 : (Cond.fieldLink "ThreeChainLedger$Row" (9 : Nat) "ThreeChainLedger$Row" "codes" "[I") ∈ Mst := mst (List.mem_of_getElem? (i := 181) (by decide +kernel)) (by decide +kernel)
theorem w_146 : (Cond.fieldLink "ThreeChainLedger" (159 : Nat) "ThreeChainLedger$Row" "codes" "[I") ∈ Mst := mst (List.mem_of_getElem? (i := 182) (by decide +kernel)) (by decide +kernel)
theorem w_147 : (Cond.fieldLink "ThreeChainLedger$Row" (15 : Nat) "ThreeChainLedger$Row" "views" "[I") ∈ Mst := mst (List.mem_of_getElem? (i := 183) (by decide +kernel)) (by decide +kernel)
theorem w_148 : (Cond.fieldLink "ThreeChainLedger" (211 : Nat) "ThreeChainLedger$Row" "views" "[I") ∈ Mst := mst (List.mem_of_getElem? (i := 184) (by decide +kernel)) (by decide +kernel)
theorem w_149 : (Cond.fieldLink "ThreeChainLedger$Row" (18 : Nat) "ThreeChainLedger$Row" "size" "I") ∈ Mst := mst (List.mem_of_getElem? (i := 185) (by decide +kernel)) (by decide +kernel)
theorem w_150 : (Cond.fieldLink "ThreeChainLedger" (156 : Nat) "ThreeChainLedger$Row" "size" "I") ∈ Mst := mst (List.mem_of_getElem? (i := 186) (by decide +kernel)) (by decide +kernel)
theorem w_151 : (Cond.fieldLink "ThreeChainLedger$Row" (26 : Nat) "ThreeChainLedger$Row" "lostCount" "I") ∈ Mst := mst (List.mem_of_getElem? (i := 187) (by decide +kernel)) (by decide +kernel)
theorem w_152 : (Cond.fieldLink "ThreeChainLedger" (200 : Nat) "ThreeChainLedger$Row" "lostCount" "I") ∈ Mst := mst (List.mem_of_getElem? (i := 188) (by decide +kernel)) (by decide +kernel)
theorem w_162 : (Cond.classLink "ThreeChainLedger" (64 : Nat) "ThreeChainLedger$Ledger") ∈ Mst := mst (List.mem_of_getElem? (i := 198) (by decide +kernel)) (by decide +kernel)
theorem w_163 : (Cond.instantiable "ThreeChainLedger$Ledger" (2 : Nat)) ∈ Mst := mst (List.mem_of_getElem? (i := 199) (by decide +kernel)) (by decide +kernel)
theorem w_165 : (Cond.instanceMethod y_Le_init) ∈ Mst := mst (List.mem_of_getElem? (i := 201) (by decide +kernel)) (by decide +kernel)
theorem w_166 : (Cond.code y_Le_init c_Le_init (1 : Nat) (Option.none : Option FieldType)) ∈ Mst := mst (List.mem_of_getElem? (i := 202) (by decide +kernel)) (by decide +kernel)
theorem w_167 : (Cond.methodLink "ThreeChainLedger$Ledger" (3 : Nat) (⟨"java/lang/Object", "<init>", "()V"⟩ : MethodName)) ∈ Mst := mst (List.mem_of_getElem? (i := 203) (by decide +kernel)) (by decide +kernel)
theorem w_168 : (Cond.fieldLink "ThreeChainLedger$Ledger" (9 : Nat) "ThreeChainLedger$Ledger" "balances" "[I") ∈ Mst := mst (List.mem_of_getElem? (i := 204) (by decide +kernel)) (by decide +kernel)
theorem w_169 : (Cond.fieldLink "ThreeChainLedger" (193 : Nat) "ThreeChainLedger$Ledger" "balances" "[I") ∈ Mst := mst (List.mem_of_getElem? (i := 205) (by decide +kernel)) (by decide +kernel)
theorem w_170 : (Cond.fieldLink "ThreeChainLedger$Ledger" (15 : Nat) "ThreeChainLedger$Ledger" "outcomes" "[I") ∈ Mst := mst (List.mem_of_getElem? (i := 206) (by decide +kernel)) (by decide +kernel)
theorem w_171 : (Cond.fieldLink "ThreeChainLedger" (197 : Nat) "ThreeChainLedger$Ledger" "outcomes" "[I") ∈ Mst := mst (List.mem_of_getElem? (i := 207) (by decide +kernel)) (by decide +kernel)
theorem w_177 : (Cond.fieldLink "ThreeChainLedger" (7 : Nat) "ThreeChainLedger" "replicaCount" "I") ∈ Mst := mst (List.mem_of_getElem? (i := 213) (by decide +kernel)) (by decide +kernel)
theorem w_178 : (Cond.fieldLink "ThreeChainLedger" (13 : Nat) "ThreeChainLedger" "quorum" "I") ∈ Mst := mst (List.mem_of_getElem? (i := 214) (by decide +kernel)) (by decide +kernel)
theorem w_179 : (Cond.fieldLink "ThreeChainLedger" (25 : Nat) "ThreeChainLedger" "viewsInARow" "I") ∈ Mst := mst (List.mem_of_getElem? (i := 215) (by decide +kernel)) (by decide +kernel)
theorem w_180 : (Cond.fieldLink "ThreeChainLedger" (31 : Nat) "ThreeChainLedger" "corruptSet" "I") ∈ Mst := mst (List.mem_of_getElem? (i := 216) (by decide +kernel)) (by decide +kernel)
theorem w_181 : (Cond.fieldLink "ThreeChainLedger" (36 : Nat) "ThreeChainLedger" "replicas" "[LThreeChainLedger$Replica;") ∈ Mst := mst (List.mem_of_getElem? (i := 217) (by decide +kernel)) (by decide +kernel)
theorem w_182 : (Cond.fieldLink "ThreeChainLedger" (46 : Nat) "ThreeChainLedger" "transfers" "LThreeChainLedger$Transfers;") ∈ Mst := mst (List.mem_of_getElem? (i := 218) (by decide +kernel)) (by decide +kernel)
theorem w_183 : (Cond.fieldLink "ThreeChainLedger" (53 : Nat) "ThreeChainLedger" "blocks" "LThreeChainLedger$Blocks;") ∈ Mst := mst (List.mem_of_getElem? (i := 219) (by decide +kernel)) (by decide +kernel)
theorem w_184 : (Cond.fieldLink "ThreeChainLedger" (60 : Nat) "ThreeChainLedger" "row" "LThreeChainLedger$Row;") ∈ Mst := mst (List.mem_of_getElem? (i := 220) (by decide +kernel)) (by decide +kernel)
theorem w_185 : (Cond.fieldLink "ThreeChainLedger" (67 : Nat) "ThreeChainLedger" "ledger" "LThreeChainLedger$Ledger;") ∈ Mst := mst (List.mem_of_getElem? (i := 221) (by decide +kernel)) (by decide +kernel)
theorem w_205 : (Cond.methodLink "ThreeChainLedgerLaw" (21 : Nat) y_T_submit) ∈ Mst := mst (List.mem_of_getElem? (i := 241) (by decide +kernel)) (by decide +kernel)
theorem w_206 : (Cond.instanceMethod y_T_submit) ∈ Mst := mst (List.mem_of_getElem? (i := 242) (by decide +kernel)) (by decide +kernel)
theorem w_207 : (Cond.selects "ThreeChainLedger" y_T_submit y_T_submit) ∈ Mst := mst (List.mem_of_getElem? (i := 243) (by decide +kernel)) (by decide +kernel)
theorem w_208 : (Cond.code y_T_submit c_T_submit (10 : Nat) (Option.some FieldType.int)) ∈ Mst := mst (List.mem_of_getElem? (i := 244) (by decide +kernel)) (by decide +kernel)
theorem w_209 : (Cond.methodLink "ThreeChainLedger" (71 : Nat) y_T_isAccount) ∈ Mst := mst (List.mem_of_getElem? (i := 245) (by decide +kernel)) (by decide +kernel)
theorem w_210 : (Cond.static y_T_isAccount) ∈ Mst := mst (List.mem_of_getElem? (i := 246) (by decide +kernel)) (by decide +kernel)
theorem w_211 : (Cond.code y_T_isAccount c_T_isAccount (1 : Nat) (Option.some FieldType.boolean)) ∈ Mst := mst (List.mem_of_getElem? (i := 247) (by decide +kernel)) (by decide +kernel)
theorem w_212 : (Cond.methodLink "ThreeChainLedger" (75 : Nat) y_Tr_isFull) ∈ Mst := mst (List.mem_of_getElem? (i := 248) (by decide +kernel)) (by decide +kernel)
theorem w_213 : (Cond.instanceMethod y_Tr_isFull) ∈ Mst := mst (List.mem_of_getElem? (i := 249) (by decide +kernel)) (by decide +kernel)
theorem w_214 : (Cond.selects "ThreeChainLedger$Transfers" y_Tr_isFull y_Tr_isFull) ∈ Mst := mst (List.mem_of_getElem? (i := 250) (by decide +kernel)) (by decide +kernel)
theorem w_215 : (Cond.code y_Tr_isFull c_Tr_isFull (1 : Nat) (Option.some FieldType.boolean)) ∈ Mst := mst (List.mem_of_getElem? (i := 251) (by decide +kernel)) (by decide +kernel)
theorem w_216 : (Cond.methodLink "ThreeChainLedger" (79 : Nat) y_Tr_add) ∈ Mst := mst (List.mem_of_getElem? (i := 252) (by decide +kernel)) (by decide +kernel)
theorem w_217 : (Cond.instanceMethod y_Tr_add) ∈ Mst := mst (List.mem_of_getElem? (i := 253) (by decide +kernel)) (by decide +kernel)
theorem w_218 : (Cond.selects "ThreeChainLedger$Transfers" y_Tr_add y_Tr_add) ∈ Mst := mst (List.mem_of_getElem? (i := 254) (by decide +kernel)) (by decide +kernel)
theorem w_219 : (Cond.code y_Tr_add c_Tr_add (4 : Nat) (Option.some FieldType.int)) ∈ Mst := mst (List.mem_of_getElem? (i := 255) (by decide +kernel)) (by decide +kernel)
theorem w_220 : (Cond.methodLink "ThreeChainLedger" (83 : Nat) y_T_hasMember) ∈ Mst := mst (List.mem_of_getElem? (i := 256) (by decide +kernel)) (by decide +kernel)
theorem w_221 : (Cond.static y_T_hasMember) ∈ Mst := mst (List.mem_of_getElem? (i := 257) (by decide +kernel)) (by decide +kernel)
theorem w_222 : (Cond.code y_T_hasMember c_T_hasMember (2 : Nat) (Option.some FieldType.boolean)) ∈ Mst := mst (List.mem_of_getElem? (i := 258) (by decide +kernel)) (by decide +kernel)
theorem w_223 : (Cond.methodLink "ThreeChainLedgerLaw" (26 : Nat) y_T_lead) ∈ Mst := mst (List.mem_of_getElem? (i := 259) (by decide +kernel)) (by decide +kernel)
theorem w_224 : (Cond.instanceMethod y_T_lead) ∈ Mst := mst (List.mem_of_getElem? (i := 260) (by decide +kernel)) (by decide +kernel)
theorem w_225 : (Cond.selects "ThreeChainLedger" y_T_lead y_T_lead) ∈ Mst := mst (List.mem_of_getElem? (i := 261) (by decide +kernel)) (by decide +kernel)
theorem w_226 : (Cond.code y_T_lead c_T_lead (6 : Nat) (Option.some FieldType.int)) ∈ Mst := mst (List.mem_of_getElem? (i := 262) (by decide +kernel)) (by decide +kernel)
theorem w_227 : (Cond.methodLink "ThreeChainLedger" (90 : Nat) y_T_isCorrect) ∈ Mst := mst (List.mem_of_getElem? (i := 263) (by decide +kernel)) (by decide +kernel)
theorem w_229 : (Cond.instanceMethod y_T_isCorrect) ∈ Mst := mst (List.mem_of_getElem? (i := 265) (by decide +kernel)) (by decide +kernel)
theorem w_230 : (Cond.code y_T_isCorrect c_T_isCorrect (2 : Nat) (Option.some FieldType.boolean)) ∈ Mst := mst (List.mem_of_getElem? (i := 266) (by decide +kernel)) (by decide +kernel)
theorem w_231 : (Cond.methodLink "ThreeChainLedger" (152 : Nat) y_T_isReplica) ∈ Mst := mst (List.mem_of_getElem? (i := 267) (by decide +kernel)) (by decide +kernel)
theorem w_233 : (Cond.instanceMethod y_T_isReplica) ∈ Mst := mst (List.mem_of_getElem? (i := 269) (by decide +kernel)) (by decide +kernel)
theorem w_234 : (Cond.code y_T_isReplica c_T_isReplica (2 : Nat) (Option.some FieldType.boolean)) ∈ Mst := mst (List.mem_of_getElem? (i := 270) (by decide +kernel)) (by decide +kernel)
theorem w_235 : (Cond.methodLink "ThreeChainLedger" (93 : Nat) y_T_mayPropose) ∈ Mst := mst (List.mem_of_getElem? (i := 271) (by decide +kernel)) (by decide +kernel)
theorem w_237 : (Cond.instanceMethod y_T_mayPropose) ∈ Mst := mst (List.mem_of_getElem? (i := 273) (by decide +kernel)) (by decide +kernel)
theorem w_238 : (Cond.code y_T_mayPropose c_T_mayPropose (4 : Nat) (Option.some FieldType.boolean)) ∈ Mst := mst (List.mem_of_getElem? (i := 274) (by decide +kernel)) (by decide +kernel)
theorem w_239 : (Cond.methodLink "ThreeChainLedger" (124 : Nat) y_T_leaderOf) ∈ Mst := mst (List.mem_of_getElem? (i := 275) (by decide +kernel)) (by decide +kernel)
theorem w_241 : (Cond.instanceMethod y_T_leaderOf) ∈ Mst := mst (List.mem_of_getElem? (i := 277) (by decide +kernel)) (by decide +kernel)
theorem w_242 : (Cond.code y_T_leaderOf c_T_leaderOf (2 : Nat) (Option.some FieldType.int)) ∈ Mst := mst (List.mem_of_getElem? (i := 278) (by decide +kernel)) (by decide +kernel)
theorem w_243 : (Cond.methodLink "ThreeChainLedger" (203 : Nat) y_JM_floorMod) ∈ Mst := mst (List.mem_of_getElem? (i := 279) (by decide +kernel)) (by decide +kernel)
theorem w_244 : (Cond.static y_JM_floorMod) ∈ Mst := mst (List.mem_of_getElem? (i := 280) (by decide +kernel)) (by decide +kernel)
theorem w_245 : (Cond.code y_JM_floorMod c_JM_floorMod (3 : Nat) (Option.some FieldType.int)) ∈ Mst := mst (List.mem_of_getElem? (i := 281) (by decide +kernel)) (by decide +kernel)
theorem w_246 : (Cond.methodLink "ThreeChainLedger" (183 : Nat) y_Rp_push) ∈ Mst := mst (List.mem_of_getElem? (i := 282) (by decide +kernel)) (by decide +kernel)
theorem w_247 : (Cond.instanceMethod y_Rp_push) ∈ Mst := mst (List.mem_of_getElem? (i := 283) (by decide +kernel)) (by decide +kernel)
theorem w_248 : (Cond.selects "ThreeChainLedger$Replica" y_Rp_push y_Rp_push) ∈ Mst := mst (List.mem_of_getElem? (i := 284) (by decide +kernel)) (by decide +kernel)
theorem w_249 : (Cond.code y_Rp_push c_Rp_push (4 : Nat) (Option.some FieldType.int)) ∈ Mst := mst (List.mem_of_getElem? (i := 285) (by decide +kernel)) (by decide +kernel)
theorem w_250 : (Cond.methodLink "ThreeChainLedger$Replica" (57 : Nat) y_Rp_countFrom) ∈ Mst := mst (List.mem_of_getElem? (i := 286) (by decide +kernel)) (by decide +kernel)
theorem w_252 : (Cond.instanceMethod y_Rp_countFrom) ∈ Mst := mst (List.mem_of_getElem? (i := 288) (by decide +kernel)) (by decide +kernel)
theorem w_253 : (Cond.code y_Rp_countFrom c_Rp_countFrom (4 : Nat) (Option.some FieldType.int)) ∈ Mst := mst (List.mem_of_getElem? (i := 289) (by decide +kernel)) (by decide +kernel)
theorem w_254 : (Cond.methodLink "ThreeChainLedger" (96 : Nat) y_Bl_isFull) ∈ Mst := mst (List.mem_of_getElem? (i := 290) (by decide +kernel)) (by decide +kernel)
theorem w_255 : (Cond.instanceMethod y_Bl_isFull) ∈ Mst := mst (List.mem_of_getElem? (i := 291) (by decide +kernel)) (by decide +kernel)
theorem w_256 : (Cond.selects "ThreeChainLedger$Blocks" y_Bl_isFull y_Bl_isFull) ∈ Mst := mst (List.mem_of_getElem? (i := 292) (by decide +kernel)) (by decide +kernel)
theorem w_257 : (Cond.code y_Bl_isFull c_Bl_isFull (1 : Nat) (Option.some FieldType.boolean)) ∈ Mst := mst (List.mem_of_getElem? (i := 293) (by decide +kernel)) (by decide +kernel)
theorem w_258 : (Cond.methodLink "ThreeChainLedger" (107 : Nat) y_Bl_add) ∈ Mst := mst (List.mem_of_getElem? (i := 294) (by decide +kernel)) (by decide +kernel)
theorem w_259 : (Cond.instanceMethod y_Bl_add) ∈ Mst := mst (List.mem_of_getElem? (i := 295) (by decide +kernel)) (by decide +kernel)
theorem w_260 : (Cond.selects "ThreeChainLedger$Blocks" y_Bl_add y_Bl_add) ∈ Mst := mst (List.mem_of_getElem? (i := 296) (by decide +kernel)) (by decide +kernel)
theorem w_261 : (Cond.code y_Bl_add c_Bl_add (4 : Nat) (Option.some FieldType.int)) ∈ Mst := mst (List.mem_of_getElem? (i := 297) (by decide +kernel)) (by decide +kernel)
theorem w_262 : (Cond.methodLink "ThreeChainLedger" (111 : Nat) y_Ro_send) ∈ Mst := mst (List.mem_of_getElem? (i := 298) (by decide +kernel)) (by decide +kernel)
theorem w_263 : (Cond.instanceMethod y_Ro_send) ∈ Mst := mst (List.mem_of_getElem? (i := 299) (by decide +kernel)) (by decide +kernel)
theorem w_264 : (Cond.selects "ThreeChainLedger$Row" y_Ro_send y_Ro_send) ∈ Mst := mst (List.mem_of_getElem? (i := 300) (by decide +kernel)) (by decide +kernel)
theorem w_265 : (Cond.code y_Ro_send c_Ro_send (6 : Nat) (Option.none : Option FieldType)) ∈ Mst := mst (List.mem_of_getElem? (i := 301) (by decide +kernel)) (by decide +kernel)
theorem w_266 : (Cond.methodLink "ThreeChainLedger$Row" (22 : Nat) y_Ro_isFull) ∈ Mst := mst (List.mem_of_getElem? (i := 302) (by decide +kernel)) (by decide +kernel)
theorem w_267 : (Cond.instanceMethod y_Ro_isFull) ∈ Mst := mst (List.mem_of_getElem? (i := 303) (by decide +kernel)) (by decide +kernel)
theorem w_268 : (Cond.selects "ThreeChainLedger$Row" y_Ro_isFull y_Ro_isFull) ∈ Mst := mst (List.mem_of_getElem? (i := 304) (by decide +kernel)) (by decide +kernel)
theorem w_269 : (Cond.code y_Ro_isFull c_Ro_isFull (1 : Nat) (Option.some FieldType.boolean)) ∈ Mst := mst (List.mem_of_getElem? (i := 305) (by decide +kernel)) (by decide +kernel)
theorem w_270 : (Cond.methodLink "ThreeChainLedgerLaw" (31 : Nat) y_T_tick) ∈ Mst := mst (List.mem_of_getElem? (i := 306) (by decide +kernel)) (by decide +kernel)
theorem w_271 : (Cond.instanceMethod y_T_tick) ∈ Mst := mst (List.mem_of_getElem? (i := 307) (by decide +kernel)) (by decide +kernel)
theorem w_272 : (Cond.selects "ThreeChainLedger" y_T_tick y_T_tick) ∈ Mst := mst (List.mem_of_getElem? (i := 308) (by decide +kernel)) (by decide +kernel)
theorem w_273 : (Cond.code y_T_tick c_T_tick (3 : Nat) (Option.some FieldType.int)) ∈ Mst := mst (List.mem_of_getElem? (i := 309) (by decide +kernel)) (by decide +kernel)
theorem w_274 : (Cond.methodLink "ThreeChainLedger" (121 : Nat) y_Rp_enter) ∈ Mst := mst (List.mem_of_getElem? (i := 310) (by decide +kernel)) (by decide +kernel)
theorem w_275 : (Cond.instanceMethod y_Rp_enter) ∈ Mst := mst (List.mem_of_getElem? (i := 311) (by decide +kernel)) (by decide +kernel)
theorem w_276 : (Cond.selects "ThreeChainLedger$Replica" y_Rp_enter y_Rp_enter) ∈ Mst := mst (List.mem_of_getElem? (i := 312) (by decide +kernel)) (by decide +kernel)
theorem w_277 : (Cond.code y_Rp_enter c_Rp_enter (2 : Nat) (Option.none : Option FieldType)) ∈ Mst := mst (List.mem_of_getElem? (i := 313) (by decide +kernel)) (by decide +kernel)
theorem w_278 : (Cond.methodLink "ThreeChainLedgerLaw" (35 : Nat) y_T_deliver) ∈ Mst := mst (List.mem_of_getElem? (i := 314) (by decide +kernel)) (by decide +kernel)
theorem w_279 : (Cond.instanceMethod y_T_deliver) ∈ Mst := mst (List.mem_of_getElem? (i := 315) (by decide +kernel)) (by decide +kernel)
theorem w_280 : (Cond.selects "ThreeChainLedger" y_T_deliver y_T_deliver) ∈ Mst := mst (List.mem_of_getElem? (i := 316) (by decide +kernel)) (by decide +kernel)
theorem w_281 : (Cond.code y_T_deliver c_T_deliver (2 : Nat) (Option.some FieldType.int)) ∈ Mst := mst (List.mem_of_getElem? (i := 317) (by decide +kernel)) (by decide +kernel)
theorem w_282 : (Cond.methodLink "ThreeChainLedger" (128 : Nat) y_Ro_hasPlace) ∈ Mst := mst (List.mem_of_getElem? (i := 318) (by decide +kernel)) (by decide +kernel)
theorem w_283 : (Cond.instanceMethod y_Ro_hasPlace) ∈ Mst := mst (List.mem_of_getElem? (i := 319) (by decide +kernel)) (by decide +kernel)
theorem w_284 : (Cond.selects "ThreeChainLedger$Row" y_Ro_hasPlace y_Ro_hasPlace) ∈ Mst := mst (List.mem_of_getElem? (i := 320) (by decide +kernel)) (by decide +kernel)
theorem w_285 : (Cond.code y_Ro_hasPlace c_Ro_hasPlace (2 : Nat) (Option.some FieldType.boolean)) ∈ Mst := mst (List.mem_of_getElem? (i := 321) (by decide +kernel)) (by decide +kernel)
theorem w_286 : (Cond.methodLink "ThreeChainLedger" (131 : Nat) y_T_handOver) ∈ Mst := mst (List.mem_of_getElem? (i := 322) (by decide +kernel)) (by decide +kernel)
theorem w_288 : (Cond.instanceMethod y_T_handOver) ∈ Mst := mst (List.mem_of_getElem? (i := 324) (by decide +kernel)) (by decide +kernel)
theorem w_289 : (Cond.code y_T_handOver c_T_handOver (6 : Nat) (Option.some FieldType.boolean)) ∈ Mst := mst (List.mem_of_getElem? (i := 325) (by decide +kernel)) (by decide +kernel)
theorem w_290 : (Cond.methodLink "ThreeChainLedger" (134 : Nat) y_Ro_remove) ∈ Mst := mst (List.mem_of_getElem? (i := 326) (by decide +kernel)) (by decide +kernel)
theorem w_291 : (Cond.instanceMethod y_Ro_remove) ∈ Mst := mst (List.mem_of_getElem? (i := 327) (by decide +kernel)) (by decide +kernel)
theorem w_292 : (Cond.selects "ThreeChainLedger$Row" y_Ro_remove y_Ro_remove) ∈ Mst := mst (List.mem_of_getElem? (i := 328) (by decide +kernel)) (by decide +kernel)
theorem w_293 : (Cond.code y_Ro_remove c_Ro_remove (2 : Nat) (Option.none : Option FieldType)) ∈ Mst := mst (List.mem_of_getElem? (i := 329) (by decide +kernel)) (by decide +kernel)
theorem w_294 : (Cond.methodLink "ThreeChainLedger$Row" (29 : Nat) (⟨"java/lang/System", "arraycopy", "(Ljava/lang/Object;ILjava/lang/Object;II)V"⟩ : MethodName)) ∈ Mst := mst (List.mem_of_getElem? (i := 330) (by decide +kernel)) (by decide +kernel)
theorem w_295 : (Cond.static (⟨"java/lang/System", "arraycopy", "(Ljava/lang/Object;ILjava/lang/Object;II)V"⟩ : MethodName)) ∈ Mst := mst (List.mem_of_getElem? (i := 331) (by decide +kernel)) (by decide +kernel)
theorem w_296 : (Cond.native (⟨"java/lang/System", "arraycopy", "(Ljava/lang/Object;ILjava/lang/Object;II)V"⟩ : MethodName)) ∈ Mst := mst (List.mem_of_getElem? (i := 332) (by decide +kernel)) (by decide +kernel)
theorem w_297 : (Cond.methodLink "ThreeChainLedger" (212 : Nat) y_Ro_receiver) ∈ Mst := mst (List.mem_of_getElem? (i := 333) (by decide +kernel)) (by decide +kernel)
theorem w_298 : (Cond.static y_Ro_receiver) ∈ Mst := mst (List.mem_of_getElem? (i := 334) (by decide +kernel)) (by decide +kernel)
theorem w_299 : (Cond.code y_Ro_receiver c_Ro_receiver (1 : Nat) (Option.some FieldType.int)) ∈ Mst := mst (List.mem_of_getElem? (i := 335) (by decide +kernel)) (by decide +kernel)
theorem w_300 : (Cond.methodLink "ThreeChainLedger" (215 : Nat) y_Ro_subject) ∈ Mst := mst (List.mem_of_getElem? (i := 336) (by decide +kernel)) (by decide +kernel)
theorem w_301 : (Cond.static y_Ro_subject) ∈ Mst := mst (List.mem_of_getElem? (i := 337) (by decide +kernel)) (by decide +kernel)
theorem w_302 : (Cond.code y_Ro_subject c_Ro_subject (1 : Nat) (Option.some FieldType.int)) ∈ Mst := mst (List.mem_of_getElem? (i := 338) (by decide +kernel)) (by decide +kernel)
theorem w_303 : (Cond.methodLink "ThreeChainLedger" (218 : Nat) y_Ro_kind) ∈ Mst := mst (List.mem_of_getElem? (i := 339) (by decide +kernel)) (by decide +kernel)
theorem w_304 : (Cond.static y_Ro_kind) ∈ Mst := mst (List.mem_of_getElem? (i := 340) (by decide +kernel)) (by decide +kernel)
theorem w_305 : (Cond.code y_Ro_kind c_Ro_kind (1 : Nat) (Option.some FieldType.int)) ∈ Mst := mst (List.mem_of_getElem? (i := 341) (by decide +kernel)) (by decide +kernel)
theorem w_306 : (Cond.methodLink "ThreeChainLedger" (221 : Nat) y_T_getProposal) ∈ Mst := mst (List.mem_of_getElem? (i := 342) (by decide +kernel)) (by decide +kernel)
theorem w_308 : (Cond.instanceMethod y_T_getProposal) ∈ Mst := mst (List.mem_of_getElem? (i := 344) (by decide +kernel)) (by decide +kernel)
theorem w_309 : (Cond.code y_T_getProposal c_T_getProposal (5 : Nat) (Option.none : Option FieldType)) ∈ Mst := mst (List.mem_of_getElem? (i := 345) (by decide +kernel)) (by decide +kernel)
theorem w_310 : (Cond.methodLink "ThreeChainLedger" (236 : Nat) y_Rp_see) ∈ Mst := mst (List.mem_of_getElem? (i := 346) (by decide +kernel)) (by decide +kernel)
theorem w_311 : (Cond.instanceMethod y_Rp_see) ∈ Mst := mst (List.mem_of_getElem? (i := 347) (by decide +kernel)) (by decide +kernel)
theorem w_312 : (Cond.selects "ThreeChainLedger$Replica" y_Rp_see y_Rp_see) ∈ Mst := mst (List.mem_of_getElem? (i := 348) (by decide +kernel)) (by decide +kernel)
theorem w_313 : (Cond.code y_Rp_see c_Rp_see (4 : Nat) (Option.none : Option FieldType)) ∈ Mst := mst (List.mem_of_getElem? (i := 349) (by decide +kernel)) (by decide +kernel)
theorem w_314 : (Cond.methodLink "ThreeChainLedger$Replica" (36 : Nat) y_Bl_later) ∈ Mst := mst (List.mem_of_getElem? (i := 350) (by decide +kernel)) (by decide +kernel)
theorem w_315 : (Cond.instanceMethod y_Bl_later) ∈ Mst := mst (List.mem_of_getElem? (i := 351) (by decide +kernel)) (by decide +kernel)
theorem w_316 : (Cond.selects "ThreeChainLedger$Blocks" y_Bl_later y_Bl_later) ∈ Mst := mst (List.mem_of_getElem? (i := 352) (by decide +kernel)) (by decide +kernel)
theorem w_317 : (Cond.code y_Bl_later c_Bl_later (3 : Nat) (Option.some FieldType.int)) ∈ Mst := mst (List.mem_of_getElem? (i := 353) (by decide +kernel)) (by decide +kernel)
theorem w_318 : (Cond.methodLink "ThreeChainLedger$Replica" (43 : Nat) y_Bl_followsAtOnce) ∈ Mst := mst (List.mem_of_getElem? (i := 354) (by decide +kernel)) (by decide +kernel)
theorem w_319 : (Cond.instanceMethod y_Bl_followsAtOnce) ∈ Mst := mst (List.mem_of_getElem? (i := 355) (by decide +kernel)) (by decide +kernel)
theorem w_320 : (Cond.selects "ThreeChainLedger$Blocks" y_Bl_followsAtOnce y_Bl_followsAtOnce) ∈ Mst := mst (List.mem_of_getElem? (i := 356) (by decide +kernel)) (by decide +kernel)
theorem w_321 : (Cond.code y_Bl_followsAtOnce c_Bl_followsAtOnce (2 : Nat) (Option.some FieldType.boolean)) ∈ Mst := mst (List.mem_of_getElem? (i := 357) (by decide +kernel)) (by decide +kernel)
theorem w_322 : (Cond.methodLink "ThreeChainLedger$Replica" (53 : Nat) y_Rp_enter) ∈ Mst := mst (List.mem_of_getElem? (i := 358) (by decide +kernel)) (by decide +kernel)
theorem w_323 : (Cond.methodLink "ThreeChainLedger" (240 : Nat) y_T_isSafe) ∈ Mst := mst (List.mem_of_getElem? (i := 359) (by decide +kernel)) (by decide +kernel)
theorem w_325 : (Cond.instanceMethod y_T_isSafe) ∈ Mst := mst (List.mem_of_getElem? (i := 361) (by decide +kernel)) (by decide +kernel)
theorem w_326 : (Cond.code y_T_isSafe c_T_isSafe (3 : Nat) (Option.some FieldType.boolean)) ∈ Mst := mst (List.mem_of_getElem? (i := 362) (by decide +kernel)) (by decide +kernel)
theorem w_327 : (Cond.methodLink "ThreeChainLedger" (243 : Nat) y_Bl_inChain) ∈ Mst := mst (List.mem_of_getElem? (i := 363) (by decide +kernel)) (by decide +kernel)
theorem w_328 : (Cond.instanceMethod y_Bl_inChain) ∈ Mst := mst (List.mem_of_getElem? (i := 364) (by decide +kernel)) (by decide +kernel)
theorem w_329 : (Cond.selects "ThreeChainLedger$Blocks" y_Bl_inChain y_Bl_inChain) ∈ Mst := mst (List.mem_of_getElem? (i := 365) (by decide +kernel)) (by decide +kernel)
theorem w_330 : (Cond.code y_Bl_inChain c_Bl_inChain (3 : Nat) (Option.some FieldType.boolean)) ∈ Mst := mst (List.mem_of_getElem? (i := 366) (by decide +kernel)) (by decide +kernel)
theorem w_331 : (Cond.methodLink "ThreeChainLedger" (225 : Nat) y_Ro_sender) ∈ Mst := mst (List.mem_of_getElem? (i := 367) (by decide +kernel)) (by decide +kernel)
theorem w_332 : (Cond.static y_Ro_sender) ∈ Mst := mst (List.mem_of_getElem? (i := 368) (by decide +kernel)) (by decide +kernel)
theorem w_333 : (Cond.code y_Ro_sender c_Ro_sender (1 : Nat) (Option.some FieldType.int)) ∈ Mst := mst (List.mem_of_getElem? (i := 369) (by decide +kernel)) (by decide +kernel)
theorem w_334 : (Cond.methodLink "ThreeChainLedger" (228 : Nat) y_T_getVote) ∈ Mst := mst (List.mem_of_getElem? (i := 370) (by decide +kernel)) (by decide +kernel)
theorem w_336 : (Cond.instanceMethod y_T_getVote) ∈ Mst := mst (List.mem_of_getElem? (i := 372) (by decide +kernel)) (by decide +kernel)
theorem w_337 : (Cond.code y_T_getVote c_T_getVote (5 : Nat) (Option.none : Option FieldType)) ∈ Mst := mst (List.mem_of_getElem? (i := 373) (by decide +kernel)) (by decide +kernel)
theorem w_338 : (Cond.methodLink "ThreeChainLedger" (206 : Nat) y_JI_bitCount) ∈ Mst := mst (List.mem_of_getElem? (i := 374) (by decide +kernel)) (by decide +kernel)
theorem w_339 : (Cond.static y_JI_bitCount) ∈ Mst := mst (List.mem_of_getElem? (i := 375) (by decide +kernel)) (by decide +kernel)
theorem w_340 : (Cond.code y_JI_bitCount c_JI_bitCount (1 : Nat) (Option.some FieldType.int)) ∈ Mst := mst (List.mem_of_getElem? (i := 376) (by decide +kernel)) (by decide +kernel)
theorem w_341 : (Cond.constant "java/lang/Integer" (265 : Nat) (1431655765 : Int32)) ∈ Mst := mst (List.mem_of_getElem? (i := 377) (by decide +kernel)) (by decide +kernel)
theorem w_342 : (Cond.constant "java/lang/Integer" (266 : Nat) (858993459 : Int32)) ∈ Mst := mst (List.mem_of_getElem? (i := 378) (by decide +kernel)) (by decide +kernel)
theorem w_343 : (Cond.constant "java/lang/Integer" (267 : Nat) (252645135 : Int32)) ∈ Mst := mst (List.mem_of_getElem? (i := 379) (by decide +kernel)) (by decide +kernel)
theorem w_344 : (Cond.methodLink "ThreeChainLedger" (232 : Nat) y_T_getNewView) ∈ Mst := mst (List.mem_of_getElem? (i := 380) (by decide +kernel)) (by decide +kernel)
theorem w_346 : (Cond.instanceMethod y_T_getNewView) ∈ Mst := mst (List.mem_of_getElem? (i := 382) (by decide +kernel)) (by decide +kernel)
theorem w_347 : (Cond.code y_T_getNewView c_T_getNewView (7 : Nat) (Option.none : Option FieldType)) ∈ Mst := mst (List.mem_of_getElem? (i := 383) (by decide +kernel)) (by decide +kernel)
theorem w_348 : (Cond.methodLink "ThreeChainLedgerLaw" (39 : Nat) y_T_flow) ∈ Mst := mst (List.mem_of_getElem? (i := 384) (by decide +kernel)) (by decide +kernel)
theorem w_349 : (Cond.instanceMethod y_T_flow) ∈ Mst := mst (List.mem_of_getElem? (i := 385) (by decide +kernel)) (by decide +kernel)
theorem w_350 : (Cond.selects "ThreeChainLedger" y_T_flow y_T_flow) ∈ Mst := mst (List.mem_of_getElem? (i := 386) (by decide +kernel)) (by decide +kernel)
theorem w_351 : (Cond.code y_T_flow c_T_flow (3 : Nat) (Option.some FieldType.int)) ∈ Mst := mst (List.mem_of_getElem? (i := 387) (by decide +kernel)) (by decide +kernel)
theorem w_352 : (Cond.methodLink "ThreeChainLedgerLaw" (43 : Nat) y_T_drop) ∈ Mst := mst (List.mem_of_getElem? (i := 388) (by decide +kernel)) (by decide +kernel)
theorem w_353 : (Cond.instanceMethod y_T_drop) ∈ Mst := mst (List.mem_of_getElem? (i := 389) (by decide +kernel)) (by decide +kernel)
theorem w_354 : (Cond.selects "ThreeChainLedger" y_T_drop y_T_drop) ∈ Mst := mst (List.mem_of_getElem? (i := 390) (by decide +kernel)) (by decide +kernel)
theorem w_355 : (Cond.code y_T_drop c_T_drop (2 : Nat) (Option.some FieldType.boolean)) ∈ Mst := mst (List.mem_of_getElem? (i := 391) (by decide +kernel)) (by decide +kernel)
theorem w_356 : (Cond.methodLink "ThreeChainLedgerLaw" (48 : Nat) y_T_forge) ∈ Mst := mst (List.mem_of_getElem? (i := 392) (by decide +kernel)) (by decide +kernel)
theorem w_357 : (Cond.instanceMethod y_T_forge) ∈ Mst := mst (List.mem_of_getElem? (i := 393) (by decide +kernel)) (by decide +kernel)
theorem w_358 : (Cond.selects "ThreeChainLedger" y_T_forge y_T_forge) ∈ Mst := mst (List.mem_of_getElem? (i := 394) (by decide +kernel)) (by decide +kernel)
theorem w_359 : (Cond.code y_T_forge c_T_forge (5 : Nat) (Option.some FieldType.int)) ∈ Mst := mst (List.mem_of_getElem? (i := 395) (by decide +kernel)) (by decide +kernel)
theorem w_360 : (Cond.methodLink "ThreeChainLedger" (137 : Nat) y_T_hasCertificate) ∈ Mst := mst (List.mem_of_getElem? (i := 396) (by decide +kernel)) (by decide +kernel)
theorem w_362 : (Cond.instanceMethod y_T_hasCertificate) ∈ Mst := mst (List.mem_of_getElem? (i := 398) (by decide +kernel)) (by decide +kernel)
theorem w_363 : (Cond.code y_T_hasCertificate c_T_hasCertificate (2 : Nat) (Option.some FieldType.boolean)) ∈ Mst := mst (List.mem_of_getElem? (i := 399) (by decide +kernel)) (by decide +kernel)
theorem w_364 : (Cond.methodLink "ThreeChainLedger" (162 : Nat) y_Bl_has) ∈ Mst := mst (List.mem_of_getElem? (i := 400) (by decide +kernel)) (by decide +kernel)
theorem w_365 : (Cond.instanceMethod y_Bl_has) ∈ Mst := mst (List.mem_of_getElem? (i := 401) (by decide +kernel)) (by decide +kernel)
theorem w_366 : (Cond.selects "ThreeChainLedger$Blocks" y_Bl_has y_Bl_has) ∈ Mst := mst (List.mem_of_getElem? (i := 402) (by decide +kernel)) (by decide +kernel)
theorem w_367 : (Cond.code y_Bl_has c_Bl_has (2 : Nat) (Option.some FieldType.boolean)) ∈ Mst := mst (List.mem_of_getElem? (i := 403) (by decide +kernel)) (by decide +kernel)
theorem w_368 : (Cond.methodLink "ThreeChainLedger" (146 : Nat) y_T_isCorrupt) ∈ Mst := mst (List.mem_of_getElem? (i := 404) (by decide +kernel)) (by decide +kernel)
theorem w_370 : (Cond.instanceMethod y_T_isCorrupt) ∈ Mst := mst (List.mem_of_getElem? (i := 406) (by decide +kernel)) (by decide +kernel)
theorem w_371 : (Cond.code y_T_isCorrupt c_T_isCorrupt (2 : Nat) (Option.some FieldType.boolean)) ∈ Mst := mst (List.mem_of_getElem? (i := 407) (by decide +kernel)) (by decide +kernel)
theorem w_372 : (Cond.methodLink "ThreeChainLedgerLaw" (53 : Nat) y_T_offer) ∈ Mst := mst (List.mem_of_getElem? (i := 408) (by decide +kernel)) (by decide +kernel)
theorem w_373 : (Cond.instanceMethod y_T_offer) ∈ Mst := mst (List.mem_of_getElem? (i := 409) (by decide +kernel)) (by decide +kernel)
theorem w_374 : (Cond.selects "ThreeChainLedger" y_T_offer y_T_offer) ∈ Mst := mst (List.mem_of_getElem? (i := 410) (by decide +kernel)) (by decide +kernel)
theorem w_375 : (Cond.code y_T_offer c_T_offer (3 : Nat) (Option.some FieldType.boolean)) ∈ Mst := mst (List.mem_of_getElem? (i := 411) (by decide +kernel)) (by decide +kernel)
theorem w_376 : (Cond.methodLink "ThreeChainLedger" (149 : Nat) y_T_maySend) ∈ Mst := mst (List.mem_of_getElem? (i := 412) (by decide +kernel)) (by decide +kernel)
theorem w_378 : (Cond.instanceMethod y_T_maySend) ∈ Mst := mst (List.mem_of_getElem? (i := 414) (by decide +kernel)) (by decide +kernel)
theorem w_379 : (Cond.code y_T_maySend c_T_maySend (3 : Nat) (Option.some FieldType.boolean)) ∈ Mst := mst (List.mem_of_getElem? (i := 415) (by decide +kernel)) (by decide +kernel)
theorem w_380 : (Cond.methodLink "ThreeChainLedger" (155 : Nat) y_Ro_isFull) ∈ Mst := mst (List.mem_of_getElem? (i := 416) (by decide +kernel)) (by decide +kernel)
theorem w_381 : (Cond.methodLink "ThreeChainLedgerLaw" (58 : Nat) y_T_vote) ∈ Mst := mst (List.mem_of_getElem? (i := 417) (by decide +kernel)) (by decide +kernel)
theorem w_382 : (Cond.instanceMethod y_T_vote) ∈ Mst := mst (List.mem_of_getElem? (i := 418) (by decide +kernel)) (by decide +kernel)
theorem w_383 : (Cond.selects "ThreeChainLedger" y_T_vote y_T_vote) ∈ Mst := mst (List.mem_of_getElem? (i := 419) (by decide +kernel)) (by decide +kernel)
theorem w_384 : (Cond.code y_T_vote c_T_vote (4 : Nat) (Option.some FieldType.boolean)) ∈ Mst := mst (List.mem_of_getElem? (i := 420) (by decide +kernel)) (by decide +kernel)
theorem w_385 : (Cond.methodLink "ThreeChainLedgerLaw" (63 : Nat) y_T_claim) ∈ Mst := mst (List.mem_of_getElem? (i := 421) (by decide +kernel)) (by decide +kernel)
theorem w_386 : (Cond.instanceMethod y_T_claim) ∈ Mst := mst (List.mem_of_getElem? (i := 422) (by decide +kernel)) (by decide +kernel)
theorem w_387 : (Cond.selects "ThreeChainLedger" y_T_claim y_T_claim) ∈ Mst := mst (List.mem_of_getElem? (i := 423) (by decide +kernel)) (by decide +kernel)
theorem w_388 : (Cond.code y_T_claim c_T_claim (5 : Nat) (Option.some FieldType.boolean)) ∈ Mst := mst (List.mem_of_getElem? (i := 424) (by decide +kernel)) (by decide +kernel)
theorem w_389 : (Cond.methodLink "ThreeChainLedgerLaw" (68 : Nat) y_T_waiting) ∈ Mst := mst (List.mem_of_getElem? (i := 425) (by decide +kernel)) (by decide +kernel)
theorem w_390 : (Cond.instanceMethod y_T_waiting) ∈ Mst := mst (List.mem_of_getElem? (i := 426) (by decide +kernel)) (by decide +kernel)
theorem w_391 : (Cond.selects "ThreeChainLedger" y_T_waiting y_T_waiting) ∈ Mst := mst (List.mem_of_getElem? (i := 427) (by decide +kernel)) (by decide +kernel)
theorem w_392 : (Cond.code y_T_waiting c_T_waiting (1 : Nat) (Option.some FieldType.int)) ∈ Mst := mst (List.mem_of_getElem? (i := 428) (by decide +kernel)) (by decide +kernel)
theorem w_393 : (Cond.methodLink "ThreeChainLedgerLaw" (73 : Nat) y_T_message) ∈ Mst := mst (List.mem_of_getElem? (i := 429) (by decide +kernel)) (by decide +kernel)
theorem w_394 : (Cond.instanceMethod y_T_message) ∈ Mst := mst (List.mem_of_getElem? (i := 430) (by decide +kernel)) (by decide +kernel)
theorem w_395 : (Cond.selects "ThreeChainLedger" y_T_message y_T_message) ∈ Mst := mst (List.mem_of_getElem? (i := 431) (by decide +kernel)) (by decide +kernel)
theorem w_396 : (Cond.code y_T_message c_T_message (2 : Nat) (Option.some FieldType.int)) ∈ Mst := mst (List.mem_of_getElem? (i := 432) (by decide +kernel)) (by decide +kernel)
theorem w_397 : (Cond.methodLink "ThreeChainLedgerLaw" (77 : Nat) y_T_block) ∈ Mst := mst (List.mem_of_getElem? (i := 433) (by decide +kernel)) (by decide +kernel)
theorem w_398 : (Cond.instanceMethod y_T_block) ∈ Mst := mst (List.mem_of_getElem? (i := 434) (by decide +kernel)) (by decide +kernel)
theorem w_399 : (Cond.selects "ThreeChainLedger" y_T_block y_T_block) ∈ Mst := mst (List.mem_of_getElem? (i := 435) (by decide +kernel)) (by decide +kernel)
theorem w_400 : (Cond.code y_T_block c_T_block (2 : Nat) (Option.some FieldType.int)) ∈ Mst := mst (List.mem_of_getElem? (i := 436) (by decide +kernel)) (by decide +kernel)
theorem w_401 : (Cond.methodLink "ThreeChainLedgerLaw" (81 : Nat) y_T_payload) ∈ Mst := mst (List.mem_of_getElem? (i := 437) (by decide +kernel)) (by decide +kernel)
theorem w_402 : (Cond.instanceMethod y_T_payload) ∈ Mst := mst (List.mem_of_getElem? (i := 438) (by decide +kernel)) (by decide +kernel)
theorem w_403 : (Cond.selects "ThreeChainLedger" y_T_payload y_T_payload) ∈ Mst := mst (List.mem_of_getElem? (i := 439) (by decide +kernel)) (by decide +kernel)
theorem w_404 : (Cond.code y_T_payload c_T_payload (2 : Nat) (Option.some FieldType.int)) ∈ Mst := mst (List.mem_of_getElem? (i := 440) (by decide +kernel)) (by decide +kernel)
theorem w_405 : (Cond.methodLink "ThreeChainLedgerLaw" (85 : Nat) y_T_votes) ∈ Mst := mst (List.mem_of_getElem? (i := 441) (by decide +kernel)) (by decide +kernel)
theorem w_406 : (Cond.instanceMethod y_T_votes) ∈ Mst := mst (List.mem_of_getElem? (i := 442) (by decide +kernel)) (by decide +kernel)
theorem w_407 : (Cond.selects "ThreeChainLedger" y_T_votes y_T_votes) ∈ Mst := mst (List.mem_of_getElem? (i := 443) (by decide +kernel)) (by decide +kernel)
theorem w_408 : (Cond.code y_T_votes c_T_votes (2 : Nat) (Option.some FieldType.int)) ∈ Mst := mst (List.mem_of_getElem? (i := 444) (by decide +kernel)) (by decide +kernel)
theorem w_409 : (Cond.methodLink "ThreeChainLedgerLaw" (89 : Nat) y_T_state) ∈ Mst := mst (List.mem_of_getElem? (i := 445) (by decide +kernel)) (by decide +kernel)
theorem w_410 : (Cond.instanceMethod y_T_state) ∈ Mst := mst (List.mem_of_getElem? (i := 446) (by decide +kernel)) (by decide +kernel)
theorem w_411 : (Cond.selects "ThreeChainLedger" y_T_state y_T_state) ∈ Mst := mst (List.mem_of_getElem? (i := 447) (by decide +kernel)) (by decide +kernel)
theorem w_412 : (Cond.code y_T_state c_T_state (4 : Nat) (Option.some FieldType.int)) ∈ Mst := mst (List.mem_of_getElem? (i := 448) (by decide +kernel)) (by decide +kernel)
theorem w_413 : (Cond.methodLink "ThreeChainLedgerLaw" (94 : Nat) y_T_committed) ∈ Mst := mst (List.mem_of_getElem? (i := 449) (by decide +kernel)) (by decide +kernel)
theorem w_414 : (Cond.instanceMethod y_T_committed) ∈ Mst := mst (List.mem_of_getElem? (i := 450) (by decide +kernel)) (by decide +kernel)
theorem w_415 : (Cond.selects "ThreeChainLedger" y_T_committed y_T_committed) ∈ Mst := mst (List.mem_of_getElem? (i := 451) (by decide +kernel)) (by decide +kernel)
theorem w_416 : (Cond.code y_T_committed c_T_committed (3 : Nat) (Option.some FieldType.int)) ∈ Mst := mst (List.mem_of_getElem? (i := 452) (by decide +kernel)) (by decide +kernel)
theorem w_417 : (Cond.methodLink "ThreeChainLedger" (186 : Nat) y_Bl_atPlace) ∈ Mst := mst (List.mem_of_getElem? (i := 453) (by decide +kernel)) (by decide +kernel)
theorem w_418 : (Cond.instanceMethod y_Bl_atPlace) ∈ Mst := mst (List.mem_of_getElem? (i := 454) (by decide +kernel)) (by decide +kernel)
theorem w_419 : (Cond.selects "ThreeChainLedger$Blocks" y_Bl_atPlace y_Bl_atPlace) ∈ Mst := mst (List.mem_of_getElem? (i := 455) (by decide +kernel)) (by decide +kernel)
theorem w_420 : (Cond.code y_Bl_atPlace c_Bl_atPlace (5 : Nat) (Option.some FieldType.int)) ∈ Mst := mst (List.mem_of_getElem? (i := 456) (by decide +kernel)) (by decide +kernel)
theorem w_421 : (Cond.methodLink "ThreeChainLedger$Blocks" (35 : Nat) y_Bl_inChain) ∈ Mst := mst (List.mem_of_getElem? (i := 457) (by decide +kernel)) (by decide +kernel)
theorem w_422 : (Cond.methodLink "ThreeChainLedgerLaw" (98 : Nat) y_T_balance) ∈ Mst := mst (List.mem_of_getElem? (i := 458) (by decide +kernel)) (by decide +kernel)
theorem w_423 : (Cond.instanceMethod y_T_balance) ∈ Mst := mst (List.mem_of_getElem? (i := 459) (by decide +kernel)) (by decide +kernel)
theorem w_424 : (Cond.selects "ThreeChainLedger" y_T_balance y_T_balance) ∈ Mst := mst (List.mem_of_getElem? (i := 460) (by decide +kernel)) (by decide +kernel)
theorem w_425 : (Cond.code y_T_balance c_T_balance (3 : Nat) (Option.some FieldType.int)) ∈ Mst := mst (List.mem_of_getElem? (i := 461) (by decide +kernel)) (by decide +kernel)
theorem w_426 : (Cond.methodLink "ThreeChainLedger" (189 : Nat) y_Le_replay) ∈ Mst := mst (List.mem_of_getElem? (i := 462) (by decide +kernel)) (by decide +kernel)
theorem w_427 : (Cond.instanceMethod y_Le_replay) ∈ Mst := mst (List.mem_of_getElem? (i := 463) (by decide +kernel)) (by decide +kernel)
theorem w_428 : (Cond.selects "ThreeChainLedger$Ledger" y_Le_replay y_Le_replay) ∈ Mst := mst (List.mem_of_getElem? (i := 464) (by decide +kernel)) (by decide +kernel)
theorem w_429 : (Cond.code y_Le_replay c_Le_replay (5 : Nat) (Option.none : Option FieldType)) ∈ Mst := mst (List.mem_of_getElem? (i := 465) (by decide +kernel)) (by decide +kernel)
theorem w_430 : (Cond.methodLink "ThreeChainLedger$Ledger" (18 : Nat) y_Bl_inChain) ∈ Mst := mst (List.mem_of_getElem? (i := 466) (by decide +kernel)) (by decide +kernel)
theorem w_431 : (Cond.methodLink "ThreeChainLedger$Ledger" (27 : Nat) y_Le_settle) ∈ Mst := mst (List.mem_of_getElem? (i := 467) (by decide +kernel)) (by decide +kernel)
theorem w_433 : (Cond.instanceMethod y_Le_settle) ∈ Mst := mst (List.mem_of_getElem? (i := 469) (by decide +kernel)) (by decide +kernel)
theorem w_434 : (Cond.code y_Le_settle c_Le_settle (4 : Nat) (Option.none : Option FieldType)) ∈ Mst := mst (List.mem_of_getElem? (i := 470) (by decide +kernel)) (by decide +kernel)
theorem w_436 : (Cond.methodLink "ThreeChainLedger$Ledger" (49 : Nat) y_Le_pay) ∈ Mst := mst (List.mem_of_getElem? (i := 472) (by decide +kernel)) (by decide +kernel)
theorem w_438 : (Cond.instanceMethod y_Le_pay) ∈ Mst := mst (List.mem_of_getElem? (i := 474) (by decide +kernel)) (by decide +kernel)
theorem w_439 : (Cond.code y_Le_pay c_Le_pay (4 : Nat) (Option.some FieldType.boolean)) ∈ Mst := mst (List.mem_of_getElem? (i := 475) (by decide +kernel)) (by decide +kernel)
theorem w_440 : (Cond.methodLink "ThreeChainLedgerLaw" (102 : Nat) y_T_outcome) ∈ Mst := mst (List.mem_of_getElem? (i := 476) (by decide +kernel)) (by decide +kernel)
theorem w_441 : (Cond.instanceMethod y_T_outcome) ∈ Mst := mst (List.mem_of_getElem? (i := 477) (by decide +kernel)) (by decide +kernel)
theorem w_442 : (Cond.selects "ThreeChainLedger" y_T_outcome y_T_outcome) ∈ Mst := mst (List.mem_of_getElem? (i := 478) (by decide +kernel)) (by decide +kernel)
theorem w_443 : (Cond.code y_T_outcome c_T_outcome (3 : Nat) (Option.some FieldType.int)) ∈ Mst := mst (List.mem_of_getElem? (i := 479) (by decide +kernel)) (by decide +kernel)
theorem w_444 : (Cond.methodLink "ThreeChainLedger" (196 : Nat) y_Tr_has) ∈ Mst := mst (List.mem_of_getElem? (i := 480) (by decide +kernel)) (by decide +kernel)
theorem w_445 : (Cond.instanceMethod y_Tr_has) ∈ Mst := mst (List.mem_of_getElem? (i := 481) (by decide +kernel)) (by decide +kernel)
theorem w_446 : (Cond.selects "ThreeChainLedger$Transfers" y_Tr_has y_Tr_has) ∈ Mst := mst (List.mem_of_getElem? (i := 482) (by decide +kernel)) (by decide +kernel)
theorem w_447 : (Cond.code y_Tr_has c_Tr_has (2 : Nat) (Option.some FieldType.boolean)) ∈ Mst := mst (List.mem_of_getElem? (i := 483) (by decide +kernel)) (by decide +kernel)
theorem w_448 : (Cond.methodLink "ThreeChainLedgerLaw" (106 : Nat) y_T_lost) ∈ Mst := mst (List.mem_of_getElem? (i := 484) (by decide +kernel)) (by decide +kernel)
theorem w_449 : (Cond.instanceMethod y_T_lost) ∈ Mst := mst (List.mem_of_getElem? (i := 485) (by decide +kernel)) (by decide +kernel)
theorem w_450 : (Cond.selects "ThreeChainLedger" y_T_lost y_T_lost) ∈ Mst := mst (List.mem_of_getElem? (i := 486) (by decide +kernel)) (by decide +kernel)
theorem w_451 : (Cond.code y_T_lost c_T_lost (1 : Nat) (Option.some FieldType.int)) ∈ Mst := mst (List.mem_of_getElem? (i := 487) (by decide +kernel)) (by decide +kernel)
theorem w_452 : (Cond.methodLink "ThreeChainLedgerLaw" (9 : Nat) y_L_cell) ∈ Mst := mst (List.mem_of_getElem? (i := 488) (by decide +kernel)) (by decide +kernel)
theorem w_453 : (Cond.static y_L_cell) ∈ Mst := mst (List.mem_of_getElem? (i := 489) (by decide +kernel)) (by decide +kernel)
theorem w_454 : (Cond.code y_L_cell method_2_code (2 : Nat) (Option.some FieldType.int)) ∈ Mst := mst (List.mem_of_getElem? (i := 490) (by decide +kernel)) (by decide +kernel)
theorem w_455 : (Cond.classLink "ThreeChainLedgerLaw" (18 : Nat) "ThreeChainLedgerModel") ∈ Mst := mst (List.mem_of_getElem? (i := 491) (by decide +kernel)) (by decide +kernel)
theorem w_456 : (Cond.instantiable "ThreeChainLedgerModel" (32 : Nat)) ∈ Mst := mst (List.mem_of_getElem? (i := 492) (by decide +kernel)) (by decide +kernel)
theorem w_457 : (Cond.methodLink "ThreeChainLedgerLaw" (20 : Nat) y_M_init) ∈ Mst := mst (List.mem_of_getElem? (i := 493) (by decide +kernel)) (by decide +kernel)
theorem w_458 : (Cond.instanceMethod y_M_init) ∈ Mst := mst (List.mem_of_getElem? (i := 494) (by decide +kernel)) (by decide +kernel)
theorem w_459 : (Cond.code y_M_init c_M_init (7 : Nat) (Option.none : Option FieldType)) ∈ Mst := mst (List.mem_of_getElem? (i := 495) (by decide +kernel)) (by decide +kernel)
theorem w_460 : (Cond.methodLink "ThreeChainLedgerModel" (1 : Nat) (⟨"java/lang/Object", "<init>", "()V"⟩ : MethodName)) ∈ Mst := mst (List.mem_of_getElem? (i := 496) (by decide +kernel)) (by decide +kernel)
theorem w_461 : (Cond.fieldLink "ThreeChainLedgerModel" (87 : Nat) "ThreeChainLedgerModel" "f" "I") ∈ Mst := mst (List.mem_of_getElem? (i := 497) (by decide +kernel)) (by decide +kernel)
theorem w_462 : (Cond.fieldLink "ThreeChainLedgerModel" (90 : Nat) "ThreeChainLedgerModel" "n" "I") ∈ Mst := mst (List.mem_of_getElem? (i := 498) (by decide +kernel)) (by decide +kernel)
theorem w_463 : (Cond.fieldLink "ThreeChainLedgerModel" (93 : Nat) "ThreeChainLedgerModel" "k" "I") ∈ Mst := mst (List.mem_of_getElem? (i := 499) (by decide +kernel)) (by decide +kernel)
theorem w_464 : (Cond.fieldLink "ThreeChainLedgerModel" (96 : Nat) "ThreeChainLedgerModel" "corrupt" "I") ∈ Mst := mst (List.mem_of_getElem? (i := 500) (by decide +kernel)) (by decide +kernel)
theorem w_465 : (Cond.fieldLink "ThreeChainLedgerModel" (137 : Nat) "ThreeChainLedgerModel" "transfers" "I") ∈ Mst := mst (List.mem_of_getElem? (i := 501) (by decide +kernel)) (by decide +kernel)
theorem w_466 : (Cond.fieldLink "ThreeChainLedgerModel" (7 : Nat) "ThreeChainLedgerModel" "holding" "[I") ∈ Mst := mst (List.mem_of_getElem? (i := 502) (by decide +kernel)) (by decide +kernel)
theorem w_467 : (Cond.fieldLink "ThreeChainLedgerModel" (13 : Nat) "ThreeChainLedgerModel" "source" "[I") ∈ Mst := mst (List.mem_of_getElem? (i := 503) (by decide +kernel)) (by decide +kernel)
theorem w_468 : (Cond.fieldLink "ThreeChainLedgerModel" (16 : Nat) "ThreeChainLedgerModel" "target" "[I") ∈ Mst := mst (List.mem_of_getElem? (i := 504) (by decide +kernel)) (by decide +kernel)
theorem w_469 : (Cond.fieldLink "ThreeChainLedgerModel" (19 : Nat) "ThreeChainLedgerModel" "amounts" "[I") ∈ Mst := mst (List.mem_of_getElem? (i := 505) (by decide +kernel)) (by decide +kernel)
theorem w_470 : (Cond.fieldLink "ThreeChainLedgerModel" (22 : Nat) "ThreeChainLedgerModel" "blocks" "I") ∈ Mst := mst (List.mem_of_getElem? (i := 506) (by decide +kernel)) (by decide +kernel)
theorem w_471 : (Cond.fieldLink "ThreeChainLedgerModel" (26 : Nat) "ThreeChainLedgerModel" "viewOf" "[I") ∈ Mst := mst (List.mem_of_getElem? (i := 507) (by decide +kernel)) (by decide +kernel)
theorem w_472 : (Cond.fieldLink "ThreeChainLedgerModel" (29 : Nat) "ThreeChainLedgerModel" "parentOf" "[I") ∈ Mst := mst (List.mem_of_getElem? (i := 508) (by decide +kernel)) (by decide +kernel)
theorem w_473 : (Cond.fieldLink "ThreeChainLedgerModel" (32 : Nat) "ThreeChainLedgerModel" "setOf" "[I") ∈ Mst := mst (List.mem_of_getElem? (i := 509) (by decide +kernel)) (by decide +kernel)
theorem w_474 : (Cond.fieldLink "ThreeChainLedgerModel" (35 : Nat) "ThreeChainLedgerModel" "votedFor" "[I") ∈ Mst := mst (List.mem_of_getElem? (i := 510) (by decide +kernel)) (by decide +kernel)
theorem w_475 : (Cond.fieldLink "ThreeChainLedgerModel" (107 : Nat) "ThreeChainLedgerModel" "messages" "I") ∈ Mst := mst (List.mem_of_getElem? (i := 511) (by decide +kernel)) (by decide +kernel)
theorem w_476 : (Cond.fieldLink "ThreeChainLedgerModel" (110 : Nat) "ThreeChainLedgerModel" "losses" "I") ∈ Mst := mst (List.mem_of_getElem? (i := 512) (by decide +kernel)) (by decide +kernel)
theorem w_477 : (Cond.fieldLink "ThreeChainLedgerModel" (38 : Nat) "ThreeChainLedgerModel" "kind" "[I") ∈ Mst := mst (List.mem_of_getElem? (i := 513) (by decide +kernel)) (by decide +kernel)
theorem w_478 : (Cond.fieldLink "ThreeChainLedgerModel" (41 : Nat) "ThreeChainLedgerModel" "to" "[I") ∈ Mst := mst (List.mem_of_getElem? (i := 514) (by decide +kernel)) (by decide +kernel)
theorem w_479 : (Cond.fieldLink "ThreeChainLedgerModel" (44 : Nat) "ThreeChainLedgerModel" "from" "[I") ∈ Mst := mst (List.mem_of_getElem? (i := 515) (by decide +kernel)) (by decide +kernel)
theorem w_480 : (Cond.fieldLink "ThreeChainLedgerModel" (47 : Nat) "ThreeChainLedgerModel" "about" "[I") ∈ Mst := mst (List.mem_of_getElem? (i := 516) (by decide +kernel)) (by decide +kernel)
theorem w_481 : (Cond.fieldLink "ThreeChainLedgerModel" (50 : Nat) "ThreeChainLedgerModel" "forView" "[I") ∈ Mst := mst (List.mem_of_getElem? (i := 517) (by decide +kernel)) (by decide +kernel)
theorem w_482 : (Cond.fieldLink "ThreeChainLedgerModel" (53 : Nat) "ThreeChainLedgerModel" "view" "[I") ∈ Mst := mst (List.mem_of_getElem? (i := 518) (by decide +kernel)) (by decide +kernel)
theorem w_483 : (Cond.fieldLink "ThreeChainLedgerModel" (56 : Nat) "ThreeChainLedgerModel" "timer" "[I") ∈ Mst := mst (List.mem_of_getElem? (i := 519) (by decide +kernel)) (by decide +kernel)
theorem w_484 : (Cond.fieldLink "ThreeChainLedgerModel" (59 : Nat) "ThreeChainLedgerModel" "patience" "[I") ∈ Mst := mst (List.mem_of_getElem? (i := 520) (by decide +kernel)) (by decide +kernel)
theorem w_485 : (Cond.fieldLink "ThreeChainLedgerModel" (62 : Nat) "ThreeChainLedgerModel" "voted" "[I") ∈ Mst := mst (List.mem_of_getElem? (i := 521) (by decide +kernel)) (by decide +kernel)
theorem w_486 : (Cond.fieldLink "ThreeChainLedgerModel" (65 : Nat) "ThreeChainLedgerModel" "proposed" "[I") ∈ Mst := mst (List.mem_of_getElem? (i := 522) (by decide +kernel)) (by decide +kernel)
theorem w_487 : (Cond.fieldLink "ThreeChainLedgerModel" (68 : Nat) "ThreeChainLedgerModel" "saw" "[Z") ∈ Mst := mst (List.mem_of_getElem? (i := 523) (by decide +kernel)) (by decide +kernel)
theorem w_488 : (Cond.fieldLink "ThreeChainLedgerModel" (72 : Nat) "ThreeChainLedgerModel" "got" "[I") ∈ Mst := mst (List.mem_of_getElem? (i := 524) (by decide +kernel)) (by decide +kernel)
theorem w_489 : (Cond.fieldLink "ThreeChainLedgerModel" (75 : Nat) "ThreeChainLedgerModel" "claimed" "[I") ∈ Mst := mst (List.mem_of_getElem? (i := 525) (by decide +kernel)) (by decide +kernel)
theorem w_490 : (Cond.fieldLink "ThreeChainLedgerModel" (78 : Nat) "ThreeChainLedgerModel" "path" "[I") ∈ Mst := mst (List.mem_of_getElem? (i := 526) (by decide +kernel)) (by decide +kernel)
theorem w_491 : (Cond.fieldLink "ThreeChainLedgerModel" (81 : Nat) "ThreeChainLedgerModel" "purse" "[I") ∈ Mst := mst (List.mem_of_getElem? (i := 527) (by decide +kernel)) (by decide +kernel)
theorem w_492 : (Cond.fieldLink "ThreeChainLedgerModel" (84 : Nat) "ThreeChainLedgerModel" "fate" "[I") ∈ Mst := mst (List.mem_of_getElem? (i := 528) (by decide +kernel)) (by decide +kernel)
theorem w_558 : (Cond.arrayClass FieldType.boolean) ∈ Mst := mst (List.mem_of_getElem? (i := 594) (by decide +kernel)) (by decide +kernel)
theorem w_559 : (Cond.methodLink "ThreeChainLedgerLaw" (25 : Nat) y_M_submit) ∈ Mst := mst (List.mem_of_getElem? (i := 595) (by decide +kernel)) (by decide +kernel)
theorem w_560 : (Cond.instanceMethod y_M_submit) ∈ Mst := mst (List.mem_of_getElem? (i := 596) (by decide +kernel)) (by decide +kernel)
theorem w_561 : (Cond.selects "ThreeChainLedgerModel" y_M_submit y_M_submit) ∈ Mst := mst (List.mem_of_getElem? (i := 597) (by decide +kernel)) (by decide +kernel)
theorem w_562 : (Cond.code y_M_submit c_M_submit (5 : Nat) (Option.some FieldType.int)) ∈ Mst := mst (List.mem_of_getElem? (i := 598) (by decide +kernel)) (by decide +kernel)
theorem w_563 : (Cond.methodLink "ThreeChainLedgerLaw" (30 : Nat) y_M_lead) ∈ Mst := mst (List.mem_of_getElem? (i := 599) (by decide +kernel)) (by decide +kernel)
theorem w_564 : (Cond.instanceMethod y_M_lead) ∈ Mst := mst (List.mem_of_getElem? (i := 600) (by decide +kernel)) (by decide +kernel)
theorem w_565 : (Cond.selects "ThreeChainLedgerModel" y_M_lead y_M_lead) ∈ Mst := mst (List.mem_of_getElem? (i := 601) (by decide +kernel)) (by decide +kernel)
theorem w_566 : (Cond.code y_M_lead c_M_lead (11 : Nat) (Option.some FieldType.int)) ∈ Mst := mst (List.mem_of_getElem? (i := 602) (by decide +kernel)) (by decide +kernel)
theorem w_567 : (Cond.methodLink "ThreeChainLedgerModel" (140 : Nat) y_M_isCorrect) ∈ Mst := mst (List.mem_of_getElem? (i := 603) (by decide +kernel)) (by decide +kernel)
theorem w_569 : (Cond.instanceMethod y_M_isCorrect) ∈ Mst := mst (List.mem_of_getElem? (i := 605) (by decide +kernel)) (by decide +kernel)
theorem w_570 : (Cond.code y_M_isCorrect c_M_isCorrect (2 : Nat) (Option.some FieldType.boolean)) ∈ Mst := mst (List.mem_of_getElem? (i := 606) (by decide +kernel)) (by decide +kernel)
theorem w_571 : (Cond.methodLink "ThreeChainLedgerModel" (99 : Nat) y_M_isReplica) ∈ Mst := mst (List.mem_of_getElem? (i := 607) (by decide +kernel)) (by decide +kernel)
theorem w_573 : (Cond.instanceMethod y_M_isReplica) ∈ Mst := mst (List.mem_of_getElem? (i := 609) (by decide +kernel)) (by decide +kernel)
theorem w_574 : (Cond.code y_M_isReplica c_M_isReplica (2 : Nat) (Option.some FieldType.boolean)) ∈ Mst := mst (List.mem_of_getElem? (i := 610) (by decide +kernel)) (by decide +kernel)
theorem w_575 : (Cond.methodLink "ThreeChainLedgerModel" (127 : Nat) y_M_leader) ∈ Mst := mst (List.mem_of_getElem? (i := 611) (by decide +kernel)) (by decide +kernel)
theorem w_577 : (Cond.instanceMethod y_M_leader) ∈ Mst := mst (List.mem_of_getElem? (i := 613) (by decide +kernel)) (by decide +kernel)
theorem w_578 : (Cond.code y_M_leader c_M_leader (2 : Nat) (Option.some FieldType.int)) ∈ Mst := mst (List.mem_of_getElem? (i := 614) (by decide +kernel)) (by decide +kernel)
theorem w_579 : (Cond.methodLink "ThreeChainLedgerModel" (143 : Nat) y_M_high) ∈ Mst := mst (List.mem_of_getElem? (i := 615) (by decide +kernel)) (by decide +kernel)
theorem w_581 : (Cond.instanceMethod y_M_high) ∈ Mst := mst (List.mem_of_getElem? (i := 617) (by decide +kernel)) (by decide +kernel)
theorem w_582 : (Cond.code y_M_high c_M_high (4 : Nat) (Option.some FieldType.int)) ∈ Mst := mst (List.mem_of_getElem? (i := 618) (by decide +kernel)) (by decide +kernel)
theorem w_583 : (Cond.methodLink "ThreeChainLedgerModel" (134 : Nat) y_M_push) ∈ Mst := mst (List.mem_of_getElem? (i := 619) (by decide +kernel)) (by decide +kernel)
theorem w_585 : (Cond.instanceMethod y_M_push) ∈ Mst := mst (List.mem_of_getElem? (i := 621) (by decide +kernel)) (by decide +kernel)
theorem w_586 : (Cond.code y_M_push c_M_push (7 : Nat) (Option.some FieldType.int)) ∈ Mst := mst (List.mem_of_getElem? (i := 622) (by decide +kernel)) (by decide +kernel)
theorem w_587 : (Cond.methodLink "ThreeChainLedgerModel" (146 : Nat) y_M_newBlock) ∈ Mst := mst (List.mem_of_getElem? (i := 623) (by decide +kernel)) (by decide +kernel)
theorem w_589 : (Cond.instanceMethod y_M_newBlock) ∈ Mst := mst (List.mem_of_getElem? (i := 625) (by decide +kernel)) (by decide +kernel)
theorem w_590 : (Cond.code y_M_newBlock c_M_newBlock (4 : Nat) (Option.some FieldType.int)) ∈ Mst := mst (List.mem_of_getElem? (i := 626) (by decide +kernel)) (by decide +kernel)
theorem w_591 : (Cond.methodLink "ThreeChainLedgerModel" (130 : Nat) y_M_send) ∈ Mst := mst (List.mem_of_getElem? (i := 627) (by decide +kernel)) (by decide +kernel)
theorem w_593 : (Cond.instanceMethod y_M_send) ∈ Mst := mst (List.mem_of_getElem? (i := 629) (by decide +kernel)) (by decide +kernel)
theorem w_594 : (Cond.code y_M_send c_M_send (6 : Nat) (Option.none : Option FieldType)) ∈ Mst := mst (List.mem_of_getElem? (i := 630) (by decide +kernel)) (by decide +kernel)
theorem w_595 : (Cond.methodLink "ThreeChainLedgerLaw" (34 : Nat) y_M_tick) ∈ Mst := mst (List.mem_of_getElem? (i := 631) (by decide +kernel)) (by decide +kernel)
theorem w_596 : (Cond.instanceMethod y_M_tick) ∈ Mst := mst (List.mem_of_getElem? (i := 632) (by decide +kernel)) (by decide +kernel)
theorem w_597 : (Cond.selects "ThreeChainLedgerModel" y_M_tick y_M_tick) ∈ Mst := mst (List.mem_of_getElem? (i := 633) (by decide +kernel)) (by decide +kernel)
theorem w_598 : (Cond.code y_M_tick c_M_tick (4 : Nat) (Option.some FieldType.int)) ∈ Mst := mst (List.mem_of_getElem? (i := 634) (by decide +kernel)) (by decide +kernel)
theorem w_599 : (Cond.methodLink "ThreeChainLedgerModel" (113 : Nat) y_M_enter) ∈ Mst := mst (List.mem_of_getElem? (i := 635) (by decide +kernel)) (by decide +kernel)
theorem w_601 : (Cond.instanceMethod y_M_enter) ∈ Mst := mst (List.mem_of_getElem? (i := 637) (by decide +kernel)) (by decide +kernel)
theorem w_602 : (Cond.code y_M_enter c_M_enter (3 : Nat) (Option.none : Option FieldType)) ∈ Mst := mst (List.mem_of_getElem? (i := 638) (by decide +kernel)) (by decide +kernel)
theorem w_603 : (Cond.methodLink "ThreeChainLedgerLaw" (38 : Nat) y_M_deliver) ∈ Mst := mst (List.mem_of_getElem? (i := 639) (by decide +kernel)) (by decide +kernel)
theorem w_604 : (Cond.instanceMethod y_M_deliver) ∈ Mst := mst (List.mem_of_getElem? (i := 640) (by decide +kernel)) (by decide +kernel)
theorem w_605 : (Cond.selects "ThreeChainLedgerModel" y_M_deliver y_M_deliver) ∈ Mst := mst (List.mem_of_getElem? (i := 641) (by decide +kernel)) (by decide +kernel)
theorem w_606 : (Cond.code y_M_deliver c_M_deliver (7 : Nat) (Option.some FieldType.int)) ∈ Mst := mst (List.mem_of_getElem? (i := 642) (by decide +kernel)) (by decide +kernel)
theorem w_607 : (Cond.methodLink "ThreeChainLedgerModel" (150 : Nat) y_M_takeOut) ∈ Mst := mst (List.mem_of_getElem? (i := 643) (by decide +kernel)) (by decide +kernel)
theorem w_609 : (Cond.instanceMethod y_M_takeOut) ∈ Mst := mst (List.mem_of_getElem? (i := 645) (by decide +kernel)) (by decide +kernel)
theorem w_610 : (Cond.code y_M_takeOut c_M_takeOut (3 : Nat) (Option.none : Option FieldType)) ∈ Mst := mst (List.mem_of_getElem? (i := 646) (by decide +kernel)) (by decide +kernel)
theorem w_611 : (Cond.methodLink "ThreeChainLedgerModel" (154 : Nat) y_M_isCorrupt) ∈ Mst := mst (List.mem_of_getElem? (i := 647) (by decide +kernel)) (by decide +kernel)
theorem w_613 : (Cond.instanceMethod y_M_isCorrupt) ∈ Mst := mst (List.mem_of_getElem? (i := 649) (by decide +kernel)) (by decide +kernel)
theorem w_614 : (Cond.code y_M_isCorrupt c_M_isCorrupt (2 : Nat) (Option.some FieldType.boolean)) ∈ Mst := mst (List.mem_of_getElem? (i := 650) (by decide +kernel)) (by decide +kernel)
theorem w_615 : (Cond.methodLink "ThreeChainLedgerModel" (157 : Nat) y_M_getProposal) ∈ Mst := mst (List.mem_of_getElem? (i := 651) (by decide +kernel)) (by decide +kernel)
theorem w_617 : (Cond.instanceMethod y_M_getProposal) ∈ Mst := mst (List.mem_of_getElem? (i := 653) (by decide +kernel)) (by decide +kernel)
theorem w_618 : (Cond.code y_M_getProposal c_M_getProposal (7 : Nat) (Option.none : Option FieldType)) ∈ Mst := mst (List.mem_of_getElem? (i := 654) (by decide +kernel)) (by decide +kernel)
theorem w_619 : (Cond.methodLink "ThreeChainLedgerModel" (117 : Nat) y_M_see) ∈ Mst := mst (List.mem_of_getElem? (i := 655) (by decide +kernel)) (by decide +kernel)
theorem w_621 : (Cond.instanceMethod y_M_see) ∈ Mst := mst (List.mem_of_getElem? (i := 657) (by decide +kernel)) (by decide +kernel)
theorem w_622 : (Cond.code y_M_see c_M_see (3 : Nat) (Option.none : Option FieldType)) ∈ Mst := mst (List.mem_of_getElem? (i := 658) (by decide +kernel)) (by decide +kernel)
theorem w_623 : (Cond.methodLink "ThreeChainLedgerModel" (120 : Nat) y_M_lock) ∈ Mst := mst (List.mem_of_getElem? (i := 659) (by decide +kernel)) (by decide +kernel)
theorem w_625 : (Cond.instanceMethod y_M_lock) ∈ Mst := mst (List.mem_of_getElem? (i := 661) (by decide +kernel)) (by decide +kernel)
theorem w_626 : (Cond.code y_M_lock c_M_lock (4 : Nat) (Option.some FieldType.int)) ∈ Mst := mst (List.mem_of_getElem? (i := 662) (by decide +kernel)) (by decide +kernel)
theorem w_627 : (Cond.methodLink "ThreeChainLedgerModel" (123 : Nat) y_M_inChain) ∈ Mst := mst (List.mem_of_getElem? (i := 663) (by decide +kernel)) (by decide +kernel)
theorem w_629 : (Cond.instanceMethod y_M_inChain) ∈ Mst := mst (List.mem_of_getElem? (i := 665) (by decide +kernel)) (by decide +kernel)
theorem w_630 : (Cond.code y_M_inChain c_M_inChain (5 : Nat) (Option.some FieldType.boolean)) ∈ Mst := mst (List.mem_of_getElem? (i := 666) (by decide +kernel)) (by decide +kernel)
theorem w_631 : (Cond.methodLink "ThreeChainLedgerModel" (160 : Nat) y_M_getVote) ∈ Mst := mst (List.mem_of_getElem? (i := 667) (by decide +kernel)) (by decide +kernel)
theorem w_633 : (Cond.instanceMethod y_M_getVote) ∈ Mst := mst (List.mem_of_getElem? (i := 669) (by decide +kernel)) (by decide +kernel)
theorem w_634 : (Cond.code y_M_getVote c_M_getVote (4 : Nat) (Option.none : Option FieldType)) ∈ Mst := mst (List.mem_of_getElem? (i := 670) (by decide +kernel)) (by decide +kernel)
theorem w_635 : (Cond.methodLink "ThreeChainLedgerModel" (103 : Nat) y_M_size) ∈ Mst := mst (List.mem_of_getElem? (i := 671) (by decide +kernel)) (by decide +kernel)
theorem w_636 : (Cond.static y_M_size) ∈ Mst := mst (List.mem_of_getElem? (i := 672) (by decide +kernel)) (by decide +kernel)
theorem w_637 : (Cond.code y_M_size c_M_size (3 : Nat) (Option.some FieldType.int)) ∈ Mst := mst (List.mem_of_getElem? (i := 673) (by decide +kernel)) (by decide +kernel)
theorem w_638 : (Cond.methodLink "ThreeChainLedgerModel" (164 : Nat) y_M_getNewView) ∈ Mst := mst (List.mem_of_getElem? (i := 674) (by decide +kernel)) (by decide +kernel)
theorem w_640 : (Cond.instanceMethod y_M_getNewView) ∈ Mst := mst (List.mem_of_getElem? (i := 676) (by decide +kernel)) (by decide +kernel)
theorem w_641 : (Cond.code y_M_getNewView c_M_getNewView (6 : Nat) (Option.none : Option FieldType)) ∈ Mst := mst (List.mem_of_getElem? (i := 677) (by decide +kernel)) (by decide +kernel)
theorem w_642 : (Cond.methodLink "ThreeChainLedgerLaw" (42 : Nat) y_M_flow) ∈ Mst := mst (List.mem_of_getElem? (i := 678) (by decide +kernel)) (by decide +kernel)
theorem w_643 : (Cond.instanceMethod y_M_flow) ∈ Mst := mst (List.mem_of_getElem? (i := 679) (by decide +kernel)) (by decide +kernel)
theorem w_644 : (Cond.selects "ThreeChainLedgerModel" y_M_flow y_M_flow) ∈ Mst := mst (List.mem_of_getElem? (i := 680) (by decide +kernel)) (by decide +kernel)
theorem w_645 : (Cond.code y_M_flow c_M_flow (3 : Nat) (Option.some FieldType.int)) ∈ Mst := mst (List.mem_of_getElem? (i := 681) (by decide +kernel)) (by decide +kernel)
theorem w_646 : (Cond.methodLink "ThreeChainLedgerModel" (168 : Nat) y_M_deliver) ∈ Mst := mst (List.mem_of_getElem? (i := 682) (by decide +kernel)) (by decide +kernel)
theorem w_647 : (Cond.methodLink "ThreeChainLedgerLaw" (47 : Nat) y_M_drop) ∈ Mst := mst (List.mem_of_getElem? (i := 683) (by decide +kernel)) (by decide +kernel)
theorem w_648 : (Cond.instanceMethod y_M_drop) ∈ Mst := mst (List.mem_of_getElem? (i := 684) (by decide +kernel)) (by decide +kernel)
theorem w_649 : (Cond.selects "ThreeChainLedgerModel" y_M_drop y_M_drop) ∈ Mst := mst (List.mem_of_getElem? (i := 685) (by decide +kernel)) (by decide +kernel)
theorem w_650 : (Cond.code y_M_drop c_M_drop (2 : Nat) (Option.some FieldType.boolean)) ∈ Mst := mst (List.mem_of_getElem? (i := 686) (by decide +kernel)) (by decide +kernel)
theorem w_651 : (Cond.methodLink "ThreeChainLedgerLaw" (52 : Nat) y_M_forge) ∈ Mst := mst (List.mem_of_getElem? (i := 687) (by decide +kernel)) (by decide +kernel)
theorem w_652 : (Cond.instanceMethod y_M_forge) ∈ Mst := mst (List.mem_of_getElem? (i := 688) (by decide +kernel)) (by decide +kernel)
theorem w_653 : (Cond.selects "ThreeChainLedgerModel" y_M_forge y_M_forge) ∈ Mst := mst (List.mem_of_getElem? (i := 689) (by decide +kernel)) (by decide +kernel)
theorem w_654 : (Cond.code y_M_forge c_M_forge (5 : Nat) (Option.some FieldType.int)) ∈ Mst := mst (List.mem_of_getElem? (i := 690) (by decide +kernel)) (by decide +kernel)
theorem w_655 : (Cond.methodLink "ThreeChainLedgerModel" (171 : Nat) y_M_isBlock) ∈ Mst := mst (List.mem_of_getElem? (i := 691) (by decide +kernel)) (by decide +kernel)
theorem w_657 : (Cond.instanceMethod y_M_isBlock) ∈ Mst := mst (List.mem_of_getElem? (i := 693) (by decide +kernel)) (by decide +kernel)
theorem w_658 : (Cond.code y_M_isBlock c_M_isBlock (2 : Nat) (Option.some FieldType.boolean)) ∈ Mst := mst (List.mem_of_getElem? (i := 694) (by decide +kernel)) (by decide +kernel)
theorem w_659 : (Cond.methodLink "ThreeChainLedgerModel" (174 : Nat) y_M_certified) ∈ Mst := mst (List.mem_of_getElem? (i := 695) (by decide +kernel)) (by decide +kernel)
theorem w_661 : (Cond.instanceMethod y_M_certified) ∈ Mst := mst (List.mem_of_getElem? (i := 697) (by decide +kernel)) (by decide +kernel)
theorem w_662 : (Cond.code y_M_certified c_M_certified (2 : Nat) (Option.some FieldType.boolean)) ∈ Mst := mst (List.mem_of_getElem? (i := 698) (by decide +kernel)) (by decide +kernel)
theorem w_663 : (Cond.methodLink "ThreeChainLedgerLaw" (57 : Nat) y_M_offer) ∈ Mst := mst (List.mem_of_getElem? (i := 699) (by decide +kernel)) (by decide +kernel)
theorem w_664 : (Cond.instanceMethod y_M_offer) ∈ Mst := mst (List.mem_of_getElem? (i := 700) (by decide +kernel)) (by decide +kernel)
theorem w_665 : (Cond.selects "ThreeChainLedgerModel" y_M_offer y_M_offer) ∈ Mst := mst (List.mem_of_getElem? (i := 701) (by decide +kernel)) (by decide +kernel)
theorem w_666 : (Cond.code y_M_offer c_M_offer (3 : Nat) (Option.some FieldType.boolean)) ∈ Mst := mst (List.mem_of_getElem? (i := 702) (by decide +kernel)) (by decide +kernel)
theorem w_667 : (Cond.methodLink "ThreeChainLedgerLaw" (62 : Nat) y_M_vote) ∈ Mst := mst (List.mem_of_getElem? (i := 703) (by decide +kernel)) (by decide +kernel)
theorem w_668 : (Cond.instanceMethod y_M_vote) ∈ Mst := mst (List.mem_of_getElem? (i := 704) (by decide +kernel)) (by decide +kernel)
theorem w_669 : (Cond.selects "ThreeChainLedgerModel" y_M_vote y_M_vote) ∈ Mst := mst (List.mem_of_getElem? (i := 705) (by decide +kernel)) (by decide +kernel)
theorem w_670 : (Cond.code y_M_vote c_M_vote (4 : Nat) (Option.some FieldType.boolean)) ∈ Mst := mst (List.mem_of_getElem? (i := 706) (by decide +kernel)) (by decide +kernel)
theorem w_671 : (Cond.methodLink "ThreeChainLedgerLaw" (67 : Nat) y_M_claim) ∈ Mst := mst (List.mem_of_getElem? (i := 707) (by decide +kernel)) (by decide +kernel)
theorem w_672 : (Cond.instanceMethod y_M_claim) ∈ Mst := mst (List.mem_of_getElem? (i := 708) (by decide +kernel)) (by decide +kernel)
theorem w_673 : (Cond.selects "ThreeChainLedgerModel" y_M_claim y_M_claim) ∈ Mst := mst (List.mem_of_getElem? (i := 709) (by decide +kernel)) (by decide +kernel)
theorem w_674 : (Cond.code y_M_claim c_M_claim (5 : Nat) (Option.some FieldType.boolean)) ∈ Mst := mst (List.mem_of_getElem? (i := 710) (by decide +kernel)) (by decide +kernel)
theorem w_675 : (Cond.methodLink "ThreeChainLedgerLaw" (72 : Nat) y_M_waiting) ∈ Mst := mst (List.mem_of_getElem? (i := 711) (by decide +kernel)) (by decide +kernel)
theorem w_676 : (Cond.instanceMethod y_M_waiting) ∈ Mst := mst (List.mem_of_getElem? (i := 712) (by decide +kernel)) (by decide +kernel)
theorem w_677 : (Cond.selects "ThreeChainLedgerModel" y_M_waiting y_M_waiting) ∈ Mst := mst (List.mem_of_getElem? (i := 713) (by decide +kernel)) (by decide +kernel)
theorem w_678 : (Cond.code y_M_waiting c_M_waiting (1 : Nat) (Option.some FieldType.int)) ∈ Mst := mst (List.mem_of_getElem? (i := 714) (by decide +kernel)) (by decide +kernel)
theorem w_679 : (Cond.methodLink "ThreeChainLedgerLaw" (76 : Nat) y_M_message) ∈ Mst := mst (List.mem_of_getElem? (i := 715) (by decide +kernel)) (by decide +kernel)
theorem w_680 : (Cond.instanceMethod y_M_message) ∈ Mst := mst (List.mem_of_getElem? (i := 716) (by decide +kernel)) (by decide +kernel)
theorem w_681 : (Cond.selects "ThreeChainLedgerModel" y_M_message y_M_message) ∈ Mst := mst (List.mem_of_getElem? (i := 717) (by decide +kernel)) (by decide +kernel)
theorem w_682 : (Cond.code y_M_message c_M_message (2 : Nat) (Option.some FieldType.int)) ∈ Mst := mst (List.mem_of_getElem? (i := 718) (by decide +kernel)) (by decide +kernel)
theorem w_683 : (Cond.methodLink "ThreeChainLedgerLaw" (80 : Nat) y_M_block) ∈ Mst := mst (List.mem_of_getElem? (i := 719) (by decide +kernel)) (by decide +kernel)
theorem w_684 : (Cond.instanceMethod y_M_block) ∈ Mst := mst (List.mem_of_getElem? (i := 720) (by decide +kernel)) (by decide +kernel)
theorem w_685 : (Cond.selects "ThreeChainLedgerModel" y_M_block y_M_block) ∈ Mst := mst (List.mem_of_getElem? (i := 721) (by decide +kernel)) (by decide +kernel)
theorem w_686 : (Cond.code y_M_block c_M_block (2 : Nat) (Option.some FieldType.int)) ∈ Mst := mst (List.mem_of_getElem? (i := 722) (by decide +kernel)) (by decide +kernel)
theorem w_687 : (Cond.methodLink "ThreeChainLedgerLaw" (84 : Nat) y_M_payload) ∈ Mst := mst (List.mem_of_getElem? (i := 723) (by decide +kernel)) (by decide +kernel)
theorem w_688 : (Cond.instanceMethod y_M_payload) ∈ Mst := mst (List.mem_of_getElem? (i := 724) (by decide +kernel)) (by decide +kernel)
theorem w_689 : (Cond.selects "ThreeChainLedgerModel" y_M_payload y_M_payload) ∈ Mst := mst (List.mem_of_getElem? (i := 725) (by decide +kernel)) (by decide +kernel)
theorem w_690 : (Cond.code y_M_payload c_M_payload (2 : Nat) (Option.some FieldType.int)) ∈ Mst := mst (List.mem_of_getElem? (i := 726) (by decide +kernel)) (by decide +kernel)
theorem w_691 : (Cond.methodLink "ThreeChainLedgerLaw" (88 : Nat) y_M_votes) ∈ Mst := mst (List.mem_of_getElem? (i := 727) (by decide +kernel)) (by decide +kernel)
theorem w_692 : (Cond.instanceMethod y_M_votes) ∈ Mst := mst (List.mem_of_getElem? (i := 728) (by decide +kernel)) (by decide +kernel)
theorem w_693 : (Cond.selects "ThreeChainLedgerModel" y_M_votes y_M_votes) ∈ Mst := mst (List.mem_of_getElem? (i := 729) (by decide +kernel)) (by decide +kernel)
theorem w_694 : (Cond.code y_M_votes c_M_votes (2 : Nat) (Option.some FieldType.int)) ∈ Mst := mst (List.mem_of_getElem? (i := 730) (by decide +kernel)) (by decide +kernel)
theorem w_695 : (Cond.methodLink "ThreeChainLedgerLaw" (93 : Nat) y_M_state) ∈ Mst := mst (List.mem_of_getElem? (i := 731) (by decide +kernel)) (by decide +kernel)
theorem w_696 : (Cond.instanceMethod y_M_state) ∈ Mst := mst (List.mem_of_getElem? (i := 732) (by decide +kernel)) (by decide +kernel)
theorem w_697 : (Cond.selects "ThreeChainLedgerModel" y_M_state y_M_state) ∈ Mst := mst (List.mem_of_getElem? (i := 733) (by decide +kernel)) (by decide +kernel)
theorem w_698 : (Cond.code y_M_state c_M_state (3 : Nat) (Option.some FieldType.int)) ∈ Mst := mst (List.mem_of_getElem? (i := 734) (by decide +kernel)) (by decide +kernel)
theorem w_699 : (Cond.methodLink "ThreeChainLedgerModel" (177 : Nat) y_M_tip) ∈ Mst := mst (List.mem_of_getElem? (i := 735) (by decide +kernel)) (by decide +kernel)
theorem w_701 : (Cond.instanceMethod y_M_tip) ∈ Mst := mst (List.mem_of_getElem? (i := 737) (by decide +kernel)) (by decide +kernel)
theorem w_702 : (Cond.code y_M_tip c_M_tip (7 : Nat) (Option.some FieldType.int)) ∈ Mst := mst (List.mem_of_getElem? (i := 738) (by decide +kernel)) (by decide +kernel)
theorem w_703 : (Cond.methodLink "ThreeChainLedgerLaw" (97 : Nat) y_M_committed) ∈ Mst := mst (List.mem_of_getElem? (i := 739) (by decide +kernel)) (by decide +kernel)
theorem w_704 : (Cond.instanceMethod y_M_committed) ∈ Mst := mst (List.mem_of_getElem? (i := 740) (by decide +kernel)) (by decide +kernel)
theorem w_705 : (Cond.selects "ThreeChainLedgerModel" y_M_committed y_M_committed) ∈ Mst := mst (List.mem_of_getElem? (i := 741) (by decide +kernel)) (by decide +kernel)
theorem w_706 : (Cond.code y_M_committed c_M_committed (4 : Nat) (Option.some FieldType.int)) ∈ Mst := mst (List.mem_of_getElem? (i := 742) (by decide +kernel)) (by decide +kernel)
theorem w_707 : (Cond.methodLink "ThreeChainLedgerModel" (180 : Nat) y_M_layOut) ∈ Mst := mst (List.mem_of_getElem? (i := 743) (by decide +kernel)) (by decide +kernel)
theorem w_709 : (Cond.instanceMethod y_M_layOut) ∈ Mst := mst (List.mem_of_getElem? (i := 745) (by decide +kernel)) (by decide +kernel)
theorem w_710 : (Cond.code y_M_layOut c_M_layOut (6 : Nat) (Option.some FieldType.int)) ∈ Mst := mst (List.mem_of_getElem? (i := 746) (by decide +kernel)) (by decide +kernel)
theorem w_711 : (Cond.methodLink "ThreeChainLedgerLaw" (101 : Nat) y_M_balance) ∈ Mst := mst (List.mem_of_getElem? (i := 747) (by decide +kernel)) (by decide +kernel)
theorem w_712 : (Cond.instanceMethod y_M_balance) ∈ Mst := mst (List.mem_of_getElem? (i := 748) (by decide +kernel)) (by decide +kernel)
theorem w_713 : (Cond.selects "ThreeChainLedgerModel" y_M_balance y_M_balance) ∈ Mst := mst (List.mem_of_getElem? (i := 749) (by decide +kernel)) (by decide +kernel)
theorem w_714 : (Cond.code y_M_balance c_M_balance (3 : Nat) (Option.some FieldType.int)) ∈ Mst := mst (List.mem_of_getElem? (i := 750) (by decide +kernel)) (by decide +kernel)
theorem w_715 : (Cond.methodLink "ThreeChainLedgerModel" (183 : Nat) y_M_goThrough) ∈ Mst := mst (List.mem_of_getElem? (i := 751) (by decide +kernel)) (by decide +kernel)
theorem w_717 : (Cond.instanceMethod y_M_goThrough) ∈ Mst := mst (List.mem_of_getElem? (i := 753) (by decide +kernel)) (by decide +kernel)
theorem w_718 : (Cond.code y_M_goThrough c_M_goThrough (5 : Nat) (Option.none : Option FieldType)) ∈ Mst := mst (List.mem_of_getElem? (i := 754) (by decide +kernel)) (by decide +kernel)
theorem w_719 : (Cond.methodLink "ThreeChainLedgerLaw" (105 : Nat) y_M_outcome) ∈ Mst := mst (List.mem_of_getElem? (i := 755) (by decide +kernel)) (by decide +kernel)
theorem w_720 : (Cond.instanceMethod y_M_outcome) ∈ Mst := mst (List.mem_of_getElem? (i := 756) (by decide +kernel)) (by decide +kernel)
theorem w_721 : (Cond.selects "ThreeChainLedgerModel" y_M_outcome y_M_outcome) ∈ Mst := mst (List.mem_of_getElem? (i := 757) (by decide +kernel)) (by decide +kernel)
theorem w_722 : (Cond.code y_M_outcome c_M_outcome (3 : Nat) (Option.some FieldType.int)) ∈ Mst := mst (List.mem_of_getElem? (i := 758) (by decide +kernel)) (by decide +kernel)
theorem w_723 : (Cond.methodLink "ThreeChainLedgerLaw" (109 : Nat) y_M_lost) ∈ Mst := mst (List.mem_of_getElem? (i := 759) (by decide +kernel)) (by decide +kernel)
theorem w_724 : (Cond.instanceMethod y_M_lost) ∈ Mst := mst (List.mem_of_getElem? (i := 760) (by decide +kernel)) (by decide +kernel)
theorem w_725 : (Cond.selects "ThreeChainLedgerModel" y_M_lost y_M_lost) ∈ Mst := mst (List.mem_of_getElem? (i := 761) (by decide +kernel)) (by decide +kernel)
theorem w_726 : (Cond.code y_M_lost c_M_lost (1 : Nat) (Option.some FieldType.int)) ∈ Mst := mst (List.mem_of_getElem? (i := 762) (by decide +kernel)) (by decide +kernel)
theorem ws_0 : Cond.selects "ThreeChainLedger" y_T_isCorrect y_T_isCorrect ∈ Mst := mst (List.mem_of_getElem? (i := 0) (by decide +kernel)) (by decide +kernel)
theorem ws_1 : Cond.selects "ThreeChainLedger" y_T_isReplica y_T_isReplica ∈ Mst := mst (List.mem_of_getElem? (i := 1) (by decide +kernel)) (by decide +kernel)
theorem ws_2 : Cond.selects "ThreeChainLedger" y_T_mayPropose y_T_mayPropose ∈ Mst := mst (List.mem_of_getElem? (i := 2) (by decide +kernel)) (by decide +kernel)
theorem ws_3 : Cond.selects "ThreeChainLedger" y_T_leaderOf y_T_leaderOf ∈ Mst := mst (List.mem_of_getElem? (i := 3) (by decide +kernel)) (by decide +kernel)
theorem ws_4 : Cond.selects "ThreeChainLedger$Replica" y_Rp_countFrom y_Rp_countFrom ∈ Mst := mst (List.mem_of_getElem? (i := 4) (by decide +kernel)) (by decide +kernel)
theorem ws_5 : Cond.selects "ThreeChainLedger" y_T_handOver y_T_handOver ∈ Mst := mst (List.mem_of_getElem? (i := 5) (by decide +kernel)) (by decide +kernel)
theorem ws_6 : Cond.selects "ThreeChainLedger" y_T_getProposal y_T_getProposal ∈ Mst := mst (List.mem_of_getElem? (i := 6) (by decide +kernel)) (by decide +kernel)
theorem ws_7 : Cond.selects "ThreeChainLedger" y_T_isSafe y_T_isSafe ∈ Mst := mst (List.mem_of_getElem? (i := 7) (by decide +kernel)) (by decide +kernel)
theorem ws_8 : Cond.selects "ThreeChainLedger" y_T_getVote y_T_getVote ∈ Mst := mst (List.mem_of_getElem? (i := 8) (by decide +kernel)) (by decide +kernel)
theorem ws_9 : Cond.selects "ThreeChainLedger" y_T_getNewView y_T_getNewView ∈ Mst := mst (List.mem_of_getElem? (i := 9) (by decide +kernel)) (by decide +kernel)
theorem ws_10 : Cond.selects "ThreeChainLedger" y_T_hasCertificate y_T_hasCertificate ∈ Mst := mst (List.mem_of_getElem? (i := 10) (by decide +kernel)) (by decide +kernel)
theorem ws_11 : Cond.selects "ThreeChainLedger" y_T_isCorrupt y_T_isCorrupt ∈ Mst := mst (List.mem_of_getElem? (i := 11) (by decide +kernel)) (by decide +kernel)
theorem ws_12 : Cond.selects "ThreeChainLedger" y_T_maySend y_T_maySend ∈ Mst := mst (List.mem_of_getElem? (i := 12) (by decide +kernel)) (by decide +kernel)
theorem ws_13 : Cond.selects "ThreeChainLedger$Ledger" y_Le_settle y_Le_settle ∈ Mst := mst (List.mem_of_getElem? (i := 13) (by decide +kernel)) (by decide +kernel)
theorem ws_14 : Cond.selects "ThreeChainLedger$Ledger" y_Le_pay y_Le_pay ∈ Mst := mst (List.mem_of_getElem? (i := 14) (by decide +kernel)) (by decide +kernel)
theorem ws_15 : Cond.selects "ThreeChainLedgerModel" y_M_isCorrect y_M_isCorrect ∈ Mst := mst (List.mem_of_getElem? (i := 15) (by decide +kernel)) (by decide +kernel)
theorem ws_16 : Cond.selects "ThreeChainLedgerModel" y_M_isReplica y_M_isReplica ∈ Mst := mst (List.mem_of_getElem? (i := 16) (by decide +kernel)) (by decide +kernel)
theorem ws_17 : Cond.selects "ThreeChainLedgerModel" y_M_leader y_M_leader ∈ Mst := mst (List.mem_of_getElem? (i := 17) (by decide +kernel)) (by decide +kernel)
theorem ws_18 : Cond.selects "ThreeChainLedgerModel" y_M_high y_M_high ∈ Mst := mst (List.mem_of_getElem? (i := 18) (by decide +kernel)) (by decide +kernel)
theorem ws_19 : Cond.selects "ThreeChainLedgerModel" y_M_push y_M_push ∈ Mst := mst (List.mem_of_getElem? (i := 19) (by decide +kernel)) (by decide +kernel)
theorem ws_20 : Cond.selects "ThreeChainLedgerModel" y_M_newBlock y_M_newBlock ∈ Mst := mst (List.mem_of_getElem? (i := 20) (by decide +kernel)) (by decide +kernel)
theorem ws_21 : Cond.selects "ThreeChainLedgerModel" y_M_send y_M_send ∈ Mst := mst (List.mem_of_getElem? (i := 21) (by decide +kernel)) (by decide +kernel)
theorem ws_22 : Cond.selects "ThreeChainLedgerModel" y_M_enter y_M_enter ∈ Mst := mst (List.mem_of_getElem? (i := 22) (by decide +kernel)) (by decide +kernel)
theorem ws_23 : Cond.selects "ThreeChainLedgerModel" y_M_takeOut y_M_takeOut ∈ Mst := mst (List.mem_of_getElem? (i := 23) (by decide +kernel)) (by decide +kernel)
theorem ws_24 : Cond.selects "ThreeChainLedgerModel" y_M_isCorrupt y_M_isCorrupt ∈ Mst := mst (List.mem_of_getElem? (i := 24) (by decide +kernel)) (by decide +kernel)
theorem ws_25 : Cond.selects "ThreeChainLedgerModel" y_M_getProposal y_M_getProposal ∈ Mst := mst (List.mem_of_getElem? (i := 25) (by decide +kernel)) (by decide +kernel)
theorem ws_26 : Cond.selects "ThreeChainLedgerModel" y_M_see y_M_see ∈ Mst := mst (List.mem_of_getElem? (i := 26) (by decide +kernel)) (by decide +kernel)
theorem ws_27 : Cond.selects "ThreeChainLedgerModel" y_M_lock y_M_lock ∈ Mst := mst (List.mem_of_getElem? (i := 27) (by decide +kernel)) (by decide +kernel)
theorem ws_28 : Cond.selects "ThreeChainLedgerModel" y_M_inChain y_M_inChain ∈ Mst := mst (List.mem_of_getElem? (i := 28) (by decide +kernel)) (by decide +kernel)
theorem ws_29 : Cond.selects "ThreeChainLedgerModel" y_M_getVote y_M_getVote ∈ Mst := mst (List.mem_of_getElem? (i := 29) (by decide +kernel)) (by decide +kernel)
theorem ws_30 : Cond.selects "ThreeChainLedgerModel" y_M_getNewView y_M_getNewView ∈ Mst := mst (List.mem_of_getElem? (i := 30) (by decide +kernel)) (by decide +kernel)
theorem ws_31 : Cond.selects "ThreeChainLedgerModel" y_M_isBlock y_M_isBlock ∈ Mst := mst (List.mem_of_getElem? (i := 31) (by decide +kernel)) (by decide +kernel)
theorem ws_32 : Cond.selects "ThreeChainLedgerModel" y_M_certified y_M_certified ∈ Mst := mst (List.mem_of_getElem? (i := 32) (by decide +kernel)) (by decide +kernel)
theorem ws_33 : Cond.selects "ThreeChainLedgerModel" y_M_tip y_M_tip ∈ Mst := mst (List.mem_of_getElem? (i := 33) (by decide +kernel)) (by decide +kernel)
theorem ws_34 : Cond.selects "ThreeChainLedgerModel" y_M_layOut y_M_layOut ∈ Mst := mst (List.mem_of_getElem? (i := 34) (by decide +kernel)) (by decide +kernel)
theorem ws_35 : Cond.selects "ThreeChainLedgerModel" y_M_goThrough y_M_goThrough ∈ Mst := mst (List.mem_of_getElem? (i := 35) (by decide +kernel)) (by decide +kernel)
end
section
def up2 (S : Nat → Nat → Nat) (k j v : Nat) : Nat → Nat → Nat := va_up S k (va_up (S k) j v)
theorem up2_row (S : Nat → Nat → Nat) (k j v : Nat) : up2 S k j v k = va_up (S k) j v := va_up_self _ _ _
theorem up2_ne (S : Nat → Nat → Nat) {k i : Nat} (j v : Nat) (h : i ≠ k) : up2 S k j v i = S i := va_up_ne _ _ h
theorem up2_at (S : Nat → Nat → Nat) (k j v i x : Nat) : up2 S k j v i x = if i = k ∧ x = j then v else S i x := by
  by_cases h : i = k
  · subst h
    rw [up2_row]
    by_cases hx : x = j
    · simp [va_up, hx]
    · simp [va_up, hx]
  · rw [up2_ne S j v h]
    simp [h]
def wl (K : Nat) (ad : Nat → Nat) (E : Nat → (Nat → Nat) → va_E) (S : Nat → Nat → Nat) : va_W := (List.range K).map (fun i => (ad i, E i (S i)))
theorem wl_len {K : Nat} {ad : Nat → Nat} {E : Nat → (Nat → Nat) → va_E} {S : Nat → Nat → Nat} : (wl K ad E S).length = K := by simp [wl]
theorem wl_at {K i : Nat} {ad : Nat → Nat} {E : Nat → (Nat → Nat) → va_E} {S : Nat → Nat → Nat} (h : i < K) : (wl K ad E S)[i]? = some (ad i, E i (S i)) := by
  unfold wl
  rw [List.getElem?_map, List.getElem?_range h]
  rfl
theorem wl_set {K i : Nat} {ad : Nat → Nat} {E : Nat → (Nat → Nat) → va_E} {S : Nat → Nat → Nat} (h : i < K) {x : va_E} {r : Nat → Nat} (he : E i r = x) : (wl K ad E S).set i (ad i, x) = wl K ad E (va_up S i r) := by
  apply List.ext_getElem?
  intro k
  by_cases hk : k = i
  · subst hk
    rw [List.getElem?_set_self (by rw [wl_len]; exact h), wl_at h, va_up_self, he]
  · rw [List.getElem?_set_ne (fun q => hk q.symm)]
    by_cases hkK : k < K
    · rw [wl_at hkK, wl_at hkK, va_up_ne _ _ hk]
    · rw [List.getElem?_eq_none (by rw [wl_len]; omega), List.getElem?_eq_none (by rw [wl_len]; omega)]
theorem upd_nI (r : Nat → Nat) (j v : Nat) : upd (fun q => nI (r q)) j (nI v) = fun q => nI (va_up r j v q) := by
  funext q
  by_cases h : q = j
  · simp [upd, va_up, h]
  · simp [upd, va_up, h]
theorem upd_lN (r : Nat → Nat) (j v : Nat) : vp_updL (fun q => lN (r q)) j (lN v) = fun q => lN (va_up r j v q) := by
  funext q
  by_cases h : q = j
  · simp [vp_updL, va_up, h]
  · simp [vp_updL, va_up, h]
theorem nI_or (a b : Nat) : nI a ||| nI b = nI (a ||| b) := by
  apply Int32.toBitVec_inj.1
  show BitVec.ofNat 32 a ||| BitVec.ofNat 32 b = BitVec.ofNat 32 (a ||| b)
  apply BitVec.eq_of_getLsbD_eq
  intro i hi
  simp [hi]
theorem nI_and (a b : Nat) : nI a &&& nI b = nI (a &&& b) := by
  apply Int32.toBitVec_inj.1
  show BitVec.ofNat 32 a &&& BitVec.ofNat 32 b = BitVec.ofNat 32 (a &&& b)
  apply BitVec.eq_of_getLsbD_eq
  intro i hi
  simp [hi]
theorem nI_s31 : ∀ n, n < 32 → ((nI n &&& 31).toBitVec.smod 32).toNat = n := by decide +kernel
theorem nI_u31 : ∀ n, n < 32 → (((nI n).toUInt32 &&& Int32.toUInt32 31).toBitVec % 32).toNat = n := by decide +kernel
theorem nI_shl {a b : Nat} (hb : b < 32) (h : a * 2 ^ b < 2 ^ 32) : nI a <<< (nI b &&& 31) = nI (a * 2 ^ b) := pk_shlN _ b (nI_s31 b hb) h
theorem nI_shr {a b : Nat} (ha : a < 2 ^ 31) (hb : b < 32) : nI a >>> (nI b &&& 31) = nI (a / 2 ^ b) := pk_shrN ha _ b (nI_s31 b hb)
theorem nI_ushr {a b : Nat} (ha : a < 2 ^ 32) (hb : b < 32) : ((nI a).toUInt32 >>> ((nI b).toUInt32 &&& Int32.toUInt32 31)).toInt32 = nI (a / 2 ^ b) := pk_ushrN ha _ b (nI_u31 b hb)
theorem nI_and1 (a : Nat) : nI a &&& nI 1 = nI (a % 2) := by rw [nI_and, Nat.and_one_is_mod]
theorem nI_lit (n : Nat) : Int32.ofInt (n : Int) = nI n := rfl
section NR
variable {p : Program} {l : Launch} {e : Env} {R : Room} {s : State} {m : MethodId} {args : Array Value} {below : List Frame} {meth : Method} {c : Code} {H : Heap} {locs : List Loc} {cells slots : Nat} {Q : State → Prop}
variable {cc : ByteArray} {pc : Nat} {ls : Array Slot} {rest : List Value}
theorem n_iadd (hx : p.tables.exec = Jvm.exec) (hb : c.code = cc) {a b : Nat}  (hdg : decode cc pc = .ok (.iadd, 1)) (k : W p l e R s m args below meth c H locs cells slots Q (F0 m (pc + 1) ls (.int (nI (a + b)) :: rest))) : W p l e R s m args below meth c H locs cells slots Q (F0 m pc ls (.int (nI b) :: .int (nI a) :: rest)) := lv_iadd hx hb hdg (by rw [nI_add]; exact k)
theorem n_isub (hx : p.tables.exec = Jvm.exec) (hb : c.code = cc) {a b : Nat} (h : b ≤ a) (hdg : decode cc pc = .ok (.isub, 1)) (k : W p l e R s m args below meth c H locs cells slots Q (F0 m (pc + 1) ls (.int (nI (a - b)) :: rest))) : W p l e R s m args below meth c H locs cells slots Q (F0 m pc ls (.int (nI b) :: .int (nI a) :: rest)) := lv_isub hx hb hdg (by rw [pk_sub h]; exact k)
theorem n_imul (hx : p.tables.exec = Jvm.exec) (hb : c.code = cc) {a b : Nat}  (hdg : decode cc pc = .ok (.imul, 1)) (k : W p l e R s m args below meth c H locs cells slots Q (F0 m (pc + 1) ls (.int (nI (a * b)) :: rest))) : W p l e R s m args below meth c H locs cells slots Q (F0 m pc ls (.int (nI b) :: .int (nI a) :: rest)) := lv_imul hx hb hdg (by rw [pk_mul]; exact k)
theorem n_iand (hx : p.tables.exec = Jvm.exec) (hb : c.code = cc) {a b : Nat}  (hdg : decode cc pc = .ok (.iand, 1)) (k : W p l e R s m args below meth c H locs cells slots Q (F0 m (pc + 1) ls (.int (nI (a &&& b)) :: rest))) : W p l e R s m args below meth c H locs cells slots Q (F0 m pc ls (.int (nI b) :: .int (nI a) :: rest)) := lv_iand hx hb hdg (by rw [nI_and]; exact k)
theorem n_ior (hx : p.tables.exec = Jvm.exec) (hb : c.code = cc) {a b : Nat}  (hdg : decode cc pc = .ok (.ior, 1)) (k : W p l e R s m args below meth c H locs cells slots Q (F0 m (pc + 1) ls (.int (nI (a ||| b)) :: rest))) : W p l e R s m args below meth c H locs cells slots Q (F0 m pc ls (.int (nI b) :: .int (nI a) :: rest)) := lv_ior hx hb hdg (by rw [nI_or]; exact k)
theorem n_ishl (hx : p.tables.exec = Jvm.exec) (hb : c.code = cc) {a b : Nat} (h1 : b < 32) (h2 : a * 2 ^ b < 2 ^ 32) (hdg : decode cc pc = .ok (.ishl, 1)) (k : W p l e R s m args below meth c H locs cells slots Q (F0 m (pc + 1) ls (.int (nI (a * 2 ^ b)) :: rest))) : W p l e R s m args below meth c H locs cells slots Q (F0 m pc ls (.int (nI b) :: .int (nI a) :: rest)) := lv_ishl hx hb hdg (by rw [nI_shl h1 h2]; exact k)
theorem n_ishr (hx : p.tables.exec = Jvm.exec) (hb : c.code = cc) {a b : Nat} (h1 : a < 2 ^ 31) (h2 : b < 32) (hdg : decode cc pc = .ok (.ishr, 1)) (k : W p l e R s m args below meth c H locs cells slots Q (F0 m (pc + 1) ls (.int (nI (a / 2 ^ b)) :: rest))) : W p l e R s m args below meth c H locs cells slots Q (F0 m pc ls (.int (nI b) :: .int (nI a) :: rest)) := lv_ishr hx hb hdg (by rw [nI_shr h1 h2]; exact k)
theorem n_iushr (hx : p.tables.exec = Jvm.exec) (hb : c.code = cc) {a b : Nat} (h1 : a < 2 ^ 32) (h2 : b < 32) (hdg : decode cc pc = .ok (.iushr, 1)) (k : W p l e R s m args below meth c H locs cells slots Q (F0 m (pc + 1) ls (.int (nI (a / 2 ^ b)) :: rest))) : W p l e R s m args below meth c H locs cells slots Q (F0 m pc ls (.int (nI b) :: .int (nI a) :: rest)) := lv_iushr hx hb hdg (nI_ushr h1 h2) k
theorem n_and1 (hx : p.tables.exec = Jvm.exec) (hb : c.code = cc) {a : Nat} (hdg : decode cc pc = .ok (.iand, 1)) (k : W p l e R s m args below meth c H locs cells slots Q (F0 m (pc + 1) ls (.int (nI (a % 2)) :: rest))) : W p l e R s m args below meth c H locs cells slots Q (F0 m pc ls (.int (nI 1) :: .int (nI a) :: rest)) := lv_iand hx hb hdg (by rw [nI_and1]; exact k)
theorem n_idiv (hx : p.tables.exec = Jvm.exec) (hb : c.code = cc) {a b : Nat} (h1 : a < 2 ^ 31) (h2 : 0 < b) (h3 : b < 2 ^ 31) (hdg : decode cc pc = .ok (.idiv, 1)) (k : W p l e R s m args below meth c H locs cells slots Q (F0 m (pc + 1) ls (.int (nI (a / b)) :: rest))) : W p l e R s m args below meth c H locs cells slots Q (F0 m pc ls (.int (nI b) :: .int (nI a) :: rest)) := lv_idiv hx hb hdg (nI_ne0 h2 h3) (by rw [pk_div h1 h2 h3]; exact k)
theorem n_irem (hx : p.tables.exec = Jvm.exec) (hb : c.code = cc) {a b : Nat} (h1 : a < 2 ^ 31) (h2 : 0 < b) (h3 : b < 2 ^ 31) (hdg : decode cc pc = .ok (.irem, 1)) (k : W p l e R s m args below meth c H locs cells slots Q (F0 m (pc + 1) ls (.int (nI (a % b)) :: rest))) : W p l e R s m args below meth c H locs cells slots Q (F0 m pc ls (.int (nI b) :: .int (nI a) :: rest)) := lv_irem hx hb hdg (nI_ne0 h2 h3) (by rw [pk_rem h1 h2 h3]; exact k)
theorem n_icmp_lt (hx : p.tables.exec = Jvm.exec) (hb : c.code = cc) {a b : Nat} {off : Int} {tgt : Nat} (hdg : decode cc pc = .ok (.if_icmp .lt off, 3)) (ht : (pc : Int) + off = (tgt : Int)) (ha : a < 2 ^ 31) (hb' : b < 2 ^ 31) (kt : a < b → W p l e R s m args below meth c H locs cells slots Q (F0 m tgt ls rest)) (kf : b ≤ a → W p l e R s m args below meth c H locs cells slots Q (F0 m (pc + 3) ls rest)) : W p l e R s m args below meth c H locs cells slots Q (F0 m pc ls (.int (nI b) :: .int (nI a) :: rest)) := lv_icmp_lt hx hb hdg ht (fun h => kt ((nI_ltI ha hb').mp h)) (fun h => kf (Nat.not_lt.mp (fun q => h ((nI_ltI ha hb').mpr q))))
theorem n_icmp_ge (hx : p.tables.exec = Jvm.exec) (hb : c.code = cc) {a b : Nat} {off : Int} {tgt : Nat} (hdg : decode cc pc = .ok (.if_icmp .ge off, 3)) (ht : (pc : Int) + off = (tgt : Int)) (ha : a < 2 ^ 31) (hb' : b < 2 ^ 31) (kt : b ≤ a → W p l e R s m args below meth c H locs cells slots Q (F0 m tgt ls rest)) (kf : a < b → W p l e R s m args below meth c H locs cells slots Q (F0 m (pc + 3) ls rest)) : W p l e R s m args below meth c H locs cells slots Q (F0 m pc ls (.int (nI b) :: .int (nI a) :: rest)) := lv_icmp_ge hx hb hdg ht (fun h => kt ((nI_leI hb' ha).mp h)) (fun h => kf (Nat.not_le.mp (fun q => h ((nI_leI hb' ha).mpr q))))
theorem n_icmp_gt (hx : p.tables.exec = Jvm.exec) (hb : c.code = cc) {a b : Nat} {off : Int} {tgt : Nat} (hdg : decode cc pc = .ok (.if_icmp .gt off, 3)) (ht : (pc : Int) + off = (tgt : Int)) (ha : a < 2 ^ 31) (hb' : b < 2 ^ 31) (kt : b < a → W p l e R s m args below meth c H locs cells slots Q (F0 m tgt ls rest)) (kf : a ≤ b → W p l e R s m args below meth c H locs cells slots Q (F0 m (pc + 3) ls rest)) : W p l e R s m args below meth c H locs cells slots Q (F0 m pc ls (.int (nI b) :: .int (nI a) :: rest)) := lv_icmp_gt hx hb hdg ht (fun h => kt ((nI_ltI hb' ha).mp h)) (fun h => kf (Nat.not_lt.mp (fun q => h ((nI_ltI hb' ha).mpr q))))
theorem n_icmp_le (hx : p.tables.exec = Jvm.exec) (hb : c.code = cc) {a b : Nat} {off : Int} {tgt : Nat} (hdg : decode cc pc = .ok (.if_icmp .le off, 3)) (ht : (pc : Int) + off = (tgt : Int)) (ha : a < 2 ^ 31) (hb' : b < 2 ^ 31) (kt : a ≤ b → W p l e R s m args below meth c H locs cells slots Q (F0 m tgt ls rest)) (kf : b < a → W p l e R s m args below meth c H locs cells slots Q (F0 m (pc + 3) ls rest)) : W p l e R s m args below meth c H locs cells slots Q (F0 m pc ls (.int (nI b) :: .int (nI a) :: rest)) := lv_icmp_le hx hb hdg ht (fun h => kt ((nI_leI ha hb').mp h)) (fun h => kf (Nat.not_le.mp (fun q => h ((nI_leI ha hb').mpr q))))
theorem n_icmp_eq (hx : p.tables.exec = Jvm.exec) (hb : c.code = cc) {a b : Nat} {off : Int} {tgt : Nat} (hdg : decode cc pc = .ok (.if_icmp .eq off, 3)) (ht : (pc : Int) + off = (tgt : Int)) (ha : a < 2 ^ 31) (hb' : b < 2 ^ 31) (kt : a = b → W p l e R s m args below meth c H locs cells slots Q (F0 m tgt ls rest)) (kf : ¬ a = b → W p l e R s m args below meth c H locs cells slots Q (F0 m (pc + 3) ls rest)) : W p l e R s m args below meth c H locs cells slots Q (F0 m pc ls (.int (nI b) :: .int (nI a) :: rest)) := lv_icmp_eq hx hb hdg ht (fun h => kt ((nI_eq ha hb').mp h)) (fun h => kf (fun q => h ((nI_eq ha hb').mpr q)))
theorem n_icmp_ne (hx : p.tables.exec = Jvm.exec) (hb : c.code = cc) {a b : Nat} {off : Int} {tgt : Nat} (hdg : decode cc pc = .ok (.if_icmp .ne off, 3)) (ht : (pc : Int) + off = (tgt : Int)) (ha : a < 2 ^ 31) (hb' : b < 2 ^ 31) (kt : ¬ a = b → W p l e R s m args below meth c H locs cells slots Q (F0 m tgt ls rest)) (kf : a = b → W p l e R s m args below meth c H locs cells slots Q (F0 m (pc + 3) ls rest)) : W p l e R s m args below meth c H locs cells slots Q (F0 m pc ls (.int (nI b) :: .int (nI a) :: rest)) := lv_icmp_ne hx hb hdg ht (fun h => kt (fun q => h ((nI_eq ha hb').mpr q))) (fun h => kf ((nI_eq ha hb').mp h))
theorem n_if_eq (hx : p.tables.exec = Jvm.exec) (hb : c.code = cc) {a : Nat} {off : Int} {tgt : Nat} (hdg : decode cc pc = .ok (.ifCond .eq off, 3)) (ht : (pc : Int) + off = (tgt : Int)) (ha : a < 2 ^ 31) (kt : a = 0 → W p l e R s m args below meth c H locs cells slots Q (F0 m tgt ls rest)) (kf : ¬ a = 0 → W p l e R s m args below meth c H locs cells slots Q (F0 m (pc + 3) ls rest)) : W p l e R s m args below meth c H locs cells slots Q (F0 m pc ls (.int (nI a) :: rest)) := lv_if_eq hx hb hdg ht (fun h => kt ((nI_eq ha (by omega)).mp (h.trans nI_0.symm))) (fun h => kf (fun q => h (by rw [q]; exact nI_0)))
theorem n_if_ne (hx : p.tables.exec = Jvm.exec) (hb : c.code = cc) {a : Nat} {off : Int} {tgt : Nat} (hdg : decode cc pc = .ok (.ifCond .ne off, 3)) (ht : (pc : Int) + off = (tgt : Int)) (ha : a < 2 ^ 31) (kt : ¬ a = 0 → W p l e R s m args below meth c H locs cells slots Q (F0 m tgt ls rest)) (kf : a = 0 → W p l e R s m args below meth c H locs cells slots Q (F0 m (pc + 3) ls rest)) : W p l e R s m args below meth c H locs cells slots Q (F0 m pc ls (.int (nI a) :: rest)) := lv_if_ne hx hb hdg ht (fun h => kt (fun q => h (by rw [q]; exact nI_0))) (fun h => kf ((nI_eq ha (by omega)).mp (h.trans nI_0.symm)))
theorem n_if_le (hx : p.tables.exec = Jvm.exec) (hb : c.code = cc) {a : Nat} {off : Int} {tgt : Nat} (hdg : decode cc pc = .ok (.ifCond .le off, 3)) (ht : (pc : Int) + off = (tgt : Int)) (ha : a < 2 ^ 31) (kt : a = 0 → W p l e R s m args below meth c H locs cells slots Q (F0 m tgt ls rest)) (kf : 0 < a → W p l e R s m args below meth c H locs cells slots Q (F0 m (pc + 3) ls rest)) : W p l e R s m args below meth c H locs cells slots Q (F0 m pc ls (.int (nI a) :: rest)) := lv_if_le hx hb hdg ht (fun h => kt (Classical.byContradiction (fun q => nI_nle (Nat.pos_of_ne_zero q) ha h))) (fun h => kf (Nat.pos_of_ne_zero (fun q => h (by rw [q, nI_0]; decide))))
theorem n_if_gt (hx : p.tables.exec = Jvm.exec) (hb : c.code = cc) {a : Nat} {off : Int} {tgt : Nat} (hdg : decode cc pc = .ok (.ifCond .gt off, 3)) (ht : (pc : Int) + off = (tgt : Int)) (ha : a < 2 ^ 31) (kt : 0 < a → W p l e R s m args below meth c H locs cells slots Q (F0 m tgt ls rest)) (kf : a = 0 → W p l e R s m args below meth c H locs cells slots Q (F0 m (pc + 3) ls rest)) : W p l e R s m args below meth c H locs cells slots Q (F0 m pc ls (.int (nI a) :: rest)) := lv_if_gt hx hb hdg ht (fun h => kt (Nat.pos_of_ne_zero (fun q => by rw [q, nI_0] at h; exact absurd h (by decide)))) (fun h => kf (Classical.byContradiction (fun q => h (by have := (nI_ltI (a := 0) (b := a) (by omega) ha).mpr (Nat.pos_of_ne_zero q); rw [nI_0] at this; exact this))))
theorem n_if_lt (hx : p.tables.exec = Jvm.exec) (hb : c.code = cc) {a : Nat} {off : Int} {tgt : Nat} (hdg : decode cc pc = .ok (.ifCond .lt off, 3)) (ht : (pc : Int) + off = (tgt : Int)) (ha : a < 2 ^ 31) (kf : W p l e R s m args below meth c H locs cells slots Q (F0 m (pc + 3) ls rest)) : W p l e R s m args below meth c H locs cells slots Q (F0 m pc ls (.int (nI a) :: rest)) := lv_if_lt hx hb hdg ht (fun h => absurd h (nI_pos ha)) (fun _ => kf)
theorem n_if_ge (hx : p.tables.exec = Jvm.exec) (hb : c.code = cc) {a : Nat} {off : Int} {tgt : Nat} (hdg : decode cc pc = .ok (.ifCond .ge off, 3)) (ht : (pc : Int) + off = (tgt : Int)) (ha : a < 2 ^ 31) (kt : W p l e R s m args below meth c H locs cells slots Q (F0 m tgt ls rest)) : W p l e R s m args below meth c H locs cells slots Q (F0 m pc ls (.int (nI a) :: rest)) := lv_if_ge hx hb hdg ht (fun _ => kt) (fun h => absurd (nI_pos' ha) h)
theorem n_iinc1 (hx : p.tables.exec = Jvm.exec) (hb : c.code = cc) {i nL k a : Nat} {lv lv' : List (Nat × Value)} (hdg : decode cc pc = .ok (.iinc i 1, 3)) (h : lv_has ls nL lv) (hk : lv[k]? = some (i, .int (nI a))) (hn : i < nL) (hl : (i, Value.int (nI (a + 1))) :: lv.filter (fun q => !(q.1 == i) && !(q.1 + 1 == i && q.2.category == 2)) = lv') (kk : ∀ ls' : Array Slot, lv_has ls' nL lv' → W p l e R s m args below meth c H locs cells slots Q (F0 m (pc + 3) ls' rest)) : W p l e R s m args below meth c H locs cells slots Q (F0 m pc ls rest) := lv_iinc hx hb hdg h hk (by rw [show Int32.ofInt 1 = (1 : Int32) from by decide]; exact nI_1 a) hn hl kk
theorem n_iincm {i nL k a : Nat} (h1 : 1 ≤ a) (hx : p.tables.exec = Jvm.exec) (hb : c.code = cc) {lv lv' : List (Nat × Value)} (hdg : decode cc pc = .ok (.iinc i (-1), 3)) (h : lv_has ls nL lv) (hk : lv[k]? = some (i, .int (nI a))) (hn : i < nL) (hl : (i, Value.int (nI (a - 1))) :: lv.filter (fun q => !(q.1 == i) && !(q.1 + 1 == i && q.2.category == 2)) = lv') (kk : ∀ ls' : Array Slot, lv_has ls' nL lv' → W p l e R s m args below meth c H locs cells slots Q (F0 m (pc + 3) ls' rest)) : W p l e R s m args below meth c H locs cells slots Q (F0 m pc ls rest) := lv_iinc hx hb hdg h hk (by rw [show Int32.ofInt (-1) = (-1 : Int32) from by decide]; exact sb_m1 h1) hn hl kk
variable {D : va_G} {cl : List vw_C} {A : Nat → Prop} {tys : List (ClassId × FieldType)} {H0 : Heap} {K : Nat} {ad : Nat → Nat} {E : Nat → (Nat → Nat) → va_E} {S : Nat → Nat → Nat}
theorem r_iald (hx : p.tables.exec = Jvm.exec) (hb : c.code = cc) (hK : va_K D cl tys s) (hP : va_P D cl (wl K ad E S) H) (i t0 : Nat) (hi : i < K) {cA : ClassId} {n : Nat} (he : ∀ r : Nat → Nat, E i r = .inl (cA, n, .inl (fun q => nI (r q)))) (ht : tys[t0]? = some (cA, .int)) {j : Nat} (hj : j < n) (hn : n < 2 ^ 31) (hdg : decode cc pc = .ok (.iaload, 1)) (k : W p l e R s m args below meth c H locs cells slots Q (F0 m (pc + 1) ls (.int (nI (S i j)) :: rest))) : W p l e R s m args below meth c H locs cells slots Q (F0 m pc ls (.int (nI j) :: .ref (ad i) :: rest)) := by
  refine va_iald hx hb hK hP i t0 ((wl_at hi).trans (by rw [he])) ht (vp_in_nI hj hn) hdg ?_
  rw [nI_clamp (Nat.lt_trans hj hn)]
  exact k
theorem r_zald (hx : p.tables.exec = Jvm.exec) (hb : c.code = cc) (hK : va_K D cl tys s) (hP : va_P D cl (wl K ad E S) H) (i t0 : Nat) (hi : i < K) {cA : ClassId} {n : Nat} (he : ∀ r : Nat → Nat, E i r = .inl (cA, n, .inl (fun q => nI (r q)))) (ht : tys[t0]? = some (cA, .boolean)) {j : Nat} (hj : j < n) (hn : n < 2 ^ 31) (hdg : decode cc pc = .ok (.baload, 1)) (k : W p l e R s m args below meth c H locs cells slots Q (F0 m (pc + 1) ls (.int (nI (S i j)) :: rest))) : W p l e R s m args below meth c H locs cells slots Q (F0 m pc ls (.int (nI j) :: .ref (ad i) :: rest)) := by
  refine va_zald hx hb hK hP i t0 ((wl_at hi).trans (by rw [he])) ht (vp_in_nI hj hn) hdg ?_
  rw [nI_clamp (Nat.lt_trans hj hn)]
  exact k
theorem r_lald (hx : p.tables.exec = Jvm.exec) (hb : c.code = cc) (hK : va_K D cl tys s) (hP : va_P D cl (wl K ad E S) H) (i t0 : Nat) (hi : i < K) {cA : ClassId} {n : Nat} (he : ∀ r : Nat → Nat, E i r = .inl (cA, n, .inr (.inl (fun q => lN (r q))))) (ht : tys[t0]? = some (cA, .long)) {j : Nat} (hj : j < n) (hn : n < 2 ^ 31) (hdg : decode cc pc = .ok (.laload, 1)) (k : W p l e R s m args below meth c H locs cells slots Q (F0 m (pc + 1) ls (.long (lN (S i j)) :: rest))) : W p l e R s m args below meth c H locs cells slots Q (F0 m pc ls (.int (nI j) :: .ref (ad i) :: rest)) := by
  refine va_lald hx hb hK hP i t0 ((wl_at hi).trans (by rw [he])) ht (vp_in_nI hj hn) hdg ?_
  rw [nI_clamp (Nat.lt_trans hj hn)]
  exact k
theorem r_iast (hx : p.tables.exec = Jvm.exec) (hb : c.code = cc) (hK : va_K D cl tys s) (hP : va_P D cl (wl K ad E S) H) (hD : ∀ S : Nat → Nat → Nat, va_D A (wl K ad E S)) (hS : va_S A H0 H locs) (i t0 : Nat) (hi : i < K) {cA : ClassId} {n : Nat} (he : ∀ r : Nat → Nat, E i r = .inl (cA, n, .inl (fun q => nI (r q)))) (ht : tys[t0]? = some (cA, .int)) {j v : Nat} (hj : j < n) (hn : n < 2 ^ 31) (hdg : decode cc pc = .ok (.iastore, 1)) (k : ∀ (H1 : Heap) (locs1 : List Loc), va_P D cl (wl K ad E (up2 S i j v)) H1 → va_S A H0 H1 locs1 → W p l e R s m args below meth c H1 locs1 cells slots Q (F0 m (pc + 1) ls rest)) : W p l e R s m args below meth c H locs cells slots Q (F0 m pc ls (.int (nI v) :: .int (nI j) :: .ref (ad i) :: rest)) := by
  refine va_iast hx hb hK hP (hD S) hS i t0 ((wl_at hi).trans (by rw [he])) ht (vp_in_nI hj hn) hdg (fun H1 locs1 h1 _ h3 => k H1 locs1 ?_ h3)
  rw [nI_clamp (Nat.lt_trans hj hn), upd_nI, wl_set hi (he _)] at h1
  exact h1
theorem r_zast (hx : p.tables.exec = Jvm.exec) (hb : c.code = cc) (hK : va_K D cl tys s) (hP : va_P D cl (wl K ad E S) H) (hD : ∀ S : Nat → Nat → Nat, va_D A (wl K ad E S)) (hS : va_S A H0 H locs) (i t0 : Nat) (hi : i < K) {cA : ClassId} {n : Nat} (he : ∀ r : Nat → Nat, E i r = .inl (cA, n, .inl (fun q => nI (r q)))) (ht : tys[t0]? = some (cA, .boolean)) {j v : Nat} (hj : j < n) (hn : n < 2 ^ 31) (hv : vp_nar .boolean (nI v) = nI v) (hdg : decode cc pc = .ok (.bastore, 1)) (k : ∀ (H1 : Heap) (locs1 : List Loc), va_P D cl (wl K ad E (up2 S i j v)) H1 → va_S A H0 H1 locs1 → W p l e R s m args below meth c H1 locs1 cells slots Q (F0 m (pc + 1) ls rest)) : W p l e R s m args below meth c H locs cells slots Q (F0 m pc ls (.int (nI v) :: .int (nI j) :: .ref (ad i) :: rest)) := by
  refine va_zast hx hb hK hP (hD S) hS i t0 ((wl_at hi).trans (by rw [he])) ht (vp_in_nI hj hn) hdg (fun H1 locs1 h1 _ h3 => k H1 locs1 ?_ h3)
  rw [nI_clamp (Nat.lt_trans hj hn), hv, upd_nI, wl_set hi (he _)] at h1
  exact h1
theorem r_last (hx : p.tables.exec = Jvm.exec) (hb : c.code = cc) (hK : va_K D cl tys s) (hP : va_P D cl (wl K ad E S) H) (hD : ∀ S : Nat → Nat → Nat, va_D A (wl K ad E S)) (hS : va_S A H0 H locs) (i t0 : Nat) (hi : i < K) {cA : ClassId} {n : Nat} (he : ∀ r : Nat → Nat, E i r = .inl (cA, n, .inr (.inl (fun q => lN (r q))))) (ht : tys[t0]? = some (cA, .long)) {j v : Nat} (hj : j < n) (hn : n < 2 ^ 31) (hdg : decode cc pc = .ok (.lastore, 1)) (k : ∀ (H1 : Heap) (locs1 : List Loc), va_P D cl (wl K ad E (up2 S i j v)) H1 → va_S A H0 H1 locs1 → W p l e R s m args below meth c H1 locs1 cells slots Q (F0 m (pc + 1) ls rest)) : W p l e R s m args below meth c H locs cells slots Q (F0 m pc ls (.long (lN v) :: .int (nI j) :: .ref (ad i) :: rest)) := by
  refine va_last hx hb hK hP (hD S) hS i t0 ((wl_at hi).trans (by rw [he])) ht (vp_in_nI hj hn) hdg (fun H1 locs1 h1 _ h3 => k H1 locs1 ?_ h3)
  rw [nI_clamp (Nat.lt_trans hj hn), upd_lN, wl_set hi (he _)] at h1
  exact h1
theorem r_get (hx : p.tables.exec = Jvm.exec) (hb : c.code = cc) {own C : String} {T : u_T} {N ci index : Nat} {Ts : List Cond} (hts : ∀ w ∈ Ts, w.before args s = true) (hin : ∀ w ∈ u_ws C T N, w ∈ Ts) (hown : s.vm.findClass own = some m.cls) (hK : va_K D cl tys s) (hP : va_P D cl (wl K ad E S) H) (i : Nat) (hi : i < K) {fs : List Value} (he : E i (S i) = .inr (ci, fs)) (hc : cl[ci]? = some (C, T, N)) (k : Nat) (hk : k < N) (hl : Cond.fieldLink own index (T k).1 (T k).2.1 (T k).2.2.1 ∈ Ts) {v : Value} (hv : fs[k]? = some v) (hdg : decode cc pc = .ok (.getfield index, 3)) (kk : W p l e R s m args below meth c H locs cells slots Q (F0 m (pc + 3) ls (v :: rest))) : W p l e R s m args below meth c H locs cells slots Q (F0 m pc ls (.ref (ad i) :: rest)) :=
  va_get hx hb hts hin hown hK hP i ((wl_at hi).trans (by rw [he])) hc k hk (hts _ hl) (fun _ h => h) hv hdg kk
theorem r_put (hx : p.tables.exec = Jvm.exec) (hb : c.code = cc) {own C : String} {T : u_T} {N ci index : Nat} {Ts : List Cond} (hts : ∀ w ∈ Ts, w.before args s = true) (hin : ∀ w ∈ u_ws C T N, w ∈ Ts) (ty0 : Nat → FieldType) (hty : ∀ k, k < N → parseFieldDescriptor (T k).2.2.1 = some (ty0 k)) (hnm : ∀ a, a < N → ∀ b, b < N → a ≠ b → (T a).2.1 ≠ (T b).2.1) (hown : s.vm.findClass own = some m.cls) (hK : va_K D cl tys s) (hP : va_P D cl (wl K ad E S) H) (hD : ∀ S : Nat → Nat → Nat, va_D A (wl K ad E S)) (hS : va_S A H0 H locs) (i : Nat) (hi : i < K) {fs : List Value} (he : E i (S i) = .inr (ci, fs)) (hc : cl[ci]? = some (C, T, N)) (k : Nat) (hk : k < N) (hl : Cond.fieldLink own index (T k).1 (T k).2.1 (T k).2.2.1 ∈ Ts) (hfin : (T k).2.2.2 = false) (hd : parseFieldDescriptor (T k).2.2.1 = some .int) (hl2 : k < fs.length) (j : Nat) {v : Nat} (he2 : E i (va_up (S i) j v) = .inr (ci, fs.set k (.int (nI v)))) (hdg : decode cc pc = .ok (.putfield index, 3)) (kk : ∀ (H1 : Heap) (locs1 : List Loc), va_P D cl (wl K ad E (up2 S i j v)) H1 → va_S A H0 H1 locs1 → W p l e R s m args below meth c H1 locs1 cells slots Q (F0 m (pc + 3) ls rest)) : W p l e R s m args below meth c H locs cells slots Q (F0 m pc ls (.int (nI v) :: .ref (ad i) :: rest)) := by
  refine va_put (v := .int (nI v)) (ty := .int) hx hb hts hin ty0 hty hnm hown hK hP (hD S) hS i ((wl_at hi).trans (by rw [he])) hc k hk (hts _ hl) (fun _ h => h) hfin hd rfl rfl hl2 hdg (fun H1 locs1 h1 _ h3 => kk H1 locs1 ?_ h3)
  rw [wl_set hi he2] at h1
  exact h1
end NR
end
section
abbrev rmd (d : Nat) : Room := { frames := d, cells := 0, slots := 0, locals := 34 * d }
/-- the one private method of a nest mate that is called behind the constructors -/
def nwH : Cond := .methodLinkNest "ThreeChainLedger$Ledger" 37 y_T_hasMember "ThreeChainLedger"
def NWs (U : State) : Prop := va_Nw nwH U
theorem NWs.same {u U : State} (h : u.vm = U.vm) (hN : NWs u) : NWs U := va_Nw.same rfl h hN
theorem NWs.warm {s U : State} (hW : s.WarmedH U.vm) (hN : NWs s) : NWs U := va_Nw.warmM hW hN
/-- classes and slots; the array classes of int, boolean, long, Replica; how many replicas; the addresses of the rows -/
abbrev WX : Type := va_G × (ClassId × ClassId × ClassId × ClassId) × Nat × (Nat → Nat)
def xlen (i : Nat) : Nat := ([0, 24, 24, 24, 24, 40, 40, 40, 40, 40, 40, 40, 40, 40, 7, 7, 7, 7, 7, 280, 280, 49, 40, 4, 24, 0, 0, 0, 24, 24, 24, 0, 40, 40, 40, 40, 40, 40, 0, 40, 40, 0, 4, 24] : List Nat).getD i 0
def fsM (ad : Nat → Nat) (r : Nat → Nat) : List Value := [.int (nI (r 0)), .int (nI (r 1)), .int (nI (r 2)), .int (nI (r 3)), .int (nI (r 4)), .ref (ad 1), .ref (ad 2), .ref (ad 3), .ref (ad 4), .int (nI (r 5)), .ref (ad 5), .ref (ad 6), .ref (ad 7), .ref (ad 8), .int (nI (r 6)), .int (nI (r 7)), .ref (ad 9), .ref (ad 10), .ref (ad 11), .ref (ad 12), .ref (ad 13), .ref (ad 14), .ref (ad 15), .ref (ad 16), .ref (ad 17), .ref (ad 18), .ref (ad 19), .ref (ad 20), .ref (ad 21), .ref (ad 22), .ref (ad 23), .ref (ad 24)]
def fsT (ad : Nat → Nat) (r : Nat → Nat) : List Value := [.int (nI (r 0)), .int (nI (r 1)), .int (nI (r 2)), .int (nI (r 3)), .ref (ad 26), .ref (ad 27), .ref (ad 31), .ref (ad 38), .ref (ad 41)]
def fsRp (ad : Nat → Nat) (i : Nat) (r : Nat → Nat) : List Value := [.int (nI (r 0)), .int (nI (r 1)), .int (nI (r 2)), .int (nI (r 3)), .int (nI (r 4)), .int (nI (r 5)), .int (nI (r 6)), .int (nI (r 7)), .int (nI (r 8)), .ref (ad (i + 1)), .ref (ad (i + 2))]
def fsTr (ad : Nat → Nat) (r : Nat → Nat) : List Value := [.ref (ad 28), .ref (ad 29), .ref (ad 30), .int (nI (r 0))]
def fsBl (ad : Nat → Nat) (r : Nat → Nat) : List Value := [.ref (ad 32), .ref (ad 33), .ref (ad 34), .ref (ad 35), .ref (ad 36), .ref (ad 37), .int (nI (r 0))]
def fsRo (ad : Nat → Nat) (r : Nat → Nat) : List Value := [.ref (ad 39), .ref (ad 40), .int (nI (r 0)), .int (nI (r 1))]
def fsLe (ad : Nat → Nat) (r : Nat → Nat) : List Value := [.ref (ad 42), .ref (ad 43)]
def xE (X : WX) (i : Nat) (r : Nat → Nat) : va_E :=
  if i < 44 then (match i with
    | 0 => .inr (0, fsM X.2.2.2 r)
    | 25 => .inr (1, fsT X.2.2.2 r)
    | 27 => .inr (3, fsTr X.2.2.2 r)
    | 31 => .inr (4, fsBl X.2.2.2 r)
    | 38 => .inr (5, fsRo X.2.2.2 r)
    | 41 => .inr (6, fsLe X.2.2.2 r)
    | 19 => .inl (X.2.1.2.1, 280, .inl (fun q => nI (r q)))
    | 26 => .inl (X.2.1.2.2.2, X.2.2.1, .inr (.inr (.inr (.inr (fun q => some (X.2.2.2 (3 * q + 44)))))))
    | 37 => .inl (X.2.1.2.2.1, 40, .inr (.inl (fun q => lN (r q))))
    | i => .inl (X.2.1.1, xlen i, .inl (fun q => nI (r q))))
  else if (i - 44) % 3 = 0 then .inr (2, fsRp X.2.2.2 i r)
  else .inl (X.2.1.1, if (i - 44) % 3 = 1 then 40 else X.2.2.1, .inl (fun q => nI (r q)))
abbrev xK (X : WX) : Nat := 44 + 3 * X.2.2.1
def xtys (X : WX) : List (ClassId × FieldType) := [(X.2.1.1, .int), (X.2.1.2.1, .boolean), (X.2.1.2.2.1, .long), (X.2.1.2.2.2, .object "ThreeChainLedger$Replica")]
def xA (X : WX) : Nat → Prop := fun q => ∃ i, i < xK X ∧ q = X.2.2.2 i
def xInj (X : WX) : Prop := X.2.2.1 ≤ 7 ∧ ∀ i j, i < xK X → j < xK X → X.2.2.2 i = X.2.2.2 j → i = j
abbrev PW (X : WX) (S : Nat → Nat → Nat) (H : Heap) : Prop := va_P X.1 vcl (wl (xK X) X.2.2.2 (xE X) S) H
abbrev XK (X : WX) (s : State) : Prop := va_K X.1 vcl (xtys X) s
theorem xD_of {X : WX} (h : xInj X) (S : Nat → Nat → Nat) : va_D (xA X) (wl (xK X) X.2.2.2 (xE X) S) := by
  have key : ∀ (k : Nat) (q : Nat × va_E), (wl (xK X) X.2.2.2 (xE X) S)[k]? = some q → k < xK X ∧ q.1 = X.2.2.2 k := by
    intro k q hk
    by_cases hl : k < xK X
    · rw [wl_at hl] at hk
      cases hk
      exact ⟨hl, rfl⟩
    · rw [List.getElem?_eq_none (by rw [wl_len]; omega)] at hk
      cases hk
  refine ⟨fun i j x y hi hj hxy => ?_, fun k q hk => ?_⟩
  · obtain ⟨a1, a2⟩ := key i x hi
    obtain ⟨b1, b2⟩ := key j y hj
    exact h.2 i j a1 b1 (by rw [← a2, ← b2]; exact hxy)
  · obtain ⟨a1, a2⟩ := key k q hk
    exact ⟨k, a1, a2⟩
def IA (X : WX) (i n : Nat) : Prop := i < xK X ∧ n < 2 ^ 31 ∧ ∀ r : Nat → Nat, xE X i r = .inl (X.2.1.1, n, .inl (fun q => nI (r q)))
theorem ia1 (X : WX) : IA X 1 24 := ⟨by show 1 < 44 + 3 * X.2.2.1; omega, by decide, fun _ => rfl⟩
theorem ia2 (X : WX) : IA X 2 24 := ⟨by show 2 < 44 + 3 * X.2.2.1; omega, by decide, fun _ => rfl⟩
theorem ia3 (X : WX) : IA X 3 24 := ⟨by show 3 < 44 + 3 * X.2.2.1; omega, by decide, fun _ => rfl⟩
theorem ia4 (X : WX) : IA X 4 24 := ⟨by show 4 < 44 + 3 * X.2.2.1; omega, by decide, fun _ => rfl⟩
theorem ia5 (X : WX) : IA X 5 40 := ⟨by show 5 < 44 + 3 * X.2.2.1; omega, by decide, fun _ => rfl⟩
theorem ia6 (X : WX) : IA X 6 40 := ⟨by show 6 < 44 + 3 * X.2.2.1; omega, by decide, fun _ => rfl⟩
theorem ia7 (X : WX) : IA X 7 40 := ⟨by show 7 < 44 + 3 * X.2.2.1; omega, by decide, fun _ => rfl⟩
theorem ia8 (X : WX) : IA X 8 40 := ⟨by show 8 < 44 + 3 * X.2.2.1; omega, by decide, fun _ => rfl⟩
theorem ia9 (X : WX) : IA X 9 40 := ⟨by show 9 < 44 + 3 * X.2.2.1; omega, by decide, fun _ => rfl⟩
theorem ia10 (X : WX) : IA X 10 40 := ⟨by show 10 < 44 + 3 * X.2.2.1; omega, by decide, fun _ => rfl⟩
theorem ia11 (X : WX) : IA X 11 40 := ⟨by show 11 < 44 + 3 * X.2.2.1; omega, by decide, fun _ => rfl⟩
theorem ia12 (X : WX) : IA X 12 40 := ⟨by show 12 < 44 + 3 * X.2.2.1; omega, by decide, fun _ => rfl⟩
theorem ia13 (X : WX) : IA X 13 40 := ⟨by show 13 < 44 + 3 * X.2.2.1; omega, by decide, fun _ => rfl⟩
theorem ia14 (X : WX) : IA X 14 7 := ⟨by show 14 < 44 + 3 * X.2.2.1; omega, by decide, fun _ => rfl⟩
theorem ia15 (X : WX) : IA X 15 7 := ⟨by show 15 < 44 + 3 * X.2.2.1; omega, by decide, fun _ => rfl⟩
theorem ia16 (X : WX) : IA X 16 7 := ⟨by show 16 < 44 + 3 * X.2.2.1; omega, by decide, fun _ => rfl⟩
theorem ia17 (X : WX) : IA X 17 7 := ⟨by show 17 < 44 + 3 * X.2.2.1; omega, by decide, fun _ => rfl⟩
theorem ia18 (X : WX) : IA X 18 7 := ⟨by show 18 < 44 + 3 * X.2.2.1; omega, by decide, fun _ => rfl⟩
theorem ia20 (X : WX) : IA X 20 280 := ⟨by show 20 < 44 + 3 * X.2.2.1; omega, by decide, fun _ => rfl⟩
theorem ia21 (X : WX) : IA X 21 49 := ⟨by show 21 < 44 + 3 * X.2.2.1; omega, by decide, fun _ => rfl⟩
theorem ia22 (X : WX) : IA X 22 40 := ⟨by show 22 < 44 + 3 * X.2.2.1; omega, by decide, fun _ => rfl⟩
theorem ia23 (X : WX) : IA X 23 4 := ⟨by show 23 < 44 + 3 * X.2.2.1; omega, by decide, fun _ => rfl⟩
theorem ia24 (X : WX) : IA X 24 24 := ⟨by show 24 < 44 + 3 * X.2.2.1; omega, by decide, fun _ => rfl⟩
theorem ia28 (X : WX) : IA X 28 24 := ⟨by show 28 < 44 + 3 * X.2.2.1; omega, by decide, fun _ => rfl⟩
theorem ia29 (X : WX) : IA X 29 24 := ⟨by show 29 < 44 + 3 * X.2.2.1; omega, by decide, fun _ => rfl⟩
theorem ia30 (X : WX) : IA X 30 24 := ⟨by show 30 < 44 + 3 * X.2.2.1; omega, by decide, fun _ => rfl⟩
theorem ia32 (X : WX) : IA X 32 40 := ⟨by show 32 < 44 + 3 * X.2.2.1; omega, by decide, fun _ => rfl⟩
theorem ia33 (X : WX) : IA X 33 40 := ⟨by show 33 < 44 + 3 * X.2.2.1; omega, by decide, fun _ => rfl⟩
theorem ia34 (X : WX) : IA X 34 40 := ⟨by show 34 < 44 + 3 * X.2.2.1; omega, by decide, fun _ => rfl⟩
theorem ia35 (X : WX) : IA X 35 40 := ⟨by show 35 < 44 + 3 * X.2.2.1; omega, by decide, fun _ => rfl⟩
theorem ia36 (X : WX) : IA X 36 40 := ⟨by show 36 < 44 + 3 * X.2.2.1; omega, by decide, fun _ => rfl⟩
theorem ia39 (X : WX) : IA X 39 40 := ⟨by show 39 < 44 + 3 * X.2.2.1; omega, by decide, fun _ => rfl⟩
theorem ia40 (X : WX) : IA X 40 40 := ⟨by show 40 < 44 + 3 * X.2.2.1; omega, by decide, fun _ => rfl⟩
theorem ia42 (X : WX) : IA X 42 4 := ⟨by show 42 < 44 + 3 * X.2.2.1; omega, by decide, fun _ => rfl⟩
theorem ia43 (X : WX) : IA X 43 24 := ⟨by show 43 < 44 + 3 * X.2.2.1; omega, by decide, fun _ => rfl⟩
theorem iaG {X : WX} {r : Nat} (h : r < X.2.2.1) : IA X (3 * r + 45) 40 := by
  refine ⟨by show 3 * r + 45 < 44 + 3 * X.2.2.1; omega, by decide, fun q => ?_⟩
  unfold xE
  rw [if_neg (by omega), if_neg (by omega), if_pos (by omega)]
theorem iaV {X : WX} (hX : X.2.2.1 ≤ 7) {r : Nat} (h : r < X.2.2.1) : IA X (3 * r + 46) X.2.2.1 := by
  refine ⟨by show 3 * r + 46 < 44 + 3 * X.2.2.1; omega, by omega, fun q => ?_⟩
  unfold xE
  rw [if_neg (by omega), if_neg (by omega), if_neg (by omega)]
theorem eRp {X : WX} {r : Nat} (q : Nat → Nat) : xE X (3 * r + 44) q = .inr (2, fsRp X.2.2.2 (3 * r + 44) q) := by
  unfold xE
  rw [if_neg (by omega), if_pos (by omega)]
section XR
variable {p : Program} {l : Launch} {e : Env} {R : Room} {s : State} {m : MethodId} {args : Array Value} {below : List Frame} {meth : Method} {c : Code} {H : Heap} {locs : List Loc} {cells slots : Nat} {Q : State → Prop}
variable {cc : ByteArray} {pc : Nat} {ls : Array Slot} {rest : List Value} {nL : Nat} {own : String} {X : WX} {S : Nat → Nat → Nat} {H0 : Heap}
theorem x_iald (cf : CallFix p m c cc nL s args Mst own) (hK : XK X s) (hP : PW X S H) {i n : Nat} (ia : IA X i n) {j v : Nat} (hj : j < n) (hv : S i j = v) (hdg : decode cc pc = .ok (.iaload, 1)) (k : W p l e R s m args below meth c H locs cells slots Q (F0 m (pc + 1) ls (.int (nI v) :: rest))) : W p l e R s m args below meth c H locs cells slots Q (F0 m pc ls (.int (nI j) :: .ref (X.2.2.2 i) :: rest)) := by
  subst hv
  exact r_iald cf.1 cf.2.1 hK hP i 0 ia.1 ia.2.2 rfl hj ia.2.1 hdg k
theorem x_iast (cf : CallFix p m c cc nL s args Mst own) (hK : XK X s) (hD : ∀ S : Nat → Nat → Nat, va_D (xA X) (wl (xK X) X.2.2.2 (xE X) S)) (hP : PW X S H) (hS : va_S (xA X) H0 H locs) {i n : Nat} (ia : IA X i n) {j v : Nat} (hj : j < n) (hdg : decode cc pc = .ok (.iastore, 1)) (k : ∀ (H1 : Heap) (locs1 : List Loc), PW X (up2 S i j v) H1 → va_S (xA X) H0 H1 locs1 → W p l e R s m args below meth c H1 locs1 cells slots Q (F0 m (pc + 1) ls rest)) : W p l e R s m args below meth c H locs cells slots Q (F0 m pc ls (.int (nI v) :: .int (nI j) :: .ref (X.2.2.2 i) :: rest)) :=
  r_iast cf.1 cf.2.1 hK hP hD hS i 0 ia.1 ia.2.2 rfl hj ia.2.1 hdg k
theorem x_zald (cf : CallFix p m c cc nL s args Mst own) (hK : XK X s) (hP : PW X S H) {j v : Nat} (hj : j < 280) (hv : S 19 j = v) (hdg : decode cc pc = .ok (.baload, 1)) (k : W p l e R s m args below meth c H locs cells slots Q (F0 m (pc + 1) ls (.int (nI v) :: rest))) : W p l e R s m args below meth c H locs cells slots Q (F0 m pc ls (.int (nI j) :: .ref (X.2.2.2 19) :: rest)) := by
  subst hv
  exact r_zald cf.1 cf.2.1 hK hP 19 1 (show 19 < 44 + 3 * X.2.2.1 by omega) (cA := X.2.1.2.1) (n := 280) (fun _ => rfl) rfl hj (by decide) hdg k
theorem x_zast (cf : CallFix p m c cc nL s args Mst own) (hK : XK X s) (hD : ∀ S : Nat → Nat → Nat, va_D (xA X) (wl (xK X) X.2.2.2 (xE X) S)) (hP : PW X S H) (hS : va_S (xA X) H0 H locs) {j v : Nat} (hj : j < 280) (hv : vp_nar .boolean (nI v) = nI v) (hdg : decode cc pc = .ok (.bastore, 1)) (k : ∀ (H1 : Heap) (locs1 : List Loc), PW X (up2 S 19 j v) H1 → va_S (xA X) H0 H1 locs1 → W p l e R s m args below meth c H1 locs1 cells slots Q (F0 m (pc + 1) ls rest)) : W p l e R s m args below meth c H locs cells slots Q (F0 m pc ls (.int (nI v) :: .int (nI j) :: .ref (X.2.2.2 19) :: rest)) :=
  r_zast cf.1 cf.2.1 hK hP hD hS 19 1 (show 19 < 44 + 3 * X.2.2.1 by omega) (cA := X.2.1.2.1) (n := 280) (fun _ => rfl) rfl hj (by decide) hv hdg k
theorem x_lald (cf : CallFix p m c cc nL s args Mst own) (hK : XK X s) (hP : PW X S H) {j v : Nat} (hj : j < 40) (hv : S 37 j = v) (hdg : decode cc pc = .ok (.laload, 1)) (k : W p l e R s m args below meth c H locs cells slots Q (F0 m (pc + 1) ls (.long (lN v) :: rest))) : W p l e R s m args below meth c H locs cells slots Q (F0 m pc ls (.int (nI j) :: .ref (X.2.2.2 37) :: rest)) := by
  subst hv
  exact r_lald cf.1 cf.2.1 hK hP 37 2 (show 37 < 44 + 3 * X.2.2.1 by omega) (cA := X.2.1.2.2.1) (n := 40) (fun _ => rfl) rfl hj (by decide) hdg k
theorem x_last (cf : CallFix p m c cc nL s args Mst own) (hK : XK X s) (hD : ∀ S : Nat → Nat → Nat, va_D (xA X) (wl (xK X) X.2.2.2 (xE X) S)) (hP : PW X S H) (hS : va_S (xA X) H0 H locs) {j v : Nat} (hj : j < 40) (hdg : decode cc pc = .ok (.lastore, 1)) (k : ∀ (H1 : Heap) (locs1 : List Loc), PW X (up2 S 37 j v) H1 → va_S (xA X) H0 H1 locs1 → W p l e R s m args below meth c H1 locs1 cells slots Q (F0 m (pc + 1) ls rest)) : W p l e R s m args below meth c H locs cells slots Q (F0 m pc ls (.long (lN v) :: .int (nI j) :: .ref (X.2.2.2 37) :: rest)) :=
  r_last cf.1 cf.2.1 hK hP hD hS 37 2 (show 37 < 44 + 3 * X.2.2.1 by omega) (cA := X.2.1.2.2.1) (n := 40) (fun _ => rfl) rfl hj (by decide) hdg k
theorem x_aald (cf : CallFix p m c cc nL s args Mst own) (hK : XK X s) (hP : PW X S H) {j : Nat} (hX : X.2.2.1 ≤ 7) (hj : j < X.2.2.1) (hdg : decode cc pc = .ok (.aaload, 1)) (k : W p l e R s m args below meth c H locs cells slots Q (F0 m (pc + 1) ls (.ref (X.2.2.2 (3 * j + 44)) :: rest))) : W p l e R s m args below meth c H locs cells slots Q (F0 m pc ls (.int (nI j) :: .ref (X.2.2.2 26) :: rest)) := by
  refine va_aldq cf.1 cf.2.1 hK hP 26 3 (cA := X.2.1.2.2.2) (n := X.2.2.1) (f := fun q => some (X.2.2.2 (3 * q + 44))) ((wl_at (show 26 < 44 + 3 * X.2.2.1 by omega)).trans rfl) rfl (vp_in_nI hj (by omega)) hdg ?_
  rw [nI_clamp (by omega)]
  exact k
theorem x_getM (cf : CallFix p m c cc nL s args Mst own) (hK : XK X s) (hP : PW X S H) (k : Nat) (hk : k < 32) {index : Nat} (hl : Cond.fieldLink own index (F_M k).1 (F_M k).2.1 (F_M k).2.2.1 ∈ Mst) {v : Value} (hv : (fsM X.2.2.2 (S 0))[k]? = some v) (hdg : decode cc pc = .ok (.getfield index, 3)) (kk : W p l e R s m args below meth c H locs cells slots Q (F0 m (pc + 3) ls (v :: rest))) : W p l e R s m args below meth c H locs cells slots Q (F0 m pc ls (.ref (X.2.2.2 0) :: rest)) :=
  r_get (ci := 0) (C := R_M) (T := F_M) (N := 32) cf.1 cf.2.1 cf.2.2.2.2 in_M cf.2.2.2.1 hK hP 0 (show 0 < 44 + 3 * X.2.2.1 by omega) rfl rfl k hk hl hv hdg kk
theorem x_putM (cf : CallFix p m c cc nL s args Mst own) (hK : XK X s) (hD : ∀ S : Nat → Nat → Nat, va_D (xA X) (wl (xK X) X.2.2.2 (xE X) S)) (hP : PW X S H) (hS : va_S (xA X) H0 H locs) (k : Nat) (hk : k < 32) {index : Nat} (hl : Cond.fieldLink own index (F_M k).1 (F_M k).2.1 (F_M k).2.2.1 ∈ Mst) (hfin : (F_M k).2.2.2 = false) (hd : parseFieldDescriptor (F_M k).2.2.1 = some .int) (j : Nat) {v : Nat} (he2 : fsM X.2.2.2 (va_up (S 0) j v) = (fsM X.2.2.2 (S 0)).set k (.int (nI v))) (hdg : decode cc pc = .ok (.putfield index, 3)) (kk : ∀ (H1 : Heap) (locs1 : List Loc), PW X (up2 S 0 j v) H1 → va_S (xA X) H0 H1 locs1 → W p l e R s m args below meth c H1 locs1 cells slots Q (F0 m (pc + 3) ls rest)) : W p l e R s m args below meth c H locs cells slots Q (F0 m pc ls (.int (nI v) :: .ref (X.2.2.2 0) :: rest)) :=
  r_put (ci := 0) (C := R_M) (T := F_M) (N := 32) cf.1 cf.2.1 cf.2.2.2.2 in_M ty_M tok_M n_M_ cf.2.2.2.1 hK hP hD hS 0 (show 0 < 44 + 3 * X.2.2.1 by omega) rfl rfl k hk hl hfin hd hk j ((show xE X 0 (va_up (S 0) j v) = .inr (0, fsM X.2.2.2 (va_up (S 0) j v)) from rfl).trans (by rw [he2])) hdg kk
theorem rv_M (hK : XK X s) (hP : PW X S H) : ∃ cell : Cell, H[X.2.2.2 0]? = some cell ∧ cell.vm.isStatics = false ∧ s.vm.findClass R_M = some cell.cls :=
  va_recv (q := (R_M, F_M, 32)) (ci := 0) (q0 := 0) (fs := (fsM X.2.2.2 (S 0))) hK hP rfl ((wl_at (show 0 < 44 + 3 * X.2.2.1 by omega)).trans (by rw [show xE X 0 (S 0) = .inr (0, fsM X.2.2.2 (S 0)) from rfl]))
theorem x_getT (cf : CallFix p m c cc nL s args Mst own) (hK : XK X s) (hP : PW X S H) (k : Nat) (hk : k < 9) {index : Nat} (hl : Cond.fieldLink own index (F_T k).1 (F_T k).2.1 (F_T k).2.2.1 ∈ Mst) {v : Value} (hv : (fsT X.2.2.2 (S 25))[k]? = some v) (hdg : decode cc pc = .ok (.getfield index, 3)) (kk : W p l e R s m args below meth c H locs cells slots Q (F0 m (pc + 3) ls (v :: rest))) : W p l e R s m args below meth c H locs cells slots Q (F0 m pc ls (.ref (X.2.2.2 25) :: rest)) :=
  r_get (ci := 1) (C := R_T) (T := F_T) (N := 9) cf.1 cf.2.1 cf.2.2.2.2 in_T cf.2.2.2.1 hK hP 25 (show 25 < 44 + 3 * X.2.2.1 by omega) rfl rfl k hk hl hv hdg kk
theorem x_putT (cf : CallFix p m c cc nL s args Mst own) (hK : XK X s) (hD : ∀ S : Nat → Nat → Nat, va_D (xA X) (wl (xK X) X.2.2.2 (xE X) S)) (hP : PW X S H) (hS : va_S (xA X) H0 H locs) (k : Nat) (hk : k < 9) {index : Nat} (hl : Cond.fieldLink own index (F_T k).1 (F_T k).2.1 (F_T k).2.2.1 ∈ Mst) (hfin : (F_T k).2.2.2 = false) (hd : parseFieldDescriptor (F_T k).2.2.1 = some .int) (j : Nat) {v : Nat} (he2 : fsT X.2.2.2 (va_up (S 25) j v) = (fsT X.2.2.2 (S 25)).set k (.int (nI v))) (hdg : decode cc pc = .ok (.putfield index, 3)) (kk : ∀ (H1 : Heap) (locs1 : List Loc), PW X (up2 S 25 j v) H1 → va_S (xA X) H0 H1 locs1 → W p l e R s m args below meth c H1 locs1 cells slots Q (F0 m (pc + 3) ls rest)) : W p l e R s m args below meth c H locs cells slots Q (F0 m pc ls (.int (nI v) :: .ref (X.2.2.2 25) :: rest)) :=
  r_put (ci := 1) (C := R_T) (T := F_T) (N := 9) cf.1 cf.2.1 cf.2.2.2.2 in_T ty_T tok_T n_T_ cf.2.2.2.1 hK hP hD hS 25 (show 25 < 44 + 3 * X.2.2.1 by omega) rfl rfl k hk hl hfin hd hk j ((show xE X 25 (va_up (S 25) j v) = .inr (1, fsT X.2.2.2 (va_up (S 25) j v)) from rfl).trans (by rw [he2])) hdg kk
theorem rv_T (hK : XK X s) (hP : PW X S H) : ∃ cell : Cell, H[X.2.2.2 25]? = some cell ∧ cell.vm.isStatics = false ∧ s.vm.findClass R_T = some cell.cls :=
  va_recv (q := (R_T, F_T, 9)) (ci := 1) (q0 := 25) (fs := (fsT X.2.2.2 (S 25))) hK hP rfl ((wl_at (show 25 < 44 + 3 * X.2.2.1 by omega)).trans (by rw [show xE X 25 (S 25) = .inr (1, fsT X.2.2.2 (S 25)) from rfl]))
theorem x_getRp (cf : CallFix p m c cc nL s args Mst own) (hK : XK X s) (hP : PW X S H) {r : Nat} (hr : r < X.2.2.1) (k : Nat) (hk : k < 11) {index : Nat} (hl : Cond.fieldLink own index (F_Rp k).1 (F_Rp k).2.1 (F_Rp k).2.2.1 ∈ Mst) {v : Value} (hv : (fsRp X.2.2.2 (3 * r + 44) (S (3 * r + 44)))[k]? = some v) (hdg : decode cc pc = .ok (.getfield index, 3)) (kk : W p l e R s m args below meth c H locs cells slots Q (F0 m (pc + 3) ls (v :: rest))) : W p l e R s m args below meth c H locs cells slots Q (F0 m pc ls (.ref (X.2.2.2 (3 * r + 44)) :: rest)) :=
  r_get (ci := 2) (C := R_Rp) (T := F_Rp) (N := 11) cf.1 cf.2.1 cf.2.2.2.2 in_Rp cf.2.2.2.1 hK hP (3 * r + 44) (show 3 * r + 44 < 44 + 3 * X.2.2.1 by omega) (eRp _) rfl k hk hl hv hdg kk
theorem x_putRp (cf : CallFix p m c cc nL s args Mst own) (hK : XK X s) (hD : ∀ S : Nat → Nat → Nat, va_D (xA X) (wl (xK X) X.2.2.2 (xE X) S)) (hP : PW X S H) (hS : va_S (xA X) H0 H locs) {r : Nat} (hr : r < X.2.2.1) (k : Nat) (hk : k < 11) {index : Nat} (hl : Cond.fieldLink own index (F_Rp k).1 (F_Rp k).2.1 (F_Rp k).2.2.1 ∈ Mst) (hfin : (F_Rp k).2.2.2 = false) (hd : parseFieldDescriptor (F_Rp k).2.2.1 = some .int) (j : Nat) {v : Nat} (he2 : fsRp X.2.2.2 (3 * r + 44) (va_up (S (3 * r + 44)) j v) = (fsRp X.2.2.2 (3 * r + 44) (S (3 * r + 44))).set k (.int (nI v))) (hdg : decode cc pc = .ok (.putfield index, 3)) (kk : ∀ (H1 : Heap) (locs1 : List Loc), PW X (up2 S (3 * r + 44) j v) H1 → va_S (xA X) H0 H1 locs1 → W p l e R s m args below meth c H1 locs1 cells slots Q (F0 m (pc + 3) ls rest)) : W p l e R s m args below meth c H locs cells slots Q (F0 m pc ls (.int (nI v) :: .ref (X.2.2.2 (3 * r + 44)) :: rest)) :=
  r_put (ci := 2) (C := R_Rp) (T := F_Rp) (N := 11) cf.1 cf.2.1 cf.2.2.2.2 in_Rp ty_Rp tok_Rp n_Rp_ cf.2.2.2.1 hK hP hD hS (3 * r + 44) (show 3 * r + 44 < 44 + 3 * X.2.2.1 by omega) (eRp _) rfl k hk hl hfin hd hk j ((eRp _).trans (by rw [he2])) hdg kk
theorem rv_Rp (hK : XK X s) (hP : PW X S H) {r : Nat} (hr : r < X.2.2.1) : ∃ cell : Cell, H[X.2.2.2 (3 * r + 44)]? = some cell ∧ cell.vm.isStatics = false ∧ s.vm.findClass R_Rp = some cell.cls :=
  va_recv (q := (R_Rp, F_Rp, 11)) (ci := 2) (q0 := (3 * r + 44)) (fs := (fsRp X.2.2.2 (3 * r + 44) (S (3 * r + 44)))) hK hP rfl ((wl_at (show 3 * r + 44 < 44 + 3 * X.2.2.1 by omega)).trans (by rw [eRp]))
theorem x_getTr (cf : CallFix p m c cc nL s args Mst own) (hK : XK X s) (hP : PW X S H) (k : Nat) (hk : k < 4) {index : Nat} (hl : Cond.fieldLink own index (F_Tr k).1 (F_Tr k).2.1 (F_Tr k).2.2.1 ∈ Mst) {v : Value} (hv : (fsTr X.2.2.2 (S 27))[k]? = some v) (hdg : decode cc pc = .ok (.getfield index, 3)) (kk : W p l e R s m args below meth c H locs cells slots Q (F0 m (pc + 3) ls (v :: rest))) : W p l e R s m args below meth c H locs cells slots Q (F0 m pc ls (.ref (X.2.2.2 27) :: rest)) :=
  r_get (ci := 3) (C := R_Tr) (T := F_Tr) (N := 4) cf.1 cf.2.1 cf.2.2.2.2 in_Tr cf.2.2.2.1 hK hP 27 (show 27 < 44 + 3 * X.2.2.1 by omega) rfl rfl k hk hl hv hdg kk
theorem x_putTr (cf : CallFix p m c cc nL s args Mst own) (hK : XK X s) (hD : ∀ S : Nat → Nat → Nat, va_D (xA X) (wl (xK X) X.2.2.2 (xE X) S)) (hP : PW X S H) (hS : va_S (xA X) H0 H locs) (k : Nat) (hk : k < 4) {index : Nat} (hl : Cond.fieldLink own index (F_Tr k).1 (F_Tr k).2.1 (F_Tr k).2.2.1 ∈ Mst) (hfin : (F_Tr k).2.2.2 = false) (hd : parseFieldDescriptor (F_Tr k).2.2.1 = some .int) (j : Nat) {v : Nat} (he2 : fsTr X.2.2.2 (va_up (S 27) j v) = (fsTr X.2.2.2 (S 27)).set k (.int (nI v))) (hdg : decode cc pc = .ok (.putfield index, 3)) (kk : ∀ (H1 : Heap) (locs1 : List Loc), PW X (up2 S 27 j v) H1 → va_S (xA X) H0 H1 locs1 → W p l e R s m args below meth c H1 locs1 cells slots Q (F0 m (pc + 3) ls rest)) : W p l e R s m args below meth c H locs cells slots Q (F0 m pc ls (.int (nI v) :: .ref (X.2.2.2 27) :: rest)) :=
  r_put (ci := 3) (C := R_Tr) (T := F_Tr) (N := 4) cf.1 cf.2.1 cf.2.2.2.2 in_Tr ty_Tr tok_Tr n_Tr_ cf.2.2.2.1 hK hP hD hS 27 (show 27 < 44 + 3 * X.2.2.1 by omega) rfl rfl k hk hl hfin hd hk j ((show xE X 27 (va_up (S 27) j v) = .inr (3, fsTr X.2.2.2 (va_up (S 27) j v)) from rfl).trans (by rw [he2])) hdg kk
theorem rv_Tr (hK : XK X s) (hP : PW X S H) : ∃ cell : Cell, H[X.2.2.2 27]? = some cell ∧ cell.vm.isStatics = false ∧ s.vm.findClass R_Tr = some cell.cls :=
  va_recv (q := (R_Tr, F_Tr, 4)) (ci := 3) (q0 := 27) (fs := (fsTr X.2.2.2 (S 27))) hK hP rfl ((wl_at (show 27 < 44 + 3 * X.2.2.1 by omega)).trans (by rw [show xE X 27 (S 27) = .inr (3, fsTr X.2.2.2 (S 27)) from rfl]))
theorem x_getBl (cf : CallFix p m c cc nL s args Mst own) (hK : XK X s) (hP : PW X S H) (k : Nat) (hk : k < 7) {index : Nat} (hl : Cond.fieldLink own index (F_Bl k).1 (F_Bl k).2.1 (F_Bl k).2.2.1 ∈ Mst) {v : Value} (hv : (fsBl X.2.2.2 (S 31))[k]? = some v) (hdg : decode cc pc = .ok (.getfield index, 3)) (kk : W p l e R s m args below meth c H locs cells slots Q (F0 m (pc + 3) ls (v :: rest))) : W p l e R s m args below meth c H locs cells slots Q (F0 m pc ls (.ref (X.2.2.2 31) :: rest)) :=
  r_get (ci := 4) (C := R_Bl) (T := F_Bl) (N := 7) cf.1 cf.2.1 cf.2.2.2.2 in_Bl cf.2.2.2.1 hK hP 31 (show 31 < 44 + 3 * X.2.2.1 by omega) rfl rfl k hk hl hv hdg kk
theorem x_putBl (cf : CallFix p m c cc nL s args Mst own) (hK : XK X s) (hD : ∀ S : Nat → Nat → Nat, va_D (xA X) (wl (xK X) X.2.2.2 (xE X) S)) (hP : PW X S H) (hS : va_S (xA X) H0 H locs) (k : Nat) (hk : k < 7) {index : Nat} (hl : Cond.fieldLink own index (F_Bl k).1 (F_Bl k).2.1 (F_Bl k).2.2.1 ∈ Mst) (hfin : (F_Bl k).2.2.2 = false) (hd : parseFieldDescriptor (F_Bl k).2.2.1 = some .int) (j : Nat) {v : Nat} (he2 : fsBl X.2.2.2 (va_up (S 31) j v) = (fsBl X.2.2.2 (S 31)).set k (.int (nI v))) (hdg : decode cc pc = .ok (.putfield index, 3)) (kk : ∀ (H1 : Heap) (locs1 : List Loc), PW X (up2 S 31 j v) H1 → va_S (xA X) H0 H1 locs1 → W p l e R s m args below meth c H1 locs1 cells slots Q (F0 m (pc + 3) ls rest)) : W p l e R s m args below meth c H locs cells slots Q (F0 m pc ls (.int (nI v) :: .ref (X.2.2.2 31) :: rest)) :=
  r_put (ci := 4) (C := R_Bl) (T := F_Bl) (N := 7) cf.1 cf.2.1 cf.2.2.2.2 in_Bl ty_Bl tok_Bl n_Bl_ cf.2.2.2.1 hK hP hD hS 31 (show 31 < 44 + 3 * X.2.2.1 by omega) rfl rfl k hk hl hfin hd hk j ((show xE X 31 (va_up (S 31) j v) = .inr (4, fsBl X.2.2.2 (va_up (S 31) j v)) from rfl).trans (by rw [he2])) hdg kk
theorem rv_Bl (hK : XK X s) (hP : PW X S H) : ∃ cell : Cell, H[X.2.2.2 31]? = some cell ∧ cell.vm.isStatics = false ∧ s.vm.findClass R_Bl = some cell.cls :=
  va_recv (q := (R_Bl, F_Bl, 7)) (ci := 4) (q0 := 31) (fs := (fsBl X.2.2.2 (S 31))) hK hP rfl ((wl_at (show 31 < 44 + 3 * X.2.2.1 by omega)).trans (by rw [show xE X 31 (S 31) = .inr (4, fsBl X.2.2.2 (S 31)) from rfl]))
theorem x_getRo (cf : CallFix p m c cc nL s args Mst own) (hK : XK X s) (hP : PW X S H) (k : Nat) (hk : k < 4) {index : Nat} (hl : Cond.fieldLink own index (F_Ro k).1 (F_Ro k).2.1 (F_Ro k).2.2.1 ∈ Mst) {v : Value} (hv : (fsRo X.2.2.2 (S 38))[k]? = some v) (hdg : decode cc pc = .ok (.getfield index, 3)) (kk : W p l e R s m args below meth c H locs cells slots Q (F0 m (pc + 3) ls (v :: rest))) : W p l e R s m args below meth c H locs cells slots Q (F0 m pc ls (.ref (X.2.2.2 38) :: rest)) :=
  r_get (ci := 5) (C := R_Ro) (T := F_Ro) (N := 4) cf.1 cf.2.1 cf.2.2.2.2 in_Ro cf.2.2.2.1 hK hP 38 (show 38 < 44 + 3 * X.2.2.1 by omega) rfl rfl k hk hl hv hdg kk
theorem x_putRo (cf : CallFix p m c cc nL s args Mst own) (hK : XK X s) (hD : ∀ S : Nat → Nat → Nat, va_D (xA X) (wl (xK X) X.2.2.2 (xE X) S)) (hP : PW X S H) (hS : va_S (xA X) H0 H locs) (k : Nat) (hk : k < 4) {index : Nat} (hl : Cond.fieldLink own index (F_Ro k).1 (F_Ro k).2.1 (F_Ro k).2.2.1 ∈ Mst) (hfin : (F_Ro k).2.2.2 = false) (hd : parseFieldDescriptor (F_Ro k).2.2.1 = some .int) (j : Nat) {v : Nat} (he2 : fsRo X.2.2.2 (va_up (S 38) j v) = (fsRo X.2.2.2 (S 38)).set k (.int (nI v))) (hdg : decode cc pc = .ok (.putfield index, 3)) (kk : ∀ (H1 : Heap) (locs1 : List Loc), PW X (up2 S 38 j v) H1 → va_S (xA X) H0 H1 locs1 → W p l e R s m args below meth c H1 locs1 cells slots Q (F0 m (pc + 3) ls rest)) : W p l e R s m args below meth c H locs cells slots Q (F0 m pc ls (.int (nI v) :: .ref (X.2.2.2 38) :: rest)) :=
  r_put (ci := 5) (C := R_Ro) (T := F_Ro) (N := 4) cf.1 cf.2.1 cf.2.2.2.2 in_Ro ty_Ro tok_Ro n_Ro_ cf.2.2.2.1 hK hP hD hS 38 (show 38 < 44 + 3 * X.2.2.1 by omega) rfl rfl k hk hl hfin hd hk j ((show xE X 38 (va_up (S 38) j v) = .inr (5, fsRo X.2.2.2 (va_up (S 38) j v)) from rfl).trans (by rw [he2])) hdg kk
theorem rv_Ro (hK : XK X s) (hP : PW X S H) : ∃ cell : Cell, H[X.2.2.2 38]? = some cell ∧ cell.vm.isStatics = false ∧ s.vm.findClass R_Ro = some cell.cls :=
  va_recv (q := (R_Ro, F_Ro, 4)) (ci := 5) (q0 := 38) (fs := (fsRo X.2.2.2 (S 38))) hK hP rfl ((wl_at (show 38 < 44 + 3 * X.2.2.1 by omega)).trans (by rw [show xE X 38 (S 38) = .inr (5, fsRo X.2.2.2 (S 38)) from rfl]))
theorem x_getLe (cf : CallFix p m c cc nL s args Mst own) (hK : XK X s) (hP : PW X S H) (k : Nat) (hk : k < 2) {index : Nat} (hl : Cond.fieldLink own index (F_Le k).1 (F_Le k).2.1 (F_Le k).2.2.1 ∈ Mst) {v : Value} (hv : (fsLe X.2.2.2 (S 41))[k]? = some v) (hdg : decode cc pc = .ok (.getfield index, 3)) (kk : W p l e R s m args below meth c H locs cells slots Q (F0 m (pc + 3) ls (v :: rest))) : W p l e R s m args below meth c H locs cells slots Q (F0 m pc ls (.ref (X.2.2.2 41) :: rest)) :=
  r_get (ci := 6) (C := R_Le) (T := F_Le) (N := 2) cf.1 cf.2.1 cf.2.2.2.2 in_Le cf.2.2.2.1 hK hP 41 (show 41 < 44 + 3 * X.2.2.1 by omega) rfl rfl k hk hl hv hdg kk
theorem x_putLe (cf : CallFix p m c cc nL s args Mst own) (hK : XK X s) (hD : ∀ S : Nat → Nat → Nat, va_D (xA X) (wl (xK X) X.2.2.2 (xE X) S)) (hP : PW X S H) (hS : va_S (xA X) H0 H locs) (k : Nat) (hk : k < 2) {index : Nat} (hl : Cond.fieldLink own index (F_Le k).1 (F_Le k).2.1 (F_Le k).2.2.1 ∈ Mst) (hfin : (F_Le k).2.2.2 = false) (hd : parseFieldDescriptor (F_Le k).2.2.1 = some .int) (j : Nat) {v : Nat} (he2 : fsLe X.2.2.2 (va_up (S 41) j v) = (fsLe X.2.2.2 (S 41)).set k (.int (nI v))) (hdg : decode cc pc = .ok (.putfield index, 3)) (kk : ∀ (H1 : Heap) (locs1 : List Loc), PW X (up2 S 41 j v) H1 → va_S (xA X) H0 H1 locs1 → W p l e R s m args below meth c H1 locs1 cells slots Q (F0 m (pc + 3) ls rest)) : W p l e R s m args below meth c H locs cells slots Q (F0 m pc ls (.int (nI v) :: .ref (X.2.2.2 41) :: rest)) :=
  r_put (ci := 6) (C := R_Le) (T := F_Le) (N := 2) cf.1 cf.2.1 cf.2.2.2.2 in_Le ty_Le tok_Le n_Le_ cf.2.2.2.1 hK hP hD hS 41 (show 41 < 44 + 3 * X.2.2.1 by omega) rfl rfl k hk hl hfin hd hk j ((show xE X 41 (va_up (S 41) j v) = .inr (6, fsLe X.2.2.2 (va_up (S 41) j v)) from rfl).trans (by rw [he2])) hdg kk
theorem rv_Le (hK : XK X s) (hP : PW X S H) : ∃ cell : Cell, H[X.2.2.2 41]? = some cell ∧ cell.vm.isStatics = false ∧ s.vm.findClass R_Le = some cell.cls :=
  va_recv (q := (R_Le, F_Le, 2)) (ci := 6) (q0 := 41) (fs := (fsLe X.2.2.2 (S 41))) hK hP rfl ((wl_at (show 41 < 44 + 3 * X.2.2.1 by omega)).trans (by rw [show xE X 41 (S 41) = .inr (6, fsLe X.2.2.2 (S 41)) from rfl]))
end XR
def PreW (X : WX) (S : Nat → Nat → Nat) (U : State) : Prop := PW X S U.heap ∧ XK X U ∧ NWs U
def QcI (X : WX) (r : Int32) (S' : Nat → Nat → Nat) : Array Value → State → Outcome → State → Prop := va_Qi (fun (x : Int32) (_ : Unit) => x = r) (fun _ t => PW X S' t.heap) (xA X)
def QcV (X : WX) (S' : Nat → Nat → Nat) : Array Value → State → Outcome → State → Prop := va_Qv (fun (_ : Unit) => True) (fun _ t => PW X S' t.heap) (xA X)
def MetI (l : Launch) (X : WX) (y : MethodName) (ws : List Cond) (d : Nat) (avs : List Value) (S : Nat → Nat → Nat) (r : Int32) (S' : Nat → Nat → Nat) : Prop := Met l y ws (rmd d) (va_Pc avs (PreW X S)) (QcI X r S') 0 0 (xA X)
def MetV (l : Launch) (X : WX) (y : MethodName) (ws : List Cond) (d : Nat) (avs : List Value) (S S' : Nat → Nat → Nat) : Prop := Met l y ws (rmd d) (va_Pc avs (PreW X S)) (QcV X S') 0 0 (xA X)
theorem PreW.blind {X : WX} {S : Nat → Nat → Nat} {avs : List Value} : FrameBlind (va_Pc avs (PreW X S)) := fun a U g mk q => by
  obtain ⟨q0, q1, q2, q3⟩ := q
  exact ⟨q0, q1, va_K.moved (u := U) (U := U.calling g mk a) (Vm.Alike.refl U.vm) q2, NWs.same (u := U) (U := U.calling g mk a) rfl q3⟩
section XM
variable {l : Launch} {X : WX} {y : MethodName} {d : Nat} {avs : List Value} {S S' : Nat → Nat → Nat} {r : Int32} {cc : ByteArray} {maxL : Nat} {ret : Option FieldType}
theorem MetI.of (hy : plainName y.cls = true) (hlen : (lg_sl avs).length ≤ maxL) (body : ∀ (p : Program) (e : Env) (s : State) (m : MethodId) (args : Array Value) (below : List Frame) (meth : Method) (c : Code), CallFix p m c cc maxL s args Mst y.cls → meth.sig.returnType = ret → meth.locks = false → PW X S s.heap → XK X s → NWs s → ∀ ls : Array Slot, lv_has ls maxL (lv_args 0 avs) → W p l e (rmd d) s m args below meth c s.heap [] 0 0 (MQ below (QcI X r S') args s 0 0 (xA X)) (F0 m 0 ls [])) : MetI l X y (Cond.code y cc maxL ret :: Mst) d avs S r S' := by
  refine Met.ofW (cc := cc) (maxL := maxL) (ret := ret) hy rfl ?_
  intro p e s m args below meth c s₁ B hml hv
  obtain ⟨rfl, hP, hK, hN⟩ := hv
  have hts := atoms_spec (ws := Cond.code y cc maxL ret :: Mst) B.pre
  have hl := lv_entry avs (n := maxL) hlen
  rw [lg_entry_eq]
  exact body p e s m _ below meth c ⟨B.exec, B.bytes, hml, findClass_of_methodNamed B.named, fun w h => hts w (List.mem_cons_of_mem _ h)⟩ B.returns B.notSynchronized hP hK hN _ hl
theorem MetV.of (hy : plainName y.cls = true) (hlen : (lg_sl avs).length ≤ maxL) (body : ∀ (p : Program) (e : Env) (s : State) (m : MethodId) (args : Array Value) (below : List Frame) (meth : Method) (c : Code), CallFix p m c cc maxL s args Mst y.cls → meth.sig.returnType = ret → meth.locks = false → PW X S s.heap → XK X s → NWs s → ∀ ls : Array Slot, lv_has ls maxL (lv_args 0 avs) → W p l e (rmd d) s m args below meth c s.heap [] 0 0 (MQ below (QcV X S') args s 0 0 (xA X)) (F0 m 0 ls [])) : MetV l X y (Cond.code y cc maxL ret :: Mst) d avs S S' := by
  refine Met.ofW (cc := cc) (maxL := maxL) (ret := ret) hy rfl ?_
  intro p e s m args below meth c s₁ B hml hv
  obtain ⟨rfl, hP, hK, hN⟩ := hv
  have hts := atoms_spec (ws := Cond.code y cc maxL ret :: Mst) B.pre
  have hl := lv_entry avs (n := maxL) hlen
  rw [lg_entry_eq]
  exact body p e s m _ below meth c ⟨B.exec, B.bytes, hml, findClass_of_methodNamed B.named, fun w h => hts w (List.mem_cons_of_mem _ h)⟩ B.returns B.notSynchronized hP hK hN _ hl
end XM
section XC
variable {p : Program} {l : Launch} {e : Env} {R : Room} {s : State} {m : MethodId} {args : Array Value} {below : List Frame} {meth : Method} {c : Code} {H : Heap} {locs : List Loc} {cells slots : Nat} {Q : State → Prop}
variable {cc : ByteArray} {pc : Nat} {ls : Array Slot} {rest st0 As : List Value} {nL : Nat} {own C : String} {X : WX} {S S' : Nat → Nat → Nat} {H0 : Heap} {y : MethodName} {d index maxL n b : Nat} {bytes : ByteArray} {ret : Option FieldType} {ws : List Cond} {r : Int32}
theorem x_iret (cf : CallFix p m c cc nL s args Mst own) (hr : meth.sig.returnType = some .int) (hlk : meth.locks = false) (hP : PW X S H) (hS : va_S (xA X) s.heap H locs) {v : Int32} (hv : v = r) (hSS : S = S') (hdg : decode cc pc = .ok (.ireturn, 1)) : W p l e R s m args below meth c H locs 0 0 (MQ below (QcI X r S') args s 0 0 (xA X)) (F0 m pc ls [.int v]) := by
  subst hv
  subst hSS
  exact W.iret (Qc := QcI X v S) cf.1 cf.2.1 hr (fun t ht _ => ⟨⟨v, (), rfl, rfl, by show PW X S t.heap; rw [ht]; exact hP⟩, hS.F ht⟩) hS.2.2 hdg hlk
theorem x_zret (cf : CallFix p m c cc nL s args Mst own) (hr : meth.sig.returnType = some .boolean) (hlk : meth.locks = false) (hP : PW X S H) (hS : va_S (xA X) s.heap H locs) {v : Int32} {z : Bool} (hv : v = nI z.toNat) (hSS : S = S') (hdg : decode cc pc = .ok (.ireturn, 1)) : W p l e R s m args below meth c H locs 0 0 (MQ below (QcI X (nI z.toNat) S') args s 0 0 (xA X)) (F0 m pc ls [.int v]) := by
  subst hv
  subst hSS
  exact W.zret (Qc := QcI X (nI z.toNat) S) cf.1 cf.2.1 hr (by cases z <;> rfl) (fun t ht _ => ⟨⟨nI z.toNat, (), rfl, rfl, by show PW X S t.heap; rw [ht]; exact hP⟩, hS.F ht⟩) hS.2.2 hdg hlk
theorem x_vret (cf : CallFix p m c cc nL s args Mst own) (hr : meth.sig.returnType = none) (hlk : meth.locks = false) (hP : PW X S H) (hS : va_S (xA X) s.heap H locs) (hSS : S = S') (hdg : decode cc pc = .ok (.return_, 1)) : W p l e R s m args below meth c H locs 0 0 (MQ below (QcV X S') args s 0 0 (xA X)) (F0 m pc ls []) := by
  subst hSS
  exact W.vret (Qc := QcV X S) cf.1 cf.2.1 hr (fun t ht _ => ⟨⟨(), rfl, trivial, by show PW X S t.heap; rw [ht]; exact hP⟩, hS.F ht⟩) hS.2.2 hdg hlk
theorem x_callVi (cf : CallFix p m c cc nL s args Mst own) (hK : XK X s) (hN : NWs s) (hP : PW X S H) (hS : va_S (xA X) H0 H locs) (hM : MetI l X y ws d (.ref b :: As) S r S') (cw : CallW R s args own C index y bytes maxL ret ws (rmd d) 0 0 n) (hrv : ∃ cell : Cell, H[b]? = some cell ∧ cell.vm.isStatics = false ∧ s.vm.findClass C = some cell.cls) (hsize : ls.size = nL) (hst : st0 = As.reverse ++ .ref b :: rest) (hn : As.length = n) (hrest : (rest.map fun v => v.category).sum ≤ 8) (hcs : cells ≤ R.cells ∧ slots ≤ R.slots) (hdg : decode cc pc = .ok (.invokevirtual index, 3)) (kk : ∀ (H1 : Heap) (locs1 : List Loc), PW X S' H1 → va_S (xA X) H0 H1 locs1 → W p l e R s m args below meth c H1 locs1 cells slots Q (F0 m (pc + 3) ls (.int r :: rest))) : W p l e R s m args below meth c H locs cells slots Q (F0 m pc ls st0) := by
  refine va_calli (va_runV (C := C) (b := b) (As := As) (rest := rest) cf hM cw ⟨PreW.blind, hrv, fun U hU hW => ⟨rfl, by rw [hU]; exact hP, va_K.moved hW.alike hK, NWs.warm hW hN⟩⟩ rfl hn hsize hst (lv_room hrest) hdg ⟨hcs.1, hcs.2⟩) hS (fun q _ h => h) (fun q h => h) (fun r2 u t H1 locs1 ht hvm hp hB hz hk hS1 => by
    subst hp
    exact kk H1 locs1 (ht ▸ hB) hS1)
theorem x_callVv (cf : CallFix p m c cc nL s args Mst own) (hK : XK X s) (hN : NWs s) (hP : PW X S H) (hS : va_S (xA X) H0 H locs) (hM : MetV l X y ws d (.ref b :: As) S S') (cw : CallW R s args own C index y bytes maxL ret ws (rmd d) 0 0 n) (hrv : ∃ cell : Cell, H[b]? = some cell ∧ cell.vm.isStatics = false ∧ s.vm.findClass C = some cell.cls) (hsize : ls.size = nL) (hst : st0 = As.reverse ++ .ref b :: rest) (hn : As.length = n) (hrest : (rest.map fun v => v.category).sum ≤ 8) (hcs : cells ≤ R.cells ∧ slots ≤ R.slots) (hdg : decode cc pc = .ok (.invokevirtual index, 3)) (kk : ∀ (H1 : Heap) (locs1 : List Loc), PW X S' H1 → va_S (xA X) H0 H1 locs1 → W p l e R s m args below meth c H1 locs1 cells slots Q (F0 m (pc + 3) ls (rest))) : W p l e R s m args below meth c H locs cells slots Q (F0 m pc ls st0) := by
  refine va_callv (va_runV (C := C) (b := b) (As := As) (rest := rest) cf hM cw ⟨PreW.blind, hrv, fun U hU hW => ⟨rfl, by rw [hU]; exact hP, va_K.moved hW.alike hK, NWs.warm hW hN⟩⟩ rfl hn hsize hst (lv_room hrest) hdg ⟨hcs.1, hcs.2⟩) hS (fun q _ h => h) (fun q h => h) (fun u t H1 locs1 ht hvm hp hB hz hk hS1 => kk H1 locs1 (ht ▸ hB) hS1)
theorem x_callSi (cf : CallFix p m c cc nL s args Mst own) (hK : XK X s) (hN : NWs s) (hP : PW X S H) (hS : va_S (xA X) H0 H locs) (hM : MetI l X y ws d (As) S r S') (cw : (CallB R s args own index y bytes maxL ret ws (rmd d) 0 0 n ∧ (Cond.static y).before args s = true)) (hsize : ls.size = nL) (hst : st0 = As.reverse ++ rest) (hn : As.length = n) (hrest : (rest.map fun v => v.category).sum ≤ 8) (hcs : cells ≤ R.cells ∧ slots ≤ R.slots) (hdg : decode cc pc = .ok (.invokestatic index, 3)) (kk : ∀ (H1 : Heap) (locs1 : List Loc), PW X S' H1 → va_S (xA X) H0 H1 locs1 → W p l e R s m args below meth c H1 locs1 cells slots Q (F0 m (pc + 3) ls (.int r :: rest))) : W p l e R s m args below meth c H locs cells slots Q (F0 m pc ls st0) := by
  refine va_calli (va_runS (As := As) (rest := rest) cf hM cw ⟨PreW.blind, fun U hU hW => ⟨rfl, by rw [hU]; exact hP, va_K.moved hW.alike hK, NWs.warm hW hN⟩⟩ rfl hn hsize hst (lv_room hrest) hdg ⟨hcs.1, hcs.2⟩) hS (fun q _ h => h) (fun q h => h) (fun r2 u t H1 locs1 ht hvm hp hB hz hk hS1 => by
    subst hp
    exact kk H1 locs1 (ht ▸ hB) hS1)
theorem x_callSv (cf : CallFix p m c cc nL s args Mst own) (hK : XK X s) (hN : NWs s) (hP : PW X S H) (hS : va_S (xA X) H0 H locs) (hM : MetV l X y ws d (As) S S') (cw : (CallB R s args own index y bytes maxL ret ws (rmd d) 0 0 n ∧ (Cond.static y).before args s = true)) (hsize : ls.size = nL) (hst : st0 = As.reverse ++ rest) (hn : As.length = n) (hrest : (rest.map fun v => v.category).sum ≤ 8) (hcs : cells ≤ R.cells ∧ slots ≤ R.slots) (hdg : decode cc pc = .ok (.invokestatic index, 3)) (kk : ∀ (H1 : Heap) (locs1 : List Loc), PW X S' H1 → va_S (xA X) H0 H1 locs1 → W p l e R s m args below meth c H1 locs1 cells slots Q (F0 m (pc + 3) ls (rest))) : W p l e R s m args below meth c H locs cells slots Q (F0 m pc ls st0) := by
  refine va_callv (va_runS (As := As) (rest := rest) cf hM cw ⟨PreW.blind, fun U hU hW => ⟨rfl, by rw [hU]; exact hP, va_K.moved hW.alike hK, NWs.warm hW hN⟩⟩ rfl hn hsize hst (lv_room hrest) hdg ⟨hcs.1, hcs.2⟩) hS (fun q _ h => h) (fun q h => h) (fun u t H1 locs1 ht hvm hp hB hz hk hS1 => kk H1 locs1 (ht ▸ hB) hS1)
end XC
end
section
def itr {α : Type} (f : Nat → α → α) (i : Nat) (z : α) : Nat → α
  | 0 => z
  | k + 1 => f (i + k) (itr f i z k)
theorem itr_0 {α : Type} (f : Nat → α → α) (i : Nat) (z : α) : itr f i z 0 = z := rfl
theorem itr_s {α : Type} (f : Nat → α → α) (i : Nat) (z : α) (k : Nat) : itr f i z (k + 1) = f (i + k) (itr f i z k) := rfl
/-- the step of a loop whose variable starts at i and stands at b -/
theorem itr_b {α : Type} (f : Nat → α → α) {i b : Nat} (z : α) (h : i ≤ b) : itr f i z (b + 1 - i) = f b (itr f i z (b - i)) := by
  rw [show b + 1 - i = (b - i) + 1 by omega, itr_s, show i + (b - i) = b by omega]
theorem itr_b0 {α : Type} (f : Nat → α → α) (i : Nat) (z : α) : itr f i z (i - i) = z := by rw [Nat.sub_self]; rfl
-- the reference (rows 0 to 24)
def mRep (S : Nat → Nat → Nat) (r : Int32) : Bool := decide (0 ≤ r.toInt) && decide (r.toInt < (S 0 1 : Int))
def mCorrect (S : Nat → Nat → Nat) (r : Int32) : Bool := mRep S r && decide (S 0 3 / 2 ^ r.toNatClampNeg % 2 = 0)
def mCorrupt (S : Nat → Nat → Nat) (r : Int32) : Bool := mRep S r && decide (S 0 3 / 2 ^ r.toNatClampNeg % 2 = 1)
def mBlock (S : Nat → Nat → Nat) (b : Int32) : Bool := decide (0 ≤ b.toInt) && decide (b.toInt < (S 0 5 : Int))
def mLeader (S : Nat → Nat → Nat) (v : Nat) : Nat := (v - 1) / S 0 2 % S 0 1
def mSize (a : Nat) : Nat := itr (fun i acc => acc + a / 2 ^ i % 2) 0 0 7
def mCert (S : Nat → Nat → Nat) (b : Nat) : Bool := decide (b = 0) || decide (2 * S 0 0 + 1 ≤ mSize (S 8 b ||| S 0 3))
def mInC (S : Nat → Nat → Nat) (a : Nat) : Nat → Nat → Bool
  | 0, x => decide (x = a)
  | f + 1, x => if x = a then true else if x = 0 then false else mInC S a f (S 6 x)
def mHighF (S : Nat → Nat → Nat) (r b best : Nat) : Nat := if ¬ S 19 (40 * r + b) = 0 ∧ S 5 best < S 5 b then b else best
def mHigh (S : Nat → Nat → Nat) (r : Nat) : Nat := itr (mHighF S r) 1 0 (S 0 5 - 1)
def mLockF (S : Nat → Nat → Nat) (r b best : Nat) : Nat := if ¬ S 19 (40 * r + b) = 0 ∧ S 5 best < S 5 (S 6 b) then S 6 b else best
def mLock (S : Nat → Nat → Nat) (r : Nat) : Nat := itr (mLockF S r) 1 0 (S 0 5 - 1)
def mThree (S : Nat → Nat → Nat) (r x : Nat) : Prop := ¬ S 19 (40 * r + x) = 0 ∧ 0 < S 6 x ∧ S 5 x = S 5 (S 6 x) + 1 ∧ S 5 (S 6 x) = S 5 (S 6 (S 6 x)) + 1
def mTipF (S : Nat → Nat → Nat) (r x best : Nat) : Nat := if (¬ S 19 (40 * r + x) = 0 ∧ 0 < S 6 x ∧ S 5 x = S 5 (S 6 x) + 1 ∧ S 5 (S 6 x) = S 5 (S 6 (S 6 x)) + 1) ∧ S 5 best < S 5 (S 6 (S 6 x)) then S 6 (S 6 x) else best
def mTip (S : Nat → Nat → Nat) (r : Nat) : Nat := itr (mTipF S r) 1 0 (S 0 5 - 1)
def mCntF (S : Nat → Nat → Nat) (r v q many : Nat) : Nat := if v ≤ S 21 (7 * r + q) then many + 1 else many
def mCnt (S : Nat → Nat → Nat) (r v : Nat) : Nat := itr (mCntF S r v) 0 0 (S 0 1)
def mPushF (S : Nat → Nat → Nat) (r x best : Nat) : Nat := if 2 * S 0 0 + 1 ≤ mCnt S r (S 21 (7 * r + x)) ∧ best < S 21 (7 * r + x) then S 21 (7 * r + x) else best
def mPush (S : Nat → Nat → Nat) (r : Nat) : Nat := itr (mPushF S r) 0 0 (S 0 1)
def mSend (S : Nat → Nat → Nat) (what sender receiver block v : Nat) : Nat → Nat → Nat :=
  if 40 ≤ S 0 6 then up2 S 0 7 (S 0 7 + 1) else up2 (up2 (up2 (up2 (up2 (up2 S 9 (S 0 6) what) 11 (S 0 6) sender) 10 (S 0 6) receiver) 12 (S 0 6) block) 13 (S 0 6) v) 0 6 (S 0 6 + 1)
def mEnter (S : Nat → Nat → Nat) (r v : Nat) : Nat → Nat → Nat := up2 (up2 S 14 r v) 15 r 0
def mSee (S : Nat → Nat → Nat) (r x : Nat) : Nat → Nat → Nat :=
  if S 5 x < S 14 r then up2 S 19 (40 * r + x) 1 else up2 (mEnter (up2 S 19 (40 * r + x) 1) r (S 5 x + 1)) 16 r 2
def mNewBlock (S : Nat → Nat → Nat) (v parent set : Nat) : Nat → Nat → Nat := up2 (up2 (up2 (up2 S 5 (S 0 5) v) 6 (S 0 5) parent) 7 (S 0 5) set) 0 5 (S 0 5 + 1)
def mGP1 (S : Nat → Nat → Nat) (r b : Nat) : Nat → Nat → Nat := if mSee S r (S 6 b) 14 r < S 5 b then mEnter (mSee S r (S 6 b)) r (S 5 b) else mSee S r (S 6 b)
def mVotes (S : Nat → Nat → Nat) (r b : Nat) : Bool := decide (S 14 r = S 5 b) && decide (S 17 r < S 5 b) && (mInC S (mLock S r) 40 b || decide (S 5 (mLock S r) < S 5 (S 6 b)))
def mGetProposal (S : Nat → Nat → Nat) (r b : Nat) : Nat → Nat → Nat :=
  if mVotes (mGP1 S r b) r b = true then mSend (up2 (up2 (mGP1 S r b) 17 r (S 5 b)) 8 b (mGP1 S r b 8 b ||| 1 * 2 ^ r)) 1 r (mLeader (mGP1 S r b) (S 5 b + 1)) b 0 else mGP1 S r b
def mGetVote (S : Nat → Nat → Nat) (r x b : Nat) : Nat → Nat → Nat :=
  if 2 * S 0 0 + 1 ≤ mSize (S 20 (40 * r + b) ||| 1 * 2 ^ x) then mSee (up2 S 20 (40 * r + b) (S 20 (40 * r + b) ||| 1 * 2 ^ x)) r b else up2 S 20 (40 * r + b) (S 20 (40 * r + b) ||| 1 * 2 ^ x)
def mGN1 (S : Nat → Nat → Nat) (r x b v : Nat) : Nat → Nat → Nat := if mSee S r b 21 (7 * r + x) < v then up2 (mSee S r b) 21 (7 * r + x) v else mSee S r b
def mGetNewView (S : Nat → Nat → Nat) (r x b v : Nat) : Nat → Nat → Nat := if mGN1 S r x b v 14 r < mPush (mGN1 S r x b v) r then mEnter (mGN1 S r x b v) r (mPush (mGN1 S r x b v) r) else mGN1 S r x b v
def mTakeF (j : Nat) (S : Nat → Nat → Nat) : Nat → Nat → Nat := up2 (up2 (up2 (up2 (up2 S 9 j (S 9 (j + 1))) 11 j (S 11 (j + 1))) 10 j (S 10 (j + 1))) 12 j (S 12 (j + 1))) 13 j (S 13 (j + 1))
def mTake (S : Nat → Nat → Nat) (i : Nat) : Nat → Nat → Nat := itr mTakeF i (up2 S 0 6 (S 0 6 - 1)) (S 0 6 - 1 - i)
def mHand (S : Nat → Nat → Nat) (i : Nat) : Nat → Nat → Nat :=
  if S 0 3 / 2 ^ S 10 i % 2 = 1 then mTake S i
  else if S 9 i = 0 then mGetProposal (mTake S i) (S 10 i) (S 12 i)
  else if S 9 i = 1 then mGetVote (mTake S i) (S 10 i) (S 11 i) (S 12 i)
  else mGetNewView (mTake S i) (S 10 i) (S 11 i) (S 12 i) (S 13 i)
-- walking down a chain: what its blocks carry, where it comes to
def mUsedF (S : Nat → Nat → Nat) (_ : Nat) (q : Nat × Nat) : Nat × Nat := (q.1 ||| S 7 q.2, S 6 q.2)
def mUsed (S : Nat → Nat → Nat) (b : Nat) : Nat := (itr (mUsedF S) 0 (0, b) 40).1
def mPickF (S : Nat → Nat → Nat) (r used t : Nat) (q : Nat × Nat) : Nat × Nat := if q.2 < 2 ∧ S 1 t / 2 ^ r % 2 = 1 ∧ used / 2 ^ t % 2 = 0 then (q.1 ||| 1 * 2 ^ t, q.2 + 1) else q
def mPick (S : Nat → Nat → Nat) (r used : Nat) : Nat := (itr (mPickF S r used) 0 (0, 0) (S 0 4)).1
def mLeadOk (S : Nat → Nat → Nat) (r : Int32) : Bool := mCorrect S r && decide (mLeader S (S 14 r.toNatClampNeg) = r.toNatClampNeg) && !decide (S 18 r.toNatClampNeg = S 14 r.toNatClampNeg) && decide (S 0 5 < 40) && (decide (S 14 r.toNatClampNeg = 1) || decide (S 5 (mHigh S r.toNatClampNeg) = S 14 r.toNatClampNeg - 1) || decide (S 14 r.toNatClampNeg ≤ mPush S r.toNatClampNeg))
def mLead1 (S : Nat → Nat → Nat) (r : Nat) : Nat → Nat → Nat := up2 (mNewBlock S (S 14 r) (mHigh S r) (mPick S r (mUsed S (mHigh S r)))) 18 r (S 14 r)
def mLead (S : Nat → Nat → Nat) (r : Int32) : Nat → Nat → Nat := if mLeadOk S r = true then itr (fun q Z => mSend Z 0 0 q (S 0 5) 0) 0 (mLead1 S r.toNatClampNeg) (S 0 1) else S
def mTick1 (S : Nat → Nat → Nat) (r : Nat) : Nat → Nat → Nat := up2 (mEnter (up2 S 15 r (S 15 r + 1)) r (S 14 r + 1)) 16 r (if 16 < S 16 r then 32 else 2 * S 16 r)
def mTickN (S : Nat → Nat → Nat) (r : Nat) : Nat → Nat → Nat := if S 15 r + 1 = S 16 r then mSend (mTick1 S r) 2 r (mLeader S (S 14 r + 1)) (mHigh S r) (S 14 r + 1) else up2 S 15 r (S 15 r + 1)
def mTick (S : Nat → Nat → Nat) (r : Int32) : Nat → Nat → Nat := if mCorrect S r = true then mTickN S r.toNatClampNeg else S
def mMsg (S : Nat → Nat → Nat) (i : Int32) : Bool := decide (0 ≤ i.toInt) && decide (i.toInt < (S 0 6 : Int))
def mFlowF (_ : Nat) (S : Nat → Nat → Nat) : Nat → Nat → Nat := mHand S 0
/-- how often the first message is handed over: the loop's own count of at most so many -/
def mFlowN : Nat → (Nat → Nat → Nat) → Nat
  | 0, _ => 0
  | k + 1, S => if 0 < S 0 6 then mFlowN k (mHand S 0) + 1 else 0
def mFlowS : Nat → (Nat → Nat → Nat) → Nat → Nat → Nat
  | 0, S => S
  | k + 1, S => if 0 < S 0 6 then mFlowS k (mHand S 0) else S
end
section
/-- what a place of the reference's rows may hold: V a bound of views, n replicas, bl blocks, cs the corrupt set -/
def cellOk (V n bl cs : Nat) (k j v : Nat) : Prop :=
  match k with
  | 1 => v < 128
  | 2 => v < 4
  | 3 => v < 4
  | 4 => v ≤ 1000
  | 5 => v + 1 ≤ V
  | 6 => v < 40
  | 7 => v < 16777216
  | 8 => v < 128
  | 9 => v ≤ 2
  | 10 => v < n
  | 11 => v < n
  | 12 => v < bl
  | 13 => v < 2147483648
  | 14 => v ≤ V ∧ (j < n → 1 ≤ v)
  | 15 => v ≤ V
  | 16 => v ≤ 32
  | 17 => v ≤ V
  | 18 => v ≤ V
  | 19 => v ≤ 1
  | 20 => v < 128
  | 21 => v < 2147483648 ∧ (j < 49 → cs / 2 ^ (j % 7) % 2 = 0 → v ≤ V)
  | 22 => v < 40
  | 24 => v ≤ 2
  | _ => True
def IW (V : Nat) (S : Nat → Nat → Nat) : Prop :=
  (S 0 0 = 1 ∨ S 0 0 = 2) ∧ S 0 1 = 3 * S 0 0 + 1 ∧ (4 ≤ S 0 2 ∧ S 0 2 ≤ 9) ∧ (S 0 3 < 128 ∧ S 0 3 < 2 ^ S 0 1 ∧ mSize (S 0 3) ≤ S 0 0) ∧ S 0 4 ≤ 24 ∧ (1 ≤ S 0 5 ∧ S 0 5 ≤ 40) ∧ S 0 6 ≤ 40 ∧ V ≤ 20000 ∧ ∀ k j, cellOk V (S 0 1) (S 0 5) (S 0 3) k j (S k j)
theorem IW.f {V : Nat} {S : Nat → Nat → Nat} (h : IW V S) : S 0 0 = 1 ∨ S 0 0 = 2 := h.1
theorem IW.n {V : Nat} {S : Nat → Nat → Nat} (h : IW V S) : S 0 1 = 3 * S 0 0 + 1 ∧ 4 ≤ S 0 1 ∧ S 0 1 ≤ 7 := by
  have h1 := h.1
  have h2 := h.2.1
  omega
theorem IW.k {V : Nat} {S : Nat → Nat → Nat} (h : IW V S) : 4 ≤ S 0 2 ∧ S 0 2 ≤ 9 := h.2.2.1
theorem IW.cs {V : Nat} {S : Nat → Nat → Nat} (h : IW V S) : S 0 3 < 128 := h.2.2.2.1.1
theorem IW.cq {V : Nat} {S : Nat → Nat → Nat} (h : IW V S) : S 0 3 < 2 ^ S 0 1 ∧ mSize (S 0 3) ≤ S 0 0 := h.2.2.2.1.2
theorem IW.t {V : Nat} {S : Nat → Nat → Nat} (h : IW V S) : S 0 4 ≤ 24 := h.2.2.2.2.1
theorem IW.b {V : Nat} {S : Nat → Nat → Nat} (h : IW V S) : 1 ≤ S 0 5 ∧ S 0 5 ≤ 40 := h.2.2.2.2.2.1
theorem IW.m {V : Nat} {S : Nat → Nat → Nat} (h : IW V S) : S 0 6 ≤ 40 := h.2.2.2.2.2.2.1
theorem IW.V {V : Nat} {S : Nat → Nat → Nat} (h : IW V S) : V ≤ 20000 := h.2.2.2.2.2.2.2.1
theorem IW.c {V : Nat} {S : Nat → Nat → Nat} (h : IW V S) (k j : Nat) : cellOk V (S 0 1) (S 0 5) (S 0 3) k j (S k j) := h.2.2.2.2.2.2.2.2 k j
theorem IW.up {V : Nat} {S : Nat → Nat → Nat} {k j v : Nat} (h : IW V S) (hk : k ≠ 0) (hv : cellOk V (S 0 1) (S 0 5) (S 0 3) k j v) : IW V (up2 S k j v) := by
  have e : up2 S k j v 0 = S 0 := up2_ne S j v (fun q => hk q.symm)
  unfold IW
  rw [e]
  refine ⟨h.1, h.2.1, h.2.2.1, h.2.2.2.1, h.2.2.2.2.1, h.2.2.2.2.2.1, h.2.2.2.2.2.2.1, h.2.2.2.2.2.2.2.1, fun k' j' => ?_⟩
  rw [up2_at]
  split
  · rename_i hh
    obtain ⟨rfl, rfl⟩ := hh
    exact hv
  · exact h.c k' j'
/-- one block more, one message more or less, one transfer more, one loss more -/
theorem IW.up0 {V : Nat} {S : Nat → Nat → Nat} {j v : Nat} (h : IW V S) (hj : 4 ≤ j) (h4 : j = 4 → v ≤ 24) (h5 : j = 5 → S 0 5 ≤ v ∧ v ≤ 40) (h6 : j = 6 → v ≤ 40) : IW V (up2 S 0 j v) := by
  have e : ∀ x, up2 S 0 j v 0 x = if x = j then v else S 0 x := fun x => by rw [up2_at]; simp
  have h1 := h.b
  have h2 := h.t
  have h3 := h.m
  unfold IW
  rw [e 0, e 1, e 2, e 3, e 4, e 5, e 6, if_neg (show ¬ 0 = j by omega), if_neg (show ¬ 1 = j by omega), if_neg (show ¬ 2 = j by omega), if_neg (show ¬ 3 = j by omega)]
  refine ⟨h.1, h.2.1, h.2.2.1, h.2.2.2.1, ?_, ?_, ?_, h.2.2.2.2.2.2.2.1, fun k' j' => ?_⟩
  · split
    · exact h4 (by omega)
    · exact h2
  · split
    · have := h5 (by omega)
      omega
    · exact h1
  · split
    · exact h6 (by omega)
    · exact h3
  · have hb : S 0 5 ≤ (if 5 = j then v else S 0 5) := by
      split
      · exact (h5 (by omega)).1
      · exact Nat.le_refl _
    have hc := h.c k' j'
    generalize (if 5 = j then v else S 0 5) = bl at hb
    rw [up2_at]
    split
    · rename_i hh
      obtain ⟨rfl, rfl⟩ := hh
      trivial
    · revert hc
      generalize S k' j' = w
      intro hc
      unfold cellOk at hc ⊢
      split at hc <;> first | exact hc | exact Nat.lt_of_lt_of_le hc hb
end
section
-- bits
theorem tb1 (a i : Nat) : a.testBit i = true ↔ a / 2 ^ i % 2 = 1 := by
  rw [Nat.testBit_eq_decide_div_mod_eq]
  exact decide_eq_true_iff
theorem bt01 (a i : Nat) : a / 2 ^ i % 2 = 0 ∨ a / 2 ^ i % 2 = 1 := Nat.mod_two_eq_zero_or_one _
theorem bt_or1 (a b i : Nat) : (a ||| b) / 2 ^ i % 2 = 1 ↔ a / 2 ^ i % 2 = 1 ∨ b / 2 ^ i % 2 = 1 := by
  rw [← tb1, ← tb1, ← tb1, Nat.testBit_or, Bool.or_eq_true]
theorem bt_and1 (a b i : Nat) : (a &&& b) / 2 ^ i % 2 = 1 ↔ a / 2 ^ i % 2 = 1 ∧ b / 2 ^ i % 2 = 1 := by
  rw [← tb1, ← tb1, ← tb1, Nat.testBit_and, Bool.and_eq_true]
theorem bt_pow1 (i j : Nat) : 2 ^ j / 2 ^ i % 2 = 1 ↔ j = i := by
  rw [← tb1, Nat.testBit_two_pow]
  exact decide_eq_true_iff
theorem bt_zero (i : Nat) : 0 / 2 ^ i % 2 = 0 := by rw [Nat.zero_div]
theorem bt_big {a k i : Nat} (h : a < 2 ^ k) (hi : k ≤ i) : a / 2 ^ i % 2 = 0 := by
  rw [Nat.div_eq_of_lt (Nat.lt_of_lt_of_le h (Nat.pow_le_pow_right (by decide) hi))]
theorem bt_ext {a b : Nat} (h : ∀ i, a / 2 ^ i % 2 = 1 ↔ b / 2 ^ i % 2 = 1) : a = b := by
  apply Nat.eq_of_testBit_eq
  intro i
  have h1 := h i
  rw [← tb1, ← tb1] at h1
  cases ha : a.testBit i <;> cases hb : b.testBit i <;> simp_all
theorem or_lt {a b k : Nat} (ha : a < 2 ^ k) (hb : b < 2 ^ k) : a ||| b < 2 ^ k := Nat.or_lt_two_pow ha hb
-- how many of seven
theorem mSize_eq (a : Nat) : mSize a = a / 2 ^ 0 % 2 + a / 2 ^ 1 % 2 + a / 2 ^ 2 % 2 + a / 2 ^ 3 % 2 + a / 2 ^ 4 % 2 + a / 2 ^ 5 % 2 + a / 2 ^ 6 % 2 := by
  simp only [mSize, itr, Nat.zero_add]
theorem mSize_le (a : Nat) : mSize a ≤ 7 := by
  rw [mSize_eq]
  have h0 := bt01 a 0
  have h1 := bt01 a 1
  have h2 := bt01 a 2
  have h3 := bt01 a 3
  have h4 := bt01 a 4
  have h5 := bt01 a 5
  have h6 := bt01 a 6
  omega
/-- two sets of more than two thirds, the corrupt ones counted to both, have a correct one in common -/
theorem quorum {A B C f n : Nat} (hn : n = 3 * f + 1) (hf : f = 1 ∨ f = 2) (hA : A < 2 ^ n) (hB : B < 2 ^ n) (hC : C < 2 ^ n) (hc : mSize C ≤ f) (h1 : 2 * f + 1 ≤ mSize (A ||| C)) (h2 : 2 * f + 1 ≤ mSize (B ||| C)) : ∃ r, r < n ∧ C / 2 ^ r % 2 = 0 ∧ A / 2 ^ r % 2 = 1 ∧ B / 2 ^ r % 2 = 1 := by
  apply Classical.byContradiction
  intro hno
  have key : ∀ i, (A ||| C) / 2 ^ i % 2 + (B ||| C) / 2 ^ i % 2 ≤ (if i < n then 1 else 0) + C / 2 ^ i % 2 := by
    intro i
    have a1 := bt_or1 A C i
    have b1 := bt_or1 B C i
    have a2 := bt01 (A ||| C) i
    have b2 := bt01 (B ||| C) i
    have a3 := bt01 A i
    have b3 := bt01 B i
    have c3 := bt01 C i
    by_cases hi : i < n
    · rw [if_pos hi]
      have hno' : ¬ (C / 2 ^ i % 2 = 0 ∧ A / 2 ^ i % 2 = 1 ∧ B / 2 ^ i % 2 = 1) := fun q => hno ⟨i, hi, q⟩
      omega
    · rw [if_neg hi]
      have a4 := bt_big hA (show n ≤ i by omega)
      have b4 := bt_big hB (show n ≤ i by omega)
      have c4 := bt_big hC (show n ≤ i by omega)
      omega
  rw [mSize_eq] at h1 h2 hc
  have k0 := key 0
  have k1 := key 1
  have k2 := key 2
  have k3 := key 3
  have k4 := key 4
  have k5 := key 5
  have k6 := key 6
  rcases hf with rfl | rfl
  · subst hn
    simp at k0 k1 k2 k3 k4 k5 k6 h1 h2 hc
    omega
  · subst hn
    simp at k0 k1 k2 k3 k4 k5 k6 h1 h2 hc
    omega
-- the greatest by w of those that P names, through g, first come
def amF (P : Nat → Prop) [DecidablePred P] (g w : Nat → Nat) (b best : Nat) : Nat := if P b ∧ w best < w (g b) then g b else best
theorem am_spec (P : Nat → Prop) [DecidablePred P] (g w : Nat → Nat) : ∀ N, (itr (amF P g w) 1 0 N = 0 ∨ ∃ b, 1 ≤ b ∧ b < 1 + N ∧ P b ∧ itr (amF P g w) 1 0 N = g b) ∧ (∀ b, 1 ≤ b → b < 1 + N → P b → w (g b) ≤ w (itr (amF P g w) 1 0 N)) ∧ w 0 ≤ w (itr (amF P g w) 1 0 N)
  | 0 => ⟨Or.inl rfl, fun b h1 h2 => by omega, Nat.le_refl _⟩
  | N + 1 => by
    obtain ⟨h1, h2, h3⟩ := am_spec P g w N
    rw [itr_s]
    generalize itr (amF P g w) 1 0 N = m at h1 h2 h3
    unfold amF
    by_cases hc : P (1 + N) ∧ w m < w (g (1 + N))
    · rw [if_pos hc]
      refine ⟨Or.inr ⟨1 + N, by omega, by omega, hc.1, rfl⟩, fun b hb1 hb2 hb3 => ?_, by omega⟩
      by_cases hb : b = 1 + N
      · rw [hb]
        exact Nat.le_refl _
      · have := h2 b hb1 (by omega) hb3
        omega
    · rw [if_neg hc]
      refine ⟨?_, fun b hb1 hb2 hb3 => ?_, h3⟩
      · rcases h1 with h1 | ⟨b, g1, g2, g3, g4⟩
        · exact Or.inl h1
        · exact Or.inr ⟨b, g1, by omega, g3, g4⟩
      · by_cases hb : b = 1 + N
        · subst hb
          have : ¬ w m < w (g (1 + N)) := fun q => hc ⟨hb3, q⟩
          omega
        · exact h2 b hb1 (by omega) hb3
end
section
-- chains: every parent's number is smaller
def ParOk (S : Nat → Nat → Nat) (bl : Nat) : Prop := S 6 0 = 0 ∧ ∀ b, 1 ≤ b → b < bl → S 6 b < b
theorem mInC_fuel {S : Nat → Nat → Nat} {bl : Nat} (h : ParOk S bl) (a : Nat) : ∀ x, x < bl → ∀ f f', x ≤ f → x ≤ f' → mInC S a f x = mInC S a f' x := by
  intro x
  induction x using Nat.strongRecOn with
  | ind x ih =>
    intro hx f f' hf hf'
    by_cases h0 : x = 0
    · subst h0
      cases f <;> cases f' <;> simp [mInC] <;> (try omega)
    · obtain ⟨f, rfl⟩ : ∃ k, f = k + 1 := ⟨f - 1, by omega⟩
      obtain ⟨f', rfl⟩ : ∃ k, f' = k + 1 := ⟨f' - 1, by omega⟩
      have hp := h.2 x (by omega) hx
      show (if x = a then true else if x = 0 then false else mInC S a f (S 6 x)) = (if x = a then true else if x = 0 then false else mInC S a f' (S 6 x))
      rw [ih (S 6 x) hp (by omega) f f' (by omega) (by omega)]
/-- a is an ancestor of b, or b -/
def anc (S : Nat → Nat → Nat) (a b : Nat) : Bool := mInC S a 40 b
theorem anc_self {S : Nat → Nat → Nat} (a : Nat) : anc S a a = true := by
  show (if a = a then true else _) = true
  rw [if_pos rfl]
theorem anc_0 {S : Nat → Nat → Nat} {a : Nat} : anc S a 0 = decide (a = 0) := by
  show (if 0 = a then true else if 0 = 0 then false else _) = _
  by_cases h : a = 0
  · subst h
    simp
  · rw [if_neg (fun q => h q.symm), if_pos rfl]
    simp [h]
theorem anc_step {S : Nat → Nat → Nat} {bl : Nat} (h : ParOk S bl) {a b : Nat} (hb : b < bl) (hbl : bl ≤ 40) (h0 : b ≠ 0) : anc S a b = (decide (b = a) || anc S a (S 6 b)) := by
  have hp := h.2 b (by omega) hb
  show (if b = a then true else if b = 0 then false else mInC S a 39 (S 6 b)) = _
  rw [mInC_fuel h a (S 6 b) (by omega) 39 40 (by omega) (by omega)]
  by_cases ha : b = a
  · simp [ha]
  · rw [if_neg ha, if_neg h0]
    simp [ha, anc]
theorem anc_le {S : Nat → Nat → Nat} {bl : Nat} (h : ParOk S bl) (hbl : bl ≤ 40) {a : Nat} : ∀ b, b < bl → anc S a b = true → a ≤ b := by
  intro b
  induction b using Nat.strongRecOn with
  | ind b ih =>
    intro hb hc
    by_cases h0 : b = 0
    · subst h0
      rw [anc_0] at hc
      have := of_decide_eq_true hc
      omega
    · rw [anc_step h hb hbl h0] at hc
      have hp := h.2 b (by omega) hb
      rcases (Bool.or_eq_true _ _).mp hc with h1 | h1
      · have := of_decide_eq_true h1
        omega
      · have := ih (S 6 b) hp (by omega) h1
        omega
theorem anc_zero {S : Nat → Nat → Nat} {bl : Nat} (h : ParOk S bl) (hbl : bl ≤ 40) : ∀ b, b < bl → anc S 0 b = true := by
  intro b
  induction b using Nat.strongRecOn with
  | ind b ih =>
    intro hb
    by_cases h0 : b = 0
    · subst h0
      exact anc_self 0
    · have hp := h.2 b (by omega) hb
      rw [anc_step h hb hbl h0, ih (S 6 b) hp (by omega), Bool.or_true]
/-- the chain of b is the same where parents below b are the same -/
theorem anc_congr {S T : Nat → Nat → Nat} {bl : Nat} (h : ParOk S bl) (h' : ParOk T bl) (hbl : bl ≤ 40) (hT : ∀ x, x < bl → T 6 x = S 6 x) {a : Nat} : ∀ b, b < bl → anc T a b = anc S a b := by
  intro b
  induction b using Nat.strongRecOn with
  | ind b ih =>
    intro hb
    by_cases h0 : b = 0
    · subst h0
      rw [anc_0, anc_0]
    · have hp := h.2 b (by omega) hb
      rw [anc_step h hb hbl h0, anc_step h' hb hbl h0, hT b hb, ih (S 6 b) hp (by omega)]
end
section
theorem IW.enter {V : Nat} {S : Nat → Nat → Nat} {r v : Nat} (h : IW V S) (h1 : 1 ≤ v) (h2 : v ≤ V) : IW V (mEnter S r v) := by
  unfold mEnter
  refine (h.up (k := 14) (by decide) ?_).up (k := 15) (by decide) ?_
  · show v ≤ V ∧ (_ → 1 ≤ v)
    exact ⟨h2, fun _ => h1⟩
  · show 0 ≤ V
    omega
theorem IW.see {V : Nat} {S : Nat → Nat → Nat} {r x : Nat} (h : IW V S) : IW V (mSee S r x) := by
  have h5 := (show S 5 x + 1 ≤ V from h.c 5 x)
  have h19 : IW V (up2 S 19 (40 * r + x) 1) := h.up (k := 19) (by decide) (show 1 ≤ 1 by decide)
  unfold mSee
  split
  · exact h19
  · exact (h19.enter (by omega) (by omega)).up (k := 16) (by decide) (show 2 ≤ 32 by decide)
theorem IW.send {V : Nat} {S : Nat → Nat → Nat} {a0 a1 a2 a3 a4 : Nat} (h : IW V S) (h0 : a0 ≤ 2) (h1 : a1 < S 0 1) (h2 : a2 < S 0 1) (h3 : a3 < S 0 5) (h4 : a4 < 2147483648) : IW V (mSend S a0 a1 a2 a3 a4) := by
  have hm := h.m
  unfold mSend
  split
  · exact h.up0 (by decide) (fun q => by omega) (fun q => by omega) (fun q => by omega)
  · exact (((((h.up (k := 9) (by decide) h0).up (k := 11) (by decide) h1).up (k := 10) (by decide) h2).up (k := 12) (by decide) h3).up (k := 13) (by decide) h4).up0 (by decide) (fun q => by omega) (fun q => by omega) (fun q => by omega)
theorem IW.newBlock {V : Nat} {S : Nat → Nat → Nat} {v p0 set : Nat} (h : IW V S) (hb : S 0 5 < 40) (hv : v + 1 ≤ V) (hp : p0 < 40) (hs : set < 16777216) : IW V (mNewBlock S v p0 set) := by
  unfold mNewBlock
  refine (((h.up (k := 5) (by decide) hv).up (k := 6) (by decide) hp).up (k := 7) (by decide) hs).up0 (by decide) (fun q => by omega) (fun _ => ?_) (fun q => by omega)
  show S 0 5 ≤ S 0 5 + 1 ∧ S 0 5 + 1 ≤ 40
  omega
theorem IW.takeF {V : Nat} {S : Nat → Nat → Nat} {j : Nat} (h : IW V S) : IW V (mTakeF j S) := by
  unfold mTakeF
  exact ((((h.up (k := 9) (j := j) (by decide) (show S 9 (j + 1) ≤ 2 from h.c 9 (j + 1))).up (k := 11) (j := j) (by decide) (show S 11 (j + 1) < S 0 1 from h.c 11 (j + 1))).up (k := 10) (j := j) (by decide) (show S 10 (j + 1) < S 0 1 from h.c 10 (j + 1))).up (k := 12) (j := j) (by decide) (show S 12 (j + 1) < S 0 5 from h.c 12 (j + 1))).up (k := 13) (j := j) (by decide) (show S 13 (j + 1) < 2147483648 from h.c 13 (j + 1))
theorem IW.takes {V : Nat} {S : Nat → Nat → Nat} (h : IW V S) (i : Nat) : ∀ k, IW V (itr mTakeF i S k)
  | 0 => h
  | k + 1 => (IW.takes h i k).takeF
theorem IW.take {V : Nat} {S : Nat → Nat → Nat} {i : Nat} (h : IW V S) : IW V (mTake S i) := by
  have hm := h.m
  exact IW.takes (h.up0 (by decide) (fun q => by omega) (fun q => by omega) (fun _ => by omega)) i _
theorem IW.mono {V W : Nat} {S : Nat → Nat → Nat} (h : IW V S) (h1 : V ≤ W) (h2 : W ≤ 20000) : IW W S := by
  refine ⟨h.1, h.2.1, h.2.2.1, h.2.2.2.1, h.2.2.2.2.1, h.2.2.2.2.2.1, h.2.2.2.2.2.2.1, h2, fun k j => ?_⟩
  have hc := h.c k j
  revert hc
  generalize S k j = w
  intro hc
  unfold cellOk at hc ⊢
  split at hc <;> first | exact hc | exact Nat.le_trans hc h1 | exact ⟨Nat.le_trans hc.1 h1, hc.2⟩ | exact ⟨hc.1, fun a b => Nat.le_trans (hc.2 a b) h1⟩
-- what takeOut leaves
theorem mTake_rows {S : Nat → Nat → Nat} {i : Nat} : ∀ k, (∀ row x, (row < 9 ∨ 13 < row) → itr mTakeF i S k row x = S row x) ∧ (∀ row x, 9 ≤ row → row ≤ 13 → itr mTakeF i S k row x = if i ≤ x ∧ x < i + k then S row (x + 1) else S row x)
  | 0 => ⟨fun _ _ _ => rfl, fun row x _ _ => by rw [if_neg (by omega)]; rfl⟩
  | k + 1 => by
    obtain ⟨h1, h2⟩ := mTake_rows (S := S) (i := i) k
    rw [itr_s]
    generalize itr mTakeF i S k = T at h1 h2
    have e : ∀ row x, mTakeF (i + k) T row x = if 9 ≤ row ∧ row ≤ 13 ∧ x = i + k then T row (i + k + 1) else T row x := by
      intro row x
      unfold mTakeF
      simp only [up2_at]
      by_cases hx : x = i + k
      · subst hx
        by_cases h9 : row = 9
        · subst h9; simp
        · by_cases h10 : row = 10
          · subst h10; simp
          · by_cases h11 : row = 11
            · subst h11; simp
            · by_cases h12 : row = 12
              · subst h12; simp
              · by_cases h13 : row = 13
                · subst h13; simp
                · rw [if_neg (show ¬ (9 ≤ row ∧ row ≤ 13 ∧ i + k = i + k) by omega)]
                  simp [h9, h10, h11, h12, h13]
      · rw [if_neg (show ¬ (9 ≤ row ∧ row ≤ 13 ∧ x = i + k) by omega)]
        simp [hx]
    refine ⟨fun row x hr => ?_, fun row x hr1 hr2 => ?_⟩
    · rw [e, if_neg (by omega)]
      exact h1 row x hr
    · rw [e]
      by_cases hx : x = i + k
      · rw [if_pos ⟨hr1, hr2, hx⟩, h2 row _ hr1 hr2, if_neg (by omega), if_pos (by omega), hx]
      · rw [if_neg (by omega), h2 row x hr1 hr2]
        by_cases hc : i ≤ x ∧ x < i + k
        · rw [if_pos hc, if_pos (by omega)]
        · rw [if_neg hc, if_neg (by omega)]
theorem mTake_at {S : Nat → Nat → Nat} {i : Nat} (row x : Nat) : mTake S i row x = if 9 ≤ row ∧ row ≤ 13 ∧ i ≤ x ∧ x < i + (S 0 6 - 1 - i) then S row (x + 1) else if row = 0 ∧ x = 6 then S 0 6 - 1 else S row x := by
  obtain ⟨h1, h2⟩ := mTake_rows (S := up2 S 0 6 (S 0 6 - 1)) (i := i) (S 0 6 - 1 - i)
  unfold mTake
  by_cases hr : 9 ≤ row ∧ row ≤ 13
  · rw [h2 row x hr.1 hr.2]
    by_cases hc : i ≤ x ∧ x < i + (S 0 6 - 1 - i)
    · rw [if_pos hc, if_pos ⟨hr.1, hr.2, hc⟩, up2_at, if_neg (by omega)]
    · rw [if_neg hc, if_neg (show ¬ (9 ≤ row ∧ row ≤ 13 ∧ i ≤ x ∧ x < i + (S 0 6 - 1 - i)) by omega), up2_at]
  · rw [h1 row x (by omega), if_neg (show ¬ (9 ≤ row ∧ row ≤ 13 ∧ i ≤ x ∧ x < i + (S 0 6 - 1 - i)) by omega), up2_at]
end
section
theorem i_0 : (0 : Int32).toInt = 0 := by decide
theorem i_lt0 {x : Int32} (h : x < 0) : x.toInt < 0 := by have := Int32.lt_iff_toInt_lt.mp h; rwa [i_0] at this
theorem i_nlt0 {x : Int32} (h : ¬ x < 0) : 0 ≤ x.toInt := by
  have : ¬ x.toInt < (0 : Int32).toInt := fun q => h (Int32.lt_iff_toInt_lt.mpr q)
  rw [i_0] at this
  omega
theorem i_ge0 {x : Int32} (h : 0 ≤ x) : 0 ≤ x.toInt := by have := Int32.le_iff_toInt_le.mp h; rwa [i_0] at this
theorem i_nge0 {x : Int32} (h : ¬ 0 ≤ x) : x.toInt < 0 := by
  have : ¬ (0 : Int32).toInt ≤ x.toInt := fun q => h (Int32.le_iff_toInt_le.mpr q)
  rw [i_0] at this
  omega
theorem i_eq0 {x : Int32} (h : x = 0) : x.toInt = 0 := by rw [h, i_0]
theorem i_ne0 {x : Int32} (h : ¬ x = 0) : ¬ x.toInt = 0 := fun q => h (Int32.toInt_inj.mp (by rw [q, i_0]))
theorem i_ltN {x : Int32} {k : Nat} (hk : k < 2 ^ 31) (h : x < nI k) : x.toInt < (k : Int) := by have := Int32.lt_iff_toInt_lt.mp h; rwa [nI_toInt hk] at this
theorem i_nltN {x : Int32} {k : Nat} (hk : k < 2 ^ 31) (h : ¬ x < nI k) : (k : Int) ≤ x.toInt := by
  have : ¬ x.toInt < (nI k).toInt := fun q => h (Int32.lt_iff_toInt_lt.mpr q)
  rw [nI_toInt hk] at this
  omega
theorem i_gtN {x : Int32} {k : Nat} (hk : k < 2 ^ 31) (h : nI k < x) : (k : Int) < x.toInt := by have := Int32.lt_iff_toInt_lt.mp h; rwa [nI_toInt hk] at this
theorem i_ngtN {x : Int32} {k : Nat} (hk : k < 2 ^ 31) (h : ¬ nI k < x) : x.toInt ≤ (k : Int) := by
  have : ¬ (nI k).toInt < x.toInt := fun q => h (Int32.lt_iff_toInt_lt.mpr q)
  rw [nI_toInt hk] at this
  omega
theorem i_leN {x : Int32} {k : Nat} (hk : k < 2 ^ 31) (h : x ≤ nI k) : x.toInt ≤ (k : Int) := by have := Int32.le_iff_toInt_le.mp h; rwa [nI_toInt hk] at this
theorem i_nleN {x : Int32} {k : Nat} (hk : k < 2 ^ 31) (h : ¬ x ≤ nI k) : (k : Int) < x.toInt := by
  have : ¬ x.toInt ≤ (nI k).toInt := fun q => h (Int32.le_iff_toInt_le.mpr q)
  rw [nI_toInt hk] at this
  omega
theorem i_geN {x : Int32} {k : Nat} (hk : k < 2 ^ 31) (h : nI k ≤ x) : (k : Int) ≤ x.toInt := by have := Int32.le_iff_toInt_le.mp h; rwa [nI_toInt hk] at this
theorem i_ngeN {x : Int32} {k : Nat} (hk : k < 2 ^ 31) (h : ¬ nI k ≤ x) : x.toInt < (k : Int) := by
  have : ¬ (nI k).toInt ≤ x.toInt := fun q => h (Int32.le_iff_toInt_le.mpr q)
  rw [nI_toInt hk] at this
  omega
theorem i_nat {x : Int32} (h : 0 ≤ x.toInt) : ∃ j : Nat, j < 2 ^ 31 ∧ x = nI j ∧ x.toInt = (j : Int) ∧ x.toNatClampNeg = j := by
  obtain ⟨j, hj, rfl⟩ := nI_of (x := x) (fun q => by have := i_lt0 q; omega)
  exact ⟨j, hj, rfl, nI_toInt hj, nI_clamp hj⟩
theorem mRep_iff {S : Nat → Nat → Nat} {r : Int32} : mRep S r = true ↔ 0 ≤ r.toInt ∧ r.toInt < (S 0 1 : Int) := by simp [mRep]
theorem mBlock_iff {S : Nat → Nat → Nat} {r : Int32} : mBlock S r = true ↔ 0 ≤ r.toInt ∧ r.toInt < (S 0 5 : Int) := by simp [mBlock]
theorem tab_out8 {x : Int32} (h0 : ¬ x = nI 0) (h1 : ¬ x = nI 1) (h2 : ¬ x = nI 2) (h3 : ¬ x = nI 3) (h4 : ¬ x = nI 4) (h5 : ¬ x = nI 5) (h6 : ¬ x = nI 6) (h7 : ¬ x = nI 7) (h8 : ¬ x = nI 8) : x.toInt < 0 ∨ 8 < x.toInt := by
  apply Classical.byContradiction
  intro h
  obtain ⟨j, hj, rfl, hjt, -⟩ := i_nat (x := x) (by omega)
  have hj8 : j ≤ 8 := by omega
  have : j = 0 ∨ j = 1 ∨ j = 2 ∨ j = 3 ∨ j = 4 ∨ j = 5 ∨ j = 6 ∨ j = 7 ∨ j = 8 := by omega
  rcases this with rfl | rfl | rfl | rfl | rfl | rfl | rfl | rfl | rfl <;> first | exact h0 rfl | exact h1 rfl | exact h2 rfl | exact h3 rfl | exact h4 rfl | exact h5 rfl | exact h6 rfl | exact h7 rfl | exact h8 rfl
end
section
theorem d_M_init_0 : decode c_M_init 0 = .ok (.aload_n 0, 1) := by decide +kernel
theorem d_M_init_1 : decode c_M_init 1 = .ok (.invokespecial 1, 3) := by decide +kernel
theorem d_M_init_4 : decode c_M_init 4 = .ok (.aload_n 0, 1) := by decide +kernel
theorem d_M_init_5 : decode c_M_init 5 = .ok (.bipush 24, 2) := by decide +kernel
theorem d_M_init_7 : decode c_M_init 7 = .ok (.newarray .int, 2) := by decide +kernel
theorem d_M_init_9 : decode c_M_init 9 = .ok (.putfield 7, 3) := by decide +kernel
theorem d_M_init_12 : decode c_M_init 12 = .ok (.aload_n 0, 1) := by decide +kernel
theorem d_M_init_13 : decode c_M_init 13 = .ok (.bipush 24, 2) := by decide +kernel
theorem d_M_init_15 : decode c_M_init 15 = .ok (.newarray .int, 2) := by decide +kernel
theorem d_M_init_17 : decode c_M_init 17 = .ok (.putfield 13, 3) := by decide +kernel
theorem d_M_init_20 : decode c_M_init 20 = .ok (.aload_n 0, 1) := by decide +kernel
theorem d_M_init_21 : decode c_M_init 21 = .ok (.bipush 24, 2) := by decide +kernel
theorem d_M_init_23 : decode c_M_init 23 = .ok (.newarray .int, 2) := by decide +kernel
theorem d_M_init_25 : decode c_M_init 25 = .ok (.putfield 16, 3) := by decide +kernel
theorem d_M_init_28 : decode c_M_init 28 = .ok (.aload_n 0, 1) := by decide +kernel
theorem d_M_init_29 : decode c_M_init 29 = .ok (.bipush 24, 2) := by decide +kernel
theorem d_M_init_31 : decode c_M_init 31 = .ok (.newarray .int, 2) := by decide +kernel
theorem d_M_init_33 : decode c_M_init 33 = .ok (.putfield 19, 3) := by decide +kernel
theorem d_M_init_36 : decode c_M_init 36 = .ok (.aload_n 0, 1) := by decide +kernel
theorem d_M_init_37 : decode c_M_init 37 = .ok (.iconst 1, 1) := by decide +kernel
theorem d_M_init_38 : decode c_M_init 38 = .ok (.putfield 22, 3) := by decide +kernel
theorem d_M_init_41 : decode c_M_init 41 = .ok (.aload_n 0, 1) := by decide +kernel
theorem d_M_init_42 : decode c_M_init 42 = .ok (.bipush 40, 2) := by decide +kernel
theorem d_M_init_44 : decode c_M_init 44 = .ok (.newarray .int, 2) := by decide +kernel
theorem d_M_init_46 : decode c_M_init 46 = .ok (.putfield 26, 3) := by decide +kernel
theorem d_M_init_49 : decode c_M_init 49 = .ok (.aload_n 0, 1) := by decide +kernel
theorem d_M_init_50 : decode c_M_init 50 = .ok (.bipush 40, 2) := by decide +kernel
theorem d_M_init_52 : decode c_M_init 52 = .ok (.newarray .int, 2) := by decide +kernel
theorem d_M_init_54 : decode c_M_init 54 = .ok (.putfield 29, 3) := by decide +kernel
theorem d_M_init_57 : decode c_M_init 57 = .ok (.aload_n 0, 1) := by decide +kernel
theorem d_M_init_58 : decode c_M_init 58 = .ok (.bipush 40, 2) := by decide +kernel
theorem d_M_init_60 : decode c_M_init 60 = .ok (.newarray .int, 2) := by decide +kernel
theorem d_M_init_62 : decode c_M_init 62 = .ok (.putfield 32, 3) := by decide +kernel
theorem d_M_init_65 : decode c_M_init 65 = .ok (.aload_n 0, 1) := by decide +kernel
theorem d_M_init_66 : decode c_M_init 66 = .ok (.bipush 40, 2) := by decide +kernel
theorem d_M_init_68 : decode c_M_init 68 = .ok (.newarray .int, 2) := by decide +kernel
theorem d_M_init_70 : decode c_M_init 70 = .ok (.putfield 35, 3) := by decide +kernel
theorem d_M_init_73 : decode c_M_init 73 = .ok (.aload_n 0, 1) := by decide +kernel
theorem d_M_init_74 : decode c_M_init 74 = .ok (.bipush 40, 2) := by decide +kernel
theorem d_M_init_76 : decode c_M_init 76 = .ok (.newarray .int, 2) := by decide +kernel
theorem d_M_init_78 : decode c_M_init 78 = .ok (.putfield 38, 3) := by decide +kernel
theorem d_M_init_81 : decode c_M_init 81 = .ok (.aload_n 0, 1) := by decide +kernel
theorem d_M_init_82 : decode c_M_init 82 = .ok (.bipush 40, 2) := by decide +kernel
theorem d_M_init_84 : decode c_M_init 84 = .ok (.newarray .int, 2) := by decide +kernel
theorem d_M_init_86 : decode c_M_init 86 = .ok (.putfield 41, 3) := by decide +kernel
theorem d_M_init_89 : decode c_M_init 89 = .ok (.aload_n 0, 1) := by decide +kernel
theorem d_M_init_90 : decode c_M_init 90 = .ok (.bipush 40, 2) := by decide +kernel
theorem d_M_init_92 : decode c_M_init 92 = .ok (.newarray .int, 2) := by decide +kernel
theorem d_M_init_94 : decode c_M_init 94 = .ok (.putfield 44, 3) := by decide +kernel
theorem d_M_init_97 : decode c_M_init 97 = .ok (.aload_n 0, 1) := by decide +kernel
theorem d_M_init_98 : decode c_M_init 98 = .ok (.bipush 40, 2) := by decide +kernel
theorem d_M_init_100 : decode c_M_init 100 = .ok (.newarray .int, 2) := by decide +kernel
theorem d_M_init_102 : decode c_M_init 102 = .ok (.putfield 47, 3) := by decide +kernel
theorem d_M_init_105 : decode c_M_init 105 = .ok (.aload_n 0, 1) := by decide +kernel
theorem d_M_init_106 : decode c_M_init 106 = .ok (.bipush 40, 2) := by decide +kernel
theorem d_M_init_108 : decode c_M_init 108 = .ok (.newarray .int, 2) := by decide +kernel
theorem d_M_init_110 : decode c_M_init 110 = .ok (.putfield 50, 3) := by decide +kernel
theorem d_M_init_113 : decode c_M_init 113 = .ok (.aload_n 0, 1) := by decide +kernel
theorem d_M_init_114 : decode c_M_init 114 = .ok (.bipush 7, 2) := by decide +kernel
theorem d_M_init_116 : decode c_M_init 116 = .ok (.newarray .int, 2) := by decide +kernel
theorem d_M_init_118 : decode c_M_init 118 = .ok (.putfield 53, 3) := by decide +kernel
theorem d_M_init_121 : decode c_M_init 121 = .ok (.aload_n 0, 1) := by decide +kernel
theorem d_M_init_122 : decode c_M_init 122 = .ok (.bipush 7, 2) := by decide +kernel
theorem d_M_init_124 : decode c_M_init 124 = .ok (.newarray .int, 2) := by decide +kernel
theorem d_M_init_126 : decode c_M_init 126 = .ok (.putfield 56, 3) := by decide +kernel
theorem d_M_init_129 : decode c_M_init 129 = .ok (.aload_n 0, 1) := by decide +kernel
theorem d_M_init_130 : decode c_M_init 130 = .ok (.bipush 7, 2) := by decide +kernel
theorem d_M_init_132 : decode c_M_init 132 = .ok (.newarray .int, 2) := by decide +kernel
theorem d_M_init_134 : decode c_M_init 134 = .ok (.putfield 59, 3) := by decide +kernel
theorem d_M_init_137 : decode c_M_init 137 = .ok (.aload_n 0, 1) := by decide +kernel
theorem d_M_init_138 : decode c_M_init 138 = .ok (.bipush 7, 2) := by decide +kernel
theorem d_M_init_140 : decode c_M_init 140 = .ok (.newarray .int, 2) := by decide +kernel
theorem d_M_init_142 : decode c_M_init 142 = .ok (.putfield 62, 3) := by decide +kernel
theorem d_M_init_145 : decode c_M_init 145 = .ok (.aload_n 0, 1) := by decide +kernel
theorem d_M_init_146 : decode c_M_init 146 = .ok (.bipush 7, 2) := by decide +kernel
theorem d_M_init_148 : decode c_M_init 148 = .ok (.newarray .int, 2) := by decide +kernel
theorem d_M_init_150 : decode c_M_init 150 = .ok (.putfield 65, 3) := by decide +kernel
theorem d_M_init_153 : decode c_M_init 153 = .ok (.aload_n 0, 1) := by decide +kernel
theorem d_M_init_154 : decode c_M_init 154 = .ok (.sipush 280, 3) := by decide +kernel
theorem d_M_init_157 : decode c_M_init 157 = .ok (.newarray .boolean, 2) := by decide +kernel
theorem d_M_init_159 : decode c_M_init 159 = .ok (.putfield 68, 3) := by decide +kernel
theorem d_M_init_162 : decode c_M_init 162 = .ok (.aload_n 0, 1) := by decide +kernel
theorem d_M_init_163 : decode c_M_init 163 = .ok (.sipush 280, 3) := by decide +kernel
theorem d_M_init_166 : decode c_M_init 166 = .ok (.newarray .int, 2) := by decide +kernel
theorem d_M_init_168 : decode c_M_init 168 = .ok (.putfield 72, 3) := by decide +kernel
theorem d_M_init_171 : decode c_M_init 171 = .ok (.aload_n 0, 1) := by decide +kernel
theorem d_M_init_172 : decode c_M_init 172 = .ok (.bipush 49, 2) := by decide +kernel
theorem d_M_init_174 : decode c_M_init 174 = .ok (.newarray .int, 2) := by decide +kernel
theorem d_M_init_176 : decode c_M_init 176 = .ok (.putfield 75, 3) := by decide +kernel
theorem d_M_init_179 : decode c_M_init 179 = .ok (.aload_n 0, 1) := by decide +kernel
theorem d_M_init_180 : decode c_M_init 180 = .ok (.bipush 40, 2) := by decide +kernel
theorem d_M_init_182 : decode c_M_init 182 = .ok (.newarray .int, 2) := by decide +kernel
theorem d_M_init_184 : decode c_M_init 184 = .ok (.putfield 78, 3) := by decide +kernel
theorem d_M_init_187 : decode c_M_init 187 = .ok (.aload_n 0, 1) := by decide +kernel
theorem d_M_init_188 : decode c_M_init 188 = .ok (.iconst 4, 1) := by decide +kernel
theorem d_M_init_189 : decode c_M_init 189 = .ok (.newarray .int, 2) := by decide +kernel
theorem d_M_init_191 : decode c_M_init 191 = .ok (.putfield 81, 3) := by decide +kernel
theorem d_M_init_194 : decode c_M_init 194 = .ok (.aload_n 0, 1) := by decide +kernel
theorem d_M_init_195 : decode c_M_init 195 = .ok (.bipush 24, 2) := by decide +kernel
theorem d_M_init_197 : decode c_M_init 197 = .ok (.newarray .int, 2) := by decide +kernel
theorem d_M_init_199 : decode c_M_init 199 = .ok (.putfield 84, 3) := by decide +kernel
theorem d_M_init_202 : decode c_M_init 202 = .ok (.aload_n 0, 1) := by decide +kernel
theorem d_M_init_203 : decode c_M_init 203 = .ok (.iload_n 1, 1) := by decide +kernel
theorem d_M_init_204 : decode c_M_init 204 = .ok (.iconst 2, 1) := by decide +kernel
theorem d_M_init_205 : decode c_M_init 205 = .ok (.if_icmp .ne 7, 3) := by decide +kernel
theorem d_M_init_208 : decode c_M_init 208 = .ok (.iconst 2, 1) := by decide +kernel
theorem d_M_init_209 : decode c_M_init 209 = .ok (.goto 4, 3) := by decide +kernel
theorem d_M_init_212 : decode c_M_init 212 = .ok (.iconst 1, 1) := by decide +kernel
theorem d_M_init_213 : decode c_M_init 213 = .ok (.putfield 87, 3) := by decide +kernel
theorem d_M_init_216 : decode c_M_init 216 = .ok (.aload_n 0, 1) := by decide +kernel
theorem d_M_init_217 : decode c_M_init 217 = .ok (.iconst 3, 1) := by decide +kernel
theorem d_M_init_218 : decode c_M_init 218 = .ok (.aload_n 0, 1) := by decide +kernel
theorem d_M_init_219 : decode c_M_init 219 = .ok (.getfield 87, 3) := by decide +kernel
theorem d_M_init_222 : decode c_M_init 222 = .ok (.imul, 1) := by decide +kernel
theorem d_M_init_223 : decode c_M_init 223 = .ok (.iconst 1, 1) := by decide +kernel
theorem d_M_init_224 : decode c_M_init 224 = .ok (.iadd, 1) := by decide +kernel
theorem d_M_init_225 : decode c_M_init 225 = .ok (.putfield 90, 3) := by decide +kernel
theorem d_M_init_228 : decode c_M_init 228 = .ok (.aload_n 0, 1) := by decide +kernel
theorem d_M_init_229 : decode c_M_init 229 = .ok (.iload_n 3, 1) := by decide +kernel
theorem d_M_init_230 : decode c_M_init 230 = .ok (.iconst 4, 1) := by decide +kernel
theorem d_M_init_231 : decode c_M_init 231 = .ok (.if_icmp .ge 7, 3) := by decide +kernel
theorem d_M_init_234 : decode c_M_init 234 = .ok (.iconst 4, 1) := by decide +kernel
theorem d_M_init_235 : decode c_M_init 235 = .ok (.goto 15, 3) := by decide +kernel
theorem d_M_init_238 : decode c_M_init 238 = .ok (.iload_n 3, 1) := by decide +kernel
theorem d_M_init_239 : decode c_M_init 239 = .ok (.bipush 9, 2) := by decide +kernel
theorem d_M_init_241 : decode c_M_init 241 = .ok (.if_icmp .le 8, 3) := by decide +kernel
theorem d_M_init_244 : decode c_M_init 244 = .ok (.bipush 9, 2) := by decide +kernel
theorem d_M_init_246 : decode c_M_init 246 = .ok (.goto 4, 3) := by decide +kernel
theorem d_M_init_249 : decode c_M_init 249 = .ok (.iload_n 3, 1) := by decide +kernel
theorem d_M_init_250 : decode c_M_init 250 = .ok (.putfield 93, 3) := by decide +kernel
theorem d_M_init_253 : decode c_M_init 253 = .ok (.iconst 0, 1) := by decide +kernel
theorem d_M_init_254 : decode c_M_init 254 = .ok (.istore 4, 2) := by decide +kernel
theorem d_M_init_256 : decode c_M_init 256 = .ok (.iconst 0, 1) := by decide +kernel
theorem d_M_init_257 : decode c_M_init 257 = .ok (.istore 5, 2) := by decide +kernel
theorem d_M_init_259 : decode c_M_init 259 = .ok (.iconst 0, 1) := by decide +kernel
theorem d_M_init_260 : decode c_M_init 260 = .ok (.istore 6, 2) := by decide +kernel
theorem d_M_init_262 : decode c_M_init 262 = .ok (.iload 6, 2) := by decide +kernel
theorem d_M_init_264 : decode c_M_init 264 = .ok (.aload_n 0, 1) := by decide +kernel
theorem d_M_init_265 : decode c_M_init 265 = .ok (.getfield 90, 3) := by decide +kernel
theorem d_M_init_268 : decode c_M_init 268 = .ok (.if_icmp .ge 67, 3) := by decide +kernel
theorem d_M_init_271 : decode c_M_init 271 = .ok (.iload_n 2, 1) := by decide +kernel
theorem d_M_init_272 : decode c_M_init 272 = .ok (.iload 6, 2) := by decide +kernel
theorem d_M_init_274 : decode c_M_init 274 = .ok (.ishr, 1) := by decide +kernel
theorem d_M_init_275 : decode c_M_init 275 = .ok (.iconst 1, 1) := by decide +kernel
theorem d_M_init_276 : decode c_M_init 276 = .ok (.iand, 1) := by decide +kernel
theorem d_M_init_277 : decode c_M_init 277 = .ok (.iconst 1, 1) := by decide +kernel
theorem d_M_init_278 : decode c_M_init 278 = .ok (.if_icmp .ne 24, 3) := by decide +kernel
theorem d_M_init_281 : decode c_M_init 281 = .ok (.iload 5, 2) := by decide +kernel
theorem d_M_init_283 : decode c_M_init 283 = .ok (.aload_n 0, 1) := by decide +kernel
theorem d_M_init_284 : decode c_M_init 284 = .ok (.getfield 87, 3) := by decide +kernel
theorem d_M_init_287 : decode c_M_init 287 = .ok (.if_icmp .ge 15, 3) := by decide +kernel
theorem d_M_init_290 : decode c_M_init 290 = .ok (.iload 4, 2) := by decide +kernel
theorem d_M_init_292 : decode c_M_init 292 = .ok (.iconst 1, 1) := by decide +kernel
theorem d_M_init_293 : decode c_M_init 293 = .ok (.iload 6, 2) := by decide +kernel
theorem d_M_init_295 : decode c_M_init 295 = .ok (.ishl, 1) := by decide +kernel
theorem d_M_init_296 : decode c_M_init 296 = .ok (.ior, 1) := by decide +kernel
theorem d_M_init_297 : decode c_M_init 297 = .ok (.istore 4, 2) := by decide +kernel
theorem d_M_init_299 : decode c_M_init 299 = .ok (.iinc 5 1, 3) := by decide +kernel
theorem d_M_init_302 : decode c_M_init 302 = .ok (.aload_n 0, 1) := by decide +kernel
theorem d_M_init_303 : decode c_M_init 303 = .ok (.getfield 53, 3) := by decide +kernel
theorem d_M_init_306 : decode c_M_init 306 = .ok (.iload 6, 2) := by decide +kernel
theorem d_M_init_308 : decode c_M_init 308 = .ok (.iconst 1, 1) := by decide +kernel
theorem d_M_init_309 : decode c_M_init 309 = .ok (.iastore, 1) := by decide +kernel
theorem d_M_init_310 : decode c_M_init 310 = .ok (.aload_n 0, 1) := by decide +kernel
theorem d_M_init_311 : decode c_M_init 311 = .ok (.getfield 59, 3) := by decide +kernel
theorem d_M_init_314 : decode c_M_init 314 = .ok (.iload 6, 2) := by decide +kernel
theorem d_M_init_316 : decode c_M_init 316 = .ok (.iconst 2, 1) := by decide +kernel
theorem d_M_init_317 : decode c_M_init 317 = .ok (.iastore, 1) := by decide +kernel
theorem d_M_init_318 : decode c_M_init 318 = .ok (.aload_n 0, 1) := by decide +kernel
theorem d_M_init_319 : decode c_M_init 319 = .ok (.getfield 68, 3) := by decide +kernel
theorem d_M_init_322 : decode c_M_init 322 = .ok (.bipush 40, 2) := by decide +kernel
theorem d_M_init_324 : decode c_M_init 324 = .ok (.iload 6, 2) := by decide +kernel
theorem d_M_init_326 : decode c_M_init 326 = .ok (.imul, 1) := by decide +kernel
theorem d_M_init_327 : decode c_M_init 327 = .ok (.iconst 1, 1) := by decide +kernel
theorem d_M_init_328 : decode c_M_init 328 = .ok (.bastore, 1) := by decide +kernel
theorem d_M_init_329 : decode c_M_init 329 = .ok (.iinc 6 1, 3) := by decide +kernel
theorem d_M_init_332 : decode c_M_init 332 = .ok (.goto (-70), 3) := by decide +kernel
theorem d_M_init_335 : decode c_M_init 335 = .ok (.aload_n 0, 1) := by decide +kernel
theorem d_M_init_336 : decode c_M_init 336 = .ok (.iload 4, 2) := by decide +kernel
theorem d_M_init_338 : decode c_M_init 338 = .ok (.putfield 96, 3) := by decide +kernel
theorem d_M_init_341 : decode c_M_init 341 = .ok (.return_, 1) := by decide +kernel
theorem d_M_isReplica_0 : decode c_M_isReplica 0 = .ok (.iload_n 1, 1) := by decide +kernel
theorem d_M_isReplica_1 : decode c_M_isReplica 1 = .ok (.ifCond .lt 15, 3) := by decide +kernel
theorem d_M_isReplica_4 : decode c_M_isReplica 4 = .ok (.iload_n 1, 1) := by decide +kernel
theorem d_M_isReplica_5 : decode c_M_isReplica 5 = .ok (.aload_n 0, 1) := by decide +kernel
theorem d_M_isReplica_6 : decode c_M_isReplica 6 = .ok (.getfield 90, 3) := by decide +kernel
theorem d_M_isReplica_9 : decode c_M_isReplica 9 = .ok (.if_icmp .ge 7, 3) := by decide +kernel
theorem d_M_isReplica_12 : decode c_M_isReplica 12 = .ok (.iconst 1, 1) := by decide +kernel
theorem d_M_isReplica_13 : decode c_M_isReplica 13 = .ok (.goto 4, 3) := by decide +kernel
theorem d_M_isReplica_16 : decode c_M_isReplica 16 = .ok (.iconst 0, 1) := by decide +kernel
theorem d_M_isReplica_17 : decode c_M_isReplica 17 = .ok (.ireturn, 1) := by decide +kernel
theorem d_M_isCorrect_0 : decode c_M_isCorrect 0 = .ok (.aload_n 0, 1) := by decide +kernel
theorem d_M_isCorrect_1 : decode c_M_isCorrect 1 = .ok (.iload_n 1, 1) := by decide +kernel
theorem d_M_isCorrect_2 : decode c_M_isCorrect 2 = .ok (.invokevirtual 99, 3) := by decide +kernel
theorem d_M_isCorrect_5 : decode c_M_isCorrect 5 = .ok (.ifCond .eq 18, 3) := by decide +kernel
theorem d_M_isCorrect_8 : decode c_M_isCorrect 8 = .ok (.aload_n 0, 1) := by decide +kernel
theorem d_M_isCorrect_9 : decode c_M_isCorrect 9 = .ok (.getfield 96, 3) := by decide +kernel
theorem d_M_isCorrect_12 : decode c_M_isCorrect 12 = .ok (.iload_n 1, 1) := by decide +kernel
theorem d_M_isCorrect_13 : decode c_M_isCorrect 13 = .ok (.ishr, 1) := by decide +kernel
theorem d_M_isCorrect_14 : decode c_M_isCorrect 14 = .ok (.iconst 1, 1) := by decide +kernel
theorem d_M_isCorrect_15 : decode c_M_isCorrect 15 = .ok (.iand, 1) := by decide +kernel
theorem d_M_isCorrect_16 : decode c_M_isCorrect 16 = .ok (.ifCond .ne 7, 3) := by decide +kernel
theorem d_M_isCorrect_19 : decode c_M_isCorrect 19 = .ok (.iconst 1, 1) := by decide +kernel
theorem d_M_isCorrect_20 : decode c_M_isCorrect 20 = .ok (.goto 4, 3) := by decide +kernel
theorem d_M_isCorrect_23 : decode c_M_isCorrect 23 = .ok (.iconst 0, 1) := by decide +kernel
theorem d_M_isCorrect_24 : decode c_M_isCorrect 24 = .ok (.ireturn, 1) := by decide +kernel
theorem d_M_isCorrupt_0 : decode c_M_isCorrupt 0 = .ok (.aload_n 0, 1) := by decide +kernel
theorem d_M_isCorrupt_1 : decode c_M_isCorrupt 1 = .ok (.iload_n 1, 1) := by decide +kernel
theorem d_M_isCorrupt_2 : decode c_M_isCorrupt 2 = .ok (.invokevirtual 99, 3) := by decide +kernel
theorem d_M_isCorrupt_5 : decode c_M_isCorrupt 5 = .ok (.ifCond .eq 19, 3) := by decide +kernel
theorem d_M_isCorrupt_8 : decode c_M_isCorrupt 8 = .ok (.aload_n 0, 1) := by decide +kernel
theorem d_M_isCorrupt_9 : decode c_M_isCorrupt 9 = .ok (.getfield 96, 3) := by decide +kernel
theorem d_M_isCorrupt_12 : decode c_M_isCorrupt 12 = .ok (.iload_n 1, 1) := by decide +kernel
theorem d_M_isCorrupt_13 : decode c_M_isCorrupt 13 = .ok (.ishr, 1) := by decide +kernel
theorem d_M_isCorrupt_14 : decode c_M_isCorrupt 14 = .ok (.iconst 1, 1) := by decide +kernel
theorem d_M_isCorrupt_15 : decode c_M_isCorrupt 15 = .ok (.iand, 1) := by decide +kernel
theorem d_M_isCorrupt_16 : decode c_M_isCorrupt 16 = .ok (.iconst 1, 1) := by decide +kernel
theorem d_M_isCorrupt_17 : decode c_M_isCorrupt 17 = .ok (.if_icmp .ne 7, 3) := by decide +kernel
theorem d_M_isCorrupt_20 : decode c_M_isCorrupt 20 = .ok (.iconst 1, 1) := by decide +kernel
theorem d_M_isCorrupt_21 : decode c_M_isCorrupt 21 = .ok (.goto 4, 3) := by decide +kernel
theorem d_M_isCorrupt_24 : decode c_M_isCorrupt 24 = .ok (.iconst 0, 1) := by decide +kernel
theorem d_M_isCorrupt_25 : decode c_M_isCorrupt 25 = .ok (.ireturn, 1) := by decide +kernel
theorem d_M_isBlock_0 : decode c_M_isBlock 0 = .ok (.iload_n 1, 1) := by decide +kernel
theorem d_M_isBlock_1 : decode c_M_isBlock 1 = .ok (.ifCond .lt 15, 3) := by decide +kernel
theorem d_M_isBlock_4 : decode c_M_isBlock 4 = .ok (.iload_n 1, 1) := by decide +kernel
theorem d_M_isBlock_5 : decode c_M_isBlock 5 = .ok (.aload_n 0, 1) := by decide +kernel
theorem d_M_isBlock_6 : decode c_M_isBlock 6 = .ok (.getfield 22, 3) := by decide +kernel
theorem d_M_isBlock_9 : decode c_M_isBlock 9 = .ok (.if_icmp .ge 7, 3) := by decide +kernel
theorem d_M_isBlock_12 : decode c_M_isBlock 12 = .ok (.iconst 1, 1) := by decide +kernel
theorem d_M_isBlock_13 : decode c_M_isBlock 13 = .ok (.goto 4, 3) := by decide +kernel
theorem d_M_isBlock_16 : decode c_M_isBlock 16 = .ok (.iconst 0, 1) := by decide +kernel
theorem d_M_isBlock_17 : decode c_M_isBlock 17 = .ok (.ireturn, 1) := by decide +kernel
theorem d_M_leader_0 : decode c_M_leader 0 = .ok (.iload_n 1, 1) := by decide +kernel
theorem d_M_leader_1 : decode c_M_leader 1 = .ok (.iconst 1, 1) := by decide +kernel
theorem d_M_leader_2 : decode c_M_leader 2 = .ok (.isub, 1) := by decide +kernel
theorem d_M_leader_3 : decode c_M_leader 3 = .ok (.aload_n 0, 1) := by decide +kernel
theorem d_M_leader_4 : decode c_M_leader 4 = .ok (.getfield 93, 3) := by decide +kernel
theorem d_M_leader_7 : decode c_M_leader 7 = .ok (.idiv, 1) := by decide +kernel
theorem d_M_leader_8 : decode c_M_leader 8 = .ok (.aload_n 0, 1) := by decide +kernel
theorem d_M_leader_9 : decode c_M_leader 9 = .ok (.getfield 90, 3) := by decide +kernel
theorem d_M_leader_12 : decode c_M_leader 12 = .ok (.irem, 1) := by decide +kernel
theorem d_M_leader_13 : decode c_M_leader 13 = .ok (.ireturn, 1) := by decide +kernel
theorem d_M_size_0 : decode c_M_size 0 = .ok (.iconst 0, 1) := by decide +kernel
theorem d_M_size_1 : decode c_M_size 1 = .ok (.istore_n 1, 1) := by decide +kernel
theorem d_M_size_2 : decode c_M_size 2 = .ok (.iconst 0, 1) := by decide +kernel
theorem d_M_size_3 : decode c_M_size 3 = .ok (.istore_n 2, 1) := by decide +kernel
theorem d_M_size_4 : decode c_M_size 4 = .ok (.iload_n 2, 1) := by decide +kernel
theorem d_M_size_5 : decode c_M_size 5 = .ok (.bipush 7, 2) := by decide +kernel
theorem d_M_size_7 : decode c_M_size 7 = .ok (.if_icmp .ge 17, 3) := by decide +kernel
theorem d_M_size_10 : decode c_M_size 10 = .ok (.iload_n 1, 1) := by decide +kernel
theorem d_M_size_11 : decode c_M_size 11 = .ok (.iload_n 0, 1) := by decide +kernel
theorem d_M_size_12 : decode c_M_size 12 = .ok (.iload_n 2, 1) := by decide +kernel
theorem d_M_size_13 : decode c_M_size 13 = .ok (.ishr, 1) := by decide +kernel
theorem d_M_size_14 : decode c_M_size 14 = .ok (.iconst 1, 1) := by decide +kernel
theorem d_M_size_15 : decode c_M_size 15 = .ok (.iand, 1) := by decide +kernel
theorem d_M_size_16 : decode c_M_size 16 = .ok (.iadd, 1) := by decide +kernel
theorem d_M_size_17 : decode c_M_size 17 = .ok (.istore_n 1, 1) := by decide +kernel
theorem d_M_size_18 : decode c_M_size 18 = .ok (.iinc 2 1, 3) := by decide +kernel
theorem d_M_size_21 : decode c_M_size 21 = .ok (.goto (-17), 3) := by decide +kernel
theorem d_M_size_24 : decode c_M_size 24 = .ok (.iload_n 1, 1) := by decide +kernel
theorem d_M_size_25 : decode c_M_size 25 = .ok (.ireturn, 1) := by decide +kernel
theorem d_M_certified_0 : decode c_M_certified 0 = .ok (.iload_n 1, 1) := by decide +kernel
theorem d_M_certified_1 : decode c_M_certified 1 = .ok (.ifCond .eq 28, 3) := by decide +kernel
theorem d_M_certified_4 : decode c_M_certified 4 = .ok (.aload_n 0, 1) := by decide +kernel
theorem d_M_certified_5 : decode c_M_certified 5 = .ok (.getfield 35, 3) := by decide +kernel
theorem d_M_certified_8 : decode c_M_certified 8 = .ok (.iload_n 1, 1) := by decide +kernel
theorem d_M_certified_9 : decode c_M_certified 9 = .ok (.iaload, 1) := by decide +kernel
theorem d_M_certified_10 : decode c_M_certified 10 = .ok (.aload_n 0, 1) := by decide +kernel
theorem d_M_certified_11 : decode c_M_certified 11 = .ok (.getfield 96, 3) := by decide +kernel
theorem d_M_certified_14 : decode c_M_certified 14 = .ok (.ior, 1) := by decide +kernel
theorem d_M_certified_15 : decode c_M_certified 15 = .ok (.invokestatic 103, 3) := by decide +kernel
theorem d_M_certified_18 : decode c_M_certified 18 = .ok (.iconst 2, 1) := by decide +kernel
theorem d_M_certified_19 : decode c_M_certified 19 = .ok (.aload_n 0, 1) := by decide +kernel
theorem d_M_certified_20 : decode c_M_certified 20 = .ok (.getfield 87, 3) := by decide +kernel
theorem d_M_certified_23 : decode c_M_certified 23 = .ok (.imul, 1) := by decide +kernel
theorem d_M_certified_24 : decode c_M_certified 24 = .ok (.iconst 1, 1) := by decide +kernel
theorem d_M_certified_25 : decode c_M_certified 25 = .ok (.iadd, 1) := by decide +kernel
theorem d_M_certified_26 : decode c_M_certified 26 = .ok (.if_icmp .lt 7, 3) := by decide +kernel
theorem d_M_certified_29 : decode c_M_certified 29 = .ok (.iconst 1, 1) := by decide +kernel
theorem d_M_certified_30 : decode c_M_certified 30 = .ok (.goto 4, 3) := by decide +kernel
theorem d_M_certified_33 : decode c_M_certified 33 = .ok (.iconst 0, 1) := by decide +kernel
theorem d_M_certified_34 : decode c_M_certified 34 = .ok (.ireturn, 1) := by decide +kernel
theorem d_M_inChain_0 : decode c_M_inChain 0 = .ok (.iload_n 2, 1) := by decide +kernel
theorem d_M_inChain_1 : decode c_M_inChain 1 = .ok (.istore_n 3, 1) := by decide +kernel
theorem d_M_inChain_2 : decode c_M_inChain 2 = .ok (.iconst 0, 1) := by decide +kernel
theorem d_M_inChain_3 : decode c_M_inChain 3 = .ok (.istore 4, 2) := by decide +kernel
theorem d_M_inChain_5 : decode c_M_inChain 5 = .ok (.iload 4, 2) := by decide +kernel
theorem d_M_inChain_7 : decode c_M_inChain 7 = .ok (.bipush 40, 2) := by decide +kernel
theorem d_M_inChain_9 : decode c_M_inChain 9 = .ok (.if_icmp .ge 25, 3) := by decide +kernel
theorem d_M_inChain_12 : decode c_M_inChain 12 = .ok (.iload_n 3, 1) := by decide +kernel
theorem d_M_inChain_13 : decode c_M_inChain 13 = .ok (.iload_n 1, 1) := by decide +kernel
theorem d_M_inChain_14 : decode c_M_inChain 14 = .ok (.if_icmp .eq 20, 3) := by decide +kernel
theorem d_M_inChain_17 : decode c_M_inChain 17 = .ok (.iload_n 3, 1) := by decide +kernel
theorem d_M_inChain_18 : decode c_M_inChain 18 = .ok (.ifCond .eq 16, 3) := by decide +kernel
theorem d_M_inChain_21 : decode c_M_inChain 21 = .ok (.aload_n 0, 1) := by decide +kernel
theorem d_M_inChain_22 : decode c_M_inChain 22 = .ok (.getfield 29, 3) := by decide +kernel
theorem d_M_inChain_25 : decode c_M_inChain 25 = .ok (.iload_n 3, 1) := by decide +kernel
theorem d_M_inChain_26 : decode c_M_inChain 26 = .ok (.iaload, 1) := by decide +kernel
theorem d_M_inChain_27 : decode c_M_inChain 27 = .ok (.istore_n 3, 1) := by decide +kernel
theorem d_M_inChain_28 : decode c_M_inChain 28 = .ok (.iinc 4 1, 3) := by decide +kernel
theorem d_M_inChain_31 : decode c_M_inChain 31 = .ok (.goto (-26), 3) := by decide +kernel
theorem d_M_inChain_34 : decode c_M_inChain 34 = .ok (.iload_n 3, 1) := by decide +kernel
theorem d_M_inChain_35 : decode c_M_inChain 35 = .ok (.iload_n 1, 1) := by decide +kernel
theorem d_M_inChain_36 : decode c_M_inChain 36 = .ok (.if_icmp .ne 7, 3) := by decide +kernel
theorem d_M_inChain_39 : decode c_M_inChain 39 = .ok (.iconst 1, 1) := by decide +kernel
theorem d_M_inChain_40 : decode c_M_inChain 40 = .ok (.goto 4, 3) := by decide +kernel
theorem d_M_inChain_43 : decode c_M_inChain 43 = .ok (.iconst 0, 1) := by decide +kernel
theorem d_M_inChain_44 : decode c_M_inChain 44 = .ok (.ireturn, 1) := by decide +kernel
theorem d_M_high_0 : decode c_M_high 0 = .ok (.iconst 0, 1) := by decide +kernel
theorem d_M_high_1 : decode c_M_high 1 = .ok (.istore_n 2, 1) := by decide +kernel
theorem d_M_high_2 : decode c_M_high 2 = .ok (.iconst 1, 1) := by decide +kernel
theorem d_M_high_3 : decode c_M_high 3 = .ok (.istore_n 3, 1) := by decide +kernel
theorem d_M_high_4 : decode c_M_high 4 = .ok (.iload_n 3, 1) := by decide +kernel
theorem d_M_high_5 : decode c_M_high 5 = .ok (.aload_n 0, 1) := by decide +kernel
theorem d_M_high_6 : decode c_M_high 6 = .ok (.getfield 22, 3) := by decide +kernel
theorem d_M_high_9 : decode c_M_high 9 = .ok (.if_icmp .ge 40, 3) := by decide +kernel
theorem d_M_high_12 : decode c_M_high 12 = .ok (.aload_n 0, 1) := by decide +kernel
theorem d_M_high_13 : decode c_M_high 13 = .ok (.getfield 68, 3) := by decide +kernel
theorem d_M_high_16 : decode c_M_high 16 = .ok (.bipush 40, 2) := by decide +kernel
theorem d_M_high_18 : decode c_M_high 18 = .ok (.iload_n 1, 1) := by decide +kernel
theorem d_M_high_19 : decode c_M_high 19 = .ok (.imul, 1) := by decide +kernel
theorem d_M_high_20 : decode c_M_high 20 = .ok (.iload_n 3, 1) := by decide +kernel
theorem d_M_high_21 : decode c_M_high 21 = .ok (.iadd, 1) := by decide +kernel
theorem d_M_high_22 : decode c_M_high 22 = .ok (.baload, 1) := by decide +kernel
theorem d_M_high_23 : decode c_M_high 23 = .ok (.ifCond .eq 20, 3) := by decide +kernel
theorem d_M_high_26 : decode c_M_high 26 = .ok (.aload_n 0, 1) := by decide +kernel
theorem d_M_high_27 : decode c_M_high 27 = .ok (.getfield 26, 3) := by decide +kernel
theorem d_M_high_30 : decode c_M_high 30 = .ok (.iload_n 3, 1) := by decide +kernel
theorem d_M_high_31 : decode c_M_high 31 = .ok (.iaload, 1) := by decide +kernel
theorem d_M_high_32 : decode c_M_high 32 = .ok (.aload_n 0, 1) := by decide +kernel
theorem d_M_high_33 : decode c_M_high 33 = .ok (.getfield 26, 3) := by decide +kernel
theorem d_M_high_36 : decode c_M_high 36 = .ok (.iload_n 2, 1) := by decide +kernel
theorem d_M_high_37 : decode c_M_high 37 = .ok (.iaload, 1) := by decide +kernel
theorem d_M_high_38 : decode c_M_high 38 = .ok (.if_icmp .le 5, 3) := by decide +kernel
theorem d_M_high_41 : decode c_M_high 41 = .ok (.iload_n 3, 1) := by decide +kernel
theorem d_M_high_42 : decode c_M_high 42 = .ok (.istore_n 2, 1) := by decide +kernel
theorem d_M_high_43 : decode c_M_high 43 = .ok (.iinc 3 1, 3) := by decide +kernel
theorem d_M_high_46 : decode c_M_high 46 = .ok (.goto (-42), 3) := by decide +kernel
theorem d_M_high_49 : decode c_M_high 49 = .ok (.iload_n 2, 1) := by decide +kernel
theorem d_M_high_50 : decode c_M_high 50 = .ok (.ireturn, 1) := by decide +kernel
theorem d_M_lock_0 : decode c_M_lock 0 = .ok (.iconst 0, 1) := by decide +kernel
theorem d_M_lock_1 : decode c_M_lock 1 = .ok (.istore_n 2, 1) := by decide +kernel
theorem d_M_lock_2 : decode c_M_lock 2 = .ok (.iconst 1, 1) := by decide +kernel
theorem d_M_lock_3 : decode c_M_lock 3 = .ok (.istore_n 3, 1) := by decide +kernel
theorem d_M_lock_4 : decode c_M_lock 4 = .ok (.iload_n 3, 1) := by decide +kernel
theorem d_M_lock_5 : decode c_M_lock 5 = .ok (.aload_n 0, 1) := by decide +kernel
theorem d_M_lock_6 : decode c_M_lock 6 = .ok (.getfield 22, 3) := by decide +kernel
theorem d_M_lock_9 : decode c_M_lock 9 = .ok (.if_icmp .ge 50, 3) := by decide +kernel
theorem d_M_lock_12 : decode c_M_lock 12 = .ok (.aload_n 0, 1) := by decide +kernel
theorem d_M_lock_13 : decode c_M_lock 13 = .ok (.getfield 68, 3) := by decide +kernel
theorem d_M_lock_16 : decode c_M_lock 16 = .ok (.bipush 40, 2) := by decide +kernel
theorem d_M_lock_18 : decode c_M_lock 18 = .ok (.iload_n 1, 1) := by decide +kernel
theorem d_M_lock_19 : decode c_M_lock 19 = .ok (.imul, 1) := by decide +kernel
theorem d_M_lock_20 : decode c_M_lock 20 = .ok (.iload_n 3, 1) := by decide +kernel
theorem d_M_lock_21 : decode c_M_lock 21 = .ok (.iadd, 1) := by decide +kernel
theorem d_M_lock_22 : decode c_M_lock 22 = .ok (.baload, 1) := by decide +kernel
theorem d_M_lock_23 : decode c_M_lock 23 = .ok (.ifCond .eq 30, 3) := by decide +kernel
theorem d_M_lock_26 : decode c_M_lock 26 = .ok (.aload_n 0, 1) := by decide +kernel
theorem d_M_lock_27 : decode c_M_lock 27 = .ok (.getfield 26, 3) := by decide +kernel
theorem d_M_lock_30 : decode c_M_lock 30 = .ok (.aload_n 0, 1) := by decide +kernel
theorem d_M_lock_31 : decode c_M_lock 31 = .ok (.getfield 29, 3) := by decide +kernel
theorem d_M_lock_34 : decode c_M_lock 34 = .ok (.iload_n 3, 1) := by decide +kernel
theorem d_M_lock_35 : decode c_M_lock 35 = .ok (.iaload, 1) := by decide +kernel
theorem d_M_lock_36 : decode c_M_lock 36 = .ok (.iaload, 1) := by decide +kernel
theorem d_M_lock_37 : decode c_M_lock 37 = .ok (.aload_n 0, 1) := by decide +kernel
theorem d_M_lock_38 : decode c_M_lock 38 = .ok (.getfield 26, 3) := by decide +kernel
theorem d_M_lock_41 : decode c_M_lock 41 = .ok (.iload_n 2, 1) := by decide +kernel
theorem d_M_lock_42 : decode c_M_lock 42 = .ok (.iaload, 1) := by decide +kernel
theorem d_M_lock_43 : decode c_M_lock 43 = .ok (.if_icmp .le 10, 3) := by decide +kernel
theorem d_M_lock_46 : decode c_M_lock 46 = .ok (.aload_n 0, 1) := by decide +kernel
theorem d_M_lock_47 : decode c_M_lock 47 = .ok (.getfield 29, 3) := by decide +kernel
theorem d_M_lock_50 : decode c_M_lock 50 = .ok (.iload_n 3, 1) := by decide +kernel
theorem d_M_lock_51 : decode c_M_lock 51 = .ok (.iaload, 1) := by decide +kernel
theorem d_M_lock_52 : decode c_M_lock 52 = .ok (.istore_n 2, 1) := by decide +kernel
theorem d_M_lock_53 : decode c_M_lock 53 = .ok (.iinc 3 1, 3) := by decide +kernel
theorem d_M_lock_56 : decode c_M_lock 56 = .ok (.goto (-52), 3) := by decide +kernel
theorem d_M_lock_59 : decode c_M_lock 59 = .ok (.iload_n 2, 1) := by decide +kernel
theorem d_M_lock_60 : decode c_M_lock 60 = .ok (.ireturn, 1) := by decide +kernel
theorem d_M_tip_0 : decode c_M_tip 0 = .ok (.iconst 0, 1) := by decide +kernel
theorem d_M_tip_1 : decode c_M_tip 1 = .ok (.istore_n 2, 1) := by decide +kernel
theorem d_M_tip_2 : decode c_M_tip 2 = .ok (.iconst 1, 1) := by decide +kernel
theorem d_M_tip_3 : decode c_M_tip 3 = .ok (.istore_n 3, 1) := by decide +kernel
theorem d_M_tip_4 : decode c_M_tip 4 = .ok (.iload_n 3, 1) := by decide +kernel
theorem d_M_tip_5 : decode c_M_tip 5 = .ok (.aload_n 0, 1) := by decide +kernel
theorem d_M_tip_6 : decode c_M_tip 6 = .ok (.getfield 22, 3) := by decide +kernel
theorem d_M_tip_9 : decode c_M_tip 9 = .ok (.if_icmp .ge 113, 3) := by decide +kernel
theorem d_M_tip_12 : decode c_M_tip 12 = .ok (.aload_n 0, 1) := by decide +kernel
theorem d_M_tip_13 : decode c_M_tip 13 = .ok (.getfield 29, 3) := by decide +kernel
theorem d_M_tip_16 : decode c_M_tip 16 = .ok (.iload_n 3, 1) := by decide +kernel
theorem d_M_tip_17 : decode c_M_tip 17 = .ok (.iaload, 1) := by decide +kernel
theorem d_M_tip_18 : decode c_M_tip 18 = .ok (.istore 4, 2) := by decide +kernel
theorem d_M_tip_20 : decode c_M_tip 20 = .ok (.aload_n 0, 1) := by decide +kernel
theorem d_M_tip_21 : decode c_M_tip 21 = .ok (.getfield 29, 3) := by decide +kernel
theorem d_M_tip_24 : decode c_M_tip 24 = .ok (.iload 4, 2) := by decide +kernel
theorem d_M_tip_26 : decode c_M_tip 26 = .ok (.iaload, 1) := by decide +kernel
theorem d_M_tip_27 : decode c_M_tip 27 = .ok (.istore 5, 2) := by decide +kernel
theorem d_M_tip_29 : decode c_M_tip 29 = .ok (.aload_n 0, 1) := by decide +kernel
theorem d_M_tip_30 : decode c_M_tip 30 = .ok (.getfield 68, 3) := by decide +kernel
theorem d_M_tip_33 : decode c_M_tip 33 = .ok (.bipush 40, 2) := by decide +kernel
theorem d_M_tip_35 : decode c_M_tip 35 = .ok (.iload_n 1, 1) := by decide +kernel
theorem d_M_tip_36 : decode c_M_tip 36 = .ok (.imul, 1) := by decide +kernel
theorem d_M_tip_37 : decode c_M_tip 37 = .ok (.iload_n 3, 1) := by decide +kernel
theorem d_M_tip_38 : decode c_M_tip 38 = .ok (.iadd, 1) := by decide +kernel
theorem d_M_tip_39 : decode c_M_tip 39 = .ok (.baload, 1) := by decide +kernel
theorem d_M_tip_40 : decode c_M_tip 40 = .ok (.ifCond .eq 49, 3) := by decide +kernel
theorem d_M_tip_43 : decode c_M_tip 43 = .ok (.iload 4, 2) := by decide +kernel
theorem d_M_tip_45 : decode c_M_tip 45 = .ok (.ifCond .le 44, 3) := by decide +kernel
theorem d_M_tip_48 : decode c_M_tip 48 = .ok (.aload_n 0, 1) := by decide +kernel
theorem d_M_tip_49 : decode c_M_tip 49 = .ok (.getfield 26, 3) := by decide +kernel
theorem d_M_tip_52 : decode c_M_tip 52 = .ok (.iload_n 3, 1) := by decide +kernel
theorem d_M_tip_53 : decode c_M_tip 53 = .ok (.iaload, 1) := by decide +kernel
theorem d_M_tip_54 : decode c_M_tip 54 = .ok (.aload_n 0, 1) := by decide +kernel
theorem d_M_tip_55 : decode c_M_tip 55 = .ok (.getfield 26, 3) := by decide +kernel
theorem d_M_tip_58 : decode c_M_tip 58 = .ok (.iload 4, 2) := by decide +kernel
theorem d_M_tip_60 : decode c_M_tip 60 = .ok (.iaload, 1) := by decide +kernel
theorem d_M_tip_61 : decode c_M_tip 61 = .ok (.iconst 1, 1) := by decide +kernel
theorem d_M_tip_62 : decode c_M_tip 62 = .ok (.iadd, 1) := by decide +kernel
theorem d_M_tip_63 : decode c_M_tip 63 = .ok (.if_icmp .ne 26, 3) := by decide +kernel
theorem d_M_tip_66 : decode c_M_tip 66 = .ok (.aload_n 0, 1) := by decide +kernel
theorem d_M_tip_67 : decode c_M_tip 67 = .ok (.getfield 26, 3) := by decide +kernel
theorem d_M_tip_70 : decode c_M_tip 70 = .ok (.iload 4, 2) := by decide +kernel
theorem d_M_tip_72 : decode c_M_tip 72 = .ok (.iaload, 1) := by decide +kernel
theorem d_M_tip_73 : decode c_M_tip 73 = .ok (.aload_n 0, 1) := by decide +kernel
theorem d_M_tip_74 : decode c_M_tip 74 = .ok (.getfield 26, 3) := by decide +kernel
theorem d_M_tip_77 : decode c_M_tip 77 = .ok (.iload 5, 2) := by decide +kernel
theorem d_M_tip_79 : decode c_M_tip 79 = .ok (.iaload, 1) := by decide +kernel
theorem d_M_tip_80 : decode c_M_tip 80 = .ok (.iconst 1, 1) := by decide +kernel
theorem d_M_tip_81 : decode c_M_tip 81 = .ok (.iadd, 1) := by decide +kernel
theorem d_M_tip_82 : decode c_M_tip 82 = .ok (.if_icmp .ne 7, 3) := by decide +kernel
theorem d_M_tip_85 : decode c_M_tip 85 = .ok (.iconst 1, 1) := by decide +kernel
theorem d_M_tip_86 : decode c_M_tip 86 = .ok (.goto 4, 3) := by decide +kernel
theorem d_M_tip_89 : decode c_M_tip 89 = .ok (.iconst 0, 1) := by decide +kernel
theorem d_M_tip_90 : decode c_M_tip 90 = .ok (.istore 6, 2) := by decide +kernel
theorem d_M_tip_92 : decode c_M_tip 92 = .ok (.iload 6, 2) := by decide +kernel
theorem d_M_tip_94 : decode c_M_tip 94 = .ok (.ifCond .eq 22, 3) := by decide +kernel
theorem d_M_tip_97 : decode c_M_tip 97 = .ok (.aload_n 0, 1) := by decide +kernel
theorem d_M_tip_98 : decode c_M_tip 98 = .ok (.getfield 26, 3) := by decide +kernel
theorem d_M_tip_101 : decode c_M_tip 101 = .ok (.iload 5, 2) := by decide +kernel
theorem d_M_tip_103 : decode c_M_tip 103 = .ok (.iaload, 1) := by decide +kernel
theorem d_M_tip_104 : decode c_M_tip 104 = .ok (.aload_n 0, 1) := by decide +kernel
theorem d_M_tip_105 : decode c_M_tip 105 = .ok (.getfield 26, 3) := by decide +kernel
theorem d_M_tip_108 : decode c_M_tip 108 = .ok (.iload_n 2, 1) := by decide +kernel
theorem d_M_tip_109 : decode c_M_tip 109 = .ok (.iaload, 1) := by decide +kernel
theorem d_M_tip_110 : decode c_M_tip 110 = .ok (.if_icmp .le 6, 3) := by decide +kernel
theorem d_M_tip_113 : decode c_M_tip 113 = .ok (.iload 5, 2) := by decide +kernel
theorem d_M_tip_115 : decode c_M_tip 115 = .ok (.istore_n 2, 1) := by decide +kernel
theorem d_M_tip_116 : decode c_M_tip 116 = .ok (.iinc 3 1, 3) := by decide +kernel
theorem d_M_tip_119 : decode c_M_tip 119 = .ok (.goto (-115), 3) := by decide +kernel
theorem d_M_tip_122 : decode c_M_tip 122 = .ok (.iload_n 2, 1) := by decide +kernel
theorem d_M_tip_123 : decode c_M_tip 123 = .ok (.ireturn, 1) := by decide +kernel
end
section
theorem d_M_push_0 : decode c_M_push 0 = .ok (.iconst 0, 1) := by decide +kernel
theorem d_M_push_1 : decode c_M_push 1 = .ok (.istore_n 2, 1) := by decide +kernel
theorem d_M_push_2 : decode c_M_push 2 = .ok (.iconst 0, 1) := by decide +kernel
theorem d_M_push_3 : decode c_M_push 3 = .ok (.istore_n 3, 1) := by decide +kernel
theorem d_M_push_4 : decode c_M_push 4 = .ok (.iload_n 3, 1) := by decide +kernel
theorem d_M_push_5 : decode c_M_push 5 = .ok (.aload_n 0, 1) := by decide +kernel
theorem d_M_push_6 : decode c_M_push 6 = .ok (.getfield 90, 3) := by decide +kernel
theorem d_M_push_9 : decode c_M_push 9 = .ok (.if_icmp .ge 85, 3) := by decide +kernel
theorem d_M_push_12 : decode c_M_push 12 = .ok (.aload_n 0, 1) := by decide +kernel
theorem d_M_push_13 : decode c_M_push 13 = .ok (.getfield 75, 3) := by decide +kernel
theorem d_M_push_16 : decode c_M_push 16 = .ok (.bipush 7, 2) := by decide +kernel
theorem d_M_push_18 : decode c_M_push 18 = .ok (.iload_n 1, 1) := by decide +kernel
theorem d_M_push_19 : decode c_M_push 19 = .ok (.imul, 1) := by decide +kernel
theorem d_M_push_20 : decode c_M_push 20 = .ok (.iload_n 3, 1) := by decide +kernel
theorem d_M_push_21 : decode c_M_push 21 = .ok (.iadd, 1) := by decide +kernel
theorem d_M_push_22 : decode c_M_push 22 = .ok (.iaload, 1) := by decide +kernel
theorem d_M_push_23 : decode c_M_push 23 = .ok (.istore 4, 2) := by decide +kernel
theorem d_M_push_25 : decode c_M_push 25 = .ok (.iconst 0, 1) := by decide +kernel
theorem d_M_push_26 : decode c_M_push 26 = .ok (.istore 5, 2) := by decide +kernel
theorem d_M_push_28 : decode c_M_push 28 = .ok (.iconst 0, 1) := by decide +kernel
theorem d_M_push_29 : decode c_M_push 29 = .ok (.istore 6, 2) := by decide +kernel
theorem d_M_push_31 : decode c_M_push 31 = .ok (.iload 6, 2) := by decide +kernel
theorem d_M_push_33 : decode c_M_push 33 = .ok (.aload_n 0, 1) := by decide +kernel
theorem d_M_push_34 : decode c_M_push 34 = .ok (.getfield 90, 3) := by decide +kernel
theorem d_M_push_37 : decode c_M_push 37 = .ok (.if_icmp .ge 29, 3) := by decide +kernel
theorem d_M_push_40 : decode c_M_push 40 = .ok (.aload_n 0, 1) := by decide +kernel
theorem d_M_push_41 : decode c_M_push 41 = .ok (.getfield 75, 3) := by decide +kernel
theorem d_M_push_44 : decode c_M_push 44 = .ok (.bipush 7, 2) := by decide +kernel
theorem d_M_push_46 : decode c_M_push 46 = .ok (.iload_n 1, 1) := by decide +kernel
theorem d_M_push_47 : decode c_M_push 47 = .ok (.imul, 1) := by decide +kernel
theorem d_M_push_48 : decode c_M_push 48 = .ok (.iload 6, 2) := by decide +kernel
theorem d_M_push_50 : decode c_M_push 50 = .ok (.iadd, 1) := by decide +kernel
theorem d_M_push_51 : decode c_M_push 51 = .ok (.iaload, 1) := by decide +kernel
theorem d_M_push_52 : decode c_M_push 52 = .ok (.iload 4, 2) := by decide +kernel
theorem d_M_push_54 : decode c_M_push 54 = .ok (.if_icmp .lt 6, 3) := by decide +kernel
theorem d_M_push_57 : decode c_M_push 57 = .ok (.iinc 5 1, 3) := by decide +kernel
theorem d_M_push_60 : decode c_M_push 60 = .ok (.iinc 6 1, 3) := by decide +kernel
theorem d_M_push_63 : decode c_M_push 63 = .ok (.goto (-32), 3) := by decide +kernel
theorem d_M_push_66 : decode c_M_push 66 = .ok (.iload 5, 2) := by decide +kernel
theorem d_M_push_68 : decode c_M_push 68 = .ok (.iconst 2, 1) := by decide +kernel
theorem d_M_push_69 : decode c_M_push 69 = .ok (.aload_n 0, 1) := by decide +kernel
theorem d_M_push_70 : decode c_M_push 70 = .ok (.getfield 87, 3) := by decide +kernel
theorem d_M_push_73 : decode c_M_push 73 = .ok (.imul, 1) := by decide +kernel
theorem d_M_push_74 : decode c_M_push 74 = .ok (.iconst 1, 1) := by decide +kernel
theorem d_M_push_75 : decode c_M_push 75 = .ok (.iadd, 1) := by decide +kernel
theorem d_M_push_76 : decode c_M_push 76 = .ok (.if_icmp .lt 12, 3) := by decide +kernel
theorem d_M_push_79 : decode c_M_push 79 = .ok (.iload 4, 2) := by decide +kernel
theorem d_M_push_81 : decode c_M_push 81 = .ok (.iload_n 2, 1) := by decide +kernel
theorem d_M_push_82 : decode c_M_push 82 = .ok (.if_icmp .le 6, 3) := by decide +kernel
theorem d_M_push_85 : decode c_M_push 85 = .ok (.iload 4, 2) := by decide +kernel
theorem d_M_push_87 : decode c_M_push 87 = .ok (.istore_n 2, 1) := by decide +kernel
theorem d_M_push_88 : decode c_M_push 88 = .ok (.iinc 3 1, 3) := by decide +kernel
theorem d_M_push_91 : decode c_M_push 91 = .ok (.goto (-87), 3) := by decide +kernel
theorem d_M_push_94 : decode c_M_push 94 = .ok (.iload_n 2, 1) := by decide +kernel
theorem d_M_push_95 : decode c_M_push 95 = .ok (.ireturn, 1) := by decide +kernel
theorem d_M_send_0 : decode c_M_send 0 = .ok (.aload_n 0, 1) := by decide +kernel
theorem d_M_send_1 : decode c_M_send 1 = .ok (.getfield 107, 3) := by decide +kernel
theorem d_M_send_4 : decode c_M_send 4 = .ok (.bipush 40, 2) := by decide +kernel
theorem d_M_send_6 : decode c_M_send 6 = .ok (.if_icmp .lt 14, 3) := by decide +kernel
theorem d_M_send_9 : decode c_M_send 9 = .ok (.aload_n 0, 1) := by decide +kernel
theorem d_M_send_10 : decode c_M_send 10 = .ok (.dup, 1) := by decide +kernel
theorem d_M_send_11 : decode c_M_send 11 = .ok (.getfield 110, 3) := by decide +kernel
theorem d_M_send_14 : decode c_M_send 14 = .ok (.iconst 1, 1) := by decide +kernel
theorem d_M_send_15 : decode c_M_send 15 = .ok (.iadd, 1) := by decide +kernel
theorem d_M_send_16 : decode c_M_send 16 = .ok (.putfield 110, 3) := by decide +kernel
theorem d_M_send_19 : decode c_M_send 19 = .ok (.return_, 1) := by decide +kernel
theorem d_M_send_20 : decode c_M_send 20 = .ok (.aload_n 0, 1) := by decide +kernel
theorem d_M_send_21 : decode c_M_send 21 = .ok (.getfield 38, 3) := by decide +kernel
theorem d_M_send_24 : decode c_M_send 24 = .ok (.aload_n 0, 1) := by decide +kernel
theorem d_M_send_25 : decode c_M_send 25 = .ok (.getfield 107, 3) := by decide +kernel
theorem d_M_send_28 : decode c_M_send 28 = .ok (.iload_n 1, 1) := by decide +kernel
theorem d_M_send_29 : decode c_M_send 29 = .ok (.iastore, 1) := by decide +kernel
theorem d_M_send_30 : decode c_M_send 30 = .ok (.aload_n 0, 1) := by decide +kernel
theorem d_M_send_31 : decode c_M_send 31 = .ok (.getfield 44, 3) := by decide +kernel
theorem d_M_send_34 : decode c_M_send 34 = .ok (.aload_n 0, 1) := by decide +kernel
theorem d_M_send_35 : decode c_M_send 35 = .ok (.getfield 107, 3) := by decide +kernel
theorem d_M_send_38 : decode c_M_send 38 = .ok (.iload_n 2, 1) := by decide +kernel
theorem d_M_send_39 : decode c_M_send 39 = .ok (.iastore, 1) := by decide +kernel
theorem d_M_send_40 : decode c_M_send 40 = .ok (.aload_n 0, 1) := by decide +kernel
theorem d_M_send_41 : decode c_M_send 41 = .ok (.getfield 41, 3) := by decide +kernel
theorem d_M_send_44 : decode c_M_send 44 = .ok (.aload_n 0, 1) := by decide +kernel
theorem d_M_send_45 : decode c_M_send 45 = .ok (.getfield 107, 3) := by decide +kernel
theorem d_M_send_48 : decode c_M_send 48 = .ok (.iload_n 3, 1) := by decide +kernel
theorem d_M_send_49 : decode c_M_send 49 = .ok (.iastore, 1) := by decide +kernel
theorem d_M_send_50 : decode c_M_send 50 = .ok (.aload_n 0, 1) := by decide +kernel
theorem d_M_send_51 : decode c_M_send 51 = .ok (.getfield 47, 3) := by decide +kernel
theorem d_M_send_54 : decode c_M_send 54 = .ok (.aload_n 0, 1) := by decide +kernel
theorem d_M_send_55 : decode c_M_send 55 = .ok (.getfield 107, 3) := by decide +kernel
theorem d_M_send_58 : decode c_M_send 58 = .ok (.iload 4, 2) := by decide +kernel
theorem d_M_send_60 : decode c_M_send 60 = .ok (.iastore, 1) := by decide +kernel
theorem d_M_send_61 : decode c_M_send 61 = .ok (.aload_n 0, 1) := by decide +kernel
theorem d_M_send_62 : decode c_M_send 62 = .ok (.getfield 50, 3) := by decide +kernel
theorem d_M_send_65 : decode c_M_send 65 = .ok (.aload_n 0, 1) := by decide +kernel
theorem d_M_send_66 : decode c_M_send 66 = .ok (.getfield 107, 3) := by decide +kernel
theorem d_M_send_69 : decode c_M_send 69 = .ok (.iload 5, 2) := by decide +kernel
theorem d_M_send_71 : decode c_M_send 71 = .ok (.iastore, 1) := by decide +kernel
theorem d_M_send_72 : decode c_M_send 72 = .ok (.aload_n 0, 1) := by decide +kernel
theorem d_M_send_73 : decode c_M_send 73 = .ok (.dup, 1) := by decide +kernel
theorem d_M_send_74 : decode c_M_send 74 = .ok (.getfield 107, 3) := by decide +kernel
theorem d_M_send_77 : decode c_M_send 77 = .ok (.iconst 1, 1) := by decide +kernel
theorem d_M_send_78 : decode c_M_send 78 = .ok (.iadd, 1) := by decide +kernel
theorem d_M_send_79 : decode c_M_send 79 = .ok (.putfield 107, 3) := by decide +kernel
theorem d_M_send_82 : decode c_M_send 82 = .ok (.return_, 1) := by decide +kernel
theorem d_M_enter_0 : decode c_M_enter 0 = .ok (.aload_n 0, 1) := by decide +kernel
theorem d_M_enter_1 : decode c_M_enter 1 = .ok (.getfield 53, 3) := by decide +kernel
theorem d_M_enter_4 : decode c_M_enter 4 = .ok (.iload_n 1, 1) := by decide +kernel
theorem d_M_enter_5 : decode c_M_enter 5 = .ok (.iload_n 2, 1) := by decide +kernel
theorem d_M_enter_6 : decode c_M_enter 6 = .ok (.iastore, 1) := by decide +kernel
theorem d_M_enter_7 : decode c_M_enter 7 = .ok (.aload_n 0, 1) := by decide +kernel
theorem d_M_enter_8 : decode c_M_enter 8 = .ok (.getfield 56, 3) := by decide +kernel
theorem d_M_enter_11 : decode c_M_enter 11 = .ok (.iload_n 1, 1) := by decide +kernel
theorem d_M_enter_12 : decode c_M_enter 12 = .ok (.iconst 0, 1) := by decide +kernel
theorem d_M_enter_13 : decode c_M_enter 13 = .ok (.iastore, 1) := by decide +kernel
theorem d_M_enter_14 : decode c_M_enter 14 = .ok (.return_, 1) := by decide +kernel
theorem d_M_see_0 : decode c_M_see 0 = .ok (.aload_n 0, 1) := by decide +kernel
theorem d_M_see_1 : decode c_M_see 1 = .ok (.getfield 68, 3) := by decide +kernel
theorem d_M_see_4 : decode c_M_see 4 = .ok (.bipush 40, 2) := by decide +kernel
theorem d_M_see_6 : decode c_M_see 6 = .ok (.iload_n 1, 1) := by decide +kernel
theorem d_M_see_7 : decode c_M_see 7 = .ok (.imul, 1) := by decide +kernel
theorem d_M_see_8 : decode c_M_see 8 = .ok (.iload_n 2, 1) := by decide +kernel
theorem d_M_see_9 : decode c_M_see 9 = .ok (.iadd, 1) := by decide +kernel
theorem d_M_see_10 : decode c_M_see 10 = .ok (.iconst 1, 1) := by decide +kernel
theorem d_M_see_11 : decode c_M_see 11 = .ok (.bastore, 1) := by decide +kernel
theorem d_M_see_12 : decode c_M_see 12 = .ok (.aload_n 0, 1) := by decide +kernel
theorem d_M_see_13 : decode c_M_see 13 = .ok (.getfield 26, 3) := by decide +kernel
theorem d_M_see_16 : decode c_M_see 16 = .ok (.iload_n 2, 1) := by decide +kernel
theorem d_M_see_17 : decode c_M_see 17 = .ok (.iaload, 1) := by decide +kernel
theorem d_M_see_18 : decode c_M_see 18 = .ok (.aload_n 0, 1) := by decide +kernel
theorem d_M_see_19 : decode c_M_see 19 = .ok (.getfield 53, 3) := by decide +kernel
theorem d_M_see_22 : decode c_M_see 22 = .ok (.iload_n 1, 1) := by decide +kernel
theorem d_M_see_23 : decode c_M_see 23 = .ok (.iaload, 1) := by decide +kernel
theorem d_M_see_24 : decode c_M_see 24 = .ok (.if_icmp .ge 4, 3) := by decide +kernel
theorem d_M_see_27 : decode c_M_see 27 = .ok (.return_, 1) := by decide +kernel
theorem d_M_see_28 : decode c_M_see 28 = .ok (.aload_n 0, 1) := by decide +kernel
theorem d_M_see_29 : decode c_M_see 29 = .ok (.iload_n 1, 1) := by decide +kernel
theorem d_M_see_30 : decode c_M_see 30 = .ok (.aload_n 0, 1) := by decide +kernel
theorem d_M_see_31 : decode c_M_see 31 = .ok (.getfield 26, 3) := by decide +kernel
theorem d_M_see_34 : decode c_M_see 34 = .ok (.iload_n 2, 1) := by decide +kernel
theorem d_M_see_35 : decode c_M_see 35 = .ok (.iaload, 1) := by decide +kernel
theorem d_M_see_36 : decode c_M_see 36 = .ok (.iconst 1, 1) := by decide +kernel
theorem d_M_see_37 : decode c_M_see 37 = .ok (.iadd, 1) := by decide +kernel
theorem d_M_see_38 : decode c_M_see 38 = .ok (.invokevirtual 113, 3) := by decide +kernel
theorem d_M_see_41 : decode c_M_see 41 = .ok (.aload_n 0, 1) := by decide +kernel
theorem d_M_see_42 : decode c_M_see 42 = .ok (.getfield 59, 3) := by decide +kernel
theorem d_M_see_45 : decode c_M_see 45 = .ok (.iload_n 1, 1) := by decide +kernel
theorem d_M_see_46 : decode c_M_see 46 = .ok (.iconst 2, 1) := by decide +kernel
theorem d_M_see_47 : decode c_M_see 47 = .ok (.iastore, 1) := by decide +kernel
theorem d_M_see_48 : decode c_M_see 48 = .ok (.return_, 1) := by decide +kernel
theorem d_M_getProposal_0 : decode c_M_getProposal 0 = .ok (.aload_n 0, 1) := by decide +kernel
theorem d_M_getProposal_1 : decode c_M_getProposal 1 = .ok (.getfield 26, 3) := by decide +kernel
theorem d_M_getProposal_4 : decode c_M_getProposal 4 = .ok (.iload_n 2, 1) := by decide +kernel
theorem d_M_getProposal_5 : decode c_M_getProposal 5 = .ok (.iaload, 1) := by decide +kernel
theorem d_M_getProposal_6 : decode c_M_getProposal 6 = .ok (.istore_n 3, 1) := by decide +kernel
theorem d_M_getProposal_7 : decode c_M_getProposal 7 = .ok (.aload_n 0, 1) := by decide +kernel
theorem d_M_getProposal_8 : decode c_M_getProposal 8 = .ok (.getfield 29, 3) := by decide +kernel
theorem d_M_getProposal_11 : decode c_M_getProposal 11 = .ok (.iload_n 2, 1) := by decide +kernel
theorem d_M_getProposal_12 : decode c_M_getProposal 12 = .ok (.iaload, 1) := by decide +kernel
theorem d_M_getProposal_13 : decode c_M_getProposal 13 = .ok (.istore 4, 2) := by decide +kernel
theorem d_M_getProposal_15 : decode c_M_getProposal 15 = .ok (.aload_n 0, 1) := by decide +kernel
theorem d_M_getProposal_16 : decode c_M_getProposal 16 = .ok (.iload_n 1, 1) := by decide +kernel
theorem d_M_getProposal_17 : decode c_M_getProposal 17 = .ok (.iload 4, 2) := by decide +kernel
theorem d_M_getProposal_19 : decode c_M_getProposal 19 = .ok (.invokevirtual 117, 3) := by decide +kernel
theorem d_M_getProposal_22 : decode c_M_getProposal 22 = .ok (.aload_n 0, 1) := by decide +kernel
theorem d_M_getProposal_23 : decode c_M_getProposal 23 = .ok (.getfield 53, 3) := by decide +kernel
theorem d_M_getProposal_26 : decode c_M_getProposal 26 = .ok (.iload_n 1, 1) := by decide +kernel
theorem d_M_getProposal_27 : decode c_M_getProposal 27 = .ok (.iaload, 1) := by decide +kernel
theorem d_M_getProposal_28 : decode c_M_getProposal 28 = .ok (.iload_n 3, 1) := by decide +kernel
theorem d_M_getProposal_29 : decode c_M_getProposal 29 = .ok (.if_icmp .ge 9, 3) := by decide +kernel
theorem d_M_getProposal_32 : decode c_M_getProposal 32 = .ok (.aload_n 0, 1) := by decide +kernel
theorem d_M_getProposal_33 : decode c_M_getProposal 33 = .ok (.iload_n 1, 1) := by decide +kernel
theorem d_M_getProposal_34 : decode c_M_getProposal 34 = .ok (.iload_n 3, 1) := by decide +kernel
theorem d_M_getProposal_35 : decode c_M_getProposal 35 = .ok (.invokevirtual 113, 3) := by decide +kernel
theorem d_M_getProposal_38 : decode c_M_getProposal 38 = .ok (.aload_n 0, 1) := by decide +kernel
theorem d_M_getProposal_39 : decode c_M_getProposal 39 = .ok (.iload_n 1, 1) := by decide +kernel
theorem d_M_getProposal_40 : decode c_M_getProposal 40 = .ok (.invokevirtual 120, 3) := by decide +kernel
theorem d_M_getProposal_43 : decode c_M_getProposal 43 = .ok (.istore 5, 2) := by decide +kernel
theorem d_M_getProposal_45 : decode c_M_getProposal 45 = .ok (.aload_n 0, 1) := by decide +kernel
theorem d_M_getProposal_46 : decode c_M_getProposal 46 = .ok (.getfield 53, 3) := by decide +kernel
theorem d_M_getProposal_49 : decode c_M_getProposal 49 = .ok (.iload_n 1, 1) := by decide +kernel
theorem d_M_getProposal_50 : decode c_M_getProposal 50 = .ok (.iaload, 1) := by decide +kernel
theorem d_M_getProposal_51 : decode c_M_getProposal 51 = .ok (.iload_n 3, 1) := by decide +kernel
theorem d_M_getProposal_52 : decode c_M_getProposal 52 = .ok (.if_icmp .ne 40, 3) := by decide +kernel
theorem d_M_getProposal_55 : decode c_M_getProposal 55 = .ok (.aload_n 0, 1) := by decide +kernel
theorem d_M_getProposal_56 : decode c_M_getProposal 56 = .ok (.getfield 62, 3) := by decide +kernel
theorem d_M_getProposal_59 : decode c_M_getProposal 59 = .ok (.iload_n 1, 1) := by decide +kernel
theorem d_M_getProposal_60 : decode c_M_getProposal 60 = .ok (.iaload, 1) := by decide +kernel
theorem d_M_getProposal_61 : decode c_M_getProposal 61 = .ok (.iload_n 3, 1) := by decide +kernel
theorem d_M_getProposal_62 : decode c_M_getProposal 62 = .ok (.if_icmp .ge 30, 3) := by decide +kernel
theorem d_M_getProposal_65 : decode c_M_getProposal 65 = .ok (.aload_n 0, 1) := by decide +kernel
theorem d_M_getProposal_66 : decode c_M_getProposal 66 = .ok (.iload 5, 2) := by decide +kernel
theorem d_M_getProposal_68 : decode c_M_getProposal 68 = .ok (.iload_n 2, 1) := by decide +kernel
theorem d_M_getProposal_69 : decode c_M_getProposal 69 = .ok (.invokevirtual 123, 3) := by decide +kernel
theorem d_M_getProposal_72 : decode c_M_getProposal 72 = .ok (.ifCond .ne 21, 3) := by decide +kernel
theorem d_M_getProposal_75 : decode c_M_getProposal 75 = .ok (.aload_n 0, 1) := by decide +kernel
theorem d_M_getProposal_76 : decode c_M_getProposal 76 = .ok (.getfield 26, 3) := by decide +kernel
theorem d_M_getProposal_79 : decode c_M_getProposal 79 = .ok (.iload 4, 2) := by decide +kernel
theorem d_M_getProposal_81 : decode c_M_getProposal 81 = .ok (.iaload, 1) := by decide +kernel
theorem d_M_getProposal_82 : decode c_M_getProposal 82 = .ok (.aload_n 0, 1) := by decide +kernel
theorem d_M_getProposal_83 : decode c_M_getProposal 83 = .ok (.getfield 26, 3) := by decide +kernel
theorem d_M_getProposal_86 : decode c_M_getProposal 86 = .ok (.iload 5, 2) := by decide +kernel
theorem d_M_getProposal_88 : decode c_M_getProposal 88 = .ok (.iaload, 1) := by decide +kernel
theorem d_M_getProposal_89 : decode c_M_getProposal 89 = .ok (.if_icmp .gt 4, 3) := by decide +kernel
theorem d_M_getProposal_92 : decode c_M_getProposal 92 = .ok (.return_, 1) := by decide +kernel
theorem d_M_getProposal_93 : decode c_M_getProposal 93 = .ok (.aload_n 0, 1) := by decide +kernel
theorem d_M_getProposal_94 : decode c_M_getProposal 94 = .ok (.getfield 62, 3) := by decide +kernel
theorem d_M_getProposal_97 : decode c_M_getProposal 97 = .ok (.iload_n 1, 1) := by decide +kernel
theorem d_M_getProposal_98 : decode c_M_getProposal 98 = .ok (.iload_n 3, 1) := by decide +kernel
theorem d_M_getProposal_99 : decode c_M_getProposal 99 = .ok (.iastore, 1) := by decide +kernel
theorem d_M_getProposal_100 : decode c_M_getProposal 100 = .ok (.aload_n 0, 1) := by decide +kernel
theorem d_M_getProposal_101 : decode c_M_getProposal 101 = .ok (.getfield 35, 3) := by decide +kernel
theorem d_M_getProposal_104 : decode c_M_getProposal 104 = .ok (.iload_n 2, 1) := by decide +kernel
theorem d_M_getProposal_105 : decode c_M_getProposal 105 = .ok (.dup2, 1) := by decide +kernel
theorem d_M_getProposal_106 : decode c_M_getProposal 106 = .ok (.iaload, 1) := by decide +kernel
theorem d_M_getProposal_107 : decode c_M_getProposal 107 = .ok (.iconst 1, 1) := by decide +kernel
theorem d_M_getProposal_108 : decode c_M_getProposal 108 = .ok (.iload_n 1, 1) := by decide +kernel
theorem d_M_getProposal_109 : decode c_M_getProposal 109 = .ok (.ishl, 1) := by decide +kernel
theorem d_M_getProposal_110 : decode c_M_getProposal 110 = .ok (.ior, 1) := by decide +kernel
theorem d_M_getProposal_111 : decode c_M_getProposal 111 = .ok (.iastore, 1) := by decide +kernel
theorem d_M_getProposal_112 : decode c_M_getProposal 112 = .ok (.aload_n 0, 1) := by decide +kernel
theorem d_M_getProposal_113 : decode c_M_getProposal 113 = .ok (.iload_n 3, 1) := by decide +kernel
theorem d_M_getProposal_114 : decode c_M_getProposal 114 = .ok (.iconst 1, 1) := by decide +kernel
theorem d_M_getProposal_115 : decode c_M_getProposal 115 = .ok (.iadd, 1) := by decide +kernel
theorem d_M_getProposal_116 : decode c_M_getProposal 116 = .ok (.invokevirtual 127, 3) := by decide +kernel
theorem d_M_getProposal_119 : decode c_M_getProposal 119 = .ok (.istore 6, 2) := by decide +kernel
theorem d_M_getProposal_121 : decode c_M_getProposal 121 = .ok (.aload_n 0, 1) := by decide +kernel
theorem d_M_getProposal_122 : decode c_M_getProposal 122 = .ok (.iconst 1, 1) := by decide +kernel
theorem d_M_getProposal_123 : decode c_M_getProposal 123 = .ok (.iload_n 1, 1) := by decide +kernel
theorem d_M_getProposal_124 : decode c_M_getProposal 124 = .ok (.iload 6, 2) := by decide +kernel
theorem d_M_getProposal_126 : decode c_M_getProposal 126 = .ok (.iload_n 2, 1) := by decide +kernel
theorem d_M_getProposal_127 : decode c_M_getProposal 127 = .ok (.iconst 0, 1) := by decide +kernel
theorem d_M_getProposal_128 : decode c_M_getProposal 128 = .ok (.invokevirtual 130, 3) := by decide +kernel
theorem d_M_getProposal_131 : decode c_M_getProposal 131 = .ok (.return_, 1) := by decide +kernel
theorem d_M_getVote_0 : decode c_M_getVote 0 = .ok (.aload_n 0, 1) := by decide +kernel
theorem d_M_getVote_1 : decode c_M_getVote 1 = .ok (.getfield 72, 3) := by decide +kernel
theorem d_M_getVote_4 : decode c_M_getVote 4 = .ok (.bipush 40, 2) := by decide +kernel
theorem d_M_getVote_6 : decode c_M_getVote 6 = .ok (.iload_n 1, 1) := by decide +kernel
theorem d_M_getVote_7 : decode c_M_getVote 7 = .ok (.imul, 1) := by decide +kernel
theorem d_M_getVote_8 : decode c_M_getVote 8 = .ok (.iload_n 3, 1) := by decide +kernel
theorem d_M_getVote_9 : decode c_M_getVote 9 = .ok (.iadd, 1) := by decide +kernel
theorem d_M_getVote_10 : decode c_M_getVote 10 = .ok (.dup2, 1) := by decide +kernel
theorem d_M_getVote_11 : decode c_M_getVote 11 = .ok (.iaload, 1) := by decide +kernel
theorem d_M_getVote_12 : decode c_M_getVote 12 = .ok (.iconst 1, 1) := by decide +kernel
theorem d_M_getVote_13 : decode c_M_getVote 13 = .ok (.iload_n 2, 1) := by decide +kernel
theorem d_M_getVote_14 : decode c_M_getVote 14 = .ok (.ishl, 1) := by decide +kernel
theorem d_M_getVote_15 : decode c_M_getVote 15 = .ok (.ior, 1) := by decide +kernel
theorem d_M_getVote_16 : decode c_M_getVote 16 = .ok (.iastore, 1) := by decide +kernel
theorem d_M_getVote_17 : decode c_M_getVote 17 = .ok (.aload_n 0, 1) := by decide +kernel
theorem d_M_getVote_18 : decode c_M_getVote 18 = .ok (.getfield 72, 3) := by decide +kernel
theorem d_M_getVote_21 : decode c_M_getVote 21 = .ok (.bipush 40, 2) := by decide +kernel
theorem d_M_getVote_23 : decode c_M_getVote 23 = .ok (.iload_n 1, 1) := by decide +kernel
theorem d_M_getVote_24 : decode c_M_getVote 24 = .ok (.imul, 1) := by decide +kernel
theorem d_M_getVote_25 : decode c_M_getVote 25 = .ok (.iload_n 3, 1) := by decide +kernel
theorem d_M_getVote_26 : decode c_M_getVote 26 = .ok (.iadd, 1) := by decide +kernel
theorem d_M_getVote_27 : decode c_M_getVote 27 = .ok (.iaload, 1) := by decide +kernel
theorem d_M_getVote_28 : decode c_M_getVote 28 = .ok (.invokestatic 103, 3) := by decide +kernel
theorem d_M_getVote_31 : decode c_M_getVote 31 = .ok (.iconst 2, 1) := by decide +kernel
theorem d_M_getVote_32 : decode c_M_getVote 32 = .ok (.aload_n 0, 1) := by decide +kernel
theorem d_M_getVote_33 : decode c_M_getVote 33 = .ok (.getfield 87, 3) := by decide +kernel
theorem d_M_getVote_36 : decode c_M_getVote 36 = .ok (.imul, 1) := by decide +kernel
theorem d_M_getVote_37 : decode c_M_getVote 37 = .ok (.iconst 1, 1) := by decide +kernel
theorem d_M_getVote_38 : decode c_M_getVote 38 = .ok (.iadd, 1) := by decide +kernel
theorem d_M_getVote_39 : decode c_M_getVote 39 = .ok (.if_icmp .lt 9, 3) := by decide +kernel
theorem d_M_getVote_42 : decode c_M_getVote 42 = .ok (.aload_n 0, 1) := by decide +kernel
theorem d_M_getVote_43 : decode c_M_getVote 43 = .ok (.iload_n 1, 1) := by decide +kernel
theorem d_M_getVote_44 : decode c_M_getVote 44 = .ok (.iload_n 3, 1) := by decide +kernel
theorem d_M_getVote_45 : decode c_M_getVote 45 = .ok (.invokevirtual 117, 3) := by decide +kernel
theorem d_M_getVote_48 : decode c_M_getVote 48 = .ok (.return_, 1) := by decide +kernel
theorem d_M_getNewView_0 : decode c_M_getNewView 0 = .ok (.aload_n 0, 1) := by decide +kernel
theorem d_M_getNewView_1 : decode c_M_getNewView 1 = .ok (.iload_n 1, 1) := by decide +kernel
theorem d_M_getNewView_2 : decode c_M_getNewView 2 = .ok (.iload_n 3, 1) := by decide +kernel
theorem d_M_getNewView_3 : decode c_M_getNewView 3 = .ok (.invokevirtual 117, 3) := by decide +kernel
theorem d_M_getNewView_6 : decode c_M_getNewView 6 = .ok (.aload_n 0, 1) := by decide +kernel
theorem d_M_getNewView_7 : decode c_M_getNewView 7 = .ok (.getfield 75, 3) := by decide +kernel
theorem d_M_getNewView_10 : decode c_M_getNewView 10 = .ok (.bipush 7, 2) := by decide +kernel
theorem d_M_getNewView_12 : decode c_M_getNewView 12 = .ok (.iload_n 1, 1) := by decide +kernel
theorem d_M_getNewView_13 : decode c_M_getNewView 13 = .ok (.imul, 1) := by decide +kernel
theorem d_M_getNewView_14 : decode c_M_getNewView 14 = .ok (.iload_n 2, 1) := by decide +kernel
theorem d_M_getNewView_15 : decode c_M_getNewView 15 = .ok (.iadd, 1) := by decide +kernel
theorem d_M_getNewView_16 : decode c_M_getNewView 16 = .ok (.iaload, 1) := by decide +kernel
theorem d_M_getNewView_17 : decode c_M_getNewView 17 = .ok (.iload 4, 2) := by decide +kernel
theorem d_M_getNewView_19 : decode c_M_getNewView 19 = .ok (.if_icmp .ge 16, 3) := by decide +kernel
theorem d_M_getNewView_22 : decode c_M_getNewView 22 = .ok (.aload_n 0, 1) := by decide +kernel
theorem d_M_getNewView_23 : decode c_M_getNewView 23 = .ok (.getfield 75, 3) := by decide +kernel
theorem d_M_getNewView_26 : decode c_M_getNewView 26 = .ok (.bipush 7, 2) := by decide +kernel
theorem d_M_getNewView_28 : decode c_M_getNewView 28 = .ok (.iload_n 1, 1) := by decide +kernel
theorem d_M_getNewView_29 : decode c_M_getNewView 29 = .ok (.imul, 1) := by decide +kernel
theorem d_M_getNewView_30 : decode c_M_getNewView 30 = .ok (.iload_n 2, 1) := by decide +kernel
theorem d_M_getNewView_31 : decode c_M_getNewView 31 = .ok (.iadd, 1) := by decide +kernel
theorem d_M_getNewView_32 : decode c_M_getNewView 32 = .ok (.iload 4, 2) := by decide +kernel
theorem d_M_getNewView_34 : decode c_M_getNewView 34 = .ok (.iastore, 1) := by decide +kernel
theorem d_M_getNewView_35 : decode c_M_getNewView 35 = .ok (.aload_n 0, 1) := by decide +kernel
theorem d_M_getNewView_36 : decode c_M_getNewView 36 = .ok (.iload_n 1, 1) := by decide +kernel
theorem d_M_getNewView_37 : decode c_M_getNewView 37 = .ok (.invokevirtual 134, 3) := by decide +kernel
theorem d_M_getNewView_40 : decode c_M_getNewView 40 = .ok (.istore 5, 2) := by decide +kernel
theorem d_M_getNewView_42 : decode c_M_getNewView 42 = .ok (.iload 5, 2) := by decide +kernel
theorem d_M_getNewView_44 : decode c_M_getNewView 44 = .ok (.aload_n 0, 1) := by decide +kernel
theorem d_M_getNewView_45 : decode c_M_getNewView 45 = .ok (.getfield 53, 3) := by decide +kernel
theorem d_M_getNewView_48 : decode c_M_getNewView 48 = .ok (.iload_n 1, 1) := by decide +kernel
theorem d_M_getNewView_49 : decode c_M_getNewView 49 = .ok (.iaload, 1) := by decide +kernel
theorem d_M_getNewView_50 : decode c_M_getNewView 50 = .ok (.if_icmp .le 10, 3) := by decide +kernel
theorem d_M_getNewView_53 : decode c_M_getNewView 53 = .ok (.aload_n 0, 1) := by decide +kernel
theorem d_M_getNewView_54 : decode c_M_getNewView 54 = .ok (.iload_n 1, 1) := by decide +kernel
theorem d_M_getNewView_55 : decode c_M_getNewView 55 = .ok (.iload 5, 2) := by decide +kernel
theorem d_M_getNewView_57 : decode c_M_getNewView 57 = .ok (.invokevirtual 113, 3) := by decide +kernel
theorem d_M_getNewView_60 : decode c_M_getNewView 60 = .ok (.return_, 1) := by decide +kernel
theorem d_M_takeOut_0 : decode c_M_takeOut 0 = .ok (.aload_n 0, 1) := by decide +kernel
theorem d_M_takeOut_1 : decode c_M_takeOut 1 = .ok (.dup, 1) := by decide +kernel
theorem d_M_takeOut_2 : decode c_M_takeOut 2 = .ok (.getfield 107, 3) := by decide +kernel
theorem d_M_takeOut_5 : decode c_M_takeOut 5 = .ok (.iconst 1, 1) := by decide +kernel
theorem d_M_takeOut_6 : decode c_M_takeOut 6 = .ok (.isub, 1) := by decide +kernel
theorem d_M_takeOut_7 : decode c_M_takeOut 7 = .ok (.putfield 107, 3) := by decide +kernel
theorem d_M_takeOut_10 : decode c_M_takeOut 10 = .ok (.iload_n 1, 1) := by decide +kernel
theorem d_M_takeOut_11 : decode c_M_takeOut 11 = .ok (.istore_n 2, 1) := by decide +kernel
theorem d_M_takeOut_12 : decode c_M_takeOut 12 = .ok (.iload_n 2, 1) := by decide +kernel
theorem d_M_takeOut_13 : decode c_M_takeOut 13 = .ok (.aload_n 0, 1) := by decide +kernel
theorem d_M_takeOut_14 : decode c_M_takeOut 14 = .ok (.getfield 107, 3) := by decide +kernel
theorem d_M_takeOut_17 : decode c_M_takeOut 17 = .ok (.if_icmp .ge 79, 3) := by decide +kernel
theorem d_M_takeOut_20 : decode c_M_takeOut 20 = .ok (.aload_n 0, 1) := by decide +kernel
theorem d_M_takeOut_21 : decode c_M_takeOut 21 = .ok (.getfield 38, 3) := by decide +kernel
theorem d_M_takeOut_24 : decode c_M_takeOut 24 = .ok (.iload_n 2, 1) := by decide +kernel
theorem d_M_takeOut_25 : decode c_M_takeOut 25 = .ok (.aload_n 0, 1) := by decide +kernel
theorem d_M_takeOut_26 : decode c_M_takeOut 26 = .ok (.getfield 38, 3) := by decide +kernel
theorem d_M_takeOut_29 : decode c_M_takeOut 29 = .ok (.iload_n 2, 1) := by decide +kernel
theorem d_M_takeOut_30 : decode c_M_takeOut 30 = .ok (.iconst 1, 1) := by decide +kernel
theorem d_M_takeOut_31 : decode c_M_takeOut 31 = .ok (.iadd, 1) := by decide +kernel
theorem d_M_takeOut_32 : decode c_M_takeOut 32 = .ok (.iaload, 1) := by decide +kernel
theorem d_M_takeOut_33 : decode c_M_takeOut 33 = .ok (.iastore, 1) := by decide +kernel
theorem d_M_takeOut_34 : decode c_M_takeOut 34 = .ok (.aload_n 0, 1) := by decide +kernel
theorem d_M_takeOut_35 : decode c_M_takeOut 35 = .ok (.getfield 44, 3) := by decide +kernel
theorem d_M_takeOut_38 : decode c_M_takeOut 38 = .ok (.iload_n 2, 1) := by decide +kernel
theorem d_M_takeOut_39 : decode c_M_takeOut 39 = .ok (.aload_n 0, 1) := by decide +kernel
theorem d_M_takeOut_40 : decode c_M_takeOut 40 = .ok (.getfield 44, 3) := by decide +kernel
theorem d_M_takeOut_43 : decode c_M_takeOut 43 = .ok (.iload_n 2, 1) := by decide +kernel
theorem d_M_takeOut_44 : decode c_M_takeOut 44 = .ok (.iconst 1, 1) := by decide +kernel
theorem d_M_takeOut_45 : decode c_M_takeOut 45 = .ok (.iadd, 1) := by decide +kernel
theorem d_M_takeOut_46 : decode c_M_takeOut 46 = .ok (.iaload, 1) := by decide +kernel
theorem d_M_takeOut_47 : decode c_M_takeOut 47 = .ok (.iastore, 1) := by decide +kernel
theorem d_M_takeOut_48 : decode c_M_takeOut 48 = .ok (.aload_n 0, 1) := by decide +kernel
theorem d_M_takeOut_49 : decode c_M_takeOut 49 = .ok (.getfield 41, 3) := by decide +kernel
theorem d_M_takeOut_52 : decode c_M_takeOut 52 = .ok (.iload_n 2, 1) := by decide +kernel
theorem d_M_takeOut_53 : decode c_M_takeOut 53 = .ok (.aload_n 0, 1) := by decide +kernel
theorem d_M_takeOut_54 : decode c_M_takeOut 54 = .ok (.getfield 41, 3) := by decide +kernel
theorem d_M_takeOut_57 : decode c_M_takeOut 57 = .ok (.iload_n 2, 1) := by decide +kernel
theorem d_M_takeOut_58 : decode c_M_takeOut 58 = .ok (.iconst 1, 1) := by decide +kernel
theorem d_M_takeOut_59 : decode c_M_takeOut 59 = .ok (.iadd, 1) := by decide +kernel
theorem d_M_takeOut_60 : decode c_M_takeOut 60 = .ok (.iaload, 1) := by decide +kernel
theorem d_M_takeOut_61 : decode c_M_takeOut 61 = .ok (.iastore, 1) := by decide +kernel
theorem d_M_takeOut_62 : decode c_M_takeOut 62 = .ok (.aload_n 0, 1) := by decide +kernel
theorem d_M_takeOut_63 : decode c_M_takeOut 63 = .ok (.getfield 47, 3) := by decide +kernel
theorem d_M_takeOut_66 : decode c_M_takeOut 66 = .ok (.iload_n 2, 1) := by decide +kernel
theorem d_M_takeOut_67 : decode c_M_takeOut 67 = .ok (.aload_n 0, 1) := by decide +kernel
theorem d_M_takeOut_68 : decode c_M_takeOut 68 = .ok (.getfield 47, 3) := by decide +kernel
theorem d_M_takeOut_71 : decode c_M_takeOut 71 = .ok (.iload_n 2, 1) := by decide +kernel
theorem d_M_takeOut_72 : decode c_M_takeOut 72 = .ok (.iconst 1, 1) := by decide +kernel
theorem d_M_takeOut_73 : decode c_M_takeOut 73 = .ok (.iadd, 1) := by decide +kernel
theorem d_M_takeOut_74 : decode c_M_takeOut 74 = .ok (.iaload, 1) := by decide +kernel
theorem d_M_takeOut_75 : decode c_M_takeOut 75 = .ok (.iastore, 1) := by decide +kernel
theorem d_M_takeOut_76 : decode c_M_takeOut 76 = .ok (.aload_n 0, 1) := by decide +kernel
theorem d_M_takeOut_77 : decode c_M_takeOut 77 = .ok (.getfield 50, 3) := by decide +kernel
theorem d_M_takeOut_80 : decode c_M_takeOut 80 = .ok (.iload_n 2, 1) := by decide +kernel
theorem d_M_takeOut_81 : decode c_M_takeOut 81 = .ok (.aload_n 0, 1) := by decide +kernel
theorem d_M_takeOut_82 : decode c_M_takeOut 82 = .ok (.getfield 50, 3) := by decide +kernel
theorem d_M_takeOut_85 : decode c_M_takeOut 85 = .ok (.iload_n 2, 1) := by decide +kernel
theorem d_M_takeOut_86 : decode c_M_takeOut 86 = .ok (.iconst 1, 1) := by decide +kernel
theorem d_M_takeOut_87 : decode c_M_takeOut 87 = .ok (.iadd, 1) := by decide +kernel
theorem d_M_takeOut_88 : decode c_M_takeOut 88 = .ok (.iaload, 1) := by decide +kernel
theorem d_M_takeOut_89 : decode c_M_takeOut 89 = .ok (.iastore, 1) := by decide +kernel
theorem d_M_takeOut_90 : decode c_M_takeOut 90 = .ok (.iinc 2 1, 3) := by decide +kernel
theorem d_M_takeOut_93 : decode c_M_takeOut 93 = .ok (.goto (-81), 3) := by decide +kernel
theorem d_M_takeOut_96 : decode c_M_takeOut 96 = .ok (.return_, 1) := by decide +kernel
theorem d_M_submit_0 : decode c_M_submit 0 = .ok (.iload_n 1, 1) := by decide +kernel
theorem d_M_submit_1 : decode c_M_submit 1 = .ok (.iconst 1, 1) := by decide +kernel
theorem d_M_submit_2 : decode c_M_submit 2 = .ok (.aload_n 0, 1) := by decide +kernel
theorem d_M_submit_3 : decode c_M_submit 3 = .ok (.getfield 90, 3) := by decide +kernel
theorem d_M_submit_6 : decode c_M_submit 6 = .ok (.ishl, 1) := by decide +kernel
theorem d_M_submit_7 : decode c_M_submit 7 = .ok (.iconst 1, 1) := by decide +kernel
theorem d_M_submit_8 : decode c_M_submit 8 = .ok (.isub, 1) := by decide +kernel
theorem d_M_submit_9 : decode c_M_submit 9 = .ok (.iconst (-1), 1) := by decide +kernel
theorem d_M_submit_10 : decode c_M_submit 10 = .ok (.ixor, 1) := by decide +kernel
theorem d_M_submit_11 : decode c_M_submit 11 = .ok (.iand, 1) := by decide +kernel
theorem d_M_submit_12 : decode c_M_submit 12 = .ok (.ifCond .ne 26, 3) := by decide +kernel
theorem d_M_submit_15 : decode c_M_submit 15 = .ok (.iload_n 2, 1) := by decide +kernel
theorem d_M_submit_16 : decode c_M_submit 16 = .ok (.ifCond .lt 22, 3) := by decide +kernel
theorem d_M_submit_19 : decode c_M_submit 19 = .ok (.iload_n 2, 1) := by decide +kernel
theorem d_M_submit_20 : decode c_M_submit 20 = .ok (.iconst 3, 1) := by decide +kernel
theorem d_M_submit_21 : decode c_M_submit 21 = .ok (.if_icmp .gt 17, 3) := by decide +kernel
theorem d_M_submit_24 : decode c_M_submit 24 = .ok (.iload_n 3, 1) := by decide +kernel
theorem d_M_submit_25 : decode c_M_submit 25 = .ok (.ifCond .lt 13, 3) := by decide +kernel
theorem d_M_submit_28 : decode c_M_submit 28 = .ok (.iload_n 3, 1) := by decide +kernel
theorem d_M_submit_29 : decode c_M_submit 29 = .ok (.iconst 3, 1) := by decide +kernel
theorem d_M_submit_30 : decode c_M_submit 30 = .ok (.if_icmp .gt 8, 3) := by decide +kernel
theorem d_M_submit_33 : decode c_M_submit 33 = .ok (.iload_n 2, 1) := by decide +kernel
theorem d_M_submit_34 : decode c_M_submit 34 = .ok (.iload_n 3, 1) := by decide +kernel
theorem d_M_submit_35 : decode c_M_submit 35 = .ok (.if_icmp .ne 5, 3) := by decide +kernel
theorem d_M_submit_38 : decode c_M_submit 38 = .ok (.iconst (-1), 1) := by decide +kernel
theorem d_M_submit_39 : decode c_M_submit 39 = .ok (.ireturn, 1) := by decide +kernel
theorem d_M_submit_40 : decode c_M_submit 40 = .ok (.iload 4, 2) := by decide +kernel
theorem d_M_submit_42 : decode c_M_submit 42 = .ok (.iconst 1, 1) := by decide +kernel
theorem d_M_submit_43 : decode c_M_submit 43 = .ok (.if_icmp .lt 20, 3) := by decide +kernel
theorem d_M_submit_46 : decode c_M_submit 46 = .ok (.iload 4, 2) := by decide +kernel
theorem d_M_submit_48 : decode c_M_submit 48 = .ok (.sipush 1000, 3) := by decide +kernel
theorem d_M_submit_51 : decode c_M_submit 51 = .ok (.if_icmp .gt 12, 3) := by decide +kernel
theorem d_M_submit_54 : decode c_M_submit 54 = .ok (.aload_n 0, 1) := by decide +kernel
theorem d_M_submit_55 : decode c_M_submit 55 = .ok (.getfield 137, 3) := by decide +kernel
theorem d_M_submit_58 : decode c_M_submit 58 = .ok (.bipush 24, 2) := by decide +kernel
theorem d_M_submit_60 : decode c_M_submit 60 = .ok (.if_icmp .lt 5, 3) := by decide +kernel
theorem d_M_submit_63 : decode c_M_submit 63 = .ok (.iconst (-1), 1) := by decide +kernel
theorem d_M_submit_64 : decode c_M_submit 64 = .ok (.ireturn, 1) := by decide +kernel
theorem d_M_submit_65 : decode c_M_submit 65 = .ok (.aload_n 0, 1) := by decide +kernel
theorem d_M_submit_66 : decode c_M_submit 66 = .ok (.getfield 7, 3) := by decide +kernel
theorem d_M_submit_69 : decode c_M_submit 69 = .ok (.aload_n 0, 1) := by decide +kernel
theorem d_M_submit_70 : decode c_M_submit 70 = .ok (.getfield 137, 3) := by decide +kernel
theorem d_M_submit_73 : decode c_M_submit 73 = .ok (.iload_n 1, 1) := by decide +kernel
theorem d_M_submit_74 : decode c_M_submit 74 = .ok (.iastore, 1) := by decide +kernel
theorem d_M_submit_75 : decode c_M_submit 75 = .ok (.aload_n 0, 1) := by decide +kernel
theorem d_M_submit_76 : decode c_M_submit 76 = .ok (.getfield 13, 3) := by decide +kernel
theorem d_M_submit_79 : decode c_M_submit 79 = .ok (.aload_n 0, 1) := by decide +kernel
theorem d_M_submit_80 : decode c_M_submit 80 = .ok (.getfield 137, 3) := by decide +kernel
theorem d_M_submit_83 : decode c_M_submit 83 = .ok (.iload_n 2, 1) := by decide +kernel
theorem d_M_submit_84 : decode c_M_submit 84 = .ok (.iastore, 1) := by decide +kernel
theorem d_M_submit_85 : decode c_M_submit 85 = .ok (.aload_n 0, 1) := by decide +kernel
theorem d_M_submit_86 : decode c_M_submit 86 = .ok (.getfield 16, 3) := by decide +kernel
theorem d_M_submit_89 : decode c_M_submit 89 = .ok (.aload_n 0, 1) := by decide +kernel
theorem d_M_submit_90 : decode c_M_submit 90 = .ok (.getfield 137, 3) := by decide +kernel
theorem d_M_submit_93 : decode c_M_submit 93 = .ok (.iload_n 3, 1) := by decide +kernel
theorem d_M_submit_94 : decode c_M_submit 94 = .ok (.iastore, 1) := by decide +kernel
theorem d_M_submit_95 : decode c_M_submit 95 = .ok (.aload_n 0, 1) := by decide +kernel
theorem d_M_submit_96 : decode c_M_submit 96 = .ok (.getfield 19, 3) := by decide +kernel
theorem d_M_submit_99 : decode c_M_submit 99 = .ok (.aload_n 0, 1) := by decide +kernel
theorem d_M_submit_100 : decode c_M_submit 100 = .ok (.getfield 137, 3) := by decide +kernel
theorem d_M_submit_103 : decode c_M_submit 103 = .ok (.iload 4, 2) := by decide +kernel
theorem d_M_submit_105 : decode c_M_submit 105 = .ok (.iastore, 1) := by decide +kernel
theorem d_M_submit_106 : decode c_M_submit 106 = .ok (.aload_n 0, 1) := by decide +kernel
theorem d_M_submit_107 : decode c_M_submit 107 = .ok (.dup, 1) := by decide +kernel
theorem d_M_submit_108 : decode c_M_submit 108 = .ok (.getfield 137, 3) := by decide +kernel
theorem d_M_submit_111 : decode c_M_submit 111 = .ok (.iconst 1, 1) := by decide +kernel
theorem d_M_submit_112 : decode c_M_submit 112 = .ok (.iadd, 1) := by decide +kernel
theorem d_M_submit_113 : decode c_M_submit 113 = .ok (.putfield 137, 3) := by decide +kernel
theorem d_M_submit_116 : decode c_M_submit 116 = .ok (.aload_n 0, 1) := by decide +kernel
theorem d_M_submit_117 : decode c_M_submit 117 = .ok (.getfield 137, 3) := by decide +kernel
theorem d_M_submit_120 : decode c_M_submit 120 = .ok (.iconst 1, 1) := by decide +kernel
theorem d_M_submit_121 : decode c_M_submit 121 = .ok (.isub, 1) := by decide +kernel
theorem d_M_submit_122 : decode c_M_submit 122 = .ok (.ireturn, 1) := by decide +kernel
theorem d_M_newBlock_0 : decode c_M_newBlock 0 = .ok (.aload_n 0, 1) := by decide +kernel
theorem d_M_newBlock_1 : decode c_M_newBlock 1 = .ok (.getfield 26, 3) := by decide +kernel
theorem d_M_newBlock_4 : decode c_M_newBlock 4 = .ok (.aload_n 0, 1) := by decide +kernel
theorem d_M_newBlock_5 : decode c_M_newBlock 5 = .ok (.getfield 22, 3) := by decide +kernel
theorem d_M_newBlock_8 : decode c_M_newBlock 8 = .ok (.iload_n 1, 1) := by decide +kernel
theorem d_M_newBlock_9 : decode c_M_newBlock 9 = .ok (.iastore, 1) := by decide +kernel
theorem d_M_newBlock_10 : decode c_M_newBlock 10 = .ok (.aload_n 0, 1) := by decide +kernel
end
section
theorem d_M_newBlock_11 : decode c_M_newBlock 11 = .ok (.getfield 29, 3) := by decide +kernel
theorem d_M_newBlock_14 : decode c_M_newBlock 14 = .ok (.aload_n 0, 1) := by decide +kernel
theorem d_M_newBlock_15 : decode c_M_newBlock 15 = .ok (.getfield 22, 3) := by decide +kernel
theorem d_M_newBlock_18 : decode c_M_newBlock 18 = .ok (.iload_n 2, 1) := by decide +kernel
theorem d_M_newBlock_19 : decode c_M_newBlock 19 = .ok (.iastore, 1) := by decide +kernel
theorem d_M_newBlock_20 : decode c_M_newBlock 20 = .ok (.aload_n 0, 1) := by decide +kernel
theorem d_M_newBlock_21 : decode c_M_newBlock 21 = .ok (.getfield 32, 3) := by decide +kernel
theorem d_M_newBlock_24 : decode c_M_newBlock 24 = .ok (.aload_n 0, 1) := by decide +kernel
theorem d_M_newBlock_25 : decode c_M_newBlock 25 = .ok (.getfield 22, 3) := by decide +kernel
theorem d_M_newBlock_28 : decode c_M_newBlock 28 = .ok (.iload_n 3, 1) := by decide +kernel
theorem d_M_newBlock_29 : decode c_M_newBlock 29 = .ok (.iastore, 1) := by decide +kernel
theorem d_M_newBlock_30 : decode c_M_newBlock 30 = .ok (.aload_n 0, 1) := by decide +kernel
theorem d_M_newBlock_31 : decode c_M_newBlock 31 = .ok (.dup, 1) := by decide +kernel
theorem d_M_newBlock_32 : decode c_M_newBlock 32 = .ok (.getfield 22, 3) := by decide +kernel
theorem d_M_newBlock_35 : decode c_M_newBlock 35 = .ok (.iconst 1, 1) := by decide +kernel
theorem d_M_newBlock_36 : decode c_M_newBlock 36 = .ok (.iadd, 1) := by decide +kernel
theorem d_M_newBlock_37 : decode c_M_newBlock 37 = .ok (.putfield 22, 3) := by decide +kernel
theorem d_M_newBlock_40 : decode c_M_newBlock 40 = .ok (.aload_n 0, 1) := by decide +kernel
theorem d_M_newBlock_41 : decode c_M_newBlock 41 = .ok (.getfield 22, 3) := by decide +kernel
theorem d_M_newBlock_44 : decode c_M_newBlock 44 = .ok (.iconst 1, 1) := by decide +kernel
theorem d_M_newBlock_45 : decode c_M_newBlock 45 = .ok (.isub, 1) := by decide +kernel
theorem d_M_newBlock_46 : decode c_M_newBlock 46 = .ok (.ireturn, 1) := by decide +kernel
theorem d_M_lead_0 : decode c_M_lead 0 = .ok (.aload_n 0, 1) := by decide +kernel
theorem d_M_lead_1 : decode c_M_lead 1 = .ok (.iload_n 1, 1) := by decide +kernel
theorem d_M_lead_2 : decode c_M_lead 2 = .ok (.invokevirtual 140, 3) := by decide +kernel
theorem d_M_lead_5 : decode c_M_lead 5 = .ok (.ifCond .eq 41, 3) := by decide +kernel
theorem d_M_lead_8 : decode c_M_lead 8 = .ok (.aload_n 0, 1) := by decide +kernel
theorem d_M_lead_9 : decode c_M_lead 9 = .ok (.aload_n 0, 1) := by decide +kernel
theorem d_M_lead_10 : decode c_M_lead 10 = .ok (.getfield 53, 3) := by decide +kernel
theorem d_M_lead_13 : decode c_M_lead 13 = .ok (.iload_n 1, 1) := by decide +kernel
theorem d_M_lead_14 : decode c_M_lead 14 = .ok (.iaload, 1) := by decide +kernel
theorem d_M_lead_15 : decode c_M_lead 15 = .ok (.invokevirtual 127, 3) := by decide +kernel
theorem d_M_lead_18 : decode c_M_lead 18 = .ok (.iload_n 1, 1) := by decide +kernel
theorem d_M_lead_19 : decode c_M_lead 19 = .ok (.if_icmp .ne 27, 3) := by decide +kernel
theorem d_M_lead_22 : decode c_M_lead 22 = .ok (.aload_n 0, 1) := by decide +kernel
theorem d_M_lead_23 : decode c_M_lead 23 = .ok (.getfield 65, 3) := by decide +kernel
theorem d_M_lead_26 : decode c_M_lead 26 = .ok (.iload_n 1, 1) := by decide +kernel
theorem d_M_lead_27 : decode c_M_lead 27 = .ok (.iaload, 1) := by decide +kernel
theorem d_M_lead_28 : decode c_M_lead 28 = .ok (.aload_n 0, 1) := by decide +kernel
theorem d_M_lead_29 : decode c_M_lead 29 = .ok (.getfield 53, 3) := by decide +kernel
theorem d_M_lead_32 : decode c_M_lead 32 = .ok (.iload_n 1, 1) := by decide +kernel
theorem d_M_lead_33 : decode c_M_lead 33 = .ok (.iaload, 1) := by decide +kernel
theorem d_M_lead_34 : decode c_M_lead 34 = .ok (.if_icmp .eq 12, 3) := by decide +kernel
theorem d_M_lead_37 : decode c_M_lead 37 = .ok (.aload_n 0, 1) := by decide +kernel
theorem d_M_lead_38 : decode c_M_lead 38 = .ok (.getfield 22, 3) := by decide +kernel
theorem d_M_lead_41 : decode c_M_lead 41 = .ok (.bipush 40, 2) := by decide +kernel
theorem d_M_lead_43 : decode c_M_lead 43 = .ok (.if_icmp .lt 5, 3) := by decide +kernel
theorem d_M_lead_46 : decode c_M_lead 46 = .ok (.iconst (-1), 1) := by decide +kernel
theorem d_M_lead_47 : decode c_M_lead 47 = .ok (.ireturn, 1) := by decide +kernel
theorem d_M_lead_48 : decode c_M_lead 48 = .ok (.aload_n 0, 1) := by decide +kernel
theorem d_M_lead_49 : decode c_M_lead 49 = .ok (.getfield 53, 3) := by decide +kernel
theorem d_M_lead_52 : decode c_M_lead 52 = .ok (.iload_n 1, 1) := by decide +kernel
theorem d_M_lead_53 : decode c_M_lead 53 = .ok (.iaload, 1) := by decide +kernel
theorem d_M_lead_54 : decode c_M_lead 54 = .ok (.istore_n 2, 1) := by decide +kernel
theorem d_M_lead_55 : decode c_M_lead 55 = .ok (.aload_n 0, 1) := by decide +kernel
theorem d_M_lead_56 : decode c_M_lead 56 = .ok (.iload_n 1, 1) := by decide +kernel
theorem d_M_lead_57 : decode c_M_lead 57 = .ok (.invokevirtual 143, 3) := by decide +kernel
theorem d_M_lead_60 : decode c_M_lead 60 = .ok (.istore_n 3, 1) := by decide +kernel
theorem d_M_lead_61 : decode c_M_lead 61 = .ok (.aload_n 0, 1) := by decide +kernel
theorem d_M_lead_62 : decode c_M_lead 62 = .ok (.iload_n 1, 1) := by decide +kernel
theorem d_M_lead_63 : decode c_M_lead 63 = .ok (.invokevirtual 134, 3) := by decide +kernel
theorem d_M_lead_66 : decode c_M_lead 66 = .ok (.istore 4, 2) := by decide +kernel
theorem d_M_lead_68 : decode c_M_lead 68 = .ok (.iload_n 2, 1) := by decide +kernel
theorem d_M_lead_69 : decode c_M_lead 69 = .ok (.iconst 1, 1) := by decide +kernel
theorem d_M_lead_70 : decode c_M_lead 70 = .ok (.if_icmp .eq 23, 3) := by decide +kernel
theorem d_M_lead_73 : decode c_M_lead 73 = .ok (.aload_n 0, 1) := by decide +kernel
theorem d_M_lead_74 : decode c_M_lead 74 = .ok (.getfield 26, 3) := by decide +kernel
theorem d_M_lead_77 : decode c_M_lead 77 = .ok (.iload_n 3, 1) := by decide +kernel
theorem d_M_lead_78 : decode c_M_lead 78 = .ok (.iaload, 1) := by decide +kernel
theorem d_M_lead_79 : decode c_M_lead 79 = .ok (.iload_n 2, 1) := by decide +kernel
theorem d_M_lead_80 : decode c_M_lead 80 = .ok (.iconst 1, 1) := by decide +kernel
theorem d_M_lead_81 : decode c_M_lead 81 = .ok (.isub, 1) := by decide +kernel
theorem d_M_lead_82 : decode c_M_lead 82 = .ok (.if_icmp .eq 11, 3) := by decide +kernel
theorem d_M_lead_85 : decode c_M_lead 85 = .ok (.iload 4, 2) := by decide +kernel
theorem d_M_lead_87 : decode c_M_lead 87 = .ok (.iload_n 2, 1) := by decide +kernel
theorem d_M_lead_88 : decode c_M_lead 88 = .ok (.if_icmp .ge 5, 3) := by decide +kernel
theorem d_M_lead_91 : decode c_M_lead 91 = .ok (.iconst (-1), 1) := by decide +kernel
theorem d_M_lead_92 : decode c_M_lead 92 = .ok (.ireturn, 1) := by decide +kernel
theorem d_M_lead_93 : decode c_M_lead 93 = .ok (.iconst 0, 1) := by decide +kernel
theorem d_M_lead_94 : decode c_M_lead 94 = .ok (.istore 5, 2) := by decide +kernel
theorem d_M_lead_96 : decode c_M_lead 96 = .ok (.iload_n 3, 1) := by decide +kernel
theorem d_M_lead_97 : decode c_M_lead 97 = .ok (.istore 6, 2) := by decide +kernel
theorem d_M_lead_99 : decode c_M_lead 99 = .ok (.iconst 0, 1) := by decide +kernel
theorem d_M_lead_100 : decode c_M_lead 100 = .ok (.istore 7, 2) := by decide +kernel
theorem d_M_lead_102 : decode c_M_lead 102 = .ok (.iload 7, 2) := by decide +kernel
theorem d_M_lead_104 : decode c_M_lead 104 = .ok (.bipush 40, 2) := by decide +kernel
theorem d_M_lead_106 : decode c_M_lead 106 = .ok (.if_icmp .ge 30, 3) := by decide +kernel
theorem d_M_lead_109 : decode c_M_lead 109 = .ok (.iload 5, 2) := by decide +kernel
theorem d_M_lead_111 : decode c_M_lead 111 = .ok (.aload_n 0, 1) := by decide +kernel
theorem d_M_lead_112 : decode c_M_lead 112 = .ok (.getfield 32, 3) := by decide +kernel
theorem d_M_lead_115 : decode c_M_lead 115 = .ok (.iload 6, 2) := by decide +kernel
theorem d_M_lead_117 : decode c_M_lead 117 = .ok (.iaload, 1) := by decide +kernel
theorem d_M_lead_118 : decode c_M_lead 118 = .ok (.ior, 1) := by decide +kernel
theorem d_M_lead_119 : decode c_M_lead 119 = .ok (.istore 5, 2) := by decide +kernel
theorem d_M_lead_121 : decode c_M_lead 121 = .ok (.aload_n 0, 1) := by decide +kernel
theorem d_M_lead_122 : decode c_M_lead 122 = .ok (.getfield 29, 3) := by decide +kernel
theorem d_M_lead_125 : decode c_M_lead 125 = .ok (.iload 6, 2) := by decide +kernel
theorem d_M_lead_127 : decode c_M_lead 127 = .ok (.iaload, 1) := by decide +kernel
theorem d_M_lead_128 : decode c_M_lead 128 = .ok (.istore 6, 2) := by decide +kernel
theorem d_M_lead_130 : decode c_M_lead 130 = .ok (.iinc 7 1, 3) := by decide +kernel
theorem d_M_lead_133 : decode c_M_lead 133 = .ok (.goto (-31), 3) := by decide +kernel
theorem d_M_lead_136 : decode c_M_lead 136 = .ok (.iconst 0, 1) := by decide +kernel
theorem d_M_lead_137 : decode c_M_lead 137 = .ok (.istore 7, 2) := by decide +kernel
theorem d_M_lead_139 : decode c_M_lead 139 = .ok (.iconst 0, 1) := by decide +kernel
theorem d_M_lead_140 : decode c_M_lead 140 = .ok (.istore 8, 2) := by decide +kernel
theorem d_M_lead_142 : decode c_M_lead 142 = .ok (.iconst 0, 1) := by decide +kernel
theorem d_M_lead_143 : decode c_M_lead 143 = .ok (.istore 9, 2) := by decide +kernel
theorem d_M_lead_145 : decode c_M_lead 145 = .ok (.iload 9, 2) := by decide +kernel
theorem d_M_lead_147 : decode c_M_lead 147 = .ok (.aload_n 0, 1) := by decide +kernel
theorem d_M_lead_148 : decode c_M_lead 148 = .ok (.getfield 137, 3) := by decide +kernel
theorem d_M_lead_151 : decode c_M_lead 151 = .ok (.if_icmp .ge 52, 3) := by decide +kernel
theorem d_M_lead_154 : decode c_M_lead 154 = .ok (.iload 8, 2) := by decide +kernel
theorem d_M_lead_156 : decode c_M_lead 156 = .ok (.iconst 2, 1) := by decide +kernel
theorem d_M_lead_157 : decode c_M_lead 157 = .ok (.if_icmp .ge 46, 3) := by decide +kernel
theorem d_M_lead_160 : decode c_M_lead 160 = .ok (.aload_n 0, 1) := by decide +kernel
theorem d_M_lead_161 : decode c_M_lead 161 = .ok (.getfield 7, 3) := by decide +kernel
theorem d_M_lead_164 : decode c_M_lead 164 = .ok (.iload 9, 2) := by decide +kernel
theorem d_M_lead_166 : decode c_M_lead 166 = .ok (.iaload, 1) := by decide +kernel
theorem d_M_lead_167 : decode c_M_lead 167 = .ok (.iload_n 1, 1) := by decide +kernel
theorem d_M_lead_168 : decode c_M_lead 168 = .ok (.ishr, 1) := by decide +kernel
theorem d_M_lead_169 : decode c_M_lead 169 = .ok (.iconst 1, 1) := by decide +kernel
theorem d_M_lead_170 : decode c_M_lead 170 = .ok (.iand, 1) := by decide +kernel
theorem d_M_lead_171 : decode c_M_lead 171 = .ok (.iconst 1, 1) := by decide +kernel
theorem d_M_lead_172 : decode c_M_lead 172 = .ok (.if_icmp .ne 25, 3) := by decide +kernel
theorem d_M_lead_175 : decode c_M_lead 175 = .ok (.iload 5, 2) := by decide +kernel
theorem d_M_lead_177 : decode c_M_lead 177 = .ok (.iload 9, 2) := by decide +kernel
theorem d_M_lead_179 : decode c_M_lead 179 = .ok (.ishr, 1) := by decide +kernel
theorem d_M_lead_180 : decode c_M_lead 180 = .ok (.iconst 1, 1) := by decide +kernel
theorem d_M_lead_181 : decode c_M_lead 181 = .ok (.iand, 1) := by decide +kernel
theorem d_M_lead_182 : decode c_M_lead 182 = .ok (.ifCond .ne 15, 3) := by decide +kernel
theorem d_M_lead_185 : decode c_M_lead 185 = .ok (.iload 7, 2) := by decide +kernel
theorem d_M_lead_187 : decode c_M_lead 187 = .ok (.iconst 1, 1) := by decide +kernel
theorem d_M_lead_188 : decode c_M_lead 188 = .ok (.iload 9, 2) := by decide +kernel
theorem d_M_lead_190 : decode c_M_lead 190 = .ok (.ishl, 1) := by decide +kernel
theorem d_M_lead_191 : decode c_M_lead 191 = .ok (.ior, 1) := by decide +kernel
theorem d_M_lead_192 : decode c_M_lead 192 = .ok (.istore 7, 2) := by decide +kernel
theorem d_M_lead_194 : decode c_M_lead 194 = .ok (.iinc 8 1, 3) := by decide +kernel
theorem d_M_lead_197 : decode c_M_lead 197 = .ok (.iinc 9 1, 3) := by decide +kernel
theorem d_M_lead_200 : decode c_M_lead 200 = .ok (.goto (-55), 3) := by decide +kernel
theorem d_M_lead_203 : decode c_M_lead 203 = .ok (.aload_n 0, 1) := by decide +kernel
theorem d_M_lead_204 : decode c_M_lead 204 = .ok (.iload_n 2, 1) := by decide +kernel
theorem d_M_lead_205 : decode c_M_lead 205 = .ok (.iload_n 3, 1) := by decide +kernel
theorem d_M_lead_206 : decode c_M_lead 206 = .ok (.iload 7, 2) := by decide +kernel
theorem d_M_lead_208 : decode c_M_lead 208 = .ok (.invokevirtual 146, 3) := by decide +kernel
theorem d_M_lead_211 : decode c_M_lead 211 = .ok (.istore 9, 2) := by decide +kernel
theorem d_M_lead_213 : decode c_M_lead 213 = .ok (.aload_n 0, 1) := by decide +kernel
theorem d_M_lead_214 : decode c_M_lead 214 = .ok (.getfield 65, 3) := by decide +kernel
theorem d_M_lead_217 : decode c_M_lead 217 = .ok (.iload_n 1, 1) := by decide +kernel
theorem d_M_lead_218 : decode c_M_lead 218 = .ok (.iload_n 2, 1) := by decide +kernel
theorem d_M_lead_219 : decode c_M_lead 219 = .ok (.iastore, 1) := by decide +kernel
theorem d_M_lead_220 : decode c_M_lead 220 = .ok (.iconst 0, 1) := by decide +kernel
theorem d_M_lead_221 : decode c_M_lead 221 = .ok (.istore 10, 2) := by decide +kernel
theorem d_M_lead_223 : decode c_M_lead 223 = .ok (.iload 10, 2) := by decide +kernel
theorem d_M_lead_225 : decode c_M_lead 225 = .ok (.aload_n 0, 1) := by decide +kernel
theorem d_M_lead_226 : decode c_M_lead 226 = .ok (.getfield 90, 3) := by decide +kernel
theorem d_M_lead_229 : decode c_M_lead 229 = .ok (.if_icmp .ge 20, 3) := by decide +kernel
theorem d_M_lead_232 : decode c_M_lead 232 = .ok (.aload_n 0, 1) := by decide +kernel
theorem d_M_lead_233 : decode c_M_lead 233 = .ok (.iconst 0, 1) := by decide +kernel
theorem d_M_lead_234 : decode c_M_lead 234 = .ok (.iconst 0, 1) := by decide +kernel
theorem d_M_lead_235 : decode c_M_lead 235 = .ok (.iload 10, 2) := by decide +kernel
theorem d_M_lead_237 : decode c_M_lead 237 = .ok (.iload 9, 2) := by decide +kernel
theorem d_M_lead_239 : decode c_M_lead 239 = .ok (.iconst 0, 1) := by decide +kernel
theorem d_M_lead_240 : decode c_M_lead 240 = .ok (.invokevirtual 130, 3) := by decide +kernel
theorem d_M_lead_243 : decode c_M_lead 243 = .ok (.iinc 10 1, 3) := by decide +kernel
theorem d_M_lead_246 : decode c_M_lead 246 = .ok (.goto (-23), 3) := by decide +kernel
theorem d_M_lead_249 : decode c_M_lead 249 = .ok (.iload 9, 2) := by decide +kernel
theorem d_M_lead_251 : decode c_M_lead 251 = .ok (.ireturn, 1) := by decide +kernel
theorem d_M_tick_0 : decode c_M_tick 0 = .ok (.aload_n 0, 1) := by decide +kernel
theorem d_M_tick_1 : decode c_M_tick 1 = .ok (.iload_n 1, 1) := by decide +kernel
theorem d_M_tick_2 : decode c_M_tick 2 = .ok (.invokevirtual 140, 3) := by decide +kernel
theorem d_M_tick_5 : decode c_M_tick 5 = .ok (.ifCond .ne 5, 3) := by decide +kernel
theorem d_M_tick_8 : decode c_M_tick 8 = .ok (.iconst (-1), 1) := by decide +kernel
theorem d_M_tick_9 : decode c_M_tick 9 = .ok (.ireturn, 1) := by decide +kernel
theorem d_M_tick_10 : decode c_M_tick 10 = .ok (.aload_n 0, 1) := by decide +kernel
theorem d_M_tick_11 : decode c_M_tick 11 = .ok (.getfield 56, 3) := by decide +kernel
theorem d_M_tick_14 : decode c_M_tick 14 = .ok (.iload_n 1, 1) := by decide +kernel
theorem d_M_tick_15 : decode c_M_tick 15 = .ok (.dup2, 1) := by decide +kernel
theorem d_M_tick_16 : decode c_M_tick 16 = .ok (.iaload, 1) := by decide +kernel
theorem d_M_tick_17 : decode c_M_tick 17 = .ok (.iconst 1, 1) := by decide +kernel
theorem d_M_tick_18 : decode c_M_tick 18 = .ok (.iadd, 1) := by decide +kernel
theorem d_M_tick_19 : decode c_M_tick 19 = .ok (.iastore, 1) := by decide +kernel
theorem d_M_tick_20 : decode c_M_tick 20 = .ok (.aload_n 0, 1) := by decide +kernel
theorem d_M_tick_21 : decode c_M_tick 21 = .ok (.getfield 56, 3) := by decide +kernel
theorem d_M_tick_24 : decode c_M_tick 24 = .ok (.iload_n 1, 1) := by decide +kernel
theorem d_M_tick_25 : decode c_M_tick 25 = .ok (.iaload, 1) := by decide +kernel
theorem d_M_tick_26 : decode c_M_tick 26 = .ok (.aload_n 0, 1) := by decide +kernel
theorem d_M_tick_27 : decode c_M_tick 27 = .ok (.getfield 59, 3) := by decide +kernel
theorem d_M_tick_30 : decode c_M_tick 30 = .ok (.iload_n 1, 1) := by decide +kernel
theorem d_M_tick_31 : decode c_M_tick 31 = .ok (.iaload, 1) := by decide +kernel
theorem d_M_tick_32 : decode c_M_tick 32 = .ok (.if_icmp .ne 77, 3) := by decide +kernel
theorem d_M_tick_35 : decode c_M_tick 35 = .ok (.aload_n 0, 1) := by decide +kernel
theorem d_M_tick_36 : decode c_M_tick 36 = .ok (.iload_n 1, 1) := by decide +kernel
theorem d_M_tick_37 : decode c_M_tick 37 = .ok (.aload_n 0, 1) := by decide +kernel
theorem d_M_tick_38 : decode c_M_tick 38 = .ok (.getfield 53, 3) := by decide +kernel
theorem d_M_tick_41 : decode c_M_tick 41 = .ok (.iload_n 1, 1) := by decide +kernel
theorem d_M_tick_42 : decode c_M_tick 42 = .ok (.iaload, 1) := by decide +kernel
theorem d_M_tick_43 : decode c_M_tick 43 = .ok (.iconst 1, 1) := by decide +kernel
theorem d_M_tick_44 : decode c_M_tick 44 = .ok (.iadd, 1) := by decide +kernel
theorem d_M_tick_45 : decode c_M_tick 45 = .ok (.invokevirtual 113, 3) := by decide +kernel
theorem d_M_tick_48 : decode c_M_tick 48 = .ok (.aload_n 0, 1) := by decide +kernel
theorem d_M_tick_49 : decode c_M_tick 49 = .ok (.getfield 59, 3) := by decide +kernel
theorem d_M_tick_52 : decode c_M_tick 52 = .ok (.iload_n 1, 1) := by decide +kernel
theorem d_M_tick_53 : decode c_M_tick 53 = .ok (.aload_n 0, 1) := by decide +kernel
theorem d_M_tick_54 : decode c_M_tick 54 = .ok (.getfield 59, 3) := by decide +kernel
theorem d_M_tick_57 : decode c_M_tick 57 = .ok (.iload_n 1, 1) := by decide +kernel
theorem d_M_tick_58 : decode c_M_tick 58 = .ok (.iaload, 1) := by decide +kernel
theorem d_M_tick_59 : decode c_M_tick 59 = .ok (.bipush 16, 2) := by decide +kernel
theorem d_M_tick_61 : decode c_M_tick 61 = .ok (.if_icmp .le 8, 3) := by decide +kernel
theorem d_M_tick_64 : decode c_M_tick 64 = .ok (.bipush 32, 2) := by decide +kernel
theorem d_M_tick_66 : decode c_M_tick 66 = .ok (.goto 11, 3) := by decide +kernel
theorem d_M_tick_69 : decode c_M_tick 69 = .ok (.iconst 2, 1) := by decide +kernel
theorem d_M_tick_70 : decode c_M_tick 70 = .ok (.aload_n 0, 1) := by decide +kernel
theorem d_M_tick_71 : decode c_M_tick 71 = .ok (.getfield 59, 3) := by decide +kernel
theorem d_M_tick_74 : decode c_M_tick 74 = .ok (.iload_n 1, 1) := by decide +kernel
theorem d_M_tick_75 : decode c_M_tick 75 = .ok (.iaload, 1) := by decide +kernel
theorem d_M_tick_76 : decode c_M_tick 76 = .ok (.imul, 1) := by decide +kernel
theorem d_M_tick_77 : decode c_M_tick 77 = .ok (.iastore, 1) := by decide +kernel
theorem d_M_tick_78 : decode c_M_tick 78 = .ok (.aload_n 0, 1) := by decide +kernel
theorem d_M_tick_79 : decode c_M_tick 79 = .ok (.aload_n 0, 1) := by decide +kernel
theorem d_M_tick_80 : decode c_M_tick 80 = .ok (.getfield 53, 3) := by decide +kernel
theorem d_M_tick_83 : decode c_M_tick 83 = .ok (.iload_n 1, 1) := by decide +kernel
theorem d_M_tick_84 : decode c_M_tick 84 = .ok (.iaload, 1) := by decide +kernel
theorem d_M_tick_85 : decode c_M_tick 85 = .ok (.invokevirtual 127, 3) := by decide +kernel
theorem d_M_tick_88 : decode c_M_tick 88 = .ok (.istore_n 2, 1) := by decide +kernel
theorem d_M_tick_89 : decode c_M_tick 89 = .ok (.aload_n 0, 1) := by decide +kernel
theorem d_M_tick_90 : decode c_M_tick 90 = .ok (.iload_n 1, 1) := by decide +kernel
theorem d_M_tick_91 : decode c_M_tick 91 = .ok (.invokevirtual 143, 3) := by decide +kernel
theorem d_M_tick_94 : decode c_M_tick 94 = .ok (.istore_n 3, 1) := by decide +kernel
theorem d_M_tick_95 : decode c_M_tick 95 = .ok (.aload_n 0, 1) := by decide +kernel
theorem d_M_tick_96 : decode c_M_tick 96 = .ok (.iconst 2, 1) := by decide +kernel
theorem d_M_tick_97 : decode c_M_tick 97 = .ok (.iload_n 1, 1) := by decide +kernel
theorem d_M_tick_98 : decode c_M_tick 98 = .ok (.iload_n 2, 1) := by decide +kernel
theorem d_M_tick_99 : decode c_M_tick 99 = .ok (.iload_n 3, 1) := by decide +kernel
theorem d_M_tick_100 : decode c_M_tick 100 = .ok (.aload_n 0, 1) := by decide +kernel
theorem d_M_tick_101 : decode c_M_tick 101 = .ok (.getfield 53, 3) := by decide +kernel
theorem d_M_tick_104 : decode c_M_tick 104 = .ok (.iload_n 1, 1) := by decide +kernel
theorem d_M_tick_105 : decode c_M_tick 105 = .ok (.iaload, 1) := by decide +kernel
theorem d_M_tick_106 : decode c_M_tick 106 = .ok (.invokevirtual 130, 3) := by decide +kernel
theorem d_M_tick_109 : decode c_M_tick 109 = .ok (.aload_n 0, 1) := by decide +kernel
theorem d_M_tick_110 : decode c_M_tick 110 = .ok (.getfield 53, 3) := by decide +kernel
theorem d_M_tick_113 : decode c_M_tick 113 = .ok (.iload_n 1, 1) := by decide +kernel
theorem d_M_tick_114 : decode c_M_tick 114 = .ok (.iaload, 1) := by decide +kernel
theorem d_M_tick_115 : decode c_M_tick 115 = .ok (.ireturn, 1) := by decide +kernel
theorem d_M_deliver_0 : decode c_M_deliver 0 = .ok (.iload_n 1, 1) := by decide +kernel
theorem d_M_deliver_1 : decode c_M_deliver 1 = .ok (.ifCond .lt 11, 3) := by decide +kernel
theorem d_M_deliver_4 : decode c_M_deliver 4 = .ok (.iload_n 1, 1) := by decide +kernel
theorem d_M_deliver_5 : decode c_M_deliver 5 = .ok (.aload_n 0, 1) := by decide +kernel
theorem d_M_deliver_6 : decode c_M_deliver 6 = .ok (.getfield 107, 3) := by decide +kernel
theorem d_M_deliver_9 : decode c_M_deliver 9 = .ok (.if_icmp .lt 5, 3) := by decide +kernel
theorem d_M_deliver_12 : decode c_M_deliver 12 = .ok (.iconst (-1), 1) := by decide +kernel
theorem d_M_deliver_13 : decode c_M_deliver 13 = .ok (.ireturn, 1) := by decide +kernel
theorem d_M_deliver_14 : decode c_M_deliver 14 = .ok (.aload_n 0, 1) := by decide +kernel
theorem d_M_deliver_15 : decode c_M_deliver 15 = .ok (.getfield 38, 3) := by decide +kernel
theorem d_M_deliver_18 : decode c_M_deliver 18 = .ok (.iload_n 1, 1) := by decide +kernel
theorem d_M_deliver_19 : decode c_M_deliver 19 = .ok (.iaload, 1) := by decide +kernel
theorem d_M_deliver_20 : decode c_M_deliver 20 = .ok (.istore_n 2, 1) := by decide +kernel
theorem d_M_deliver_21 : decode c_M_deliver 21 = .ok (.aload_n 0, 1) := by decide +kernel
theorem d_M_deliver_22 : decode c_M_deliver 22 = .ok (.getfield 44, 3) := by decide +kernel
theorem d_M_deliver_25 : decode c_M_deliver 25 = .ok (.iload_n 1, 1) := by decide +kernel
theorem d_M_deliver_26 : decode c_M_deliver 26 = .ok (.iaload, 1) := by decide +kernel
theorem d_M_deliver_27 : decode c_M_deliver 27 = .ok (.istore_n 3, 1) := by decide +kernel
theorem d_M_deliver_28 : decode c_M_deliver 28 = .ok (.aload_n 0, 1) := by decide +kernel
theorem d_M_deliver_29 : decode c_M_deliver 29 = .ok (.getfield 41, 3) := by decide +kernel
theorem d_M_deliver_32 : decode c_M_deliver 32 = .ok (.iload_n 1, 1) := by decide +kernel
theorem d_M_deliver_33 : decode c_M_deliver 33 = .ok (.iaload, 1) := by decide +kernel
theorem d_M_deliver_34 : decode c_M_deliver 34 = .ok (.istore 4, 2) := by decide +kernel
theorem d_M_deliver_36 : decode c_M_deliver 36 = .ok (.aload_n 0, 1) := by decide +kernel
theorem d_M_deliver_37 : decode c_M_deliver 37 = .ok (.getfield 47, 3) := by decide +kernel
theorem d_M_deliver_40 : decode c_M_deliver 40 = .ok (.iload_n 1, 1) := by decide +kernel
theorem d_M_deliver_41 : decode c_M_deliver 41 = .ok (.iaload, 1) := by decide +kernel
theorem d_M_deliver_42 : decode c_M_deliver 42 = .ok (.istore 5, 2) := by decide +kernel
theorem d_M_deliver_44 : decode c_M_deliver 44 = .ok (.aload_n 0, 1) := by decide +kernel
theorem d_M_deliver_45 : decode c_M_deliver 45 = .ok (.getfield 50, 3) := by decide +kernel
theorem d_M_deliver_48 : decode c_M_deliver 48 = .ok (.iload_n 1, 1) := by decide +kernel
theorem d_M_deliver_49 : decode c_M_deliver 49 = .ok (.iaload, 1) := by decide +kernel
theorem d_M_deliver_50 : decode c_M_deliver 50 = .ok (.istore 6, 2) := by decide +kernel
theorem d_M_deliver_52 : decode c_M_deliver 52 = .ok (.aload_n 0, 1) := by decide +kernel
theorem d_M_deliver_53 : decode c_M_deliver 53 = .ok (.iload_n 1, 1) := by decide +kernel
theorem d_M_deliver_54 : decode c_M_deliver 54 = .ok (.invokevirtual 150, 3) := by decide +kernel
theorem d_M_deliver_57 : decode c_M_deliver 57 = .ok (.aload_n 0, 1) := by decide +kernel
theorem d_M_deliver_58 : decode c_M_deliver 58 = .ok (.iload 4, 2) := by decide +kernel
theorem d_M_deliver_60 : decode c_M_deliver 60 = .ok (.invokevirtual 154, 3) := by decide +kernel
theorem d_M_deliver_63 : decode c_M_deliver 63 = .ok (.ifCond .eq 5, 3) := by decide +kernel
theorem d_M_deliver_66 : decode c_M_deliver 66 = .ok (.iconst 0, 1) := by decide +kernel
theorem d_M_deliver_67 : decode c_M_deliver 67 = .ok (.ireturn, 1) := by decide +kernel
theorem d_M_deliver_68 : decode c_M_deliver 68 = .ok (.iload_n 2, 1) := by decide +kernel
theorem d_M_deliver_69 : decode c_M_deliver 69 = .ok (.ifCond .ne 14, 3) := by decide +kernel
theorem d_M_deliver_72 : decode c_M_deliver 72 = .ok (.aload_n 0, 1) := by decide +kernel
theorem d_M_deliver_73 : decode c_M_deliver 73 = .ok (.iload 4, 2) := by decide +kernel
theorem d_M_deliver_75 : decode c_M_deliver 75 = .ok (.iload 5, 2) := by decide +kernel
theorem d_M_deliver_77 : decode c_M_deliver 77 = .ok (.invokevirtual 157, 3) := by decide +kernel
theorem d_M_deliver_80 : decode c_M_deliver 80 = .ok (.goto 31, 3) := by decide +kernel
theorem d_M_deliver_83 : decode c_M_deliver 83 = .ok (.iload_n 2, 1) := by decide +kernel
theorem d_M_deliver_84 : decode c_M_deliver 84 = .ok (.iconst 1, 1) := by decide +kernel
theorem d_M_deliver_85 : decode c_M_deliver 85 = .ok (.if_icmp .ne 15, 3) := by decide +kernel
theorem d_M_deliver_88 : decode c_M_deliver 88 = .ok (.aload_n 0, 1) := by decide +kernel
theorem d_M_deliver_89 : decode c_M_deliver 89 = .ok (.iload 4, 2) := by decide +kernel
theorem d_M_deliver_91 : decode c_M_deliver 91 = .ok (.iload_n 3, 1) := by decide +kernel
theorem d_M_deliver_92 : decode c_M_deliver 92 = .ok (.iload 5, 2) := by decide +kernel
theorem d_M_deliver_94 : decode c_M_deliver 94 = .ok (.invokevirtual 160, 3) := by decide +kernel
theorem d_M_deliver_97 : decode c_M_deliver 97 = .ok (.goto 14, 3) := by decide +kernel
theorem d_M_deliver_100 : decode c_M_deliver 100 = .ok (.aload_n 0, 1) := by decide +kernel
theorem d_M_deliver_101 : decode c_M_deliver 101 = .ok (.iload 4, 2) := by decide +kernel
theorem d_M_deliver_103 : decode c_M_deliver 103 = .ok (.iload_n 3, 1) := by decide +kernel
theorem d_M_deliver_104 : decode c_M_deliver 104 = .ok (.iload 5, 2) := by decide +kernel
theorem d_M_deliver_106 : decode c_M_deliver 106 = .ok (.iload 6, 2) := by decide +kernel
theorem d_M_deliver_108 : decode c_M_deliver 108 = .ok (.invokevirtual 164, 3) := by decide +kernel
theorem d_M_deliver_111 : decode c_M_deliver 111 = .ok (.iconst 1, 1) := by decide +kernel
theorem d_M_deliver_112 : decode c_M_deliver 112 = .ok (.ireturn, 1) := by decide +kernel
theorem d_M_flow_0 : decode c_M_flow 0 = .ok (.iload_n 1, 1) := by decide +kernel
theorem d_M_flow_1 : decode c_M_flow 1 = .ok (.ifCond .lt 9, 3) := by decide +kernel
theorem d_M_flow_4 : decode c_M_flow 4 = .ok (.iload_n 1, 1) := by decide +kernel
theorem d_M_flow_5 : decode c_M_flow 5 = .ok (.bipush 40, 2) := by decide +kernel
theorem d_M_flow_7 : decode c_M_flow 7 = .ok (.if_icmp .le 5, 3) := by decide +kernel
theorem d_M_flow_10 : decode c_M_flow 10 = .ok (.iconst (-1), 1) := by decide +kernel
theorem d_M_flow_11 : decode c_M_flow 11 = .ok (.ireturn, 1) := by decide +kernel
theorem d_M_flow_12 : decode c_M_flow 12 = .ok (.iconst 0, 1) := by decide +kernel
theorem d_M_flow_13 : decode c_M_flow 13 = .ok (.istore_n 2, 1) := by decide +kernel
theorem d_M_flow_14 : decode c_M_flow 14 = .ok (.iload_n 2, 1) := by decide +kernel
theorem d_M_flow_15 : decode c_M_flow 15 = .ok (.iload_n 1, 1) := by decide +kernel
theorem d_M_flow_16 : decode c_M_flow 16 = .ok (.if_icmp .ge 22, 3) := by decide +kernel
theorem d_M_flow_19 : decode c_M_flow 19 = .ok (.aload_n 0, 1) := by decide +kernel
theorem d_M_flow_20 : decode c_M_flow 20 = .ok (.getfield 107, 3) := by decide +kernel
theorem d_M_flow_23 : decode c_M_flow 23 = .ok (.ifCond .le 15, 3) := by decide +kernel
theorem d_M_flow_26 : decode c_M_flow 26 = .ok (.aload_n 0, 1) := by decide +kernel
theorem d_M_flow_27 : decode c_M_flow 27 = .ok (.iconst 0, 1) := by decide +kernel
theorem d_M_flow_28 : decode c_M_flow 28 = .ok (.invokevirtual 168, 3) := by decide +kernel
theorem d_M_flow_31 : decode c_M_flow 31 = .ok (.pop, 1) := by decide +kernel
theorem d_M_flow_32 : decode c_M_flow 32 = .ok (.iinc 2 1, 3) := by decide +kernel
theorem d_M_flow_35 : decode c_M_flow 35 = .ok (.goto (-21), 3) := by decide +kernel
theorem d_M_flow_38 : decode c_M_flow 38 = .ok (.iload_n 2, 1) := by decide +kernel
theorem d_M_flow_39 : decode c_M_flow 39 = .ok (.ireturn, 1) := by decide +kernel
theorem d_M_drop_0 : decode c_M_drop 0 = .ok (.iload_n 1, 1) := by decide +kernel
theorem d_M_drop_1 : decode c_M_drop 1 = .ok (.ifCond .lt 11, 3) := by decide +kernel
theorem d_M_drop_4 : decode c_M_drop 4 = .ok (.iload_n 1, 1) := by decide +kernel
theorem d_M_drop_5 : decode c_M_drop 5 = .ok (.aload_n 0, 1) := by decide +kernel
theorem d_M_drop_6 : decode c_M_drop 6 = .ok (.getfield 107, 3) := by decide +kernel
theorem d_M_drop_9 : decode c_M_drop 9 = .ok (.if_icmp .lt 5, 3) := by decide +kernel
theorem d_M_drop_12 : decode c_M_drop 12 = .ok (.iconst 0, 1) := by decide +kernel
theorem d_M_drop_13 : decode c_M_drop 13 = .ok (.ireturn, 1) := by decide +kernel
theorem d_M_drop_14 : decode c_M_drop 14 = .ok (.aload_n 0, 1) := by decide +kernel
theorem d_M_drop_15 : decode c_M_drop 15 = .ok (.iload_n 1, 1) := by decide +kernel
theorem d_M_drop_16 : decode c_M_drop 16 = .ok (.invokevirtual 150, 3) := by decide +kernel
theorem d_M_drop_19 : decode c_M_drop 19 = .ok (.iconst 1, 1) := by decide +kernel
theorem d_M_drop_20 : decode c_M_drop 20 = .ok (.ireturn, 1) := by decide +kernel
theorem d_M_forge_0 : decode c_M_forge 0 = .ok (.aload_n 0, 1) := by decide +kernel
theorem d_M_forge_1 : decode c_M_forge 1 = .ok (.iload_n 1, 1) := by decide +kernel
theorem d_M_forge_2 : decode c_M_forge 2 = .ok (.invokevirtual 171, 3) := by decide +kernel
theorem d_M_forge_5 : decode c_M_forge 5 = .ok (.ifCond .eq 37, 3) := by decide +kernel
theorem d_M_forge_8 : decode c_M_forge 8 = .ok (.aload_n 0, 1) := by decide +kernel
theorem d_M_forge_9 : decode c_M_forge 9 = .ok (.iload_n 1, 1) := by decide +kernel
theorem d_M_forge_10 : decode c_M_forge 10 = .ok (.invokevirtual 174, 3) := by decide +kernel
theorem d_M_forge_13 : decode c_M_forge 13 = .ok (.ifCond .eq 29, 3) := by decide +kernel
theorem d_M_forge_16 : decode c_M_forge 16 = .ok (.iload_n 2, 1) := by decide +kernel
theorem d_M_forge_17 : decode c_M_forge 17 = .ok (.aload_n 0, 1) := by decide +kernel
theorem d_M_forge_18 : decode c_M_forge 18 = .ok (.getfield 26, 3) := by decide +kernel
theorem d_M_forge_21 : decode c_M_forge 21 = .ok (.iload_n 1, 1) := by decide +kernel
theorem d_M_forge_22 : decode c_M_forge 22 = .ok (.iaload, 1) := by decide +kernel
theorem d_M_forge_23 : decode c_M_forge 23 = .ok (.if_icmp .le 19, 3) := by decide +kernel
theorem d_M_forge_26 : decode c_M_forge 26 = .ok (.iload_n 2, 1) := by decide +kernel
theorem d_M_forge_27 : decode c_M_forge 27 = .ok (.sipush 9999, 3) := by decide +kernel
theorem d_M_forge_30 : decode c_M_forge 30 = .ok (.if_icmp .gt 12, 3) := by decide +kernel
theorem d_M_forge_33 : decode c_M_forge 33 = .ok (.aload_n 0, 1) := by decide +kernel
theorem d_M_forge_34 : decode c_M_forge 34 = .ok (.getfield 22, 3) := by decide +kernel
theorem d_M_forge_37 : decode c_M_forge 37 = .ok (.bipush 40, 2) := by decide +kernel
theorem d_M_forge_39 : decode c_M_forge 39 = .ok (.if_icmp .lt 5, 3) := by decide +kernel
theorem d_M_forge_42 : decode c_M_forge 42 = .ok (.iconst (-1), 1) := by decide +kernel
theorem d_M_forge_43 : decode c_M_forge 43 = .ok (.ireturn, 1) := by decide +kernel
theorem d_M_forge_44 : decode c_M_forge 44 = .ok (.aload_n 0, 1) := by decide +kernel
theorem d_M_forge_45 : decode c_M_forge 45 = .ok (.iload_n 2, 1) := by decide +kernel
theorem d_M_forge_46 : decode c_M_forge 46 = .ok (.invokevirtual 127, 3) := by decide +kernel
theorem d_M_forge_49 : decode c_M_forge 49 = .ok (.istore 4, 2) := by decide +kernel
theorem d_M_forge_51 : decode c_M_forge 51 = .ok (.aload_n 0, 1) := by decide +kernel
theorem d_M_forge_52 : decode c_M_forge 52 = .ok (.iload 4, 2) := by decide +kernel
theorem d_M_forge_54 : decode c_M_forge 54 = .ok (.invokevirtual 154, 3) := by decide +kernel
theorem d_M_forge_57 : decode c_M_forge 57 = .ok (.ifCond .eq 18, 3) := by decide +kernel
theorem d_M_forge_60 : decode c_M_forge 60 = .ok (.iload_n 3, 1) := by decide +kernel
theorem d_M_forge_61 : decode c_M_forge 61 = .ok (.iconst 1, 1) := by decide +kernel
theorem d_M_forge_62 : decode c_M_forge 62 = .ok (.aload_n 0, 1) := by decide +kernel
theorem d_M_forge_63 : decode c_M_forge 63 = .ok (.getfield 137, 3) := by decide +kernel
theorem d_M_forge_66 : decode c_M_forge 66 = .ok (.ishl, 1) := by decide +kernel
theorem d_M_forge_67 : decode c_M_forge 67 = .ok (.iconst 1, 1) := by decide +kernel
theorem d_M_forge_68 : decode c_M_forge 68 = .ok (.isub, 1) := by decide +kernel
theorem d_M_forge_69 : decode c_M_forge 69 = .ok (.iconst (-1), 1) := by decide +kernel
theorem d_M_forge_70 : decode c_M_forge 70 = .ok (.ixor, 1) := by decide +kernel
theorem d_M_forge_71 : decode c_M_forge 71 = .ok (.iand, 1) := by decide +kernel
theorem d_M_forge_72 : decode c_M_forge 72 = .ok (.ifCond .eq 5, 3) := by decide +kernel
theorem d_M_forge_75 : decode c_M_forge 75 = .ok (.iconst (-1), 1) := by decide +kernel
theorem d_M_forge_76 : decode c_M_forge 76 = .ok (.ireturn, 1) := by decide +kernel
theorem d_M_forge_77 : decode c_M_forge 77 = .ok (.aload_n 0, 1) := by decide +kernel
theorem d_M_forge_78 : decode c_M_forge 78 = .ok (.iload_n 2, 1) := by decide +kernel
theorem d_M_forge_79 : decode c_M_forge 79 = .ok (.iload_n 1, 1) := by decide +kernel
theorem d_M_forge_80 : decode c_M_forge 80 = .ok (.iload_n 3, 1) := by decide +kernel
theorem d_M_forge_81 : decode c_M_forge 81 = .ok (.invokevirtual 146, 3) := by decide +kernel
theorem d_M_forge_84 : decode c_M_forge 84 = .ok (.ireturn, 1) := by decide +kernel
theorem d_M_offer_0 : decode c_M_offer 0 = .ok (.aload_n 0, 1) := by decide +kernel
theorem d_M_offer_1 : decode c_M_offer 1 = .ok (.getfield 96, 3) := by decide +kernel
theorem d_M_offer_4 : decode c_M_offer 4 = .ok (.ifCond .eq 32, 3) := by decide +kernel
theorem d_M_offer_7 : decode c_M_offer 7 = .ok (.iload_n 1, 1) := by decide +kernel
theorem d_M_offer_8 : decode c_M_offer 8 = .ok (.ifCond .eq 28, 3) := by decide +kernel
theorem d_M_offer_11 : decode c_M_offer 11 = .ok (.aload_n 0, 1) := by decide +kernel
theorem d_M_offer_12 : decode c_M_offer 12 = .ok (.iload_n 1, 1) := by decide +kernel
theorem d_M_offer_13 : decode c_M_offer 13 = .ok (.invokevirtual 171, 3) := by decide +kernel
theorem d_M_offer_16 : decode c_M_offer 16 = .ok (.ifCond .eq 20, 3) := by decide +kernel
theorem d_M_offer_19 : decode c_M_offer 19 = .ok (.aload_n 0, 1) := by decide +kernel
theorem d_M_offer_20 : decode c_M_offer 20 = .ok (.iload_n 2, 1) := by decide +kernel
theorem d_M_offer_21 : decode c_M_offer 21 = .ok (.invokevirtual 99, 3) := by decide +kernel
theorem d_M_offer_24 : decode c_M_offer 24 = .ok (.ifCond .eq 12, 3) := by decide +kernel
theorem d_M_offer_27 : decode c_M_offer 27 = .ok (.aload_n 0, 1) := by decide +kernel
theorem d_M_offer_28 : decode c_M_offer 28 = .ok (.getfield 107, 3) := by decide +kernel
theorem d_M_offer_31 : decode c_M_offer 31 = .ok (.bipush 40, 2) := by decide +kernel
theorem d_M_offer_33 : decode c_M_offer 33 = .ok (.if_icmp .lt 5, 3) := by decide +kernel
theorem d_M_offer_36 : decode c_M_offer 36 = .ok (.iconst 0, 1) := by decide +kernel
theorem d_M_offer_37 : decode c_M_offer 37 = .ok (.ireturn, 1) := by decide +kernel
theorem d_M_offer_38 : decode c_M_offer 38 = .ok (.aload_n 0, 1) := by decide +kernel
theorem d_M_offer_39 : decode c_M_offer 39 = .ok (.iconst 0, 1) := by decide +kernel
theorem d_M_offer_40 : decode c_M_offer 40 = .ok (.iconst 0, 1) := by decide +kernel
theorem d_M_offer_41 : decode c_M_offer 41 = .ok (.iload_n 2, 1) := by decide +kernel
theorem d_M_offer_42 : decode c_M_offer 42 = .ok (.iload_n 1, 1) := by decide +kernel
theorem d_M_offer_43 : decode c_M_offer 43 = .ok (.iconst 0, 1) := by decide +kernel
theorem d_M_offer_44 : decode c_M_offer 44 = .ok (.invokevirtual 130, 3) := by decide +kernel
theorem d_M_offer_47 : decode c_M_offer 47 = .ok (.iconst 1, 1) := by decide +kernel
theorem d_M_offer_48 : decode c_M_offer 48 = .ok (.ireturn, 1) := by decide +kernel
theorem d_M_vote_0 : decode c_M_vote 0 = .ok (.aload_n 0, 1) := by decide +kernel
theorem d_M_vote_1 : decode c_M_vote 1 = .ok (.iload_n 1, 1) := by decide +kernel
theorem d_M_vote_2 : decode c_M_vote 2 = .ok (.invokevirtual 154, 3) := by decide +kernel
theorem d_M_vote_5 : decode c_M_vote 5 = .ok (.ifCond .eq 32, 3) := by decide +kernel
theorem d_M_vote_8 : decode c_M_vote 8 = .ok (.iload_n 2, 1) := by decide +kernel
theorem d_M_vote_9 : decode c_M_vote 9 = .ok (.ifCond .eq 28, 3) := by decide +kernel
theorem d_M_vote_12 : decode c_M_vote 12 = .ok (.aload_n 0, 1) := by decide +kernel
theorem d_M_vote_13 : decode c_M_vote 13 = .ok (.iload_n 2, 1) := by decide +kernel
theorem d_M_vote_14 : decode c_M_vote 14 = .ok (.invokevirtual 171, 3) := by decide +kernel
theorem d_M_vote_17 : decode c_M_vote 17 = .ok (.ifCond .eq 20, 3) := by decide +kernel
theorem d_M_vote_20 : decode c_M_vote 20 = .ok (.aload_n 0, 1) := by decide +kernel
theorem d_M_vote_21 : decode c_M_vote 21 = .ok (.iload_n 3, 1) := by decide +kernel
theorem d_M_vote_22 : decode c_M_vote 22 = .ok (.invokevirtual 99, 3) := by decide +kernel
theorem d_M_vote_25 : decode c_M_vote 25 = .ok (.ifCond .eq 12, 3) := by decide +kernel
theorem d_M_vote_28 : decode c_M_vote 28 = .ok (.aload_n 0, 1) := by decide +kernel
theorem d_M_vote_29 : decode c_M_vote 29 = .ok (.getfield 107, 3) := by decide +kernel
theorem d_M_vote_32 : decode c_M_vote 32 = .ok (.bipush 40, 2) := by decide +kernel
theorem d_M_vote_34 : decode c_M_vote 34 = .ok (.if_icmp .lt 5, 3) := by decide +kernel
theorem d_M_vote_37 : decode c_M_vote 37 = .ok (.iconst 0, 1) := by decide +kernel
theorem d_M_vote_38 : decode c_M_vote 38 = .ok (.ireturn, 1) := by decide +kernel
theorem d_M_vote_39 : decode c_M_vote 39 = .ok (.aload_n 0, 1) := by decide +kernel
theorem d_M_vote_40 : decode c_M_vote 40 = .ok (.iconst 1, 1) := by decide +kernel
theorem d_M_vote_41 : decode c_M_vote 41 = .ok (.iload_n 1, 1) := by decide +kernel
theorem d_M_vote_42 : decode c_M_vote 42 = .ok (.iload_n 3, 1) := by decide +kernel
theorem d_M_vote_43 : decode c_M_vote 43 = .ok (.iload_n 2, 1) := by decide +kernel
theorem d_M_vote_44 : decode c_M_vote 44 = .ok (.iconst 0, 1) := by decide +kernel
theorem d_M_vote_45 : decode c_M_vote 45 = .ok (.invokevirtual 130, 3) := by decide +kernel
end
section
theorem d_M_vote_48 : decode c_M_vote 48 = .ok (.iconst 1, 1) := by decide +kernel
theorem d_M_vote_49 : decode c_M_vote 49 = .ok (.ireturn, 1) := by decide +kernel
theorem d_M_claim_0 : decode c_M_claim 0 = .ok (.aload_n 0, 1) := by decide +kernel
theorem d_M_claim_1 : decode c_M_claim 1 = .ok (.iload_n 1, 1) := by decide +kernel
theorem d_M_claim_2 : decode c_M_claim 2 = .ok (.invokevirtual 154, 3) := by decide +kernel
theorem d_M_claim_5 : decode c_M_claim 5 = .ok (.ifCond .eq 42, 3) := by decide +kernel
theorem d_M_claim_8 : decode c_M_claim 8 = .ok (.iload_n 2, 1) := by decide +kernel
theorem d_M_claim_9 : decode c_M_claim 9 = .ok (.iconst 1, 1) := by decide +kernel
theorem d_M_claim_10 : decode c_M_claim 10 = .ok (.if_icmp .lt 37, 3) := by decide +kernel
theorem d_M_claim_13 : decode c_M_claim 13 = .ok (.aload_n 0, 1) := by decide +kernel
theorem d_M_claim_14 : decode c_M_claim 14 = .ok (.iload_n 3, 1) := by decide +kernel
theorem d_M_claim_15 : decode c_M_claim 15 = .ok (.invokevirtual 171, 3) := by decide +kernel
theorem d_M_claim_18 : decode c_M_claim 18 = .ok (.ifCond .eq 29, 3) := by decide +kernel
theorem d_M_claim_21 : decode c_M_claim 21 = .ok (.aload_n 0, 1) := by decide +kernel
theorem d_M_claim_22 : decode c_M_claim 22 = .ok (.iload_n 3, 1) := by decide +kernel
theorem d_M_claim_23 : decode c_M_claim 23 = .ok (.invokevirtual 174, 3) := by decide +kernel
theorem d_M_claim_26 : decode c_M_claim 26 = .ok (.ifCond .eq 21, 3) := by decide +kernel
theorem d_M_claim_29 : decode c_M_claim 29 = .ok (.aload_n 0, 1) := by decide +kernel
theorem d_M_claim_30 : decode c_M_claim 30 = .ok (.iload 4, 2) := by decide +kernel
theorem d_M_claim_32 : decode c_M_claim 32 = .ok (.invokevirtual 99, 3) := by decide +kernel
theorem d_M_claim_35 : decode c_M_claim 35 = .ok (.ifCond .eq 12, 3) := by decide +kernel
theorem d_M_claim_38 : decode c_M_claim 38 = .ok (.aload_n 0, 1) := by decide +kernel
theorem d_M_claim_39 : decode c_M_claim 39 = .ok (.getfield 107, 3) := by decide +kernel
theorem d_M_claim_42 : decode c_M_claim 42 = .ok (.bipush 40, 2) := by decide +kernel
theorem d_M_claim_44 : decode c_M_claim 44 = .ok (.if_icmp .lt 5, 3) := by decide +kernel
theorem d_M_claim_47 : decode c_M_claim 47 = .ok (.iconst 0, 1) := by decide +kernel
theorem d_M_claim_48 : decode c_M_claim 48 = .ok (.ireturn, 1) := by decide +kernel
theorem d_M_claim_49 : decode c_M_claim 49 = .ok (.aload_n 0, 1) := by decide +kernel
theorem d_M_claim_50 : decode c_M_claim 50 = .ok (.iconst 2, 1) := by decide +kernel
theorem d_M_claim_51 : decode c_M_claim 51 = .ok (.iload_n 1, 1) := by decide +kernel
theorem d_M_claim_52 : decode c_M_claim 52 = .ok (.iload 4, 2) := by decide +kernel
theorem d_M_claim_54 : decode c_M_claim 54 = .ok (.iload_n 3, 1) := by decide +kernel
theorem d_M_claim_55 : decode c_M_claim 55 = .ok (.iload_n 2, 1) := by decide +kernel
theorem d_M_claim_56 : decode c_M_claim 56 = .ok (.invokevirtual 130, 3) := by decide +kernel
theorem d_M_claim_59 : decode c_M_claim 59 = .ok (.iconst 1, 1) := by decide +kernel
theorem d_M_claim_60 : decode c_M_claim 60 = .ok (.ireturn, 1) := by decide +kernel
theorem d_M_waiting_0 : decode c_M_waiting 0 = .ok (.aload_n 0, 1) := by decide +kernel
theorem d_M_waiting_1 : decode c_M_waiting 1 = .ok (.getfield 107, 3) := by decide +kernel
theorem d_M_waiting_4 : decode c_M_waiting 4 = .ok (.ireturn, 1) := by decide +kernel
theorem d_M_message_0 : decode c_M_message 0 = .ok (.iload_n 1, 1) := by decide +kernel
theorem d_M_message_1 : decode c_M_message 1 = .ok (.ifCond .lt 11, 3) := by decide +kernel
theorem d_M_message_4 : decode c_M_message 4 = .ok (.iload_n 1, 1) := by decide +kernel
theorem d_M_message_5 : decode c_M_message 5 = .ok (.aload_n 0, 1) := by decide +kernel
theorem d_M_message_6 : decode c_M_message 6 = .ok (.getfield 107, 3) := by decide +kernel
theorem d_M_message_9 : decode c_M_message 9 = .ok (.if_icmp .lt 7, 3) := by decide +kernel
theorem d_M_message_12 : decode c_M_message 12 = .ok (.iconst (-1), 1) := by decide +kernel
theorem d_M_message_13 : decode c_M_message 13 = .ok (.goto 39, 3) := by decide +kernel
theorem d_M_message_16 : decode c_M_message 16 = .ok (.aload_n 0, 1) := by decide +kernel
theorem d_M_message_17 : decode c_M_message 17 = .ok (.getfield 38, 3) := by decide +kernel
theorem d_M_message_20 : decode c_M_message 20 = .ok (.iload_n 1, 1) := by decide +kernel
theorem d_M_message_21 : decode c_M_message 21 = .ok (.iaload, 1) := by decide +kernel
theorem d_M_message_22 : decode c_M_message 22 = .ok (.iconst 4, 1) := by decide +kernel
theorem d_M_message_23 : decode c_M_message 23 = .ok (.aload_n 0, 1) := by decide +kernel
theorem d_M_message_24 : decode c_M_message 24 = .ok (.getfield 41, 3) := by decide +kernel
theorem d_M_message_27 : decode c_M_message 27 = .ok (.iload_n 1, 1) := by decide +kernel
theorem d_M_message_28 : decode c_M_message 28 = .ok (.iaload, 1) := by decide +kernel
theorem d_M_message_29 : decode c_M_message 29 = .ok (.imul, 1) := by decide +kernel
theorem d_M_message_30 : decode c_M_message 30 = .ok (.iadd, 1) := by decide +kernel
theorem d_M_message_31 : decode c_M_message 31 = .ok (.bipush 32, 2) := by decide +kernel
theorem d_M_message_33 : decode c_M_message 33 = .ok (.aload_n 0, 1) := by decide +kernel
theorem d_M_message_34 : decode c_M_message 34 = .ok (.getfield 44, 3) := by decide +kernel
theorem d_M_message_37 : decode c_M_message 37 = .ok (.iload_n 1, 1) := by decide +kernel
theorem d_M_message_38 : decode c_M_message 38 = .ok (.iaload, 1) := by decide +kernel
theorem d_M_message_39 : decode c_M_message 39 = .ok (.imul, 1) := by decide +kernel
theorem d_M_message_40 : decode c_M_message 40 = .ok (.iadd, 1) := by decide +kernel
theorem d_M_message_41 : decode c_M_message 41 = .ok (.sipush 256, 3) := by decide +kernel
theorem d_M_message_44 : decode c_M_message 44 = .ok (.aload_n 0, 1) := by decide +kernel
theorem d_M_message_45 : decode c_M_message 45 = .ok (.getfield 47, 3) := by decide +kernel
theorem d_M_message_48 : decode c_M_message 48 = .ok (.iload_n 1, 1) := by decide +kernel
theorem d_M_message_49 : decode c_M_message 49 = .ok (.iaload, 1) := by decide +kernel
theorem d_M_message_50 : decode c_M_message 50 = .ok (.imul, 1) := by decide +kernel
theorem d_M_message_51 : decode c_M_message 51 = .ok (.iadd, 1) := by decide +kernel
theorem d_M_message_52 : decode c_M_message 52 = .ok (.ireturn, 1) := by decide +kernel
theorem d_M_block_0 : decode c_M_block 0 = .ok (.aload_n 0, 1) := by decide +kernel
theorem d_M_block_1 : decode c_M_block 1 = .ok (.iload_n 1, 1) := by decide +kernel
theorem d_M_block_2 : decode c_M_block 2 = .ok (.invokevirtual 171, 3) := by decide +kernel
theorem d_M_block_5 : decode c_M_block 5 = .ok (.ifCond .eq 22, 3) := by decide +kernel
theorem d_M_block_8 : decode c_M_block 8 = .ok (.bipush 64, 2) := by decide +kernel
theorem d_M_block_10 : decode c_M_block 10 = .ok (.aload_n 0, 1) := by decide +kernel
theorem d_M_block_11 : decode c_M_block 11 = .ok (.getfield 26, 3) := by decide +kernel
theorem d_M_block_14 : decode c_M_block 14 = .ok (.iload_n 1, 1) := by decide +kernel
theorem d_M_block_15 : decode c_M_block 15 = .ok (.iaload, 1) := by decide +kernel
theorem d_M_block_16 : decode c_M_block 16 = .ok (.imul, 1) := by decide +kernel
theorem d_M_block_17 : decode c_M_block 17 = .ok (.aload_n 0, 1) := by decide +kernel
theorem d_M_block_18 : decode c_M_block 18 = .ok (.getfield 29, 3) := by decide +kernel
theorem d_M_block_21 : decode c_M_block 21 = .ok (.iload_n 1, 1) := by decide +kernel
theorem d_M_block_22 : decode c_M_block 22 = .ok (.iaload, 1) := by decide +kernel
theorem d_M_block_23 : decode c_M_block 23 = .ok (.iadd, 1) := by decide +kernel
theorem d_M_block_24 : decode c_M_block 24 = .ok (.goto 4, 3) := by decide +kernel
theorem d_M_block_27 : decode c_M_block 27 = .ok (.iconst (-1), 1) := by decide +kernel
theorem d_M_block_28 : decode c_M_block 28 = .ok (.ireturn, 1) := by decide +kernel
theorem d_M_payload_0 : decode c_M_payload 0 = .ok (.aload_n 0, 1) := by decide +kernel
theorem d_M_payload_1 : decode c_M_payload 1 = .ok (.iload_n 1, 1) := by decide +kernel
theorem d_M_payload_2 : decode c_M_payload 2 = .ok (.invokevirtual 171, 3) := by decide +kernel
theorem d_M_payload_5 : decode c_M_payload 5 = .ok (.ifCond .eq 12, 3) := by decide +kernel
theorem d_M_payload_8 : decode c_M_payload 8 = .ok (.aload_n 0, 1) := by decide +kernel
theorem d_M_payload_9 : decode c_M_payload 9 = .ok (.getfield 32, 3) := by decide +kernel
theorem d_M_payload_12 : decode c_M_payload 12 = .ok (.iload_n 1, 1) := by decide +kernel
theorem d_M_payload_13 : decode c_M_payload 13 = .ok (.iaload, 1) := by decide +kernel
theorem d_M_payload_14 : decode c_M_payload 14 = .ok (.goto 4, 3) := by decide +kernel
theorem d_M_payload_17 : decode c_M_payload 17 = .ok (.iconst (-1), 1) := by decide +kernel
theorem d_M_payload_18 : decode c_M_payload 18 = .ok (.ireturn, 1) := by decide +kernel
theorem d_M_votes_0 : decode c_M_votes 0 = .ok (.aload_n 0, 1) := by decide +kernel
theorem d_M_votes_1 : decode c_M_votes 1 = .ok (.iload_n 1, 1) := by decide +kernel
theorem d_M_votes_2 : decode c_M_votes 2 = .ok (.invokevirtual 171, 3) := by decide +kernel
theorem d_M_votes_5 : decode c_M_votes 5 = .ok (.ifCond .eq 12, 3) := by decide +kernel
theorem d_M_votes_8 : decode c_M_votes 8 = .ok (.aload_n 0, 1) := by decide +kernel
theorem d_M_votes_9 : decode c_M_votes 9 = .ok (.getfield 35, 3) := by decide +kernel
theorem d_M_votes_12 : decode c_M_votes 12 = .ok (.iload_n 1, 1) := by decide +kernel
theorem d_M_votes_13 : decode c_M_votes 13 = .ok (.iaload, 1) := by decide +kernel
theorem d_M_votes_14 : decode c_M_votes 14 = .ok (.goto 4, 3) := by decide +kernel
theorem d_M_votes_17 : decode c_M_votes 17 = .ok (.iconst (-1), 1) := by decide +kernel
theorem d_M_votes_18 : decode c_M_votes 18 = .ok (.ireturn, 1) := by decide +kernel
theorem d_M_state_0 : decode c_M_state 0 = .ok (.aload_n 0, 1) := by decide +kernel
theorem d_M_state_1 : decode c_M_state 1 = .ok (.iload_n 1, 1) := by decide +kernel
theorem d_M_state_2 : decode c_M_state 2 = .ok (.invokevirtual 140, 3) := by decide +kernel
theorem d_M_state_5 : decode c_M_state 5 = .ok (.ifCond .ne 5, 3) := by decide +kernel
theorem d_M_state_8 : decode c_M_state 8 = .ok (.iconst (-1), 1) := by decide +kernel
theorem d_M_state_9 : decode c_M_state 9 = .ok (.ireturn, 1) := by decide +kernel
theorem d_M_state_10 : decode c_M_state 10 = .ok (.iload_n 2, 1) := by decide +kernel
theorem d_M_state_11 : decode c_M_state 11 = .ok (.tableswitch 108 0 8 #[49, 56, 63, 70, 77, 84, 90, 96, 102], 49) := by decide +kernel
theorem d_M_state_60 : decode c_M_state 60 = .ok (.aload_n 0, 1) := by decide +kernel
theorem d_M_state_61 : decode c_M_state 61 = .ok (.getfield 53, 3) := by decide +kernel
theorem d_M_state_64 : decode c_M_state 64 = .ok (.iload_n 1, 1) := by decide +kernel
theorem d_M_state_65 : decode c_M_state 65 = .ok (.iaload, 1) := by decide +kernel
theorem d_M_state_66 : decode c_M_state 66 = .ok (.ireturn, 1) := by decide +kernel
theorem d_M_state_67 : decode c_M_state 67 = .ok (.aload_n 0, 1) := by decide +kernel
theorem d_M_state_68 : decode c_M_state 68 = .ok (.getfield 56, 3) := by decide +kernel
theorem d_M_state_71 : decode c_M_state 71 = .ok (.iload_n 1, 1) := by decide +kernel
theorem d_M_state_72 : decode c_M_state 72 = .ok (.iaload, 1) := by decide +kernel
theorem d_M_state_73 : decode c_M_state 73 = .ok (.ireturn, 1) := by decide +kernel
theorem d_M_state_74 : decode c_M_state 74 = .ok (.aload_n 0, 1) := by decide +kernel
theorem d_M_state_75 : decode c_M_state 75 = .ok (.getfield 59, 3) := by decide +kernel
theorem d_M_state_78 : decode c_M_state 78 = .ok (.iload_n 1, 1) := by decide +kernel
theorem d_M_state_79 : decode c_M_state 79 = .ok (.iaload, 1) := by decide +kernel
theorem d_M_state_80 : decode c_M_state 80 = .ok (.ireturn, 1) := by decide +kernel
theorem d_M_state_81 : decode c_M_state 81 = .ok (.aload_n 0, 1) := by decide +kernel
theorem d_M_state_82 : decode c_M_state 82 = .ok (.getfield 62, 3) := by decide +kernel
theorem d_M_state_85 : decode c_M_state 85 = .ok (.iload_n 1, 1) := by decide +kernel
theorem d_M_state_86 : decode c_M_state 86 = .ok (.iaload, 1) := by decide +kernel
theorem d_M_state_87 : decode c_M_state 87 = .ok (.ireturn, 1) := by decide +kernel
theorem d_M_state_88 : decode c_M_state 88 = .ok (.aload_n 0, 1) := by decide +kernel
theorem d_M_state_89 : decode c_M_state 89 = .ok (.getfield 65, 3) := by decide +kernel
theorem d_M_state_92 : decode c_M_state 92 = .ok (.iload_n 1, 1) := by decide +kernel
theorem d_M_state_93 : decode c_M_state 93 = .ok (.iaload, 1) := by decide +kernel
theorem d_M_state_94 : decode c_M_state 94 = .ok (.ireturn, 1) := by decide +kernel
theorem d_M_state_95 : decode c_M_state 95 = .ok (.aload_n 0, 1) := by decide +kernel
theorem d_M_state_96 : decode c_M_state 96 = .ok (.iload_n 1, 1) := by decide +kernel
theorem d_M_state_97 : decode c_M_state 97 = .ok (.invokevirtual 143, 3) := by decide +kernel
theorem d_M_state_100 : decode c_M_state 100 = .ok (.ireturn, 1) := by decide +kernel
theorem d_M_state_101 : decode c_M_state 101 = .ok (.aload_n 0, 1) := by decide +kernel
theorem d_M_state_102 : decode c_M_state 102 = .ok (.iload_n 1, 1) := by decide +kernel
theorem d_M_state_103 : decode c_M_state 103 = .ok (.invokevirtual 120, 3) := by decide +kernel
theorem d_M_state_106 : decode c_M_state 106 = .ok (.ireturn, 1) := by decide +kernel
theorem d_M_state_107 : decode c_M_state 107 = .ok (.aload_n 0, 1) := by decide +kernel
theorem d_M_state_108 : decode c_M_state 108 = .ok (.iload_n 1, 1) := by decide +kernel
theorem d_M_state_109 : decode c_M_state 109 = .ok (.invokevirtual 177, 3) := by decide +kernel
theorem d_M_state_112 : decode c_M_state 112 = .ok (.ireturn, 1) := by decide +kernel
theorem d_M_state_113 : decode c_M_state 113 = .ok (.aload_n 0, 1) := by decide +kernel
theorem d_M_state_114 : decode c_M_state 114 = .ok (.iload_n 1, 1) := by decide +kernel
theorem d_M_state_115 : decode c_M_state 115 = .ok (.invokevirtual 134, 3) := by decide +kernel
theorem d_M_state_118 : decode c_M_state 118 = .ok (.ireturn, 1) := by decide +kernel
theorem d_M_state_119 : decode c_M_state 119 = .ok (.iconst (-1), 1) := by decide +kernel
theorem d_M_state_120 : decode c_M_state 120 = .ok (.ireturn, 1) := by decide +kernel
theorem d_M_layOut_0 : decode c_M_layOut 0 = .ok (.iconst 1, 1) := by decide +kernel
theorem d_M_layOut_1 : decode c_M_layOut 1 = .ok (.istore_n 2, 1) := by decide +kernel
theorem d_M_layOut_2 : decode c_M_layOut 2 = .ok (.aload_n 0, 1) := by decide +kernel
theorem d_M_layOut_3 : decode c_M_layOut 3 = .ok (.iload_n 1, 1) := by decide +kernel
theorem d_M_layOut_4 : decode c_M_layOut 4 = .ok (.invokevirtual 177, 3) := by decide +kernel
theorem d_M_layOut_7 : decode c_M_layOut 7 = .ok (.istore_n 3, 1) := by decide +kernel
theorem d_M_layOut_8 : decode c_M_layOut 8 = .ok (.iload_n 3, 1) := by decide +kernel
theorem d_M_layOut_9 : decode c_M_layOut 9 = .ok (.istore 4, 2) := by decide +kernel
theorem d_M_layOut_11 : decode c_M_layOut 11 = .ok (.iconst 0, 1) := by decide +kernel
theorem d_M_layOut_12 : decode c_M_layOut 12 = .ok (.istore 5, 2) := by decide +kernel
theorem d_M_layOut_14 : decode c_M_layOut 14 = .ok (.iload 5, 2) := by decide +kernel
theorem d_M_layOut_16 : decode c_M_layOut 16 = .ok (.bipush 40, 2) := by decide +kernel
theorem d_M_layOut_18 : decode c_M_layOut 18 = .ok (.if_icmp .ge 26, 3) := by decide +kernel
theorem d_M_layOut_21 : decode c_M_layOut 21 = .ok (.iload 4, 2) := by decide +kernel
theorem d_M_layOut_23 : decode c_M_layOut 23 = .ok (.ifCond .eq 21, 3) := by decide +kernel
theorem d_M_layOut_26 : decode c_M_layOut 26 = .ok (.aload_n 0, 1) := by decide +kernel
theorem d_M_layOut_27 : decode c_M_layOut 27 = .ok (.getfield 29, 3) := by decide +kernel
theorem d_M_layOut_30 : decode c_M_layOut 30 = .ok (.iload 4, 2) := by decide +kernel
theorem d_M_layOut_32 : decode c_M_layOut 32 = .ok (.iaload, 1) := by decide +kernel
theorem d_M_layOut_33 : decode c_M_layOut 33 = .ok (.istore 4, 2) := by decide +kernel
theorem d_M_layOut_35 : decode c_M_layOut 35 = .ok (.iinc 2 1, 3) := by decide +kernel
theorem d_M_layOut_38 : decode c_M_layOut 38 = .ok (.iinc 5 1, 3) := by decide +kernel
theorem d_M_layOut_41 : decode c_M_layOut 41 = .ok (.goto (-27), 3) := by decide +kernel
theorem d_M_layOut_44 : decode c_M_layOut 44 = .ok (.iload_n 3, 1) := by decide +kernel
theorem d_M_layOut_45 : decode c_M_layOut 45 = .ok (.istore 4, 2) := by decide +kernel
theorem d_M_layOut_47 : decode c_M_layOut 47 = .ok (.iload_n 2, 1) := by decide +kernel
theorem d_M_layOut_48 : decode c_M_layOut 48 = .ok (.iconst 1, 1) := by decide +kernel
theorem d_M_layOut_49 : decode c_M_layOut 49 = .ok (.isub, 1) := by decide +kernel
theorem d_M_layOut_50 : decode c_M_layOut 50 = .ok (.istore 5, 2) := by decide +kernel
theorem d_M_layOut_52 : decode c_M_layOut 52 = .ok (.iload 5, 2) := by decide +kernel
theorem d_M_layOut_54 : decode c_M_layOut 54 = .ok (.ifCond .lt 27, 3) := by decide +kernel
theorem d_M_layOut_57 : decode c_M_layOut 57 = .ok (.aload_n 0, 1) := by decide +kernel
theorem d_M_layOut_58 : decode c_M_layOut 58 = .ok (.getfield 78, 3) := by decide +kernel
theorem d_M_layOut_61 : decode c_M_layOut 61 = .ok (.iload 5, 2) := by decide +kernel
theorem d_M_layOut_63 : decode c_M_layOut 63 = .ok (.iload 4, 2) := by decide +kernel
theorem d_M_layOut_65 : decode c_M_layOut 65 = .ok (.iastore, 1) := by decide +kernel
theorem d_M_layOut_66 : decode c_M_layOut 66 = .ok (.aload_n 0, 1) := by decide +kernel
theorem d_M_layOut_67 : decode c_M_layOut 67 = .ok (.getfield 29, 3) := by decide +kernel
theorem d_M_layOut_70 : decode c_M_layOut 70 = .ok (.iload 4, 2) := by decide +kernel
theorem d_M_layOut_72 : decode c_M_layOut 72 = .ok (.iaload, 1) := by decide +kernel
theorem d_M_layOut_73 : decode c_M_layOut 73 = .ok (.istore 4, 2) := by decide +kernel
theorem d_M_layOut_75 : decode c_M_layOut 75 = .ok (.iinc 5 (-1), 3) := by decide +kernel
theorem d_M_layOut_78 : decode c_M_layOut 78 = .ok (.goto (-26), 3) := by decide +kernel
theorem d_M_layOut_81 : decode c_M_layOut 81 = .ok (.iload_n 2, 1) := by decide +kernel
theorem d_M_layOut_82 : decode c_M_layOut 82 = .ok (.ireturn, 1) := by decide +kernel
theorem d_M_committed_0 : decode c_M_committed 0 = .ok (.aload_n 0, 1) := by decide +kernel
theorem d_M_committed_1 : decode c_M_committed 1 = .ok (.iload_n 1, 1) := by decide +kernel
theorem d_M_committed_2 : decode c_M_committed 2 = .ok (.invokevirtual 140, 3) := by decide +kernel
theorem d_M_committed_5 : decode c_M_committed 5 = .ok (.ifCond .eq 7, 3) := by decide +kernel
theorem d_M_committed_8 : decode c_M_committed 8 = .ok (.iload_n 2, 1) := by decide +kernel
theorem d_M_committed_9 : decode c_M_committed 9 = .ok (.ifCond .ge 5, 3) := by decide +kernel
theorem d_M_committed_12 : decode c_M_committed 12 = .ok (.iconst (-1), 1) := by decide +kernel
theorem d_M_committed_13 : decode c_M_committed 13 = .ok (.ireturn, 1) := by decide +kernel
theorem d_M_committed_14 : decode c_M_committed 14 = .ok (.aload_n 0, 1) := by decide +kernel
theorem d_M_committed_15 : decode c_M_committed 15 = .ok (.iload_n 1, 1) := by decide +kernel
theorem d_M_committed_16 : decode c_M_committed 16 = .ok (.invokevirtual 180, 3) := by decide +kernel
theorem d_M_committed_19 : decode c_M_committed 19 = .ok (.istore_n 3, 1) := by decide +kernel
theorem d_M_committed_20 : decode c_M_committed 20 = .ok (.iload_n 2, 1) := by decide +kernel
theorem d_M_committed_21 : decode c_M_committed 21 = .ok (.iload_n 3, 1) := by decide +kernel
theorem d_M_committed_22 : decode c_M_committed 22 = .ok (.if_icmp .ge 12, 3) := by decide +kernel
theorem d_M_committed_25 : decode c_M_committed 25 = .ok (.aload_n 0, 1) := by decide +kernel
theorem d_M_committed_26 : decode c_M_committed 26 = .ok (.getfield 78, 3) := by decide +kernel
theorem d_M_committed_29 : decode c_M_committed 29 = .ok (.iload_n 2, 1) := by decide +kernel
theorem d_M_committed_30 : decode c_M_committed 30 = .ok (.iaload, 1) := by decide +kernel
theorem d_M_committed_31 : decode c_M_committed 31 = .ok (.goto 4, 3) := by decide +kernel
theorem d_M_committed_34 : decode c_M_committed 34 = .ok (.iconst (-1), 1) := by decide +kernel
theorem d_M_committed_35 : decode c_M_committed 35 = .ok (.ireturn, 1) := by decide +kernel
theorem d_M_goThrough_0 : decode c_M_goThrough 0 = .ok (.iconst 0, 1) := by decide +kernel
theorem d_M_goThrough_1 : decode c_M_goThrough 1 = .ok (.istore_n 2, 1) := by decide +kernel
theorem d_M_goThrough_2 : decode c_M_goThrough 2 = .ok (.iload_n 2, 1) := by decide +kernel
theorem d_M_goThrough_3 : decode c_M_goThrough 3 = .ok (.iconst 4, 1) := by decide +kernel
theorem d_M_goThrough_4 : decode c_M_goThrough 4 = .ok (.if_icmp .ge 17, 3) := by decide +kernel
theorem d_M_goThrough_7 : decode c_M_goThrough 7 = .ok (.aload_n 0, 1) := by decide +kernel
theorem d_M_goThrough_8 : decode c_M_goThrough 8 = .ok (.getfield 81, 3) := by decide +kernel
theorem d_M_goThrough_11 : decode c_M_goThrough 11 = .ok (.iload_n 2, 1) := by decide +kernel
theorem d_M_goThrough_12 : decode c_M_goThrough 12 = .ok (.bipush 100, 2) := by decide +kernel
theorem d_M_goThrough_14 : decode c_M_goThrough 14 = .ok (.iastore, 1) := by decide +kernel
theorem d_M_goThrough_15 : decode c_M_goThrough 15 = .ok (.iinc 2 1, 3) := by decide +kernel
theorem d_M_goThrough_18 : decode c_M_goThrough 18 = .ok (.goto (-16), 3) := by decide +kernel
theorem d_M_goThrough_21 : decode c_M_goThrough 21 = .ok (.iconst 0, 1) := by decide +kernel
theorem d_M_goThrough_22 : decode c_M_goThrough 22 = .ok (.istore_n 2, 1) := by decide +kernel
theorem d_M_goThrough_23 : decode c_M_goThrough 23 = .ok (.iload_n 2, 1) := by decide +kernel
theorem d_M_goThrough_24 : decode c_M_goThrough 24 = .ok (.bipush 24, 2) := by decide +kernel
theorem d_M_goThrough_26 : decode c_M_goThrough 26 = .ok (.if_icmp .ge 16, 3) := by decide +kernel
theorem d_M_goThrough_29 : decode c_M_goThrough 29 = .ok (.aload_n 0, 1) := by decide +kernel
theorem d_M_goThrough_30 : decode c_M_goThrough 30 = .ok (.getfield 84, 3) := by decide +kernel
theorem d_M_goThrough_33 : decode c_M_goThrough 33 = .ok (.iload_n 2, 1) := by decide +kernel
theorem d_M_goThrough_34 : decode c_M_goThrough 34 = .ok (.iconst 0, 1) := by decide +kernel
theorem d_M_goThrough_35 : decode c_M_goThrough 35 = .ok (.iastore, 1) := by decide +kernel
theorem d_M_goThrough_36 : decode c_M_goThrough 36 = .ok (.iinc 2 1, 3) := by decide +kernel
theorem d_M_goThrough_39 : decode c_M_goThrough 39 = .ok (.goto (-16), 3) := by decide +kernel
theorem d_M_goThrough_42 : decode c_M_goThrough 42 = .ok (.aload_n 0, 1) := by decide +kernel
theorem d_M_goThrough_43 : decode c_M_goThrough 43 = .ok (.iload_n 1, 1) := by decide +kernel
theorem d_M_goThrough_44 : decode c_M_goThrough 44 = .ok (.invokevirtual 180, 3) := by decide +kernel
theorem d_M_goThrough_47 : decode c_M_goThrough 47 = .ok (.istore_n 2, 1) := by decide +kernel
theorem d_M_goThrough_48 : decode c_M_goThrough 48 = .ok (.iconst 0, 1) := by decide +kernel
theorem d_M_goThrough_49 : decode c_M_goThrough 49 = .ok (.istore_n 3, 1) := by decide +kernel
theorem d_M_goThrough_50 : decode c_M_goThrough 50 = .ok (.iload_n 3, 1) := by decide +kernel
theorem d_M_goThrough_51 : decode c_M_goThrough 51 = .ok (.iload_n 2, 1) := by decide +kernel
theorem d_M_goThrough_52 : decode c_M_goThrough 52 = .ok (.if_icmp .ge 148, 3) := by decide +kernel
theorem d_M_goThrough_55 : decode c_M_goThrough 55 = .ok (.iconst 0, 1) := by decide +kernel
theorem d_M_goThrough_56 : decode c_M_goThrough 56 = .ok (.istore 4, 2) := by decide +kernel
theorem d_M_goThrough_58 : decode c_M_goThrough 58 = .ok (.iload 4, 2) := by decide +kernel
theorem d_M_goThrough_60 : decode c_M_goThrough 60 = .ok (.aload_n 0, 1) := by decide +kernel
theorem d_M_goThrough_61 : decode c_M_goThrough 61 = .ok (.getfield 137, 3) := by decide +kernel
theorem d_M_goThrough_64 : decode c_M_goThrough 64 = .ok (.if_icmp .ge 130, 3) := by decide +kernel
theorem d_M_goThrough_67 : decode c_M_goThrough 67 = .ok (.aload_n 0, 1) := by decide +kernel
theorem d_M_goThrough_68 : decode c_M_goThrough 68 = .ok (.getfield 32, 3) := by decide +kernel
theorem d_M_goThrough_71 : decode c_M_goThrough 71 = .ok (.aload_n 0, 1) := by decide +kernel
theorem d_M_goThrough_72 : decode c_M_goThrough 72 = .ok (.getfield 78, 3) := by decide +kernel
theorem d_M_goThrough_75 : decode c_M_goThrough 75 = .ok (.iload_n 3, 1) := by decide +kernel
theorem d_M_goThrough_76 : decode c_M_goThrough 76 = .ok (.iaload, 1) := by decide +kernel
theorem d_M_goThrough_77 : decode c_M_goThrough 77 = .ok (.iaload, 1) := by decide +kernel
theorem d_M_goThrough_78 : decode c_M_goThrough 78 = .ok (.iload 4, 2) := by decide +kernel
theorem d_M_goThrough_80 : decode c_M_goThrough 80 = .ok (.ishr, 1) := by decide +kernel
theorem d_M_goThrough_81 : decode c_M_goThrough 81 = .ok (.iconst 1, 1) := by decide +kernel
theorem d_M_goThrough_82 : decode c_M_goThrough 82 = .ok (.iand, 1) := by decide +kernel
theorem d_M_goThrough_83 : decode c_M_goThrough 83 = .ok (.ifCond .eq 105, 3) := by decide +kernel
theorem d_M_goThrough_86 : decode c_M_goThrough 86 = .ok (.aload_n 0, 1) := by decide +kernel
theorem d_M_goThrough_87 : decode c_M_goThrough 87 = .ok (.getfield 84, 3) := by decide +kernel
theorem d_M_goThrough_90 : decode c_M_goThrough 90 = .ok (.iload 4, 2) := by decide +kernel
theorem d_M_goThrough_92 : decode c_M_goThrough 92 = .ok (.iaload, 1) := by decide +kernel
theorem d_M_goThrough_93 : decode c_M_goThrough 93 = .ok (.ifCond .eq 6, 3) := by decide +kernel
theorem d_M_goThrough_96 : decode c_M_goThrough 96 = .ok (.goto 92, 3) := by decide +kernel
theorem d_M_goThrough_99 : decode c_M_goThrough 99 = .ok (.aload_n 0, 1) := by decide +kernel
theorem d_M_goThrough_100 : decode c_M_goThrough 100 = .ok (.getfield 84, 3) := by decide +kernel
theorem d_M_goThrough_103 : decode c_M_goThrough 103 = .ok (.iload 4, 2) := by decide +kernel
theorem d_M_goThrough_105 : decode c_M_goThrough 105 = .ok (.aload_n 0, 1) := by decide +kernel
theorem d_M_goThrough_106 : decode c_M_goThrough 106 = .ok (.getfield 81, 3) := by decide +kernel
theorem d_M_goThrough_109 : decode c_M_goThrough 109 = .ok (.aload_n 0, 1) := by decide +kernel
theorem d_M_goThrough_110 : decode c_M_goThrough 110 = .ok (.getfield 13, 3) := by decide +kernel
theorem d_M_goThrough_113 : decode c_M_goThrough 113 = .ok (.iload 4, 2) := by decide +kernel
theorem d_M_goThrough_115 : decode c_M_goThrough 115 = .ok (.iaload, 1) := by decide +kernel
theorem d_M_goThrough_116 : decode c_M_goThrough 116 = .ok (.iaload, 1) := by decide +kernel
theorem d_M_goThrough_117 : decode c_M_goThrough 117 = .ok (.aload_n 0, 1) := by decide +kernel
theorem d_M_goThrough_118 : decode c_M_goThrough 118 = .ok (.getfield 19, 3) := by decide +kernel
theorem d_M_goThrough_121 : decode c_M_goThrough 121 = .ok (.iload 4, 2) := by decide +kernel
theorem d_M_goThrough_123 : decode c_M_goThrough 123 = .ok (.iaload, 1) := by decide +kernel
theorem d_M_goThrough_124 : decode c_M_goThrough 124 = .ok (.if_icmp .lt 7, 3) := by decide +kernel
theorem d_M_goThrough_127 : decode c_M_goThrough 127 = .ok (.iconst 1, 1) := by decide +kernel
theorem d_M_goThrough_128 : decode c_M_goThrough 128 = .ok (.goto 4, 3) := by decide +kernel
theorem d_M_goThrough_131 : decode c_M_goThrough 131 = .ok (.iconst 2, 1) := by decide +kernel
theorem d_M_goThrough_132 : decode c_M_goThrough 132 = .ok (.iastore, 1) := by decide +kernel
theorem d_M_goThrough_133 : decode c_M_goThrough 133 = .ok (.aload_n 0, 1) := by decide +kernel
theorem d_M_goThrough_134 : decode c_M_goThrough 134 = .ok (.getfield 84, 3) := by decide +kernel
theorem d_M_goThrough_137 : decode c_M_goThrough 137 = .ok (.iload 4, 2) := by decide +kernel
theorem d_M_goThrough_139 : decode c_M_goThrough 139 = .ok (.iaload, 1) := by decide +kernel
theorem d_M_goThrough_140 : decode c_M_goThrough 140 = .ok (.iconst 1, 1) := by decide +kernel
theorem d_M_goThrough_141 : decode c_M_goThrough 141 = .ok (.if_icmp .ne 47, 3) := by decide +kernel
theorem d_M_goThrough_144 : decode c_M_goThrough 144 = .ok (.aload_n 0, 1) := by decide +kernel
theorem d_M_goThrough_145 : decode c_M_goThrough 145 = .ok (.getfield 81, 3) := by decide +kernel
theorem d_M_goThrough_148 : decode c_M_goThrough 148 = .ok (.aload_n 0, 1) := by decide +kernel
theorem d_M_goThrough_149 : decode c_M_goThrough 149 = .ok (.getfield 13, 3) := by decide +kernel
theorem d_M_goThrough_152 : decode c_M_goThrough 152 = .ok (.iload 4, 2) := by decide +kernel
theorem d_M_goThrough_154 : decode c_M_goThrough 154 = .ok (.iaload, 1) := by decide +kernel
theorem d_M_goThrough_155 : decode c_M_goThrough 155 = .ok (.dup2, 1) := by decide +kernel
theorem d_M_goThrough_156 : decode c_M_goThrough 156 = .ok (.iaload, 1) := by decide +kernel
theorem d_M_goThrough_157 : decode c_M_goThrough 157 = .ok (.aload_n 0, 1) := by decide +kernel
theorem d_M_goThrough_158 : decode c_M_goThrough 158 = .ok (.getfield 19, 3) := by decide +kernel
theorem d_M_goThrough_161 : decode c_M_goThrough 161 = .ok (.iload 4, 2) := by decide +kernel
theorem d_M_goThrough_163 : decode c_M_goThrough 163 = .ok (.iaload, 1) := by decide +kernel
theorem d_M_goThrough_164 : decode c_M_goThrough 164 = .ok (.isub, 1) := by decide +kernel
theorem d_M_goThrough_165 : decode c_M_goThrough 165 = .ok (.iastore, 1) := by decide +kernel
theorem d_M_goThrough_166 : decode c_M_goThrough 166 = .ok (.aload_n 0, 1) := by decide +kernel
theorem d_M_goThrough_167 : decode c_M_goThrough 167 = .ok (.getfield 81, 3) := by decide +kernel
theorem d_M_goThrough_170 : decode c_M_goThrough 170 = .ok (.aload_n 0, 1) := by decide +kernel
theorem d_M_goThrough_171 : decode c_M_goThrough 171 = .ok (.getfield 16, 3) := by decide +kernel
theorem d_M_goThrough_174 : decode c_M_goThrough 174 = .ok (.iload 4, 2) := by decide +kernel
theorem d_M_goThrough_176 : decode c_M_goThrough 176 = .ok (.iaload, 1) := by decide +kernel
theorem d_M_goThrough_177 : decode c_M_goThrough 177 = .ok (.dup2, 1) := by decide +kernel
theorem d_M_goThrough_178 : decode c_M_goThrough 178 = .ok (.iaload, 1) := by decide +kernel
theorem d_M_goThrough_179 : decode c_M_goThrough 179 = .ok (.aload_n 0, 1) := by decide +kernel
theorem d_M_goThrough_180 : decode c_M_goThrough 180 = .ok (.getfield 19, 3) := by decide +kernel
theorem d_M_goThrough_183 : decode c_M_goThrough 183 = .ok (.iload 4, 2) := by decide +kernel
theorem d_M_goThrough_185 : decode c_M_goThrough 185 = .ok (.iaload, 1) := by decide +kernel
theorem d_M_goThrough_186 : decode c_M_goThrough 186 = .ok (.iadd, 1) := by decide +kernel
theorem d_M_goThrough_187 : decode c_M_goThrough 187 = .ok (.iastore, 1) := by decide +kernel
theorem d_M_goThrough_188 : decode c_M_goThrough 188 = .ok (.iinc 4 1, 3) := by decide +kernel
theorem d_M_goThrough_191 : decode c_M_goThrough 191 = .ok (.goto (-133), 3) := by decide +kernel
theorem d_M_goThrough_194 : decode c_M_goThrough 194 = .ok (.iinc 3 1, 3) := by decide +kernel
theorem d_M_goThrough_197 : decode c_M_goThrough 197 = .ok (.goto (-147), 3) := by decide +kernel
theorem d_M_goThrough_200 : decode c_M_goThrough 200 = .ok (.return_, 1) := by decide +kernel
theorem d_M_balance_0 : decode c_M_balance 0 = .ok (.aload_n 0, 1) := by decide +kernel
theorem d_M_balance_1 : decode c_M_balance 1 = .ok (.iload_n 1, 1) := by decide +kernel
theorem d_M_balance_2 : decode c_M_balance 2 = .ok (.invokevirtual 140, 3) := by decide +kernel
theorem d_M_balance_5 : decode c_M_balance 5 = .ok (.ifCond .eq 12, 3) := by decide +kernel
theorem d_M_balance_8 : decode c_M_balance 8 = .ok (.iload_n 2, 1) := by decide +kernel
theorem d_M_balance_9 : decode c_M_balance 9 = .ok (.ifCond .lt 8, 3) := by decide +kernel
theorem d_M_balance_12 : decode c_M_balance 12 = .ok (.iload_n 2, 1) := by decide +kernel
theorem d_M_balance_13 : decode c_M_balance 13 = .ok (.iconst 3, 1) := by decide +kernel
theorem d_M_balance_14 : decode c_M_balance 14 = .ok (.if_icmp .le 5, 3) := by decide +kernel
theorem d_M_balance_17 : decode c_M_balance 17 = .ok (.iconst (-1), 1) := by decide +kernel
theorem d_M_balance_18 : decode c_M_balance 18 = .ok (.ireturn, 1) := by decide +kernel
theorem d_M_balance_19 : decode c_M_balance 19 = .ok (.aload_n 0, 1) := by decide +kernel
theorem d_M_balance_20 : decode c_M_balance 20 = .ok (.iload_n 1, 1) := by decide +kernel
theorem d_M_balance_21 : decode c_M_balance 21 = .ok (.invokevirtual 183, 3) := by decide +kernel
theorem d_M_balance_24 : decode c_M_balance 24 = .ok (.aload_n 0, 1) := by decide +kernel
theorem d_M_balance_25 : decode c_M_balance 25 = .ok (.getfield 81, 3) := by decide +kernel
theorem d_M_balance_28 : decode c_M_balance 28 = .ok (.iload_n 2, 1) := by decide +kernel
theorem d_M_balance_29 : decode c_M_balance 29 = .ok (.iaload, 1) := by decide +kernel
theorem d_M_balance_30 : decode c_M_balance 30 = .ok (.ireturn, 1) := by decide +kernel
theorem d_M_outcome_0 : decode c_M_outcome 0 = .ok (.aload_n 0, 1) := by decide +kernel
theorem d_M_outcome_1 : decode c_M_outcome 1 = .ok (.iload_n 1, 1) := by decide +kernel
theorem d_M_outcome_2 : decode c_M_outcome 2 = .ok (.invokevirtual 140, 3) := by decide +kernel
theorem d_M_outcome_5 : decode c_M_outcome 5 = .ok (.ifCond .eq 15, 3) := by decide +kernel
theorem d_M_outcome_8 : decode c_M_outcome 8 = .ok (.iload_n 2, 1) := by decide +kernel
theorem d_M_outcome_9 : decode c_M_outcome 9 = .ok (.ifCond .lt 11, 3) := by decide +kernel
theorem d_M_outcome_12 : decode c_M_outcome 12 = .ok (.iload_n 2, 1) := by decide +kernel
theorem d_M_outcome_13 : decode c_M_outcome 13 = .ok (.aload_n 0, 1) := by decide +kernel
theorem d_M_outcome_14 : decode c_M_outcome 14 = .ok (.getfield 137, 3) := by decide +kernel
theorem d_M_outcome_17 : decode c_M_outcome 17 = .ok (.if_icmp .lt 5, 3) := by decide +kernel
theorem d_M_outcome_20 : decode c_M_outcome 20 = .ok (.iconst (-1), 1) := by decide +kernel
theorem d_M_outcome_21 : decode c_M_outcome 21 = .ok (.ireturn, 1) := by decide +kernel
theorem d_M_outcome_22 : decode c_M_outcome 22 = .ok (.aload_n 0, 1) := by decide +kernel
theorem d_M_outcome_23 : decode c_M_outcome 23 = .ok (.iload_n 1, 1) := by decide +kernel
theorem d_M_outcome_24 : decode c_M_outcome 24 = .ok (.invokevirtual 183, 3) := by decide +kernel
theorem d_M_outcome_27 : decode c_M_outcome 27 = .ok (.aload_n 0, 1) := by decide +kernel
theorem d_M_outcome_28 : decode c_M_outcome 28 = .ok (.getfield 84, 3) := by decide +kernel
theorem d_M_outcome_31 : decode c_M_outcome 31 = .ok (.iload_n 2, 1) := by decide +kernel
theorem d_M_outcome_32 : decode c_M_outcome 32 = .ok (.iaload, 1) := by decide +kernel
theorem d_M_outcome_33 : decode c_M_outcome 33 = .ok (.ireturn, 1) := by decide +kernel
theorem d_M_lost_0 : decode c_M_lost 0 = .ok (.aload_n 0, 1) := by decide +kernel
theorem d_M_lost_1 : decode c_M_lost 1 = .ok (.getfield 110, 3) := by decide +kernel
theorem d_M_lost_4 : decode c_M_lost 4 = .ok (.ireturn, 1) := by decide +kernel
end
section
theorem gV {own C : String} {index maxL : Nat} {y : MethodName} {b : ByteArray} {ret : Option FieldType} (h1 : Cond.methodLink own index y ∈ Mst) (h2 : Cond.instanceMethod y ∈ Mst) (h3 : Cond.selects C y y ∈ Mst) (h4 : Cond.initialized C ∈ Mst) (h5 : Cond.code y b maxL ret ∈ Mst) : GoodIn Mst (wsV own index C y (Cond.code y b maxL ret :: Mst)) := by
  intro w hw
  have hm : w ∈ Mst := by
    rcases List.mem_append.mp hw with h | h
    · simp only [List.mem_cons, List.not_mem_nil, or_false] at h
      rcases h with rfl | rfl | rfl | rfl
      · exact h1
      · exact h2
      · exact h3
      · exact h4
    · rcases List.mem_cons.mp h with rfl | h
      · exact h5
      · exact h
  exact ⟨hm, mst_good w hm⟩
theorem gS {own : String} {index maxL : Nat} {y : MethodName} {b : ByteArray} {ret : Option FieldType} (h1 : Cond.methodLink own index y ∈ Mst) (h2 : Cond.static y ∈ Mst) (h4 : Cond.initialized own ∈ Mst) (h5 : Cond.code y b maxL ret ∈ Mst) : GoodIn Mst (wsS own index y (Cond.code y b maxL ret :: Mst)) := by
  intro w hw
  have hm : w ∈ Mst := by
    rcases List.mem_append.mp hw with h | h
    · simp only [List.mem_cons, List.not_mem_nil, or_false] at h
      rcases h with rfl | rfl | rfl
      · exact h1
      · exact h2
      · exact h4
    · rcases List.mem_cons.mp h with rfl | h
      · exact h5
      · exact h
  exact ⟨hm, mst_good w hm⟩
theorem gT {own : String} {index maxL : Nat} {y : MethodName} {b : ByteArray} {ret : Option FieldType} (h1 : Cond.methodLink own index y ∈ Mst) (h2 : Cond.static y ∈ Mst) (h4 : Cond.initialized y.cls ∈ Mst) (h5 : Cond.code y b maxL ret ∈ Mst) : GoodIn Mst (va_wsS own index y (Cond.code y b maxL ret :: Mst)) := by
  intro w hw
  have hm : w ∈ Mst := by
    rcases List.mem_append.mp hw with h | h
    · simp only [List.mem_cons, List.not_mem_nil, or_false] at h
      rcases h with rfl | rfl | rfl
      · exact h1
      · exact h2
      · exact h4
    · rcases List.mem_cons.mp h with rfl | h
      · exact h5
      · exact h
  exact ⟨hm, mst_good w hm⟩
theorem cw_M_isReplica {R : Room} {s : State} {args : Array Value} {own : String} {index : Nat} (hts : ∀ w ∈ Mst, w.before args s = true) (hl : Cond.methodLink own index y_M_isReplica ∈ Mst) (hR : 0 + 1 ≤ R.frames ∧ 8 + (2 + 11) + 34 * 0 ≤ R.locals) : CallW R s args own "ThreeChainLedgerModel" index y_M_isReplica c_M_isReplica 2 (some .boolean) (Cond.code y_M_isReplica c_M_isReplica 2 (some .boolean) :: Mst) (rmd 0) 0 0 1 :=
  cwV 1 hts (gV hl w_573 ws_16 w_8 w_574) rfl rfl rfl ⟨rfl, by decide, by decide, by decide +kernel⟩ hR
theorem cw_M_isCorrect {R : Room} {s : State} {args : Array Value} {own : String} {index : Nat} (hts : ∀ w ∈ Mst, w.before args s = true) (hl : Cond.methodLink own index y_M_isCorrect ∈ Mst) (hR : 1 + 1 ≤ R.frames ∧ 8 + (2 + 11) + 34 * 1 ≤ R.locals) : CallW R s args own "ThreeChainLedgerModel" index y_M_isCorrect c_M_isCorrect 2 (some .boolean) (Cond.code y_M_isCorrect c_M_isCorrect 2 (some .boolean) :: Mst) (rmd 1) 0 0 1 :=
  cwV 1 hts (gV hl w_569 ws_15 w_8 w_570) rfl rfl rfl ⟨rfl, by decide, by decide, by decide +kernel⟩ hR
theorem cw_M_isCorrupt {R : Room} {s : State} {args : Array Value} {own : String} {index : Nat} (hts : ∀ w ∈ Mst, w.before args s = true) (hl : Cond.methodLink own index y_M_isCorrupt ∈ Mst) (hR : 1 + 1 ≤ R.frames ∧ 8 + (2 + 11) + 34 * 1 ≤ R.locals) : CallW R s args own "ThreeChainLedgerModel" index y_M_isCorrupt c_M_isCorrupt 2 (some .boolean) (Cond.code y_M_isCorrupt c_M_isCorrupt 2 (some .boolean) :: Mst) (rmd 1) 0 0 1 :=
  cwV 1 hts (gV hl w_613 ws_24 w_8 w_614) rfl rfl rfl ⟨rfl, by decide, by decide, by decide +kernel⟩ hR
theorem cw_M_isBlock {R : Room} {s : State} {args : Array Value} {own : String} {index : Nat} (hts : ∀ w ∈ Mst, w.before args s = true) (hl : Cond.methodLink own index y_M_isBlock ∈ Mst) (hR : 0 + 1 ≤ R.frames ∧ 8 + (2 + 11) + 34 * 0 ≤ R.locals) : CallW R s args own "ThreeChainLedgerModel" index y_M_isBlock c_M_isBlock 2 (some .boolean) (Cond.code y_M_isBlock c_M_isBlock 2 (some .boolean) :: Mst) (rmd 0) 0 0 1 :=
  cwV 1 hts (gV hl w_657 ws_31 w_8 w_658) rfl rfl rfl ⟨rfl, by decide, by decide, by decide +kernel⟩ hR
theorem cw_M_leader {R : Room} {s : State} {args : Array Value} {own : String} {index : Nat} (hts : ∀ w ∈ Mst, w.before args s = true) (hl : Cond.methodLink own index y_M_leader ∈ Mst) (hR : 0 + 1 ≤ R.frames ∧ 8 + (2 + 11) + 34 * 0 ≤ R.locals) : CallW R s args own "ThreeChainLedgerModel" index y_M_leader c_M_leader 2 (some .int) (Cond.code y_M_leader c_M_leader 2 (some .int) :: Mst) (rmd 0) 0 0 1 :=
  cwV 1 hts (gV hl w_577 ws_17 w_8 w_578) rfl rfl rfl ⟨rfl, by decide, by decide, by decide +kernel⟩ hR
theorem cw_M_size {R : Room} {s : State} {args : Array Value} {own : String} {index : Nat} (hts : ∀ w ∈ Mst, w.before args s = true) (hl : Cond.methodLink own index y_M_size ∈ Mst) (hR : 0 + 1 ≤ R.frames ∧ 8 + (3 + 11) + 34 * 0 ≤ R.locals) : CallB R s args own index y_M_size c_M_size 3 (some .int) (Cond.code y_M_size c_M_size 3 (some .int) :: Mst) (rmd 0) 0 0 1 ∧ (Cond.static y_M_size).before args s = true :=
  va_cwS 1 hts (gT hl w_636 w_8 w_637) rfl rfl rfl ⟨by decide, by decide, by decide +kernel⟩ hR
theorem cw_M_certified {R : Room} {s : State} {args : Array Value} {own : String} {index : Nat} (hts : ∀ w ∈ Mst, w.before args s = true) (hl : Cond.methodLink own index y_M_certified ∈ Mst) (hR : 1 + 1 ≤ R.frames ∧ 8 + (2 + 11) + 34 * 1 ≤ R.locals) : CallW R s args own "ThreeChainLedgerModel" index y_M_certified c_M_certified 2 (some .boolean) (Cond.code y_M_certified c_M_certified 2 (some .boolean) :: Mst) (rmd 1) 0 0 1 :=
  cwV 1 hts (gV hl w_661 ws_32 w_8 w_662) rfl rfl rfl ⟨rfl, by decide, by decide, by decide +kernel⟩ hR
theorem cw_M_inChain {R : Room} {s : State} {args : Array Value} {own : String} {index : Nat} (hts : ∀ w ∈ Mst, w.before args s = true) (hl : Cond.methodLink own index y_M_inChain ∈ Mst) (hR : 0 + 1 ≤ R.frames ∧ 8 + (5 + 11) + 34 * 0 ≤ R.locals) : CallW R s args own "ThreeChainLedgerModel" index y_M_inChain c_M_inChain 5 (some .boolean) (Cond.code y_M_inChain c_M_inChain 5 (some .boolean) :: Mst) (rmd 0) 0 0 2 :=
  cwV 2 hts (gV hl w_629 ws_28 w_8 w_630) rfl rfl rfl ⟨rfl, by decide, by decide, by decide +kernel⟩ hR
theorem cw_M_high {R : Room} {s : State} {args : Array Value} {own : String} {index : Nat} (hts : ∀ w ∈ Mst, w.before args s = true) (hl : Cond.methodLink own index y_M_high ∈ Mst) (hR : 0 + 1 ≤ R.frames ∧ 8 + (4 + 11) + 34 * 0 ≤ R.locals) : CallW R s args own "ThreeChainLedgerModel" index y_M_high c_M_high 4 (some .int) (Cond.code y_M_high c_M_high 4 (some .int) :: Mst) (rmd 0) 0 0 1 :=
  cwV 1 hts (gV hl w_581 ws_18 w_8 w_582) rfl rfl rfl ⟨rfl, by decide, by decide, by decide +kernel⟩ hR
theorem cw_M_lock {R : Room} {s : State} {args : Array Value} {own : String} {index : Nat} (hts : ∀ w ∈ Mst, w.before args s = true) (hl : Cond.methodLink own index y_M_lock ∈ Mst) (hR : 0 + 1 ≤ R.frames ∧ 8 + (4 + 11) + 34 * 0 ≤ R.locals) : CallW R s args own "ThreeChainLedgerModel" index y_M_lock c_M_lock 4 (some .int) (Cond.code y_M_lock c_M_lock 4 (some .int) :: Mst) (rmd 0) 0 0 1 :=
  cwV 1 hts (gV hl w_625 ws_27 w_8 w_626) rfl rfl rfl ⟨rfl, by decide, by decide, by decide +kernel⟩ hR
theorem cw_M_tip {R : Room} {s : State} {args : Array Value} {own : String} {index : Nat} (hts : ∀ w ∈ Mst, w.before args s = true) (hl : Cond.methodLink own index y_M_tip ∈ Mst) (hR : 0 + 1 ≤ R.frames ∧ 8 + (7 + 11) + 34 * 0 ≤ R.locals) : CallW R s args own "ThreeChainLedgerModel" index y_M_tip c_M_tip 7 (some .int) (Cond.code y_M_tip c_M_tip 7 (some .int) :: Mst) (rmd 0) 0 0 1 :=
  cwV 1 hts (gV hl w_701 ws_33 w_8 w_702) rfl rfl rfl ⟨rfl, by decide, by decide, by decide +kernel⟩ hR
theorem cw_M_push {R : Room} {s : State} {args : Array Value} {own : String} {index : Nat} (hts : ∀ w ∈ Mst, w.before args s = true) (hl : Cond.methodLink own index y_M_push ∈ Mst) (hR : 0 + 1 ≤ R.frames ∧ 8 + (7 + 11) + 34 * 0 ≤ R.locals) : CallW R s args own "ThreeChainLedgerModel" index y_M_push c_M_push 7 (some .int) (Cond.code y_M_push c_M_push 7 (some .int) :: Mst) (rmd 0) 0 0 1 :=
  cwV 1 hts (gV hl w_585 ws_19 w_8 w_586) rfl rfl rfl ⟨rfl, by decide, by decide, by decide +kernel⟩ hR
theorem cw_M_send {R : Room} {s : State} {args : Array Value} {own : String} {index : Nat} (hts : ∀ w ∈ Mst, w.before args s = true) (hl : Cond.methodLink own index y_M_send ∈ Mst) (hR : 0 + 1 ≤ R.frames ∧ 8 + (6 + 11) + 34 * 0 ≤ R.locals) : CallW R s args own "ThreeChainLedgerModel" index y_M_send c_M_send 6 none (Cond.code y_M_send c_M_send 6 none :: Mst) (rmd 0) 0 0 5 :=
  cwV 5 hts (gV hl w_593 ws_21 w_8 w_594) rfl rfl rfl ⟨rfl, by decide, by decide, by decide +kernel⟩ hR
theorem cw_M_enter {R : Room} {s : State} {args : Array Value} {own : String} {index : Nat} (hts : ∀ w ∈ Mst, w.before args s = true) (hl : Cond.methodLink own index y_M_enter ∈ Mst) (hR : 0 + 1 ≤ R.frames ∧ 8 + (3 + 11) + 34 * 0 ≤ R.locals) : CallW R s args own "ThreeChainLedgerModel" index y_M_enter c_M_enter 3 none (Cond.code y_M_enter c_M_enter 3 none :: Mst) (rmd 0) 0 0 2 :=
  cwV 2 hts (gV hl w_601 ws_22 w_8 w_602) rfl rfl rfl ⟨rfl, by decide, by decide, by decide +kernel⟩ hR
theorem cw_M_see {R : Room} {s : State} {args : Array Value} {own : String} {index : Nat} (hts : ∀ w ∈ Mst, w.before args s = true) (hl : Cond.methodLink own index y_M_see ∈ Mst) (hR : 1 + 1 ≤ R.frames ∧ 8 + (3 + 11) + 34 * 1 ≤ R.locals) : CallW R s args own "ThreeChainLedgerModel" index y_M_see c_M_see 3 none (Cond.code y_M_see c_M_see 3 none :: Mst) (rmd 1) 0 0 2 :=
  cwV 2 hts (gV hl w_621 ws_26 w_8 w_622) rfl rfl rfl ⟨rfl, by decide, by decide, by decide +kernel⟩ hR
theorem cw_M_getProposal {R : Room} {s : State} {args : Array Value} {own : String} {index : Nat} (hts : ∀ w ∈ Mst, w.before args s = true) (hl : Cond.methodLink own index y_M_getProposal ∈ Mst) (hR : 2 + 1 ≤ R.frames ∧ 8 + (7 + 11) + 34 * 2 ≤ R.locals) : CallW R s args own "ThreeChainLedgerModel" index y_M_getProposal c_M_getProposal 7 none (Cond.code y_M_getProposal c_M_getProposal 7 none :: Mst) (rmd 2) 0 0 2 :=
  cwV 2 hts (gV hl w_617 ws_25 w_8 w_618) rfl rfl rfl ⟨rfl, by decide, by decide, by decide +kernel⟩ hR
theorem cw_M_getVote {R : Room} {s : State} {args : Array Value} {own : String} {index : Nat} (hts : ∀ w ∈ Mst, w.before args s = true) (hl : Cond.methodLink own index y_M_getVote ∈ Mst) (hR : 2 + 1 ≤ R.frames ∧ 8 + (4 + 11) + 34 * 2 ≤ R.locals) : CallW R s args own "ThreeChainLedgerModel" index y_M_getVote c_M_getVote 4 none (Cond.code y_M_getVote c_M_getVote 4 none :: Mst) (rmd 2) 0 0 3 :=
  cwV 3 hts (gV hl w_633 ws_29 w_8 w_634) rfl rfl rfl ⟨rfl, by decide, by decide, by decide +kernel⟩ hR
theorem cw_M_getNewView {R : Room} {s : State} {args : Array Value} {own : String} {index : Nat} (hts : ∀ w ∈ Mst, w.before args s = true) (hl : Cond.methodLink own index y_M_getNewView ∈ Mst) (hR : 2 + 1 ≤ R.frames ∧ 8 + (6 + 11) + 34 * 2 ≤ R.locals) : CallW R s args own "ThreeChainLedgerModel" index y_M_getNewView c_M_getNewView 6 none (Cond.code y_M_getNewView c_M_getNewView 6 none :: Mst) (rmd 2) 0 0 4 :=
  cwV 4 hts (gV hl w_640 ws_30 w_8 w_641) rfl rfl rfl ⟨rfl, by decide, by decide, by decide +kernel⟩ hR
theorem cw_M_takeOut {R : Room} {s : State} {args : Array Value} {own : String} {index : Nat} (hts : ∀ w ∈ Mst, w.before args s = true) (hl : Cond.methodLink own index y_M_takeOut ∈ Mst) (hR : 0 + 1 ≤ R.frames ∧ 8 + (3 + 11) + 34 * 0 ≤ R.locals) : CallW R s args own "ThreeChainLedgerModel" index y_M_takeOut c_M_takeOut 3 none (Cond.code y_M_takeOut c_M_takeOut 3 none :: Mst) (rmd 0) 0 0 1 :=
  cwV 1 hts (gV hl w_609 ws_23 w_8 w_610) rfl rfl rfl ⟨rfl, by decide, by decide, by decide +kernel⟩ hR
theorem cw_M_submit {R : Room} {s : State} {args : Array Value} {own : String} {index : Nat} (hts : ∀ w ∈ Mst, w.before args s = true) (hl : Cond.methodLink own index y_M_submit ∈ Mst) (hR : 0 + 1 ≤ R.frames ∧ 8 + (5 + 11) + 34 * 0 ≤ R.locals) : CallW R s args own "ThreeChainLedgerModel" index y_M_submit c_M_submit 5 (some .int) (Cond.code y_M_submit c_M_submit 5 (some .int) :: Mst) (rmd 0) 0 0 4 :=
  cwV 4 hts (gV hl w_560 w_561 w_8 w_562) rfl rfl rfl ⟨rfl, by decide, by decide, by decide +kernel⟩ hR
theorem cw_M_newBlock {R : Room} {s : State} {args : Array Value} {own : String} {index : Nat} (hts : ∀ w ∈ Mst, w.before args s = true) (hl : Cond.methodLink own index y_M_newBlock ∈ Mst) (hR : 0 + 1 ≤ R.frames ∧ 8 + (4 + 11) + 34 * 0 ≤ R.locals) : CallW R s args own "ThreeChainLedgerModel" index y_M_newBlock c_M_newBlock 4 (some .int) (Cond.code y_M_newBlock c_M_newBlock 4 (some .int) :: Mst) (rmd 0) 0 0 3 :=
  cwV 3 hts (gV hl w_589 ws_20 w_8 w_590) rfl rfl rfl ⟨rfl, by decide, by decide, by decide +kernel⟩ hR
theorem cw_M_lead {R : Room} {s : State} {args : Array Value} {own : String} {index : Nat} (hts : ∀ w ∈ Mst, w.before args s = true) (hl : Cond.methodLink own index y_M_lead ∈ Mst) (hR : 2 + 1 ≤ R.frames ∧ 8 + (11 + 11) + 34 * 2 ≤ R.locals) : CallW R s args own "ThreeChainLedgerModel" index y_M_lead c_M_lead 11 (some .int) (Cond.code y_M_lead c_M_lead 11 (some .int) :: Mst) (rmd 2) 0 0 1 :=
  cwV 1 hts (gV hl w_564 w_565 w_8 w_566) rfl rfl rfl ⟨rfl, by decide, by decide, by decide +kernel⟩ hR
theorem cw_M_tick {R : Room} {s : State} {args : Array Value} {own : String} {index : Nat} (hts : ∀ w ∈ Mst, w.before args s = true) (hl : Cond.methodLink own index y_M_tick ∈ Mst) (hR : 2 + 1 ≤ R.frames ∧ 8 + (4 + 11) + 34 * 2 ≤ R.locals) : CallW R s args own "ThreeChainLedgerModel" index y_M_tick c_M_tick 4 (some .int) (Cond.code y_M_tick c_M_tick 4 (some .int) :: Mst) (rmd 2) 0 0 1 :=
  cwV 1 hts (gV hl w_596 w_597 w_8 w_598) rfl rfl rfl ⟨rfl, by decide, by decide, by decide +kernel⟩ hR
theorem cw_M_deliver {R : Room} {s : State} {args : Array Value} {own : String} {index : Nat} (hts : ∀ w ∈ Mst, w.before args s = true) (hl : Cond.methodLink own index y_M_deliver ∈ Mst) (hR : 3 + 1 ≤ R.frames ∧ 8 + (7 + 11) + 34 * 3 ≤ R.locals) : CallW R s args own "ThreeChainLedgerModel" index y_M_deliver c_M_deliver 7 (some .int) (Cond.code y_M_deliver c_M_deliver 7 (some .int) :: Mst) (rmd 3) 0 0 1 :=
  cwV 1 hts (gV hl w_604 w_605 w_8 w_606) rfl rfl rfl ⟨rfl, by decide, by decide, by decide +kernel⟩ hR
theorem cw_M_flow {R : Room} {s : State} {args : Array Value} {own : String} {index : Nat} (hts : ∀ w ∈ Mst, w.before args s = true) (hl : Cond.methodLink own index y_M_flow ∈ Mst) (hR : 4 + 1 ≤ R.frames ∧ 8 + (3 + 11) + 34 * 4 ≤ R.locals) : CallW R s args own "ThreeChainLedgerModel" index y_M_flow c_M_flow 3 (some .int) (Cond.code y_M_flow c_M_flow 3 (some .int) :: Mst) (rmd 4) 0 0 1 :=
  cwV 1 hts (gV hl w_643 w_644 w_8 w_645) rfl rfl rfl ⟨rfl, by decide, by decide, by decide +kernel⟩ hR
theorem cw_M_drop {R : Room} {s : State} {args : Array Value} {own : String} {index : Nat} (hts : ∀ w ∈ Mst, w.before args s = true) (hl : Cond.methodLink own index y_M_drop ∈ Mst) (hR : 1 + 1 ≤ R.frames ∧ 8 + (2 + 11) + 34 * 1 ≤ R.locals) : CallW R s args own "ThreeChainLedgerModel" index y_M_drop c_M_drop 2 (some .boolean) (Cond.code y_M_drop c_M_drop 2 (some .boolean) :: Mst) (rmd 1) 0 0 1 :=
  cwV 1 hts (gV hl w_648 w_649 w_8 w_650) rfl rfl rfl ⟨rfl, by decide, by decide, by decide +kernel⟩ hR
theorem cw_M_forge {R : Room} {s : State} {args : Array Value} {own : String} {index : Nat} (hts : ∀ w ∈ Mst, w.before args s = true) (hl : Cond.methodLink own index y_M_forge ∈ Mst) (hR : 2 + 1 ≤ R.frames ∧ 8 + (5 + 11) + 34 * 2 ≤ R.locals) : CallW R s args own "ThreeChainLedgerModel" index y_M_forge c_M_forge 5 (some .int) (Cond.code y_M_forge c_M_forge 5 (some .int) :: Mst) (rmd 2) 0 0 3 :=
  cwV 3 hts (gV hl w_652 w_653 w_8 w_654) rfl rfl rfl ⟨rfl, by decide, by decide, by decide +kernel⟩ hR
theorem cw_M_offer {R : Room} {s : State} {args : Array Value} {own : String} {index : Nat} (hts : ∀ w ∈ Mst, w.before args s = true) (hl : Cond.methodLink own index y_M_offer ∈ Mst) (hR : 1 + 1 ≤ R.frames ∧ 8 + (3 + 11) + 34 * 1 ≤ R.locals) : CallW R s args own "ThreeChainLedgerModel" index y_M_offer c_M_offer 3 (some .boolean) (Cond.code y_M_offer c_M_offer 3 (some .boolean) :: Mst) (rmd 1) 0 0 2 :=
  cwV 2 hts (gV hl w_664 w_665 w_8 w_666) rfl rfl rfl ⟨rfl, by decide, by decide, by decide +kernel⟩ hR
theorem cw_M_vote {R : Room} {s : State} {args : Array Value} {own : String} {index : Nat} (hts : ∀ w ∈ Mst, w.before args s = true) (hl : Cond.methodLink own index y_M_vote ∈ Mst) (hR : 2 + 1 ≤ R.frames ∧ 8 + (4 + 11) + 34 * 2 ≤ R.locals) : CallW R s args own "ThreeChainLedgerModel" index y_M_vote c_M_vote 4 (some .boolean) (Cond.code y_M_vote c_M_vote 4 (some .boolean) :: Mst) (rmd 2) 0 0 3 :=
  cwV 3 hts (gV hl w_668 w_669 w_8 w_670) rfl rfl rfl ⟨rfl, by decide, by decide, by decide +kernel⟩ hR
theorem cw_M_claim {R : Room} {s : State} {args : Array Value} {own : String} {index : Nat} (hts : ∀ w ∈ Mst, w.before args s = true) (hl : Cond.methodLink own index y_M_claim ∈ Mst) (hR : 2 + 1 ≤ R.frames ∧ 8 + (5 + 11) + 34 * 2 ≤ R.locals) : CallW R s args own "ThreeChainLedgerModel" index y_M_claim c_M_claim 5 (some .boolean) (Cond.code y_M_claim c_M_claim 5 (some .boolean) :: Mst) (rmd 2) 0 0 4 :=
  cwV 4 hts (gV hl w_672 w_673 w_8 w_674) rfl rfl rfl ⟨rfl, by decide, by decide, by decide +kernel⟩ hR
theorem cw_M_waiting {R : Room} {s : State} {args : Array Value} {own : String} {index : Nat} (hts : ∀ w ∈ Mst, w.before args s = true) (hl : Cond.methodLink own index y_M_waiting ∈ Mst) (hR : 0 + 1 ≤ R.frames ∧ 8 + (1 + 11) + 34 * 0 ≤ R.locals) : CallW R s args own "ThreeChainLedgerModel" index y_M_waiting c_M_waiting 1 (some .int) (Cond.code y_M_waiting c_M_waiting 1 (some .int) :: Mst) (rmd 0) 0 0 0 :=
  cwV 0 hts (gV hl w_676 w_677 w_8 w_678) rfl rfl rfl ⟨rfl, by decide, by decide, by decide +kernel⟩ hR
theorem cw_M_message {R : Room} {s : State} {args : Array Value} {own : String} {index : Nat} (hts : ∀ w ∈ Mst, w.before args s = true) (hl : Cond.methodLink own index y_M_message ∈ Mst) (hR : 0 + 1 ≤ R.frames ∧ 8 + (2 + 11) + 34 * 0 ≤ R.locals) : CallW R s args own "ThreeChainLedgerModel" index y_M_message c_M_message 2 (some .int) (Cond.code y_M_message c_M_message 2 (some .int) :: Mst) (rmd 0) 0 0 1 :=
  cwV 1 hts (gV hl w_680 w_681 w_8 w_682) rfl rfl rfl ⟨rfl, by decide, by decide, by decide +kernel⟩ hR
theorem cw_M_block {R : Room} {s : State} {args : Array Value} {own : String} {index : Nat} (hts : ∀ w ∈ Mst, w.before args s = true) (hl : Cond.methodLink own index y_M_block ∈ Mst) (hR : 1 + 1 ≤ R.frames ∧ 8 + (2 + 11) + 34 * 1 ≤ R.locals) : CallW R s args own "ThreeChainLedgerModel" index y_M_block c_M_block 2 (some .int) (Cond.code y_M_block c_M_block 2 (some .int) :: Mst) (rmd 1) 0 0 1 :=
  cwV 1 hts (gV hl w_684 w_685 w_8 w_686) rfl rfl rfl ⟨rfl, by decide, by decide, by decide +kernel⟩ hR
theorem cw_M_payload {R : Room} {s : State} {args : Array Value} {own : String} {index : Nat} (hts : ∀ w ∈ Mst, w.before args s = true) (hl : Cond.methodLink own index y_M_payload ∈ Mst) (hR : 1 + 1 ≤ R.frames ∧ 8 + (2 + 11) + 34 * 1 ≤ R.locals) : CallW R s args own "ThreeChainLedgerModel" index y_M_payload c_M_payload 2 (some .int) (Cond.code y_M_payload c_M_payload 2 (some .int) :: Mst) (rmd 1) 0 0 1 :=
  cwV 1 hts (gV hl w_688 w_689 w_8 w_690) rfl rfl rfl ⟨rfl, by decide, by decide, by decide +kernel⟩ hR
theorem cw_M_votes {R : Room} {s : State} {args : Array Value} {own : String} {index : Nat} (hts : ∀ w ∈ Mst, w.before args s = true) (hl : Cond.methodLink own index y_M_votes ∈ Mst) (hR : 1 + 1 ≤ R.frames ∧ 8 + (2 + 11) + 34 * 1 ≤ R.locals) : CallW R s args own "ThreeChainLedgerModel" index y_M_votes c_M_votes 2 (some .int) (Cond.code y_M_votes c_M_votes 2 (some .int) :: Mst) (rmd 1) 0 0 1 :=
  cwV 1 hts (gV hl w_692 w_693 w_8 w_694) rfl rfl rfl ⟨rfl, by decide, by decide, by decide +kernel⟩ hR
theorem cw_M_state {R : Room} {s : State} {args : Array Value} {own : String} {index : Nat} (hts : ∀ w ∈ Mst, w.before args s = true) (hl : Cond.methodLink own index y_M_state ∈ Mst) (hR : 2 + 1 ≤ R.frames ∧ 8 + (3 + 11) + 34 * 2 ≤ R.locals) : CallW R s args own "ThreeChainLedgerModel" index y_M_state c_M_state 3 (some .int) (Cond.code y_M_state c_M_state 3 (some .int) :: Mst) (rmd 2) 0 0 2 :=
  cwV 2 hts (gV hl w_696 w_697 w_8 w_698) rfl rfl rfl ⟨rfl, by decide, by decide, by decide +kernel⟩ hR
theorem cw_M_layOut {R : Room} {s : State} {args : Array Value} {own : String} {index : Nat} (hts : ∀ w ∈ Mst, w.before args s = true) (hl : Cond.methodLink own index y_M_layOut ∈ Mst) (hR : 1 + 1 ≤ R.frames ∧ 8 + (6 + 11) + 34 * 1 ≤ R.locals) : CallW R s args own "ThreeChainLedgerModel" index y_M_layOut c_M_layOut 6 (some .int) (Cond.code y_M_layOut c_M_layOut 6 (some .int) :: Mst) (rmd 1) 0 0 1 :=
  cwV 1 hts (gV hl w_709 ws_34 w_8 w_710) rfl rfl rfl ⟨rfl, by decide, by decide, by decide +kernel⟩ hR
theorem cw_M_committed {R : Room} {s : State} {args : Array Value} {own : String} {index : Nat} (hts : ∀ w ∈ Mst, w.before args s = true) (hl : Cond.methodLink own index y_M_committed ∈ Mst) (hR : 2 + 1 ≤ R.frames ∧ 8 + (4 + 11) + 34 * 2 ≤ R.locals) : CallW R s args own "ThreeChainLedgerModel" index y_M_committed c_M_committed 4 (some .int) (Cond.code y_M_committed c_M_committed 4 (some .int) :: Mst) (rmd 2) 0 0 2 :=
  cwV 2 hts (gV hl w_704 w_705 w_8 w_706) rfl rfl rfl ⟨rfl, by decide, by decide, by decide +kernel⟩ hR
theorem cw_M_goThrough {R : Room} {s : State} {args : Array Value} {own : String} {index : Nat} (hts : ∀ w ∈ Mst, w.before args s = true) (hl : Cond.methodLink own index y_M_goThrough ∈ Mst) (hR : 2 + 1 ≤ R.frames ∧ 8 + (5 + 11) + 34 * 2 ≤ R.locals) : CallW R s args own "ThreeChainLedgerModel" index y_M_goThrough c_M_goThrough 5 none (Cond.code y_M_goThrough c_M_goThrough 5 none :: Mst) (rmd 2) 0 0 1 :=
  cwV 1 hts (gV hl w_717 ws_35 w_8 w_718) rfl rfl rfl ⟨rfl, by decide, by decide, by decide +kernel⟩ hR
theorem cw_M_balance {R : Room} {s : State} {args : Array Value} {own : String} {index : Nat} (hts : ∀ w ∈ Mst, w.before args s = true) (hl : Cond.methodLink own index y_M_balance ∈ Mst) (hR : 3 + 1 ≤ R.frames ∧ 8 + (3 + 11) + 34 * 3 ≤ R.locals) : CallW R s args own "ThreeChainLedgerModel" index y_M_balance c_M_balance 3 (some .int) (Cond.code y_M_balance c_M_balance 3 (some .int) :: Mst) (rmd 3) 0 0 2 :=
  cwV 2 hts (gV hl w_712 w_713 w_8 w_714) rfl rfl rfl ⟨rfl, by decide, by decide, by decide +kernel⟩ hR
theorem cw_M_outcome {R : Room} {s : State} {args : Array Value} {own : String} {index : Nat} (hts : ∀ w ∈ Mst, w.before args s = true) (hl : Cond.methodLink own index y_M_outcome ∈ Mst) (hR : 3 + 1 ≤ R.frames ∧ 8 + (3 + 11) + 34 * 3 ≤ R.locals) : CallW R s args own "ThreeChainLedgerModel" index y_M_outcome c_M_outcome 3 (some .int) (Cond.code y_M_outcome c_M_outcome 3 (some .int) :: Mst) (rmd 3) 0 0 2 :=
  cwV 2 hts (gV hl w_720 w_721 w_8 w_722) rfl rfl rfl ⟨rfl, by decide, by decide, by decide +kernel⟩ hR
theorem cw_M_lost {R : Room} {s : State} {args : Array Value} {own : String} {index : Nat} (hts : ∀ w ∈ Mst, w.before args s = true) (hl : Cond.methodLink own index y_M_lost ∈ Mst) (hR : 0 + 1 ≤ R.frames ∧ 8 + (1 + 11) + 34 * 0 ≤ R.locals) : CallW R s args own "ThreeChainLedgerModel" index y_M_lost c_M_lost 1 (some .int) (Cond.code y_M_lost c_M_lost 1 (some .int) :: Mst) (rmd 0) 0 0 0 :=
  cwV 0 hts (gV hl w_724 w_725 w_8 w_726) rfl rfl rfl ⟨rfl, by decide, by decide, by decide +kernel⟩ hR
end
section
theorem itr_z {α : Type} (f : Nat → α → α) (z : α) (i : Nat) : itr f 0 z (i + 1) = f i (itr f 0 z i) := by rw [itr_s, Nat.zero_add]
theorem itr_1 {α : Type} (f : Nat → α → α) (z : α) {b : Nat} (h : 1 ≤ b) : itr f 1 z (b + 1 - 1) = f b (itr f 1 z (b - 1)) := itr_b f z h
theorem tnat_t : (true).toNat = 1 := rfl
theorem tnat_f : (false).toNat = 0 := rfl
theorem tnat_0 {b : Bool} (h : b.toNat = 0) : b = false := by cases b <;> simp_all
theorem tnat_1 {b : Bool} (h : ¬ b.toNat = 0) : b = true := by cases b <;> simp_all
theorem tnat_lt (b : Bool) : b.toNat < 2 ^ 31 := by cases b <;> decide
theorem mRep_nI {S : Nat → Nat → Nat} {r : Int32} (hn : S 0 1 < 2 ^ 31) (h : mRep S r = true) : ∃ j, j < S 0 1 ∧ r = nI j := by
  simp only [mRep, Bool.and_eq_true, decide_eq_true_eq] at h
  obtain ⟨h1, h2⟩ := h
  obtain ⟨j, hj, rfl⟩ := nI_of (x := r) (fun q => by have := Int32.lt_iff_toInt_lt.mp q; simp at this; omega)
  rw [nI_toInt hj] at h2
  exact ⟨j, by omega, rfl⟩
theorem mBlock_nI {S : Nat → Nat → Nat} {r : Int32} (hn : S 0 5 < 2 ^ 31) (h : mBlock S r = true) : ∃ j, j < S 0 5 ∧ r = nI j := by
  simp only [mBlock, Bool.and_eq_true, decide_eq_true_eq] at h
  obtain ⟨h1, h2⟩ := h
  obtain ⟨j, hj, rfl⟩ := nI_of (x := r) (fun q => by have := Int32.lt_iff_toInt_lt.mp q; simp at this; omega)
  rw [nI_toInt hj] at h2
  exact ⟨j, by omega, rfl⟩
theorem mRep_f1 {S : Nat → Nat → Nat} {r : Int32} (h : r < 0) : mRep S r = false := by
  have : r.toInt < 0 := by simpa using Int32.lt_iff_toInt_lt.mp h
  simp only [mRep, Bool.and_eq_false_iff, decide_eq_false_iff_not]
  omega
theorem mRep_f2 {S : Nat → Nat → Nat} {r : Int32} (hn : S 0 1 < 2 ^ 31) (h : nI (S 0 1) ≤ r) : mRep S r = false := by
  have h1 : (nI (S 0 1)).toInt ≤ r.toInt := Int32.le_iff_toInt_le.mp h
  rw [nI_toInt hn] at h1
  simp only [mRep, Bool.and_eq_false_iff, decide_eq_false_iff_not]
  omega
theorem mRep_t {S : Nat → Nat → Nat} {r : Int32} (hn : S 0 1 < 2 ^ 31) (h1 : ¬ r < 0) (h2 : ¬ nI (S 0 1) ≤ r) : mRep S r = true := by
  have h3 : ¬ r.toInt < 0 := fun q => h1 (Int32.lt_iff_toInt_lt.mpr (by simpa using q))
  have h4 : ¬ (nI (S 0 1)).toInt ≤ r.toInt := fun q => h2 (Int32.le_iff_toInt_le.mpr q)
  rw [nI_toInt hn] at h4
  simp only [mRep, Bool.and_eq_true, decide_eq_true_eq]
  omega
theorem mBlock_f1 {S : Nat → Nat → Nat} {r : Int32} (h : r < 0) : mBlock S r = false := by
  have : r.toInt < 0 := by simpa using Int32.lt_iff_toInt_lt.mp h
  simp only [mBlock, Bool.and_eq_false_iff, decide_eq_false_iff_not]
  omega
theorem mBlock_f2 {S : Nat → Nat → Nat} {r : Int32} (hn : S 0 5 < 2 ^ 31) (h : nI (S 0 5) ≤ r) : mBlock S r = false := by
  have h1 : (nI (S 0 5)).toInt ≤ r.toInt := Int32.le_iff_toInt_le.mp h
  rw [nI_toInt hn] at h1
  simp only [mBlock, Bool.and_eq_false_iff, decide_eq_false_iff_not]
  omega
theorem mBlock_t {S : Nat → Nat → Nat} {r : Int32} (hn : S 0 5 < 2 ^ 31) (h1 : ¬ r < 0) (h2 : ¬ nI (S 0 5) ≤ r) : mBlock S r = true := by
  have h3 : ¬ r.toInt < 0 := fun q => h1 (Int32.lt_iff_toInt_lt.mpr (by simpa using q))
  have h4 : ¬ (nI (S 0 5)).toInt ≤ r.toInt := fun q => h2 (Int32.le_iff_toInt_le.mpr q)
  rw [nI_toInt hn] at h4
  simp only [mBlock, Bool.and_eq_true, decide_eq_true_eq]
  omega
set_option maxRecDepth 100000 in
set_option maxHeartbeats 4000000 in
theorem k_M_isReplica (l : Launch) {X : WX} (hX : xInj X) {S : Nat → Nat → Nat} {V : Nat} (hI : IW V S) (r : Int32) : MetI l X y_M_isReplica (Cond.code y_M_isReplica c_M_isReplica 2 (some .boolean) :: Mst) 0 [.ref (X.2.2.2 0), .int r] S (nI (mRep S r).toNat) S := by
  refine MetI.of (by decide) (Nat.le_of_ble_eq_true rfl) ?_
  intro p e s m args below meth c cf hr hlk hP hK hN ls hl
  have hl : lv_has ls 2 [(0, .ref (X.2.2.2 0)), (1, .int r)] := hl
  have hx := cf.1
  have hb := cf.2.1
  have hD := xD_of hX
  have hS : va_S (xA X) s.heap s.heap [] := va_S.rf
  have hf := hI.f
  have hn := hI.n
  have hk := hI.k
  have hcs := hI.cs
  have ht := hI.t
  have hbl := hI.b
  have hm := hI.m
  have hV := hI.V
  obtain ⟨H, hH⟩ : ∃ H, H = s.heap := ⟨_, rfl⟩
  obtain ⟨locs, hlo⟩ : ∃ z : List Loc, z = [] := ⟨_, rfl⟩
  suffices hgo : PW X S H → va_S (xA X) s.heap H locs → W p l e (rmd 0) s m args below meth c H locs 0 0 (MQ below (QcI X (nI (mRep S r).toNat) S) args s 0 0 (xA X)) (F0 m 0 ls []) by
    subst hH
    subst hlo
    exact hgo hP hS
  clear hP hS
  intro hP hS
  refine lv_iload_n hx hb d_M_isReplica_0 rfl (lv_at hl 1 rfl) ?_
  refine lv_if_lt (tgt := 16) hx hb d_M_isReplica_1 (by decide) (fun h1 => ?_) (fun h1 => ?_)
  · skip
    have uh1 := i_lt0 h1
    refine lv_iconst (v := nI 0) hx hb d_M_isReplica_16 (by decide) ?_
    exact x_zret cf hr hlk hP hS (by rw [mRep_f1 h1]; rfl) (rfl) d_M_isReplica_17
  · skip
    have uh1 := i_nlt0 h1
    refine lv_iload_n hx hb d_M_isReplica_4 rfl (lv_at hl 1 rfl) ?_
    refine lv_aload_n hx hb d_M_isReplica_5 rfl (lv_at hl 0 rfl) ?_
    refine x_getM (v := .int (nI (S 0 1))) cf hK hP 1 (by decide) w_462 rfl d_M_isReplica_6 ?_
    refine lv_icmp_ge (tgt := 16) hx hb d_M_isReplica_9 (by decide) (fun h2 => ?_) (fun h2 => ?_)
    · skip
      have uh2 := i_geN (by omega) h2
      refine lv_iconst (v := nI 0) hx hb d_M_isReplica_16 (by decide) ?_
      exact x_zret cf hr hlk hP hS (by rw [mRep_f2 (by omega) h2]; rfl) (rfl) d_M_isReplica_17
    · skip
      have uh2 := i_ngeN (by omega) h2
      refine lv_iconst (v := nI 1) hx hb d_M_isReplica_12 (by decide) ?_
      refine lv_goto (tgt := 17) hx hb d_M_isReplica_13 (by decide) ?_
      exact x_zret cf hr hlk hP hS (by rw [mRep_t (by omega) h1 h2]; rfl) (rfl) d_M_isReplica_17
set_option maxRecDepth 100000 in
set_option maxHeartbeats 4000000 in
theorem k_M_isBlock (l : Launch) {X : WX} (hX : xInj X) {S : Nat → Nat → Nat} {V : Nat} (hI : IW V S) (r : Int32) : MetI l X y_M_isBlock (Cond.code y_M_isBlock c_M_isBlock 2 (some .boolean) :: Mst) 0 [.ref (X.2.2.2 0), .int r] S (nI (mBlock S r).toNat) S := by
  refine MetI.of (by decide) (Nat.le_of_ble_eq_true rfl) ?_
  intro p e s m args below meth c cf hr hlk hP hK hN ls hl
  have hl : lv_has ls 2 [(0, .ref (X.2.2.2 0)), (1, .int r)] := hl
  have hx := cf.1
  have hb := cf.2.1
  have hD := xD_of hX
  have hS : va_S (xA X) s.heap s.heap [] := va_S.rf
  have hf := hI.f
  have hn := hI.n
  have hk := hI.k
  have hcs := hI.cs
  have ht := hI.t
  have hbl := hI.b
  have hm := hI.m
  have hV := hI.V
  obtain ⟨H, hH⟩ : ∃ H, H = s.heap := ⟨_, rfl⟩
  obtain ⟨locs, hlo⟩ : ∃ z : List Loc, z = [] := ⟨_, rfl⟩
  suffices hgo : PW X S H → va_S (xA X) s.heap H locs → W p l e (rmd 0) s m args below meth c H locs 0 0 (MQ below (QcI X (nI (mBlock S r).toNat) S) args s 0 0 (xA X)) (F0 m 0 ls []) by
    subst hH
    subst hlo
    exact hgo hP hS
  clear hP hS
  intro hP hS
  refine lv_iload_n hx hb d_M_isBlock_0 rfl (lv_at hl 1 rfl) ?_
  refine lv_if_lt (tgt := 16) hx hb d_M_isBlock_1 (by decide) (fun h1 => ?_) (fun h1 => ?_)
  · skip
    have uh1 := i_lt0 h1
    refine lv_iconst (v := nI 0) hx hb d_M_isBlock_16 (by decide) ?_
    exact x_zret cf hr hlk hP hS (by rw [mBlock_f1 h1]; rfl) (rfl) d_M_isBlock_17
  · skip
    have uh1 := i_nlt0 h1
    refine lv_iload_n hx hb d_M_isBlock_4 rfl (lv_at hl 1 rfl) ?_
    refine lv_aload_n hx hb d_M_isBlock_5 rfl (lv_at hl 0 rfl) ?_
    refine x_getM (v := .int (nI (S 0 5))) cf hK hP 9 (by decide) w_470 rfl d_M_isBlock_6 ?_
    refine lv_icmp_ge (tgt := 16) hx hb d_M_isBlock_9 (by decide) (fun h2 => ?_) (fun h2 => ?_)
    · skip
      have uh2 := i_geN (by omega) h2
      refine lv_iconst (v := nI 0) hx hb d_M_isBlock_16 (by decide) ?_
      exact x_zret cf hr hlk hP hS (by rw [mBlock_f2 (by omega) h2]; rfl) (rfl) d_M_isBlock_17
    · skip
      have uh2 := i_ngeN (by omega) h2
      refine lv_iconst (v := nI 1) hx hb d_M_isBlock_12 (by decide) ?_
      refine lv_goto (tgt := 17) hx hb d_M_isBlock_13 (by decide) ?_
      exact x_zret cf hr hlk hP hS (by rw [mBlock_t (by omega) h1 h2]; rfl) (rfl) d_M_isBlock_17
set_option maxRecDepth 100000 in
set_option maxHeartbeats 4000000 in
theorem k_M_leader (l : Launch) {X : WX} (hX : xInj X) {S : Nat → Nat → Nat} {V : Nat} (hI : IW V S) (v : Nat) (hv : 1 ≤ v ∧ v < 2147483648) : MetI l X y_M_leader (Cond.code y_M_leader c_M_leader 2 (some .int) :: Mst) 0 [.ref (X.2.2.2 0), .int (nI v)] S (nI (mLeader S v)) S := by
  refine MetI.of (by decide) (Nat.le_of_ble_eq_true rfl) ?_
  intro p e s m args below meth c cf hr hlk hP hK hN ls hl
  have hl : lv_has ls 2 [(0, .ref (X.2.2.2 0)), (1, .int (nI v))] := hl
  have hx := cf.1
  have hb := cf.2.1
  have hD := xD_of hX
  have hS : va_S (xA X) s.heap s.heap [] := va_S.rf
  have hf := hI.f
  have hn := hI.n
  have hk := hI.k
  have hcs := hI.cs
  have ht := hI.t
  have hbl := hI.b
  have hm := hI.m
  have hV := hI.V
  obtain ⟨H, hH⟩ : ∃ H, H = s.heap := ⟨_, rfl⟩
  obtain ⟨locs, hlo⟩ : ∃ z : List Loc, z = [] := ⟨_, rfl⟩
  suffices hgo : PW X S H → va_S (xA X) s.heap H locs → W p l e (rmd 0) s m args below meth c H locs 0 0 (MQ below (QcI X (nI (mLeader S v)) S) args s 0 0 (xA X)) (F0 m 0 ls []) by
    subst hH
    subst hlo
    exact hgo hP hS
  clear hP hS
  intro hP hS
  refine lv_iload_n hx hb d_M_leader_0 rfl (lv_at hl 1 rfl) ?_
  refine lv_iconst (v := nI 1) hx hb d_M_leader_1 (by decide) ?_
  refine n_isub hx hb (by omega) d_M_leader_2 ?_
  refine lv_aload_n hx hb d_M_leader_3 rfl (lv_at hl 0 rfl) ?_
  refine x_getM (v := .int (nI (S 0 2))) cf hK hP 2 (by decide) w_463 rfl d_M_leader_4 ?_
  refine n_idiv hx hb (by omega) (by omega) (by omega) d_M_leader_7 ?_
  refine lv_aload_n hx hb d_M_leader_8 rfl (lv_at hl 0 rfl) ?_
  refine x_getM (v := .int (nI (S 0 1))) cf hK hP 1 (by decide) w_462 rfl d_M_leader_9 ?_
  refine n_irem hx hb (by have := Nat.div_le_self (v - 1) (S 0 2); omega) (by omega) (by omega) d_M_leader_12 ?_
  exact x_iret cf hr hlk hP hS (rfl) (rfl) d_M_leader_13
set_option maxRecDepth 100000 in
set_option maxHeartbeats 4000000 in
theorem k_M_size (l : Launch) {X : WX} (hX : xInj X) {S : Nat → Nat → Nat} (a : Nat) (ha : a < 2147483648) : MetI l X y_M_size (Cond.code y_M_size c_M_size 3 (some .int) :: Mst) 0 [.int (nI a)] S (nI (mSize a)) S := by
  refine MetI.of (by decide) (Nat.le_of_ble_eq_true rfl) ?_
  intro p e s m args below meth c cf hr hlk hP hK hN ls hl
  have hl : lv_has ls 3 [(0, .int (nI a))] := hl
  have hx := cf.1
  have hb := cf.2.1
  have hD := xD_of hX
  have hS : va_S (xA X) s.heap s.heap [] := va_S.rf
  obtain ⟨H, hH⟩ : ∃ H, H = s.heap := ⟨_, rfl⟩
  obtain ⟨locs, hlo⟩ : ∃ z : List Loc, z = [] := ⟨_, rfl⟩
  suffices hgo : PW X S H → va_S (xA X) s.heap H locs → W p l e (rmd 0) s m args below meth c H locs 0 0 (MQ below (QcI X (nI (mSize a)) S) args s 0 0 (xA X)) (F0 m 0 ls []) by
    subst hH
    subst hlo
    exact hgo hP hS
  clear hP hS
  intro hP hS
  refine lv_iconst (v := nI 0) hx hb d_M_size_0 (by decide) ?_
  refine lv_istore_n (lv' := [(1, .int (nI 0)), (0, .int (nI a))]) hx hb d_M_size_1 rfl hl (by decide) rfl (fun ls hl => ?_)
  refine lv_iconst (v := nI 0) hx hb d_M_size_2 (by decide) ?_
  refine lv_istore_n (lv' := [(2, .int (nI 0)), (1, .int (nI 0)), (0, .int (nI a))]) hx hb d_M_size_3 rfl hl (by decide) rfl (fun ls hl => ?_)
  have lp4 : ∀ (dm : Nat) (z : Nat) (i : Nat) (ls : Array Slot) (H : Heap) (locs : List Loc), lv_has ls 3 [(0, .int (nI a)), (1, .int (nI z)), (2, .int (nI i))] → PW X S H → va_S (xA X) s.heap H locs → (i ≤ 7) → (z = itr (fun i acc => acc + a / 2 ^ i % 2) 0 0 i) → (7 - i = dm) → W p l e (rmd 0) s m args below meth c H locs 0 0 (MQ below (QcI X (nI (mSize a)) S) args s 0 0 (xA X)) (F0 m 4 ls []) := by
    intro dm
    induction dm using Nat.strongRecOn with | ind dm lp4 => ?_
    intro z i ls H locs hl hP hS hi hz hdm
    refine lv_iload_n hx hb d_M_size_4 rfl (lv_at hl 2 rfl) ?_
    refine lv_bipush (v := nI 7) hx hb d_M_size_5 (by decide) ?_
    refine n_icmp_ge (tgt := 24) hx hb d_M_size_7 (by decide) (by omega) (by decide) (fun h1 => ?_) (fun h1 => ?_)
    · skip
      refine lv_iload_n hx hb d_M_size_24 rfl (lv_at hl 1 rfl) ?_
      exact x_iret cf hr hlk hP hS (by rw [hz, show i = 7 by omega]; rfl) (rfl) d_M_size_25
    · skip
      refine lv_iload_n hx hb d_M_size_10 rfl (lv_at hl 1 rfl) ?_
      refine lv_iload_n hx hb d_M_size_11 rfl (lv_at hl 0 rfl) ?_
      refine lv_iload_n hx hb d_M_size_12 rfl (lv_at hl 2 rfl) ?_
      refine n_ishr hx hb (by omega) (by omega) d_M_size_13 ?_
      refine lv_iconst (v := nI 1) hx hb d_M_size_14 (by decide) ?_
      refine n_and1 hx hb d_M_size_15 ?_
      refine n_iadd hx hb d_M_size_16 ?_
      refine lv_istore_n (lv' := [(1, .int (nI (z + ((a / (2 ^ i)) % 2)))), (0, .int (nI a)), (2, .int (nI i))]) hx hb d_M_size_17 rfl hl (by decide) rfl (fun ls hl => ?_)
      refine n_iinc1 (lv' := [(2, .int (nI (i + 1))), (1, .int (nI (z + ((a / (2 ^ i)) % 2)))), (0, .int (nI a))]) (k := 2) hx hb d_M_size_18 hl rfl (by decide) rfl (fun ls hl => ?_)
      refine lv_goto (tgt := 4) hx hb d_M_size_21 (by decide) ?_
      exact lp4 _ (by omega) (z + ((a / (2 ^ i)) % 2)) (i + 1) ls H locs (lv_sub hl [2, 1, 0] rfl) hP hS (by omega) (by rw [itr_z, ← hz]) rfl
  exact lp4 _ 0 0 ls H locs (lv_sub hl [2, 1, 0] rfl) hP hS (by omega) (rfl) rfl
set_option maxRecDepth 100000 in
set_option maxHeartbeats 4000000 in
theorem k_M_high (l : Launch) {X : WX} (hX : xInj X) {S : Nat → Nat → Nat} {V : Nat} (hI : IW V S) {r : Nat} (hr0 : r < 7) : MetI l X y_M_high (Cond.code y_M_high c_M_high 4 (some .int) :: Mst) 0 [.ref (X.2.2.2 0), .int (nI r)] S (nI (mHigh S r)) S := by
  refine MetI.of (by decide) (Nat.le_of_ble_eq_true rfl) ?_
  intro p e s m args below meth c cf hr hlk hP hK hN ls hl
  have hl : lv_has ls 4 [(0, .ref (X.2.2.2 0)), (1, .int (nI r))] := hl
  have hx := cf.1
  have hb := cf.2.1
  have hD := xD_of hX
  have hS : va_S (xA X) s.heap s.heap [] := va_S.rf
  have hf := hI.f
  have hn := hI.n
  have hk := hI.k
  have hcs := hI.cs
  have ht := hI.t
  have hbl := hI.b
  have hm := hI.m
  have hV := hI.V
  obtain ⟨H, hH⟩ : ∃ H, H = s.heap := ⟨_, rfl⟩
  obtain ⟨locs, hlo⟩ : ∃ z : List Loc, z = [] := ⟨_, rfl⟩
  suffices hgo : PW X S H → va_S (xA X) s.heap H locs → W p l e (rmd 0) s m args below meth c H locs 0 0 (MQ below (QcI X (nI (mHigh S r)) S) args s 0 0 (xA X)) (F0 m 0 ls []) by
    subst hH
    subst hlo
    exact hgo hP hS
  clear hP hS
  intro hP hS
  refine lv_iconst (v := nI 0) hx hb d_M_high_0 (by decide) ?_
  refine lv_istore_n (lv' := [(2, .int (nI 0)), (0, .ref (X.2.2.2 0)), (1, .int (nI r))]) hx hb d_M_high_1 rfl hl (by decide) rfl (fun ls hl => ?_)
  refine lv_iconst (v := nI 1) hx hb d_M_high_2 (by decide) ?_
  refine lv_istore_n (lv' := [(3, .int (nI 1)), (2, .int (nI 0)), (0, .ref (X.2.2.2 0)), (1, .int (nI r))]) hx hb d_M_high_3 rfl hl (by decide) rfl (fun ls hl => ?_)
  have lp4 : ∀ (dm : Nat) (best : Nat) (b : Nat) (ls : Array Slot) (H : Heap) (locs : List Loc), lv_has ls 4 [(0, .ref (X.2.2.2 0)), (1, .int (nI r)), (2, .int (nI best)), (3, .int (nI b))] → PW X S H → va_S (xA X) s.heap H locs → (1 ≤ b ∧ b ≤ S 0 5) → (best < 40) → (best = itr (mHighF S r) 1 0 (b - 1)) → (S 0 5 - b = dm) → W p l e (rmd 0) s m args below meth c H locs 0 0 (MQ below (QcI X (nI (mHigh S r)) S) args s 0 0 (xA X)) (F0 m 4 ls []) := by
    intro dm
    induction dm using Nat.strongRecOn with | ind dm lp4 => ?_
    intro best b ls H locs hl hP hS hb1 hbe hz hdm
    refine lv_iload_n hx hb d_M_high_4 rfl (lv_at hl 3 rfl) ?_
    refine lv_aload_n hx hb d_M_high_5 rfl (lv_at hl 0 rfl) ?_
    refine x_getM (v := .int (nI (S 0 5))) cf hK hP 9 (by decide) w_470 rfl d_M_high_6 ?_
    refine n_icmp_ge (tgt := 49) hx hb d_M_high_9 (by decide) (by omega) (by omega) (fun h1 => ?_) (fun h1 => ?_)
    · skip
      refine lv_iload_n hx hb d_M_high_49 rfl (lv_at hl 2 rfl) ?_
      exact x_iret cf hr hlk hP hS (by rw [hz, show b = S 0 5 by omega]; rfl) (rfl) d_M_high_50
    · skip
      refine lv_aload_n hx hb d_M_high_12 rfl (lv_at hl 0 rfl) ?_
      refine x_getM (v := .ref (X.2.2.2 19)) cf hK hP 26 (by decide) w_487 rfl d_M_high_13 ?_
      refine lv_bipush (v := nI 40) hx hb d_M_high_16 (by decide) ?_
      refine lv_iload_n hx hb d_M_high_18 rfl (lv_at hl 1 rfl) ?_
      refine n_imul hx hb d_M_high_19 ?_
      refine lv_iload_n hx hb d_M_high_20 rfl (lv_at hl 3 rfl) ?_
      refine n_iadd hx hb d_M_high_21 ?_
      refine x_zald (v := (S 19 ((40 * r) + b))) cf hK hP (by omega) rfl d_M_high_22 ?_
      refine n_if_eq (tgt := 43) hx hb d_M_high_23 (by decide) (by have := (show S 19 ((40 * r) + b) ≤ 1 from hI.c 19 ((40 * r) + b)); omega) (fun h2 => ?_) (fun h2 => ?_)
      · skip
        refine n_iinc1 (lv' := [(3, .int (nI (b + 1))), (0, .ref (X.2.2.2 0)), (1, .int (nI r)), (2, .int (nI best))]) (k := 3) hx hb d_M_high_43 hl rfl (by decide) rfl (fun ls hl => ?_)
        refine lv_goto (tgt := 4) hx hb d_M_high_46 (by decide) ?_
        exact lp4 _ (by omega) best (b + 1) ls H locs (lv_sub hl [1, 2, 3, 0] rfl) hP hS (by omega) (by have := (show S 6 b < 40 from hI.c 6 b); have := (show S 6 (S 6 b) < 40 from hI.c 6 (S 6 b)); omega) (by rw [itr_1 _ _ hb1.1, ← hz]; unfold mHighF; first | (rw [if_pos (by simp; omega)]) | (rw [if_neg (by simp; omega)]) | (split <;> first | rfl | omega)) rfl
      · skip
        refine lv_aload_n hx hb d_M_high_26 rfl (lv_at hl 0 rfl) ?_
        refine x_getM (v := .ref (X.2.2.2 5)) cf hK hP 10 (by decide) w_471 rfl d_M_high_27 ?_
        refine lv_iload_n hx hb d_M_high_30 rfl (lv_at hl 3 rfl) ?_
        refine x_iald (v := (S 5 b)) cf hK hP (ia5 X) (by omega) rfl d_M_high_31 ?_
        refine lv_aload_n hx hb d_M_high_32 rfl (lv_at hl 0 rfl) ?_
        refine x_getM (v := .ref (X.2.2.2 5)) cf hK hP 10 (by decide) w_471 rfl d_M_high_33 ?_
        refine lv_iload_n hx hb d_M_high_36 rfl (lv_at hl 2 rfl) ?_
        refine x_iald (v := (S 5 best)) cf hK hP (ia5 X) (by omega) rfl d_M_high_37 ?_
        refine n_icmp_le (tgt := 43) hx hb d_M_high_38 (by decide) (by have := (show S 5 b + 1 ≤ V from hI.c 5 b); omega) (by have := (show S 5 best + 1 ≤ V from hI.c 5 best); omega) (fun h3 => ?_) (fun h3 => ?_)
        · skip
          refine n_iinc1 (lv' := [(3, .int (nI (b + 1))), (0, .ref (X.2.2.2 0)), (1, .int (nI r)), (2, .int (nI best))]) (k := 3) hx hb d_M_high_43 hl rfl (by decide) rfl (fun ls hl => ?_)
          refine lv_goto (tgt := 4) hx hb d_M_high_46 (by decide) ?_
          exact lp4 _ (by omega) best (b + 1) ls H locs (lv_sub hl [1, 2, 3, 0] rfl) hP hS (by omega) (by have := (show S 6 b < 40 from hI.c 6 b); have := (show S 6 (S 6 b) < 40 from hI.c 6 (S 6 b)); omega) (by rw [itr_1 _ _ hb1.1, ← hz]; unfold mHighF; first | (rw [if_pos (by simp; omega)]) | (rw [if_neg (by simp; omega)]) | (split <;> first | rfl | omega)) rfl
        · skip
          refine lv_iload_n hx hb d_M_high_41 rfl (lv_at hl 3 rfl) ?_
          refine lv_istore_n (lv' := [(2, .int (nI b)), (0, .ref (X.2.2.2 0)), (1, .int (nI r)), (3, .int (nI b))]) hx hb d_M_high_42 rfl hl (by decide) rfl (fun ls hl => ?_)
          refine n_iinc1 (lv' := [(3, .int (nI (b + 1))), (2, .int (nI b)), (0, .ref (X.2.2.2 0)), (1, .int (nI r))]) (k := 3) hx hb d_M_high_43 hl rfl (by decide) rfl (fun ls hl => ?_)
          refine lv_goto (tgt := 4) hx hb d_M_high_46 (by decide) ?_
          exact lp4 _ (by omega) b (b + 1) ls H locs (lv_sub hl [2, 3, 1, 0] rfl) hP hS (by omega) (by have := (show S 6 b < 40 from hI.c 6 b); have := (show S 6 (S 6 b) < 40 from hI.c 6 (S 6 b)); omega) (by rw [itr_1 _ _ hb1.1, ← hz]; unfold mHighF; first | (rw [if_pos (by simp; omega)]) | (rw [if_neg (by simp; omega)]) | (split <;> first | rfl | omega)) rfl
  exact lp4 _ 0 1 ls H locs (lv_sub hl [2, 3, 1, 0] rfl) hP hS (by omega) (by omega) (rfl) rfl
set_option maxRecDepth 100000 in
set_option maxHeartbeats 4000000 in
theorem k_M_lock (l : Launch) {X : WX} (hX : xInj X) {S : Nat → Nat → Nat} {V : Nat} (hI : IW V S) {r : Nat} (hr0 : r < 7) : MetI l X y_M_lock (Cond.code y_M_lock c_M_lock 4 (some .int) :: Mst) 0 [.ref (X.2.2.2 0), .int (nI r)] S (nI (mLock S r)) S := by
  refine MetI.of (by decide) (Nat.le_of_ble_eq_true rfl) ?_
  intro p e s m args below meth c cf hr hlk hP hK hN ls hl
  have hl : lv_has ls 4 [(0, .ref (X.2.2.2 0)), (1, .int (nI r))] := hl
  have hx := cf.1
  have hb := cf.2.1
  have hD := xD_of hX
  have hS : va_S (xA X) s.heap s.heap [] := va_S.rf
  have hf := hI.f
  have hn := hI.n
  have hk := hI.k
  have hcs := hI.cs
  have ht := hI.t
  have hbl := hI.b
  have hm := hI.m
  have hV := hI.V
  obtain ⟨H, hH⟩ : ∃ H, H = s.heap := ⟨_, rfl⟩
  obtain ⟨locs, hlo⟩ : ∃ z : List Loc, z = [] := ⟨_, rfl⟩
  suffices hgo : PW X S H → va_S (xA X) s.heap H locs → W p l e (rmd 0) s m args below meth c H locs 0 0 (MQ below (QcI X (nI (mLock S r)) S) args s 0 0 (xA X)) (F0 m 0 ls []) by
    subst hH
    subst hlo
    exact hgo hP hS
  clear hP hS
  intro hP hS
  refine lv_iconst (v := nI 0) hx hb d_M_lock_0 (by decide) ?_
  refine lv_istore_n (lv' := [(2, .int (nI 0)), (0, .ref (X.2.2.2 0)), (1, .int (nI r))]) hx hb d_M_lock_1 rfl hl (by decide) rfl (fun ls hl => ?_)
  refine lv_iconst (v := nI 1) hx hb d_M_lock_2 (by decide) ?_
  refine lv_istore_n (lv' := [(3, .int (nI 1)), (2, .int (nI 0)), (0, .ref (X.2.2.2 0)), (1, .int (nI r))]) hx hb d_M_lock_3 rfl hl (by decide) rfl (fun ls hl => ?_)
  have lp4 : ∀ (dm : Nat) (best : Nat) (b : Nat) (ls : Array Slot) (H : Heap) (locs : List Loc), lv_has ls 4 [(0, .ref (X.2.2.2 0)), (1, .int (nI r)), (2, .int (nI best)), (3, .int (nI b))] → PW X S H → va_S (xA X) s.heap H locs → (1 ≤ b ∧ b ≤ S 0 5) → (best < 40) → (best = itr (mLockF S r) 1 0 (b - 1)) → (S 0 5 - b = dm) → W p l e (rmd 0) s m args below meth c H locs 0 0 (MQ below (QcI X (nI (mLock S r)) S) args s 0 0 (xA X)) (F0 m 4 ls []) := by
    intro dm
    induction dm using Nat.strongRecOn with | ind dm lp4 => ?_
    intro best b ls H locs hl hP hS hb1 hbe hz hdm
    refine lv_iload_n hx hb d_M_lock_4 rfl (lv_at hl 3 rfl) ?_
    refine lv_aload_n hx hb d_M_lock_5 rfl (lv_at hl 0 rfl) ?_
    refine x_getM (v := .int (nI (S 0 5))) cf hK hP 9 (by decide) w_470 rfl d_M_lock_6 ?_
    refine n_icmp_ge (tgt := 59) hx hb d_M_lock_9 (by decide) (by omega) (by omega) (fun h1 => ?_) (fun h1 => ?_)
    · skip
      refine lv_iload_n hx hb d_M_lock_59 rfl (lv_at hl 2 rfl) ?_
      exact x_iret cf hr hlk hP hS (by rw [hz, show b = S 0 5 by omega]; rfl) (rfl) d_M_lock_60
    · skip
      refine lv_aload_n hx hb d_M_lock_12 rfl (lv_at hl 0 rfl) ?_
      refine x_getM (v := .ref (X.2.2.2 19)) cf hK hP 26 (by decide) w_487 rfl d_M_lock_13 ?_
      refine lv_bipush (v := nI 40) hx hb d_M_lock_16 (by decide) ?_
      refine lv_iload_n hx hb d_M_lock_18 rfl (lv_at hl 1 rfl) ?_
      refine n_imul hx hb d_M_lock_19 ?_
      refine lv_iload_n hx hb d_M_lock_20 rfl (lv_at hl 3 rfl) ?_
      refine n_iadd hx hb d_M_lock_21 ?_
      refine x_zald (v := (S 19 ((40 * r) + b))) cf hK hP (by omega) rfl d_M_lock_22 ?_
      refine n_if_eq (tgt := 53) hx hb d_M_lock_23 (by decide) (by have := (show S 19 ((40 * r) + b) ≤ 1 from hI.c 19 ((40 * r) + b)); omega) (fun h2 => ?_) (fun h2 => ?_)
      · skip
        refine n_iinc1 (lv' := [(3, .int (nI (b + 1))), (0, .ref (X.2.2.2 0)), (1, .int (nI r)), (2, .int (nI best))]) (k := 3) hx hb d_M_lock_53 hl rfl (by decide) rfl (fun ls hl => ?_)
        refine lv_goto (tgt := 4) hx hb d_M_lock_56 (by decide) ?_
        exact lp4 _ (by omega) best (b + 1) ls H locs (lv_sub hl [1, 2, 3, 0] rfl) hP hS (by omega) (by have := (show S 6 b < 40 from hI.c 6 b); have := (show S 6 (S 6 b) < 40 from hI.c 6 (S 6 b)); omega) (by rw [itr_1 _ _ hb1.1, ← hz]; unfold mLockF; first | (rw [if_pos (by simp; omega)]) | (rw [if_neg (by simp; omega)]) | (split <;> first | rfl | omega)) rfl
      · skip
        refine lv_aload_n hx hb d_M_lock_26 rfl (lv_at hl 0 rfl) ?_
        refine x_getM (v := .ref (X.2.2.2 5)) cf hK hP 10 (by decide) w_471 rfl d_M_lock_27 ?_
        refine lv_aload_n hx hb d_M_lock_30 rfl (lv_at hl 0 rfl) ?_
        refine x_getM (v := .ref (X.2.2.2 6)) cf hK hP 11 (by decide) w_472 rfl d_M_lock_31 ?_
        refine lv_iload_n hx hb d_M_lock_34 rfl (lv_at hl 3 rfl) ?_
        refine x_iald (v := (S 6 b)) cf hK hP (ia6 X) (by omega) rfl d_M_lock_35 ?_
        refine x_iald (v := (S 5 (S 6 b))) cf hK hP (ia5 X) (by have := (show S 6 b < 40 from hI.c 6 b); omega) rfl d_M_lock_36 ?_
        refine lv_aload_n hx hb d_M_lock_37 rfl (lv_at hl 0 rfl) ?_
        refine x_getM (v := .ref (X.2.2.2 5)) cf hK hP 10 (by decide) w_471 rfl d_M_lock_38 ?_
        refine lv_iload_n hx hb d_M_lock_41 rfl (lv_at hl 2 rfl) ?_
        refine x_iald (v := (S 5 best)) cf hK hP (ia5 X) (by omega) rfl d_M_lock_42 ?_
        refine n_icmp_le (tgt := 53) hx hb d_M_lock_43 (by decide) (by have := (show S 6 b < 40 from hI.c 6 b); have := (show S 5 (S 6 b) + 1 ≤ V from hI.c 5 (S 6 b)); omega) (by have := (show S 5 best + 1 ≤ V from hI.c 5 best); omega) (fun h3 => ?_) (fun h3 => ?_)
        · skip
          refine n_iinc1 (lv' := [(3, .int (nI (b + 1))), (0, .ref (X.2.2.2 0)), (1, .int (nI r)), (2, .int (nI best))]) (k := 3) hx hb d_M_lock_53 hl rfl (by decide) rfl (fun ls hl => ?_)
          refine lv_goto (tgt := 4) hx hb d_M_lock_56 (by decide) ?_
          exact lp4 _ (by omega) best (b + 1) ls H locs (lv_sub hl [1, 2, 3, 0] rfl) hP hS (by omega) (by have := (show S 6 b < 40 from hI.c 6 b); have := (show S 6 (S 6 b) < 40 from hI.c 6 (S 6 b)); omega) (by rw [itr_1 _ _ hb1.1, ← hz]; unfold mLockF; first | (rw [if_pos (by simp; omega)]) | (rw [if_neg (by simp; omega)]) | (split <;> first | rfl | omega)) rfl
        · skip
          refine lv_aload_n hx hb d_M_lock_46 rfl (lv_at hl 0 rfl) ?_
          refine x_getM (v := .ref (X.2.2.2 6)) cf hK hP 11 (by decide) w_472 rfl d_M_lock_47 ?_
          refine lv_iload_n hx hb d_M_lock_50 rfl (lv_at hl 3 rfl) ?_
          refine x_iald (v := (S 6 b)) cf hK hP (ia6 X) (by omega) rfl d_M_lock_51 ?_
          refine lv_istore_n (lv' := [(2, .int (nI (S 6 b))), (0, .ref (X.2.2.2 0)), (1, .int (nI r)), (3, .int (nI b))]) hx hb d_M_lock_52 rfl hl (by decide) rfl (fun ls hl => ?_)
          refine n_iinc1 (lv' := [(3, .int (nI (b + 1))), (2, .int (nI (S 6 b))), (0, .ref (X.2.2.2 0)), (1, .int (nI r))]) (k := 3) hx hb d_M_lock_53 hl rfl (by decide) rfl (fun ls hl => ?_)
          refine lv_goto (tgt := 4) hx hb d_M_lock_56 (by decide) ?_
          exact lp4 _ (by omega) (S 6 b) (b + 1) ls H locs (lv_sub hl [2, 3, 1, 0] rfl) hP hS (by omega) (by have := (show S 6 b < 40 from hI.c 6 b); have := (show S 6 (S 6 b) < 40 from hI.c 6 (S 6 b)); omega) (by rw [itr_1 _ _ hb1.1, ← hz]; unfold mLockF; first | (rw [if_pos (by simp; omega)]) | (rw [if_neg (by simp; omega)]) | (split <;> first | rfl | omega)) rfl
  exact lp4 _ 0 1 ls H locs (lv_sub hl [2, 3, 1, 0] rfl) hP hS (by omega) (by omega) (rfl) rfl
set_option maxRecDepth 100000 in
set_option maxHeartbeats 4000000 in
theorem k_M_tip (l : Launch) {X : WX} (hX : xInj X) {S : Nat → Nat → Nat} {V : Nat} (hI : IW V S) {r : Nat} (hr0 : r < 7) : MetI l X y_M_tip (Cond.code y_M_tip c_M_tip 7 (some .int) :: Mst) 0 [.ref (X.2.2.2 0), .int (nI r)] S (nI (mTip S r)) S := by
  refine MetI.of (by decide) (Nat.le_of_ble_eq_true rfl) ?_
  intro p e s m args below meth c cf hr hlk hP hK hN ls hl
  have hl : lv_has ls 7 [(0, .ref (X.2.2.2 0)), (1, .int (nI r))] := hl
  have hx := cf.1
  have hb := cf.2.1
  have hD := xD_of hX
  have hS : va_S (xA X) s.heap s.heap [] := va_S.rf
  have hf := hI.f
  have hn := hI.n
  have hk := hI.k
  have hcs := hI.cs
  have ht := hI.t
  have hbl := hI.b
  have hm := hI.m
  have hV := hI.V
  obtain ⟨H, hH⟩ : ∃ H, H = s.heap := ⟨_, rfl⟩
  obtain ⟨locs, hlo⟩ : ∃ z : List Loc, z = [] := ⟨_, rfl⟩
  suffices hgo : PW X S H → va_S (xA X) s.heap H locs → W p l e (rmd 0) s m args below meth c H locs 0 0 (MQ below (QcI X (nI (mTip S r)) S) args s 0 0 (xA X)) (F0 m 0 ls []) by
    subst hH
    subst hlo
    exact hgo hP hS
  clear hP hS
  intro hP hS
  refine lv_iconst (v := nI 0) hx hb d_M_tip_0 (by decide) ?_
  refine lv_istore_n (lv' := [(2, .int (nI 0)), (0, .ref (X.2.2.2 0)), (1, .int (nI r))]) hx hb d_M_tip_1 rfl hl (by decide) rfl (fun ls hl => ?_)
  refine lv_iconst (v := nI 1) hx hb d_M_tip_2 (by decide) ?_
  refine lv_istore_n (lv' := [(3, .int (nI 1)), (2, .int (nI 0)), (0, .ref (X.2.2.2 0)), (1, .int (nI r))]) hx hb d_M_tip_3 rfl hl (by decide) rfl (fun ls hl => ?_)
  have lp4 : ∀ (dm : Nat) (best : Nat) (b : Nat) (ls : Array Slot) (H : Heap) (locs : List Loc), lv_has ls 7 [(0, .ref (X.2.2.2 0)), (1, .int (nI r)), (2, .int (nI best)), (3, .int (nI b))] → PW X S H → va_S (xA X) s.heap H locs → (1 ≤ b ∧ b ≤ S 0 5) → (best < 40) → (best = itr (mTipF S r) 1 0 (b - 1)) → (S 0 5 - b = dm) → W p l e (rmd 0) s m args below meth c H locs 0 0 (MQ below (QcI X (nI (mTip S r)) S) args s 0 0 (xA X)) (F0 m 4 ls []) := by
    intro dm
    induction dm using Nat.strongRecOn with | ind dm lp4 => ?_
    intro best b ls H locs hl hP hS hb1 hbe hz hdm
    refine lv_iload_n hx hb d_M_tip_4 rfl (lv_at hl 3 rfl) ?_
    refine lv_aload_n hx hb d_M_tip_5 rfl (lv_at hl 0 rfl) ?_
    refine x_getM (v := .int (nI (S 0 5))) cf hK hP 9 (by decide) w_470 rfl d_M_tip_6 ?_
    refine n_icmp_ge (tgt := 122) hx hb d_M_tip_9 (by decide) (by omega) (by omega) (fun h1 => ?_) (fun h1 => ?_)
    · skip
      refine lv_iload_n hx hb d_M_tip_122 rfl (lv_at hl 2 rfl) ?_
      exact x_iret cf hr hlk hP hS (by rw [hz, show b = S 0 5 by omega]; rfl) (rfl) d_M_tip_123
    · skip
      refine lv_aload_n hx hb d_M_tip_12 rfl (lv_at hl 0 rfl) ?_
      refine x_getM (v := .ref (X.2.2.2 6)) cf hK hP 11 (by decide) w_472 rfl d_M_tip_13 ?_
      refine lv_iload_n hx hb d_M_tip_16 rfl (lv_at hl 3 rfl) ?_
      refine x_iald (v := (S 6 b)) cf hK hP (ia6 X) (by omega) rfl d_M_tip_17 ?_
      refine lv_istore (lv' := [(4, .int (nI (S 6 b))), (0, .ref (X.2.2.2 0)), (1, .int (nI r)), (2, .int (nI best)), (3, .int (nI b))]) hx hb d_M_tip_18 hl (by decide) rfl (fun ls hl => ?_)
      refine lv_aload_n hx hb d_M_tip_20 rfl (lv_at hl 1 rfl) ?_
      refine x_getM (v := .ref (X.2.2.2 6)) cf hK hP 11 (by decide) w_472 rfl d_M_tip_21 ?_
      refine lv_iload hx hb d_M_tip_24 (lv_at hl 0 rfl) ?_
      refine x_iald (v := (S 6 (S 6 b))) cf hK hP (ia6 X) (by have := (show S 6 b < 40 from hI.c 6 b); omega) rfl d_M_tip_26 ?_
      refine lv_istore (lv' := [(5, .int (nI (S 6 (S 6 b)))), (4, .int (nI (S 6 b))), (0, .ref (X.2.2.2 0)), (1, .int (nI r)), (2, .int (nI best)), (3, .int (nI b))]) hx hb d_M_tip_27 hl (by decide) rfl (fun ls hl => ?_)
      refine lv_aload_n hx hb d_M_tip_29 rfl (lv_at hl 2 rfl) ?_
      refine x_getM (v := .ref (X.2.2.2 19)) cf hK hP 26 (by decide) w_487 rfl d_M_tip_30 ?_
      refine lv_bipush (v := nI 40) hx hb d_M_tip_33 (by decide) ?_
      refine lv_iload_n hx hb d_M_tip_35 rfl (lv_at hl 3 rfl) ?_
      refine n_imul hx hb d_M_tip_36 ?_
      refine lv_iload_n hx hb d_M_tip_37 rfl (lv_at hl 5 rfl) ?_
      refine n_iadd hx hb d_M_tip_38 ?_
      refine x_zald (v := (S 19 ((40 * r) + b))) cf hK hP (by omega) rfl d_M_tip_39 ?_
      refine n_if_eq (tgt := 89) hx hb d_M_tip_40 (by decide) (by have := (show S 19 ((40 * r) + b) ≤ 1 from hI.c 19 ((40 * r) + b)); omega) (fun h2 => ?_) (fun h2 => ?_)
      · skip
        refine lv_iconst (v := nI 0) hx hb d_M_tip_89 (by decide) ?_
        refine lv_istore (lv' := [(6, .int (nI 0)), (5, .int (nI (S 6 (S 6 b)))), (4, .int (nI (S 6 b))), (0, .ref (X.2.2.2 0)), (1, .int (nI r)), (2, .int (nI best)), (3, .int (nI b))]) hx hb d_M_tip_90 hl (by decide) rfl (fun ls hl => ?_)
        refine lv_iload hx hb d_M_tip_92 (lv_at hl 0 rfl) ?_
        refine n_if_eq (tgt := 116) hx hb d_M_tip_94 (by decide) (by decide) (fun _ => ?_) (fun h3 => absurd h3 (by decide))
        refine n_iinc1 (lv' := [(3, .int (nI (b + 1))), (6, .int (nI 0)), (5, .int (nI (S 6 (S 6 b)))), (4, .int (nI (S 6 b))), (0, .ref (X.2.2.2 0)), (1, .int (nI r)), (2, .int (nI best))]) (k := 6) hx hb d_M_tip_116 hl rfl (by decide) rfl (fun ls hl => ?_)
        refine lv_goto (tgt := 4) hx hb d_M_tip_119 (by decide) ?_
        exact lp4 _ (by omega) best (b + 1) ls H locs (lv_sub hl [4, 5, 6, 0] rfl) hP hS (by omega) (by have := (show S 6 b < 40 from hI.c 6 b); have := (show S 6 (S 6 b) < 40 from hI.c 6 (S 6 b)); omega) (by rw [itr_1 _ _ hb1.1, ← hz]; unfold mTipF; first | (rw [if_pos (by simp; omega)]) | (rw [if_neg (by simp; omega)]) | (split <;> first | rfl | omega)) rfl
      · skip
        refine lv_iload hx hb d_M_tip_43 (lv_at hl 1 rfl) ?_
        refine n_if_le (tgt := 89) hx hb d_M_tip_45 (by decide) (by have := (show S 6 b < 40 from hI.c 6 b); omega) (fun h4 => ?_) (fun h4 => ?_)
        · skip
          refine lv_iconst (v := nI 0) hx hb d_M_tip_89 (by decide) ?_
          refine lv_istore (lv' := [(6, .int (nI 0)), (5, .int (nI (S 6 (S 6 b)))), (4, .int (nI (S 6 b))), (0, .ref (X.2.2.2 0)), (1, .int (nI r)), (2, .int (nI best)), (3, .int (nI b))]) hx hb d_M_tip_90 hl (by decide) rfl (fun ls hl => ?_)
          refine lv_iload hx hb d_M_tip_92 (lv_at hl 0 rfl) ?_
          refine n_if_eq (tgt := 116) hx hb d_M_tip_94 (by decide) (by decide) (fun _ => ?_) (fun h5 => absurd h5 (by decide))
          refine n_iinc1 (lv' := [(3, .int (nI (b + 1))), (6, .int (nI 0)), (5, .int (nI (S 6 (S 6 b)))), (4, .int (nI (S 6 b))), (0, .ref (X.2.2.2 0)), (1, .int (nI r)), (2, .int (nI best))]) (k := 6) hx hb d_M_tip_116 hl rfl (by decide) rfl (fun ls hl => ?_)
          refine lv_goto (tgt := 4) hx hb d_M_tip_119 (by decide) ?_
          exact lp4 _ (by omega) best (b + 1) ls H locs (lv_sub hl [4, 5, 6, 0] rfl) hP hS (by omega) (by have := (show S 6 b < 40 from hI.c 6 b); have := (show S 6 (S 6 b) < 40 from hI.c 6 (S 6 b)); omega) (by rw [itr_1 _ _ hb1.1, ← hz]; unfold mTipF; first | (rw [if_pos (by simp; omega)]) | (rw [if_neg (by simp; omega)]) | (split <;> first | rfl | omega)) rfl
        · skip
          refine lv_aload_n hx hb d_M_tip_48 rfl (lv_at hl 2 rfl) ?_
          refine x_getM (v := .ref (X.2.2.2 5)) cf hK hP 10 (by decide) w_471 rfl d_M_tip_49 ?_
          refine lv_iload_n hx hb d_M_tip_52 rfl (lv_at hl 5 rfl) ?_
          refine x_iald (v := (S 5 b)) cf hK hP (ia5 X) (by omega) rfl d_M_tip_53 ?_
          refine lv_aload_n hx hb d_M_tip_54 rfl (lv_at hl 2 rfl) ?_
          refine x_getM (v := .ref (X.2.2.2 5)) cf hK hP 10 (by decide) w_471 rfl d_M_tip_55 ?_
          refine lv_iload hx hb d_M_tip_58 (lv_at hl 1 rfl) ?_
          refine x_iald (v := (S 5 (S 6 b))) cf hK hP (ia5 X) (by have := (show S 6 b < 40 from hI.c 6 b); omega) rfl d_M_tip_60 ?_
          refine lv_iconst (v := nI 1) hx hb d_M_tip_61 (by decide) ?_
          refine n_iadd hx hb d_M_tip_62 ?_
          refine n_icmp_ne (tgt := 89) hx hb d_M_tip_63 (by decide) (by have := (show S 5 b + 1 ≤ V from hI.c 5 b); omega) (by have := (show S 6 b < 40 from hI.c 6 b); have := (show S 5 (S 6 b) + 1 ≤ V from hI.c 5 (S 6 b)); omega) (fun h6 => ?_) (fun h6 => ?_)
          · skip
            refine lv_iconst (v := nI 0) hx hb d_M_tip_89 (by decide) ?_
            refine lv_istore (lv' := [(6, .int (nI 0)), (5, .int (nI (S 6 (S 6 b)))), (4, .int (nI (S 6 b))), (0, .ref (X.2.2.2 0)), (1, .int (nI r)), (2, .int (nI best)), (3, .int (nI b))]) hx hb d_M_tip_90 hl (by decide) rfl (fun ls hl => ?_)
            refine lv_iload hx hb d_M_tip_92 (lv_at hl 0 rfl) ?_
            refine n_if_eq (tgt := 116) hx hb d_M_tip_94 (by decide) (by decide) (fun _ => ?_) (fun h7 => absurd h7 (by decide))
            refine n_iinc1 (lv' := [(3, .int (nI (b + 1))), (6, .int (nI 0)), (5, .int (nI (S 6 (S 6 b)))), (4, .int (nI (S 6 b))), (0, .ref (X.2.2.2 0)), (1, .int (nI r)), (2, .int (nI best))]) (k := 6) hx hb d_M_tip_116 hl rfl (by decide) rfl (fun ls hl => ?_)
            refine lv_goto (tgt := 4) hx hb d_M_tip_119 (by decide) ?_
            exact lp4 _ (by omega) best (b + 1) ls H locs (lv_sub hl [4, 5, 6, 0] rfl) hP hS (by omega) (by have := (show S 6 b < 40 from hI.c 6 b); have := (show S 6 (S 6 b) < 40 from hI.c 6 (S 6 b)); omega) (by rw [itr_1 _ _ hb1.1, ← hz]; unfold mTipF; first | (rw [if_pos (by simp; omega)]) | (rw [if_neg (by simp; omega)]) | (split <;> first | rfl | omega)) rfl
          · skip
            refine lv_aload_n hx hb d_M_tip_66 rfl (lv_at hl 2 rfl) ?_
            refine x_getM (v := .ref (X.2.2.2 5)) cf hK hP 10 (by decide) w_471 rfl d_M_tip_67 ?_
            refine lv_iload hx hb d_M_tip_70 (lv_at hl 1 rfl) ?_
            refine x_iald (v := (S 5 (S 6 b))) cf hK hP (ia5 X) (by have := (show S 6 b < 40 from hI.c 6 b); omega) rfl d_M_tip_72 ?_
            refine lv_aload_n hx hb d_M_tip_73 rfl (lv_at hl 2 rfl) ?_
            refine x_getM (v := .ref (X.2.2.2 5)) cf hK hP 10 (by decide) w_471 rfl d_M_tip_74 ?_
            refine lv_iload hx hb d_M_tip_77 (lv_at hl 0 rfl) ?_
            refine x_iald (v := (S 5 (S 6 (S 6 b)))) cf hK hP (ia5 X) (by have := (show S 6 b < 40 from hI.c 6 b); have := (show S 6 (S 6 b) < 40 from hI.c 6 (S 6 b)); omega) rfl d_M_tip_79 ?_
            refine lv_iconst (v := nI 1) hx hb d_M_tip_80 (by decide) ?_
            refine n_iadd hx hb d_M_tip_81 ?_
            refine n_icmp_ne (tgt := 89) hx hb d_M_tip_82 (by decide) (by have := (show S 6 b < 40 from hI.c 6 b); have := (show S 5 (S 6 b) + 1 ≤ V from hI.c 5 (S 6 b)); omega) (by have := (show S 6 b < 40 from hI.c 6 b); have := (show S 6 (S 6 b) < 40 from hI.c 6 (S 6 b)); have := (show S 5 (S 6 (S 6 b)) + 1 ≤ V from hI.c 5 (S 6 (S 6 b))); omega) (fun h8 => ?_) (fun h8 => ?_)
            · skip
              refine lv_iconst (v := nI 0) hx hb d_M_tip_89 (by decide) ?_
              refine lv_istore (lv' := [(6, .int (nI 0)), (5, .int (nI (S 6 (S 6 b)))), (4, .int (nI (S 6 b))), (0, .ref (X.2.2.2 0)), (1, .int (nI r)), (2, .int (nI best)), (3, .int (nI b))]) hx hb d_M_tip_90 hl (by decide) rfl (fun ls hl => ?_)
              refine lv_iload hx hb d_M_tip_92 (lv_at hl 0 rfl) ?_
              refine n_if_eq (tgt := 116) hx hb d_M_tip_94 (by decide) (by decide) (fun _ => ?_) (fun h9 => absurd h9 (by decide))
              refine n_iinc1 (lv' := [(3, .int (nI (b + 1))), (6, .int (nI 0)), (5, .int (nI (S 6 (S 6 b)))), (4, .int (nI (S 6 b))), (0, .ref (X.2.2.2 0)), (1, .int (nI r)), (2, .int (nI best))]) (k := 6) hx hb d_M_tip_116 hl rfl (by decide) rfl (fun ls hl => ?_)
              refine lv_goto (tgt := 4) hx hb d_M_tip_119 (by decide) ?_
              exact lp4 _ (by omega) best (b + 1) ls H locs (lv_sub hl [4, 5, 6, 0] rfl) hP hS (by omega) (by have := (show S 6 b < 40 from hI.c 6 b); have := (show S 6 (S 6 b) < 40 from hI.c 6 (S 6 b)); omega) (by rw [itr_1 _ _ hb1.1, ← hz]; unfold mTipF; first | (rw [if_pos (by simp; omega)]) | (rw [if_neg (by simp; omega)]) | (split <;> first | rfl | omega)) rfl
            · skip
              refine lv_iconst (v := nI 1) hx hb d_M_tip_85 (by decide) ?_
              refine lv_goto (tgt := 90) hx hb d_M_tip_86 (by decide) ?_
              refine lv_istore (lv' := [(6, .int (nI 1)), (5, .int (nI (S 6 (S 6 b)))), (4, .int (nI (S 6 b))), (0, .ref (X.2.2.2 0)), (1, .int (nI r)), (2, .int (nI best)), (3, .int (nI b))]) hx hb d_M_tip_90 hl (by decide) rfl (fun ls hl => ?_)
              refine lv_iload hx hb d_M_tip_92 (lv_at hl 0 rfl) ?_
              refine n_if_eq (tgt := 116) hx hb d_M_tip_94 (by decide) (by decide) (fun h10 => absurd h10 (by decide)) (fun _ => ?_)
              refine lv_aload_n hx hb d_M_tip_97 rfl (lv_at hl 3 rfl) ?_
              refine x_getM (v := .ref (X.2.2.2 5)) cf hK hP 10 (by decide) w_471 rfl d_M_tip_98 ?_
              refine lv_iload hx hb d_M_tip_101 (lv_at hl 1 rfl) ?_
              refine x_iald (v := (S 5 (S 6 (S 6 b)))) cf hK hP (ia5 X) (by have := (show S 6 b < 40 from hI.c 6 b); have := (show S 6 (S 6 b) < 40 from hI.c 6 (S 6 b)); omega) rfl d_M_tip_103 ?_
              refine lv_aload_n hx hb d_M_tip_104 rfl (lv_at hl 3 rfl) ?_
              refine x_getM (v := .ref (X.2.2.2 5)) cf hK hP 10 (by decide) w_471 rfl d_M_tip_105 ?_
              refine lv_iload_n hx hb d_M_tip_108 rfl (lv_at hl 5 rfl) ?_
              refine x_iald (v := (S 5 best)) cf hK hP (ia5 X) (by omega) rfl d_M_tip_109 ?_
              refine n_icmp_le (tgt := 116) hx hb d_M_tip_110 (by decide) (by have := (show S 6 b < 40 from hI.c 6 b); have := (show S 6 (S 6 b) < 40 from hI.c 6 (S 6 b)); have := (show S 5 (S 6 (S 6 b)) + 1 ≤ V from hI.c 5 (S 6 (S 6 b))); omega) (by have := (show S 5 best + 1 ≤ V from hI.c 5 best); omega) (fun h11 => ?_) (fun h11 => ?_)
              · skip
                refine n_iinc1 (lv' := [(3, .int (nI (b + 1))), (6, .int (nI 1)), (5, .int (nI (S 6 (S 6 b)))), (4, .int (nI (S 6 b))), (0, .ref (X.2.2.2 0)), (1, .int (nI r)), (2, .int (nI best))]) (k := 6) hx hb d_M_tip_116 hl rfl (by decide) rfl (fun ls hl => ?_)
                refine lv_goto (tgt := 4) hx hb d_M_tip_119 (by decide) ?_
                exact lp4 _ (by omega) best (b + 1) ls H locs (lv_sub hl [4, 5, 6, 0] rfl) hP hS (by omega) (by have := (show S 6 b < 40 from hI.c 6 b); have := (show S 6 (S 6 b) < 40 from hI.c 6 (S 6 b)); omega) (by rw [itr_1 _ _ hb1.1, ← hz]; unfold mTipF; first | (rw [if_pos (by simp; omega)]) | (rw [if_neg (by simp; omega)]) | (split <;> first | rfl | omega)) rfl
              · skip
                refine lv_iload hx hb d_M_tip_113 (lv_at hl 1 rfl) ?_
                refine lv_istore_n (lv' := [(2, .int (nI (S 6 (S 6 b)))), (6, .int (nI 1)), (5, .int (nI (S 6 (S 6 b)))), (4, .int (nI (S 6 b))), (0, .ref (X.2.2.2 0)), (1, .int (nI r)), (3, .int (nI b))]) hx hb d_M_tip_115 rfl hl (by decide) rfl (fun ls hl => ?_)
                refine n_iinc1 (lv' := [(3, .int (nI (b + 1))), (2, .int (nI (S 6 (S 6 b)))), (6, .int (nI 1)), (5, .int (nI (S 6 (S 6 b)))), (4, .int (nI (S 6 b))), (0, .ref (X.2.2.2 0)), (1, .int (nI r))]) (k := 6) hx hb d_M_tip_116 hl rfl (by decide) rfl (fun ls hl => ?_)
                refine lv_goto (tgt := 4) hx hb d_M_tip_119 (by decide) ?_
                exact lp4 _ (by omega) (S 6 (S 6 b)) (b + 1) ls H locs (lv_sub hl [5, 6, 1, 0] rfl) hP hS (by omega) (by have := (show S 6 b < 40 from hI.c 6 b); have := (show S 6 (S 6 b) < 40 from hI.c 6 (S 6 b)); omega) (by rw [itr_1 _ _ hb1.1, ← hz]; unfold mTipF; first | (rw [if_pos (by simp; omega)]) | (rw [if_neg (by simp; omega)]) | (split <;> first | rfl | omega)) rfl
  exact lp4 _ 0 1 ls H locs (lv_sub hl [2, 3, 1, 0] rfl) hP hS (by omega) (by omega) (rfl) rfl
set_option maxRecDepth 100000 in
set_option maxHeartbeats 4000000 in
theorem k_M_enter (l : Launch) {X : WX} (hX : xInj X) {S : Nat → Nat → Nat} {V : Nat} (hI : IW V S) {r : Nat} (hr0 : r < 7) {v : Nat} : MetV l X y_M_enter (Cond.code y_M_enter c_M_enter 3 none :: Mst) 0 [.ref (X.2.2.2 0), .int (nI r), .int (nI v)] S (mEnter S r v) := by
  refine MetV.of (by decide) (Nat.le_of_ble_eq_true rfl) ?_
  intro p e s m args below meth c cf hr hlk hP hK hN ls hl
  have hl : lv_has ls 3 [(0, .ref (X.2.2.2 0)), (1, .int (nI r)), (2, .int (nI v))] := hl
  have hx := cf.1
  have hb := cf.2.1
  have hD := xD_of hX
  have hS : va_S (xA X) s.heap s.heap [] := va_S.rf
  have hf := hI.f
  have hn := hI.n
  have hk := hI.k
  have hcs := hI.cs
  have ht := hI.t
  have hbl := hI.b
  have hm := hI.m
  have hV := hI.V
  obtain ⟨H, hH⟩ : ∃ H, H = s.heap := ⟨_, rfl⟩
  obtain ⟨locs, hlo⟩ : ∃ z : List Loc, z = [] := ⟨_, rfl⟩
  suffices hgo : PW X S H → va_S (xA X) s.heap H locs → W p l e (rmd 0) s m args below meth c H locs 0 0 (MQ below (QcV X (mEnter S r v)) args s 0 0 (xA X)) (F0 m 0 ls []) by
    subst hH
    subst hlo
    exact hgo hP hS
  clear hP hS
  intro hP hS
  refine lv_aload_n hx hb d_M_enter_0 rfl (lv_at hl 0 rfl) ?_
  refine x_getM (v := .ref (X.2.2.2 14)) cf hK hP 21 (by decide) w_482 rfl d_M_enter_1 ?_
  refine lv_iload_n hx hb d_M_enter_4 rfl (lv_at hl 1 rfl) ?_
  refine lv_iload_n hx hb d_M_enter_5 rfl (lv_at hl 2 rfl) ?_
  refine x_iast cf hK hD hP hS (ia14 X) (by omega) d_M_enter_6 (fun H locs hP hS => ?_)
  refine lv_aload_n hx hb d_M_enter_7 rfl (lv_at hl 0 rfl) ?_
  refine x_getM (v := .ref (X.2.2.2 15)) cf hK hP 22 (by decide) w_483 rfl d_M_enter_8 ?_
  refine lv_iload_n hx hb d_M_enter_11 rfl (lv_at hl 1 rfl) ?_
  refine lv_iconst (v := nI 0) hx hb d_M_enter_12 (by decide) ?_
  refine x_iast cf hK hD hP hS (ia15 X) (by omega) d_M_enter_13 (fun H locs hP hS => ?_)
  exact x_vret cf hr hlk hP hS (rfl) d_M_enter_14
set_option maxRecDepth 100000 in
set_option maxHeartbeats 4000000 in
theorem k_M_send (l : Launch) {X : WX} (hX : xInj X) {S : Nat → Nat → Nat} {V : Nat} (hI : IW V S) (a0 a1 a2 a3 a4 : Nat) : MetV l X y_M_send (Cond.code y_M_send c_M_send 6 none :: Mst) 0 [.ref (X.2.2.2 0), .int (nI a0), .int (nI a1), .int (nI a2), .int (nI a3), .int (nI a4)] S (mSend S a0 a1 a2 a3 a4) := by
  refine MetV.of (by decide) (Nat.le_of_ble_eq_true rfl) ?_
  intro p e s m args below meth c cf hr hlk hP hK hN ls hl
  have hl : lv_has ls 6 [(0, .ref (X.2.2.2 0)), (1, .int (nI a0)), (2, .int (nI a1)), (3, .int (nI a2)), (4, .int (nI a3)), (5, .int (nI a4))] := hl
  have hx := cf.1
  have hb := cf.2.1
  have hD := xD_of hX
  have hS : va_S (xA X) s.heap s.heap [] := va_S.rf
  have hf := hI.f
  have hn := hI.n
  have hk := hI.k
  have hcs := hI.cs
  have ht := hI.t
  have hbl := hI.b
  have hm := hI.m
  have hV := hI.V
  obtain ⟨H, hH⟩ : ∃ H, H = s.heap := ⟨_, rfl⟩
  obtain ⟨locs, hlo⟩ : ∃ z : List Loc, z = [] := ⟨_, rfl⟩
  suffices hgo : PW X S H → va_S (xA X) s.heap H locs → W p l e (rmd 0) s m args below meth c H locs 0 0 (MQ below (QcV X (mSend S a0 a1 a2 a3 a4)) args s 0 0 (xA X)) (F0 m 0 ls []) by
    subst hH
    subst hlo
    exact hgo hP hS
  clear hP hS
  intro hP hS
  refine lv_aload_n hx hb d_M_send_0 rfl (lv_at hl 0 rfl) ?_
  refine x_getM (v := .int (nI (S 0 6))) cf hK hP 14 (by decide) w_475 rfl d_M_send_1 ?_
  refine lv_bipush (v := nI 40) hx hb d_M_send_4 (by decide) ?_
  refine n_icmp_lt (tgt := 20) hx hb d_M_send_6 (by decide) (by omega) (by decide) (fun h1 => ?_) (fun h1 => ?_)
  · skip
    refine lv_aload_n hx hb d_M_send_20 rfl (lv_at hl 0 rfl) ?_
    refine x_getM (v := .ref (X.2.2.2 9)) cf hK hP 16 (by decide) w_477 rfl d_M_send_21 ?_
    refine lv_aload_n hx hb d_M_send_24 rfl (lv_at hl 0 rfl) ?_
    refine x_getM (v := .int (nI (S 0 6))) cf hK hP 14 (by decide) w_475 rfl d_M_send_25 ?_
    refine lv_iload_n hx hb d_M_send_28 rfl (lv_at hl 1 rfl) ?_
    refine x_iast cf hK hD hP hS (ia9 X) (by omega) d_M_send_29 (fun H locs hP hS => ?_)
    refine lv_aload_n hx hb d_M_send_30 rfl (lv_at hl 0 rfl) ?_
    refine x_getM (v := .ref (X.2.2.2 11)) cf hK hP 18 (by decide) w_479 rfl d_M_send_31 ?_
    refine lv_aload_n hx hb d_M_send_34 rfl (lv_at hl 0 rfl) ?_
    refine x_getM (v := .int (nI (S 0 6))) cf hK hP 14 (by decide) w_475 rfl d_M_send_35 ?_
    refine lv_iload_n hx hb d_M_send_38 rfl (lv_at hl 2 rfl) ?_
    refine x_iast cf hK hD hP hS (ia11 X) (by omega) d_M_send_39 (fun H locs hP hS => ?_)
    refine lv_aload_n hx hb d_M_send_40 rfl (lv_at hl 0 rfl) ?_
    refine x_getM (v := .ref (X.2.2.2 10)) cf hK hP 17 (by decide) w_478 rfl d_M_send_41 ?_
    refine lv_aload_n hx hb d_M_send_44 rfl (lv_at hl 0 rfl) ?_
    refine x_getM (v := .int (nI (S 0 6))) cf hK hP 14 (by decide) w_475 rfl d_M_send_45 ?_
    refine lv_iload_n hx hb d_M_send_48 rfl (lv_at hl 3 rfl) ?_
    refine x_iast cf hK hD hP hS (ia10 X) (by omega) d_M_send_49 (fun H locs hP hS => ?_)
    refine lv_aload_n hx hb d_M_send_50 rfl (lv_at hl 0 rfl) ?_
    refine x_getM (v := .ref (X.2.2.2 12)) cf hK hP 19 (by decide) w_480 rfl d_M_send_51 ?_
    refine lv_aload_n hx hb d_M_send_54 rfl (lv_at hl 0 rfl) ?_
    refine x_getM (v := .int (nI (S 0 6))) cf hK hP 14 (by decide) w_475 rfl d_M_send_55 ?_
    refine lv_iload hx hb d_M_send_58 (lv_at hl 4 rfl) ?_
    refine x_iast cf hK hD hP hS (ia12 X) (by omega) d_M_send_60 (fun H locs hP hS => ?_)
    refine lv_aload_n hx hb d_M_send_61 rfl (lv_at hl 0 rfl) ?_
    refine x_getM (v := .ref (X.2.2.2 13)) cf hK hP 20 (by decide) w_481 rfl d_M_send_62 ?_
    refine lv_aload_n hx hb d_M_send_65 rfl (lv_at hl 0 rfl) ?_
    refine x_getM (v := .int (nI (S 0 6))) cf hK hP 14 (by decide) w_475 rfl d_M_send_66 ?_
    refine lv_iload hx hb d_M_send_69 (lv_at hl 5 rfl) ?_
    refine x_iast cf hK hD hP hS (ia13 X) (by omega) d_M_send_71 (fun H locs hP hS => ?_)
    refine lv_aload_n hx hb d_M_send_72 rfl (lv_at hl 0 rfl) ?_
    refine lv_dup hx hb d_M_send_73 rfl ?_
    refine x_getM (v := .int (nI (S 0 6))) cf hK hP 14 (by decide) w_475 rfl d_M_send_74 ?_
    refine lv_iconst (v := nI 1) hx hb d_M_send_77 (by decide) ?_
    refine n_iadd hx hb d_M_send_78 ?_
    refine x_putM cf hK hD hP hS 14 (by decide) w_475 rfl (by decide +kernel) 6 rfl d_M_send_79 (fun H locs hP hS => ?_)
    exact x_vret cf hr hlk hP hS (by unfold mSend; rw [if_neg (by omega)]) d_M_send_82
  · skip
    refine lv_aload_n hx hb d_M_send_9 rfl (lv_at hl 0 rfl) ?_
    refine lv_dup hx hb d_M_send_10 rfl ?_
    refine x_getM (v := .int (nI (S 0 7))) cf hK hP 15 (by decide) w_476 rfl d_M_send_11 ?_
    refine lv_iconst (v := nI 1) hx hb d_M_send_14 (by decide) ?_
    refine n_iadd hx hb d_M_send_15 ?_
    refine x_putM cf hK hD hP hS 15 (by decide) w_476 rfl (by decide +kernel) 7 rfl d_M_send_16 (fun H locs hP hS => ?_)
    exact x_vret cf hr hlk hP hS (by unfold mSend; rw [if_pos (by omega)]) d_M_send_19
end
section
theorem mCorrect_nI {S : Nat → Nat → Nat} {j : Nat} (hn : S 0 1 < 2 ^ 31) (hj : j < S 0 1) : mCorrect S (nI j) = decide (S 0 3 / 2 ^ j % 2 = 0) := by
  have h1 : mRep S (nI j) = true := by
    simp only [mRep, nI_toInt (show j < 2 ^ 31 by omega), Bool.and_eq_true, decide_eq_true_eq]
    omega
  simp only [mCorrect, h1, Bool.true_and, nI_clamp (show j < 2 ^ 31 by omega)]
theorem mCorrupt_nI {S : Nat → Nat → Nat} {j : Nat} (hn : S 0 1 < 2 ^ 31) (hj : j < S 0 1) : mCorrupt S (nI j) = decide (S 0 3 / 2 ^ j % 2 = 1) := by
  have h1 : mRep S (nI j) = true := by
    simp only [mRep, nI_toInt (show j < 2 ^ 31 by omega), Bool.and_eq_true, decide_eq_true_eq]
    omega
  simp only [mCorrupt, h1, Bool.true_and, nI_clamp (show j < 2 ^ 31 by omega)]
theorem mCorrect_f {S : Nat → Nat → Nat} {r : Int32} (h : mRep S r = false) : mCorrect S r = false := by simp [mCorrect, h]
theorem mCorrupt_f {S : Nat → Nat → Nat} {r : Int32} (h : mRep S r = false) : mCorrupt S r = false := by simp [mCorrupt, h]
theorem or_lt128 {a b : Nat} (ha : a < 128) (hb : b < 128) : a ||| b < 128 := Nat.or_lt_two_pow (n := 7) ha hb
set_option maxRecDepth 100000 in
set_option maxHeartbeats 4000000 in
theorem k_M_isCorrect (l : Launch) {X : WX} (hX : xInj X) {S : Nat → Nat → Nat} {V : Nat} (hI : IW V S) (r : Int32) : MetI l X y_M_isCorrect (Cond.code y_M_isCorrect c_M_isCorrect 2 (some .boolean) :: Mst) 1 [.ref (X.2.2.2 0), .int r] S (nI (mCorrect S r).toNat) S := by
  refine MetI.of (by decide) (Nat.le_of_ble_eq_true rfl) ?_
  intro p e s m args below meth c cf hr hlk hP hK hN ls hl
  have hl : lv_has ls 2 [(0, .ref (X.2.2.2 0)), (1, .int r)] := hl
  have hx := cf.1
  have hb := cf.2.1
  have hD := xD_of hX
  have hS : va_S (xA X) s.heap s.heap [] := va_S.rf
  have hf := hI.f
  have hn := hI.n
  have hk := hI.k
  have hcs := hI.cs
  have ht := hI.t
  have hbl := hI.b
  have hm := hI.m
  have hV := hI.V
  obtain ⟨H, hH⟩ : ∃ H, H = s.heap := ⟨_, rfl⟩
  obtain ⟨locs, hlo⟩ : ∃ z : List Loc, z = [] := ⟨_, rfl⟩
  suffices hgo : PW X S H → va_S (xA X) s.heap H locs → W p l e (rmd 1) s m args below meth c H locs 0 0 (MQ below (QcI X (nI (mCorrect S r).toNat) S) args s 0 0 (xA X)) (F0 m 0 ls []) by
    subst hH
    subst hlo
    exact hgo hP hS
  clear hP hS
  intro hP hS
  refine lv_aload_n hx hb d_M_isCorrect_0 rfl (lv_at hl 0 rfl) ?_
  refine lv_iload_n hx hb d_M_isCorrect_1 rfl (lv_at hl 1 rfl) ?_
  refine x_callVi (As := [.int r]) (rest := []) cf hK hN hP hS (k_M_isReplica l hX hI r) (cw_M_isReplica cf.2.2.2.2 w_571 ⟨Nat.le_of_ble_eq_true rfl, Nat.le_of_ble_eq_true rfl⟩) (rv_M hK hP) hl.1 rfl rfl (Nat.le_of_ble_eq_true rfl) ⟨Nat.zero_le _, Nat.zero_le _⟩ d_M_isCorrect_2 (fun H locs hP hS => ?_)
  refine n_if_eq (tgt := 23) hx hb d_M_isCorrect_5 (by decide) (tnat_lt _) (fun h1 => ?_) (fun h1 => ?_)
  · skip
    refine lv_iconst (v := nI 0) hx hb d_M_isCorrect_23 (by decide) ?_
    exact x_zret cf hr hlk hP hS (by rw [mCorrect_f (tnat_0 h1)]; rfl) (rfl) d_M_isCorrect_24
  · skip
    obtain ⟨j, hj, rfl⟩ := mRep_nI (by omega) (tnat_1 h1)
    refine lv_aload_n hx hb d_M_isCorrect_8 rfl (lv_at hl 0 rfl) ?_
    refine x_getM (v := .int (nI (S 0 3))) cf hK hP 3 (by decide) w_464 rfl d_M_isCorrect_9 ?_
    refine lv_iload_n hx hb d_M_isCorrect_12 rfl (lv_at hl 1 rfl) ?_
    refine n_ishr hx hb (by omega) (by omega) d_M_isCorrect_13 ?_
    refine lv_iconst (v := nI 1) hx hb d_M_isCorrect_14 (by decide) ?_
    refine n_and1 hx hb d_M_isCorrect_15 ?_
    refine n_if_ne (tgt := 23) hx hb d_M_isCorrect_16 (by decide) (by have := Nat.div_le_self (S 0 3) (2 ^ j); omega) (fun h2 => ?_) (fun h2 => ?_)
    · skip
      refine lv_iconst (v := nI 0) hx hb d_M_isCorrect_23 (by decide) ?_
      exact x_zret cf hr hlk hP hS (by rw [mCorrect_nI (by omega) hj, decide_eq_false (by omega)]; rfl) (rfl) d_M_isCorrect_24
    · skip
      refine lv_iconst (v := nI 1) hx hb d_M_isCorrect_19 (by decide) ?_
      refine lv_goto (tgt := 24) hx hb d_M_isCorrect_20 (by decide) ?_
      exact x_zret cf hr hlk hP hS (by rw [mCorrect_nI (by omega) hj, decide_eq_true (by omega)]; rfl) (rfl) d_M_isCorrect_24
set_option maxRecDepth 100000 in
set_option maxHeartbeats 4000000 in
theorem k_M_isCorrupt (l : Launch) {X : WX} (hX : xInj X) {S : Nat → Nat → Nat} {V : Nat} (hI : IW V S) (r : Int32) : MetI l X y_M_isCorrupt (Cond.code y_M_isCorrupt c_M_isCorrupt 2 (some .boolean) :: Mst) 1 [.ref (X.2.2.2 0), .int r] S (nI (mCorrupt S r).toNat) S := by
  refine MetI.of (by decide) (Nat.le_of_ble_eq_true rfl) ?_
  intro p e s m args below meth c cf hr hlk hP hK hN ls hl
  have hl : lv_has ls 2 [(0, .ref (X.2.2.2 0)), (1, .int r)] := hl
  have hx := cf.1
  have hb := cf.2.1
  have hD := xD_of hX
  have hS : va_S (xA X) s.heap s.heap [] := va_S.rf
  have hf := hI.f
  have hn := hI.n
  have hk := hI.k
  have hcs := hI.cs
  have ht := hI.t
  have hbl := hI.b
  have hm := hI.m
  have hV := hI.V
  obtain ⟨H, hH⟩ : ∃ H, H = s.heap := ⟨_, rfl⟩
  obtain ⟨locs, hlo⟩ : ∃ z : List Loc, z = [] := ⟨_, rfl⟩
  suffices hgo : PW X S H → va_S (xA X) s.heap H locs → W p l e (rmd 1) s m args below meth c H locs 0 0 (MQ below (QcI X (nI (mCorrupt S r).toNat) S) args s 0 0 (xA X)) (F0 m 0 ls []) by
    subst hH
    subst hlo
    exact hgo hP hS
  clear hP hS
  intro hP hS
  refine lv_aload_n hx hb d_M_isCorrupt_0 rfl (lv_at hl 0 rfl) ?_
  refine lv_iload_n hx hb d_M_isCorrupt_1 rfl (lv_at hl 1 rfl) ?_
  refine x_callVi (As := [.int r]) (rest := []) cf hK hN hP hS (k_M_isReplica l hX hI r) (cw_M_isReplica cf.2.2.2.2 w_571 ⟨Nat.le_of_ble_eq_true rfl, Nat.le_of_ble_eq_true rfl⟩) (rv_M hK hP) hl.1 rfl rfl (Nat.le_of_ble_eq_true rfl) ⟨Nat.zero_le _, Nat.zero_le _⟩ d_M_isCorrupt_2 (fun H locs hP hS => ?_)
  refine n_if_eq (tgt := 24) hx hb d_M_isCorrupt_5 (by decide) (tnat_lt _) (fun h1 => ?_) (fun h1 => ?_)
  · skip
    refine lv_iconst (v := nI 0) hx hb d_M_isCorrupt_24 (by decide) ?_
    exact x_zret cf hr hlk hP hS (by rw [mCorrupt_f (tnat_0 h1)]; rfl) (rfl) d_M_isCorrupt_25
  · skip
    obtain ⟨j, hj, rfl⟩ := mRep_nI (by omega) (tnat_1 h1)
    refine lv_aload_n hx hb d_M_isCorrupt_8 rfl (lv_at hl 0 rfl) ?_
    refine x_getM (v := .int (nI (S 0 3))) cf hK hP 3 (by decide) w_464 rfl d_M_isCorrupt_9 ?_
    refine lv_iload_n hx hb d_M_isCorrupt_12 rfl (lv_at hl 1 rfl) ?_
    refine n_ishr hx hb (by omega) (by omega) d_M_isCorrupt_13 ?_
    refine lv_iconst (v := nI 1) hx hb d_M_isCorrupt_14 (by decide) ?_
    refine n_and1 hx hb d_M_isCorrupt_15 ?_
    refine lv_iconst (v := nI 1) hx hb d_M_isCorrupt_16 (by decide) ?_
    refine n_icmp_ne (tgt := 24) hx hb d_M_isCorrupt_17 (by decide) (by have := Nat.div_le_self (S 0 3) (2 ^ j); omega) (by decide) (fun h2 => ?_) (fun h2 => ?_)
    · skip
      refine lv_iconst (v := nI 0) hx hb d_M_isCorrupt_24 (by decide) ?_
      exact x_zret cf hr hlk hP hS (by rw [mCorrupt_nI (by omega) hj, decide_eq_false (by omega)]; rfl) (rfl) d_M_isCorrupt_25
    · skip
      refine lv_iconst (v := nI 1) hx hb d_M_isCorrupt_20 (by decide) ?_
      refine lv_goto (tgt := 25) hx hb d_M_isCorrupt_21 (by decide) ?_
      exact x_zret cf hr hlk hP hS (by rw [mCorrupt_nI (by omega) hj, decide_eq_true (by omega)]; rfl) (rfl) d_M_isCorrupt_25
set_option maxRecDepth 100000 in
set_option maxHeartbeats 4000000 in
theorem k_M_certified (l : Launch) {X : WX} (hX : xInj X) {S : Nat → Nat → Nat} {V : Nat} (hI : IW V S) {b : Nat} (hb0 : b < 40) : MetI l X y_M_certified (Cond.code y_M_certified c_M_certified 2 (some .boolean) :: Mst) 1 [.ref (X.2.2.2 0), .int (nI b)] S (nI (mCert S b).toNat) S := by
  refine MetI.of (by decide) (Nat.le_of_ble_eq_true rfl) ?_
  intro p e s m args below meth c cf hr hlk hP hK hN ls hl
  have hl : lv_has ls 2 [(0, .ref (X.2.2.2 0)), (1, .int (nI b))] := hl
  have hx := cf.1
  have hb := cf.2.1
  have hD := xD_of hX
  have hS : va_S (xA X) s.heap s.heap [] := va_S.rf
  have hf := hI.f
  have hn := hI.n
  have hk := hI.k
  have hcs := hI.cs
  have ht := hI.t
  have hbl := hI.b
  have hm := hI.m
  have hV := hI.V
  obtain ⟨H, hH⟩ : ∃ H, H = s.heap := ⟨_, rfl⟩
  obtain ⟨locs, hlo⟩ : ∃ z : List Loc, z = [] := ⟨_, rfl⟩
  suffices hgo : PW X S H → va_S (xA X) s.heap H locs → W p l e (rmd 1) s m args below meth c H locs 0 0 (MQ below (QcI X (nI (mCert S b).toNat) S) args s 0 0 (xA X)) (F0 m 0 ls []) by
    subst hH
    subst hlo
    exact hgo hP hS
  clear hP hS
  intro hP hS
  refine lv_iload_n hx hb d_M_certified_0 rfl (lv_at hl 1 rfl) ?_
  refine n_if_eq (tgt := 29) hx hb d_M_certified_1 (by decide) (by omega) (fun h1 => ?_) (fun h1 => ?_)
  · skip
    refine lv_iconst (v := nI 1) hx hb d_M_certified_29 (by decide) ?_
    refine lv_goto (tgt := 34) hx hb d_M_certified_30 (by decide) ?_
    exact x_zret cf hr hlk hP hS (by unfold mCert; rw [decide_eq_true h1]; rfl) (rfl) d_M_certified_34
  · skip
    refine lv_aload_n hx hb d_M_certified_4 rfl (lv_at hl 0 rfl) ?_
    refine x_getM (v := .ref (X.2.2.2 8)) cf hK hP 13 (by decide) w_474 rfl d_M_certified_5 ?_
    refine lv_iload_n hx hb d_M_certified_8 rfl (lv_at hl 1 rfl) ?_
    refine x_iald (v := (S 8 b)) cf hK hP (ia8 X) (by omega) rfl d_M_certified_9 ?_
    refine lv_aload_n hx hb d_M_certified_10 rfl (lv_at hl 0 rfl) ?_
    refine x_getM (v := .int (nI (S 0 3))) cf hK hP 3 (by decide) w_464 rfl d_M_certified_11 ?_
    refine n_ior hx hb d_M_certified_14 ?_
    refine x_callSi (As := [.int (nI ((S 8 b) ||| (S 0 3)))]) (rest := []) cf hK hN hP hS (k_M_size l hX ((S 8 b) ||| (S 0 3)) (Nat.lt_trans (or_lt128 (show S 8 b < 128 from hI.c 8 b) hcs) (by decide))) (cw_M_size cf.2.2.2.2 w_635 ⟨Nat.le_of_ble_eq_true rfl, Nat.le_of_ble_eq_true rfl⟩) hl.1 rfl rfl (Nat.le_of_ble_eq_true rfl) ⟨Nat.zero_le _, Nat.zero_le _⟩ d_M_certified_15 (fun H locs hP hS => ?_)
    refine lv_iconst (v := nI 2) hx hb d_M_certified_18 (by decide) ?_
    refine lv_aload_n hx hb d_M_certified_19 rfl (lv_at hl 0 rfl) ?_
    refine x_getM (v := .int (nI (S 0 0))) cf hK hP 0 (by decide) w_461 rfl d_M_certified_20 ?_
    refine n_imul hx hb d_M_certified_23 ?_
    refine lv_iconst (v := nI 1) hx hb d_M_certified_24 (by decide) ?_
    refine n_iadd hx hb d_M_certified_25 ?_
    have hsz := mSize_le (S 8 b ||| S 0 3)
    refine n_icmp_lt (tgt := 33) hx hb d_M_certified_26 (by decide) (by omega) (by omega) (fun h2 => ?_) (fun h2 => ?_)
    · skip
      refine lv_iconst (v := nI 0) hx hb d_M_certified_33 (by decide) ?_
      exact x_zret cf hr hlk hP hS (by unfold mCert; rw [decide_eq_false h1, decide_eq_false (by omega)]; rfl) (rfl) d_M_certified_34
    · skip
      refine lv_iconst (v := nI 1) hx hb d_M_certified_29 (by decide) ?_
      refine lv_goto (tgt := 34) hx hb d_M_certified_30 (by decide) ?_
      exact x_zret cf hr hlk hP hS (by unfold mCert; rw [decide_eq_false h1, decide_eq_true (by omega)]; rfl) (rfl) d_M_certified_34
set_option maxRecDepth 100000 in
set_option maxHeartbeats 4000000 in
theorem k_M_inChain (l : Launch) {X : WX} (hX : xInj X) {S : Nat → Nat → Nat} {V : Nat} (hI : IW V S) {a b : Nat} (ha0 : a < 40) (hb0 : b < 40) : MetI l X y_M_inChain (Cond.code y_M_inChain c_M_inChain 5 (some .boolean) :: Mst) 0 [.ref (X.2.2.2 0), .int (nI a), .int (nI b)] S (nI (mInC S a 40 b).toNat) S := by
  refine MetI.of (by decide) (Nat.le_of_ble_eq_true rfl) ?_
  intro p e s m args below meth c cf hr hlk hP hK hN ls hl
  have hl : lv_has ls 5 [(0, .ref (X.2.2.2 0)), (1, .int (nI a)), (2, .int (nI b))] := hl
  have hx := cf.1
  have hb := cf.2.1
  have hD := xD_of hX
  have hS : va_S (xA X) s.heap s.heap [] := va_S.rf
  have hf := hI.f
  have hn := hI.n
  have hk := hI.k
  have hcs := hI.cs
  have ht := hI.t
  have hbl := hI.b
  have hm := hI.m
  have hV := hI.V
  obtain ⟨H, hH⟩ : ∃ H, H = s.heap := ⟨_, rfl⟩
  obtain ⟨locs, hlo⟩ : ∃ z : List Loc, z = [] := ⟨_, rfl⟩
  suffices hgo : PW X S H → va_S (xA X) s.heap H locs → W p l e (rmd 0) s m args below meth c H locs 0 0 (MQ below (QcI X (nI (mInC S a 40 b).toNat) S) args s 0 0 (xA X)) (F0 m 0 ls []) by
    subst hH
    subst hlo
    exact hgo hP hS
  clear hP hS
  intro hP hS
  refine lv_iload_n hx hb d_M_inChain_0 rfl (lv_at hl 2 rfl) ?_
  refine lv_istore_n (lv' := [(3, .int (nI b)), (0, .ref (X.2.2.2 0)), (1, .int (nI a)), (2, .int (nI b))]) hx hb d_M_inChain_1 rfl hl (by decide) rfl (fun ls hl => ?_)
  refine lv_iconst (v := nI 0) hx hb d_M_inChain_2 (by decide) ?_
  refine lv_istore (lv' := [(4, .int (nI 0)), (3, .int (nI b)), (0, .ref (X.2.2.2 0)), (1, .int (nI a)), (2, .int (nI b))]) hx hb d_M_inChain_3 hl (by decide) rfl (fun ls hl => ?_)
  have lp5 : ∀ (dm : Nat) (x : Nat) (i : Nat) (ls : Array Slot) (H : Heap) (locs : List Loc), lv_has ls 5 [(0, .ref (X.2.2.2 0)), (1, .int (nI a)), (2, .int (nI b)), (3, .int (nI x)), (4, .int (nI i))] → PW X S H → va_S (xA X) s.heap H locs → (i ≤ 40) → (x < 40) → (mInC S a 40 b = mInC S a (40 - i) x) → (40 - i = dm) → W p l e (rmd 0) s m args below meth c H locs 0 0 (MQ below (QcI X (nI (mInC S a 40 b).toNat) S) args s 0 0 (xA X)) (F0 m 5 ls []) := by
    intro dm
    induction dm using Nat.strongRecOn with | ind dm lp5 => ?_
    intro x i ls H locs hl hP hS hi hx0 hz hdm
    refine lv_iload hx hb d_M_inChain_5 (lv_at hl 4 rfl) ?_
    refine lv_bipush (v := nI 40) hx hb d_M_inChain_7 (by decide) ?_
    refine n_icmp_ge (tgt := 34) hx hb d_M_inChain_9 (by decide) (by omega) (by decide) (fun h1 => ?_) (fun h1 => ?_)
    · skip
      refine lv_iload_n hx hb d_M_inChain_34 rfl (lv_at hl 3 rfl) ?_
      refine lv_iload_n hx hb d_M_inChain_35 rfl (lv_at hl 1 rfl) ?_
      refine n_icmp_ne (tgt := 43) hx hb d_M_inChain_36 (by decide) (by omega) (by omega) (fun h2 => ?_) (fun h2 => ?_)
      · skip
        refine lv_iconst (v := nI 0) hx hb d_M_inChain_43 (by decide) ?_
        exact x_zret cf hr hlk hP hS (by first | (exfalso; omega) | (rw [hz]; rw [show 40 - i = 0 by omega]; show _ = nI (decide (x = a)).toNat; first | (rw [decide_eq_true (by omega)]; rfl) | (rw [decide_eq_false (by omega)]; rfl)) | (rw [hz, show 40 - i = (40 - (i + 1)) + 1 by omega]; show _ = nI (if x = a then true else if x = 0 then false else _).toNat; first | (rw [if_pos (by omega)]; rfl) | (rw [if_neg (by omega), if_pos (by omega)]; rfl))) (rfl) d_M_inChain_44
      · skip
        refine lv_iconst (v := nI 1) hx hb d_M_inChain_39 (by decide) ?_
        refine lv_goto (tgt := 44) hx hb d_M_inChain_40 (by decide) ?_
        exact x_zret cf hr hlk hP hS (by first | (exfalso; omega) | (rw [hz]; rw [show 40 - i = 0 by omega]; show _ = nI (decide (x = a)).toNat; first | (rw [decide_eq_true (by omega)]; rfl) | (rw [decide_eq_false (by omega)]; rfl)) | (rw [hz, show 40 - i = (40 - (i + 1)) + 1 by omega]; show _ = nI (if x = a then true else if x = 0 then false else _).toNat; first | (rw [if_pos (by omega)]; rfl) | (rw [if_neg (by omega), if_pos (by omega)]; rfl))) (rfl) d_M_inChain_44
    · skip
      refine lv_iload_n hx hb d_M_inChain_12 rfl (lv_at hl 3 rfl) ?_
      refine lv_iload_n hx hb d_M_inChain_13 rfl (lv_at hl 1 rfl) ?_
      refine n_icmp_eq (tgt := 34) hx hb d_M_inChain_14 (by decide) (by omega) (by omega) (fun h3 => ?_) (fun h3 => ?_)
      · skip
        refine lv_iload_n hx hb d_M_inChain_34 rfl (lv_at hl 3 rfl) ?_
        refine lv_iload_n hx hb d_M_inChain_35 rfl (lv_at hl 1 rfl) ?_
        refine n_icmp_ne (tgt := 43) hx hb d_M_inChain_36 (by decide) (by omega) (by omega) (fun h4 => ?_) (fun h4 => ?_)
        · skip
          refine lv_iconst (v := nI 0) hx hb d_M_inChain_43 (by decide) ?_
          exact x_zret cf hr hlk hP hS (by first | (exfalso; omega) | (rw [hz]; rw [show 40 - i = 0 by omega]; show _ = nI (decide (x = a)).toNat; first | (rw [decide_eq_true (by omega)]; rfl) | (rw [decide_eq_false (by omega)]; rfl)) | (rw [hz, show 40 - i = (40 - (i + 1)) + 1 by omega]; show _ = nI (if x = a then true else if x = 0 then false else _).toNat; first | (rw [if_pos (by omega)]; rfl) | (rw [if_neg (by omega), if_pos (by omega)]; rfl))) (rfl) d_M_inChain_44
        · skip
          refine lv_iconst (v := nI 1) hx hb d_M_inChain_39 (by decide) ?_
          refine lv_goto (tgt := 44) hx hb d_M_inChain_40 (by decide) ?_
          exact x_zret cf hr hlk hP hS (by first | (exfalso; omega) | (rw [hz]; rw [show 40 - i = 0 by omega]; show _ = nI (decide (x = a)).toNat; first | (rw [decide_eq_true (by omega)]; rfl) | (rw [decide_eq_false (by omega)]; rfl)) | (rw [hz, show 40 - i = (40 - (i + 1)) + 1 by omega]; show _ = nI (if x = a then true else if x = 0 then false else _).toNat; first | (rw [if_pos (by omega)]; rfl) | (rw [if_neg (by omega), if_pos (by omega)]; rfl))) (rfl) d_M_inChain_44
      · skip
        refine lv_iload_n hx hb d_M_inChain_17 rfl (lv_at hl 3 rfl) ?_
        refine n_if_eq (tgt := 34) hx hb d_M_inChain_18 (by decide) (by omega) (fun h5 => ?_) (fun h5 => ?_)
        · skip
          refine lv_iload_n hx hb d_M_inChain_34 rfl (lv_at hl 3 rfl) ?_
          refine lv_iload_n hx hb d_M_inChain_35 rfl (lv_at hl 1 rfl) ?_
          refine n_icmp_ne (tgt := 43) hx hb d_M_inChain_36 (by decide) (by omega) (by omega) (fun h6 => ?_) (fun h6 => ?_)
          · skip
            refine lv_iconst (v := nI 0) hx hb d_M_inChain_43 (by decide) ?_
            exact x_zret cf hr hlk hP hS (by first | (exfalso; omega) | (rw [hz]; rw [show 40 - i = 0 by omega]; show _ = nI (decide (x = a)).toNat; first | (rw [decide_eq_true (by omega)]; rfl) | (rw [decide_eq_false (by omega)]; rfl)) | (rw [hz, show 40 - i = (40 - (i + 1)) + 1 by omega]; show _ = nI (if x = a then true else if x = 0 then false else _).toNat; first | (rw [if_pos (by omega)]; rfl) | (rw [if_neg (by omega), if_pos (by omega)]; rfl))) (rfl) d_M_inChain_44
          · skip
            refine lv_iconst (v := nI 1) hx hb d_M_inChain_39 (by decide) ?_
            refine lv_goto (tgt := 44) hx hb d_M_inChain_40 (by decide) ?_
            exact x_zret cf hr hlk hP hS (by first | (exfalso; omega) | (rw [hz]; rw [show 40 - i = 0 by omega]; show _ = nI (decide (x = a)).toNat; first | (rw [decide_eq_true (by omega)]; rfl) | (rw [decide_eq_false (by omega)]; rfl)) | (rw [hz, show 40 - i = (40 - (i + 1)) + 1 by omega]; show _ = nI (if x = a then true else if x = 0 then false else _).toNat; first | (rw [if_pos (by omega)]; rfl) | (rw [if_neg (by omega), if_pos (by omega)]; rfl))) (rfl) d_M_inChain_44
        · skip
          refine lv_aload_n hx hb d_M_inChain_21 rfl (lv_at hl 0 rfl) ?_
          refine x_getM (v := .ref (X.2.2.2 6)) cf hK hP 11 (by decide) w_472 rfl d_M_inChain_22 ?_
          refine lv_iload_n hx hb d_M_inChain_25 rfl (lv_at hl 3 rfl) ?_
          refine x_iald (v := (S 6 x)) cf hK hP (ia6 X) (by omega) rfl d_M_inChain_26 ?_
          refine lv_istore_n (lv' := [(3, .int (nI (S 6 x))), (0, .ref (X.2.2.2 0)), (1, .int (nI a)), (2, .int (nI b)), (4, .int (nI i))]) hx hb d_M_inChain_27 rfl hl (by decide) rfl (fun ls hl => ?_)
          refine n_iinc1 (lv' := [(4, .int (nI (i + 1))), (3, .int (nI (S 6 x))), (0, .ref (X.2.2.2 0)), (1, .int (nI a)), (2, .int (nI b))]) (k := 4) hx hb d_M_inChain_28 hl rfl (by decide) rfl (fun ls hl => ?_)
          refine lv_goto (tgt := 5) hx hb d_M_inChain_31 (by decide) ?_
          exact lp5 _ (by omega) (S 6 x) (i + 1) ls H locs (lv_sub hl [2, 3, 4, 1, 0] rfl) hP hS (by omega) ((show S 6 x < 40 from hI.c 6 x)) (by rw [hz, show 40 - i = (40 - (i + 1)) + 1 by omega]; show (if x = a then true else if x = 0 then false else _) = _; rw [if_neg (by omega), if_neg (by omega)]) rfl
  exact lp5 _ b 0 ls H locs (lv_sub hl [2, 3, 4, 1, 0] rfl) hP hS (by omega) (by omega) (rfl) rfl
set_option maxRecDepth 100000 in
set_option maxHeartbeats 4000000 in
theorem k_M_push (l : Launch) {X : WX} (hX : xInj X) {S : Nat → Nat → Nat} {V : Nat} (hI : IW V S) {r : Nat} (hr0 : r < 7) : MetI l X y_M_push (Cond.code y_M_push c_M_push 7 (some .int) :: Mst) 0 [.ref (X.2.2.2 0), .int (nI r)] S (nI (mPush S r)) S := by
  refine MetI.of (by decide) (Nat.le_of_ble_eq_true rfl) ?_
  intro p e s m args below meth c cf hr hlk hP hK hN ls hl
  have hl : lv_has ls 7 [(0, .ref (X.2.2.2 0)), (1, .int (nI r))] := hl
  have hx := cf.1
  have hb := cf.2.1
  have hD := xD_of hX
  have hS : va_S (xA X) s.heap s.heap [] := va_S.rf
  have hf := hI.f
  have hn := hI.n
  have hk := hI.k
  have hcs := hI.cs
  have ht := hI.t
  have hbl := hI.b
  have hm := hI.m
  have hV := hI.V
  obtain ⟨H, hH⟩ : ∃ H, H = s.heap := ⟨_, rfl⟩
  obtain ⟨locs, hlo⟩ : ∃ z : List Loc, z = [] := ⟨_, rfl⟩
  suffices hgo : PW X S H → va_S (xA X) s.heap H locs → W p l e (rmd 0) s m args below meth c H locs 0 0 (MQ below (QcI X (nI (mPush S r)) S) args s 0 0 (xA X)) (F0 m 0 ls []) by
    subst hH
    subst hlo
    exact hgo hP hS
  clear hP hS
  intro hP hS
  refine lv_iconst (v := nI 0) hx hb d_M_push_0 (by decide) ?_
  refine lv_istore_n (lv' := [(2, .int (nI 0)), (0, .ref (X.2.2.2 0)), (1, .int (nI r))]) hx hb d_M_push_1 rfl hl (by decide) rfl (fun ls hl => ?_)
  refine lv_iconst (v := nI 0) hx hb d_M_push_2 (by decide) ?_
  refine lv_istore_n (lv' := [(3, .int (nI 0)), (2, .int (nI 0)), (0, .ref (X.2.2.2 0)), (1, .int (nI r))]) hx hb d_M_push_3 rfl hl (by decide) rfl (fun ls hl => ?_)
  have lp4 : ∀ (dm : Nat) (best : Nat) (i : Nat) (ls : Array Slot) (H : Heap) (locs : List Loc), lv_has ls 7 [(0, .ref (X.2.2.2 0)), (1, .int (nI r)), (2, .int (nI best)), (3, .int (nI i))] → PW X S H → va_S (xA X) s.heap H locs → (i ≤ S 0 1) → (best < 2147483648) → (best = itr (mPushF S r) 0 0 i) → (S 0 1 - i = dm) → W p l e (rmd 0) s m args below meth c H locs 0 0 (MQ below (QcI X (nI (mPush S r)) S) args s 0 0 (xA X)) (F0 m 4 ls []) := by
    intro dm
    induction dm using Nat.strongRecOn with | ind dm lp4 => ?_
    intro best i ls H locs hl hP hS hi hbe hz hdm
    refine lv_iload_n hx hb d_M_push_4 rfl (lv_at hl 3 rfl) ?_
    refine lv_aload_n hx hb d_M_push_5 rfl (lv_at hl 0 rfl) ?_
    refine x_getM (v := .int (nI (S 0 1))) cf hK hP 1 (by decide) w_462 rfl d_M_push_6 ?_
    refine n_icmp_ge (tgt := 94) hx hb d_M_push_9 (by decide) (by omega) (by omega) (fun h1 => ?_) (fun h1 => ?_)
    · skip
      refine lv_iload_n hx hb d_M_push_94 rfl (lv_at hl 2 rfl) ?_
      exact x_iret cf hr hlk hP hS (by rw [hz, show i = S 0 1 by omega]; rfl) (rfl) d_M_push_95
    · skip
      refine lv_aload_n hx hb d_M_push_12 rfl (lv_at hl 0 rfl) ?_
      refine x_getM (v := .ref (X.2.2.2 21)) cf hK hP 28 (by decide) w_489 rfl d_M_push_13 ?_
      refine lv_bipush (v := nI 7) hx hb d_M_push_16 (by decide) ?_
      refine lv_iload_n hx hb d_M_push_18 rfl (lv_at hl 1 rfl) ?_
      refine n_imul hx hb d_M_push_19 ?_
      refine lv_iload_n hx hb d_M_push_20 rfl (lv_at hl 3 rfl) ?_
      refine n_iadd hx hb d_M_push_21 ?_
      refine x_iald (v := (S 21 ((7 * r) + i))) cf hK hP (ia21 X) (by omega) rfl d_M_push_22 ?_
      refine lv_istore (lv' := [(4, .int (nI (S 21 ((7 * r) + i)))), (0, .ref (X.2.2.2 0)), (1, .int (nI r)), (2, .int (nI best)), (3, .int (nI i))]) hx hb d_M_push_23 hl (by decide) rfl (fun ls hl => ?_)
      refine lv_iconst (v := nI 0) hx hb d_M_push_25 (by decide) ?_
      refine lv_istore (lv' := [(5, .int (nI 0)), (4, .int (nI (S 21 ((7 * r) + i)))), (0, .ref (X.2.2.2 0)), (1, .int (nI r)), (2, .int (nI best)), (3, .int (nI i))]) hx hb d_M_push_26 hl (by decide) rfl (fun ls hl => ?_)
      refine lv_iconst (v := nI 0) hx hb d_M_push_28 (by decide) ?_
      refine lv_istore (lv' := [(6, .int (nI 0)), (5, .int (nI 0)), (4, .int (nI (S 21 ((7 * r) + i)))), (0, .ref (X.2.2.2 0)), (1, .int (nI r)), (2, .int (nI best)), (3, .int (nI i))]) hx hb d_M_push_29 hl (by decide) rfl (fun ls hl => ?_)
      have lp31 : ∀ (dm : Nat) (many : Nat) (q : Nat) (ls : Array Slot) (H : Heap) (locs : List Loc), lv_has ls 7 [(0, .ref (X.2.2.2 0)), (1, .int (nI r)), (2, .int (nI best)), (3, .int (nI i)), (4, .int (nI (S 21 ((7 * r) + i)))), (5, .int (nI many)), (6, .int (nI q))] → PW X S H → va_S (xA X) s.heap H locs → (q ≤ S 0 1) → (many ≤ q) → (many = itr (mCntF S r (S 21 (7 * r + i))) 0 0 q) → (S 0 1 - q = dm) → W p l e (rmd 0) s m args below meth c H locs 0 0 (MQ below (QcI X (nI (mPush S r)) S) args s 0 0 (xA X)) (F0 m 31 ls []) := by
        intro dm
        induction dm using Nat.strongRecOn with | ind dm lp31 => ?_
        intro many q ls H locs hl hP hS hq hmq hzq hdm
        refine lv_iload hx hb d_M_push_31 (lv_at hl 6 rfl) ?_
        refine lv_aload_n hx hb d_M_push_33 rfl (lv_at hl 0 rfl) ?_
        refine x_getM (v := .int (nI (S 0 1))) cf hK hP 1 (by decide) w_462 rfl d_M_push_34 ?_
        refine n_icmp_ge (tgt := 66) hx hb d_M_push_37 (by decide) (by omega) (by omega) (fun h2 => ?_) (fun h2 => ?_)
        · skip
          have hc : many = mCnt S r (S 21 (7 * r + i)) := by rw [hzq, show q = S 0 1 by omega]; rfl
          refine lv_iload hx hb d_M_push_66 (lv_at hl 5 rfl) ?_
          refine lv_iconst (v := nI 2) hx hb d_M_push_68 (by decide) ?_
          refine lv_aload_n hx hb d_M_push_69 rfl (lv_at hl 0 rfl) ?_
          refine x_getM (v := .int (nI (S 0 0))) cf hK hP 0 (by decide) w_461 rfl d_M_push_70 ?_
          refine n_imul hx hb d_M_push_73 ?_
          refine lv_iconst (v := nI 1) hx hb d_M_push_74 (by decide) ?_
          refine n_iadd hx hb d_M_push_75 ?_
          refine n_icmp_lt (tgt := 88) hx hb d_M_push_76 (by decide) (by omega) (by omega) (fun h3 => ?_) (fun h3 => ?_)
          · skip
            refine n_iinc1 (lv' := [(3, .int (nI (i + 1))), (0, .ref (X.2.2.2 0)), (1, .int (nI r)), (2, .int (nI best)), (4, .int (nI (S 21 ((7 * r) + i)))), (5, .int (nI many)), (6, .int (nI q))]) (k := 3) hx hb d_M_push_88 hl rfl (by decide) rfl (fun ls hl => ?_)
            refine lv_goto (tgt := 4) hx hb d_M_push_91 (by decide) ?_
            exact lp4 _ (by omega) best (i + 1) ls H locs (lv_sub hl [1, 2, 3, 0] rfl) hP hS (by omega) (by have := (show S 21 (7 * r + i) < 2147483648 ∧ (7 * r + i < 49 → S 0 3 / 2 ^ ((7 * r + i) % 7) % 2 = 0 → S 21 (7 * r + i) ≤ V) from hI.c 21 (7 * r + i)).1; omega) (by rw [itr_z, ← hz]; unfold mPushF; rw [← hc]; first | rw [if_pos (by omega)] | rw [if_neg (by omega)]) rfl
          · skip
            refine lv_iload hx hb d_M_push_79 (lv_at hl 4 rfl) ?_
            refine lv_iload_n hx hb d_M_push_81 rfl (lv_at hl 2 rfl) ?_
            refine n_icmp_le (tgt := 88) hx hb d_M_push_82 (by decide) (by have := (show S 21 ((7 * r) + i) < 2147483648 ∧ (((7 * r) + i) < 49 → S 0 3 / 2 ^ (((7 * r) + i) % 7) % 2 = 0 → S 21 ((7 * r) + i) ≤ V) from hI.c 21 ((7 * r) + i)).1; omega) (by omega) (fun h4 => ?_) (fun h4 => ?_)
            · skip
              refine n_iinc1 (lv' := [(3, .int (nI (i + 1))), (0, .ref (X.2.2.2 0)), (1, .int (nI r)), (2, .int (nI best)), (4, .int (nI (S 21 ((7 * r) + i)))), (5, .int (nI many)), (6, .int (nI q))]) (k := 3) hx hb d_M_push_88 hl rfl (by decide) rfl (fun ls hl => ?_)
              refine lv_goto (tgt := 4) hx hb d_M_push_91 (by decide) ?_
              exact lp4 _ (by omega) best (i + 1) ls H locs (lv_sub hl [1, 2, 3, 0] rfl) hP hS (by omega) (by have := (show S 21 (7 * r + i) < 2147483648 ∧ (7 * r + i < 49 → S 0 3 / 2 ^ ((7 * r + i) % 7) % 2 = 0 → S 21 (7 * r + i) ≤ V) from hI.c 21 (7 * r + i)).1; omega) (by rw [itr_z, ← hz]; unfold mPushF; rw [← hc]; first | rw [if_pos (by omega)] | rw [if_neg (by omega)]) rfl
            · skip
              refine lv_iload hx hb d_M_push_85 (lv_at hl 4 rfl) ?_
              refine lv_istore_n (lv' := [(2, .int (nI (S 21 ((7 * r) + i)))), (0, .ref (X.2.2.2 0)), (1, .int (nI r)), (3, .int (nI i)), (4, .int (nI (S 21 ((7 * r) + i)))), (5, .int (nI many)), (6, .int (nI q))]) hx hb d_M_push_87 rfl hl (by decide) rfl (fun ls hl => ?_)
              refine n_iinc1 (lv' := [(3, .int (nI (i + 1))), (2, .int (nI (S 21 ((7 * r) + i)))), (0, .ref (X.2.2.2 0)), (1, .int (nI r)), (4, .int (nI (S 21 ((7 * r) + i)))), (5, .int (nI many)), (6, .int (nI q))]) (k := 3) hx hb d_M_push_88 hl rfl (by decide) rfl (fun ls hl => ?_)
              refine lv_goto (tgt := 4) hx hb d_M_push_91 (by decide) ?_
              exact lp4 _ (by omega) (S 21 ((7 * r) + i)) (i + 1) ls H locs (lv_sub hl [2, 3, 1, 0] rfl) hP hS (by omega) (by have := (show S 21 (7 * r + i) < 2147483648 ∧ (7 * r + i < 49 → S 0 3 / 2 ^ ((7 * r + i) % 7) % 2 = 0 → S 21 (7 * r + i) ≤ V) from hI.c 21 (7 * r + i)).1; omega) (by rw [itr_z, ← hz]; unfold mPushF; rw [← hc]; first | rw [if_pos (by omega)] | rw [if_neg (by omega)]) rfl
        · skip
          refine lv_aload_n hx hb d_M_push_40 rfl (lv_at hl 0 rfl) ?_
          refine x_getM (v := .ref (X.2.2.2 21)) cf hK hP 28 (by decide) w_489 rfl d_M_push_41 ?_
          refine lv_bipush (v := nI 7) hx hb d_M_push_44 (by decide) ?_
          refine lv_iload_n hx hb d_M_push_46 rfl (lv_at hl 1 rfl) ?_
          refine n_imul hx hb d_M_push_47 ?_
          refine lv_iload hx hb d_M_push_48 (lv_at hl 6 rfl) ?_
          refine n_iadd hx hb d_M_push_50 ?_
          refine x_iald (v := (S 21 ((7 * r) + q))) cf hK hP (ia21 X) (by omega) rfl d_M_push_51 ?_
          refine lv_iload hx hb d_M_push_52 (lv_at hl 4 rfl) ?_
          refine n_icmp_lt (tgt := 60) hx hb d_M_push_54 (by decide) (by have := (show S 21 ((7 * r) + q) < 2147483648 ∧ (((7 * r) + q) < 49 → S 0 3 / 2 ^ (((7 * r) + q) % 7) % 2 = 0 → S 21 ((7 * r) + q) ≤ V) from hI.c 21 ((7 * r) + q)).1; omega) (by have := (show S 21 ((7 * r) + i) < 2147483648 ∧ (((7 * r) + i) < 49 → S 0 3 / 2 ^ (((7 * r) + i) % 7) % 2 = 0 → S 21 ((7 * r) + i) ≤ V) from hI.c 21 ((7 * r) + i)).1; omega) (fun h5 => ?_) (fun h5 => ?_)
          · skip
            refine n_iinc1 (lv' := [(6, .int (nI (q + 1))), (0, .ref (X.2.2.2 0)), (1, .int (nI r)), (2, .int (nI best)), (3, .int (nI i)), (4, .int (nI (S 21 ((7 * r) + i)))), (5, .int (nI many))]) (k := 6) hx hb d_M_push_60 hl rfl (by decide) rfl (fun ls hl => ?_)
            refine lv_goto (tgt := 31) hx hb d_M_push_63 (by decide) ?_
            exact lp31 _ (by omega) many (q + 1) ls H locs (lv_sub hl [1, 2, 3, 4, 5, 6, 0] rfl) hP hS (by omega) (by omega) (by rw [itr_z, ← hzq]; unfold mCntF; first | rw [if_pos (by omega)] | rw [if_neg (by omega)]) rfl
          · skip
            refine n_iinc1 (lv' := [(5, .int (nI (many + 1))), (0, .ref (X.2.2.2 0)), (1, .int (nI r)), (2, .int (nI best)), (3, .int (nI i)), (4, .int (nI (S 21 ((7 * r) + i)))), (6, .int (nI q))]) (k := 5) hx hb d_M_push_57 hl rfl (by decide) rfl (fun ls hl => ?_)
            refine n_iinc1 (lv' := [(6, .int (nI (q + 1))), (5, .int (nI (many + 1))), (0, .ref (X.2.2.2 0)), (1, .int (nI r)), (2, .int (nI best)), (3, .int (nI i)), (4, .int (nI (S 21 ((7 * r) + i))))]) (k := 6) hx hb d_M_push_60 hl rfl (by decide) rfl (fun ls hl => ?_)
            refine lv_goto (tgt := 31) hx hb d_M_push_63 (by decide) ?_
            exact lp31 _ (by omega) (many + 1) (q + 1) ls H locs (lv_sub hl [2, 3, 4, 5, 6, 1, 0] rfl) hP hS (by omega) (by omega) (by rw [itr_z, ← hzq]; unfold mCntF; first | rw [if_pos (by omega)] | rw [if_neg (by omega)]) rfl
      exact lp31 _ 0 0 ls H locs (lv_sub hl [3, 4, 5, 6, 2, 1, 0] rfl) hP hS (by omega) (by omega) (rfl) rfl
  exact lp4 _ 0 0 ls H locs (lv_sub hl [2, 3, 1, 0] rfl) hP hS (by omega) (by omega) (rfl) rfl
set_option maxRecDepth 100000 in
set_option maxHeartbeats 4000000 in
theorem k_M_see (l : Launch) {X : WX} (hX : xInj X) {S : Nat → Nat → Nat} {V : Nat} (hI : IW V S) {r : Nat} (hr0 : r < 7) {x : Nat} (hx0 : x < 40) : MetV l X y_M_see (Cond.code y_M_see c_M_see 3 none :: Mst) 1 [.ref (X.2.2.2 0), .int (nI r), .int (nI x)] S (mSee S r x) := by
  refine MetV.of (by decide) (Nat.le_of_ble_eq_true rfl) ?_
  intro p e s m args below meth c cf hr hlk hP hK hN ls hl
  have hl : lv_has ls 3 [(0, .ref (X.2.2.2 0)), (1, .int (nI r)), (2, .int (nI x))] := hl
  have hx := cf.1
  have hb := cf.2.1
  have hD := xD_of hX
  have hS : va_S (xA X) s.heap s.heap [] := va_S.rf
  have hf := hI.f
  have hn := hI.n
  have hk := hI.k
  have hcs := hI.cs
  have ht := hI.t
  have hbl := hI.b
  have hm := hI.m
  have hV := hI.V
  obtain ⟨H, hH⟩ : ∃ H, H = s.heap := ⟨_, rfl⟩
  obtain ⟨locs, hlo⟩ : ∃ z : List Loc, z = [] := ⟨_, rfl⟩
  suffices hgo : PW X S H → va_S (xA X) s.heap H locs → W p l e (rmd 1) s m args below meth c H locs 0 0 (MQ below (QcV X (mSee S r x)) args s 0 0 (xA X)) (F0 m 0 ls []) by
    subst hH
    subst hlo
    exact hgo hP hS
  clear hP hS
  intro hP hS
  refine lv_aload_n hx hb d_M_see_0 rfl (lv_at hl 0 rfl) ?_
  refine x_getM (v := .ref (X.2.2.2 19)) cf hK hP 26 (by decide) w_487 rfl d_M_see_1 ?_
  refine lv_bipush (v := nI 40) hx hb d_M_see_4 (by decide) ?_
  refine lv_iload_n hx hb d_M_see_6 rfl (lv_at hl 1 rfl) ?_
  refine n_imul hx hb d_M_see_7 ?_
  refine lv_iload_n hx hb d_M_see_8 rfl (lv_at hl 2 rfl) ?_
  refine n_iadd hx hb d_M_see_9 ?_
  refine lv_iconst (v := nI 1) hx hb d_M_see_10 (by decide) ?_
  refine x_zast cf hK hD hP hS (by omega) (by decide) d_M_see_11 (fun H locs hP hS => ?_)
  refine lv_aload_n hx hb d_M_see_12 rfl (lv_at hl 0 rfl) ?_
  refine x_getM (v := .ref (X.2.2.2 5)) cf hK hP 10 (by decide) w_471 rfl d_M_see_13 ?_
  refine lv_iload_n hx hb d_M_see_16 rfl (lv_at hl 2 rfl) ?_
  refine x_iald (v := (S 5 x)) cf hK hP (ia5 X) (by omega) (by simp [up2_at]) d_M_see_17 ?_
  refine lv_aload_n hx hb d_M_see_18 rfl (lv_at hl 0 rfl) ?_
  refine x_getM (v := .ref (X.2.2.2 14)) cf hK hP 21 (by decide) w_482 rfl d_M_see_19 ?_
  refine lv_iload_n hx hb d_M_see_22 rfl (lv_at hl 1 rfl) ?_
  refine x_iald (v := (S 14 r)) cf hK hP (ia14 X) (by omega) (by simp [up2_at]) d_M_see_23 ?_
  refine n_icmp_ge (tgt := 28) hx hb d_M_see_24 (by decide) (by have := (show S 5 x + 1 ≤ V from hI.c 5 x); omega) (by have := (show S 14 r ≤ V ∧ (r < S 0 1 → 1 ≤ S 14 r) from hI.c 14 r); omega) (fun h1 => ?_) (fun h1 => ?_)
  · skip
    refine lv_aload_n hx hb d_M_see_28 rfl (lv_at hl 0 rfl) ?_
    refine lv_iload_n hx hb d_M_see_29 rfl (lv_at hl 1 rfl) ?_
    refine lv_aload_n hx hb d_M_see_30 rfl (lv_at hl 0 rfl) ?_
    refine x_getM (v := .ref (X.2.2.2 5)) cf hK hP 10 (by decide) w_471 rfl d_M_see_31 ?_
    refine lv_iload_n hx hb d_M_see_34 rfl (lv_at hl 2 rfl) ?_
    refine x_iald (v := (S 5 x)) cf hK hP (ia5 X) (by omega) (by simp [up2_at]) d_M_see_35 ?_
    refine lv_iconst (v := nI 1) hx hb d_M_see_36 (by decide) ?_
    refine n_iadd hx hb d_M_see_37 ?_
    refine x_callVv (As := [.int (nI r), .int (nI ((S 5 x) + 1))]) (rest := []) cf hK hN hP hS (k_M_enter l hX (hI.up (k := 19) (j := 40 * r + x) (v := 1) (by decide) (show 1 ≤ 1 by decide)) (by omega)) (cw_M_enter cf.2.2.2.2 w_599 ⟨Nat.le_of_ble_eq_true rfl, Nat.le_of_ble_eq_true rfl⟩) (rv_M hK hP) hl.1 rfl rfl (Nat.le_of_ble_eq_true rfl) ⟨Nat.zero_le _, Nat.zero_le _⟩ d_M_see_38 (fun H locs hP hS => ?_)
    refine lv_aload_n hx hb d_M_see_41 rfl (lv_at hl 0 rfl) ?_
    refine x_getM (v := .ref (X.2.2.2 16)) cf hK hP 23 (by decide) w_484 rfl d_M_see_42 ?_
    refine lv_iload_n hx hb d_M_see_45 rfl (lv_at hl 1 rfl) ?_
    refine lv_iconst (v := nI 2) hx hb d_M_see_46 (by decide) ?_
    refine x_iast cf hK hD hP hS (ia16 X) (by omega) d_M_see_47 (fun H locs hP hS => ?_)
    exact x_vret cf hr hlk hP hS (by unfold mSee; rw [if_neg (by omega)]) d_M_see_48
  · skip
    exact x_vret cf hr hlk hP hS (by unfold mSee; rw [if_pos (by omega)]) d_M_see_27
set_option maxRecDepth 100000 in
set_option maxHeartbeats 4000000 in
theorem k_M_newBlock (l : Launch) {X : WX} (hX : xInj X) {S : Nat → Nat → Nat} {V : Nat} (hI : IW V S) (hb0 : S 0 5 < 40) (v p0 set : Nat) : MetI l X y_M_newBlock (Cond.code y_M_newBlock c_M_newBlock 4 (some .int) :: Mst) 0 [.ref (X.2.2.2 0), .int (nI v), .int (nI p0), .int (nI set)] S (nI (S 0 5)) (mNewBlock S v p0 set) := by
  refine MetI.of (by decide) (Nat.le_of_ble_eq_true rfl) ?_
  intro p e s m args below meth c cf hr hlk hP hK hN ls hl
  have hl : lv_has ls 4 [(0, .ref (X.2.2.2 0)), (1, .int (nI v)), (2, .int (nI p0)), (3, .int (nI set))] := hl
  have hx := cf.1
  have hb := cf.2.1
  have hD := xD_of hX
  have hS : va_S (xA X) s.heap s.heap [] := va_S.rf
  have hf := hI.f
  have hn := hI.n
  have hk := hI.k
  have hcs := hI.cs
  have ht := hI.t
  have hbl := hI.b
  have hm := hI.m
  have hV := hI.V
  obtain ⟨H, hH⟩ : ∃ H, H = s.heap := ⟨_, rfl⟩
  obtain ⟨locs, hlo⟩ : ∃ z : List Loc, z = [] := ⟨_, rfl⟩
  suffices hgo : PW X S H → va_S (xA X) s.heap H locs → W p l e (rmd 0) s m args below meth c H locs 0 0 (MQ below (QcI X (nI (S 0 5)) (mNewBlock S v p0 set)) args s 0 0 (xA X)) (F0 m 0 ls []) by
    subst hH
    subst hlo
    exact hgo hP hS
  clear hP hS
  intro hP hS
  refine lv_aload_n hx hb d_M_newBlock_0 rfl (lv_at hl 0 rfl) ?_
  refine x_getM (v := .ref (X.2.2.2 5)) cf hK hP 10 (by decide) w_471 rfl d_M_newBlock_1 ?_
  refine lv_aload_n hx hb d_M_newBlock_4 rfl (lv_at hl 0 rfl) ?_
  refine x_getM (v := .int (nI (S 0 5))) cf hK hP 9 (by decide) w_470 rfl d_M_newBlock_5 ?_
  refine lv_iload_n hx hb d_M_newBlock_8 rfl (lv_at hl 1 rfl) ?_
  refine x_iast cf hK hD hP hS (ia5 X) (by omega) d_M_newBlock_9 (fun H locs hP hS => ?_)
  refine lv_aload_n hx hb d_M_newBlock_10 rfl (lv_at hl 0 rfl) ?_
  refine x_getM (v := .ref (X.2.2.2 6)) cf hK hP 11 (by decide) w_472 rfl d_M_newBlock_11 ?_
  refine lv_aload_n hx hb d_M_newBlock_14 rfl (lv_at hl 0 rfl) ?_
  refine x_getM (v := .int (nI (S 0 5))) cf hK hP 9 (by decide) w_470 rfl d_M_newBlock_15 ?_
  refine lv_iload_n hx hb d_M_newBlock_18 rfl (lv_at hl 2 rfl) ?_
  refine x_iast cf hK hD hP hS (ia6 X) (by omega) d_M_newBlock_19 (fun H locs hP hS => ?_)
  refine lv_aload_n hx hb d_M_newBlock_20 rfl (lv_at hl 0 rfl) ?_
  refine x_getM (v := .ref (X.2.2.2 7)) cf hK hP 12 (by decide) w_473 rfl d_M_newBlock_21 ?_
  refine lv_aload_n hx hb d_M_newBlock_24 rfl (lv_at hl 0 rfl) ?_
  refine x_getM (v := .int (nI (S 0 5))) cf hK hP 9 (by decide) w_470 rfl d_M_newBlock_25 ?_
  refine lv_iload_n hx hb d_M_newBlock_28 rfl (lv_at hl 3 rfl) ?_
  refine x_iast cf hK hD hP hS (ia7 X) (by omega) d_M_newBlock_29 (fun H locs hP hS => ?_)
  refine lv_aload_n hx hb d_M_newBlock_30 rfl (lv_at hl 0 rfl) ?_
  refine lv_dup hx hb d_M_newBlock_31 rfl ?_
  refine x_getM (v := .int (nI (S 0 5))) cf hK hP 9 (by decide) w_470 rfl d_M_newBlock_32 ?_
  refine lv_iconst (v := nI 1) hx hb d_M_newBlock_35 (by decide) ?_
  refine n_iadd hx hb d_M_newBlock_36 ?_
  refine x_putM cf hK hD hP hS 9 (by decide) w_470 rfl (by decide +kernel) 5 rfl d_M_newBlock_37 (fun H locs hP hS => ?_)
  refine lv_aload_n hx hb d_M_newBlock_40 rfl (lv_at hl 0 rfl) ?_
  refine x_getM (v := .int (nI ((S 0 5) + 1))) cf hK hP 9 (by decide) w_470 rfl d_M_newBlock_41 ?_
  refine lv_iconst (v := nI 1) hx hb d_M_newBlock_44 (by decide) ?_
  refine n_isub hx hb (by omega) d_M_newBlock_45 ?_
  exact x_iret cf hr hlk hP hS (by rw [show S 0 5 + 1 - 1 = S 0 5 by omega]) (rfl) d_M_newBlock_46
set_option maxRecDepth 100000 in
set_option maxHeartbeats 4000000 in
theorem k_M_takeOut (l : Launch) {X : WX} (hX : xInj X) {S : Nat → Nat → Nat} {V : Nat} (hI : IW V S) {i : Nat} (hi0 : i < S 0 6) : MetV l X y_M_takeOut (Cond.code y_M_takeOut c_M_takeOut 3 none :: Mst) 0 [.ref (X.2.2.2 0), .int (nI i)] S (mTake S i) := by
  refine MetV.of (by decide) (Nat.le_of_ble_eq_true rfl) ?_
  intro p e s m args below meth c cf hr hlk hP hK hN ls hl
  have hl : lv_has ls 3 [(0, .ref (X.2.2.2 0)), (1, .int (nI i))] := hl
  have hx := cf.1
  have hb := cf.2.1
  have hD := xD_of hX
  have hS : va_S (xA X) s.heap s.heap [] := va_S.rf
  have hf := hI.f
  have hn := hI.n
  have hk := hI.k
  have hcs := hI.cs
  have ht := hI.t
  have hbl := hI.b
  have hm := hI.m
  have hV := hI.V
  obtain ⟨H, hH⟩ : ∃ H, H = s.heap := ⟨_, rfl⟩
  obtain ⟨locs, hlo⟩ : ∃ z : List Loc, z = [] := ⟨_, rfl⟩
  suffices hgo : PW X S H → va_S (xA X) s.heap H locs → W p l e (rmd 0) s m args below meth c H locs 0 0 (MQ below (QcV X (mTake S i)) args s 0 0 (xA X)) (F0 m 0 ls []) by
    subst hH
    subst hlo
    exact hgo hP hS
  clear hP hS
  intro hP hS
  refine lv_aload_n hx hb d_M_takeOut_0 rfl (lv_at hl 0 rfl) ?_
  refine lv_dup hx hb d_M_takeOut_1 rfl ?_
  refine x_getM (v := .int (nI (S 0 6))) cf hK hP 14 (by decide) w_475 rfl d_M_takeOut_2 ?_
  refine lv_iconst (v := nI 1) hx hb d_M_takeOut_5 (by decide) ?_
  refine n_isub hx hb (by omega) d_M_takeOut_6 ?_
  refine x_putM cf hK hD hP hS 14 (by decide) w_475 rfl (by decide +kernel) 6 rfl d_M_takeOut_7 (fun H locs hP hS => ?_)
  refine lv_iload_n hx hb d_M_takeOut_10 rfl (lv_at hl 1 rfl) ?_
  refine lv_istore_n (lv' := [(2, .int (nI i)), (0, .ref (X.2.2.2 0)), (1, .int (nI i))]) hx hb d_M_takeOut_11 rfl hl (by decide) rfl (fun ls hl => ?_)
  have lp12 : ∀ (dm : Nat) (j : Nat) (T : Nat → Nat → Nat) (ls : Array Slot) (H : Heap) (locs : List Loc), lv_has ls 3 [(0, .ref (X.2.2.2 0)), (1, .int (nI i)), (2, .int (nI j))] → PW X T H → va_S (xA X) s.heap H locs → (i ≤ j ∧ j + 1 ≤ S 0 6) → (T 0 6 = S 0 6 - 1) → (T = itr mTakeF i (up2 S 0 6 (S 0 6 - 1)) (j - i)) → (S 0 6 - j = dm) → W p l e (rmd 0) s m args below meth c H locs 0 0 (MQ below (QcV X (mTake S i)) args s 0 0 (xA X)) (F0 m 12 ls []) := by
    intro dm
    induction dm using Nat.strongRecOn with | ind dm lp12 => ?_
    intro j T ls H locs hl hP hS hj hT6 hz hdm
    refine lv_iload_n hx hb d_M_takeOut_12 rfl (lv_at hl 2 rfl) ?_
    refine lv_aload_n hx hb d_M_takeOut_13 rfl (lv_at hl 0 rfl) ?_
    refine x_getM (v := .int (nI (T 0 6))) cf hK hP 14 (by decide) w_475 rfl d_M_takeOut_14 ?_
    refine n_icmp_ge (tgt := 96) hx hb d_M_takeOut_17 (by decide) (by omega) (by omega) (fun h1 => ?_) (fun h1 => ?_)
    · skip
      exact x_vret cf hr hlk hP hS (by rw [hz, show j - i = S 0 6 - 1 - i by omega]; rfl) d_M_takeOut_96
    · skip
      refine lv_aload_n hx hb d_M_takeOut_20 rfl (lv_at hl 0 rfl) ?_
      refine x_getM (v := .ref (X.2.2.2 9)) cf hK hP 16 (by decide) w_477 rfl d_M_takeOut_21 ?_
      refine lv_iload_n hx hb d_M_takeOut_24 rfl (lv_at hl 2 rfl) ?_
      refine lv_aload_n hx hb d_M_takeOut_25 rfl (lv_at hl 0 rfl) ?_
      refine x_getM (v := .ref (X.2.2.2 9)) cf hK hP 16 (by decide) w_477 rfl d_M_takeOut_26 ?_
      refine lv_iload_n hx hb d_M_takeOut_29 rfl (lv_at hl 2 rfl) ?_
      refine lv_iconst (v := nI 1) hx hb d_M_takeOut_30 (by decide) ?_
      refine n_iadd hx hb d_M_takeOut_31 ?_
      refine x_iald (v := (T 9 (j + 1))) cf hK hP (ia9 X) (by omega) rfl d_M_takeOut_32 ?_
      refine x_iast cf hK hD hP hS (ia9 X) (by omega) d_M_takeOut_33 (fun H locs hP hS => ?_)
      refine lv_aload_n hx hb d_M_takeOut_34 rfl (lv_at hl 0 rfl) ?_
      refine x_getM (v := .ref (X.2.2.2 11)) cf hK hP 18 (by decide) w_479 rfl d_M_takeOut_35 ?_
      refine lv_iload_n hx hb d_M_takeOut_38 rfl (lv_at hl 2 rfl) ?_
      refine lv_aload_n hx hb d_M_takeOut_39 rfl (lv_at hl 0 rfl) ?_
      refine x_getM (v := .ref (X.2.2.2 11)) cf hK hP 18 (by decide) w_479 rfl d_M_takeOut_40 ?_
      refine lv_iload_n hx hb d_M_takeOut_43 rfl (lv_at hl 2 rfl) ?_
      refine lv_iconst (v := nI 1) hx hb d_M_takeOut_44 (by decide) ?_
      refine n_iadd hx hb d_M_takeOut_45 ?_
      refine x_iald (v := (T 11 (j + 1))) cf hK hP (ia11 X) (by omega) (by simp [up2_at]) d_M_takeOut_46 ?_
      refine x_iast cf hK hD hP hS (ia11 X) (by omega) d_M_takeOut_47 (fun H locs hP hS => ?_)
      refine lv_aload_n hx hb d_M_takeOut_48 rfl (lv_at hl 0 rfl) ?_
      refine x_getM (v := .ref (X.2.2.2 10)) cf hK hP 17 (by decide) w_478 rfl d_M_takeOut_49 ?_
      refine lv_iload_n hx hb d_M_takeOut_52 rfl (lv_at hl 2 rfl) ?_
      refine lv_aload_n hx hb d_M_takeOut_53 rfl (lv_at hl 0 rfl) ?_
      refine x_getM (v := .ref (X.2.2.2 10)) cf hK hP 17 (by decide) w_478 rfl d_M_takeOut_54 ?_
      refine lv_iload_n hx hb d_M_takeOut_57 rfl (lv_at hl 2 rfl) ?_
      refine lv_iconst (v := nI 1) hx hb d_M_takeOut_58 (by decide) ?_
      refine n_iadd hx hb d_M_takeOut_59 ?_
      refine x_iald (v := (T 10 (j + 1))) cf hK hP (ia10 X) (by omega) (by simp [up2_at]) d_M_takeOut_60 ?_
      refine x_iast cf hK hD hP hS (ia10 X) (by omega) d_M_takeOut_61 (fun H locs hP hS => ?_)
      refine lv_aload_n hx hb d_M_takeOut_62 rfl (lv_at hl 0 rfl) ?_
      refine x_getM (v := .ref (X.2.2.2 12)) cf hK hP 19 (by decide) w_480 rfl d_M_takeOut_63 ?_
      refine lv_iload_n hx hb d_M_takeOut_66 rfl (lv_at hl 2 rfl) ?_
      refine lv_aload_n hx hb d_M_takeOut_67 rfl (lv_at hl 0 rfl) ?_
      refine x_getM (v := .ref (X.2.2.2 12)) cf hK hP 19 (by decide) w_480 rfl d_M_takeOut_68 ?_
      refine lv_iload_n hx hb d_M_takeOut_71 rfl (lv_at hl 2 rfl) ?_
      refine lv_iconst (v := nI 1) hx hb d_M_takeOut_72 (by decide) ?_
      refine n_iadd hx hb d_M_takeOut_73 ?_
      refine x_iald (v := (T 12 (j + 1))) cf hK hP (ia12 X) (by omega) (by simp [up2_at]) d_M_takeOut_74 ?_
      refine x_iast cf hK hD hP hS (ia12 X) (by omega) d_M_takeOut_75 (fun H locs hP hS => ?_)
      refine lv_aload_n hx hb d_M_takeOut_76 rfl (lv_at hl 0 rfl) ?_
      refine x_getM (v := .ref (X.2.2.2 13)) cf hK hP 20 (by decide) w_481 rfl d_M_takeOut_77 ?_
      refine lv_iload_n hx hb d_M_takeOut_80 rfl (lv_at hl 2 rfl) ?_
      refine lv_aload_n hx hb d_M_takeOut_81 rfl (lv_at hl 0 rfl) ?_
      refine x_getM (v := .ref (X.2.2.2 13)) cf hK hP 20 (by decide) w_481 rfl d_M_takeOut_82 ?_
      refine lv_iload_n hx hb d_M_takeOut_85 rfl (lv_at hl 2 rfl) ?_
      refine lv_iconst (v := nI 1) hx hb d_M_takeOut_86 (by decide) ?_
      refine n_iadd hx hb d_M_takeOut_87 ?_
      refine x_iald (v := (T 13 (j + 1))) cf hK hP (ia13 X) (by omega) (by simp [up2_at]) d_M_takeOut_88 ?_
      refine x_iast cf hK hD hP hS (ia13 X) (by omega) d_M_takeOut_89 (fun H locs hP hS => ?_)
      refine n_iinc1 (lv' := [(2, .int (nI (j + 1))), (0, .ref (X.2.2.2 0)), (1, .int (nI i))]) (k := 2) hx hb d_M_takeOut_90 hl rfl (by decide) rfl (fun ls hl => ?_)
      refine lv_goto (tgt := 12) hx hb d_M_takeOut_93 (by decide) ?_
      exact lp12 _ (by omega) (j + 1) (up2 (up2 (up2 (up2 (up2 T 9 j (T 9 (j + 1))) 11 j (T 11 (j + 1))) 10 j (T 10 (j + 1))) 12 j (T 12 (j + 1))) 13 j (T 13 (j + 1))) ls H locs (lv_sub hl [1, 2, 0] rfl) hP hS (by omega) (by simp [up2_at]; exact hT6) (by rw [itr_b _ _ hj.1, ← hz]; rfl) rfl
  exact lp12 _ i (up2 S 0 6 ((S 0 6) - 1)) ls H locs (lv_sub hl [1, 2, 0] rfl) hP hS (by omega) (by simp [up2_at]) (by rw [Nat.sub_self]; rfl) rfl
end
section
theorem mEnter_ne {S : Nat → Nat → Nat} {r v row : Nat} (h1 : row ≠ 14) (h2 : row ≠ 15) : mEnter S r v row = S row := by
  unfold mEnter
  rw [up2_ne _ _ _ h2, up2_ne _ _ _ h1]
theorem mSee_ne {S : Nat → Nat → Nat} {r x row : Nat} (h1 : row ≠ 14) (h2 : row ≠ 15) (h3 : row ≠ 16) (h4 : row ≠ 19) : mSee S r x row = S row := by
  unfold mSee
  split
  · rw [up2_ne _ _ _ h4]
  · rw [up2_ne _ _ _ h3, mEnter_ne h1 h2, up2_ne _ _ _ h4]
theorem mGP1_ne {S : Nat → Nat → Nat} {r b row : Nat} (h1 : row ≠ 14) (h2 : row ≠ 15) (h3 : row ≠ 16) (h4 : row ≠ 19) : mGP1 S r b row = S row := by
  unfold mGP1
  split
  · rw [mEnter_ne h1 h2, mSee_ne h1 h2 h3 h4]
  · rw [mSee_ne h1 h2 h3 h4]
theorem itr_lt {f : Nat → Nat → Nat} {i N : Nat} (h0 : 0 < N) (hf : ∀ b z, z < N → f b z < N) : ∀ k, itr f i 0 k < N
  | 0 => h0
  | k + 1 => hf _ _ (itr_lt h0 hf k)
theorem mLock_lt {V : Nat} {S : Nat → Nat → Nat} (h : IW V S) (r : Nat) : mLock S r < 40 := itr_lt (by decide) (fun b z hz => by
  unfold mLockF
  split
  · exact (show S 6 b < 40 from h.c 6 b)
  · exact hz) _
theorem mTip_lt {V : Nat} {S : Nat → Nat → Nat} (h : IW V S) (r : Nat) : mTip S r < 40 := itr_lt (by decide) (fun b z hz => by
  unfold mTipF
  split
  · exact (show S 6 (S 6 b) < 40 from h.c 6 (S 6 b))
  · exact hz) _
theorem mHigh_lt {V : Nat} {S : Nat → Nat → Nat} (h : IW V S) (r : Nat) : mHigh S r < S 0 5 := by
  have hb := h.b
  have key : ∀ k, itr (mHighF S r) 1 0 k ≤ k := by
    intro k
    induction k with
    | zero => exact Nat.le_refl _
    | succ k ih =>
      rw [itr_s]
      generalize itr (mHighF S r) 1 0 k = z at ih ⊢
      unfold mHighF
      split
      · omega
      · omega
  have := key (S 0 5 - 1)
  unfold mHigh
  omega
theorem mPush_lt {V : Nat} {S : Nat → Nat → Nat} (h : IW V S) (r : Nat) : mPush S r < 2147483648 := itr_lt (by decide) (fun b z hz => by
  unfold mPushF
  split
  · exact (show S 21 (7 * r + b) < 2147483648 ∧ _ from h.c 21 (7 * r + b)).1
  · exact hz) _
theorem mLeader_lt {V : Nat} {S : Nat → Nat → Nat} (h : IW V S) (v : Nat) : mLeader S v < S 0 1 := Nat.mod_lt _ (by have := h.n; omega)
/-- how many corrupt there are below q -/
theorem cnt_corrupt {S : Nat → Nat → Nat} {r v : Nat} (hc : ∀ q, q < 7 → S 0 3 / 2 ^ q % 2 = 0 → S 21 (7 * r + q) < v) : ∀ k, k ≤ 7 → itr (mCntF S r v) 0 0 k ≤ itr (fun i acc => acc + S 0 3 / 2 ^ i % 2) 0 0 k
  | 0, _ => Nat.le_refl _
  | k + 1, hk => by
    have ih := cnt_corrupt hc k (by omega)
    rw [itr_z, itr_z]
    have h01 := bt01 (S 0 3) k
    generalize itr (mCntF S r v) 0 0 k = z at ih ⊢
    unfold mCntF
    by_cases h : v ≤ S 21 (7 * r + k)
    · rw [if_pos h]
      have : ¬ S 0 3 / 2 ^ k % 2 = 0 := fun q => by
        have := hc k (by omega) q
        omega
      omega
    · rw [if_neg h]
      omega
theorem itr_mono (a : Nat) : ∀ k d, itr (fun i acc => acc + a / 2 ^ i % 2) 0 0 k ≤ itr (fun i acc => acc + a / 2 ^ i % 2) 0 0 (k + d)
  | k, 0 => Nat.le_refl _
  | k, d + 1 => Nat.le_trans (itr_mono a k d) (by rw [← Nat.add_assoc, itr_z]; exact Nat.le_add_right _ _)
/-- the view pushed for is one that a correct replica spoke for -/
theorem mPush_le {V : Nat} {S : Nat → Nat → Nat} (h : IW V S) {r : Nat} (hr : r < 7) : mPush S r ≤ V := by
  have hn := h.n
  have hf := h.f
  have hq := h.cq
  have key : ∀ k, itr (mPushF S r) 0 0 k ≤ V := by
    intro k
    induction k with
    | zero => exact Nat.zero_le _
    | succ k ih =>
      rw [itr_z]
      unfold mPushF
      split
      · rename_i hc
        apply Classical.byContradiction
        intro hV
        have h1 := cnt_corrupt (S := S) (r := r) (v := S 21 (7 * r + k)) (fun q hq7 hq0 => by
          have := (show S 21 (7 * r + q) < 2147483648 ∧ (7 * r + q < 49 → S 0 3 / 2 ^ ((7 * r + q) % 7) % 2 = 0 → S 21 (7 * r + q) ≤ V) from h.c 21 (7 * r + q)).2 (by omega) (by rw [show (7 * r + q) % 7 = q by omega]; exact hq0)
          omega) (S 0 1) (by omega)
        have h2 := itr_mono (S 0 3) (S 0 1) (7 - S 0 1)
        rw [show S 0 1 + (7 - S 0 1) = 7 by omega] at h2
        have h3 : mSize (S 0 3) = itr (fun i acc => acc + S 0 3 / 2 ^ i % 2) 0 0 7 := rfl
        have h4 := hc.1
        unfold mCnt at h4
        omega
      · exact ih
  exact key _
theorem p2_128 : ∀ r, r < 7 → 1 * 2 ^ r < 128 := by decide
theorem p2_24 : ∀ r, r < 24 → 1 * 2 ^ r < 16777216 := by decide
set_option maxRecDepth 100000 in
set_option maxHeartbeats 4000000 in
theorem k_M_getProposal (l : Launch) {X : WX} (hX : xInj X) {S : Nat → Nat → Nat} {V : Nat} (hI : IW V S) {r : Nat} (hr0 : r < 7) {b : Nat} (hb0 : b < S 0 5) : MetV l X y_M_getProposal (Cond.code y_M_getProposal c_M_getProposal 7 none :: Mst) 2 [.ref (X.2.2.2 0), .int (nI r), .int (nI b)] S (mGetProposal S r b) := by
  refine MetV.of (by decide) (Nat.le_of_ble_eq_true rfl) ?_
  intro p e s m args below meth c cf hr hlk hP hK hN ls hl
  have hl : lv_has ls 7 [(0, .ref (X.2.2.2 0)), (1, .int (nI r)), (2, .int (nI b))] := hl
  have hx := cf.1
  have hb := cf.2.1
  have hD := xD_of hX
  have hS : va_S (xA X) s.heap s.heap [] := va_S.rf
  have hf := hI.f
  have hn := hI.n
  have hk := hI.k
  have hcs := hI.cs
  have ht := hI.t
  have hbl := hI.b
  have hm := hI.m
  have hV := hI.V
  obtain ⟨H, hH⟩ : ∃ H, H = s.heap := ⟨_, rfl⟩
  obtain ⟨locs, hlo⟩ : ∃ z : List Loc, z = [] := ⟨_, rfl⟩
  suffices hgo : PW X S H → va_S (xA X) s.heap H locs → W p l e (rmd 2) s m args below meth c H locs 0 0 (MQ below (QcV X (mGetProposal S r b)) args s 0 0 (xA X)) (F0 m 0 ls []) by
    subst hH
    subst hlo
    exact hgo hP hS
  clear hP hS
  intro hP hS
  refine lv_aload_n hx hb d_M_getProposal_0 rfl (lv_at hl 0 rfl) ?_
  refine x_getM (v := .ref (X.2.2.2 5)) cf hK hP 10 (by decide) w_471 rfl d_M_getProposal_1 ?_
  refine lv_iload_n hx hb d_M_getProposal_4 rfl (lv_at hl 2 rfl) ?_
  refine x_iald (v := (S 5 b)) cf hK hP (ia5 X) (by omega) rfl d_M_getProposal_5 ?_
  refine lv_istore_n (lv' := [(3, .int (nI (S 5 b))), (0, .ref (X.2.2.2 0)), (1, .int (nI r)), (2, .int (nI b))]) hx hb d_M_getProposal_6 rfl hl (by decide) rfl (fun ls hl => ?_)
  refine lv_aload_n hx hb d_M_getProposal_7 rfl (lv_at hl 1 rfl) ?_
  refine x_getM (v := .ref (X.2.2.2 6)) cf hK hP 11 (by decide) w_472 rfl d_M_getProposal_8 ?_
  refine lv_iload_n hx hb d_M_getProposal_11 rfl (lv_at hl 3 rfl) ?_
  refine x_iald (v := (S 6 b)) cf hK hP (ia6 X) (by omega) rfl d_M_getProposal_12 ?_
  refine lv_istore (lv' := [(4, .int (nI (S 6 b))), (3, .int (nI (S 5 b))), (0, .ref (X.2.2.2 0)), (1, .int (nI r)), (2, .int (nI b))]) hx hb d_M_getProposal_13 hl (by decide) rfl (fun ls hl => ?_)
  refine lv_aload_n hx hb d_M_getProposal_15 rfl (lv_at hl 2 rfl) ?_
  refine lv_iload_n hx hb d_M_getProposal_16 rfl (lv_at hl 3 rfl) ?_
  refine lv_iload hx hb d_M_getProposal_17 (lv_at hl 0 rfl) ?_
  refine x_callVv (As := [.int (nI r), .int (nI (S 6 b))]) (rest := []) cf hK hN hP hS (k_M_see l hX hI (by omega) (by have := (show S 6 b < 40 from hI.c 6 b); omega)) (cw_M_see cf.2.2.2.2 w_619 ⟨Nat.le_of_ble_eq_true rfl, Nat.le_of_ble_eq_true rfl⟩) (rv_M hK hP) hl.1 rfl rfl (Nat.le_of_ble_eq_true rfl) ⟨Nat.zero_le _, Nat.zero_le _⟩ d_M_getProposal_19 (fun H locs hP hS => ?_)
  obtain ⟨T1, hT1⟩ : ∃ z, z = (mSee S r (S 6 b)) := ⟨_, rfl⟩
  rw [← hT1] at hP
  have hI1 : IW V T1 := by rw [hT1]; exact hI.see
  have cut38 : ∀ (T2 : Nat → Nat → Nat) (ls : Array Slot) (H : Heap) (locs : List Loc), lv_has ls 7 [(0, .ref (X.2.2.2 0)), (1, .int (nI r)), (2, .int (nI b)), (3, .int (nI (S 5 b))), (4, .int (nI (S 6 b)))] → PW X T2 H → va_S (xA X) s.heap H locs → (IW V T2) → (T2 = mGP1 S r b) → (T2 5 = S 5) → (T2 6 = S 6) → W p l e (rmd 2) s m args below meth c H locs 0 0 (MQ below (QcV X (mGetProposal S r b)) args s 0 0 (xA X)) (F0 m 38 ls []) := by
    intro T2 ls H locs hl hP hS hI2 hG h25 h26
    have hbl2 := hI2.b
    have hn2 := hI2.n
    have hk2 := hI2.k
    refine lv_aload_n hx hb d_M_getProposal_38 rfl (lv_at hl 0 rfl) ?_
    refine lv_iload_n hx hb d_M_getProposal_39 rfl (lv_at hl 1 rfl) ?_
    refine x_callVi (As := [.int (nI r)]) (rest := []) cf hK hN hP hS (k_M_lock l hX hI2 (by omega)) (cw_M_lock cf.2.2.2.2 w_623 ⟨Nat.le_of_ble_eq_true rfl, Nat.le_of_ble_eq_true rfl⟩) (rv_M hK hP) hl.1 rfl rfl (Nat.le_of_ble_eq_true rfl) ⟨Nat.zero_le _, Nat.zero_le _⟩ d_M_getProposal_40 (fun H locs hP hS => ?_)
    have hlk0 := mLock_lt hI2 r
    refine lv_istore (lv' := [(5, .int (nI (mLock T2 r))), (0, .ref (X.2.2.2 0)), (1, .int (nI r)), (2, .int (nI b)), (3, .int (nI (S 5 b))), (4, .int (nI (S 6 b)))]) hx hb d_M_getProposal_43 hl (by decide) rfl (fun ls hl => ?_)
    refine lv_aload_n hx hb d_M_getProposal_45 rfl (lv_at hl 1 rfl) ?_
    refine x_getM (v := .ref (X.2.2.2 14)) cf hK hP 21 (by decide) w_482 rfl d_M_getProposal_46 ?_
    refine lv_iload_n hx hb d_M_getProposal_49 rfl (lv_at hl 2 rfl) ?_
    refine x_iald (v := (T2 14 r)) cf hK hP (ia14 X) (by omega) rfl d_M_getProposal_50 ?_
    refine lv_iload_n hx hb d_M_getProposal_51 rfl (lv_at hl 4 rfl) ?_
    refine n_icmp_ne (tgt := 92) hx hb d_M_getProposal_52 (by decide) (by have := (show T2 14 r ≤ V ∧ (r < T2 0 1 → 1 ≤ T2 14 r) from hI2.c 14 r); omega) (by have := (show S 5 b + 1 ≤ V from hI.c 5 b); omega) (fun h1 => ?_) (fun h1 => ?_)
    · skip
      exact x_vret cf hr hlk hP hS (by unfold mGetProposal; rw [← hG, if_neg (by unfold mVotes; rw [h25, decide_eq_false (by assumption)]; simp)]) d_M_getProposal_92
    · skip
      refine lv_aload_n hx hb d_M_getProposal_55 rfl (lv_at hl 1 rfl) ?_
      refine x_getM (v := .ref (X.2.2.2 17)) cf hK hP 24 (by decide) w_485 rfl d_M_getProposal_56 ?_
      refine lv_iload_n hx hb d_M_getProposal_59 rfl (lv_at hl 2 rfl) ?_
      refine x_iald (v := (T2 17 r)) cf hK hP (ia17 X) (by omega) rfl d_M_getProposal_60 ?_
      refine lv_iload_n hx hb d_M_getProposal_61 rfl (lv_at hl 4 rfl) ?_
      refine n_icmp_ge (tgt := 92) hx hb d_M_getProposal_62 (by decide) (by have := (show T2 17 r ≤ V from hI2.c 17 r); omega) (by have := (show S 5 b + 1 ≤ V from hI.c 5 b); omega) (fun h2 => ?_) (fun h2 => ?_)
      · skip
        exact x_vret cf hr hlk hP hS (by unfold mGetProposal; rw [← hG, if_neg (by unfold mVotes; rw [h25, decide_eq_false (p := T2 17 r < S 5 b) (by omega)]; simp)]) d_M_getProposal_92
      · skip
        refine lv_aload_n hx hb d_M_getProposal_65 rfl (lv_at hl 1 rfl) ?_
        refine lv_iload hx hb d_M_getProposal_66 (lv_at hl 0 rfl) ?_
        refine lv_iload_n hx hb d_M_getProposal_68 rfl (lv_at hl 3 rfl) ?_
        refine x_callVi (As := [.int (nI (mLock T2 r)), .int (nI b)]) (rest := []) cf hK hN hP hS (k_M_inChain l hX hI2 (by omega) (by omega)) (cw_M_inChain cf.2.2.2.2 w_627 ⟨Nat.le_of_ble_eq_true rfl, Nat.le_of_ble_eq_true rfl⟩) (rv_M hK hP) hl.1 rfl rfl (Nat.le_of_ble_eq_true rfl) ⟨Nat.zero_le _, Nat.zero_le _⟩ d_M_getProposal_69 (fun H locs hP hS => ?_)
        have hv2 : mVotes T2 r b = (decide (T2 14 r = S 5 b) && decide (T2 17 r < S 5 b) && (mInC T2 (mLock T2 r) 40 b || decide (T2 5 (mLock T2 r) < T2 5 (S 6 b)))) := by unfold mVotes; rw [h25, h26]
        refine n_if_ne (tgt := 93) hx hb d_M_getProposal_72 (by decide) (tnat_lt _) (fun h3 => ?_) (fun h3 => ?_)
        · skip
          refine lv_aload_n hx hb d_M_getProposal_93 rfl (lv_at hl 1 rfl) ?_
          refine x_getM (v := .ref (X.2.2.2 17)) cf hK hP 24 (by decide) w_485 rfl d_M_getProposal_94 ?_
          refine lv_iload_n hx hb d_M_getProposal_97 rfl (lv_at hl 2 rfl) ?_
          refine lv_iload_n hx hb d_M_getProposal_98 rfl (lv_at hl 4 rfl) ?_
          refine x_iast cf hK hD hP hS (ia17 X) (by omega) d_M_getProposal_99 (fun H locs hP hS => ?_)
          refine lv_aload_n hx hb d_M_getProposal_100 rfl (lv_at hl 1 rfl) ?_
          refine x_getM (v := .ref (X.2.2.2 8)) cf hK hP 13 (by decide) w_474 rfl d_M_getProposal_101 ?_
          refine lv_iload_n hx hb d_M_getProposal_104 rfl (lv_at hl 3 rfl) ?_
          refine lv_dup2_11 hx hb d_M_getProposal_105 rfl rfl ?_
          refine x_iald (v := (T2 8 b)) cf hK hP (ia8 X) (by omega) (by simp [up2_at]) d_M_getProposal_106 ?_
          refine lv_iconst (v := nI 1) hx hb d_M_getProposal_107 (by decide) ?_
          refine lv_iload_n hx hb d_M_getProposal_108 rfl (lv_at hl 2 rfl) ?_
          refine n_ishl hx hb (by omega) (by have := p2_128 r (by omega); omega) d_M_getProposal_109 ?_
          refine n_ior hx hb d_M_getProposal_110 ?_
          refine x_iast cf hK hD hP hS (ia8 X) (by omega) d_M_getProposal_111 (fun H locs hP hS => ?_)
          refine lv_aload_n hx hb d_M_getProposal_112 rfl (lv_at hl 1 rfl) ?_
          refine lv_iload_n hx hb d_M_getProposal_113 rfl (lv_at hl 4 rfl) ?_
          refine lv_iconst (v := nI 1) hx hb d_M_getProposal_114 (by decide) ?_
          refine n_iadd hx hb d_M_getProposal_115 ?_
          refine x_callVi (As := [.int (nI ((S 5 b) + 1))]) (rest := []) cf hK hN hP hS (k_M_leader l hX ((hI2.up (k := 17) (j := r) (v := S 5 b) (by decide) (show S 5 b ≤ V by have := (show S 5 b + 1 ≤ V from hI.c 5 b); omega)).up (k := 8) (j := b) (by decide) (show (T2 8 b ||| 1 * 2 ^ r) < 128 from or_lt128 (hI2.c 8 b) (p2_128 r hr0))) ((S 5 b) + 1) (by have := (show S 5 b + 1 ≤ V from hI.c 5 b); omega)) (cw_M_leader cf.2.2.2.2 w_575 ⟨Nat.le_of_ble_eq_true rfl, Nat.le_of_ble_eq_true rfl⟩) (rv_M hK hP) hl.1 rfl rfl (Nat.le_of_ble_eq_true rfl) ⟨Nat.zero_le _, Nat.zero_le _⟩ d_M_getProposal_116 (fun H locs hP hS => ?_)
          have hle := mLeader_lt hI2 (S 5 b + 1)
          refine lv_istore (lv' := [(6, .int (nI (mLeader (up2 (up2 T2 17 r (S 5 b)) 8 b ((T2 8 b) ||| (1 * (2 ^ r)))) ((S 5 b) + 1)))), (5, .int (nI (mLock T2 r))), (0, .ref (X.2.2.2 0)), (1, .int (nI r)), (2, .int (nI b)), (3, .int (nI (S 5 b))), (4, .int (nI (S 6 b)))]) hx hb d_M_getProposal_119 hl (by decide) rfl (fun ls hl => ?_)
          refine lv_aload_n hx hb d_M_getProposal_121 rfl (lv_at hl 2 rfl) ?_
          refine lv_iconst (v := nI 1) hx hb d_M_getProposal_122 (by decide) ?_
          refine lv_iload_n hx hb d_M_getProposal_123 rfl (lv_at hl 3 rfl) ?_
          refine lv_iload hx hb d_M_getProposal_124 (lv_at hl 0 rfl) ?_
          refine lv_iload_n hx hb d_M_getProposal_126 rfl (lv_at hl 4 rfl) ?_
          refine lv_iconst (v := nI 0) hx hb d_M_getProposal_127 (by decide) ?_
          refine x_callVv (As := [.int (nI 1), .int (nI r), .int (nI (mLeader (up2 (up2 T2 17 r (S 5 b)) 8 b ((T2 8 b) ||| (1 * (2 ^ r)))) ((S 5 b) + 1))), .int (nI b), .int (nI 0)]) (rest := []) cf hK hN hP hS (k_M_send l hX ((hI2.up (k := 17) (j := r) (v := S 5 b) (by decide) (show S 5 b ≤ V by have := (show S 5 b + 1 ≤ V from hI.c 5 b); omega)).up (k := 8) (j := b) (by decide) (show (T2 8 b ||| 1 * 2 ^ r) < 128 from or_lt128 (hI2.c 8 b) (p2_128 r hr0))) 1 r (mLeader (up2 (up2 T2 17 r (S 5 b)) 8 b ((T2 8 b) ||| (1 * (2 ^ r)))) ((S 5 b) + 1)) b 0) (cw_M_send cf.2.2.2.2 w_591 ⟨Nat.le_of_ble_eq_true rfl, Nat.le_of_ble_eq_true rfl⟩) (rv_M hK hP) hl.1 rfl rfl (Nat.le_of_ble_eq_true rfl) ⟨Nat.zero_le _, Nat.zero_le _⟩ d_M_getProposal_128 (fun H locs hP hS => ?_)
          exact x_vret cf hr hlk hP hS (by unfold mGetProposal; rw [← hG, if_pos (by rw [hv2, tnat_1 (b := mInC T2 (mLock T2 r) 40 b) (by assumption), decide_eq_true (p := T2 14 r = S 5 b) (by omega), decide_eq_true (p := T2 17 r < S 5 b) (by omega)]; rfl)]; rfl) d_M_getProposal_131
        · skip
          refine lv_aload_n hx hb d_M_getProposal_75 rfl (lv_at hl 1 rfl) ?_
          refine x_getM (v := .ref (X.2.2.2 5)) cf hK hP 10 (by decide) w_471 rfl d_M_getProposal_76 ?_
          refine lv_iload hx hb d_M_getProposal_79 (lv_at hl 5 rfl) ?_
          refine x_iald (v := (T2 5 (S 6 b))) cf hK hP (ia5 X) (by have := (show S 6 b < 40 from hI.c 6 b); omega) rfl d_M_getProposal_81 ?_
          refine lv_aload_n hx hb d_M_getProposal_82 rfl (lv_at hl 1 rfl) ?_
          refine x_getM (v := .ref (X.2.2.2 5)) cf hK hP 10 (by decide) w_471 rfl d_M_getProposal_83 ?_
          refine lv_iload hx hb d_M_getProposal_86 (lv_at hl 0 rfl) ?_
          refine x_iald (v := (T2 5 (mLock T2 r))) cf hK hP (ia5 X) (by omega) rfl d_M_getProposal_88 ?_
          refine n_icmp_gt (tgt := 93) hx hb d_M_getProposal_89 (by decide) (by have := (show S 6 b < 40 from hI.c 6 b); have := (show T2 5 (S 6 b) + 1 ≤ V from hI2.c 5 (S 6 b)); omega) (by have := (show T2 5 (mLock T2 r) + 1 ≤ V from hI2.c 5 (mLock T2 r)); omega) (fun h4 => ?_) (fun h4 => ?_)
          · skip
            refine lv_aload_n hx hb d_M_getProposal_93 rfl (lv_at hl 1 rfl) ?_
            refine x_getM (v := .ref (X.2.2.2 17)) cf hK hP 24 (by decide) w_485 rfl d_M_getProposal_94 ?_
            refine lv_iload_n hx hb d_M_getProposal_97 rfl (lv_at hl 2 rfl) ?_
            refine lv_iload_n hx hb d_M_getProposal_98 rfl (lv_at hl 4 rfl) ?_
            refine x_iast cf hK hD hP hS (ia17 X) (by omega) d_M_getProposal_99 (fun H locs hP hS => ?_)
            refine lv_aload_n hx hb d_M_getProposal_100 rfl (lv_at hl 1 rfl) ?_
            refine x_getM (v := .ref (X.2.2.2 8)) cf hK hP 13 (by decide) w_474 rfl d_M_getProposal_101 ?_
            refine lv_iload_n hx hb d_M_getProposal_104 rfl (lv_at hl 3 rfl) ?_
            refine lv_dup2_11 hx hb d_M_getProposal_105 rfl rfl ?_
            refine x_iald (v := (T2 8 b)) cf hK hP (ia8 X) (by omega) (by simp [up2_at]) d_M_getProposal_106 ?_
            refine lv_iconst (v := nI 1) hx hb d_M_getProposal_107 (by decide) ?_
            refine lv_iload_n hx hb d_M_getProposal_108 rfl (lv_at hl 2 rfl) ?_
            refine n_ishl hx hb (by omega) (by have := p2_128 r (by omega); omega) d_M_getProposal_109 ?_
            refine n_ior hx hb d_M_getProposal_110 ?_
            refine x_iast cf hK hD hP hS (ia8 X) (by omega) d_M_getProposal_111 (fun H locs hP hS => ?_)
            refine lv_aload_n hx hb d_M_getProposal_112 rfl (lv_at hl 1 rfl) ?_
            refine lv_iload_n hx hb d_M_getProposal_113 rfl (lv_at hl 4 rfl) ?_
            refine lv_iconst (v := nI 1) hx hb d_M_getProposal_114 (by decide) ?_
            refine n_iadd hx hb d_M_getProposal_115 ?_
            refine x_callVi (As := [.int (nI ((S 5 b) + 1))]) (rest := []) cf hK hN hP hS (k_M_leader l hX ((hI2.up (k := 17) (j := r) (v := S 5 b) (by decide) (show S 5 b ≤ V by have := (show S 5 b + 1 ≤ V from hI.c 5 b); omega)).up (k := 8) (j := b) (by decide) (show (T2 8 b ||| 1 * 2 ^ r) < 128 from or_lt128 (hI2.c 8 b) (p2_128 r hr0))) ((S 5 b) + 1) (by have := (show S 5 b + 1 ≤ V from hI.c 5 b); omega)) (cw_M_leader cf.2.2.2.2 w_575 ⟨Nat.le_of_ble_eq_true rfl, Nat.le_of_ble_eq_true rfl⟩) (rv_M hK hP) hl.1 rfl rfl (Nat.le_of_ble_eq_true rfl) ⟨Nat.zero_le _, Nat.zero_le _⟩ d_M_getProposal_116 (fun H locs hP hS => ?_)
            have hle := mLeader_lt hI2 (S 5 b + 1)
            refine lv_istore (lv' := [(6, .int (nI (mLeader (up2 (up2 T2 17 r (S 5 b)) 8 b ((T2 8 b) ||| (1 * (2 ^ r)))) ((S 5 b) + 1)))), (5, .int (nI (mLock T2 r))), (0, .ref (X.2.2.2 0)), (1, .int (nI r)), (2, .int (nI b)), (3, .int (nI (S 5 b))), (4, .int (nI (S 6 b)))]) hx hb d_M_getProposal_119 hl (by decide) rfl (fun ls hl => ?_)
            refine lv_aload_n hx hb d_M_getProposal_121 rfl (lv_at hl 2 rfl) ?_
            refine lv_iconst (v := nI 1) hx hb d_M_getProposal_122 (by decide) ?_
            refine lv_iload_n hx hb d_M_getProposal_123 rfl (lv_at hl 3 rfl) ?_
            refine lv_iload hx hb d_M_getProposal_124 (lv_at hl 0 rfl) ?_
            refine lv_iload_n hx hb d_M_getProposal_126 rfl (lv_at hl 4 rfl) ?_
            refine lv_iconst (v := nI 0) hx hb d_M_getProposal_127 (by decide) ?_
            refine x_callVv (As := [.int (nI 1), .int (nI r), .int (nI (mLeader (up2 (up2 T2 17 r (S 5 b)) 8 b ((T2 8 b) ||| (1 * (2 ^ r)))) ((S 5 b) + 1))), .int (nI b), .int (nI 0)]) (rest := []) cf hK hN hP hS (k_M_send l hX ((hI2.up (k := 17) (j := r) (v := S 5 b) (by decide) (show S 5 b ≤ V by have := (show S 5 b + 1 ≤ V from hI.c 5 b); omega)).up (k := 8) (j := b) (by decide) (show (T2 8 b ||| 1 * 2 ^ r) < 128 from or_lt128 (hI2.c 8 b) (p2_128 r hr0))) 1 r (mLeader (up2 (up2 T2 17 r (S 5 b)) 8 b ((T2 8 b) ||| (1 * (2 ^ r)))) ((S 5 b) + 1)) b 0) (cw_M_send cf.2.2.2.2 w_591 ⟨Nat.le_of_ble_eq_true rfl, Nat.le_of_ble_eq_true rfl⟩) (rv_M hK hP) hl.1 rfl rfl (Nat.le_of_ble_eq_true rfl) ⟨Nat.zero_le _, Nat.zero_le _⟩ d_M_getProposal_128 (fun H locs hP hS => ?_)
            exact x_vret cf hr hlk hP hS (by unfold mGetProposal; rw [← hG, if_pos (by rw [hv2, decide_eq_true (p := T2 14 r = S 5 b) (by omega), decide_eq_true (p := T2 17 r < S 5 b) (by omega), decide_eq_true (p := T2 5 (mLock T2 r) < T2 5 (S 6 b)) (by omega)]; simp)]; rfl) d_M_getProposal_131
          · skip
            exact x_vret cf hr hlk hP hS (by unfold mGetProposal; rw [← hG, if_neg (by rw [hv2, tnat_0 (b := mInC T2 (mLock T2 r) 40 b) (by assumption), decide_eq_false (p := T2 5 (mLock T2 r) < T2 5 (S 6 b)) (by omega)]; simp)]) d_M_getProposal_92
  refine lv_aload_n hx hb d_M_getProposal_22 rfl (lv_at hl 2 rfl) ?_
  refine x_getM (v := .ref (X.2.2.2 14)) cf hK hP 21 (by decide) w_482 rfl d_M_getProposal_23 ?_
  refine lv_iload_n hx hb d_M_getProposal_26 rfl (lv_at hl 3 rfl) ?_
  refine x_iald (v := (T1 14 r)) cf hK hP (ia14 X) (by omega) rfl d_M_getProposal_27 ?_
  refine lv_iload_n hx hb d_M_getProposal_28 rfl (lv_at hl 1 rfl) ?_
  refine n_icmp_ge (tgt := 38) hx hb d_M_getProposal_29 (by decide) (by have := (show T1 14 r ≤ V ∧ (r < T1 0 1 → 1 ≤ T1 14 r) from hI1.c 14 r); omega) (by have := (show S 5 b + 1 ≤ V from hI.c 5 b); omega) (fun h5 => ?_) (fun h5 => ?_)
  · skip
    exact cut38 T1 ls H locs (lv_sub hl [2, 3, 4, 1, 0] rfl) hP hS (hI1) (by unfold mGP1; rw [← hT1, if_neg (by omega)]) (by rw [hT1]; exact mSee_ne (by decide) (by decide) (by decide) (by decide)) (by rw [hT1]; exact mSee_ne (by decide) (by decide) (by decide) (by decide))
  · skip
    refine lv_aload_n hx hb d_M_getProposal_32 rfl (lv_at hl 2 rfl) ?_
    refine lv_iload_n hx hb d_M_getProposal_33 rfl (lv_at hl 3 rfl) ?_
    refine lv_iload_n hx hb d_M_getProposal_34 rfl (lv_at hl 1 rfl) ?_
    refine x_callVv (As := [.int (nI r), .int (nI (S 5 b))]) (rest := []) cf hK hN hP hS (k_M_enter l hX hI1 (by omega)) (cw_M_enter cf.2.2.2.2 w_599 ⟨Nat.le_of_ble_eq_true rfl, Nat.le_of_ble_eq_true rfl⟩) (rv_M hK hP) hl.1 rfl rfl (Nat.le_of_ble_eq_true rfl) ⟨Nat.zero_le _, Nat.zero_le _⟩ d_M_getProposal_35 (fun H locs hP hS => ?_)
    obtain ⟨T3, hT3⟩ : ∃ z, z = (mEnter T1 r (S 5 b)) := ⟨_, rfl⟩
    rw [← hT3] at hP
    have hI3 : IW V T3 := by rw [hT3]; exact hI1.enter (by omega) (by have := (show S 5 b + 1 ≤ V from hI.c 5 b); omega)
    exact cut38 T3 ls H locs (lv_sub hl [2, 3, 4, 1, 0] rfl) hP hS (hI3) (by unfold mGP1; rw [← hT1, if_pos (by omega)]; exact hT3) (by rw [hT3, hT1, mEnter_ne (by decide) (by decide)]; exact mSee_ne (by decide) (by decide) (by decide) (by decide)) (by rw [hT3, hT1, mEnter_ne (by decide) (by decide)]; exact mSee_ne (by decide) (by decide) (by decide) (by decide))
set_option maxRecDepth 100000 in
set_option maxHeartbeats 4000000 in
theorem k_M_getVote (l : Launch) {X : WX} (hX : xInj X) {S : Nat → Nat → Nat} {V : Nat} (hI : IW V S) {r : Nat} (hr0 : r < 7) {x b : Nat} (hx0 : x < 7) (hb0 : b < 40) : MetV l X y_M_getVote (Cond.code y_M_getVote c_M_getVote 4 none :: Mst) 2 [.ref (X.2.2.2 0), .int (nI r), .int (nI x), .int (nI b)] S (mGetVote S r x b) := by
  refine MetV.of (by decide) (Nat.le_of_ble_eq_true rfl) ?_
  intro p e s m args below meth c cf hr hlk hP hK hN ls hl
  have hl : lv_has ls 4 [(0, .ref (X.2.2.2 0)), (1, .int (nI r)), (2, .int (nI x)), (3, .int (nI b))] := hl
  have hx := cf.1
  have hb := cf.2.1
  have hD := xD_of hX
  have hS : va_S (xA X) s.heap s.heap [] := va_S.rf
  have hf := hI.f
  have hn := hI.n
  have hk := hI.k
  have hcs := hI.cs
  have ht := hI.t
  have hbl := hI.b
  have hm := hI.m
  have hV := hI.V
  obtain ⟨H, hH⟩ : ∃ H, H = s.heap := ⟨_, rfl⟩
  obtain ⟨locs, hlo⟩ : ∃ z : List Loc, z = [] := ⟨_, rfl⟩
  suffices hgo : PW X S H → va_S (xA X) s.heap H locs → W p l e (rmd 2) s m args below meth c H locs 0 0 (MQ below (QcV X (mGetVote S r x b)) args s 0 0 (xA X)) (F0 m 0 ls []) by
    subst hH
    subst hlo
    exact hgo hP hS
  clear hP hS
  intro hP hS
  refine lv_aload_n hx hb d_M_getVote_0 rfl (lv_at hl 0 rfl) ?_
  refine x_getM (v := .ref (X.2.2.2 20)) cf hK hP 27 (by decide) w_488 rfl d_M_getVote_1 ?_
  refine lv_bipush (v := nI 40) hx hb d_M_getVote_4 (by decide) ?_
  refine lv_iload_n hx hb d_M_getVote_6 rfl (lv_at hl 1 rfl) ?_
  refine n_imul hx hb d_M_getVote_7 ?_
  refine lv_iload_n hx hb d_M_getVote_8 rfl (lv_at hl 3 rfl) ?_
  refine n_iadd hx hb d_M_getVote_9 ?_
  refine lv_dup2_11 hx hb d_M_getVote_10 rfl rfl ?_
  refine x_iald (v := (S 20 ((40 * r) + b))) cf hK hP (ia20 X) (by omega) rfl d_M_getVote_11 ?_
  refine lv_iconst (v := nI 1) hx hb d_M_getVote_12 (by decide) ?_
  refine lv_iload_n hx hb d_M_getVote_13 rfl (lv_at hl 2 rfl) ?_
  refine n_ishl hx hb (by omega) (by have := p2_128 x (by omega); omega) d_M_getVote_14 ?_
  refine n_ior hx hb d_M_getVote_15 ?_
  refine x_iast cf hK hD hP hS (ia20 X) (by omega) d_M_getVote_16 (fun H locs hP hS => ?_)
  refine lv_aload_n hx hb d_M_getVote_17 rfl (lv_at hl 0 rfl) ?_
  refine x_getM (v := .ref (X.2.2.2 20)) cf hK hP 27 (by decide) w_488 rfl d_M_getVote_18 ?_
  refine lv_bipush (v := nI 40) hx hb d_M_getVote_21 (by decide) ?_
  refine lv_iload_n hx hb d_M_getVote_23 rfl (lv_at hl 1 rfl) ?_
  refine n_imul hx hb d_M_getVote_24 ?_
  refine lv_iload_n hx hb d_M_getVote_25 rfl (lv_at hl 3 rfl) ?_
  refine n_iadd hx hb d_M_getVote_26 ?_
  refine x_iald (v := ((S 20 ((40 * r) + b)) ||| (1 * (2 ^ x)))) cf hK hP (ia20 X) (by omega) (by simp [up2_at]) d_M_getVote_27 ?_
  refine x_callSi (As := [.int (nI ((S 20 ((40 * r) + b)) ||| (1 * (2 ^ x))))]) (rest := []) cf hK hN hP hS (k_M_size l hX ((S 20 ((40 * r) + b)) ||| (1 * (2 ^ x))) (Nat.lt_trans (or_lt128 (hI.c 20 (40 * r + b)) (p2_128 x hx0)) (by decide))) (cw_M_size cf.2.2.2.2 w_635 ⟨Nat.le_of_ble_eq_true rfl, Nat.le_of_ble_eq_true rfl⟩) hl.1 rfl rfl (Nat.le_of_ble_eq_true rfl) ⟨Nat.zero_le _, Nat.zero_le _⟩ d_M_getVote_28 (fun H locs hP hS => ?_)
  have hsz := mSize_le (S 20 (40 * r + b) ||| 1 * 2 ^ x)
  refine lv_iconst (v := nI 2) hx hb d_M_getVote_31 (by decide) ?_
  refine lv_aload_n hx hb d_M_getVote_32 rfl (lv_at hl 0 rfl) ?_
  refine x_getM (v := .int (nI (S 0 0))) cf hK hP 0 (by decide) w_461 rfl d_M_getVote_33 ?_
  refine n_imul hx hb d_M_getVote_36 ?_
  refine lv_iconst (v := nI 1) hx hb d_M_getVote_37 (by decide) ?_
  refine n_iadd hx hb d_M_getVote_38 ?_
  refine n_icmp_lt (tgt := 48) hx hb d_M_getVote_39 (by decide) (by omega) (by omega) (fun h1 => ?_) (fun h1 => ?_)
  · skip
    exact x_vret cf hr hlk hP hS (by unfold mGetVote; rw [if_neg (by omega)]) d_M_getVote_48
  · skip
    refine lv_aload_n hx hb d_M_getVote_42 rfl (lv_at hl 0 rfl) ?_
    refine lv_iload_n hx hb d_M_getVote_43 rfl (lv_at hl 1 rfl) ?_
    refine lv_iload_n hx hb d_M_getVote_44 rfl (lv_at hl 3 rfl) ?_
    refine x_callVv (As := [.int (nI r), .int (nI b)]) (rest := []) cf hK hN hP hS (k_M_see l hX (hI.up (k := 20) (j := 40 * r + b) (by decide) (show (S 20 (40 * r + b) ||| 1 * 2 ^ x) < 128 from or_lt128 (hI.c 20 (40 * r + b)) (p2_128 x hx0))) (by omega) (by omega)) (cw_M_see cf.2.2.2.2 w_619 ⟨Nat.le_of_ble_eq_true rfl, Nat.le_of_ble_eq_true rfl⟩) (rv_M hK hP) hl.1 rfl rfl (Nat.le_of_ble_eq_true rfl) ⟨Nat.zero_le _, Nat.zero_le _⟩ d_M_getVote_45 (fun H locs hP hS => ?_)
    exact x_vret cf hr hlk hP hS (by unfold mGetVote; rw [if_pos (by omega)]) d_M_getVote_48
set_option maxRecDepth 100000 in
set_option maxHeartbeats 4000000 in
theorem k_M_getNewView (l : Launch) {X : WX} (hX : xInj X) {S : Nat → Nat → Nat} {V : Nat} (hI : IW V S) {r : Nat} (hr0 : r < 7) {x b v : Nat} (hx0 : x < 7) (hb0 : b < 40) (hv0 : v < 2147483648) (hvc : S 0 3 / 2 ^ x % 2 = 0 → v ≤ V) : MetV l X y_M_getNewView (Cond.code y_M_getNewView c_M_getNewView 6 none :: Mst) 2 [.ref (X.2.2.2 0), .int (nI r), .int (nI x), .int (nI b), .int (nI v)] S (mGetNewView S r x b v) := by
  refine MetV.of (by decide) (Nat.le_of_ble_eq_true rfl) ?_
  intro p e s m args below meth c cf hr hlk hP hK hN ls hl
  have hl : lv_has ls 6 [(0, .ref (X.2.2.2 0)), (1, .int (nI r)), (2, .int (nI x)), (3, .int (nI b)), (4, .int (nI v))] := hl
  have hx := cf.1
  have hb := cf.2.1
  have hD := xD_of hX
  have hS : va_S (xA X) s.heap s.heap [] := va_S.rf
  have hf := hI.f
  have hn := hI.n
  have hk := hI.k
  have hcs := hI.cs
  have ht := hI.t
  have hbl := hI.b
  have hm := hI.m
  have hV := hI.V
  obtain ⟨H, hH⟩ : ∃ H, H = s.heap := ⟨_, rfl⟩
  obtain ⟨locs, hlo⟩ : ∃ z : List Loc, z = [] := ⟨_, rfl⟩
  suffices hgo : PW X S H → va_S (xA X) s.heap H locs → W p l e (rmd 2) s m args below meth c H locs 0 0 (MQ below (QcV X (mGetNewView S r x b v)) args s 0 0 (xA X)) (F0 m 0 ls []) by
    subst hH
    subst hlo
    exact hgo hP hS
  clear hP hS
  intro hP hS
  refine lv_aload_n hx hb d_M_getNewView_0 rfl (lv_at hl 0 rfl) ?_
  refine lv_iload_n hx hb d_M_getNewView_1 rfl (lv_at hl 1 rfl) ?_
  refine lv_iload_n hx hb d_M_getNewView_2 rfl (lv_at hl 3 rfl) ?_
  refine x_callVv (As := [.int (nI r), .int (nI b)]) (rest := []) cf hK hN hP hS (k_M_see l hX hI (by omega) (by omega)) (cw_M_see cf.2.2.2.2 w_619 ⟨Nat.le_of_ble_eq_true rfl, Nat.le_of_ble_eq_true rfl⟩) (rv_M hK hP) hl.1 rfl rfl (Nat.le_of_ble_eq_true rfl) ⟨Nat.zero_le _, Nat.zero_le _⟩ d_M_getNewView_3 (fun H locs hP hS => ?_)
  obtain ⟨T1, hT1⟩ : ∃ z, z = (mSee S r b) := ⟨_, rfl⟩
  rw [← hT1] at hP
  have hI1 : IW V T1 := by rw [hT1]; exact hI.see
  have cut35 : ∀ (T2 : Nat → Nat → Nat) (ls : Array Slot) (H : Heap) (locs : List Loc), lv_has ls 6 [(0, .ref (X.2.2.2 0)), (1, .int (nI r)), (2, .int (nI x)), (3, .int (nI b)), (4, .int (nI v))] → PW X T2 H → va_S (xA X) s.heap H locs → (IW V T2) → (T2 = mGN1 S r x b v) → W p l e (rmd 2) s m args below meth c H locs 0 0 (MQ below (QcV X (mGetNewView S r x b v)) args s 0 0 (xA X)) (F0 m 35 ls []) := by
    intro T2 ls H locs hl hP hS hI2 hG
    refine lv_aload_n hx hb d_M_getNewView_35 rfl (lv_at hl 0 rfl) ?_
    refine lv_iload_n hx hb d_M_getNewView_36 rfl (lv_at hl 1 rfl) ?_
    refine x_callVi (As := [.int (nI r)]) (rest := []) cf hK hN hP hS (k_M_push l hX hI2 (by omega)) (cw_M_push cf.2.2.2.2 w_583 ⟨Nat.le_of_ble_eq_true rfl, Nat.le_of_ble_eq_true rfl⟩) (rv_M hK hP) hl.1 rfl rfl (Nat.le_of_ble_eq_true rfl) ⟨Nat.zero_le _, Nat.zero_le _⟩ d_M_getNewView_37 (fun H locs hP hS => ?_)
    have hpu := mPush_lt hI2 r
    refine lv_istore (lv' := [(5, .int (nI (mPush T2 r))), (0, .ref (X.2.2.2 0)), (1, .int (nI r)), (2, .int (nI x)), (3, .int (nI b)), (4, .int (nI v))]) hx hb d_M_getNewView_40 hl (by decide) rfl (fun ls hl => ?_)
    refine lv_iload hx hb d_M_getNewView_42 (lv_at hl 0 rfl) ?_
    refine lv_aload_n hx hb d_M_getNewView_44 rfl (lv_at hl 1 rfl) ?_
    refine x_getM (v := .ref (X.2.2.2 14)) cf hK hP 21 (by decide) w_482 rfl d_M_getNewView_45 ?_
    refine lv_iload_n hx hb d_M_getNewView_48 rfl (lv_at hl 2 rfl) ?_
    refine x_iald (v := (T2 14 r)) cf hK hP (ia14 X) (by omega) rfl d_M_getNewView_49 ?_
    refine n_icmp_le (tgt := 60) hx hb d_M_getNewView_50 (by decide) (by omega) (by have := (show T2 14 r ≤ V ∧ (r < T2 0 1 → 1 ≤ T2 14 r) from hI2.c 14 r); omega) (fun h1 => ?_) (fun h1 => ?_)
    · skip
      exact x_vret cf hr hlk hP hS (by unfold mGetNewView; rw [← hG, if_neg (by omega)]) d_M_getNewView_60
    · skip
      refine lv_aload_n hx hb d_M_getNewView_53 rfl (lv_at hl 1 rfl) ?_
      refine lv_iload_n hx hb d_M_getNewView_54 rfl (lv_at hl 2 rfl) ?_
      refine lv_iload hx hb d_M_getNewView_55 (lv_at hl 0 rfl) ?_
      refine x_callVv (As := [.int (nI r), .int (nI (mPush T2 r))]) (rest := []) cf hK hN hP hS (k_M_enter l hX hI2 (by omega)) (cw_M_enter cf.2.2.2.2 w_599 ⟨Nat.le_of_ble_eq_true rfl, Nat.le_of_ble_eq_true rfl⟩) (rv_M hK hP) hl.1 rfl rfl (Nat.le_of_ble_eq_true rfl) ⟨Nat.zero_le _, Nat.zero_le _⟩ d_M_getNewView_57 (fun H locs hP hS => ?_)
      exact x_vret cf hr hlk hP hS (by unfold mGetNewView; rw [← hG, if_pos (by omega)]) d_M_getNewView_60
  refine lv_aload_n hx hb d_M_getNewView_6 rfl (lv_at hl 0 rfl) ?_
  refine x_getM (v := .ref (X.2.2.2 21)) cf hK hP 28 (by decide) w_489 rfl d_M_getNewView_7 ?_
  refine lv_bipush (v := nI 7) hx hb d_M_getNewView_10 (by decide) ?_
  refine lv_iload_n hx hb d_M_getNewView_12 rfl (lv_at hl 1 rfl) ?_
  refine n_imul hx hb d_M_getNewView_13 ?_
  refine lv_iload_n hx hb d_M_getNewView_14 rfl (lv_at hl 2 rfl) ?_
  refine n_iadd hx hb d_M_getNewView_15 ?_
  refine x_iald (v := (T1 21 ((7 * r) + x))) cf hK hP (ia21 X) (by omega) rfl d_M_getNewView_16 ?_
  refine lv_iload hx hb d_M_getNewView_17 (lv_at hl 4 rfl) ?_
  refine n_icmp_ge (tgt := 35) hx hb d_M_getNewView_19 (by decide) (by have := (show T1 21 ((7 * r) + x) < 2147483648 ∧ (((7 * r) + x) < 49 → T1 0 3 / 2 ^ (((7 * r) + x) % 7) % 2 = 0 → T1 21 ((7 * r) + x) ≤ V) from hI1.c 21 ((7 * r) + x)).1; omega) (by omega) (fun h2 => ?_) (fun h2 => ?_)
  · skip
    exact cut35 T1 ls H locs hl hP hS (hI1) (by unfold mGN1; rw [← hT1, if_neg (by omega)])
  · skip
    refine lv_aload_n hx hb d_M_getNewView_22 rfl (lv_at hl 0 rfl) ?_
    refine x_getM (v := .ref (X.2.2.2 21)) cf hK hP 28 (by decide) w_489 rfl d_M_getNewView_23 ?_
    refine lv_bipush (v := nI 7) hx hb d_M_getNewView_26 (by decide) ?_
    refine lv_iload_n hx hb d_M_getNewView_28 rfl (lv_at hl 1 rfl) ?_
    refine n_imul hx hb d_M_getNewView_29 ?_
    refine lv_iload_n hx hb d_M_getNewView_30 rfl (lv_at hl 2 rfl) ?_
    refine n_iadd hx hb d_M_getNewView_31 ?_
    refine lv_iload hx hb d_M_getNewView_32 (lv_at hl 4 rfl) ?_
    refine x_iast cf hK hD hP hS (ia21 X) (by omega) d_M_getNewView_34 (fun H locs hP hS => ?_)
    exact cut35 (up2 T1 21 ((7 * r) + x) v) ls H locs hl hP hS (hI1.up (k := 21) (by decide) ⟨hv0, fun _ q => hvc (by rw [show (7 * r + x) % 7 = x by omega, show T1 0 = S 0 by rw [hT1]; exact mSee_ne (by decide) (by decide) (by decide) (by decide)] at q; exact q)⟩) (by unfold mGN1; rw [← hT1, if_pos (by omega)])
end
section
-- masks
theorem mask_eq (a m : Nat) : nI a &&& (nI m ^^^ (-1)) = nI (a &&& (m ^^^ 4294967295)) := by
  apply Int32.toBitVec_inj.1
  show BitVec.ofNat 32 a &&& (BitVec.ofNat 32 m ^^^ BitVec.ofNat 32 4294967295) = BitVec.ofNat 32 (a &&& (m ^^^ 4294967295))
  apply BitVec.eq_of_getLsbD_eq
  intro i hi
  simp [hi]
theorem i_of32 (x : Int32) : ∃ a, a < 2 ^ 32 ∧ x = nI a := ⟨x.toBitVec.toNat, x.toBitVec.isLt, by
  apply Int32.toBitVec_inj.1
  show x.toBitVec = BitVec.ofNat 32 x.toBitVec.toNat
  simp⟩
theorem nI_z {a : Nat} (ha : a < 2 ^ 32) (h : nI a = 0) : a = 0 := by
  have h1 : (nI a).toBitVec.toNat = a := pk_tn ha
  rw [h] at h1
  exact h1.symm
theorem full_bit {i : Nat} : (4294967295 : Nat).testBit i = decide (i < 32) := by
  rw [show (4294967295 : Nat) = 2 ^ 32 - 1 from rfl, Nat.testBit_two_pow_sub_one]
theorem mask_bits {a k : Nat} (hk : k ≤ 31) (ha : a < 2 ^ 32) : a &&& ((1 * 2 ^ k - 1) ^^^ 4294967295) = 0 ↔ a < 2 ^ k := by
  rw [Nat.one_mul]
  constructor
  · intro h
    apply Nat.lt_pow_two_of_testBit
    intro i hi
    have h1 : (a &&& ((2 ^ k - 1) ^^^ 4294967295)).testBit i = false := by rw [h]; exact Nat.zero_testBit i
    rw [Nat.testBit_and, Nat.testBit_xor, Nat.testBit_two_pow_sub_one, full_bit] at h1
    by_cases h32 : i < 32
    · rw [decide_eq_false (show ¬ i < k by omega), decide_eq_true h32] at h1
      simpa using h1
    · exact Nat.testBit_lt_two_pow (Nat.lt_of_lt_of_le ha (Nat.pow_le_pow_right (by decide) (by omega)))
  · intro h
    apply Nat.eq_of_testBit_eq
    intro i
    rw [Nat.zero_testBit, Nat.testBit_and, Nat.testBit_xor, Nat.testBit_two_pow_sub_one, full_bit]
    by_cases hi : i < k
    · rw [decide_eq_true hi, decide_eq_true (show i < 32 by omega)]
      simp
    · rw [Nat.testBit_lt_two_pow (Nat.lt_of_lt_of_le h (Nat.pow_le_pow_right (by decide) (by omega)))]
      simp
theorem mask_iff {x : Int32} {k : Nat} (hk : k ≤ 30) : (x &&& (nI (1 * 2 ^ k - 1) ^^^ (-1))) = 0 ↔ 0 ≤ x.toInt ∧ x.toInt < ((2 ^ k : Nat) : Int) := by
  obtain ⟨a, ha, rfl⟩ := i_of32 x
  rw [mask_eq]
  have hlt : a &&& ((1 * 2 ^ k - 1) ^^^ 4294967295) < 2 ^ 32 := Nat.lt_of_le_of_lt Nat.and_le_left ha
  have h2k : 2 ^ k ≤ 2 ^ 30 := Nat.pow_le_pow_right (by decide) hk
  constructor
  · intro h
    have h1 := (mask_bits (by omega) ha).mp (nI_z hlt h)
    rw [nI_toInt (by omega)]
    omega
  · intro h
    have h1 : a < 2 ^ k := by
      by_cases h31 : a < 2 ^ 31
      · rw [nI_toInt h31] at h
        omega
      · have : (nI a).toInt < 0 := by
          apply Classical.byContradiction
          intro q
          obtain ⟨j, hj, hje, -⟩ := i_nat (x := nI a) (by omega)
          have e1 : (nI a).toBitVec.toNat = a := pk_tn ha
          have e2 : (nI j).toBitVec.toNat = j := pk_tn (by omega)
          rw [hje] at e1
          omega
        omega
    rw [(mask_bits (by omega) ha).mpr h1]
    rfl
-- answers and ends of the reference's calls
def rSubOk (S : Nat → Nat → Nat) (h fr to am : Int32) : Bool := decide ((0 ≤ h.toInt ∧ h.toInt < ((2 ^ S 0 1 : Nat) : Int)) ∧ (0 ≤ fr.toInt ∧ fr.toInt ≤ 3) ∧ (0 ≤ to.toInt ∧ to.toInt ≤ 3) ∧ ¬ fr = to ∧ (1 ≤ am.toInt ∧ am.toInt ≤ 1000) ∧ S 0 4 < 24)
def rSubmit (S : Nat → Nat → Nat) (h fr to am : Int32) : Int32 := if rSubOk S h fr to am = true then nI (S 0 4) else -1
def mSubmit (S : Nat → Nat → Nat) (h fr to am : Int32) : Nat → Nat → Nat := if rSubOk S h fr to am = true then up2 (up2 (up2 (up2 (up2 S 1 (S 0 4) h.toNatClampNeg) 2 (S 0 4) fr.toNatClampNeg) 3 (S 0 4) to.toNatClampNeg) 4 (S 0 4) am.toNatClampNeg) 0 4 (S 0 4 + 1) else S
def rMessage (S : Nat → Nat → Nat) (i : Int32) : Int32 := if 0 ≤ i.toInt ∧ i.toInt < (S 0 6 : Int) then nI (S 9 i.toNatClampNeg + 4 * S 10 i.toNatClampNeg + 32 * S 11 i.toNatClampNeg + 256 * S 12 i.toNatClampNeg) else -1
def rBlock (S : Nat → Nat → Nat) (b : Int32) : Int32 := if mBlock S b = true then nI (64 * S 5 b.toNatClampNeg + S 6 b.toNatClampNeg) else -1
def rPayload (S : Nat → Nat → Nat) (b : Int32) : Int32 := if mBlock S b = true then nI (S 7 b.toNatClampNeg) else -1
def rVotes (S : Nat → Nat → Nat) (b : Int32) : Int32 := if mBlock S b = true then nI (S 8 b.toNatClampNeg) else -1
def rMsg (S : Nat → Nat → Nat) (i : Int32) : Bool := decide (0 ≤ i.toInt ∧ i.toInt < (S 0 6 : Int))
def mDrop (S : Nat → Nat → Nat) (i : Int32) : Nat → Nat → Nat := if rMsg S i = true then mTake S i.toNatClampNeg else S
def rOffer (S : Nat → Nat → Nat) (b r : Int32) : Bool := decide (¬ S 0 3 = 0) && decide (¬ b.toInt = 0) && mBlock S b && mRep S r && decide (S 0 6 < 40)
def mOffer (S : Nat → Nat → Nat) (b r : Int32) : Nat → Nat → Nat := if rOffer S b r = true then mSend S 0 0 r.toNatClampNeg b.toNatClampNeg 0 else S
def rVote (S : Nat → Nat → Nat) (x b r : Int32) : Bool := mCorrupt S x && decide (¬ b.toInt = 0) && mBlock S b && mRep S r && decide (S 0 6 < 40)
def mVote (S : Nat → Nat → Nat) (x b r : Int32) : Nat → Nat → Nat := if rVote S x b r = true then mSend S 1 x.toNatClampNeg r.toNatClampNeg b.toNatClampNeg 0 else S
def rClaim (S : Nat → Nat → Nat) (x v b r : Int32) : Bool := mCorrupt S x && decide (1 ≤ v.toInt) && mBlock S b && mCert S b.toNatClampNeg && mRep S r && decide (S 0 6 < 40)
def mClaim (S : Nat → Nat → Nat) (x v b r : Int32) : Nat → Nat → Nat := if rClaim S x v b r = true then mSend S 2 x.toNatClampNeg r.toNatClampNeg b.toNatClampNeg v.toNatClampNeg else S
def rDeliver (S : Nat → Nat → Nat) (i : Int32) : Int32 := if rMsg S i = true then nI (if S 0 3 / 2 ^ S 10 i.toNatClampNeg % 2 = 1 then 0 else 1) else -1
def mDeliver (S : Nat → Nat → Nat) (i : Int32) : Nat → Nat → Nat := if rMsg S i = true then mHand S i.toNatClampNeg else S
def rTick (S : Nat → Nat → Nat) (r : Int32) : Int32 := if mCorrect S r = true then nI (mTickN S r.toNatClampNeg 14 r.toNatClampNeg) else -1
def rState (S : Nat → Nat → Nat) (r w : Int32) : Int32 := if mCorrect S r = true then (if w = nI 0 then nI (S 14 r.toNatClampNeg) else if w = nI 1 then nI (S 15 r.toNatClampNeg) else if w = nI 2 then nI (S 16 r.toNatClampNeg) else if w = nI 3 then nI (S 17 r.toNatClampNeg) else if w = nI 4 then nI (S 18 r.toNatClampNeg) else if w = nI 5 then nI (mHigh S r.toNatClampNeg) else if w = nI 6 then nI (mLock S r.toNatClampNeg) else if w = nI 7 then nI (mTip S r.toNatClampNeg) else if w = nI 8 then nI (mPush S r.toNatClampNeg) else -1) else -1
end
section
def MI (V : Nat) (S : Nat → Nat → Nat) : Prop := ∀ i, S 0 3 / 2 ^ (S 11 i) % 2 = 0 → S 13 i ≤ V
theorem rSub_no {S : Nat → Nat → Nat} {h fr to am : Int32} (q : ¬ ((0 ≤ h.toInt ∧ h.toInt < ((2 ^ S 0 1 : Nat) : Int)) ∧ (0 ≤ fr.toInt ∧ fr.toInt ≤ 3) ∧ (0 ≤ to.toInt ∧ to.toInt ≤ 3) ∧ ¬ fr = to ∧ (1 ≤ am.toInt ∧ am.toInt ≤ 1000) ∧ S 0 4 < 24)) : rSubOk S h fr to am = false := decide_eq_false q
theorem rMsg_no {S : Nat → Nat → Nat} {i : Int32} (q : ¬ (0 ≤ i.toInt ∧ i.toInt < (S 0 6 : Int))) : rMsg S i = false := decide_eq_false q
theorem rMsg_yes {S : Nat → Nat → Nat} {j : Nat} (hm : S 0 6 ≤ 40) (q : j < S 0 6) : rMsg S (nI j) = true := decide_eq_true (by rw [nI_toInt (by omega)]; omega)
theorem mCorrect_ex {S : Nat → Nat → Nat} {r : Int32} (hn : S 0 1 < 2 ^ 31) (h : mCorrect S r = true) : ∃ j, j < S 0 1 ∧ r = nI j ∧ S 0 3 / 2 ^ j % 2 = 0 := by
  have h1 : mRep S r = true := by
    simp only [mCorrect, Bool.and_eq_true] at h
    exact h.1
  obtain ⟨j, hj, rfl⟩ := mRep_nI hn h1
  rw [mCorrect_nI hn hj] at h
  exact ⟨j, hj, rfl, of_decide_eq_true h⟩
theorem mCorrupt_ex {S : Nat → Nat → Nat} {r : Int32} (hn : S 0 1 < 2 ^ 31) (h : mCorrupt S r = true) : ∃ j, j < S 0 1 ∧ r = nI j ∧ S 0 3 / 2 ^ j % 2 = 1 := by
  have h1 : mRep S r = true := by
    simp only [mCorrupt, Bool.and_eq_true] at h
    exact h.1
  obtain ⟨j, hj, rfl⟩ := mRep_nI hn h1
  rw [mCorrupt_nI hn hj] at h
  exact ⟨j, hj, rfl, of_decide_eq_true h⟩
theorem mHigh_congr {S T : Nat → Nat → Nat} {r : Nat} (h0 : T 0 5 = S 0 5) (h5 : T 5 = S 5) (h19 : T 19 = S 19) : mHigh T r = mHigh S r := by
  have e : mHighF T r = mHighF S r := by
    funext b best
    simp only [mHighF, h5, h19]
  unfold mHigh
  rw [e, h0]
theorem mLeader_congr {S T : Nat → Nat → Nat} {v : Nat} (h1 : T 0 1 = S 0 1) (h2 : T 0 2 = S 0 2) : mLeader T v = mLeader S v := by
  unfold mLeader
  rw [h1, h2]
theorem mTake_0 {S : Nat → Nat → Nat} {i x : Nat} (hx : x ≠ 6) : mTake S i 0 x = S 0 x := by
  rw [mTake_at, if_neg (by omega), if_neg (by omega)]
theorem IW.gp1 {V : Nat} {S : Nat → Nat → Nat} {r b : Nat} (h : IW V S) : IW V (mGP1 S r b) := by
  have h5 := (show S 5 b + 1 ≤ V from h.c 5 b)
  unfold mGP1
  split
  · exact h.see.enter (by omega) (by omega)
  · exact h.see
theorem IW.proposal {V : Nat} {S : Nat → Nat → Nat} {r b : Nat} (h : IW V S) (hr : r < S 0 1) (hb : b < S 0 5) : IW V (mGetProposal S r b) := by
  have h5 := (show S 5 b + 1 ≤ V from h.c 5 b)
  have hn := h.n
  have h1 := h.gp1 (r := r) (b := b)
  have e0 : mGP1 S r b 0 = S 0 := mGP1_ne (by decide) (by decide) (by decide) (by decide)
  unfold mGetProposal
  split
  · have h2 := (h1.up (k := 17) (j := r) (v := S 5 b) (by decide) (show S 5 b ≤ V by omega)).up (k := 8) (j := b) (v := mGP1 S r b 8 b ||| 1 * 2 ^ r) (by decide) (or_lt128 (h1.c 8 b) (p2_128 r (by omega)))
    refine h2.send (by decide) ?_ ?_ ?_ (by decide)
    · show r < mGP1 S r b 0 1
      rw [e0]
      exact hr
    · show mLeader (mGP1 S r b) (S 5 b + 1) < mGP1 S r b 0 1
      exact mLeader_lt h1 _
    · show b < mGP1 S r b 0 5
      rw [e0]
      exact hb
  · exact h1
theorem IW.getvote {V : Nat} {S : Nat → Nat → Nat} {r x b : Nat} (h : IW V S) (hx : x < 7) : IW V (mGetVote S r x b) := by
  have h1 : IW V (up2 S 20 (40 * r + b) (S 20 (40 * r + b) ||| 1 * 2 ^ x)) := h.up (k := 20) (by decide) (or_lt128 (h.c 20 (40 * r + b)) (p2_128 x hx))
  unfold mGetVote
  split
  · exact h1.see
  · exact h1
theorem IW.newview {V : Nat} {S : Nat → Nat → Nat} {r x b v : Nat} (h : IW V S) (hr : r < 7) (hx : x < 7) (hv : v < 2147483648) (hc : S 0 3 / 2 ^ x % 2 = 0 → v ≤ V) : IW V (mGetNewView S r x b v) := by
  have e0 : mSee S r b 0 = S 0 := mSee_ne (by decide) (by decide) (by decide) (by decide)
  have h1 : IW V (mGN1 S r x b v) := by
    unfold mGN1
    split
    · refine h.see.up (k := 21) (by decide) ?_
      show v < 2147483648 ∧ (7 * r + x < 49 → mSee S r b 0 3 / 2 ^ ((7 * r + x) % 7) % 2 = 0 → v ≤ V)
      rw [e0, show (7 * r + x) % 7 = x by omega]
      exact ⟨hv, fun _ q => hc q⟩
    · exact h.see
  unfold mGetNewView
  split
  · exact h1.enter (by omega) (mPush_le h1 hr)
  · exact h1
theorem MI.take {V : Nat} {S : Nat → Nat → Nat} {i : Nat} (h : MI V S) : MI V (mTake S i) := by
  intro k
  rw [mTake_0 (by decide), mTake_at, mTake_at]
  by_cases hc : i ≤ k ∧ k < i + (S 0 6 - 1 - i)
  · rw [if_pos (by omega), if_pos (by omega)]
    exact h (k + 1)
  · rw [if_neg (by omega), if_neg (by omega), if_neg (by omega), if_neg (by omega)]
    exact h k
theorem MI.send {V : Nat} {S : Nat → Nat → Nat} {a0 a1 a2 a3 a4 : Nat} (h : MI V S) (ha : S 0 3 / 2 ^ a1 % 2 = 0 → a4 ≤ V) : MI V (mSend S a0 a1 a2 a3 a4) := by
  intro k
  unfold mSend
  split
  · simp only [up2_at]
    simpa using h k
  · simp only [up2_at]
    by_cases hk : k = S 0 6
    · subst hk
      simpa using ha
    · simpa [hk] using h k
theorem MI.of {V : Nat} {S T : Nat → Nat → Nat} (h : MI V S) (h0 : T 0 3 = S 0 3) (h11 : T 11 = S 11) (h13 : T 13 = S 13) : MI V T := by
  intro k
  rw [h0, h11, h13]
  exact h k
theorem hand_keeps {V : Nat} {S : Nat → Nat → Nat} {i : Nat} (h : IW V S) (hM : MI V S) (hi : i < S 0 6) : IW V (mHand S i) ∧ MI V (mHand S i) := by
  have hn := h.n
  have h10 := (show S 10 i < S 0 1 from h.c 10 i)
  have h11 := (show S 11 i < S 0 1 from h.c 11 i)
  have h12 := (show S 12 i < S 0 5 from h.c 12 i)
  have h13 := (show S 13 i < 2147483648 from h.c 13 i)
  have hT := h.take (i := i)
  have hMT := hM.take (i := i)
  have e01 : mTake S i 0 1 = S 0 1 := mTake_0 (by decide)
  have e03 : mTake S i 0 3 = S 0 3 := mTake_0 (by decide)
  have e05 : mTake S i 0 5 = S 0 5 := mTake_0 (by decide)
  unfold mHand
  generalize mTake S i = T at hT hMT e01 e03 e05
  split
  · exact ⟨hT, hMT⟩
  · split
    · refine ⟨hT.proposal (by omega) (by omega), ?_⟩
      have hg : MI V (mGP1 T (S 10 i) (S 12 i)) := hMT.of (by rw [mGP1_ne (by decide) (by decide) (by decide) (by decide)]) (mGP1_ne (by decide) (by decide) (by decide) (by decide)) (mGP1_ne (by decide) (by decide) (by decide) (by decide))
      unfold mGetProposal
      split
      · exact MI.send (hg.of rfl rfl rfl) (fun _ => Nat.zero_le _)
      · exact hg
    · split
      · refine ⟨hT.getvote (by omega), ?_⟩
        unfold mGetVote
        split
        · exact hMT.of (by rw [mSee_ne (by decide) (by decide) (by decide) (by decide)]; rfl) (by rw [mSee_ne (by decide) (by decide) (by decide) (by decide)]; rfl) (by rw [mSee_ne (by decide) (by decide) (by decide) (by decide)]; rfl)
        · exact hMT.of rfl rfl rfl
      · refine ⟨hT.newview (by omega) (by omega) h13 (fun q => hM i (by rw [← e03]; exact q)), ?_⟩
        have e : ∀ row, row ≠ 14 → row ≠ 15 → row ≠ 16 → row ≠ 19 → row ≠ 21 → mGetNewView T (S 10 i) (S 11 i) (S 12 i) (S 13 i) row = T row := by
          intro row q1 q2 q3 q4 q5
          have e1 : mGN1 T (S 10 i) (S 11 i) (S 12 i) (S 13 i) row = T row := by
            unfold mGN1
            split
            · rw [up2_ne _ _ _ q5, mSee_ne q1 q2 q3 q4]
            · rw [mSee_ne q1 q2 q3 q4]
          unfold mGetNewView
          split
          · rw [mEnter_ne q1 q2, e1]
          · rw [e1]
        exact hMT.of (by rw [e 0 (by decide) (by decide) (by decide) (by decide) (by decide)]) (e 11 (by decide) (by decide) (by decide) (by decide) (by decide)) (e 13 (by decide) (by decide) (by decide) (by decide) (by decide))
end
section
set_option maxRecDepth 100000 in
set_option maxHeartbeats 4000000 in
theorem k_M_submit (l : Launch) {X : WX} (hX : xInj X) {S : Nat → Nat → Nat} {V : Nat} (hI : IW V S) (h fr to am : Int32) : MetI l X y_M_submit (Cond.code y_M_submit c_M_submit 5 (some .int) :: Mst) 0 [.ref (X.2.2.2 0), .int h, .int fr, .int to, .int am] S (rSubmit S h fr to am) (mSubmit S h fr to am) := by
  refine MetI.of (by decide) (Nat.le_of_ble_eq_true rfl) ?_
  intro p e s m args below meth c cf hr hlk hP hK hN ls hl
  have hl : lv_has ls 5 [(0, .ref (X.2.2.2 0)), (1, .int h), (2, .int fr), (3, .int to), (4, .int am)] := hl
  have hx := cf.1
  have hb := cf.2.1
  have hD := xD_of hX
  have hS : va_S (xA X) s.heap s.heap [] := va_S.rf
  have hf := hI.f
  have hn := hI.n
  have hk := hI.k
  have hcs := hI.cs
  have ht := hI.t
  have hbl := hI.b
  have hm := hI.m
  have hV := hI.V
  obtain ⟨H, hH⟩ : ∃ H, H = s.heap := ⟨_, rfl⟩
  obtain ⟨locs, hlo⟩ : ∃ z : List Loc, z = [] := ⟨_, rfl⟩
  suffices hgo : PW X S H → va_S (xA X) s.heap H locs → W p l e (rmd 0) s m args below meth c H locs 0 0 (MQ below (QcI X (rSubmit S h fr to am) (mSubmit S h fr to am)) args s 0 0 (xA X)) (F0 m 0 ls []) by
    subst hH
    subst hlo
    exact hgo hP hS
  clear hP hS
  intro hP hS
  refine lv_iload_n hx hb d_M_submit_0 rfl (lv_at hl 1 rfl) ?_
  refine lv_iconst (v := nI 1) hx hb d_M_submit_1 (by decide) ?_
  refine lv_aload_n hx hb d_M_submit_2 rfl (lv_at hl 0 rfl) ?_
  refine x_getM (v := .int (nI (S 0 1))) cf hK hP 1 (by decide) w_462 rfl d_M_submit_3 ?_
  refine n_ishl hx hb (by omega) (by have : 2 ^ S 0 1 ≤ 2 ^ 7 := Nat.pow_le_pow_right (by decide) (by omega); omega) d_M_submit_6 ?_
  refine lv_iconst (v := nI 1) hx hb d_M_submit_7 (by decide) ?_
  have hp2 : 1 ≤ 2 ^ S 0 1 := Nat.one_le_two_pow
  refine n_isub hx hb (by omega) d_M_submit_8 ?_
  refine lv_iconst (v := (-1)) hx hb d_M_submit_9 (by decide) ?_
  refine lv_ixor hx hb d_M_submit_10 ?_
  refine lv_iand hx hb d_M_submit_11 ?_
  refine lv_if_ne (tgt := 38) hx hb d_M_submit_12 (by decide) (fun h1 => ?_) (fun h1 => ?_)
  · skip
    have uh1 := i_ne0 h1
    have hno : rSubOk S h fr to am = false := rSub_no (fun q => h1 ((mask_iff (by omega)).mpr q.1))
    refine lv_iconst (v := (-1)) hx hb d_M_submit_38 (by decide) ?_
    exact x_iret cf hr hlk hP hS (by unfold rSubmit; rw [hno]; rfl) (by unfold mSubmit; rw [hno]; rfl) d_M_submit_39
  · skip
    have uh1 := i_eq0 h1
    refine lv_iload_n hx hb d_M_submit_15 rfl (lv_at hl 2 rfl) ?_
    refine lv_if_lt (tgt := 38) hx hb d_M_submit_16 (by decide) (fun h2 => ?_) (fun h2 => ?_)
    · skip
      have uh2 := i_lt0 h2
      have hno : rSubOk S h fr to am = false := rSub_no (fun q => by obtain ⟨q1, q2, q3, q4, q5, q6⟩ := q; omega)
      refine lv_iconst (v := (-1)) hx hb d_M_submit_38 (by decide) ?_
      exact x_iret cf hr hlk hP hS (by unfold rSubmit; rw [hno]; rfl) (by unfold mSubmit; rw [hno]; rfl) d_M_submit_39
    · skip
      have uh2 := i_nlt0 h2
      refine lv_iload_n hx hb d_M_submit_19 rfl (lv_at hl 2 rfl) ?_
      refine lv_iconst (v := nI 3) hx hb d_M_submit_20 (by decide) ?_
      refine lv_icmp_gt (tgt := 38) hx hb d_M_submit_21 (by decide) (fun h3 => ?_) (fun h3 => ?_)
      · skip
        have uh3 := i_gtN (by decide) h3
        have hno : rSubOk S h fr to am = false := rSub_no (fun q => by obtain ⟨q1, q2, q3, q4, q5, q6⟩ := q; omega)
        refine lv_iconst (v := (-1)) hx hb d_M_submit_38 (by decide) ?_
        exact x_iret cf hr hlk hP hS (by unfold rSubmit; rw [hno]; rfl) (by unfold mSubmit; rw [hno]; rfl) d_M_submit_39
      · skip
        have uh3 := i_ngtN (by decide) h3
        refine lv_iload_n hx hb d_M_submit_24 rfl (lv_at hl 3 rfl) ?_
        refine lv_if_lt (tgt := 38) hx hb d_M_submit_25 (by decide) (fun h4 => ?_) (fun h4 => ?_)
        · skip
          have uh4 := i_lt0 h4
          have hno : rSubOk S h fr to am = false := rSub_no (fun q => by obtain ⟨q1, q2, q3, q4, q5, q6⟩ := q; omega)
          refine lv_iconst (v := (-1)) hx hb d_M_submit_38 (by decide) ?_
          exact x_iret cf hr hlk hP hS (by unfold rSubmit; rw [hno]; rfl) (by unfold mSubmit; rw [hno]; rfl) d_M_submit_39
        · skip
          have uh4 := i_nlt0 h4
          refine lv_iload_n hx hb d_M_submit_28 rfl (lv_at hl 3 rfl) ?_
          refine lv_iconst (v := nI 3) hx hb d_M_submit_29 (by decide) ?_
          refine lv_icmp_gt (tgt := 38) hx hb d_M_submit_30 (by decide) (fun h5 => ?_) (fun h5 => ?_)
          · skip
            have uh5 := i_gtN (by decide) h5
            have hno : rSubOk S h fr to am = false := rSub_no (fun q => by obtain ⟨q1, q2, q3, q4, q5, q6⟩ := q; omega)
            refine lv_iconst (v := (-1)) hx hb d_M_submit_38 (by decide) ?_
            exact x_iret cf hr hlk hP hS (by unfold rSubmit; rw [hno]; rfl) (by unfold mSubmit; rw [hno]; rfl) d_M_submit_39
          · skip
            have uh5 := i_ngtN (by decide) h5
            refine lv_iload_n hx hb d_M_submit_33 rfl (lv_at hl 2 rfl) ?_
            refine lv_iload_n hx hb d_M_submit_34 rfl (lv_at hl 3 rfl) ?_
            refine lv_icmp_ne (tgt := 40) hx hb d_M_submit_35 (by decide) (fun h6 => ?_) (fun h6 => ?_)
            · skip
              refine lv_iload hx hb d_M_submit_40 (lv_at hl 4 rfl) ?_
              refine lv_iconst (v := nI 1) hx hb d_M_submit_42 (by decide) ?_
              refine lv_icmp_lt (tgt := 63) hx hb d_M_submit_43 (by decide) (fun h7 => ?_) (fun h7 => ?_)
              · skip
                have uh7 := i_ltN (by decide) h7
                have hno : rSubOk S h fr to am = false := rSub_no (fun q => by obtain ⟨q1, q2, q3, q4, q5, q6⟩ := q; omega)
                refine lv_iconst (v := (-1)) hx hb d_M_submit_63 (by decide) ?_
                exact x_iret cf hr hlk hP hS (by unfold rSubmit; rw [hno]; rfl) (by unfold mSubmit; rw [hno]; rfl) d_M_submit_64
              · skip
                have uh7 := i_nltN (by decide) h7
                refine lv_iload hx hb d_M_submit_46 (lv_at hl 4 rfl) ?_
                refine lv_sipush (v := nI 1000) hx hb d_M_submit_48 (by decide) ?_
                refine lv_icmp_gt (tgt := 63) hx hb d_M_submit_51 (by decide) (fun h8 => ?_) (fun h8 => ?_)
                · skip
                  have uh8 := i_gtN (by decide) h8
                  have hno : rSubOk S h fr to am = false := rSub_no (fun q => by obtain ⟨q1, q2, q3, q4, q5, q6⟩ := q; omega)
                  refine lv_iconst (v := (-1)) hx hb d_M_submit_63 (by decide) ?_
                  exact x_iret cf hr hlk hP hS (by unfold rSubmit; rw [hno]; rfl) (by unfold mSubmit; rw [hno]; rfl) d_M_submit_64
                · skip
                  have uh8 := i_ngtN (by decide) h8
                  refine lv_aload_n hx hb d_M_submit_54 rfl (lv_at hl 0 rfl) ?_
                  refine x_getM (v := .int (nI (S 0 4))) cf hK hP 4 (by decide) w_465 rfl d_M_submit_55 ?_
                  refine lv_bipush (v := nI 24) hx hb d_M_submit_58 (by decide) ?_
                  refine n_icmp_lt (tgt := 65) hx hb d_M_submit_60 (by decide) (by omega) (by decide) (fun h9 => ?_) (fun h9 => ?_)
                  · skip
                    have hyes : rSubOk S h fr to am = true := decide_eq_true ⟨(mask_iff (by omega)).mp h1, ⟨by omega, by omega⟩, ⟨by omega, by omega⟩, h6, ⟨by omega, by omega⟩, by omega⟩
                    obtain ⟨hN, hN1, rfl, hN2, hN3⟩ := i_nat (x := h) ((mask_iff (by omega)).mp h1).1
                    obtain ⟨fN, fN1, rfl, fN2, fN3⟩ := i_nat (x := fr) (by omega)
                    obtain ⟨tN, tN1, rfl, tN2, tN3⟩ := i_nat (x := to) (by omega)
                    obtain ⟨aN, aN1, rfl, aN2, aN3⟩ := i_nat (x := am) (by omega)
                    refine lv_aload_n hx hb d_M_submit_65 rfl (lv_at hl 0 rfl) ?_
                    refine x_getM (v := .ref (X.2.2.2 1)) cf hK hP 5 (by decide) w_466 rfl d_M_submit_66 ?_
                    refine lv_aload_n hx hb d_M_submit_69 rfl (lv_at hl 0 rfl) ?_
                    refine x_getM (v := .int (nI (S 0 4))) cf hK hP 4 (by decide) w_465 rfl d_M_submit_70 ?_
                    refine lv_iload_n hx hb d_M_submit_73 rfl (lv_at hl 1 rfl) ?_
                    refine x_iast cf hK hD hP hS (ia1 X) (by omega) d_M_submit_74 (fun H locs hP hS => ?_)
                    refine lv_aload_n hx hb d_M_submit_75 rfl (lv_at hl 0 rfl) ?_
                    refine x_getM (v := .ref (X.2.2.2 2)) cf hK hP 6 (by decide) w_467 rfl d_M_submit_76 ?_
                    refine lv_aload_n hx hb d_M_submit_79 rfl (lv_at hl 0 rfl) ?_
                    refine x_getM (v := .int (nI (S 0 4))) cf hK hP 4 (by decide) w_465 rfl d_M_submit_80 ?_
                    refine lv_iload_n hx hb d_M_submit_83 rfl (lv_at hl 2 rfl) ?_
                    refine x_iast cf hK hD hP hS (ia2 X) (by omega) d_M_submit_84 (fun H locs hP hS => ?_)
                    refine lv_aload_n hx hb d_M_submit_85 rfl (lv_at hl 0 rfl) ?_
                    refine x_getM (v := .ref (X.2.2.2 3)) cf hK hP 7 (by decide) w_468 rfl d_M_submit_86 ?_
                    refine lv_aload_n hx hb d_M_submit_89 rfl (lv_at hl 0 rfl) ?_
                    refine x_getM (v := .int (nI (S 0 4))) cf hK hP 4 (by decide) w_465 rfl d_M_submit_90 ?_
                    refine lv_iload_n hx hb d_M_submit_93 rfl (lv_at hl 3 rfl) ?_
                    refine x_iast cf hK hD hP hS (ia3 X) (by omega) d_M_submit_94 (fun H locs hP hS => ?_)
                    refine lv_aload_n hx hb d_M_submit_95 rfl (lv_at hl 0 rfl) ?_
                    refine x_getM (v := .ref (X.2.2.2 4)) cf hK hP 8 (by decide) w_469 rfl d_M_submit_96 ?_
                    refine lv_aload_n hx hb d_M_submit_99 rfl (lv_at hl 0 rfl) ?_
                    refine x_getM (v := .int (nI (S 0 4))) cf hK hP 4 (by decide) w_465 rfl d_M_submit_100 ?_
                    refine lv_iload hx hb d_M_submit_103 (lv_at hl 4 rfl) ?_
                    refine x_iast cf hK hD hP hS (ia4 X) (by omega) d_M_submit_105 (fun H locs hP hS => ?_)
                    refine lv_aload_n hx hb d_M_submit_106 rfl (lv_at hl 0 rfl) ?_
                    refine lv_dup hx hb d_M_submit_107 rfl ?_
                    refine x_getM (v := .int (nI (S 0 4))) cf hK hP 4 (by decide) w_465 rfl d_M_submit_108 ?_
                    refine lv_iconst (v := nI 1) hx hb d_M_submit_111 (by decide) ?_
                    refine n_iadd hx hb d_M_submit_112 ?_
                    refine x_putM cf hK hD hP hS 4 (by decide) w_465 rfl (by decide +kernel) 4 rfl d_M_submit_113 (fun H locs hP hS => ?_)
                    refine lv_aload_n hx hb d_M_submit_116 rfl (lv_at hl 0 rfl) ?_
                    refine x_getM (v := .int (nI ((S 0 4) + 1))) cf hK hP 4 (by decide) w_465 rfl d_M_submit_117 ?_
                    refine lv_iconst (v := nI 1) hx hb d_M_submit_120 (by decide) ?_
                    refine n_isub hx hb (by omega) d_M_submit_121 ?_
                    exact x_iret cf hr hlk hP hS (by unfold rSubmit; rw [hyes]; show nI (S 0 4 + 1 - 1) = nI (S 0 4); rw [Nat.add_sub_cancel]) (by unfold mSubmit; rw [hyes, hN3, fN3, tN3, aN3]; rfl) d_M_submit_122
                  · skip
                    have hno : rSubOk S h fr to am = false := rSub_no (fun q => by obtain ⟨q1, q2, q3, q4, q5, q6⟩ := q; omega)
                    refine lv_iconst (v := (-1)) hx hb d_M_submit_63 (by decide) ?_
                    exact x_iret cf hr hlk hP hS (by unfold rSubmit; rw [hno]; rfl) (by unfold mSubmit; rw [hno]; rfl) d_M_submit_64
            · skip
              have hno : rSubOk S h fr to am = false := rSub_no (fun q => q.2.2.2.1 h6)
              refine lv_iconst (v := (-1)) hx hb d_M_submit_38 (by decide) ?_
              exact x_iret cf hr hlk hP hS (by unfold rSubmit; rw [hno]; rfl) (by unfold mSubmit; rw [hno]; rfl) d_M_submit_39
set_option maxRecDepth 100000 in
set_option maxHeartbeats 4000000 in
theorem k_M_waiting (l : Launch) {X : WX} (hX : xInj X) {S : Nat → Nat → Nat} {V : Nat} (hI : IW V S) : MetI l X y_M_waiting (Cond.code y_M_waiting c_M_waiting 1 (some .int) :: Mst) 0 [.ref (X.2.2.2 0)] S (nI (S 0 6)) S := by
  refine MetI.of (by decide) (Nat.le_of_ble_eq_true rfl) ?_
  intro p e s m args below meth c cf hr hlk hP hK hN ls hl
  have hl : lv_has ls 1 [(0, .ref (X.2.2.2 0))] := hl
  have hx := cf.1
  have hb := cf.2.1
  have hD := xD_of hX
  have hS : va_S (xA X) s.heap s.heap [] := va_S.rf
  have hf := hI.f
  have hn := hI.n
  have hk := hI.k
  have hcs := hI.cs
  have ht := hI.t
  have hbl := hI.b
  have hm := hI.m
  have hV := hI.V
  obtain ⟨H, hH⟩ : ∃ H, H = s.heap := ⟨_, rfl⟩
  obtain ⟨locs, hlo⟩ : ∃ z : List Loc, z = [] := ⟨_, rfl⟩
  suffices hgo : PW X S H → va_S (xA X) s.heap H locs → W p l e (rmd 0) s m args below meth c H locs 0 0 (MQ below (QcI X (nI (S 0 6)) S) args s 0 0 (xA X)) (F0 m 0 ls []) by
    subst hH
    subst hlo
    exact hgo hP hS
  clear hP hS
  intro hP hS
  refine lv_aload_n hx hb d_M_waiting_0 rfl (lv_at hl 0 rfl) ?_
  refine x_getM (v := .int (nI (S 0 6))) cf hK hP 14 (by decide) w_475 rfl d_M_waiting_1 ?_
  exact x_iret cf hr hlk hP hS (rfl) (rfl) d_M_waiting_4
set_option maxRecDepth 100000 in
set_option maxHeartbeats 4000000 in
theorem k_M_lost (l : Launch) {X : WX} (hX : xInj X) {S : Nat → Nat → Nat} {V : Nat} (hI : IW V S) : MetI l X y_M_lost (Cond.code y_M_lost c_M_lost 1 (some .int) :: Mst) 0 [.ref (X.2.2.2 0)] S (nI (S 0 7)) S := by
  refine MetI.of (by decide) (Nat.le_of_ble_eq_true rfl) ?_
  intro p e s m args below meth c cf hr hlk hP hK hN ls hl
  have hl : lv_has ls 1 [(0, .ref (X.2.2.2 0))] := hl
  have hx := cf.1
  have hb := cf.2.1
  have hD := xD_of hX
  have hS : va_S (xA X) s.heap s.heap [] := va_S.rf
  have hf := hI.f
  have hn := hI.n
  have hk := hI.k
  have hcs := hI.cs
  have ht := hI.t
  have hbl := hI.b
  have hm := hI.m
  have hV := hI.V
  obtain ⟨H, hH⟩ : ∃ H, H = s.heap := ⟨_, rfl⟩
  obtain ⟨locs, hlo⟩ : ∃ z : List Loc, z = [] := ⟨_, rfl⟩
  suffices hgo : PW X S H → va_S (xA X) s.heap H locs → W p l e (rmd 0) s m args below meth c H locs 0 0 (MQ below (QcI X (nI (S 0 7)) S) args s 0 0 (xA X)) (F0 m 0 ls []) by
    subst hH
    subst hlo
    exact hgo hP hS
  clear hP hS
  intro hP hS
  refine lv_aload_n hx hb d_M_lost_0 rfl (lv_at hl 0 rfl) ?_
  refine x_getM (v := .int (nI (S 0 7))) cf hK hP 15 (by decide) w_476 rfl d_M_lost_1 ?_
  exact x_iret cf hr hlk hP hS (rfl) (rfl) d_M_lost_4
set_option maxRecDepth 100000 in
set_option maxHeartbeats 4000000 in
theorem k_M_message (l : Launch) {X : WX} (hX : xInj X) {S : Nat → Nat → Nat} {V : Nat} (hI : IW V S) (i : Int32) : MetI l X y_M_message (Cond.code y_M_message c_M_message 2 (some .int) :: Mst) 0 [.ref (X.2.2.2 0), .int i] S (rMessage S i) S := by
  refine MetI.of (by decide) (Nat.le_of_ble_eq_true rfl) ?_
  intro p e s m args below meth c cf hr hlk hP hK hN ls hl
  have hl : lv_has ls 2 [(0, .ref (X.2.2.2 0)), (1, .int i)] := hl
  have hx := cf.1
  have hb := cf.2.1
  have hD := xD_of hX
  have hS : va_S (xA X) s.heap s.heap [] := va_S.rf
  have hf := hI.f
  have hn := hI.n
  have hk := hI.k
  have hcs := hI.cs
  have ht := hI.t
  have hbl := hI.b
  have hm := hI.m
  have hV := hI.V
  obtain ⟨H, hH⟩ : ∃ H, H = s.heap := ⟨_, rfl⟩
  obtain ⟨locs, hlo⟩ : ∃ z : List Loc, z = [] := ⟨_, rfl⟩
  suffices hgo : PW X S H → va_S (xA X) s.heap H locs → W p l e (rmd 0) s m args below meth c H locs 0 0 (MQ below (QcI X (rMessage S i) S) args s 0 0 (xA X)) (F0 m 0 ls []) by
    subst hH
    subst hlo
    exact hgo hP hS
  clear hP hS
  intro hP hS
  refine lv_iload_n hx hb d_M_message_0 rfl (lv_at hl 1 rfl) ?_
  refine lv_if_lt (tgt := 12) hx hb d_M_message_1 (by decide) (fun h1 => ?_) (fun h1 => ?_)
  · skip
    have uh1 := i_lt0 h1
    refine lv_iconst (v := (-1)) hx hb d_M_message_12 (by decide) ?_
    refine lv_goto (tgt := 52) hx hb d_M_message_13 (by decide) ?_
    exact x_iret cf hr hlk hP hS (by unfold rMessage; rw [if_neg (by omega)]) (rfl) d_M_message_52
  · skip
    have uh1 := i_nlt0 h1
    refine lv_iload_n hx hb d_M_message_4 rfl (lv_at hl 1 rfl) ?_
    refine lv_aload_n hx hb d_M_message_5 rfl (lv_at hl 0 rfl) ?_
    refine x_getM (v := .int (nI (S 0 6))) cf hK hP 14 (by decide) w_475 rfl d_M_message_6 ?_
    refine lv_icmp_lt (tgt := 16) hx hb d_M_message_9 (by decide) (fun h2 => ?_) (fun h2 => ?_)
    · skip
      have uh2 := i_ltN (by omega) h2
      obtain ⟨j, hj, rfl, hjt, hjc⟩ := i_nat uh1
      have hj6 : j < S 0 6 := by omega
      have hms := rMsg_yes hm hj6
      refine lv_aload_n hx hb d_M_message_16 rfl (lv_at hl 0 rfl) ?_
      refine x_getM (v := .ref (X.2.2.2 9)) cf hK hP 16 (by decide) w_477 rfl d_M_message_17 ?_
      refine lv_iload_n hx hb d_M_message_20 rfl (lv_at hl 1 rfl) ?_
      refine x_iald (v := (S 9 j)) cf hK hP (ia9 X) (by omega) rfl d_M_message_21 ?_
      refine lv_iconst (v := nI 4) hx hb d_M_message_22 (by decide) ?_
      refine lv_aload_n hx hb d_M_message_23 rfl (lv_at hl 0 rfl) ?_
      refine x_getM (v := .ref (X.2.2.2 10)) cf hK hP 17 (by decide) w_478 rfl d_M_message_24 ?_
      refine lv_iload_n hx hb d_M_message_27 rfl (lv_at hl 1 rfl) ?_
      refine x_iald (v := (S 10 j)) cf hK hP (ia10 X) (by omega) rfl d_M_message_28 ?_
      refine n_imul hx hb d_M_message_29 ?_
      refine n_iadd hx hb d_M_message_30 ?_
      refine lv_bipush (v := nI 32) hx hb d_M_message_31 (by decide) ?_
      refine lv_aload_n hx hb d_M_message_33 rfl (lv_at hl 0 rfl) ?_
      refine x_getM (v := .ref (X.2.2.2 11)) cf hK hP 18 (by decide) w_479 rfl d_M_message_34 ?_
      refine lv_iload_n hx hb d_M_message_37 rfl (lv_at hl 1 rfl) ?_
      refine x_iald (v := (S 11 j)) cf hK hP (ia11 X) (by omega) rfl d_M_message_38 ?_
      refine n_imul hx hb d_M_message_39 ?_
      refine n_iadd hx hb d_M_message_40 ?_
      refine lv_sipush (v := nI 256) hx hb d_M_message_41 (by decide) ?_
      refine lv_aload_n hx hb d_M_message_44 rfl (lv_at hl 0 rfl) ?_
      refine x_getM (v := .ref (X.2.2.2 12)) cf hK hP 19 (by decide) w_480 rfl d_M_message_45 ?_
      refine lv_iload_n hx hb d_M_message_48 rfl (lv_at hl 1 rfl) ?_
      refine x_iald (v := (S 12 j)) cf hK hP (ia12 X) (by omega) rfl d_M_message_49 ?_
      refine n_imul hx hb d_M_message_50 ?_
      refine n_iadd hx hb d_M_message_51 ?_
      exact x_iret cf hr hlk hP hS (by unfold rMessage; rw [if_pos (by omega), hjc]) (rfl) d_M_message_52
    · skip
      have uh2 := i_nltN (by omega) h2
      refine lv_iconst (v := (-1)) hx hb d_M_message_12 (by decide) ?_
      refine lv_goto (tgt := 52) hx hb d_M_message_13 (by decide) ?_
      exact x_iret cf hr hlk hP hS (by unfold rMessage; rw [if_neg (by omega)]) (rfl) d_M_message_52
set_option maxRecDepth 100000 in
set_option maxHeartbeats 4000000 in
theorem k_M_block (l : Launch) {X : WX} (hX : xInj X) {S : Nat → Nat → Nat} {V : Nat} (hI : IW V S) (b : Int32) : MetI l X y_M_block (Cond.code y_M_block c_M_block 2 (some .int) :: Mst) 1 [.ref (X.2.2.2 0), .int b] S (rBlock S b) S := by
  refine MetI.of (by decide) (Nat.le_of_ble_eq_true rfl) ?_
  intro p e s m args below meth c cf hr hlk hP hK hN ls hl
  have hl : lv_has ls 2 [(0, .ref (X.2.2.2 0)), (1, .int b)] := hl
  have hx := cf.1
  have hb := cf.2.1
  have hD := xD_of hX
  have hS : va_S (xA X) s.heap s.heap [] := va_S.rf
  have hf := hI.f
  have hn := hI.n
  have hk := hI.k
  have hcs := hI.cs
  have ht := hI.t
  have hbl := hI.b
  have hm := hI.m
  have hV := hI.V
  obtain ⟨H, hH⟩ : ∃ H, H = s.heap := ⟨_, rfl⟩
  obtain ⟨locs, hlo⟩ : ∃ z : List Loc, z = [] := ⟨_, rfl⟩
  suffices hgo : PW X S H → va_S (xA X) s.heap H locs → W p l e (rmd 1) s m args below meth c H locs 0 0 (MQ below (QcI X (rBlock S b) S) args s 0 0 (xA X)) (F0 m 0 ls []) by
    subst hH
    subst hlo
    exact hgo hP hS
  clear hP hS
  intro hP hS
  refine lv_aload_n hx hb d_M_block_0 rfl (lv_at hl 0 rfl) ?_
  refine lv_iload_n hx hb d_M_block_1 rfl (lv_at hl 1 rfl) ?_
  refine x_callVi (As := [.int b]) (rest := []) cf hK hN hP hS (k_M_isBlock l hX hI b) (cw_M_isBlock cf.2.2.2.2 w_655 ⟨Nat.le_of_ble_eq_true rfl, Nat.le_of_ble_eq_true rfl⟩) (rv_M hK hP) hl.1 rfl rfl (Nat.le_of_ble_eq_true rfl) ⟨Nat.zero_le _, Nat.zero_le _⟩ d_M_block_2 (fun H locs hP hS => ?_)
  refine n_if_eq (tgt := 27) hx hb d_M_block_5 (by decide) (tnat_lt _) (fun h1 => ?_) (fun h1 => ?_)
  · skip
    refine lv_iconst (v := (-1)) hx hb d_M_block_27 (by decide) ?_
    exact x_iret cf hr hlk hP hS (by unfold rBlock; rw [tnat_0 h1]; rfl) (rfl) d_M_block_28
  · skip
    obtain ⟨j, hj, rfl⟩ := mBlock_nI (by omega) (tnat_1 h1)
    have hjc := nI_clamp (show j < 2 ^ 31 by omega)
    refine lv_bipush (v := nI 64) hx hb d_M_block_8 (by decide) ?_
    refine lv_aload_n hx hb d_M_block_10 rfl (lv_at hl 0 rfl) ?_
    refine x_getM (v := .ref (X.2.2.2 5)) cf hK hP 10 (by decide) w_471 rfl d_M_block_11 ?_
    refine lv_iload_n hx hb d_M_block_14 rfl (lv_at hl 1 rfl) ?_
    refine x_iald (v := (S 5 j)) cf hK hP (ia5 X) (by omega) rfl d_M_block_15 ?_
    refine n_imul hx hb d_M_block_16 ?_
    refine lv_aload_n hx hb d_M_block_17 rfl (lv_at hl 0 rfl) ?_
    refine x_getM (v := .ref (X.2.2.2 6)) cf hK hP 11 (by decide) w_472 rfl d_M_block_18 ?_
    refine lv_iload_n hx hb d_M_block_21 rfl (lv_at hl 1 rfl) ?_
    refine x_iald (v := (S 6 j)) cf hK hP (ia6 X) (by omega) rfl d_M_block_22 ?_
    refine n_iadd hx hb d_M_block_23 ?_
    refine lv_goto (tgt := 28) hx hb d_M_block_24 (by decide) ?_
    exact x_iret cf hr hlk hP hS (by unfold rBlock; rw [tnat_1 h1, hjc]; rfl) (rfl) d_M_block_28
set_option maxRecDepth 100000 in
set_option maxHeartbeats 4000000 in
theorem k_M_payload (l : Launch) {X : WX} (hX : xInj X) {S : Nat → Nat → Nat} {V : Nat} (hI : IW V S) (b : Int32) : MetI l X y_M_payload (Cond.code y_M_payload c_M_payload 2 (some .int) :: Mst) 1 [.ref (X.2.2.2 0), .int b] S (rPayload S b) S := by
  refine MetI.of (by decide) (Nat.le_of_ble_eq_true rfl) ?_
  intro p e s m args below meth c cf hr hlk hP hK hN ls hl
  have hl : lv_has ls 2 [(0, .ref (X.2.2.2 0)), (1, .int b)] := hl
  have hx := cf.1
  have hb := cf.2.1
  have hD := xD_of hX
  have hS : va_S (xA X) s.heap s.heap [] := va_S.rf
  have hf := hI.f
  have hn := hI.n
  have hk := hI.k
  have hcs := hI.cs
  have ht := hI.t
  have hbl := hI.b
  have hm := hI.m
  have hV := hI.V
  obtain ⟨H, hH⟩ : ∃ H, H = s.heap := ⟨_, rfl⟩
  obtain ⟨locs, hlo⟩ : ∃ z : List Loc, z = [] := ⟨_, rfl⟩
  suffices hgo : PW X S H → va_S (xA X) s.heap H locs → W p l e (rmd 1) s m args below meth c H locs 0 0 (MQ below (QcI X (rPayload S b) S) args s 0 0 (xA X)) (F0 m 0 ls []) by
    subst hH
    subst hlo
    exact hgo hP hS
  clear hP hS
  intro hP hS
  refine lv_aload_n hx hb d_M_payload_0 rfl (lv_at hl 0 rfl) ?_
  refine lv_iload_n hx hb d_M_payload_1 rfl (lv_at hl 1 rfl) ?_
  refine x_callVi (As := [.int b]) (rest := []) cf hK hN hP hS (k_M_isBlock l hX hI b) (cw_M_isBlock cf.2.2.2.2 w_655 ⟨Nat.le_of_ble_eq_true rfl, Nat.le_of_ble_eq_true rfl⟩) (rv_M hK hP) hl.1 rfl rfl (Nat.le_of_ble_eq_true rfl) ⟨Nat.zero_le _, Nat.zero_le _⟩ d_M_payload_2 (fun H locs hP hS => ?_)
  refine n_if_eq (tgt := 17) hx hb d_M_payload_5 (by decide) (tnat_lt _) (fun h1 => ?_) (fun h1 => ?_)
  · skip
    refine lv_iconst (v := (-1)) hx hb d_M_payload_17 (by decide) ?_
    exact x_iret cf hr hlk hP hS (by unfold rPayload; rw [tnat_0 h1]; rfl) (rfl) d_M_payload_18
  · skip
    obtain ⟨j, hj, rfl⟩ := mBlock_nI (by omega) (tnat_1 h1)
    have hjc := nI_clamp (show j < 2 ^ 31 by omega)
    refine lv_aload_n hx hb d_M_payload_8 rfl (lv_at hl 0 rfl) ?_
    refine x_getM (v := .ref (X.2.2.2 7)) cf hK hP 12 (by decide) w_473 rfl d_M_payload_9 ?_
    refine lv_iload_n hx hb d_M_payload_12 rfl (lv_at hl 1 rfl) ?_
    refine x_iald (v := (S 7 j)) cf hK hP (ia7 X) (by omega) rfl d_M_payload_13 ?_
    refine lv_goto (tgt := 18) hx hb d_M_payload_14 (by decide) ?_
    exact x_iret cf hr hlk hP hS (by unfold rPayload; rw [tnat_1 h1, hjc]; rfl) (rfl) d_M_payload_18
set_option maxRecDepth 100000 in
set_option maxHeartbeats 4000000 in
theorem k_M_votes (l : Launch) {X : WX} (hX : xInj X) {S : Nat → Nat → Nat} {V : Nat} (hI : IW V S) (b : Int32) : MetI l X y_M_votes (Cond.code y_M_votes c_M_votes 2 (some .int) :: Mst) 1 [.ref (X.2.2.2 0), .int b] S (rVotes S b) S := by
  refine MetI.of (by decide) (Nat.le_of_ble_eq_true rfl) ?_
  intro p e s m args below meth c cf hr hlk hP hK hN ls hl
  have hl : lv_has ls 2 [(0, .ref (X.2.2.2 0)), (1, .int b)] := hl
  have hx := cf.1
  have hb := cf.2.1
  have hD := xD_of hX
  have hS : va_S (xA X) s.heap s.heap [] := va_S.rf
  have hf := hI.f
  have hn := hI.n
  have hk := hI.k
  have hcs := hI.cs
  have ht := hI.t
  have hbl := hI.b
  have hm := hI.m
  have hV := hI.V
  obtain ⟨H, hH⟩ : ∃ H, H = s.heap := ⟨_, rfl⟩
  obtain ⟨locs, hlo⟩ : ∃ z : List Loc, z = [] := ⟨_, rfl⟩
  suffices hgo : PW X S H → va_S (xA X) s.heap H locs → W p l e (rmd 1) s m args below meth c H locs 0 0 (MQ below (QcI X (rVotes S b) S) args s 0 0 (xA X)) (F0 m 0 ls []) by
    subst hH
    subst hlo
    exact hgo hP hS
  clear hP hS
  intro hP hS
  refine lv_aload_n hx hb d_M_votes_0 rfl (lv_at hl 0 rfl) ?_
  refine lv_iload_n hx hb d_M_votes_1 rfl (lv_at hl 1 rfl) ?_
  refine x_callVi (As := [.int b]) (rest := []) cf hK hN hP hS (k_M_isBlock l hX hI b) (cw_M_isBlock cf.2.2.2.2 w_655 ⟨Nat.le_of_ble_eq_true rfl, Nat.le_of_ble_eq_true rfl⟩) (rv_M hK hP) hl.1 rfl rfl (Nat.le_of_ble_eq_true rfl) ⟨Nat.zero_le _, Nat.zero_le _⟩ d_M_votes_2 (fun H locs hP hS => ?_)
  refine n_if_eq (tgt := 17) hx hb d_M_votes_5 (by decide) (tnat_lt _) (fun h1 => ?_) (fun h1 => ?_)
  · skip
    refine lv_iconst (v := (-1)) hx hb d_M_votes_17 (by decide) ?_
    exact x_iret cf hr hlk hP hS (by unfold rVotes; rw [tnat_0 h1]; rfl) (rfl) d_M_votes_18
  · skip
    obtain ⟨j, hj, rfl⟩ := mBlock_nI (by omega) (tnat_1 h1)
    have hjc := nI_clamp (show j < 2 ^ 31 by omega)
    refine lv_aload_n hx hb d_M_votes_8 rfl (lv_at hl 0 rfl) ?_
    refine x_getM (v := .ref (X.2.2.2 8)) cf hK hP 13 (by decide) w_474 rfl d_M_votes_9 ?_
    refine lv_iload_n hx hb d_M_votes_12 rfl (lv_at hl 1 rfl) ?_
    refine x_iald (v := (S 8 j)) cf hK hP (ia8 X) (by omega) rfl d_M_votes_13 ?_
    refine lv_goto (tgt := 18) hx hb d_M_votes_14 (by decide) ?_
    exact x_iret cf hr hlk hP hS (by unfold rVotes; rw [tnat_1 h1, hjc]; rfl) (rfl) d_M_votes_18
set_option maxRecDepth 100000 in
set_option maxHeartbeats 4000000 in
theorem k_M_drop (l : Launch) {X : WX} (hX : xInj X) {S : Nat → Nat → Nat} {V : Nat} (hI : IW V S) (i : Int32) : MetI l X y_M_drop (Cond.code y_M_drop c_M_drop 2 (some .boolean) :: Mst) 1 [.ref (X.2.2.2 0), .int i] S (nI (rMsg S i).toNat) (mDrop S i) := by
  refine MetI.of (by decide) (Nat.le_of_ble_eq_true rfl) ?_
  intro p e s m args below meth c cf hr hlk hP hK hN ls hl
  have hl : lv_has ls 2 [(0, .ref (X.2.2.2 0)), (1, .int i)] := hl
  have hx := cf.1
  have hb := cf.2.1
  have hD := xD_of hX
  have hS : va_S (xA X) s.heap s.heap [] := va_S.rf
  have hf := hI.f
  have hn := hI.n
  have hk := hI.k
  have hcs := hI.cs
  have ht := hI.t
  have hbl := hI.b
  have hm := hI.m
  have hV := hI.V
  obtain ⟨H, hH⟩ : ∃ H, H = s.heap := ⟨_, rfl⟩
  obtain ⟨locs, hlo⟩ : ∃ z : List Loc, z = [] := ⟨_, rfl⟩
  suffices hgo : PW X S H → va_S (xA X) s.heap H locs → W p l e (rmd 1) s m args below meth c H locs 0 0 (MQ below (QcI X (nI (rMsg S i).toNat) (mDrop S i)) args s 0 0 (xA X)) (F0 m 0 ls []) by
    subst hH
    subst hlo
    exact hgo hP hS
  clear hP hS
  intro hP hS
  refine lv_iload_n hx hb d_M_drop_0 rfl (lv_at hl 1 rfl) ?_
  refine lv_if_lt (tgt := 12) hx hb d_M_drop_1 (by decide) (fun h1 => ?_) (fun h1 => ?_)
  · skip
    have uh1 := i_lt0 h1
    have hno := rMsg_no (S := S) (i := i) (by omega)
    refine lv_iconst (v := nI 0) hx hb d_M_drop_12 (by decide) ?_
    exact x_zret cf hr hlk hP hS (by rw [hno]; rfl) (by unfold mDrop; rw [hno]; rfl) d_M_drop_13
  · skip
    have uh1 := i_nlt0 h1
    refine lv_iload_n hx hb d_M_drop_4 rfl (lv_at hl 1 rfl) ?_
    refine lv_aload_n hx hb d_M_drop_5 rfl (lv_at hl 0 rfl) ?_
    refine x_getM (v := .int (nI (S 0 6))) cf hK hP 14 (by decide) w_475 rfl d_M_drop_6 ?_
    refine lv_icmp_lt (tgt := 14) hx hb d_M_drop_9 (by decide) (fun h2 => ?_) (fun h2 => ?_)
    · skip
      have uh2 := i_ltN (by omega) h2
      obtain ⟨j, hj, rfl, hjt, hjc⟩ := i_nat uh1
      have hj6 : j < S 0 6 := by omega
      have hms := rMsg_yes hm hj6
      refine lv_aload_n hx hb d_M_drop_14 rfl (lv_at hl 0 rfl) ?_
      refine lv_iload_n hx hb d_M_drop_15 rfl (lv_at hl 1 rfl) ?_
      refine x_callVv (As := [.int (nI j)]) (rest := []) cf hK hN hP hS (k_M_takeOut l hX hI (by omega)) (cw_M_takeOut cf.2.2.2.2 w_607 ⟨Nat.le_of_ble_eq_true rfl, Nat.le_of_ble_eq_true rfl⟩) (rv_M hK hP) hl.1 rfl rfl (Nat.le_of_ble_eq_true rfl) ⟨Nat.zero_le _, Nat.zero_le _⟩ d_M_drop_16 (fun H locs hP hS => ?_)
      refine lv_iconst (v := nI 1) hx hb d_M_drop_19 (by decide) ?_
      exact x_zret cf hr hlk hP hS (by rw [hms]; rfl) (by unfold mDrop; rw [hms, hjc]; rfl) d_M_drop_20
    · skip
      have uh2 := i_nltN (by omega) h2
      have hno := rMsg_no (S := S) (i := i) (by omega)
      refine lv_iconst (v := nI 0) hx hb d_M_drop_12 (by decide) ?_
      exact x_zret cf hr hlk hP hS (by rw [hno]; rfl) (by unfold mDrop; rw [hno]; rfl) d_M_drop_13
set_option maxRecDepth 100000 in
set_option maxHeartbeats 4000000 in
theorem k_M_offer (l : Launch) {X : WX} (hX : xInj X) {S : Nat → Nat → Nat} {V : Nat} (hI : IW V S) (b r : Int32) : MetI l X y_M_offer (Cond.code y_M_offer c_M_offer 3 (some .boolean) :: Mst) 1 [.ref (X.2.2.2 0), .int b, .int r] S (nI (rOffer S b r).toNat) (mOffer S b r) := by
  refine MetI.of (by decide) (Nat.le_of_ble_eq_true rfl) ?_
  intro p e s m args below meth c cf hr hlk hP hK hN ls hl
  have hl : lv_has ls 3 [(0, .ref (X.2.2.2 0)), (1, .int b), (2, .int r)] := hl
  have hx := cf.1
  have hb := cf.2.1
  have hD := xD_of hX
  have hS : va_S (xA X) s.heap s.heap [] := va_S.rf
  have hf := hI.f
  have hn := hI.n
  have hk := hI.k
  have hcs := hI.cs
  have ht := hI.t
  have hbl := hI.b
  have hm := hI.m
  have hV := hI.V
  obtain ⟨H, hH⟩ : ∃ H, H = s.heap := ⟨_, rfl⟩
  obtain ⟨locs, hlo⟩ : ∃ z : List Loc, z = [] := ⟨_, rfl⟩
  suffices hgo : PW X S H → va_S (xA X) s.heap H locs → W p l e (rmd 1) s m args below meth c H locs 0 0 (MQ below (QcI X (nI (rOffer S b r).toNat) (mOffer S b r)) args s 0 0 (xA X)) (F0 m 0 ls []) by
    subst hH
    subst hlo
    exact hgo hP hS
  clear hP hS
  intro hP hS
  refine lv_aload_n hx hb d_M_offer_0 rfl (lv_at hl 0 rfl) ?_
  refine x_getM (v := .int (nI (S 0 3))) cf hK hP 3 (by decide) w_464 rfl d_M_offer_1 ?_
  refine n_if_eq (tgt := 36) hx hb d_M_offer_4 (by decide) (by omega) (fun h1 => ?_) (fun h1 => ?_)
  · skip
    have hno : rOffer S b r = false := by unfold rOffer; rw [decide_eq_false (p := ¬ S 0 3 = 0) (by omega)]; simp
    refine lv_iconst (v := nI 0) hx hb d_M_offer_36 (by decide) ?_
    exact x_zret cf hr hlk hP hS (by rw [hno]; rfl) (by unfold mOffer; rw [hno]; rfl) d_M_offer_37
  · skip
    refine lv_iload_n hx hb d_M_offer_7 rfl (lv_at hl 1 rfl) ?_
    refine lv_if_eq (tgt := 36) hx hb d_M_offer_8 (by decide) (fun h2 => ?_) (fun h2 => ?_)
    · skip
      have uh2 := i_eq0 h2
      have hno : rOffer S b r = false := by unfold rOffer; rw [decide_eq_false (p := ¬ b.toInt = 0) (by omega)]; simp
      refine lv_iconst (v := nI 0) hx hb d_M_offer_36 (by decide) ?_
      exact x_zret cf hr hlk hP hS (by rw [hno]; rfl) (by unfold mOffer; rw [hno]; rfl) d_M_offer_37
    · skip
      have uh2 := i_ne0 h2
      refine lv_aload_n hx hb d_M_offer_11 rfl (lv_at hl 0 rfl) ?_
      refine lv_iload_n hx hb d_M_offer_12 rfl (lv_at hl 1 rfl) ?_
      refine x_callVi (As := [.int b]) (rest := []) cf hK hN hP hS (k_M_isBlock l hX hI b) (cw_M_isBlock cf.2.2.2.2 w_655 ⟨Nat.le_of_ble_eq_true rfl, Nat.le_of_ble_eq_true rfl⟩) (rv_M hK hP) hl.1 rfl rfl (Nat.le_of_ble_eq_true rfl) ⟨Nat.zero_le _, Nat.zero_le _⟩ d_M_offer_13 (fun H locs hP hS => ?_)
      refine n_if_eq (tgt := 36) hx hb d_M_offer_16 (by decide) (tnat_lt _) (fun h3 => ?_) (fun h3 => ?_)
      · skip
        have hno : rOffer S b r = false := by unfold rOffer; rw [tnat_0 (b := mBlock S b) h3]; simp
        refine lv_iconst (v := nI 0) hx hb d_M_offer_36 (by decide) ?_
        exact x_zret cf hr hlk hP hS (by rw [hno]; rfl) (by unfold mOffer; rw [hno]; rfl) d_M_offer_37
      · skip
        obtain ⟨bj, hbj, rfl⟩ := mBlock_nI (by omega) (tnat_1 h3)
        have hbjc := nI_clamp (show bj < 2 ^ 31 by omega)
        refine lv_aload_n hx hb d_M_offer_19 rfl (lv_at hl 0 rfl) ?_
        refine lv_iload_n hx hb d_M_offer_20 rfl (lv_at hl 2 rfl) ?_
        refine x_callVi (As := [.int r]) (rest := []) cf hK hN hP hS (k_M_isReplica l hX hI r) (cw_M_isReplica cf.2.2.2.2 w_571 ⟨Nat.le_of_ble_eq_true rfl, Nat.le_of_ble_eq_true rfl⟩) (rv_M hK hP) hl.1 rfl rfl (Nat.le_of_ble_eq_true rfl) ⟨Nat.zero_le _, Nat.zero_le _⟩ d_M_offer_21 (fun H locs hP hS => ?_)
        refine n_if_eq (tgt := 36) hx hb d_M_offer_24 (by decide) (tnat_lt _) (fun h4 => ?_) (fun h4 => ?_)
        · skip
          have hno : rOffer S (nI bj) r = false := by unfold rOffer; rw [tnat_0 (b := mRep S r) h4]; simp
          refine lv_iconst (v := nI 0) hx hb d_M_offer_36 (by decide) ?_
          exact x_zret cf hr hlk hP hS (by rw [hno]; rfl) (by unfold mOffer; rw [hno]; rfl) d_M_offer_37
        · skip
          obtain ⟨rj, hrj, rfl⟩ := mRep_nI (by omega) (tnat_1 h4)
          have hrjc := nI_clamp (show rj < 2 ^ 31 by omega)
          refine lv_aload_n hx hb d_M_offer_27 rfl (lv_at hl 0 rfl) ?_
          refine x_getM (v := .int (nI (S 0 6))) cf hK hP 14 (by decide) w_475 rfl d_M_offer_28 ?_
          refine lv_bipush (v := nI 40) hx hb d_M_offer_31 (by decide) ?_
          refine n_icmp_lt (tgt := 38) hx hb d_M_offer_33 (by decide) (by omega) (by decide) (fun h5 => ?_) (fun h5 => ?_)
          · skip
            have hyes : rOffer S (nI bj) (nI rj) = true := by unfold rOffer; rw [decide_eq_true (p := ¬ S 0 3 = 0) (by omega), decide_eq_true (p := ¬ (nI bj).toInt = 0) (by omega), tnat_1 (b := mBlock S (nI bj)) (by assumption), tnat_1 (b := mRep S (nI rj)) (by assumption), decide_eq_true (p := S 0 6 < 40) (by omega)]; rfl
            refine lv_aload_n hx hb d_M_offer_38 rfl (lv_at hl 0 rfl) ?_
            refine lv_iconst (v := nI 0) hx hb d_M_offer_39 (by decide) ?_
            refine lv_iconst (v := nI 0) hx hb d_M_offer_40 (by decide) ?_
            refine lv_iload_n hx hb d_M_offer_41 rfl (lv_at hl 2 rfl) ?_
            refine lv_iload_n hx hb d_M_offer_42 rfl (lv_at hl 1 rfl) ?_
            refine lv_iconst (v := nI 0) hx hb d_M_offer_43 (by decide) ?_
            refine x_callVv (As := [.int (nI 0), .int (nI 0), .int (nI rj), .int (nI bj), .int (nI 0)]) (rest := []) cf hK hN hP hS (k_M_send l hX hI 0 0 rj bj 0) (cw_M_send cf.2.2.2.2 w_591 ⟨Nat.le_of_ble_eq_true rfl, Nat.le_of_ble_eq_true rfl⟩) (rv_M hK hP) hl.1 rfl rfl (Nat.le_of_ble_eq_true rfl) ⟨Nat.zero_le _, Nat.zero_le _⟩ d_M_offer_44 (fun H locs hP hS => ?_)
            refine lv_iconst (v := nI 1) hx hb d_M_offer_47 (by decide) ?_
            exact x_zret cf hr hlk hP hS (by rw [hyes]; rfl) (by unfold mOffer; rw [hyes, hbjc, hrjc]; rfl) d_M_offer_48
          · skip
            have hno : rOffer S (nI bj) (nI rj) = false := by unfold rOffer; rw [decide_eq_false (p := S 0 6 < 40) (by omega)]; simp
            refine lv_iconst (v := nI 0) hx hb d_M_offer_36 (by decide) ?_
            exact x_zret cf hr hlk hP hS (by rw [hno]; rfl) (by unfold mOffer; rw [hno]; rfl) d_M_offer_37
set_option maxRecDepth 100000 in
set_option maxHeartbeats 4000000 in
theorem k_M_vote (l : Launch) {X : WX} (hX : xInj X) {S : Nat → Nat → Nat} {V : Nat} (hI : IW V S) (x b r : Int32) : MetI l X y_M_vote (Cond.code y_M_vote c_M_vote 4 (some .boolean) :: Mst) 2 [.ref (X.2.2.2 0), .int x, .int b, .int r] S (nI (rVote S x b r).toNat) (mVote S x b r) := by
  refine MetI.of (by decide) (Nat.le_of_ble_eq_true rfl) ?_
  intro p e s m args below meth c cf hr hlk hP hK hN ls hl
  have hl : lv_has ls 4 [(0, .ref (X.2.2.2 0)), (1, .int x), (2, .int b), (3, .int r)] := hl
  have hx := cf.1
  have hb := cf.2.1
  have hD := xD_of hX
  have hS : va_S (xA X) s.heap s.heap [] := va_S.rf
  have hf := hI.f
  have hn := hI.n
  have hk := hI.k
  have hcs := hI.cs
  have ht := hI.t
  have hbl := hI.b
  have hm := hI.m
  have hV := hI.V
  obtain ⟨H, hH⟩ : ∃ H, H = s.heap := ⟨_, rfl⟩
  obtain ⟨locs, hlo⟩ : ∃ z : List Loc, z = [] := ⟨_, rfl⟩
  suffices hgo : PW X S H → va_S (xA X) s.heap H locs → W p l e (rmd 2) s m args below meth c H locs 0 0 (MQ below (QcI X (nI (rVote S x b r).toNat) (mVote S x b r)) args s 0 0 (xA X)) (F0 m 0 ls []) by
    subst hH
    subst hlo
    exact hgo hP hS
  clear hP hS
  intro hP hS
  refine lv_aload_n hx hb d_M_vote_0 rfl (lv_at hl 0 rfl) ?_
  refine lv_iload_n hx hb d_M_vote_1 rfl (lv_at hl 1 rfl) ?_
  refine x_callVi (As := [.int x]) (rest := []) cf hK hN hP hS (k_M_isCorrupt l hX hI x) (cw_M_isCorrupt cf.2.2.2.2 w_611 ⟨Nat.le_of_ble_eq_true rfl, Nat.le_of_ble_eq_true rfl⟩) (rv_M hK hP) hl.1 rfl rfl (Nat.le_of_ble_eq_true rfl) ⟨Nat.zero_le _, Nat.zero_le _⟩ d_M_vote_2 (fun H locs hP hS => ?_)
  refine n_if_eq (tgt := 37) hx hb d_M_vote_5 (by decide) (tnat_lt _) (fun h1 => ?_) (fun h1 => ?_)
  · skip
    have hno : rVote S x b r = false := by unfold rVote; rw [tnat_0 (b := mCorrupt S x) h1]; simp
    refine lv_iconst (v := nI 0) hx hb d_M_vote_37 (by decide) ?_
    exact x_zret cf hr hlk hP hS (by rw [hno]; rfl) (by unfold mVote; rw [hno]; rfl) d_M_vote_38
  · skip
    obtain ⟨xj, hxj, rfl, hxjb⟩ := mCorrupt_ex (by omega) (tnat_1 h1)
    have hxjc := nI_clamp (show xj < 2 ^ 31 by omega)
    refine lv_iload_n hx hb d_M_vote_8 rfl (lv_at hl 2 rfl) ?_
    refine lv_if_eq (tgt := 37) hx hb d_M_vote_9 (by decide) (fun h2 => ?_) (fun h2 => ?_)
    · skip
      have uh2 := i_eq0 h2
      have hno : rVote S (nI xj) b r = false := by unfold rVote; rw [decide_eq_false (p := ¬ b.toInt = 0) (by omega)]; simp
      refine lv_iconst (v := nI 0) hx hb d_M_vote_37 (by decide) ?_
      exact x_zret cf hr hlk hP hS (by rw [hno]; rfl) (by unfold mVote; rw [hno]; rfl) d_M_vote_38
    · skip
      have uh2 := i_ne0 h2
      refine lv_aload_n hx hb d_M_vote_12 rfl (lv_at hl 0 rfl) ?_
      refine lv_iload_n hx hb d_M_vote_13 rfl (lv_at hl 2 rfl) ?_
      refine x_callVi (As := [.int b]) (rest := []) cf hK hN hP hS (k_M_isBlock l hX hI b) (cw_M_isBlock cf.2.2.2.2 w_655 ⟨Nat.le_of_ble_eq_true rfl, Nat.le_of_ble_eq_true rfl⟩) (rv_M hK hP) hl.1 rfl rfl (Nat.le_of_ble_eq_true rfl) ⟨Nat.zero_le _, Nat.zero_le _⟩ d_M_vote_14 (fun H locs hP hS => ?_)
      refine n_if_eq (tgt := 37) hx hb d_M_vote_17 (by decide) (tnat_lt _) (fun h3 => ?_) (fun h3 => ?_)
      · skip
        have hno : rVote S (nI xj) b r = false := by unfold rVote; rw [tnat_0 (b := mBlock S b) h3]; simp
        refine lv_iconst (v := nI 0) hx hb d_M_vote_37 (by decide) ?_
        exact x_zret cf hr hlk hP hS (by rw [hno]; rfl) (by unfold mVote; rw [hno]; rfl) d_M_vote_38
      · skip
        obtain ⟨bj, hbj, rfl⟩ := mBlock_nI (by omega) (tnat_1 h3)
        have hbjc := nI_clamp (show bj < 2 ^ 31 by omega)
        refine lv_aload_n hx hb d_M_vote_20 rfl (lv_at hl 0 rfl) ?_
        refine lv_iload_n hx hb d_M_vote_21 rfl (lv_at hl 3 rfl) ?_
        refine x_callVi (As := [.int r]) (rest := []) cf hK hN hP hS (k_M_isReplica l hX hI r) (cw_M_isReplica cf.2.2.2.2 w_571 ⟨Nat.le_of_ble_eq_true rfl, Nat.le_of_ble_eq_true rfl⟩) (rv_M hK hP) hl.1 rfl rfl (Nat.le_of_ble_eq_true rfl) ⟨Nat.zero_le _, Nat.zero_le _⟩ d_M_vote_22 (fun H locs hP hS => ?_)
        refine n_if_eq (tgt := 37) hx hb d_M_vote_25 (by decide) (tnat_lt _) (fun h4 => ?_) (fun h4 => ?_)
        · skip
          have hno : rVote S (nI xj) (nI bj) r = false := by unfold rVote; rw [tnat_0 (b := mRep S r) h4]; simp
          refine lv_iconst (v := nI 0) hx hb d_M_vote_37 (by decide) ?_
          exact x_zret cf hr hlk hP hS (by rw [hno]; rfl) (by unfold mVote; rw [hno]; rfl) d_M_vote_38
        · skip
          obtain ⟨rj, hrj, rfl⟩ := mRep_nI (by omega) (tnat_1 h4)
          have hrjc := nI_clamp (show rj < 2 ^ 31 by omega)
          refine lv_aload_n hx hb d_M_vote_28 rfl (lv_at hl 0 rfl) ?_
          refine x_getM (v := .int (nI (S 0 6))) cf hK hP 14 (by decide) w_475 rfl d_M_vote_29 ?_
          refine lv_bipush (v := nI 40) hx hb d_M_vote_32 (by decide) ?_
          refine n_icmp_lt (tgt := 39) hx hb d_M_vote_34 (by decide) (by omega) (by decide) (fun h5 => ?_) (fun h5 => ?_)
          · skip
            have hyes : rVote S (nI xj) (nI bj) (nI rj) = true := by unfold rVote; rw [tnat_1 (b := mCorrupt S (nI xj)) (by assumption), decide_eq_true (p := ¬ (nI bj).toInt = 0) (by omega), tnat_1 (b := mBlock S (nI bj)) (by assumption), tnat_1 (b := mRep S (nI rj)) (by assumption), decide_eq_true (p := S 0 6 < 40) (by omega)]; rfl
            refine lv_aload_n hx hb d_M_vote_39 rfl (lv_at hl 0 rfl) ?_
            refine lv_iconst (v := nI 1) hx hb d_M_vote_40 (by decide) ?_
            refine lv_iload_n hx hb d_M_vote_41 rfl (lv_at hl 1 rfl) ?_
            refine lv_iload_n hx hb d_M_vote_42 rfl (lv_at hl 3 rfl) ?_
            refine lv_iload_n hx hb d_M_vote_43 rfl (lv_at hl 2 rfl) ?_
            refine lv_iconst (v := nI 0) hx hb d_M_vote_44 (by decide) ?_
            refine x_callVv (As := [.int (nI 1), .int (nI xj), .int (nI rj), .int (nI bj), .int (nI 0)]) (rest := []) cf hK hN hP hS (k_M_send l hX hI 1 xj rj bj 0) (cw_M_send cf.2.2.2.2 w_591 ⟨Nat.le_of_ble_eq_true rfl, Nat.le_of_ble_eq_true rfl⟩) (rv_M hK hP) hl.1 rfl rfl (Nat.le_of_ble_eq_true rfl) ⟨Nat.zero_le _, Nat.zero_le _⟩ d_M_vote_45 (fun H locs hP hS => ?_)
            refine lv_iconst (v := nI 1) hx hb d_M_vote_48 (by decide) ?_
            exact x_zret cf hr hlk hP hS (by rw [hyes]; rfl) (by unfold mVote; rw [hyes, hxjc, hbjc, hrjc]; rfl) d_M_vote_49
          · skip
            have hno : rVote S (nI xj) (nI bj) (nI rj) = false := by unfold rVote; rw [decide_eq_false (p := S 0 6 < 40) (by omega)]; simp
            refine lv_iconst (v := nI 0) hx hb d_M_vote_37 (by decide) ?_
            exact x_zret cf hr hlk hP hS (by rw [hno]; rfl) (by unfold mVote; rw [hno]; rfl) d_M_vote_38
set_option maxRecDepth 100000 in
set_option maxHeartbeats 4000000 in
theorem k_M_claim (l : Launch) {X : WX} (hX : xInj X) {S : Nat → Nat → Nat} {V : Nat} (hI : IW V S) (x v b r : Int32) : MetI l X y_M_claim (Cond.code y_M_claim c_M_claim 5 (some .boolean) :: Mst) 2 [.ref (X.2.2.2 0), .int x, .int v, .int b, .int r] S (nI (rClaim S x v b r).toNat) (mClaim S x v b r) := by
  refine MetI.of (by decide) (Nat.le_of_ble_eq_true rfl) ?_
  intro p e s m args below meth c cf hr hlk hP hK hN ls hl
  have hl : lv_has ls 5 [(0, .ref (X.2.2.2 0)), (1, .int x), (2, .int v), (3, .int b), (4, .int r)] := hl
  have hx := cf.1
  have hb := cf.2.1
  have hD := xD_of hX
  have hS : va_S (xA X) s.heap s.heap [] := va_S.rf
  have hf := hI.f
  have hn := hI.n
  have hk := hI.k
  have hcs := hI.cs
  have ht := hI.t
  have hbl := hI.b
  have hm := hI.m
  have hV := hI.V
  obtain ⟨H, hH⟩ : ∃ H, H = s.heap := ⟨_, rfl⟩
  obtain ⟨locs, hlo⟩ : ∃ z : List Loc, z = [] := ⟨_, rfl⟩
  suffices hgo : PW X S H → va_S (xA X) s.heap H locs → W p l e (rmd 2) s m args below meth c H locs 0 0 (MQ below (QcI X (nI (rClaim S x v b r).toNat) (mClaim S x v b r)) args s 0 0 (xA X)) (F0 m 0 ls []) by
    subst hH
    subst hlo
    exact hgo hP hS
  clear hP hS
  intro hP hS
  refine lv_aload_n hx hb d_M_claim_0 rfl (lv_at hl 0 rfl) ?_
  refine lv_iload_n hx hb d_M_claim_1 rfl (lv_at hl 1 rfl) ?_
  refine x_callVi (As := [.int x]) (rest := []) cf hK hN hP hS (k_M_isCorrupt l hX hI x) (cw_M_isCorrupt cf.2.2.2.2 w_611 ⟨Nat.le_of_ble_eq_true rfl, Nat.le_of_ble_eq_true rfl⟩) (rv_M hK hP) hl.1 rfl rfl (Nat.le_of_ble_eq_true rfl) ⟨Nat.zero_le _, Nat.zero_le _⟩ d_M_claim_2 (fun H locs hP hS => ?_)
  refine n_if_eq (tgt := 47) hx hb d_M_claim_5 (by decide) (tnat_lt _) (fun h1 => ?_) (fun h1 => ?_)
  · skip
    have hno : rClaim S x v b r = false := by unfold rClaim; rw [tnat_0 (b := mCorrupt S x) h1]; simp
    refine lv_iconst (v := nI 0) hx hb d_M_claim_47 (by decide) ?_
    exact x_zret cf hr hlk hP hS (by rw [hno]; rfl) (by unfold mClaim; rw [hno]; rfl) d_M_claim_48
  · skip
    obtain ⟨xj, hxj, rfl, hxjb⟩ := mCorrupt_ex (by omega) (tnat_1 h1)
    have hxjc := nI_clamp (show xj < 2 ^ 31 by omega)
    refine lv_iload_n hx hb d_M_claim_8 rfl (lv_at hl 2 rfl) ?_
    refine lv_iconst (v := nI 1) hx hb d_M_claim_9 (by decide) ?_
    refine lv_icmp_lt (tgt := 47) hx hb d_M_claim_10 (by decide) (fun h2 => ?_) (fun h2 => ?_)
    · skip
      have uh2 := i_ltN (by decide) h2
      have hno : rClaim S (nI xj) v b r = false := by unfold rClaim; rw [decide_eq_false (p := 1 ≤ v.toInt) (by omega)]; simp
      refine lv_iconst (v := nI 0) hx hb d_M_claim_47 (by decide) ?_
      exact x_zret cf hr hlk hP hS (by rw [hno]; rfl) (by unfold mClaim; rw [hno]; rfl) d_M_claim_48
    · skip
      have uh2 := i_nltN (by decide) h2
      obtain ⟨vj, hvj, rfl, hvjt, hvjc⟩ := i_nat (x := v) (by omega)
      refine lv_aload_n hx hb d_M_claim_13 rfl (lv_at hl 0 rfl) ?_
      refine lv_iload_n hx hb d_M_claim_14 rfl (lv_at hl 3 rfl) ?_
      refine x_callVi (As := [.int b]) (rest := []) cf hK hN hP hS (k_M_isBlock l hX hI b) (cw_M_isBlock cf.2.2.2.2 w_655 ⟨Nat.le_of_ble_eq_true rfl, Nat.le_of_ble_eq_true rfl⟩) (rv_M hK hP) hl.1 rfl rfl (Nat.le_of_ble_eq_true rfl) ⟨Nat.zero_le _, Nat.zero_le _⟩ d_M_claim_15 (fun H locs hP hS => ?_)
      refine n_if_eq (tgt := 47) hx hb d_M_claim_18 (by decide) (tnat_lt _) (fun h3 => ?_) (fun h3 => ?_)
      · skip
        have hno : rClaim S (nI xj) (nI vj) b r = false := by unfold rClaim; rw [tnat_0 (b := mBlock S b) h3]; simp
        refine lv_iconst (v := nI 0) hx hb d_M_claim_47 (by decide) ?_
        exact x_zret cf hr hlk hP hS (by rw [hno]; rfl) (by unfold mClaim; rw [hno]; rfl) d_M_claim_48
      · skip
        obtain ⟨bj, hbj, rfl⟩ := mBlock_nI (by omega) (tnat_1 h3)
        have hbjc := nI_clamp (show bj < 2 ^ 31 by omega)
        refine lv_aload_n hx hb d_M_claim_21 rfl (lv_at hl 0 rfl) ?_
        refine lv_iload_n hx hb d_M_claim_22 rfl (lv_at hl 3 rfl) ?_
        refine x_callVi (As := [.int (nI bj)]) (rest := []) cf hK hN hP hS (k_M_certified l hX hI (by omega)) (cw_M_certified cf.2.2.2.2 w_659 ⟨Nat.le_of_ble_eq_true rfl, Nat.le_of_ble_eq_true rfl⟩) (rv_M hK hP) hl.1 rfl rfl (Nat.le_of_ble_eq_true rfl) ⟨Nat.zero_le _, Nat.zero_le _⟩ d_M_claim_23 (fun H locs hP hS => ?_)
        refine n_if_eq (tgt := 47) hx hb d_M_claim_26 (by decide) (tnat_lt _) (fun h4 => ?_) (fun h4 => ?_)
        · skip
          have hno : rClaim S (nI xj) (nI vj) (nI bj) r = false := by unfold rClaim; rw [hbjc, tnat_0 (b := mCert S bj) h4]; simp
          refine lv_iconst (v := nI 0) hx hb d_M_claim_47 (by decide) ?_
          exact x_zret cf hr hlk hP hS (by rw [hno]; rfl) (by unfold mClaim; rw [hno]; rfl) d_M_claim_48
        · skip
          refine lv_aload_n hx hb d_M_claim_29 rfl (lv_at hl 0 rfl) ?_
          refine lv_iload hx hb d_M_claim_30 (lv_at hl 4 rfl) ?_
          refine x_callVi (As := [.int r]) (rest := []) cf hK hN hP hS (k_M_isReplica l hX hI r) (cw_M_isReplica cf.2.2.2.2 w_571 ⟨Nat.le_of_ble_eq_true rfl, Nat.le_of_ble_eq_true rfl⟩) (rv_M hK hP) hl.1 rfl rfl (Nat.le_of_ble_eq_true rfl) ⟨Nat.zero_le _, Nat.zero_le _⟩ d_M_claim_32 (fun H locs hP hS => ?_)
          refine n_if_eq (tgt := 47) hx hb d_M_claim_35 (by decide) (tnat_lt _) (fun h5 => ?_) (fun h5 => ?_)
          · skip
            have hno : rClaim S (nI xj) (nI vj) (nI bj) r = false := by unfold rClaim; rw [tnat_0 (b := mRep S r) h5]; simp
            refine lv_iconst (v := nI 0) hx hb d_M_claim_47 (by decide) ?_
            exact x_zret cf hr hlk hP hS (by rw [hno]; rfl) (by unfold mClaim; rw [hno]; rfl) d_M_claim_48
          · skip
            obtain ⟨rj, hrj, rfl⟩ := mRep_nI (by omega) (tnat_1 h5)
            have hrjc := nI_clamp (show rj < 2 ^ 31 by omega)
            refine lv_aload_n hx hb d_M_claim_38 rfl (lv_at hl 0 rfl) ?_
            refine x_getM (v := .int (nI (S 0 6))) cf hK hP 14 (by decide) w_475 rfl d_M_claim_39 ?_
            refine lv_bipush (v := nI 40) hx hb d_M_claim_42 (by decide) ?_
            refine n_icmp_lt (tgt := 49) hx hb d_M_claim_44 (by decide) (by omega) (by decide) (fun h6 => ?_) (fun h6 => ?_)
            · skip
              have hyes : rClaim S (nI xj) (nI vj) (nI bj) (nI rj) = true := by unfold rClaim; rw [hbjc, tnat_1 (b := mCorrupt S (nI xj)) (by assumption), decide_eq_true (p := 1 ≤ (nI vj).toInt) (by omega), tnat_1 (b := mBlock S (nI bj)) (by assumption), tnat_1 (b := mCert S bj) (by assumption), tnat_1 (b := mRep S (nI rj)) (by assumption), decide_eq_true (p := S 0 6 < 40) (by omega)]; rfl
              refine lv_aload_n hx hb d_M_claim_49 rfl (lv_at hl 0 rfl) ?_
              refine lv_iconst (v := nI 2) hx hb d_M_claim_50 (by decide) ?_
              refine lv_iload_n hx hb d_M_claim_51 rfl (lv_at hl 1 rfl) ?_
              refine lv_iload hx hb d_M_claim_52 (lv_at hl 4 rfl) ?_
              refine lv_iload_n hx hb d_M_claim_54 rfl (lv_at hl 3 rfl) ?_
              refine lv_iload_n hx hb d_M_claim_55 rfl (lv_at hl 2 rfl) ?_
              refine x_callVv (As := [.int (nI 2), .int (nI xj), .int (nI rj), .int (nI bj), .int (nI vj)]) (rest := []) cf hK hN hP hS (k_M_send l hX hI 2 xj rj bj vj) (cw_M_send cf.2.2.2.2 w_591 ⟨Nat.le_of_ble_eq_true rfl, Nat.le_of_ble_eq_true rfl⟩) (rv_M hK hP) hl.1 rfl rfl (Nat.le_of_ble_eq_true rfl) ⟨Nat.zero_le _, Nat.zero_le _⟩ d_M_claim_56 (fun H locs hP hS => ?_)
              refine lv_iconst (v := nI 1) hx hb d_M_claim_59 (by decide) ?_
              exact x_zret cf hr hlk hP hS (by rw [hyes]; rfl) (by unfold mClaim; rw [hyes, hxjc, hvjc, hbjc, hrjc]; rfl) d_M_claim_60
            · skip
              have hno : rClaim S (nI xj) (nI vj) (nI bj) (nI rj) = false := by unfold rClaim; rw [decide_eq_false (p := S 0 6 < 40) (by omega)]; simp
              refine lv_iconst (v := nI 0) hx hb d_M_claim_47 (by decide) ?_
              exact x_zret cf hr hlk hP hS (by rw [hno]; rfl) (by unfold mClaim; rw [hno]; rfl) d_M_claim_48
end
section
def rForgeOk (S : Nat → Nat → Nat) (p v set : Int32) : Bool := mBlock S p && mCert S p.toNatClampNeg && decide ((S 5 p.toNatClampNeg : Int) < v.toInt) && decide (v.toInt ≤ 9999) && decide (S 0 5 < 40) && decide (S 0 3 / 2 ^ mLeader S v.toNatClampNeg % 2 = 1) && decide (0 ≤ set.toInt ∧ set.toInt < ((2 ^ S 0 4 : Nat) : Int))
def rForge (S : Nat → Nat → Nat) (p v set : Int32) : Int32 := if rForgeOk S p v set = true then nI (S 0 5) else -1
def mForge (S : Nat → Nat → Nat) (p v set : Int32) : Nat → Nat → Nat := if rForgeOk S p v set = true then mNewBlock S v.toNatClampNeg p.toNatClampNeg set.toNatClampNeg else S
def rFlow (S : Nat → Nat → Nat) (m : Int32) : Int32 := if 0 ≤ m.toInt ∧ m.toInt ≤ 40 then nI (mFlowN m.toNatClampNeg S) else -1
def mFlow (S : Nat → Nat → Nat) (m : Int32) : Nat → Nat → Nat := if 0 ≤ m.toInt ∧ m.toInt ≤ 40 then mFlowS m.toNatClampNeg S else S
theorem mTick1_rows {S : Nat → Nat → Nat} {r row : Nat} (h1 : row ≠ 14) (h2 : row ≠ 15) (h3 : row ≠ 16) : mTick1 S r row = S row := by
  unfold mTick1
  rw [up2_ne _ _ _ h3, mEnter_ne h1 h2, up2_ne _ _ _ h2]
set_option maxRecDepth 100000 in
set_option maxHeartbeats 4000000 in
theorem k_M_deliver (l : Launch) {X : WX} (hX : xInj X) {S : Nat → Nat → Nat} {V : Nat} (hI : IW V S) (hM : MI V S) (i : Int32) : MetI l X y_M_deliver (Cond.code y_M_deliver c_M_deliver 7 (some .int) :: Mst) 3 [.ref (X.2.2.2 0), .int i] S (rDeliver S i) (mDeliver S i) := by
  refine MetI.of (by decide) (Nat.le_of_ble_eq_true rfl) ?_
  intro p e s m args below meth c cf hr hlk hP hK hN ls hl
  have hl : lv_has ls 7 [(0, .ref (X.2.2.2 0)), (1, .int i)] := hl
  have hx := cf.1
  have hb := cf.2.1
  have hD := xD_of hX
  have hS : va_S (xA X) s.heap s.heap [] := va_S.rf
  have hf := hI.f
  have hn := hI.n
  have hk := hI.k
  have hcs := hI.cs
  have ht := hI.t
  have hbl := hI.b
  have hm := hI.m
  have hV := hI.V
  obtain ⟨H, hH⟩ : ∃ H, H = s.heap := ⟨_, rfl⟩
  obtain ⟨locs, hlo⟩ : ∃ z : List Loc, z = [] := ⟨_, rfl⟩
  suffices hgo : PW X S H → va_S (xA X) s.heap H locs → W p l e (rmd 3) s m args below meth c H locs 0 0 (MQ below (QcI X (rDeliver S i) (mDeliver S i)) args s 0 0 (xA X)) (F0 m 0 ls []) by
    subst hH
    subst hlo
    exact hgo hP hS
  clear hP hS
  intro hP hS
  refine lv_iload_n hx hb d_M_deliver_0 rfl (lv_at hl 1 rfl) ?_
  refine lv_if_lt (tgt := 12) hx hb d_M_deliver_1 (by decide) (fun h1 => ?_) (fun h1 => ?_)
  · skip
    have uh1 := i_lt0 h1
    have hno := rMsg_no (S := S) (i := i) (by omega)
    refine lv_iconst (v := (-1)) hx hb d_M_deliver_12 (by decide) ?_
    exact x_iret cf hr hlk hP hS (by unfold rDeliver; rw [hno]; rfl) (by unfold mDeliver; rw [hno]; rfl) d_M_deliver_13
  · skip
    have uh1 := i_nlt0 h1
    refine lv_iload_n hx hb d_M_deliver_4 rfl (lv_at hl 1 rfl) ?_
    refine lv_aload_n hx hb d_M_deliver_5 rfl (lv_at hl 0 rfl) ?_
    refine x_getM (v := .int (nI (S 0 6))) cf hK hP 14 (by decide) w_475 rfl d_M_deliver_6 ?_
    refine lv_icmp_lt (tgt := 14) hx hb d_M_deliver_9 (by decide) (fun h2 => ?_) (fun h2 => ?_)
    · skip
      have uh2 := i_ltN (by omega) h2
      obtain ⟨j, hj, rfl, hjt, hjc⟩ := i_nat uh1
      have hj6 : j < S 0 6 := by omega
      have hms := rMsg_yes hm hj6
      refine lv_aload_n hx hb d_M_deliver_14 rfl (lv_at hl 0 rfl) ?_
      refine x_getM (v := .ref (X.2.2.2 9)) cf hK hP 16 (by decide) w_477 rfl d_M_deliver_15 ?_
      refine lv_iload_n hx hb d_M_deliver_18 rfl (lv_at hl 1 rfl) ?_
      refine x_iald (v := (S 9 j)) cf hK hP (ia9 X) (by omega) rfl d_M_deliver_19 ?_
      refine lv_istore_n (lv' := [(2, .int (nI (S 9 j))), (0, .ref (X.2.2.2 0)), (1, .int (nI j))]) hx hb d_M_deliver_20 rfl hl (by decide) rfl (fun ls hl => ?_)
      refine lv_aload_n hx hb d_M_deliver_21 rfl (lv_at hl 1 rfl) ?_
      refine x_getM (v := .ref (X.2.2.2 11)) cf hK hP 18 (by decide) w_479 rfl d_M_deliver_22 ?_
      refine lv_iload_n hx hb d_M_deliver_25 rfl (lv_at hl 2 rfl) ?_
      refine x_iald (v := (S 11 j)) cf hK hP (ia11 X) (by omega) rfl d_M_deliver_26 ?_
      refine lv_istore_n (lv' := [(3, .int (nI (S 11 j))), (2, .int (nI (S 9 j))), (0, .ref (X.2.2.2 0)), (1, .int (nI j))]) hx hb d_M_deliver_27 rfl hl (by decide) rfl (fun ls hl => ?_)
      refine lv_aload_n hx hb d_M_deliver_28 rfl (lv_at hl 2 rfl) ?_
      refine x_getM (v := .ref (X.2.2.2 10)) cf hK hP 17 (by decide) w_478 rfl d_M_deliver_29 ?_
      refine lv_iload_n hx hb d_M_deliver_32 rfl (lv_at hl 3 rfl) ?_
      refine x_iald (v := (S 10 j)) cf hK hP (ia10 X) (by omega) rfl d_M_deliver_33 ?_
      refine lv_istore (lv' := [(4, .int (nI (S 10 j))), (3, .int (nI (S 11 j))), (2, .int (nI (S 9 j))), (0, .ref (X.2.2.2 0)), (1, .int (nI j))]) hx hb d_M_deliver_34 hl (by decide) rfl (fun ls hl => ?_)
      refine lv_aload_n hx hb d_M_deliver_36 rfl (lv_at hl 3 rfl) ?_
      refine x_getM (v := .ref (X.2.2.2 12)) cf hK hP 19 (by decide) w_480 rfl d_M_deliver_37 ?_
      refine lv_iload_n hx hb d_M_deliver_40 rfl (lv_at hl 4 rfl) ?_
      refine x_iald (v := (S 12 j)) cf hK hP (ia12 X) (by omega) rfl d_M_deliver_41 ?_
      refine lv_istore (lv' := [(5, .int (nI (S 12 j))), (4, .int (nI (S 10 j))), (3, .int (nI (S 11 j))), (2, .int (nI (S 9 j))), (0, .ref (X.2.2.2 0)), (1, .int (nI j))]) hx hb d_M_deliver_42 hl (by decide) rfl (fun ls hl => ?_)
      refine lv_aload_n hx hb d_M_deliver_44 rfl (lv_at hl 4 rfl) ?_
      refine x_getM (v := .ref (X.2.2.2 13)) cf hK hP 20 (by decide) w_481 rfl d_M_deliver_45 ?_
      refine lv_iload_n hx hb d_M_deliver_48 rfl (lv_at hl 5 rfl) ?_
      refine x_iald (v := (S 13 j)) cf hK hP (ia13 X) (by omega) rfl d_M_deliver_49 ?_
      refine lv_istore (lv' := [(6, .int (nI (S 13 j))), (5, .int (nI (S 12 j))), (4, .int (nI (S 10 j))), (3, .int (nI (S 11 j))), (2, .int (nI (S 9 j))), (0, .ref (X.2.2.2 0)), (1, .int (nI j))]) hx hb d_M_deliver_50 hl (by decide) rfl (fun ls hl => ?_)
      refine lv_aload_n hx hb d_M_deliver_52 rfl (lv_at hl 5 rfl) ?_
      refine lv_iload_n hx hb d_M_deliver_53 rfl (lv_at hl 6 rfl) ?_
      refine x_callVv (As := [.int (nI j)]) (rest := []) cf hK hN hP hS (k_M_takeOut l hX hI (by omega)) (cw_M_takeOut cf.2.2.2.2 w_607 ⟨Nat.le_of_ble_eq_true rfl, Nat.le_of_ble_eq_true rfl⟩) (rv_M hK hP) hl.1 rfl rfl (Nat.le_of_ble_eq_true rfl) ⟨Nat.zero_le _, Nat.zero_le _⟩ d_M_deliver_54 (fun H locs hP hS => ?_)
      obtain ⟨T1, hT1⟩ : ∃ z, z = (mTake S j) := ⟨_, rfl⟩
      rw [← hT1] at hP
      have hI1 : IW V T1 := by rw [hT1]; exact hI.take
      have e01 : T1 0 1 = S 0 1 := by rw [hT1]; exact mTake_0 (by decide)
      have e03 : T1 0 3 = S 0 3 := by rw [hT1]; exact mTake_0 (by decide)
      have e05 : T1 0 5 = S 0 5 := by rw [hT1]; exact mTake_0 (by decide)
      refine lv_aload_n hx hb d_M_deliver_57 rfl (lv_at hl 5 rfl) ?_
      refine lv_iload hx hb d_M_deliver_58 (lv_at hl 2 rfl) ?_
      refine x_callVi (As := [.int (nI (S 10 j))]) (rest := []) cf hK hN hP hS (k_M_isCorrupt l hX hI1 (nI (S 10 j))) (cw_M_isCorrupt cf.2.2.2.2 w_611 ⟨Nat.le_of_ble_eq_true rfl, Nat.le_of_ble_eq_true rfl⟩) (rv_M hK hP) hl.1 rfl rfl (Nat.le_of_ble_eq_true rfl) ⟨Nat.zero_le _, Nat.zero_le _⟩ d_M_deliver_60 (fun H locs hP hS => ?_)
      have hcj : mCorrupt T1 (nI (S 10 j)) = decide (S 0 3 / 2 ^ S 10 j % 2 = 1) := by have := (show S 10 j < S 0 1 from hI.c 10 j); rw [mCorrupt_nI (by omega) (by omega), e03]
      refine n_if_eq (tgt := 68) hx hb d_M_deliver_63 (by decide) (tnat_lt _) (fun h3 => ?_) (fun h3 => ?_)
      · skip
        have hc0 : ¬ S 0 3 / 2 ^ S 10 j % 2 = 1 := fun q => by rw [hcj, decide_eq_true q] at h3; exact absurd h3 (by decide)
        refine lv_iload_n hx hb d_M_deliver_68 rfl (lv_at hl 4 rfl) ?_
        refine n_if_ne (tgt := 83) hx hb d_M_deliver_69 (by decide) (by have := (show S 9 j ≤ 2 from hI.c 9 j); omega) (fun h4 => ?_) (fun h4 => ?_)
        · skip
          refine lv_iload_n hx hb d_M_deliver_83 rfl (lv_at hl 4 rfl) ?_
          refine lv_iconst (v := nI 1) hx hb d_M_deliver_84 (by decide) ?_
          refine n_icmp_ne (tgt := 100) hx hb d_M_deliver_85 (by decide) (by have := (show S 9 j ≤ 2 from hI.c 9 j); omega) (by decide) (fun h5 => ?_) (fun h5 => ?_)
          · skip
            refine lv_aload_n hx hb d_M_deliver_100 rfl (lv_at hl 5 rfl) ?_
            refine lv_iload hx hb d_M_deliver_101 (lv_at hl 2 rfl) ?_
            refine lv_iload_n hx hb d_M_deliver_103 rfl (lv_at hl 3 rfl) ?_
            refine lv_iload hx hb d_M_deliver_104 (lv_at hl 1 rfl) ?_
            refine lv_iload hx hb d_M_deliver_106 (lv_at hl 0 rfl) ?_
            refine x_callVv (As := [.int (nI (S 10 j)), .int (nI (S 11 j)), .int (nI (S 12 j)), .int (nI (S 13 j))]) (rest := []) cf hK hN hP hS (k_M_getNewView l hX hI1 (by have := (show S 10 j < S 0 1 from hI.c 10 j); omega) (by have := (show S 11 j < S 0 1 from hI.c 11 j); omega) (by have := (show S 12 j < S 0 5 from hI.c 12 j); omega) (by have := (show S 13 j < 2147483648 from hI.c 13 j); omega) (fun q => hM j (by rw [← e03]; exact q))) (cw_M_getNewView cf.2.2.2.2 w_638 ⟨Nat.le_of_ble_eq_true rfl, Nat.le_of_ble_eq_true rfl⟩) (rv_M hK hP) hl.1 rfl rfl (Nat.le_of_ble_eq_true rfl) ⟨Nat.zero_le _, Nat.zero_le _⟩ d_M_deliver_108 (fun H locs hP hS => ?_)
            refine lv_iconst (v := nI 1) hx hb d_M_deliver_111 (by decide) ?_
            exact x_iret cf hr hlk hP hS (by unfold rDeliver; rw [hms, hjc]; show nI 1 = nI (if S 0 3 / 2 ^ S 10 j % 2 = 1 then 0 else 1); rw [if_neg hc0]) (by unfold mDeliver; rw [hms, hjc]; show _ = mHand S j; unfold mHand; rw [← hT1]; rw [if_neg hc0, if_neg (by omega), if_neg (by omega)]) d_M_deliver_112
          · skip
            refine lv_aload_n hx hb d_M_deliver_88 rfl (lv_at hl 5 rfl) ?_
            refine lv_iload hx hb d_M_deliver_89 (lv_at hl 2 rfl) ?_
            refine lv_iload_n hx hb d_M_deliver_91 rfl (lv_at hl 3 rfl) ?_
            refine lv_iload hx hb d_M_deliver_92 (lv_at hl 1 rfl) ?_
            refine x_callVv (As := [.int (nI (S 10 j)), .int (nI (S 11 j)), .int (nI (S 12 j))]) (rest := []) cf hK hN hP hS (k_M_getVote l hX hI1 (by have := (show S 10 j < S 0 1 from hI.c 10 j); omega) (by have := (show S 11 j < S 0 1 from hI.c 11 j); omega) (by have := (show S 12 j < S 0 5 from hI.c 12 j); omega)) (cw_M_getVote cf.2.2.2.2 w_631 ⟨Nat.le_of_ble_eq_true rfl, Nat.le_of_ble_eq_true rfl⟩) (rv_M hK hP) hl.1 rfl rfl (Nat.le_of_ble_eq_true rfl) ⟨Nat.zero_le _, Nat.zero_le _⟩ d_M_deliver_94 (fun H locs hP hS => ?_)
            refine lv_goto (tgt := 111) hx hb d_M_deliver_97 (by decide) ?_
            refine lv_iconst (v := nI 1) hx hb d_M_deliver_111 (by decide) ?_
            exact x_iret cf hr hlk hP hS (by unfold rDeliver; rw [hms, hjc]; show nI 1 = nI (if S 0 3 / 2 ^ S 10 j % 2 = 1 then 0 else 1); rw [if_neg hc0]) (by unfold mDeliver; rw [hms, hjc]; show _ = mHand S j; unfold mHand; rw [← hT1]; rw [if_neg hc0, if_neg (by omega), if_pos (by omega)]) d_M_deliver_112
        · skip
          refine lv_aload_n hx hb d_M_deliver_72 rfl (lv_at hl 5 rfl) ?_
          refine lv_iload hx hb d_M_deliver_73 (lv_at hl 2 rfl) ?_
          refine lv_iload hx hb d_M_deliver_75 (lv_at hl 1 rfl) ?_
          refine x_callVv (As := [.int (nI (S 10 j)), .int (nI (S 12 j))]) (rest := []) cf hK hN hP hS (k_M_getProposal l hX hI1 (by have := (show S 10 j < S 0 1 from hI.c 10 j); omega) (by have := (show S 12 j < S 0 5 from hI.c 12 j); omega)) (cw_M_getProposal cf.2.2.2.2 w_615 ⟨Nat.le_of_ble_eq_true rfl, Nat.le_of_ble_eq_true rfl⟩) (rv_M hK hP) hl.1 rfl rfl (Nat.le_of_ble_eq_true rfl) ⟨Nat.zero_le _, Nat.zero_le _⟩ d_M_deliver_77 (fun H locs hP hS => ?_)
          refine lv_goto (tgt := 111) hx hb d_M_deliver_80 (by decide) ?_
          refine lv_iconst (v := nI 1) hx hb d_M_deliver_111 (by decide) ?_
          exact x_iret cf hr hlk hP hS (by unfold rDeliver; rw [hms, hjc]; show nI 1 = nI (if S 0 3 / 2 ^ S 10 j % 2 = 1 then 0 else 1); rw [if_neg hc0]) (by unfold mDeliver; rw [hms, hjc]; show _ = mHand S j; unfold mHand; rw [← hT1]; rw [if_neg hc0, if_pos (by omega)]) d_M_deliver_112
      · skip
        have hc1 : S 0 3 / 2 ^ S 10 j % 2 = 1 := by have q := tnat_1 h3; rw [hcj] at q; exact of_decide_eq_true q
        refine lv_iconst (v := nI 0) hx hb d_M_deliver_66 (by decide) ?_
        exact x_iret cf hr hlk hP hS (by unfold rDeliver; rw [hms, hjc]; show nI 0 = nI (if S 0 3 / 2 ^ S 10 j % 2 = 1 then 0 else 1); rw [if_pos hc1]) (by unfold mDeliver; rw [hms, hjc]; show _ = mHand S j; unfold mHand; rw [← hT1]; rw [if_pos hc1]) d_M_deliver_67
    · skip
      have uh2 := i_nltN (by omega) h2
      have hno := rMsg_no (S := S) (i := i) (by omega)
      refine lv_iconst (v := (-1)) hx hb d_M_deliver_12 (by decide) ?_
      exact x_iret cf hr hlk hP hS (by unfold rDeliver; rw [hno]; rfl) (by unfold mDeliver; rw [hno]; rfl) d_M_deliver_13
set_option maxRecDepth 100000 in
set_option maxHeartbeats 4000000 in
theorem k_M_flow (l : Launch) {X : WX} (hX : xInj X) {S : Nat → Nat → Nat} {V : Nat} (hI : IW V S) (hM : MI V S) (mm : Int32) : MetI l X y_M_flow (Cond.code y_M_flow c_M_flow 3 (some .int) :: Mst) 4 [.ref (X.2.2.2 0), .int mm] S (rFlow S mm) (mFlow S mm) := by
  refine MetI.of (by decide) (Nat.le_of_ble_eq_true rfl) ?_
  intro p e s m args below meth c cf hr hlk hP hK hN ls hl
  have hl : lv_has ls 3 [(0, .ref (X.2.2.2 0)), (1, .int mm)] := hl
  have hx := cf.1
  have hb := cf.2.1
  have hD := xD_of hX
  have hS : va_S (xA X) s.heap s.heap [] := va_S.rf
  have hf := hI.f
  have hn := hI.n
  have hk := hI.k
  have hcs := hI.cs
  have ht := hI.t
  have hbl := hI.b
  have hm := hI.m
  have hV := hI.V
  obtain ⟨H, hH⟩ : ∃ H, H = s.heap := ⟨_, rfl⟩
  obtain ⟨locs, hlo⟩ : ∃ z : List Loc, z = [] := ⟨_, rfl⟩
  suffices hgo : PW X S H → va_S (xA X) s.heap H locs → W p l e (rmd 4) s m args below meth c H locs 0 0 (MQ below (QcI X (rFlow S mm) (mFlow S mm)) args s 0 0 (xA X)) (F0 m 0 ls []) by
    subst hH
    subst hlo
    exact hgo hP hS
  clear hP hS
  intro hP hS
  refine lv_iload_n hx hb d_M_flow_0 rfl (lv_at hl 1 rfl) ?_
  refine lv_if_lt (tgt := 10) hx hb d_M_flow_1 (by decide) (fun h1 => ?_) (fun h1 => ?_)
  · skip
    have uh1 := i_lt0 h1
    refine lv_iconst (v := (-1)) hx hb d_M_flow_10 (by decide) ?_
    exact x_iret cf hr hlk hP hS (by unfold rFlow; rw [if_neg (by omega)]) (by unfold mFlow; rw [if_neg (by omega)]) d_M_flow_11
  · skip
    have uh1 := i_nlt0 h1
    refine lv_iload_n hx hb d_M_flow_4 rfl (lv_at hl 1 rfl) ?_
    refine lv_bipush (v := nI 40) hx hb d_M_flow_5 (by decide) ?_
    refine lv_icmp_le (tgt := 12) hx hb d_M_flow_7 (by decide) (fun h2 => ?_) (fun h2 => ?_)
    · skip
      have uh2 := i_leN (by decide) h2
      obtain ⟨k, hk31, rfl, hkt, hkc⟩ := i_nat uh1
      have hk40 : k ≤ 40 := by omega
      refine lv_iconst (v := nI 0) hx hb d_M_flow_12 (by decide) ?_
      refine lv_istore_n (lv' := [(2, .int (nI 0)), (0, .ref (X.2.2.2 0)), (1, .int (nI k))]) hx hb d_M_flow_13 rfl hl (by decide) rfl (fun ls hl => ?_)
      have lp14 : ∀ (dm : Nat) (dn : Nat) (T : Nat → Nat → Nat) (ls : Array Slot) (H : Heap) (locs : List Loc), lv_has ls 3 [(0, .ref (X.2.2.2 0)), (1, .int (nI k)), (2, .int (nI dn))] → PW X T H → va_S (xA X) s.heap H locs → (dn ≤ k) → (IW V T) → (MI V T) → (mFlowS k S = mFlowS (k - dn) T) → (mFlowN k S = mFlowN (k - dn) T + dn) → (k - dn = dm) → W p l e (rmd 4) s m args below meth c H locs 0 0 (MQ below (QcI X (rFlow S (nI k)) (mFlow S (nI k))) args s 0 0 (xA X)) (F0 m 14 ls []) := by
        intro dm
        induction dm using Nat.strongRecOn with | ind dm lp14 => ?_
        intro dn T ls H locs hl hP hS hdn hIT hMT hzS hzN hdm
        have hmT := hIT.m
        refine lv_iload_n hx hb d_M_flow_14 rfl (lv_at hl 2 rfl) ?_
        refine lv_iload_n hx hb d_M_flow_15 rfl (lv_at hl 1 rfl) ?_
        refine n_icmp_ge (tgt := 38) hx hb d_M_flow_16 (by decide) (by omega) (by omega) (fun h3 => ?_) (fun h3 => ?_)
        · skip
          refine lv_iload_n hx hb d_M_flow_38 rfl (lv_at hl 2 rfl) ?_
          exact x_iret cf hr hlk hP hS (by unfold rFlow; rw [if_pos (by omega), hkc, hzN, show k - dn = 0 by omega]; show nI dn = nI (0 + dn); rw [Nat.zero_add]) (by unfold mFlow; rw [if_pos (by omega), hkc, hzS, show k - dn = 0 by omega]; rfl) d_M_flow_39
        · skip
          refine lv_aload_n hx hb d_M_flow_19 rfl (lv_at hl 0 rfl) ?_
          refine x_getM (v := .int (nI (T 0 6))) cf hK hP 14 (by decide) w_475 rfl d_M_flow_20 ?_
          refine n_if_le (tgt := 38) hx hb d_M_flow_23 (by decide) (by omega) (fun h4 => ?_) (fun h4 => ?_)
          · skip
            refine lv_iload_n hx hb d_M_flow_38 rfl (lv_at hl 2 rfl) ?_
            exact x_iret cf hr hlk hP hS (by unfold rFlow; rw [if_pos (by omega), hkc, hzN, show k - dn = (k - (dn + 1)) + 1 by omega]; show nI dn = nI ((if 0 < T 0 6 then _ else 0) + dn); rw [if_neg (by omega), Nat.zero_add]) (by unfold mFlow; rw [if_pos (by omega), hkc, hzS, show k - dn = (k - (dn + 1)) + 1 by omega]; show T = (if 0 < T 0 6 then _ else T); rw [if_neg (by omega)]) d_M_flow_39
          · skip
            refine lv_aload_n hx hb d_M_flow_26 rfl (lv_at hl 0 rfl) ?_
            refine lv_iconst (v := nI 0) hx hb d_M_flow_27 (by decide) ?_
            refine x_callVi (As := [.int (nI 0)]) (rest := []) cf hK hN hP hS (k_M_deliver l hX hIT hMT (nI 0)) (cw_M_deliver cf.2.2.2.2 w_646 ⟨Nat.le_of_ble_eq_true rfl, Nat.le_of_ble_eq_true rfl⟩) (rv_M hK hP) hl.1 rfl rfl (Nat.le_of_ble_eq_true rfl) ⟨Nat.zero_le _, Nat.zero_le _⟩ d_M_flow_28 (fun H locs hP hS => ?_)
            have hms := rMsg_yes hIT.m (show 0 < T 0 6 by omega)
            have hmd : mDeliver T (nI 0) = mHand T 0 := by unfold mDeliver; rw [hms]; rfl
            rw [hmd] at hP
            have hkp := hand_keeps hIT hMT (show 0 < T 0 6 by omega)
            have hst : mFlowS (k - dn) T = mFlowS (k - (dn + 1)) (mHand T 0) := by rw [show k - dn = (k - (dn + 1)) + 1 by omega]; show (if 0 < T 0 6 then _ else _) = _; rw [if_pos (by omega)]
            have hsn : mFlowN (k - dn) T = mFlowN (k - (dn + 1)) (mHand T 0) + 1 := by rw [show k - dn = (k - (dn + 1)) + 1 by omega]; show (if 0 < T 0 6 then _ else _) = _; rw [if_pos (by omega)]
            refine lv_pop hx hb d_M_flow_31 rfl ?_
            refine n_iinc1 (lv' := [(2, .int (nI (dn + 1))), (0, .ref (X.2.2.2 0)), (1, .int (nI k))]) (k := 2) hx hb d_M_flow_32 hl rfl (by decide) rfl (fun ls hl => ?_)
            refine lv_goto (tgt := 14) hx hb d_M_flow_35 (by decide) ?_
            exact lp14 _ (by omega) (dn + 1) (mHand T 0) ls H locs (lv_sub hl [1, 2, 0] rfl) hP hS (by omega) (hkp.1) (hkp.2) (by rw [hzS, hst]) (by rw [hzN, hsn]; omega) rfl
      exact lp14 _ 0 S ls H locs (lv_sub hl [1, 2, 0] rfl) hP hS (by omega) (hI) (hM) (rfl) (rfl) rfl
    · skip
      have uh2 := i_nleN (by decide) h2
      refine lv_iconst (v := (-1)) hx hb d_M_flow_10 (by decide) ?_
      exact x_iret cf hr hlk hP hS (by unfold rFlow; rw [if_neg (by omega)]) (by unfold mFlow; rw [if_neg (by omega)]) d_M_flow_11
set_option maxRecDepth 100000 in
set_option maxHeartbeats 4000000 in
theorem k_M_tick (l : Launch) {X : WX} (hX : xInj X) {S : Nat → Nat → Nat} {V : Nat} (hI : IW V S) (hV1 : V + 1 ≤ 20000) (r : Int32) : MetI l X y_M_tick (Cond.code y_M_tick c_M_tick 4 (some .int) :: Mst) 2 [.ref (X.2.2.2 0), .int r] S (rTick S r) (mTick S r) := by
  refine MetI.of (by decide) (Nat.le_of_ble_eq_true rfl) ?_
  intro p e s m args below meth c cf hr hlk hP hK hN ls hl
  have hl : lv_has ls 4 [(0, .ref (X.2.2.2 0)), (1, .int r)] := hl
  have hx := cf.1
  have hb := cf.2.1
  have hD := xD_of hX
  have hS : va_S (xA X) s.heap s.heap [] := va_S.rf
  have hf := hI.f
  have hn := hI.n
  have hk := hI.k
  have hcs := hI.cs
  have ht := hI.t
  have hbl := hI.b
  have hm := hI.m
  have hV := hI.V
  obtain ⟨H, hH⟩ : ∃ H, H = s.heap := ⟨_, rfl⟩
  obtain ⟨locs, hlo⟩ : ∃ z : List Loc, z = [] := ⟨_, rfl⟩
  suffices hgo : PW X S H → va_S (xA X) s.heap H locs → W p l e (rmd 2) s m args below meth c H locs 0 0 (MQ below (QcI X (rTick S r) (mTick S r)) args s 0 0 (xA X)) (F0 m 0 ls []) by
    subst hH
    subst hlo
    exact hgo hP hS
  clear hP hS
  intro hP hS
  refine lv_aload_n hx hb d_M_tick_0 rfl (lv_at hl 0 rfl) ?_
  refine lv_iload_n hx hb d_M_tick_1 rfl (lv_at hl 1 rfl) ?_
  refine x_callVi (As := [.int r]) (rest := []) cf hK hN hP hS (k_M_isCorrect l hX hI r) (cw_M_isCorrect cf.2.2.2.2 w_567 ⟨Nat.le_of_ble_eq_true rfl, Nat.le_of_ble_eq_true rfl⟩) (rv_M hK hP) hl.1 rfl rfl (Nat.le_of_ble_eq_true rfl) ⟨Nat.zero_le _, Nat.zero_le _⟩ d_M_tick_2 (fun H locs hP hS => ?_)
  refine n_if_ne (tgt := 10) hx hb d_M_tick_5 (by decide) (tnat_lt _) (fun h1 => ?_) (fun h1 => ?_)
  · skip
    obtain ⟨j, hj, rfl, hjb⟩ := mCorrect_ex (by omega) (tnat_1 h1)
    have hjc := nI_clamp (show j < 2 ^ 31 by omega)
    have hJ := hI.mono (show V ≤ V + 1 by omega) hV1
    refine lv_aload_n hx hb d_M_tick_10 rfl (lv_at hl 0 rfl) ?_
    refine x_getM (v := .ref (X.2.2.2 15)) cf hK hP 22 (by decide) w_483 rfl d_M_tick_11 ?_
    refine lv_iload_n hx hb d_M_tick_14 rfl (lv_at hl 1 rfl) ?_
    refine lv_dup2_11 hx hb d_M_tick_15 rfl rfl ?_
    refine x_iald (v := (S 15 j)) cf hK hP (ia15 X) (by omega) rfl d_M_tick_16 ?_
    refine lv_iconst (v := nI 1) hx hb d_M_tick_17 (by decide) ?_
    refine n_iadd hx hb d_M_tick_18 ?_
    refine x_iast cf hK hD hP hS (ia15 X) (by omega) d_M_tick_19 (fun H locs hP hS => ?_)
    refine lv_aload_n hx hb d_M_tick_20 rfl (lv_at hl 0 rfl) ?_
    refine x_getM (v := .ref (X.2.2.2 15)) cf hK hP 22 (by decide) w_483 rfl d_M_tick_21 ?_
    refine lv_iload_n hx hb d_M_tick_24 rfl (lv_at hl 1 rfl) ?_
    refine x_iald (v := ((S 15 j) + 1)) cf hK hP (ia15 X) (by omega) (by simp [up2_at]) d_M_tick_25 ?_
    refine lv_aload_n hx hb d_M_tick_26 rfl (lv_at hl 0 rfl) ?_
    refine x_getM (v := .ref (X.2.2.2 16)) cf hK hP 23 (by decide) w_484 rfl d_M_tick_27 ?_
    refine lv_iload_n hx hb d_M_tick_30 rfl (lv_at hl 1 rfl) ?_
    refine x_iald (v := (S 16 j)) cf hK hP (ia16 X) (by omega) (by simp [up2_at]) d_M_tick_31 ?_
    refine n_icmp_ne (tgt := 109) hx hb d_M_tick_32 (by decide) (by have := (show S 15 j ≤ V from hI.c 15 j); omega) (by have := (show S 16 j ≤ 32 from hI.c 16 j); omega) (fun h2 => ?_) (fun h2 => ?_)
    · skip
      refine lv_aload_n hx hb d_M_tick_109 rfl (lv_at hl 0 rfl) ?_
      refine x_getM (v := .ref (X.2.2.2 14)) cf hK hP 21 (by decide) w_482 rfl d_M_tick_110 ?_
      refine lv_iload_n hx hb d_M_tick_113 rfl (lv_at hl 1 rfl) ?_
      refine x_iald (v := (S 14 j)) cf hK hP (ia14 X) (by omega) (by simp [up2_at]) d_M_tick_114 ?_
      exact x_iret cf hr hlk hP hS (by unfold rTick; rw [tnat_1 h1, hjc]; show _ = nI (mTickN S j 14 j); unfold mTickN; rw [if_neg (by omega)]; simp [up2_at]) (by unfold mTick; rw [tnat_1 h1, hjc]; show _ = mTickN S j; unfold mTickN; rw [if_neg (by omega)]) d_M_tick_115
    · skip
      refine lv_aload_n hx hb d_M_tick_35 rfl (lv_at hl 0 rfl) ?_
      refine lv_iload_n hx hb d_M_tick_36 rfl (lv_at hl 1 rfl) ?_
      refine lv_aload_n hx hb d_M_tick_37 rfl (lv_at hl 0 rfl) ?_
      refine x_getM (v := .ref (X.2.2.2 14)) cf hK hP 21 (by decide) w_482 rfl d_M_tick_38 ?_
      refine lv_iload_n hx hb d_M_tick_41 rfl (lv_at hl 1 rfl) ?_
      refine x_iald (v := (S 14 j)) cf hK hP (ia14 X) (by omega) (by simp [up2_at]) d_M_tick_42 ?_
      refine lv_iconst (v := nI 1) hx hb d_M_tick_43 (by decide) ?_
      refine n_iadd hx hb d_M_tick_44 ?_
      refine x_callVv (As := [.int (nI j), .int (nI ((S 14 j) + 1))]) (rest := []) cf hK hN hP hS (k_M_enter l hX (hJ.up (k := 15) (j := j) (v := S 15 j + 1) (by decide) (show S 15 j + 1 ≤ V + 1 by have := (show S 15 j ≤ V from hI.c 15 j); omega)) (by omega)) (cw_M_enter cf.2.2.2.2 w_599 ⟨Nat.le_of_ble_eq_true rfl, Nat.le_of_ble_eq_true rfl⟩) (rv_M hK hP) hl.1 rfl rfl (Nat.le_of_ble_eq_true rfl) ⟨Nat.zero_le _, Nat.zero_le _⟩ d_M_tick_45 (fun H locs hP hS => ?_)
      obtain ⟨T1, hT1⟩ : ∃ z, z = (mEnter (up2 S 15 j ((S 15 j) + 1)) j ((S 14 j) + 1)) := ⟨_, rfl⟩
      rw [← hT1] at hP
      have hI1 : IW (V + 1) T1 := by rw [hT1]; exact (hJ.up (k := 15) (j := j) (v := S 15 j + 1) (by decide) (show S 15 j + 1 ≤ V + 1 by have := (show S 15 j ≤ V from hI.c 15 j); omega)).enter (by omega) (by have := (show S 14 j ≤ V ∧ _ from hI.c 14 j).1; omega)
      have h116 : T1 16 = S 16 := by rw [hT1, mEnter_ne (by decide) (by decide)]; rfl
      have h16j : T1 16 j = S 16 j := by rw [h116]
      refine lv_aload_n hx hb d_M_tick_48 rfl (lv_at hl 0 rfl) ?_
      refine x_getM (v := .ref (X.2.2.2 16)) cf hK hP 23 (by decide) w_484 rfl d_M_tick_49 ?_
      refine lv_iload_n hx hb d_M_tick_52 rfl (lv_at hl 1 rfl) ?_
      refine lv_aload_n hx hb d_M_tick_53 rfl (lv_at hl 0 rfl) ?_
      refine x_getM (v := .ref (X.2.2.2 16)) cf hK hP 23 (by decide) w_484 rfl d_M_tick_54 ?_
      refine lv_iload_n hx hb d_M_tick_57 rfl (lv_at hl 1 rfl) ?_
      refine x_iald (v := (T1 16 j)) cf hK hP (ia16 X) (by omega) rfl d_M_tick_58 ?_
      refine lv_bipush (v := nI 16) hx hb d_M_tick_59 (by decide) ?_
      refine n_icmp_le (tgt := 69) hx hb d_M_tick_61 (by decide) (by have := (show T1 16 j ≤ 32 from hI1.c 16 j); omega) (by decide) (fun h3 => ?_) (fun h3 => ?_)
      · skip
        refine lv_iconst (v := nI 2) hx hb d_M_tick_69 (by decide) ?_
        refine lv_aload_n hx hb d_M_tick_70 rfl (lv_at hl 0 rfl) ?_
        refine x_getM (v := .ref (X.2.2.2 16)) cf hK hP 23 (by decide) w_484 rfl d_M_tick_71 ?_
        refine lv_iload_n hx hb d_M_tick_74 rfl (lv_at hl 1 rfl) ?_
        refine x_iald (v := (T1 16 j)) cf hK hP (ia16 X) (by omega) rfl d_M_tick_75 ?_
        refine n_imul hx hb d_M_tick_76 ?_
        refine x_iast cf hK hD hP hS (ia16 X) (by omega) d_M_tick_77 (fun H locs hP hS => ?_)
        obtain ⟨T2, hT2⟩ : ∃ z, z = (up2 T1 16 j (2 * (T1 16 j))) := ⟨_, rfl⟩
        rw [← hT2] at hP
        have hI2 : IW (V + 1) T2 := by rw [hT2]; exact hI1.up (k := 16) (by decide) (show _ ≤ 32 by omega)
        have hG : T2 = mTick1 S j := by unfold mTick1; rw [hT2, ← hT1]; first | rw [if_pos (by omega)] | rw [if_neg (by omega), h16j]
        have h214 : T2 14 j = S 14 j + 1 := by rw [hG]; unfold mTick1 mEnter; simp [up2_at]
        have hn2 := hI2.n
        have hk2 := hI2.k
        refine lv_aload_n hx hb d_M_tick_78 rfl (lv_at hl 0 rfl) ?_
        refine lv_aload_n hx hb d_M_tick_79 rfl (lv_at hl 0 rfl) ?_
        refine x_getM (v := .ref (X.2.2.2 14)) cf hK hP 21 (by decide) w_482 rfl d_M_tick_80 ?_
        refine lv_iload_n hx hb d_M_tick_83 rfl (lv_at hl 1 rfl) ?_
        refine x_iald (v := (T2 14 j)) cf hK hP (ia14 X) (by omega) rfl d_M_tick_84 ?_
        refine x_callVi (As := [.int (nI (T2 14 j))]) (rest := []) cf hK hN hP hS (k_M_leader l hX hI2 (T2 14 j) (by have := (show T2 14 j ≤ (V + 1) ∧ (j < T2 0 1 → 1 ≤ T2 14 j) from hI2.c 14 j); omega)) (cw_M_leader cf.2.2.2.2 w_575 ⟨Nat.le_of_ble_eq_true rfl, Nat.le_of_ble_eq_true rfl⟩) (rv_M hK hP) hl.1 rfl rfl (Nat.le_of_ble_eq_true rfl) ⟨Nat.zero_le _, Nat.zero_le _⟩ d_M_tick_85 (fun H locs hP hS => ?_)
        have hle := mLeader_lt hI2 (T2 14 j)
        refine lv_istore_n (lv' := [(2, .int (nI (mLeader T2 (T2 14 j)))), (0, .ref (X.2.2.2 0)), (1, .int (nI j))]) hx hb d_M_tick_88 rfl hl (by decide) rfl (fun ls hl => ?_)
        refine lv_aload_n hx hb d_M_tick_89 rfl (lv_at hl 1 rfl) ?_
        refine lv_iload_n hx hb d_M_tick_90 rfl (lv_at hl 2 rfl) ?_
        refine x_callVi (As := [.int (nI j)]) (rest := []) cf hK hN hP hS (k_M_high l hX hI2 (by omega)) (cw_M_high cf.2.2.2.2 w_579 ⟨Nat.le_of_ble_eq_true rfl, Nat.le_of_ble_eq_true rfl⟩) (rv_M hK hP) hl.1 rfl rfl (Nat.le_of_ble_eq_true rfl) ⟨Nat.zero_le _, Nat.zero_le _⟩ d_M_tick_91 (fun H locs hP hS => ?_)
        have hhi := mHigh_lt hI2 j
        refine lv_istore_n (lv' := [(3, .int (nI (mHigh T2 j))), (2, .int (nI (mLeader T2 (T2 14 j)))), (0, .ref (X.2.2.2 0)), (1, .int (nI j))]) hx hb d_M_tick_94 rfl hl (by decide) rfl (fun ls hl => ?_)
        refine lv_aload_n hx hb d_M_tick_95 rfl (lv_at hl 2 rfl) ?_
        refine lv_iconst (v := nI 2) hx hb d_M_tick_96 (by decide) ?_
        refine lv_iload_n hx hb d_M_tick_97 rfl (lv_at hl 3 rfl) ?_
        refine lv_iload_n hx hb d_M_tick_98 rfl (lv_at hl 1 rfl) ?_
        refine lv_iload_n hx hb d_M_tick_99 rfl (lv_at hl 0 rfl) ?_
        refine lv_aload_n hx hb d_M_tick_100 rfl (lv_at hl 2 rfl) ?_
        refine x_getM (v := .ref (X.2.2.2 14)) cf hK hP 21 (by decide) w_482 rfl d_M_tick_101 ?_
        refine lv_iload_n hx hb d_M_tick_104 rfl (lv_at hl 3 rfl) ?_
        refine x_iald (v := (T2 14 j)) cf hK hP (ia14 X) (by omega) rfl d_M_tick_105 ?_
        refine x_callVv (As := [.int (nI 2), .int (nI j), .int (nI (mLeader T2 (T2 14 j))), .int (nI (mHigh T2 j)), .int (nI (T2 14 j))]) (rest := []) cf hK hN hP hS (k_M_send l hX hI2 2 j (mLeader T2 (T2 14 j)) (mHigh T2 j) (T2 14 j)) (cw_M_send cf.2.2.2.2 w_591 ⟨Nat.le_of_ble_eq_true rfl, Nat.le_of_ble_eq_true rfl⟩) (rv_M hK hP) hl.1 rfl rfl (Nat.le_of_ble_eq_true rfl) ⟨Nat.zero_le _, Nat.zero_le _⟩ d_M_tick_106 (fun H locs hP hS => ?_)
        obtain ⟨T3, hT3⟩ : ∃ z, z = (mSend T2 2 j (mLeader T2 (T2 14 j)) (mHigh T2 j) (T2 14 j)) := ⟨_, rfl⟩
        rw [← hT3] at hP
        have hT3e : T3 = mTickN S j := by unfold mTickN; rw [if_pos (by omega), hT3, h214, hG, mLeader_congr (T := mTick1 S j) (S := S) rfl rfl, mHigh_congr (T := mTick1 S j) (S := S) rfl (mTick1_rows (by decide) (by decide) (by decide)) (mTick1_rows (by decide) (by decide) (by decide))]
        refine lv_aload_n hx hb d_M_tick_109 rfl (lv_at hl 2 rfl) ?_
        refine x_getM (v := .ref (X.2.2.2 14)) cf hK hP 21 (by decide) w_482 rfl d_M_tick_110 ?_
        refine lv_iload_n hx hb d_M_tick_113 rfl (lv_at hl 3 rfl) ?_
        refine x_iald (v := (T3 14 j)) cf hK hP (ia14 X) (by omega) rfl d_M_tick_114 ?_
        exact x_iret cf hr hlk hP hS (by unfold rTick; rw [tnat_1 h1, hjc, ← hT3e]; rfl) (by unfold mTick; rw [tnat_1 h1, hjc]; show _ = mTickN S j; exact hT3e) d_M_tick_115
      · skip
        refine lv_bipush (v := nI 32) hx hb d_M_tick_64 (by decide) ?_
        refine lv_goto (tgt := 77) hx hb d_M_tick_66 (by decide) ?_
        refine x_iast cf hK hD hP hS (ia16 X) (by omega) d_M_tick_77 (fun H locs hP hS => ?_)
        obtain ⟨T2, hT2⟩ : ∃ z, z = (up2 T1 16 j 32) := ⟨_, rfl⟩
        rw [← hT2] at hP
        have hI2 : IW (V + 1) T2 := by rw [hT2]; exact hI1.up (k := 16) (by decide) (show _ ≤ 32 by omega)
        have hG : T2 = mTick1 S j := by unfold mTick1; rw [hT2, ← hT1]; first | rw [if_pos (by omega)] | rw [if_neg (by omega), h16j]
        have h214 : T2 14 j = S 14 j + 1 := by rw [hG]; unfold mTick1 mEnter; simp [up2_at]
        have hn2 := hI2.n
        have hk2 := hI2.k
        refine lv_aload_n hx hb d_M_tick_78 rfl (lv_at hl 0 rfl) ?_
        refine lv_aload_n hx hb d_M_tick_79 rfl (lv_at hl 0 rfl) ?_
        refine x_getM (v := .ref (X.2.2.2 14)) cf hK hP 21 (by decide) w_482 rfl d_M_tick_80 ?_
        refine lv_iload_n hx hb d_M_tick_83 rfl (lv_at hl 1 rfl) ?_
        refine x_iald (v := (T2 14 j)) cf hK hP (ia14 X) (by omega) rfl d_M_tick_84 ?_
        refine x_callVi (As := [.int (nI (T2 14 j))]) (rest := []) cf hK hN hP hS (k_M_leader l hX hI2 (T2 14 j) (by have := (show T2 14 j ≤ (V + 1) ∧ (j < T2 0 1 → 1 ≤ T2 14 j) from hI2.c 14 j); omega)) (cw_M_leader cf.2.2.2.2 w_575 ⟨Nat.le_of_ble_eq_true rfl, Nat.le_of_ble_eq_true rfl⟩) (rv_M hK hP) hl.1 rfl rfl (Nat.le_of_ble_eq_true rfl) ⟨Nat.zero_le _, Nat.zero_le _⟩ d_M_tick_85 (fun H locs hP hS => ?_)
        have hle := mLeader_lt hI2 (T2 14 j)
        refine lv_istore_n (lv' := [(2, .int (nI (mLeader T2 (T2 14 j)))), (0, .ref (X.2.2.2 0)), (1, .int (nI j))]) hx hb d_M_tick_88 rfl hl (by decide) rfl (fun ls hl => ?_)
        refine lv_aload_n hx hb d_M_tick_89 rfl (lv_at hl 1 rfl) ?_
        refine lv_iload_n hx hb d_M_tick_90 rfl (lv_at hl 2 rfl) ?_
        refine x_callVi (As := [.int (nI j)]) (rest := []) cf hK hN hP hS (k_M_high l hX hI2 (by omega)) (cw_M_high cf.2.2.2.2 w_579 ⟨Nat.le_of_ble_eq_true rfl, Nat.le_of_ble_eq_true rfl⟩) (rv_M hK hP) hl.1 rfl rfl (Nat.le_of_ble_eq_true rfl) ⟨Nat.zero_le _, Nat.zero_le _⟩ d_M_tick_91 (fun H locs hP hS => ?_)
        have hhi := mHigh_lt hI2 j
        refine lv_istore_n (lv' := [(3, .int (nI (mHigh T2 j))), (2, .int (nI (mLeader T2 (T2 14 j)))), (0, .ref (X.2.2.2 0)), (1, .int (nI j))]) hx hb d_M_tick_94 rfl hl (by decide) rfl (fun ls hl => ?_)
        refine lv_aload_n hx hb d_M_tick_95 rfl (lv_at hl 2 rfl) ?_
        refine lv_iconst (v := nI 2) hx hb d_M_tick_96 (by decide) ?_
        refine lv_iload_n hx hb d_M_tick_97 rfl (lv_at hl 3 rfl) ?_
        refine lv_iload_n hx hb d_M_tick_98 rfl (lv_at hl 1 rfl) ?_
        refine lv_iload_n hx hb d_M_tick_99 rfl (lv_at hl 0 rfl) ?_
        refine lv_aload_n hx hb d_M_tick_100 rfl (lv_at hl 2 rfl) ?_
        refine x_getM (v := .ref (X.2.2.2 14)) cf hK hP 21 (by decide) w_482 rfl d_M_tick_101 ?_
        refine lv_iload_n hx hb d_M_tick_104 rfl (lv_at hl 3 rfl) ?_
        refine x_iald (v := (T2 14 j)) cf hK hP (ia14 X) (by omega) rfl d_M_tick_105 ?_
        refine x_callVv (As := [.int (nI 2), .int (nI j), .int (nI (mLeader T2 (T2 14 j))), .int (nI (mHigh T2 j)), .int (nI (T2 14 j))]) (rest := []) cf hK hN hP hS (k_M_send l hX hI2 2 j (mLeader T2 (T2 14 j)) (mHigh T2 j) (T2 14 j)) (cw_M_send cf.2.2.2.2 w_591 ⟨Nat.le_of_ble_eq_true rfl, Nat.le_of_ble_eq_true rfl⟩) (rv_M hK hP) hl.1 rfl rfl (Nat.le_of_ble_eq_true rfl) ⟨Nat.zero_le _, Nat.zero_le _⟩ d_M_tick_106 (fun H locs hP hS => ?_)
        obtain ⟨T3, hT3⟩ : ∃ z, z = (mSend T2 2 j (mLeader T2 (T2 14 j)) (mHigh T2 j) (T2 14 j)) := ⟨_, rfl⟩
        rw [← hT3] at hP
        have hT3e : T3 = mTickN S j := by unfold mTickN; rw [if_pos (by omega), hT3, h214, hG, mLeader_congr (T := mTick1 S j) (S := S) rfl rfl, mHigh_congr (T := mTick1 S j) (S := S) rfl (mTick1_rows (by decide) (by decide) (by decide)) (mTick1_rows (by decide) (by decide) (by decide))]
        refine lv_aload_n hx hb d_M_tick_109 rfl (lv_at hl 2 rfl) ?_
        refine x_getM (v := .ref (X.2.2.2 14)) cf hK hP 21 (by decide) w_482 rfl d_M_tick_110 ?_
        refine lv_iload_n hx hb d_M_tick_113 rfl (lv_at hl 3 rfl) ?_
        refine x_iald (v := (T3 14 j)) cf hK hP (ia14 X) (by omega) rfl d_M_tick_114 ?_
        exact x_iret cf hr hlk hP hS (by unfold rTick; rw [tnat_1 h1, hjc, ← hT3e]; rfl) (by unfold mTick; rw [tnat_1 h1, hjc]; show _ = mTickN S j; exact hT3e) d_M_tick_115
  · skip
    refine lv_iconst (v := (-1)) hx hb d_M_tick_8 (by decide) ?_
    exact x_iret cf hr hlk hP hS (by unfold rTick; rw [tnat_0 h1]; rfl) (by unfold mTick; rw [tnat_0 h1]; rfl) d_M_tick_9
set_option maxRecDepth 100000 in
set_option maxHeartbeats 4000000 in
theorem k_M_state (l : Launch) {X : WX} (hX : xInj X) {S : Nat → Nat → Nat} {V : Nat} (hI : IW V S) (r w : Int32) : MetI l X y_M_state (Cond.code y_M_state c_M_state 3 (some .int) :: Mst) 2 [.ref (X.2.2.2 0), .int r, .int w] S (rState S r w) S := by
  refine MetI.of (by decide) (Nat.le_of_ble_eq_true rfl) ?_
  intro p e s m args below meth c cf hr hlk hP hK hN ls hl
  have hl : lv_has ls 3 [(0, .ref (X.2.2.2 0)), (1, .int r), (2, .int w)] := hl
  have hx := cf.1
  have hb := cf.2.1
  have hD := xD_of hX
  have hS : va_S (xA X) s.heap s.heap [] := va_S.rf
  have hf := hI.f
  have hn := hI.n
  have hk := hI.k
  have hcs := hI.cs
  have ht := hI.t
  have hbl := hI.b
  have hm := hI.m
  have hV := hI.V
  obtain ⟨H, hH⟩ : ∃ H, H = s.heap := ⟨_, rfl⟩
  obtain ⟨locs, hlo⟩ : ∃ z : List Loc, z = [] := ⟨_, rfl⟩
  suffices hgo : PW X S H → va_S (xA X) s.heap H locs → W p l e (rmd 2) s m args below meth c H locs 0 0 (MQ below (QcI X (rState S r w) S) args s 0 0 (xA X)) (F0 m 0 ls []) by
    subst hH
    subst hlo
    exact hgo hP hS
  clear hP hS
  intro hP hS
  refine lv_aload_n hx hb d_M_state_0 rfl (lv_at hl 0 rfl) ?_
  refine lv_iload_n hx hb d_M_state_1 rfl (lv_at hl 1 rfl) ?_
  refine x_callVi (As := [.int r]) (rest := []) cf hK hN hP hS (k_M_isCorrect l hX hI r) (cw_M_isCorrect cf.2.2.2.2 w_567 ⟨Nat.le_of_ble_eq_true rfl, Nat.le_of_ble_eq_true rfl⟩) (rv_M hK hP) hl.1 rfl rfl (Nat.le_of_ble_eq_true rfl) ⟨Nat.zero_le _, Nat.zero_le _⟩ d_M_state_2 (fun H locs hP hS => ?_)
  refine n_if_ne (tgt := 10) hx hb d_M_state_5 (by decide) (tnat_lt _) (fun h1 => ?_) (fun h1 => ?_)
  · skip
    obtain ⟨j, hj, rfl, hjb⟩ := mCorrect_ex (by omega) (tnat_1 h1)
    have hjc := nI_clamp (show j < 2 ^ 31 by omega)
    have hcor := tnat_1 h1
    refine lv_iload_n hx hb d_M_state_10 rfl (lv_at hl 2 rfl) ?_
    by_cases hsw0 : w = nI 0
    · subst hsw0
      refine lv_tableIn (off := 49) (tgt := 60) hx hb d_M_state_11 (by decide) (by decide) (by decide) (by decide) ?_
      refine lv_aload_n hx hb d_M_state_60 rfl (lv_at hl 0 rfl) ?_
      refine x_getM (v := .ref (X.2.2.2 14)) cf hK hP 21 (by decide) w_482 rfl d_M_state_61 ?_
      refine lv_iload_n hx hb d_M_state_64 rfl (lv_at hl 1 rfl) ?_
      refine x_iald (v := (S 14 j)) cf hK hP (ia14 X) (by omega) rfl d_M_state_65 ?_
      exact x_iret cf hr hlk hP hS (by unfold rState; rw [hcor, hjc]; rfl) (rfl) d_M_state_66
    by_cases hsw1 : w = nI 1
    · subst hsw1
      refine lv_tableIn (off := 56) (tgt := 67) hx hb d_M_state_11 (by decide) (by decide) (by decide) (by decide) ?_
      refine lv_aload_n hx hb d_M_state_67 rfl (lv_at hl 0 rfl) ?_
      refine x_getM (v := .ref (X.2.2.2 15)) cf hK hP 22 (by decide) w_483 rfl d_M_state_68 ?_
      refine lv_iload_n hx hb d_M_state_71 rfl (lv_at hl 1 rfl) ?_
      refine x_iald (v := (S 15 j)) cf hK hP (ia15 X) (by omega) rfl d_M_state_72 ?_
      exact x_iret cf hr hlk hP hS (by unfold rState; rw [hcor, hjc]; rfl) (rfl) d_M_state_73
    by_cases hsw2 : w = nI 2
    · subst hsw2
      refine lv_tableIn (off := 63) (tgt := 74) hx hb d_M_state_11 (by decide) (by decide) (by decide) (by decide) ?_
      refine lv_aload_n hx hb d_M_state_74 rfl (lv_at hl 0 rfl) ?_
      refine x_getM (v := .ref (X.2.2.2 16)) cf hK hP 23 (by decide) w_484 rfl d_M_state_75 ?_
      refine lv_iload_n hx hb d_M_state_78 rfl (lv_at hl 1 rfl) ?_
      refine x_iald (v := (S 16 j)) cf hK hP (ia16 X) (by omega) rfl d_M_state_79 ?_
      exact x_iret cf hr hlk hP hS (by unfold rState; rw [hcor, hjc]; rfl) (rfl) d_M_state_80
    by_cases hsw3 : w = nI 3
    · subst hsw3
      refine lv_tableIn (off := 70) (tgt := 81) hx hb d_M_state_11 (by decide) (by decide) (by decide) (by decide) ?_
      refine lv_aload_n hx hb d_M_state_81 rfl (lv_at hl 0 rfl) ?_
      refine x_getM (v := .ref (X.2.2.2 17)) cf hK hP 24 (by decide) w_485 rfl d_M_state_82 ?_
      refine lv_iload_n hx hb d_M_state_85 rfl (lv_at hl 1 rfl) ?_
      refine x_iald (v := (S 17 j)) cf hK hP (ia17 X) (by omega) rfl d_M_state_86 ?_
      exact x_iret cf hr hlk hP hS (by unfold rState; rw [hcor, hjc]; rfl) (rfl) d_M_state_87
    by_cases hsw4 : w = nI 4
    · subst hsw4
      refine lv_tableIn (off := 77) (tgt := 88) hx hb d_M_state_11 (by decide) (by decide) (by decide) (by decide) ?_
      refine lv_aload_n hx hb d_M_state_88 rfl (lv_at hl 0 rfl) ?_
      refine x_getM (v := .ref (X.2.2.2 18)) cf hK hP 25 (by decide) w_486 rfl d_M_state_89 ?_
      refine lv_iload_n hx hb d_M_state_92 rfl (lv_at hl 1 rfl) ?_
      refine x_iald (v := (S 18 j)) cf hK hP (ia18 X) (by omega) rfl d_M_state_93 ?_
      exact x_iret cf hr hlk hP hS (by unfold rState; rw [hcor, hjc]; rfl) (rfl) d_M_state_94
    by_cases hsw5 : w = nI 5
    · subst hsw5
      refine lv_tableIn (off := 84) (tgt := 95) hx hb d_M_state_11 (by decide) (by decide) (by decide) (by decide) ?_
      refine lv_aload_n hx hb d_M_state_95 rfl (lv_at hl 0 rfl) ?_
      refine lv_iload_n hx hb d_M_state_96 rfl (lv_at hl 1 rfl) ?_
      refine x_callVi (As := [.int (nI j)]) (rest := []) cf hK hN hP hS (k_M_high l hX hI (by omega)) (cw_M_high cf.2.2.2.2 w_579 ⟨Nat.le_of_ble_eq_true rfl, Nat.le_of_ble_eq_true rfl⟩) (rv_M hK hP) hl.1 rfl rfl (Nat.le_of_ble_eq_true rfl) ⟨Nat.zero_le _, Nat.zero_le _⟩ d_M_state_97 (fun H locs hP hS => ?_)
      exact x_iret cf hr hlk hP hS (by unfold rState; rw [hcor, hjc]; rfl) (rfl) d_M_state_100
    by_cases hsw6 : w = nI 6
    · subst hsw6
      refine lv_tableIn (off := 90) (tgt := 101) hx hb d_M_state_11 (by decide) (by decide) (by decide) (by decide) ?_
      refine lv_aload_n hx hb d_M_state_101 rfl (lv_at hl 0 rfl) ?_
      refine lv_iload_n hx hb d_M_state_102 rfl (lv_at hl 1 rfl) ?_
      refine x_callVi (As := [.int (nI j)]) (rest := []) cf hK hN hP hS (k_M_lock l hX hI (by omega)) (cw_M_lock cf.2.2.2.2 w_623 ⟨Nat.le_of_ble_eq_true rfl, Nat.le_of_ble_eq_true rfl⟩) (rv_M hK hP) hl.1 rfl rfl (Nat.le_of_ble_eq_true rfl) ⟨Nat.zero_le _, Nat.zero_le _⟩ d_M_state_103 (fun H locs hP hS => ?_)
      exact x_iret cf hr hlk hP hS (by unfold rState; rw [hcor, hjc]; rfl) (rfl) d_M_state_106
    by_cases hsw7 : w = nI 7
    · subst hsw7
      refine lv_tableIn (off := 96) (tgt := 107) hx hb d_M_state_11 (by decide) (by decide) (by decide) (by decide) ?_
      refine lv_aload_n hx hb d_M_state_107 rfl (lv_at hl 0 rfl) ?_
      refine lv_iload_n hx hb d_M_state_108 rfl (lv_at hl 1 rfl) ?_
      refine x_callVi (As := [.int (nI j)]) (rest := []) cf hK hN hP hS (k_M_tip l hX hI (by omega)) (cw_M_tip cf.2.2.2.2 w_699 ⟨Nat.le_of_ble_eq_true rfl, Nat.le_of_ble_eq_true rfl⟩) (rv_M hK hP) hl.1 rfl rfl (Nat.le_of_ble_eq_true rfl) ⟨Nat.zero_le _, Nat.zero_le _⟩ d_M_state_109 (fun H locs hP hS => ?_)
      exact x_iret cf hr hlk hP hS (by unfold rState; rw [hcor, hjc]; rfl) (rfl) d_M_state_112
    by_cases hsw8 : w = nI 8
    · subst hsw8
      refine lv_tableIn (off := 102) (tgt := 113) hx hb d_M_state_11 (by decide) (by decide) (by decide) (by decide) ?_
      refine lv_aload_n hx hb d_M_state_113 rfl (lv_at hl 0 rfl) ?_
      refine lv_iload_n hx hb d_M_state_114 rfl (lv_at hl 1 rfl) ?_
      refine x_callVi (As := [.int (nI j)]) (rest := []) cf hK hN hP hS (k_M_push l hX hI (by omega)) (cw_M_push cf.2.2.2.2 w_583 ⟨Nat.le_of_ble_eq_true rfl, Nat.le_of_ble_eq_true rfl⟩) (rv_M hK hP) hl.1 rfl rfl (Nat.le_of_ble_eq_true rfl) ⟨Nat.zero_le _, Nat.zero_le _⟩ d_M_state_115 (fun H locs hP hS => ?_)
      exact x_iret cf hr hlk hP hS (by unfold rState; rw [hcor, hjc]; rfl) (rfl) d_M_state_118
    have hswO := tab_out8 (x := w) hsw0 hsw1 hsw2 hsw3 hsw4 hsw5 hsw6 hsw7 hsw8
    refine lv_tableOut (tgt := 119) hx hb d_M_state_11 hswO (by decide) ?_
    refine lv_iconst (v := (-1)) hx hb d_M_state_119 (by decide) ?_
    exact x_iret cf hr hlk hP hS (by unfold rState; rw [hcor, if_neg hsw0, if_neg hsw1, if_neg hsw2, if_neg hsw3, if_neg hsw4, if_neg hsw5, if_neg hsw6, if_neg hsw7, if_neg hsw8]; rfl) (rfl) d_M_state_120
  · skip
    refine lv_iconst (v := (-1)) hx hb d_M_state_8 (by decide) ?_
    exact x_iret cf hr hlk hP hS (by unfold rState; rw [tnat_0 h1]; rfl) (rfl) d_M_state_9
end
section
theorem n_iincr {p : Program} {l : Launch} {e : Env} {R : Room} {s : State} {m : MethodId} {args : Array Value} {below : List Frame} {meth : Method} {c : Code} {H : Heap} {locs : List Loc} {cells slots : Nat} {Q : State → Prop} {cc : ByteArray} {pc : Nat} {ls : Array Slot} {rest : List Value} (hx : p.tables.exec = Jvm.exec) (hb : c.code = cc) {i nL k a : Nat} {lv lv' : List (Nat × Value)} (hdg : decode cc pc = .ok (.iinc i (-1), 3)) (h : lv_has ls nL lv) (hk : lv[k]? = some (i, .int (nI a))) (hn : i < nL) (hl : (i, Value.int (nI a - 1)) :: lv.filter (fun q => !(q.1 == i) && !(q.1 + 1 == i && q.2.category == 2)) = lv') (kk : ∀ ls' : Array Slot, lv_has ls' nL lv' → W p l e R s m args below meth c H locs cells slots Q (F0 m (pc + 3) ls' rest)) : W p l e R s m args below meth c H locs cells slots Q (F0 m pc ls rest) :=
  lv_iinc hx hb hdg h hk (by rw [show Int32.ofInt (-1) = (-1 : Int32) from by decide, Int32.sub_eq_add_neg]) hn hl kk
theorem dec_neg {k : Nat} (hk : k < 2 ^ 31) : (nI k - 1 : Int32) < 0 ↔ k = 0 := by
  cases k with
  | zero => exact ⟨fun _ => rfl, fun _ => by decide⟩
  | succ j =>
    rw [nI_pred]
    exact ⟨fun h => absurd h (nI_pos (by omega)), fun h => by omega⟩
-- how deep a block lies, and the places of its chain
def mDep (S : Nat → Nat → Nat) : Nat → Nat → Nat
  | 0, _ => 0
  | f + 1, x => if x = 0 then 0 else mDep S f (S 6 x) + 1
def pth (S : Nat → Nat → Nat) (x : Nat) : Nat → Nat
  | 0 => x
  | k + 1 => S 6 (pth S x k)
def mLen (S : Nat → Nat → Nat) (r : Nat) : Nat := 1 + mDep S 40 (mTip S r)
def mLayF (S : Nat → Nat → Nat) (x len k : Nat) (T : Nat → Nat → Nat) : Nat → Nat → Nat := up2 T 22 (len - 1 - k) (pth S x k)
def mLay (S : Nat → Nat → Nat) (r : Nat) : Nat → Nat → Nat := itr (mLayF S (mTip S r) (mLen S r)) 0 S (mLen S r)
theorem ParOk.lt {S : Nat → Nat → Nat} {bl x : Nat} (h : ParOk S bl) (hx : x < bl) : S 6 x < bl := by
  by_cases h0 : x = 0
  · subst h0
    rw [h.1]
    exact hx
  · have := h.2 x (by omega) hx
    omega
theorem mDep_le {S : Nat → Nat → Nat} {bl : Nat} (h : ParOk S bl) : ∀ f x, x < bl → mDep S f x ≤ x
  | 0, x, _ => Nat.zero_le _
  | f + 1, x, hx => by
    show (if x = 0 then 0 else mDep S f (S 6 x) + 1) ≤ x
    split
    · omega
    · have h1 := h.2 x (by omega) hx
      have h2 := mDep_le h f (S 6 x) (by omega)
      omega
theorem mTip_bl {V : Nat} {S : Nat → Nat → Nat} (hI : IW V S) (h : ParOk S (S 0 5)) (r : Nat) : mTip S r < S 0 5 := by
  have hb := hI.b
  have key : ∀ k, k ≤ S 0 5 - 1 → itr (mTipF S r) 1 0 k < S 0 5 := by
    intro k
    induction k with
    | zero => intro _; show 0 < S 0 5; omega
    | succ k ih =>
      intro hk
      have ih := ih (by omega)
      rw [itr_s]
      generalize itr (mTipF S r) 1 0 k = z at ih ⊢
      unfold mTipF
      split
      · exact h.lt (h.lt (by omega))
      · exact ih
  exact key _ (Nat.le_refl _)
theorem IW.layF {V : Nat} {S T : Nat → Nat → Nat} {x len k : Nat} (h : IW V T) (hx : pth S x k < 40) : IW V (mLayF S x len k T) := h.up (k := 22) (by decide) hx
theorem pth_lt {V : Nat} {S : Nat → Nat → Nat} (h : IW V S) {x : Nat} (hx : x < 40) : ∀ k, pth S x k < 40
  | 0 => hx
  | k + 1 => (show S 6 (pth S x k) < 40 from h.c 6 _)
theorem IW.lays {V : Nat} {S : Nat → Nat → Nat} (h : IW V S) {x len : Nat} (hx : x < 40) : ∀ k, IW V (itr (mLayF S x len) 0 S k)
  | 0 => h
  | k + 1 => (IW.lays h hx k).layF (by rw [Nat.zero_add]; exact pth_lt h hx k)
theorem IW.lay {V : Nat} {S : Nat → Nat → Nat} (h : IW V S) (r : Nat) : IW V (mLay S r) := IW.lays h (mTip_lt h r) _
theorem mLays_ne {S : Nat → Nat → Nat} {x len row : Nat} (hr : row ≠ 22) : ∀ k, itr (mLayF S x len) 0 S k row = S row
  | 0 => rfl
  | k + 1 => by
    rw [itr_s]
    unfold mLayF
    rw [up2_ne _ _ _ hr]
    exact mLays_ne hr k
theorem mLay_ne {S : Nat → Nat → Nat} {r row : Nat} (hr : row ≠ 22) : mLay S r row = S row := mLays_ne hr _
def rCommitted (S : Nat → Nat → Nat) (r i : Int32) : Int32 := if mCorrect S r = true ∧ 0 ≤ i.toInt then (if i.toInt < (mLen S r.toNatClampNeg : Int) then nI (mLay S r.toNatClampNeg 22 i.toNatClampNeg) else -1) else -1
def mCommitted (S : Nat → Nat → Nat) (r i : Int32) : Nat → Nat → Nat := if mCorrect S r = true ∧ 0 ≤ i.toInt then mLay S r.toNatClampNeg else S
set_option maxRecDepth 100000 in
set_option maxHeartbeats 4000000 in
theorem k_M_layOut (l : Launch) {X : WX} (hX : xInj X) {S : Nat → Nat → Nat} {V : Nat} (hI : IW V S) {r : Nat} (hr0 : r < 7) (hPar : ParOk S (S 0 5)) : MetI l X y_M_layOut (Cond.code y_M_layOut c_M_layOut 6 (some .int) :: Mst) 1 [.ref (X.2.2.2 0), .int (nI r)] S (nI (mLen S r)) (mLay S r) := by
  refine MetI.of (by decide) (Nat.le_of_ble_eq_true rfl) ?_
  intro p e s m args below meth c cf hr hlk hP hK hN ls hl
  have hl : lv_has ls 6 [(0, .ref (X.2.2.2 0)), (1, .int (nI r))] := hl
  have hx := cf.1
  have hb := cf.2.1
  have hD := xD_of hX
  have hS : va_S (xA X) s.heap s.heap [] := va_S.rf
  have hf := hI.f
  have hn := hI.n
  have hk := hI.k
  have hcs := hI.cs
  have ht := hI.t
  have hbl := hI.b
  have hm := hI.m
  have hV := hI.V
  obtain ⟨H, hH⟩ : ∃ H, H = s.heap := ⟨_, rfl⟩
  obtain ⟨locs, hlo⟩ : ∃ z : List Loc, z = [] := ⟨_, rfl⟩
  suffices hgo : PW X S H → va_S (xA X) s.heap H locs → W p l e (rmd 1) s m args below meth c H locs 0 0 (MQ below (QcI X (nI (mLen S r)) (mLay S r)) args s 0 0 (xA X)) (F0 m 0 ls []) by
    subst hH
    subst hlo
    exact hgo hP hS
  clear hP hS
  intro hP hS
  refine lv_iconst (v := nI 1) hx hb d_M_layOut_0 (by decide) ?_
  refine lv_istore_n (lv' := [(2, .int (nI 1)), (0, .ref (X.2.2.2 0)), (1, .int (nI r))]) hx hb d_M_layOut_1 rfl hl (by decide) rfl (fun ls hl => ?_)
  refine lv_aload_n hx hb d_M_layOut_2 rfl (lv_at hl 1 rfl) ?_
  refine lv_iload_n hx hb d_M_layOut_3 rfl (lv_at hl 2 rfl) ?_
  refine x_callVi (As := [.int (nI r)]) (rest := []) cf hK hN hP hS (k_M_tip l hX hI (by omega)) (cw_M_tip cf.2.2.2.2 w_699 ⟨Nat.le_of_ble_eq_true rfl, Nat.le_of_ble_eq_true rfl⟩) (rv_M hK hP) hl.1 rfl rfl (Nat.le_of_ble_eq_true rfl) ⟨Nat.zero_le _, Nat.zero_le _⟩ d_M_layOut_4 (fun H locs hP hS => ?_)
  have htip := mTip_bl hI hPar r
  refine lv_istore_n (lv' := [(3, .int (nI (mTip S r))), (2, .int (nI 1)), (0, .ref (X.2.2.2 0)), (1, .int (nI r))]) hx hb d_M_layOut_7 rfl hl (by decide) rfl (fun ls hl => ?_)
  refine lv_iload_n hx hb d_M_layOut_8 rfl (lv_at hl 0 rfl) ?_
  refine lv_istore (lv' := [(4, .int (nI (mTip S r))), (3, .int (nI (mTip S r))), (2, .int (nI 1)), (0, .ref (X.2.2.2 0)), (1, .int (nI r))]) hx hb d_M_layOut_9 hl (by decide) rfl (fun ls hl => ?_)
  refine lv_iconst (v := nI 0) hx hb d_M_layOut_11 (by decide) ?_
  refine lv_istore (lv' := [(5, .int (nI 0)), (4, .int (nI (mTip S r))), (3, .int (nI (mTip S r))), (2, .int (nI 1)), (0, .ref (X.2.2.2 0)), (1, .int (nI r))]) hx hb d_M_layOut_12 hl (by decide) rfl (fun ls hl => ?_)
  have lp14 : ∀ (dm : Nat) (len : Nat) (x : Nat) (i : Nat) (ls : Array Slot) (H : Heap) (locs : List Loc), lv_has ls 6 [(0, .ref (X.2.2.2 0)), (1, .int (nI r)), (2, .int (nI len)), (3, .int (nI (mTip S r))), (4, .int (nI x)), (5, .int (nI i))] → PW X S H → va_S (xA X) s.heap H locs → (i ≤ 40) → (len = 1 + i) → (x < S 0 5) → (mDep S 40 (mTip S r) = i + mDep S (40 - i) x) → (40 - i = dm) → W p l e (rmd 1) s m args below meth c H locs 0 0 (MQ below (QcI X (nI (mLen S r)) (mLay S r)) args s 0 0 (xA X)) (F0 m 14 ls []) := by
    intro dm
    induction dm using Nat.strongRecOn with | ind dm lp14 => ?_
    intro len x i ls H locs hl hP hS hi hle hx0 hz hdm
    refine lv_iload hx hb d_M_layOut_14 (lv_at hl 5 rfl) ?_
    refine lv_bipush (v := nI 40) hx hb d_M_layOut_16 (by decide) ?_
    refine n_icmp_ge (tgt := 44) hx hb d_M_layOut_18 (by decide) (by omega) (by decide) (fun h1 => ?_) (fun h1 => ?_)
    · skip
      have hlen : mLen S r = len := by first | (unfold mLen; rw [hz, show 40 - i = 0 by omega]; show 1 + (i + 0) = len; omega) | (unfold mLen; rw [hz, show x = 0 by omega, show 40 - i = (40 - (i + 1)) + 1 by omega]; show 1 + (i + 0) = len; omega)
      have hdl := mDep_le hPar 40 _ htip
      have hlen40 : len ≤ 40 := by unfold mLen at hlen; omega
      refine lv_iload_n hx hb d_M_layOut_44 rfl (lv_at hl 3 rfl) ?_
      refine lv_istore (lv' := [(4, .int (nI (mTip S r))), (0, .ref (X.2.2.2 0)), (1, .int (nI r)), (2, .int (nI len)), (3, .int (nI (mTip S r))), (5, .int (nI i))]) hx hb d_M_layOut_45 hl (by decide) rfl (fun ls hl => ?_)
      refine lv_iload_n hx hb d_M_layOut_47 rfl (lv_at hl 3 rfl) ?_
      refine lv_iconst (v := nI 1) hx hb d_M_layOut_48 (by decide) ?_
      refine n_isub hx hb (by omega) d_M_layOut_49 ?_
      rw [show nI (len - 1) = (nI len - 1) from (by rw [← pk_sub (by omega)]; rfl)]
      refine lv_istore (lv' := [(5, .int (nI len - 1)), (4, .int (nI (mTip S r))), (0, .ref (X.2.2.2 0)), (1, .int (nI r)), (2, .int (nI len)), (3, .int (nI (mTip S r)))]) hx hb d_M_layOut_50 hl (by decide) rfl (fun ls hl => ?_)
      have lp52 : ∀ (dm : Nat) (k : Nat) (x2 : Nat) (T : Nat → Nat → Nat) (ls : Array Slot) (H : Heap) (locs : List Loc), lv_has ls 6 [(0, .ref (X.2.2.2 0)), (1, .int (nI r)), (2, .int (nI len)), (4, .int (nI x2)), (5, .int (nI k - 1))] → PW X T H → va_S (xA X) s.heap H locs → (k ≤ len) → (IW V T) → (x2 = pth S (mTip S r) (len - k)) → (T 6 = S 6) → (T = itr (mLayF S (mTip S r) len) 0 S (len - k)) → (k = dm) → W p l e (rmd 1) s m args below meth c H locs 0 0 (MQ below (QcI X (nI (mLen S r)) (mLay S r)) args s 0 0 (xA X)) (F0 m 52 ls []) := by
        intro dm
        induction dm using Nat.strongRecOn with | ind dm lp52 => ?_
        intro k x2 T ls H locs hl hP hS hk hIT hx2 hT6 hzT hdm
        have hx40 : x2 < 40 := by rw [hx2]; exact pth_lt hI (mTip_lt hI r) _
        refine lv_iload hx hb d_M_layOut_52 (lv_at hl 4 rfl) ?_
        refine lv_if_lt (tgt := 81) hx hb d_M_layOut_54 (by decide) (fun h2 => ?_) (fun h2 => ?_)
        · skip
          have uh2 := i_lt0 h2
          have hk0 : k = 0 := (dec_neg (by omega)).mp h2
          refine lv_iload_n hx hb d_M_layOut_81 rfl (lv_at hl 2 rfl) ?_
          exact x_iret cf hr hlk hP hS (by rw [hlen]) (by unfold mLay; rw [hlen, hzT, hk0]; rfl) d_M_layOut_82
        · skip
          have uh2 := i_nlt0 h2
          obtain ⟨k', rfl⟩ : ∃ q, k = q + 1 := ⟨k - 1, by have : ¬ k = 0 := fun q => h2 ((dec_neg (by omega)).mpr q); omega⟩
          rw [nI_pred] at hl
          refine lv_aload_n hx hb d_M_layOut_57 rfl (lv_at hl 0 rfl) ?_
          refine x_getM (v := .ref (X.2.2.2 22)) cf hK hP 29 (by decide) w_490 rfl d_M_layOut_58 ?_
          refine lv_iload hx hb d_M_layOut_61 (lv_at hl 4 rfl) ?_
          refine lv_iload hx hb d_M_layOut_63 (lv_at hl 3 rfl) ?_
          refine x_iast cf hK hD hP hS (ia22 X) (by omega) d_M_layOut_65 (fun H locs hP hS => ?_)
          refine lv_aload_n hx hb d_M_layOut_66 rfl (lv_at hl 0 rfl) ?_
          refine x_getM (v := .ref (X.2.2.2 6)) cf hK hP 11 (by decide) w_472 rfl d_M_layOut_67 ?_
          refine lv_iload hx hb d_M_layOut_70 (lv_at hl 3 rfl) ?_
          refine x_iald (v := (T 6 x2)) cf hK hP (ia6 X) (by omega) (by simp [up2_at]) d_M_layOut_72 ?_
          refine lv_istore (lv' := [(4, .int (nI (T 6 x2))), (0, .ref (X.2.2.2 0)), (1, .int (nI r)), (2, .int (nI len)), (5, .int (nI k'))]) hx hb d_M_layOut_73 hl (by decide) rfl (fun ls hl => ?_)
          refine n_iincr (lv' := [(5, .int (nI k' - 1)), (4, .int (nI (T 6 x2))), (0, .ref (X.2.2.2 0)), (1, .int (nI r)), (2, .int (nI len))]) (k := 4) hx hb d_M_layOut_75 hl rfl (by decide) rfl (fun ls hl => ?_)
          refine lv_goto (tgt := 52) hx hb d_M_layOut_78 (by decide) ?_
          exact lp52 _ (by omega) k' (T 6 x2) (up2 T 22 k' x2) ls H locs (lv_sub hl [2, 3, 4, 1, 0] rfl) hP hS (by omega) (hIT.up (k := 22) (by decide) (show x2 < 40 by rw [hx2]; exact pth_lt hI (mTip_lt hI r) _)) (by rw [hT6, hx2, show len - k' = (len - (k' + 1)) + 1 by omega]; rfl) (by rw [up2_ne _ _ _ (by decide)]; exact hT6) (by rw [show len - k' = (len - (k' + 1)) + 1 by omega, itr_z, ← hzT]; unfold mLayF; rw [← hx2, show len - 1 - (len - (k' + 1)) = k' by omega]) rfl
      exact lp52 _ len (mTip S r) S ls H locs (lv_sub hl [2, 3, 4, 1, 0] rfl) hP hS (by omega) (hI) (by rw [Nat.sub_self]; rfl) (rfl) (by rw [Nat.sub_self]; rfl) rfl
    · skip
      refine lv_iload hx hb d_M_layOut_21 (lv_at hl 4 rfl) ?_
      refine n_if_eq (tgt := 44) hx hb d_M_layOut_23 (by decide) (by omega) (fun h3 => ?_) (fun h3 => ?_)
      · skip
        have hlen : mLen S r = len := by first | (unfold mLen; rw [hz, show 40 - i = 0 by omega]; show 1 + (i + 0) = len; omega) | (unfold mLen; rw [hz, show x = 0 by omega, show 40 - i = (40 - (i + 1)) + 1 by omega]; show 1 + (i + 0) = len; omega)
        have hdl := mDep_le hPar 40 _ htip
        have hlen40 : len ≤ 40 := by unfold mLen at hlen; omega
        refine lv_iload_n hx hb d_M_layOut_44 rfl (lv_at hl 3 rfl) ?_
        refine lv_istore (lv' := [(4, .int (nI (mTip S r))), (0, .ref (X.2.2.2 0)), (1, .int (nI r)), (2, .int (nI len)), (3, .int (nI (mTip S r))), (5, .int (nI i))]) hx hb d_M_layOut_45 hl (by decide) rfl (fun ls hl => ?_)
        refine lv_iload_n hx hb d_M_layOut_47 rfl (lv_at hl 3 rfl) ?_
        refine lv_iconst (v := nI 1) hx hb d_M_layOut_48 (by decide) ?_
        refine n_isub hx hb (by omega) d_M_layOut_49 ?_
        rw [show nI (len - 1) = (nI len - 1) from (by rw [← pk_sub (by omega)]; rfl)]
        refine lv_istore (lv' := [(5, .int (nI len - 1)), (4, .int (nI (mTip S r))), (0, .ref (X.2.2.2 0)), (1, .int (nI r)), (2, .int (nI len)), (3, .int (nI (mTip S r)))]) hx hb d_M_layOut_50 hl (by decide) rfl (fun ls hl => ?_)
        have lp52 : ∀ (dm : Nat) (k : Nat) (x2 : Nat) (T : Nat → Nat → Nat) (ls : Array Slot) (H : Heap) (locs : List Loc), lv_has ls 6 [(0, .ref (X.2.2.2 0)), (1, .int (nI r)), (2, .int (nI len)), (4, .int (nI x2)), (5, .int (nI k - 1))] → PW X T H → va_S (xA X) s.heap H locs → (k ≤ len) → (IW V T) → (x2 = pth S (mTip S r) (len - k)) → (T 6 = S 6) → (T = itr (mLayF S (mTip S r) len) 0 S (len - k)) → (k = dm) → W p l e (rmd 1) s m args below meth c H locs 0 0 (MQ below (QcI X (nI (mLen S r)) (mLay S r)) args s 0 0 (xA X)) (F0 m 52 ls []) := by
          intro dm
          induction dm using Nat.strongRecOn with | ind dm lp52 => ?_
          intro k x2 T ls H locs hl hP hS hk hIT hx2 hT6 hzT hdm
          have hx40 : x2 < 40 := by rw [hx2]; exact pth_lt hI (mTip_lt hI r) _
          refine lv_iload hx hb d_M_layOut_52 (lv_at hl 4 rfl) ?_
          refine lv_if_lt (tgt := 81) hx hb d_M_layOut_54 (by decide) (fun h4 => ?_) (fun h4 => ?_)
          · skip
            have uh4 := i_lt0 h4
            have hk0 : k = 0 := (dec_neg (by omega)).mp h4
            refine lv_iload_n hx hb d_M_layOut_81 rfl (lv_at hl 2 rfl) ?_
            exact x_iret cf hr hlk hP hS (by rw [hlen]) (by unfold mLay; rw [hlen, hzT, hk0]; rfl) d_M_layOut_82
          · skip
            have uh4 := i_nlt0 h4
            obtain ⟨k', rfl⟩ : ∃ q, k = q + 1 := ⟨k - 1, by have : ¬ k = 0 := fun q => h4 ((dec_neg (by omega)).mpr q); omega⟩
            rw [nI_pred] at hl
            refine lv_aload_n hx hb d_M_layOut_57 rfl (lv_at hl 0 rfl) ?_
            refine x_getM (v := .ref (X.2.2.2 22)) cf hK hP 29 (by decide) w_490 rfl d_M_layOut_58 ?_
            refine lv_iload hx hb d_M_layOut_61 (lv_at hl 4 rfl) ?_
            refine lv_iload hx hb d_M_layOut_63 (lv_at hl 3 rfl) ?_
            refine x_iast cf hK hD hP hS (ia22 X) (by omega) d_M_layOut_65 (fun H locs hP hS => ?_)
            refine lv_aload_n hx hb d_M_layOut_66 rfl (lv_at hl 0 rfl) ?_
            refine x_getM (v := .ref (X.2.2.2 6)) cf hK hP 11 (by decide) w_472 rfl d_M_layOut_67 ?_
            refine lv_iload hx hb d_M_layOut_70 (lv_at hl 3 rfl) ?_
            refine x_iald (v := (T 6 x2)) cf hK hP (ia6 X) (by omega) (by simp [up2_at]) d_M_layOut_72 ?_
            refine lv_istore (lv' := [(4, .int (nI (T 6 x2))), (0, .ref (X.2.2.2 0)), (1, .int (nI r)), (2, .int (nI len)), (5, .int (nI k'))]) hx hb d_M_layOut_73 hl (by decide) rfl (fun ls hl => ?_)
            refine n_iincr (lv' := [(5, .int (nI k' - 1)), (4, .int (nI (T 6 x2))), (0, .ref (X.2.2.2 0)), (1, .int (nI r)), (2, .int (nI len))]) (k := 4) hx hb d_M_layOut_75 hl rfl (by decide) rfl (fun ls hl => ?_)
            refine lv_goto (tgt := 52) hx hb d_M_layOut_78 (by decide) ?_
            exact lp52 _ (by omega) k' (T 6 x2) (up2 T 22 k' x2) ls H locs (lv_sub hl [2, 3, 4, 1, 0] rfl) hP hS (by omega) (hIT.up (k := 22) (by decide) (show x2 < 40 by rw [hx2]; exact pth_lt hI (mTip_lt hI r) _)) (by rw [hT6, hx2, show len - k' = (len - (k' + 1)) + 1 by omega]; rfl) (by rw [up2_ne _ _ _ (by decide)]; exact hT6) (by rw [show len - k' = (len - (k' + 1)) + 1 by omega, itr_z, ← hzT]; unfold mLayF; rw [← hx2, show len - 1 - (len - (k' + 1)) = k' by omega]) rfl
        exact lp52 _ len (mTip S r) S ls H locs (lv_sub hl [2, 3, 4, 1, 0] rfl) hP hS (by omega) (hI) (by rw [Nat.sub_self]; rfl) (rfl) (by rw [Nat.sub_self]; rfl) rfl
      · skip
        refine lv_aload_n hx hb d_M_layOut_26 rfl (lv_at hl 0 rfl) ?_
        refine x_getM (v := .ref (X.2.2.2 6)) cf hK hP 11 (by decide) w_472 rfl d_M_layOut_27 ?_
        refine lv_iload hx hb d_M_layOut_30 (lv_at hl 4 rfl) ?_
        refine x_iald (v := (S 6 x)) cf hK hP (ia6 X) (by omega) rfl d_M_layOut_32 ?_
        refine lv_istore (lv' := [(4, .int (nI (S 6 x))), (0, .ref (X.2.2.2 0)), (1, .int (nI r)), (2, .int (nI len)), (3, .int (nI (mTip S r))), (5, .int (nI i))]) hx hb d_M_layOut_33 hl (by decide) rfl (fun ls hl => ?_)
        refine n_iinc1 (lv' := [(2, .int (nI (len + 1))), (4, .int (nI (S 6 x))), (0, .ref (X.2.2.2 0)), (1, .int (nI r)), (3, .int (nI (mTip S r))), (5, .int (nI i))]) (k := 3) hx hb d_M_layOut_35 hl rfl (by decide) rfl (fun ls hl => ?_)
        refine n_iinc1 (lv' := [(5, .int (nI (i + 1))), (2, .int (nI (len + 1))), (4, .int (nI (S 6 x))), (0, .ref (X.2.2.2 0)), (1, .int (nI r)), (3, .int (nI (mTip S r)))]) (k := 5) hx hb d_M_layOut_38 hl rfl (by decide) rfl (fun ls hl => ?_)
        refine lv_goto (tgt := 14) hx hb d_M_layOut_41 (by decide) ?_
        exact lp14 _ (by omega) (len + 1) (S 6 x) (i + 1) ls H locs (lv_sub hl [3, 4, 1, 5, 2, 0] rfl) hP hS (by omega) (by omega) (hPar.lt hx0) (by rw [hz, show 40 - i = (40 - (i + 1)) + 1 by omega]; show i + (if x = 0 then 0 else mDep S (40 - (i + 1)) (S 6 x) + 1) = _; rw [if_neg (by omega)]; omega) rfl
  exact lp14 _ 1 (mTip S r) 0 ls H locs (lv_sub hl [4, 5, 3, 2, 1, 0] rfl) hP hS (by omega) (by omega) (by omega) (by rw [Nat.zero_add]) rfl
set_option maxRecDepth 100000 in
set_option maxHeartbeats 4000000 in
theorem k_M_committed (l : Launch) {X : WX} (hX : xInj X) {S : Nat → Nat → Nat} {V : Nat} (hI : IW V S) (hPar : ParOk S (S 0 5)) (r i : Int32) : MetI l X y_M_committed (Cond.code y_M_committed c_M_committed 4 (some .int) :: Mst) 2 [.ref (X.2.2.2 0), .int r, .int i] S (rCommitted S r i) (mCommitted S r i) := by
  refine MetI.of (by decide) (Nat.le_of_ble_eq_true rfl) ?_
  intro p e s m args below meth c cf hr hlk hP hK hN ls hl
  have hl : lv_has ls 4 [(0, .ref (X.2.2.2 0)), (1, .int r), (2, .int i)] := hl
  have hx := cf.1
  have hb := cf.2.1
  have hD := xD_of hX
  have hS : va_S (xA X) s.heap s.heap [] := va_S.rf
  have hf := hI.f
  have hn := hI.n
  have hk := hI.k
  have hcs := hI.cs
  have ht := hI.t
  have hbl := hI.b
  have hm := hI.m
  have hV := hI.V
  obtain ⟨H, hH⟩ : ∃ H, H = s.heap := ⟨_, rfl⟩
  obtain ⟨locs, hlo⟩ : ∃ z : List Loc, z = [] := ⟨_, rfl⟩
  suffices hgo : PW X S H → va_S (xA X) s.heap H locs → W p l e (rmd 2) s m args below meth c H locs 0 0 (MQ below (QcI X (rCommitted S r i) (mCommitted S r i)) args s 0 0 (xA X)) (F0 m 0 ls []) by
    subst hH
    subst hlo
    exact hgo hP hS
  clear hP hS
  intro hP hS
  refine lv_aload_n hx hb d_M_committed_0 rfl (lv_at hl 0 rfl) ?_
  refine lv_iload_n hx hb d_M_committed_1 rfl (lv_at hl 1 rfl) ?_
  refine x_callVi (As := [.int r]) (rest := []) cf hK hN hP hS (k_M_isCorrect l hX hI r) (cw_M_isCorrect cf.2.2.2.2 w_567 ⟨Nat.le_of_ble_eq_true rfl, Nat.le_of_ble_eq_true rfl⟩) (rv_M hK hP) hl.1 rfl rfl (Nat.le_of_ble_eq_true rfl) ⟨Nat.zero_le _, Nat.zero_le _⟩ d_M_committed_2 (fun H locs hP hS => ?_)
  refine n_if_eq (tgt := 12) hx hb d_M_committed_5 (by decide) (tnat_lt _) (fun h1 => ?_) (fun h1 => ?_)
  · skip
    refine lv_iconst (v := (-1)) hx hb d_M_committed_12 (by decide) ?_
    exact x_iret cf hr hlk hP hS (by unfold rCommitted; rw [if_neg (fun q => by rw [tnat_0 h1] at q; exact absurd q.1 (by decide))]) (by unfold mCommitted; rw [if_neg (fun q => by rw [tnat_0 h1] at q; exact absurd q.1 (by decide))]) d_M_committed_13
  · skip
    obtain ⟨j, hj, rfl, hjb⟩ := mCorrect_ex (by omega) (tnat_1 h1)
    have hjc := nI_clamp (show j < 2 ^ 31 by omega)
    have hcor := tnat_1 h1
    refine lv_iload_n hx hb d_M_committed_8 rfl (lv_at hl 2 rfl) ?_
    refine lv_if_ge (tgt := 14) hx hb d_M_committed_9 (by decide) (fun h2 => ?_) (fun h2 => ?_)
    · skip
      have uh2 := i_ge0 h2
      obtain ⟨k, hk31, rfl, hkt, hkc⟩ := i_nat uh2
      refine lv_aload_n hx hb d_M_committed_14 rfl (lv_at hl 0 rfl) ?_
      refine lv_iload_n hx hb d_M_committed_15 rfl (lv_at hl 1 rfl) ?_
      refine x_callVi (As := [.int (nI j)]) (rest := []) cf hK hN hP hS (k_M_layOut l hX hI (by omega) hPar) (cw_M_layOut cf.2.2.2.2 w_707 ⟨Nat.le_of_ble_eq_true rfl, Nat.le_of_ble_eq_true rfl⟩) (rv_M hK hP) hl.1 rfl rfl (Nat.le_of_ble_eq_true rfl) ⟨Nat.zero_le _, Nat.zero_le _⟩ d_M_committed_16 (fun H locs hP hS => ?_)
      obtain ⟨T1, hT1⟩ : ∃ z, z = (mLay S j) := ⟨_, rfl⟩
      rw [← hT1] at hP
      have hI1 : IW V T1 := by rw [hT1]; exact hI.lay j
      have hdl := mDep_le hPar 40 _ (mTip_bl hI hPar j)
      have htb := mTip_bl hI hPar j
      have hln : mLen S j = 1 + mDep S 40 (mTip S j) := rfl
      refine lv_istore_n (lv' := [(3, .int (nI (mLen S j))), (0, .ref (X.2.2.2 0)), (1, .int (nI j)), (2, .int (nI k))]) hx hb d_M_committed_19 rfl hl (by decide) rfl (fun ls hl => ?_)
      refine lv_iload_n hx hb d_M_committed_20 rfl (lv_at hl 3 rfl) ?_
      refine lv_iload_n hx hb d_M_committed_21 rfl (lv_at hl 0 rfl) ?_
      refine n_icmp_ge (tgt := 34) hx hb d_M_committed_22 (by decide) (by omega) (by omega) (fun h3 => ?_) (fun h3 => ?_)
      · skip
        refine lv_iconst (v := (-1)) hx hb d_M_committed_34 (by decide) ?_
        exact x_iret cf hr hlk hP hS (by unfold rCommitted; rw [if_pos ⟨hcor, by omega⟩, hjc, if_neg (by omega)]) (by unfold mCommitted; rw [if_pos ⟨hcor, by omega⟩, hjc]; exact hT1) d_M_committed_35
      · skip
        refine lv_aload_n hx hb d_M_committed_25 rfl (lv_at hl 1 rfl) ?_
        refine x_getM (v := .ref (X.2.2.2 22)) cf hK hP 29 (by decide) w_490 rfl d_M_committed_26 ?_
        refine lv_iload_n hx hb d_M_committed_29 rfl (lv_at hl 3 rfl) ?_
        refine x_iald (v := (T1 22 k)) cf hK hP (ia22 X) (by omega) rfl d_M_committed_30 ?_
        refine lv_goto (tgt := 35) hx hb d_M_committed_31 (by decide) ?_
        exact x_iret cf hr hlk hP hS (by unfold rCommitted; rw [if_pos ⟨hcor, by omega⟩, hjc, if_pos (by omega), hkc, ← hT1]) (by unfold mCommitted; rw [if_pos ⟨hcor, by omega⟩, hjc]; exact hT1) d_M_committed_35
    · skip
      have uh2 := i_nge0 h2
      refine lv_iconst (v := (-1)) hx hb d_M_committed_12 (by decide) ?_
      exact x_iret cf hr hlk hP hS (by unfold rCommitted; rw [if_neg (by omega)]) (by unfold mCommitted; rw [if_neg (by omega)]) d_M_committed_13
end
section
def mGoF (i t : Nat) (U : Nat → Nat → Nat) : Nat → Nat → Nat :=
  if U 7 (U 22 i) / 2 ^ t % 2 = 0 ∨ ¬ U 24 t = 0 then U
  else if U 23 (U 2 t) < U 4 t then up2 U 24 t 2
  else up2 (up2 (up2 U 24 t 1) 23 (U 2 t) (U 23 (U 2 t) - U 4 t)) 23 (U 3 t) (up2 (up2 U 24 t 1) 23 (U 2 t) (U 23 (U 2 t) - U 4 t) 23 (U 3 t) + U 4 t)
def mGoB (n i : Nat) (Z : Nat → Nat → Nat) : Nat → Nat → Nat := itr (mGoF i) 0 Z n
def mGo0 (S : Nat → Nat → Nat) : Nat → Nat → Nat := itr (fun t Z => up2 Z 24 t 0) 0 (itr (fun a Z => up2 Z 23 a 100) 0 S 4) 24
def mGo (S : Nat → Nat → Nat) (r : Nat) : Nat → Nat → Nat := itr (mGoB (S 0 4)) 0 (mLay (mGo0 S) r) (mLen (mGo0 S) r)
theorem mGo0_a {S : Nat → Nat → Nat} {row : Nat} (h : row ≠ 23) : ∀ k, itr (fun a Z => up2 Z 23 a 100) 0 S k row = S row
  | 0 => rfl
  | k + 1 => by
    rw [itr_s]
    exact (up2_ne _ _ _ h).trans (mGo0_a h k)
theorem mGo0_b {S : Nat → Nat → Nat} {row : Nat} (h : row ≠ 24) : ∀ k, itr (fun t Z => up2 Z 24 t 0) 0 S k row = S row
  | 0 => rfl
  | k + 1 => by
    rw [itr_s]
    exact (up2_ne _ _ _ h).trans (mGo0_b h k)
theorem mGo0_ne {S : Nat → Nat → Nat} {row : Nat} (h1 : row ≠ 23) (h2 : row ≠ 24) : mGo0 S row = S row := (mGo0_b h2 _).trans (mGo0_a h1 _)
theorem IW.go0a {V : Nat} {S : Nat → Nat → Nat} (h : IW V S) : ∀ k, IW V (itr (fun a Z => up2 Z 23 a 100) 0 S k)
  | 0 => h
  | k + 1 => (IW.go0a h k).up (k := 23) (by decide) trivial
theorem IW.go0b {V : Nat} {S : Nat → Nat → Nat} (h : IW V S) : ∀ k, IW V (itr (fun t Z => up2 Z 24 t 0) 0 S k)
  | 0 => h
  | k + 1 => (IW.go0b h k).up (k := 24) (by decide) (show 0 ≤ 2 by decide)
theorem IW.go0 {V : Nat} {S : Nat → Nat → Nat} (h : IW V S) : IW V (mGo0 S) := (h.go0a 4).go0b 24
theorem IW.goF {V : Nat} {U : Nat → Nat → Nat} {i t : Nat} (h : IW V U) : IW V (mGoF i t U) := by
  unfold mGoF
  split
  · exact h
  · split
    · exact h.up (k := 24) (by decide) (show 2 ≤ 2 by decide)
    · exact ((h.up (k := 24) (by decide) (show 1 ≤ 2 by decide)).up (k := 23) (by decide) trivial).up (k := 23) (by decide) trivial
theorem mGoF_ne {U : Nat → Nat → Nat} {i t row : Nat} (h1 : row ≠ 23) (h2 : row ≠ 24) : mGoF i t U row = U row := by
  unfold mGoF
  split
  · rfl
  · split
    · rw [up2_ne _ _ _ h2]
    · rw [up2_ne _ _ _ h1, up2_ne _ _ _ h1, up2_ne _ _ _ h2]
theorem mGoF_bd {V M : Nat} {U : Nat → Nat → Nat} {i t : Nat} (hI : IW V U) (h : ∀ a, a < 4 → U 23 a ≤ M) : ∀ a, a < 4 → mGoF i t U 23 a ≤ M + 1000 := by
  intro a ha
  have h4 := (show U 4 t ≤ 1000 from hI.c 4 t)
  have h1 := h a ha
  have h2 := h (U 2 t) (show U 2 t < 4 from hI.c 2 t)
  have h3 := h (U 3 t) (show U 3 t < 4 from hI.c 3 t)
  unfold mGoF
  split
  · omega
  · split
    · rw [up2_ne _ _ _ (by decide)]
      omega
    · simp only [up2_at]
      simp
      split
      · split <;> omega
      · split <;> omega
theorem mGo0_23 {S : Nat → Nat → Nat} : ∀ a, a < 4 → mGo0 S 23 a = 100 := by
  have key : ∀ k a, a < k → itr (fun a Z => up2 Z 23 a 100) 0 S k 23 a = 100 := by
    intro k
    induction k with
    | zero => intro a ha; omega
    | succ k ih =>
      intro a ha
      rw [itr_z]
      show up2 _ 23 k 100 23 a = 100
      rw [up2_at]
      split
      · rfl
      · exact ih a (by omega)
  intro a ha
  unfold mGo0
  rw [mGo0_b (by decide)]
  exact key 4 a ha
def rBalance (S : Nat → Nat → Nat) (r a : Int32) : Int32 := if mCorrect S r = true ∧ 0 ≤ a.toInt ∧ a.toInt ≤ 3 then nI (mGo S r.toNatClampNeg 23 a.toNatClampNeg) else -1
def mBalance (S : Nat → Nat → Nat) (r a : Int32) : Nat → Nat → Nat := if mCorrect S r = true ∧ 0 ≤ a.toInt ∧ a.toInt ≤ 3 then mGo S r.toNatClampNeg else S
def rOutcome (S : Nat → Nat → Nat) (r t : Int32) : Int32 := if mCorrect S r = true ∧ 0 ≤ t.toInt ∧ t.toInt < (S 0 4 : Int) then nI (mGo S r.toNatClampNeg 24 t.toNatClampNeg) else -1
def mOutcome (S : Nat → Nat → Nat) (r t : Int32) : Nat → Nat → Nat := if mCorrect S r = true ∧ 0 ≤ t.toInt ∧ t.toInt < (S 0 4 : Int) then mGo S r.toNatClampNeg else S
theorem ParOk.of {S T : Nat → Nat → Nat} {bl : Nat} (h : ParOk S bl) (e : T 6 = S 6) : ParOk T bl := by
  unfold ParOk
  rw [e]
  exact h
set_option maxRecDepth 100000 in
set_option maxHeartbeats 4000000 in
theorem k_M_goThrough (l : Launch) {X : WX} (hX : xInj X) {S : Nat → Nat → Nat} {V : Nat} (hI : IW V S) {r : Nat} (hr0 : r < 7) (hPar : ParOk S (S 0 5)) : MetV l X y_M_goThrough (Cond.code y_M_goThrough c_M_goThrough 5 none :: Mst) 2 [.ref (X.2.2.2 0), .int (nI r)] S (mGo S r) := by
  refine MetV.of (by decide) (Nat.le_of_ble_eq_true rfl) ?_
  intro p e s m args below meth c cf hr hlk hP hK hN ls hl
  have hl : lv_has ls 5 [(0, .ref (X.2.2.2 0)), (1, .int (nI r))] := hl
  have hx := cf.1
  have hb := cf.2.1
  have hD := xD_of hX
  have hS : va_S (xA X) s.heap s.heap [] := va_S.rf
  have hf := hI.f
  have hn := hI.n
  have hk := hI.k
  have hcs := hI.cs
  have ht := hI.t
  have hbl := hI.b
  have hm := hI.m
  have hV := hI.V
  obtain ⟨H, hH⟩ : ∃ H, H = s.heap := ⟨_, rfl⟩
  obtain ⟨locs, hlo⟩ : ∃ z : List Loc, z = [] := ⟨_, rfl⟩
  suffices hgo : PW X S H → va_S (xA X) s.heap H locs → W p l e (rmd 2) s m args below meth c H locs 0 0 (MQ below (QcV X (mGo S r)) args s 0 0 (xA X)) (F0 m 0 ls []) by
    subst hH
    subst hlo
    exact hgo hP hS
  clear hP hS
  intro hP hS
  refine lv_iconst (v := nI 0) hx hb d_M_goThrough_0 (by decide) ?_
  refine lv_istore_n (lv' := [(2, .int (nI 0)), (0, .ref (X.2.2.2 0)), (1, .int (nI r))]) hx hb d_M_goThrough_1 rfl hl (by decide) rfl (fun ls hl => ?_)
  have lp2 : ∀ (dm : Nat) (a : Nat) (T : Nat → Nat → Nat) (ls : Array Slot) (H : Heap) (locs : List Loc), lv_has ls 5 [(0, .ref (X.2.2.2 0)), (1, .int (nI r)), (2, .int (nI a))] → PW X T H → va_S (xA X) s.heap H locs → (a ≤ 4) → (T = itr (fun a Z => up2 Z 23 a 100) 0 S a) → (4 - a = dm) → W p l e (rmd 2) s m args below meth c H locs 0 0 (MQ below (QcV X (mGo S r)) args s 0 0 (xA X)) (F0 m 2 ls []) := by
    intro dm
    induction dm using Nat.strongRecOn with | ind dm lp2 => ?_
    intro a T ls H locs hl hP hS ha hz hdm
    refine lv_iload_n hx hb d_M_goThrough_2 rfl (lv_at hl 2 rfl) ?_
    refine lv_iconst (v := nI 4) hx hb d_M_goThrough_3 (by decide) ?_
    refine n_icmp_ge (tgt := 21) hx hb d_M_goThrough_4 (by decide) (by omega) (by decide) (fun h1 => ?_) (fun h1 => ?_)
    · skip
      refine lv_iconst (v := nI 0) hx hb d_M_goThrough_21 (by decide) ?_
      refine lv_istore_n (lv' := [(2, .int (nI 0)), (0, .ref (X.2.2.2 0)), (1, .int (nI r))]) hx hb d_M_goThrough_22 rfl hl (by decide) rfl (fun ls hl => ?_)
      have lp23 : ∀ (dm : Nat) (b : Nat) (U : Nat → Nat → Nat) (ls : Array Slot) (H : Heap) (locs : List Loc), lv_has ls 5 [(0, .ref (X.2.2.2 0)), (1, .int (nI r)), (2, .int (nI b))] → PW X U H → va_S (xA X) s.heap H locs → (b ≤ 24) → (U = itr (fun t Z => up2 Z 24 t 0) 0 T b) → (24 - b = dm) → W p l e (rmd 2) s m args below meth c H locs 0 0 (MQ below (QcV X (mGo S r)) args s 0 0 (xA X)) (F0 m 23 ls []) := by
        intro dm
        induction dm using Nat.strongRecOn with | ind dm lp23 => ?_
        intro b U ls H locs hl hP hS hb2 hzu hdm
        refine lv_iload_n hx hb d_M_goThrough_23 rfl (lv_at hl 2 rfl) ?_
        refine lv_bipush (v := nI 24) hx hb d_M_goThrough_24 (by decide) ?_
        refine n_icmp_ge (tgt := 42) hx hb d_M_goThrough_26 (by decide) (by omega) (by decide) (fun h2 => ?_) (fun h2 => ?_)
        · skip
          obtain ⟨T0, hT0⟩ : ∃ z, z = U := ⟨_, rfl⟩
          rw [← hT0] at hP
          have hT0 : T0 = mGo0 S := by rw [hT0, hzu, hz, show a = 4 by omega, show b = 24 by omega]; rfl
          have hI0 : IW V T0 := by rw [hT0]; exact hI.go0
          have e00 : T0 0 = S 0 := by rw [hT0]; exact mGo0_ne (by decide) (by decide)
          have e06 : T0 6 = S 6 := by rw [hT0]; exact mGo0_ne (by decide) (by decide)
          refine lv_aload_n hx hb d_M_goThrough_42 rfl (lv_at hl 0 rfl) ?_
          refine lv_iload_n hx hb d_M_goThrough_43 rfl (lv_at hl 1 rfl) ?_
          refine x_callVi (As := [.int (nI r)]) (rest := []) cf hK hN hP hS (k_M_layOut l hX hI0 (by omega) (show ParOk T0 (T0 0 5) from (by rw [e00]; exact hPar.of e06))) (cw_M_layOut cf.2.2.2.2 w_707 ⟨Nat.le_of_ble_eq_true rfl, Nat.le_of_ble_eq_true rfl⟩) (rv_M hK hP) hl.1 rfl rfl (Nat.le_of_ble_eq_true rfl) ⟨Nat.zero_le _, Nat.zero_le _⟩ d_M_goThrough_44 (fun H locs hP hS => ?_)
          obtain ⟨T1, hT1⟩ : ∃ z, z = (mLay T0 r) := ⟨_, rfl⟩
          rw [← hT1] at hP
          have hI1 : IW V T1 := by rw [hT1]; exact hI0.lay r
          have hdl := mDep_le (hPar.of e06) 40 _ (by have := mTip_bl hI0 (by rw [e00]; exact hPar.of e06) r; rw [e00] at this; exact this)
          have htb := mTip_lt hI0 r
          have hln : mLen T0 r = 1 + mDep T0 40 (mTip T0 r) := rfl
          refine lv_istore_n (lv' := [(2, .int (nI (mLen T0 r))), (0, .ref (X.2.2.2 0)), (1, .int (nI r))]) hx hb d_M_goThrough_47 rfl hl (by decide) rfl (fun ls hl => ?_)
          refine lv_iconst (v := nI 0) hx hb d_M_goThrough_48 (by decide) ?_
          refine lv_istore_n (lv' := [(3, .int (nI 0)), (2, .int (nI (mLen T0 r))), (0, .ref (X.2.2.2 0)), (1, .int (nI r))]) hx hb d_M_goThrough_49 rfl hl (by decide) rfl (fun ls hl => ?_)
          have lp50 : ∀ (dm : Nat) (i : Nat) (T : Nat → Nat → Nat) (ls : Array Slot) (H : Heap) (locs : List Loc), lv_has ls 5 [(0, .ref (X.2.2.2 0)), (1, .int (nI r)), (2, .int (nI (mLen T0 r))), (3, .int (nI i))] → PW X T H → va_S (xA X) s.heap H locs → (i ≤ mLen T0 r) → (IW V T) → (∀ a, a < 4 → T 23 a ≤ 1000000 + 24000 * i) → (T 0 4 = S 0 4) → (T = itr (mGoB (S 0 4)) 0 T1 i) → (mLen T0 r - i = dm) → W p l e (rmd 2) s m args below meth c H locs 0 0 (MQ below (QcV X (mGo S r)) args s 0 0 (xA X)) (F0 m 50 ls []) := by
            intro dm
            induction dm using Nat.strongRecOn with | ind dm lp50 => ?_
            intro i T ls H locs hl hP hS hi hIT hpT hTn hzT hdm
            refine lv_iload_n hx hb d_M_goThrough_50 rfl (lv_at hl 3 rfl) ?_
            refine lv_iload_n hx hb d_M_goThrough_51 rfl (lv_at hl 2 rfl) ?_
            refine n_icmp_ge (tgt := 200) hx hb d_M_goThrough_52 (by decide) (by omega) (by omega) (fun h3 => ?_) (fun h3 => ?_)
            · skip
              exact x_vret cf hr hlk hP hS (by unfold mGo; rw [← hT0, ← hT1, hzT, show i = mLen T0 r by omega]) d_M_goThrough_200
            · skip
              refine lv_iconst (v := nI 0) hx hb d_M_goThrough_55 (by decide) ?_
              refine lv_istore (lv' := [(4, .int (nI 0)), (0, .ref (X.2.2.2 0)), (1, .int (nI r)), (2, .int (nI (mLen T0 r))), (3, .int (nI i))]) hx hb d_M_goThrough_56 hl (by decide) rfl (fun ls hl => ?_)
              have lp58 : ∀ (dm : Nat) (t : Nat) (U : Nat → Nat → Nat) (ls : Array Slot) (H : Heap) (locs : List Loc), lv_has ls 5 [(0, .ref (X.2.2.2 0)), (1, .int (nI r)), (2, .int (nI (mLen T0 r))), (3, .int (nI i)), (4, .int (nI t))] → PW X U H → va_S (xA X) s.heap H locs → (t ≤ S 0 4) → (IW V U) → (∀ a, a < 4 → U 23 a ≤ 1000000 + 24000 * i + 1000 * t) → (U 0 4 = S 0 4) → (U = itr (mGoF i) 0 T t) → (S 0 4 - t = dm) → W p l e (rmd 2) s m args below meth c H locs 0 0 (MQ below (QcV X (mGo S r)) args s 0 0 (xA X)) (F0 m 58 ls []) := by
                intro dm
                induction dm using Nat.strongRecOn with | ind dm lp58 => ?_
                intro t U ls H locs hl hP hS ht4 hIU hpU hU0 hzU hdm
                refine lv_iload hx hb d_M_goThrough_58 (lv_at hl 4 rfl) ?_
                refine lv_aload_n hx hb d_M_goThrough_60 rfl (lv_at hl 0 rfl) ?_
                refine x_getM (v := .int (nI (U 0 4))) cf hK hP 4 (by decide) w_465 rfl d_M_goThrough_61 ?_
                refine n_icmp_ge (tgt := 194) hx hb d_M_goThrough_64 (by decide) (by omega) (by omega) (fun h4 => ?_) (fun h4 => ?_)
                · skip
                  refine n_iinc1 (lv' := [(3, .int (nI (i + 1))), (0, .ref (X.2.2.2 0)), (1, .int (nI r)), (2, .int (nI (mLen T0 r))), (4, .int (nI t))]) (k := 3) hx hb d_M_goThrough_194 hl rfl (by decide) rfl (fun ls hl => ?_)
                  refine lv_goto (tgt := 50) hx hb d_M_goThrough_197 (by decide) ?_
                  exact lp50 _ (by omega) (i + 1) U ls H locs (lv_sub hl [1, 2, 3, 0] rfl) hP hS (by omega) (hIU) (fun a ha4 => by have := hpU a ha4; omega) (hU0) (by rw [itr_z, ← hzT, hzU, show t = S 0 4 by omega]; rfl) rfl
                · skip
                  have hpU2 := hpU (U 2 t) (show U 2 t < 4 from hIU.c 2 t)
                  refine lv_aload_n hx hb d_M_goThrough_67 rfl (lv_at hl 0 rfl) ?_
                  refine x_getM (v := .ref (X.2.2.2 7)) cf hK hP 12 (by decide) w_473 rfl d_M_goThrough_68 ?_
                  refine lv_aload_n hx hb d_M_goThrough_71 rfl (lv_at hl 0 rfl) ?_
                  refine x_getM (v := .ref (X.2.2.2 22)) cf hK hP 29 (by decide) w_490 rfl d_M_goThrough_72 ?_
                  refine lv_iload_n hx hb d_M_goThrough_75 rfl (lv_at hl 3 rfl) ?_
                  refine x_iald (v := (U 22 i)) cf hK hP (ia22 X) (by omega) rfl d_M_goThrough_76 ?_
                  refine x_iald (v := (U 7 (U 22 i))) cf hK hP (ia7 X) (by have := (show U 22 i < 40 from hIU.c 22 i); omega) rfl d_M_goThrough_77 ?_
                  refine lv_iload hx hb d_M_goThrough_78 (lv_at hl 4 rfl) ?_
                  refine n_ishr hx hb (by have := (show U 22 i < 40 from hIU.c 22 i); have := (show U 7 (U 22 i) < 16777216 from hIU.c 7 (U 22 i)); omega) (by omega) d_M_goThrough_80 ?_
                  refine lv_iconst (v := nI 1) hx hb d_M_goThrough_81 (by decide) ?_
                  refine n_and1 hx hb d_M_goThrough_82 ?_
                  refine n_if_eq (tgt := 188) hx hb d_M_goThrough_83 (by decide) (by have := (show U 22 i < 40 from hIU.c 22 i); have := (show U 7 (U 22 i) < 16777216 from hIU.c 7 (U 22 i)); have := Nat.div_le_self (U 7 (U 22 i)) (2 ^ t); omega) (fun h5 => ?_) (fun h5 => ?_)
                  · skip
                    refine n_iinc1 (lv' := [(4, .int (nI (t + 1))), (0, .ref (X.2.2.2 0)), (1, .int (nI r)), (2, .int (nI (mLen T0 r))), (3, .int (nI i))]) (k := 4) hx hb d_M_goThrough_188 hl rfl (by decide) rfl (fun ls hl => ?_)
                    refine lv_goto (tgt := 58) hx hb d_M_goThrough_191 (by decide) ?_
                    have hst : U = mGoF i t U := by unfold mGoF; first | (rw [if_pos (by omega)]; done) | (rw [if_neg (by omega), if_pos (by omega)]; done) | (rw [if_neg (by omega), if_neg (by omega)]; done)
                    exact lp58 _ (by omega) (t + 1) U ls H locs (lv_sub hl [1, 2, 3, 4, 0] rfl) hP hS (by omega) (by rw [hst]; exact hIU.goF) (fun a ha4 => by rw [hst]; have := mGoF_bd (i := i) (t := t) hIU hpU a ha4; omega) (by rw [hst, mGoF_ne (by decide) (by decide)]; exact hU0) (by rw [hst, itr_z, ← hzU]) rfl
                  · skip
                    refine lv_aload_n hx hb d_M_goThrough_86 rfl (lv_at hl 0 rfl) ?_
                    refine x_getM (v := .ref (X.2.2.2 24)) cf hK hP 31 (by decide) w_492 rfl d_M_goThrough_87 ?_
                    refine lv_iload hx hb d_M_goThrough_90 (lv_at hl 4 rfl) ?_
                    refine x_iald (v := (U 24 t)) cf hK hP (ia24 X) (by omega) rfl d_M_goThrough_92 ?_
                    refine n_if_eq (tgt := 99) hx hb d_M_goThrough_93 (by decide) (by have := (show U 24 t ≤ 2 from hIU.c 24 t); omega) (fun h6 => ?_) (fun h6 => ?_)
                    · skip
                      refine lv_aload_n hx hb d_M_goThrough_99 rfl (lv_at hl 0 rfl) ?_
                      refine x_getM (v := .ref (X.2.2.2 24)) cf hK hP 31 (by decide) w_492 rfl d_M_goThrough_100 ?_
                      refine lv_iload hx hb d_M_goThrough_103 (lv_at hl 4 rfl) ?_
                      refine lv_aload_n hx hb d_M_goThrough_105 rfl (lv_at hl 0 rfl) ?_
                      refine x_getM (v := .ref (X.2.2.2 23)) cf hK hP 30 (by decide) w_491 rfl d_M_goThrough_106 ?_
                      refine lv_aload_n hx hb d_M_goThrough_109 rfl (lv_at hl 0 rfl) ?_
                      refine x_getM (v := .ref (X.2.2.2 2)) cf hK hP 6 (by decide) w_467 rfl d_M_goThrough_110 ?_
                      refine lv_iload hx hb d_M_goThrough_113 (lv_at hl 4 rfl) ?_
                      refine x_iald (v := (U 2 t)) cf hK hP (ia2 X) (by omega) rfl d_M_goThrough_115 ?_
                      refine x_iald (v := (U 23 (U 2 t))) cf hK hP (ia23 X) (by have := (show U 2 t < 4 from hIU.c 2 t); omega) rfl d_M_goThrough_116 ?_
                      refine lv_aload_n hx hb d_M_goThrough_117 rfl (lv_at hl 0 rfl) ?_
                      refine x_getM (v := .ref (X.2.2.2 4)) cf hK hP 8 (by decide) w_469 rfl d_M_goThrough_118 ?_
                      refine lv_iload hx hb d_M_goThrough_121 (lv_at hl 4 rfl) ?_
                      refine x_iald (v := (U 4 t)) cf hK hP (ia4 X) (by omega) rfl d_M_goThrough_123 ?_
                      refine n_icmp_lt (tgt := 131) hx hb d_M_goThrough_124 (by decide) (by have := (show U 2 t < 4 from hIU.c 2 t); omega) (by have := (show U 4 t ≤ 1000 from hIU.c 4 t); omega) (fun h7 => ?_) (fun h7 => ?_)
                      · skip
                        refine lv_iconst (v := nI 2) hx hb d_M_goThrough_131 (by decide) ?_
                        refine x_iast cf hK hD hP hS (ia24 X) (by omega) d_M_goThrough_132 (fun H locs hP hS => ?_)
                        refine lv_aload_n hx hb d_M_goThrough_133 rfl (lv_at hl 0 rfl) ?_
                        refine x_getM (v := .ref (X.2.2.2 24)) cf hK hP 31 (by decide) w_492 rfl d_M_goThrough_134 ?_
                        refine lv_iload hx hb d_M_goThrough_137 (lv_at hl 4 rfl) ?_
                        refine x_iald (v := 2) cf hK hP (ia24 X) (by omega) (by simp [up2_at]) d_M_goThrough_139 ?_
                        refine lv_iconst (v := nI 1) hx hb d_M_goThrough_140 (by decide) ?_
                        refine n_icmp_ne (tgt := 188) hx hb d_M_goThrough_141 (by decide) (by decide) (by decide) (fun _ => ?_) (fun h8 => absurd h8 (by decide))
                        refine n_iinc1 (lv' := [(4, .int (nI (t + 1))), (0, .ref (X.2.2.2 0)), (1, .int (nI r)), (2, .int (nI (mLen T0 r))), (3, .int (nI i))]) (k := 4) hx hb d_M_goThrough_188 hl rfl (by decide) rfl (fun ls hl => ?_)
                        refine lv_goto (tgt := 58) hx hb d_M_goThrough_191 (by decide) ?_
                        have hst : (up2 U 24 t 2) = mGoF i t U := by unfold mGoF; first | (rw [if_pos (by omega)]; done) | (rw [if_neg (by omega), if_pos (by omega)]; done) | (rw [if_neg (by omega), if_neg (by omega)]; done)
                        exact lp58 _ (by omega) (t + 1) (up2 U 24 t 2) ls H locs (lv_sub hl [1, 2, 3, 4, 0] rfl) hP hS (by omega) (by rw [hst]; exact hIU.goF) (fun a ha4 => by rw [hst]; have := mGoF_bd (i := i) (t := t) hIU hpU a ha4; omega) (by rw [hst, mGoF_ne (by decide) (by decide)]; exact hU0) (by rw [hst, itr_z, ← hzU]) rfl
                      · skip
                        refine lv_iconst (v := nI 1) hx hb d_M_goThrough_127 (by decide) ?_
                        refine lv_goto (tgt := 132) hx hb d_M_goThrough_128 (by decide) ?_
                        refine x_iast cf hK hD hP hS (ia24 X) (by omega) d_M_goThrough_132 (fun H locs hP hS => ?_)
                        refine lv_aload_n hx hb d_M_goThrough_133 rfl (lv_at hl 0 rfl) ?_
                        refine x_getM (v := .ref (X.2.2.2 24)) cf hK hP 31 (by decide) w_492 rfl d_M_goThrough_134 ?_
                        refine lv_iload hx hb d_M_goThrough_137 (lv_at hl 4 rfl) ?_
                        refine x_iald (v := 1) cf hK hP (ia24 X) (by omega) (by simp [up2_at]) d_M_goThrough_139 ?_
                        refine lv_iconst (v := nI 1) hx hb d_M_goThrough_140 (by decide) ?_
                        refine n_icmp_ne (tgt := 188) hx hb d_M_goThrough_141 (by decide) (by decide) (by decide) (fun h9 => absurd h9 (by decide)) (fun _ => ?_)
                        refine lv_aload_n hx hb d_M_goThrough_144 rfl (lv_at hl 0 rfl) ?_
                        refine x_getM (v := .ref (X.2.2.2 23)) cf hK hP 30 (by decide) w_491 rfl d_M_goThrough_145 ?_
                        refine lv_aload_n hx hb d_M_goThrough_148 rfl (lv_at hl 0 rfl) ?_
                        refine x_getM (v := .ref (X.2.2.2 2)) cf hK hP 6 (by decide) w_467 rfl d_M_goThrough_149 ?_
                        refine lv_iload hx hb d_M_goThrough_152 (lv_at hl 4 rfl) ?_
                        refine x_iald (v := (U 2 t)) cf hK hP (ia2 X) (by omega) (by simp [up2_at]) d_M_goThrough_154 ?_
                        refine lv_dup2_11 hx hb d_M_goThrough_155 rfl rfl ?_
                        refine x_iald (v := (U 23 (U 2 t))) cf hK hP (ia23 X) (by have := (show U 2 t < 4 from hIU.c 2 t); omega) (by simp [up2_at]) d_M_goThrough_156 ?_
                        refine lv_aload_n hx hb d_M_goThrough_157 rfl (lv_at hl 0 rfl) ?_
                        refine x_getM (v := .ref (X.2.2.2 4)) cf hK hP 8 (by decide) w_469 rfl d_M_goThrough_158 ?_
                        refine lv_iload hx hb d_M_goThrough_161 (lv_at hl 4 rfl) ?_
                        refine x_iald (v := (U 4 t)) cf hK hP (ia4 X) (by omega) (by simp [up2_at]) d_M_goThrough_163 ?_
                        refine n_isub hx hb (by have := (show U 2 t < 4 from hIU.c 2 t); have := (show U 4 t ≤ 1000 from hIU.c 4 t); omega) d_M_goThrough_164 ?_
                        refine x_iast cf hK hD hP hS (ia23 X) (by have := (show U 2 t < 4 from hIU.c 2 t); omega) d_M_goThrough_165 (fun H locs hP hS => ?_)
                        refine lv_aload_n hx hb d_M_goThrough_166 rfl (lv_at hl 0 rfl) ?_
                        refine x_getM (v := .ref (X.2.2.2 23)) cf hK hP 30 (by decide) w_491 rfl d_M_goThrough_167 ?_
                        refine lv_aload_n hx hb d_M_goThrough_170 rfl (lv_at hl 0 rfl) ?_
                        refine x_getM (v := .ref (X.2.2.2 3)) cf hK hP 7 (by decide) w_468 rfl d_M_goThrough_171 ?_
                        refine lv_iload hx hb d_M_goThrough_174 (lv_at hl 4 rfl) ?_
                        refine x_iald (v := (U 3 t)) cf hK hP (ia3 X) (by omega) (by simp [up2_at]) d_M_goThrough_176 ?_
                        refine lv_dup2_11 hx hb d_M_goThrough_177 rfl rfl ?_
                        refine x_iald (v := ((up2 (up2 U 24 t 1) 23 (U 2 t) ((U 23 (U 2 t)) - (U 4 t))) 23 (U 3 t))) cf hK hP (ia23 X) (by have := (show U 3 t < 4 from hIU.c 3 t); omega) rfl d_M_goThrough_178 ?_
                        refine lv_aload_n hx hb d_M_goThrough_179 rfl (lv_at hl 0 rfl) ?_
                        refine x_getM (v := .ref (X.2.2.2 4)) cf hK hP 8 (by decide) w_469 rfl d_M_goThrough_180 ?_
                        refine lv_iload hx hb d_M_goThrough_183 (lv_at hl 4 rfl) ?_
                        refine x_iald (v := (U 4 t)) cf hK hP (ia4 X) (by omega) (by simp [up2_at]) d_M_goThrough_185 ?_
                        refine n_iadd hx hb d_M_goThrough_186 ?_
                        refine x_iast cf hK hD hP hS (ia23 X) (by have := (show U 3 t < 4 from hIU.c 3 t); omega) d_M_goThrough_187 (fun H locs hP hS => ?_)
                        refine n_iinc1 (lv' := [(4, .int (nI (t + 1))), (0, .ref (X.2.2.2 0)), (1, .int (nI r)), (2, .int (nI (mLen T0 r))), (3, .int (nI i))]) (k := 4) hx hb d_M_goThrough_188 hl rfl (by decide) rfl (fun ls hl => ?_)
                        refine lv_goto (tgt := 58) hx hb d_M_goThrough_191 (by decide) ?_
                        have hst : (up2 (up2 (up2 U 24 t 1) 23 (U 2 t) ((U 23 (U 2 t)) - (U 4 t))) 23 (U 3 t) (((up2 (up2 U 24 t 1) 23 (U 2 t) ((U 23 (U 2 t)) - (U 4 t))) 23 (U 3 t)) + (U 4 t))) = mGoF i t U := by unfold mGoF; first | (rw [if_pos (by omega)]; done) | (rw [if_neg (by omega), if_pos (by omega)]; done) | (rw [if_neg (by omega), if_neg (by omega)]; done)
                        exact lp58 _ (by omega) (t + 1) (up2 (up2 (up2 U 24 t 1) 23 (U 2 t) ((U 23 (U 2 t)) - (U 4 t))) 23 (U 3 t) (((up2 (up2 U 24 t 1) 23 (U 2 t) ((U 23 (U 2 t)) - (U 4 t))) 23 (U 3 t)) + (U 4 t))) ls H locs (lv_sub hl [1, 2, 3, 4, 0] rfl) hP hS (by omega) (by rw [hst]; exact hIU.goF) (fun a ha4 => by rw [hst]; have := mGoF_bd (i := i) (t := t) hIU hpU a ha4; omega) (by rw [hst, mGoF_ne (by decide) (by decide)]; exact hU0) (by rw [hst, itr_z, ← hzU]) rfl
                    · skip
                      refine lv_goto (tgt := 188) hx hb d_M_goThrough_96 (by decide) ?_
                      refine n_iinc1 (lv' := [(4, .int (nI (t + 1))), (0, .ref (X.2.2.2 0)), (1, .int (nI r)), (2, .int (nI (mLen T0 r))), (3, .int (nI i))]) (k := 4) hx hb d_M_goThrough_188 hl rfl (by decide) rfl (fun ls hl => ?_)
                      refine lv_goto (tgt := 58) hx hb d_M_goThrough_191 (by decide) ?_
                      have hst : U = mGoF i t U := by unfold mGoF; first | (rw [if_pos (by omega)]; done) | (rw [if_neg (by omega), if_pos (by omega)]; done) | (rw [if_neg (by omega), if_neg (by omega)]; done)
                      exact lp58 _ (by omega) (t + 1) U ls H locs (lv_sub hl [1, 2, 3, 4, 0] rfl) hP hS (by omega) (by rw [hst]; exact hIU.goF) (fun a ha4 => by rw [hst]; have := mGoF_bd (i := i) (t := t) hIU hpU a ha4; omega) (by rw [hst, mGoF_ne (by decide) (by decide)]; exact hU0) (by rw [hst, itr_z, ← hzU]) rfl
              exact lp58 _ 0 T ls H locs (lv_sub hl [1, 2, 3, 4, 0] rfl) hP hS (by omega) (hIT) (fun a ha4 => by have := hpT a ha4; omega) (hTn) (rfl) rfl
          exact lp50 _ 0 T1 ls H locs (lv_sub hl [2, 3, 1, 0] rfl) hP hS (by omega) (hI1) (fun a ha4 => by rw [hT1, mLay_ne (by decide), hT0, mGo0_23 a ha4]; omega) (by rw [hT1, mLay_ne (by decide), e00]) (rfl) rfl
        · skip
          refine lv_aload_n hx hb d_M_goThrough_29 rfl (lv_at hl 0 rfl) ?_
          refine x_getM (v := .ref (X.2.2.2 24)) cf hK hP 31 (by decide) w_492 rfl d_M_goThrough_30 ?_
          refine lv_iload_n hx hb d_M_goThrough_33 rfl (lv_at hl 2 rfl) ?_
          refine lv_iconst (v := nI 0) hx hb d_M_goThrough_34 (by decide) ?_
          refine x_iast cf hK hD hP hS (ia24 X) (by omega) d_M_goThrough_35 (fun H locs hP hS => ?_)
          refine n_iinc1 (lv' := [(2, .int (nI (b + 1))), (0, .ref (X.2.2.2 0)), (1, .int (nI r))]) (k := 2) hx hb d_M_goThrough_36 hl rfl (by decide) rfl (fun ls hl => ?_)
          refine lv_goto (tgt := 23) hx hb d_M_goThrough_39 (by decide) ?_
          exact lp23 _ (by omega) (b + 1) (up2 U 24 b 0) ls H locs (lv_sub hl [1, 2, 0] rfl) hP hS (by omega) (by rw [itr_z, ← hzu]) rfl
      exact lp23 _ 0 T ls H locs (lv_sub hl [1, 2, 0] rfl) hP hS (by omega) (rfl) rfl
    · skip
      refine lv_aload_n hx hb d_M_goThrough_7 rfl (lv_at hl 0 rfl) ?_
      refine x_getM (v := .ref (X.2.2.2 23)) cf hK hP 30 (by decide) w_491 rfl d_M_goThrough_8 ?_
      refine lv_iload_n hx hb d_M_goThrough_11 rfl (lv_at hl 2 rfl) ?_
      refine lv_bipush (v := nI 100) hx hb d_M_goThrough_12 (by decide) ?_
      refine x_iast cf hK hD hP hS (ia23 X) (by omega) d_M_goThrough_14 (fun H locs hP hS => ?_)
      refine n_iinc1 (lv' := [(2, .int (nI (a + 1))), (0, .ref (X.2.2.2 0)), (1, .int (nI r))]) (k := 2) hx hb d_M_goThrough_15 hl rfl (by decide) rfl (fun ls hl => ?_)
      refine lv_goto (tgt := 2) hx hb d_M_goThrough_18 (by decide) ?_
      exact lp2 _ (by omega) (a + 1) (up2 T 23 a 100) ls H locs (lv_sub hl [1, 2, 0] rfl) hP hS (by omega) (by rw [itr_z, ← hz]) rfl
  exact lp2 _ 0 S ls H locs (lv_sub hl [1, 2, 0] rfl) hP hS (by omega) (rfl) rfl
set_option maxRecDepth 100000 in
set_option maxHeartbeats 4000000 in
theorem k_M_balance (l : Launch) {X : WX} (hX : xInj X) {S : Nat → Nat → Nat} {V : Nat} (hI : IW V S) (hPar : ParOk S (S 0 5)) (r a : Int32) : MetI l X y_M_balance (Cond.code y_M_balance c_M_balance 3 (some .int) :: Mst) 3 [.ref (X.2.2.2 0), .int r, .int a] S (rBalance S r a) (mBalance S r a) := by
  refine MetI.of (by decide) (Nat.le_of_ble_eq_true rfl) ?_
  intro p e s m args below meth c cf hr hlk hP hK hN ls hl
  have hl : lv_has ls 3 [(0, .ref (X.2.2.2 0)), (1, .int r), (2, .int a)] := hl
  have hx := cf.1
  have hb := cf.2.1
  have hD := xD_of hX
  have hS : va_S (xA X) s.heap s.heap [] := va_S.rf
  have hf := hI.f
  have hn := hI.n
  have hk := hI.k
  have hcs := hI.cs
  have ht := hI.t
  have hbl := hI.b
  have hm := hI.m
  have hV := hI.V
  obtain ⟨H, hH⟩ : ∃ H, H = s.heap := ⟨_, rfl⟩
  obtain ⟨locs, hlo⟩ : ∃ z : List Loc, z = [] := ⟨_, rfl⟩
  suffices hgo : PW X S H → va_S (xA X) s.heap H locs → W p l e (rmd 3) s m args below meth c H locs 0 0 (MQ below (QcI X (rBalance S r a) (mBalance S r a)) args s 0 0 (xA X)) (F0 m 0 ls []) by
    subst hH
    subst hlo
    exact hgo hP hS
  clear hP hS
  intro hP hS
  refine lv_aload_n hx hb d_M_balance_0 rfl (lv_at hl 0 rfl) ?_
  refine lv_iload_n hx hb d_M_balance_1 rfl (lv_at hl 1 rfl) ?_
  refine x_callVi (As := [.int r]) (rest := []) cf hK hN hP hS (k_M_isCorrect l hX hI r) (cw_M_isCorrect cf.2.2.2.2 w_567 ⟨Nat.le_of_ble_eq_true rfl, Nat.le_of_ble_eq_true rfl⟩) (rv_M hK hP) hl.1 rfl rfl (Nat.le_of_ble_eq_true rfl) ⟨Nat.zero_le _, Nat.zero_le _⟩ d_M_balance_2 (fun H locs hP hS => ?_)
  refine n_if_eq (tgt := 17) hx hb d_M_balance_5 (by decide) (tnat_lt _) (fun h1 => ?_) (fun h1 => ?_)
  · skip
    refine lv_iconst (v := (-1)) hx hb d_M_balance_17 (by decide) ?_
    exact x_iret cf hr hlk hP hS (by unfold rBalance; rw [if_neg (fun q => by rw [tnat_0 h1] at q; exact absurd q.1 (by decide))]) (by unfold mBalance; rw [if_neg (fun q => by rw [tnat_0 h1] at q; exact absurd q.1 (by decide))]) d_M_balance_18
  · skip
    obtain ⟨j, hj, rfl, hjb⟩ := mCorrect_ex (by omega) (tnat_1 h1)
    have hjc := nI_clamp (show j < 2 ^ 31 by omega)
    have hcor := tnat_1 h1
    refine lv_iload_n hx hb d_M_balance_8 rfl (lv_at hl 2 rfl) ?_
    refine lv_if_lt (tgt := 17) hx hb d_M_balance_9 (by decide) (fun h2 => ?_) (fun h2 => ?_)
    · skip
      have uh2 := i_lt0 h2
      refine lv_iconst (v := (-1)) hx hb d_M_balance_17 (by decide) ?_
      exact x_iret cf hr hlk hP hS (by unfold rBalance; rw [if_neg (by omega)]) (by unfold mBalance; rw [if_neg (by omega)]) d_M_balance_18
    · skip
      have uh2 := i_nlt0 h2
      refine lv_iload_n hx hb d_M_balance_12 rfl (lv_at hl 2 rfl) ?_
      refine lv_iconst (v := nI 3) hx hb d_M_balance_13 (by decide) ?_
      refine lv_icmp_le (tgt := 19) hx hb d_M_balance_14 (by decide) (fun h3 => ?_) (fun h3 => ?_)
      · skip
        have uh3 := i_leN (by decide) h3
        obtain ⟨k, hk31, rfl, hkt, hkc⟩ := i_nat uh2
        refine lv_aload_n hx hb d_M_balance_19 rfl (lv_at hl 0 rfl) ?_
        refine lv_iload_n hx hb d_M_balance_20 rfl (lv_at hl 1 rfl) ?_
        refine x_callVv (As := [.int (nI j)]) (rest := []) cf hK hN hP hS (k_M_goThrough l hX hI (by omega) hPar) (cw_M_goThrough cf.2.2.2.2 w_715 ⟨Nat.le_of_ble_eq_true rfl, Nat.le_of_ble_eq_true rfl⟩) (rv_M hK hP) hl.1 rfl rfl (Nat.le_of_ble_eq_true rfl) ⟨Nat.zero_le _, Nat.zero_le _⟩ d_M_balance_21 (fun H locs hP hS => ?_)
        refine lv_aload_n hx hb d_M_balance_24 rfl (lv_at hl 0 rfl) ?_
        refine x_getM (v := .ref (X.2.2.2 23)) cf hK hP 30 (by decide) w_491 rfl d_M_balance_25 ?_
        refine lv_iload_n hx hb d_M_balance_28 rfl (lv_at hl 2 rfl) ?_
        refine x_iald (v := ((mGo S j) 23 k)) cf hK hP (ia23 X) (by omega) rfl d_M_balance_29 ?_
        exact x_iret cf hr hlk hP hS (by unfold rBalance; rw [if_pos ⟨hcor, by omega⟩, hjc, hkc]) (by unfold mBalance; rw [if_pos ⟨hcor, by omega⟩, hjc]) d_M_balance_30
      · skip
        have uh3 := i_nleN (by decide) h3
        refine lv_iconst (v := (-1)) hx hb d_M_balance_17 (by decide) ?_
        exact x_iret cf hr hlk hP hS (by unfold rBalance; rw [if_neg (by omega)]) (by unfold mBalance; rw [if_neg (by omega)]) d_M_balance_18
set_option maxRecDepth 100000 in
set_option maxHeartbeats 4000000 in
theorem k_M_outcome (l : Launch) {X : WX} (hX : xInj X) {S : Nat → Nat → Nat} {V : Nat} (hI : IW V S) (hPar : ParOk S (S 0 5)) (r t : Int32) : MetI l X y_M_outcome (Cond.code y_M_outcome c_M_outcome 3 (some .int) :: Mst) 3 [.ref (X.2.2.2 0), .int r, .int t] S (rOutcome S r t) (mOutcome S r t) := by
  refine MetI.of (by decide) (Nat.le_of_ble_eq_true rfl) ?_
  intro p e s m args below meth c cf hr hlk hP hK hN ls hl
  have hl : lv_has ls 3 [(0, .ref (X.2.2.2 0)), (1, .int r), (2, .int t)] := hl
  have hx := cf.1
  have hb := cf.2.1
  have hD := xD_of hX
  have hS : va_S (xA X) s.heap s.heap [] := va_S.rf
  have hf := hI.f
  have hn := hI.n
  have hk := hI.k
  have hcs := hI.cs
  have ht := hI.t
  have hbl := hI.b
  have hm := hI.m
  have hV := hI.V
  obtain ⟨H, hH⟩ : ∃ H, H = s.heap := ⟨_, rfl⟩
  obtain ⟨locs, hlo⟩ : ∃ z : List Loc, z = [] := ⟨_, rfl⟩
  suffices hgo : PW X S H → va_S (xA X) s.heap H locs → W p l e (rmd 3) s m args below meth c H locs 0 0 (MQ below (QcI X (rOutcome S r t) (mOutcome S r t)) args s 0 0 (xA X)) (F0 m 0 ls []) by
    subst hH
    subst hlo
    exact hgo hP hS
  clear hP hS
  intro hP hS
  refine lv_aload_n hx hb d_M_outcome_0 rfl (lv_at hl 0 rfl) ?_
  refine lv_iload_n hx hb d_M_outcome_1 rfl (lv_at hl 1 rfl) ?_
  refine x_callVi (As := [.int r]) (rest := []) cf hK hN hP hS (k_M_isCorrect l hX hI r) (cw_M_isCorrect cf.2.2.2.2 w_567 ⟨Nat.le_of_ble_eq_true rfl, Nat.le_of_ble_eq_true rfl⟩) (rv_M hK hP) hl.1 rfl rfl (Nat.le_of_ble_eq_true rfl) ⟨Nat.zero_le _, Nat.zero_le _⟩ d_M_outcome_2 (fun H locs hP hS => ?_)
  refine n_if_eq (tgt := 20) hx hb d_M_outcome_5 (by decide) (tnat_lt _) (fun h1 => ?_) (fun h1 => ?_)
  · skip
    refine lv_iconst (v := (-1)) hx hb d_M_outcome_20 (by decide) ?_
    exact x_iret cf hr hlk hP hS (by unfold rOutcome; rw [if_neg (fun q => by rw [tnat_0 h1] at q; exact absurd q.1 (by decide))]) (by unfold mOutcome; rw [if_neg (fun q => by rw [tnat_0 h1] at q; exact absurd q.1 (by decide))]) d_M_outcome_21
  · skip
    obtain ⟨j, hj, rfl, hjb⟩ := mCorrect_ex (by omega) (tnat_1 h1)
    have hjc := nI_clamp (show j < 2 ^ 31 by omega)
    have hcor := tnat_1 h1
    refine lv_iload_n hx hb d_M_outcome_8 rfl (lv_at hl 2 rfl) ?_
    refine lv_if_lt (tgt := 20) hx hb d_M_outcome_9 (by decide) (fun h2 => ?_) (fun h2 => ?_)
    · skip
      have uh2 := i_lt0 h2
      refine lv_iconst (v := (-1)) hx hb d_M_outcome_20 (by decide) ?_
      exact x_iret cf hr hlk hP hS (by unfold rOutcome; rw [if_neg (by omega)]) (by unfold mOutcome; rw [if_neg (by omega)]) d_M_outcome_21
    · skip
      have uh2 := i_nlt0 h2
      refine lv_iload_n hx hb d_M_outcome_12 rfl (lv_at hl 2 rfl) ?_
      refine lv_aload_n hx hb d_M_outcome_13 rfl (lv_at hl 0 rfl) ?_
      refine x_getM (v := .int (nI (S 0 4))) cf hK hP 4 (by decide) w_465 rfl d_M_outcome_14 ?_
      refine lv_icmp_lt (tgt := 22) hx hb d_M_outcome_17 (by decide) (fun h3 => ?_) (fun h3 => ?_)
      · skip
        have uh3 := i_ltN (by omega) h3
        obtain ⟨k, hk31, rfl, hkt, hkc⟩ := i_nat uh2
        refine lv_aload_n hx hb d_M_outcome_22 rfl (lv_at hl 0 rfl) ?_
        refine lv_iload_n hx hb d_M_outcome_23 rfl (lv_at hl 1 rfl) ?_
        refine x_callVv (As := [.int (nI j)]) (rest := []) cf hK hN hP hS (k_M_goThrough l hX hI (by omega) hPar) (cw_M_goThrough cf.2.2.2.2 w_715 ⟨Nat.le_of_ble_eq_true rfl, Nat.le_of_ble_eq_true rfl⟩) (rv_M hK hP) hl.1 rfl rfl (Nat.le_of_ble_eq_true rfl) ⟨Nat.zero_le _, Nat.zero_le _⟩ d_M_outcome_24 (fun H locs hP hS => ?_)
        refine lv_aload_n hx hb d_M_outcome_27 rfl (lv_at hl 0 rfl) ?_
        refine x_getM (v := .ref (X.2.2.2 24)) cf hK hP 31 (by decide) w_492 rfl d_M_outcome_28 ?_
        refine lv_iload_n hx hb d_M_outcome_31 rfl (lv_at hl 2 rfl) ?_
        refine x_iald (v := ((mGo S j) 24 k)) cf hK hP (ia24 X) (by omega) rfl d_M_outcome_32 ?_
        exact x_iret cf hr hlk hP hS (by unfold rOutcome; rw [if_pos ⟨hcor, by omega⟩, hjc, hkc]) (by unfold mOutcome; rw [if_pos ⟨hcor, by omega⟩, hjc]) d_M_outcome_33
      · skip
        have uh3 := i_nltN (by omega) h3
        refine lv_iconst (v := (-1)) hx hb d_M_outcome_20 (by decide) ?_
        exact x_iret cf hr hlk hP hS (by unfold rOutcome; rw [if_neg (by omega)]) (by unfold mOutcome; rw [if_neg (by omega)]) d_M_outcome_21
set_option maxRecDepth 100000 in
set_option maxHeartbeats 4000000 in
theorem k_M_forge (l : Launch) {X : WX} (hX : xInj X) {S : Nat → Nat → Nat} {V : Nat} (hI : IW V S) (p0 v set : Int32) : MetI l X y_M_forge (Cond.code y_M_forge c_M_forge 5 (some .int) :: Mst) 2 [.ref (X.2.2.2 0), .int p0, .int v, .int set] S (rForge S p0 v set) (mForge S p0 v set) := by
  refine MetI.of (by decide) (Nat.le_of_ble_eq_true rfl) ?_
  intro p e s m args below meth c cf hr hlk hP hK hN ls hl
  have hl : lv_has ls 5 [(0, .ref (X.2.2.2 0)), (1, .int p0), (2, .int v), (3, .int set)] := hl
  have hx := cf.1
  have hb := cf.2.1
  have hD := xD_of hX
  have hS : va_S (xA X) s.heap s.heap [] := va_S.rf
  have hf := hI.f
  have hn := hI.n
  have hk := hI.k
  have hcs := hI.cs
  have ht := hI.t
  have hbl := hI.b
  have hm := hI.m
  have hV := hI.V
  obtain ⟨H, hH⟩ : ∃ H, H = s.heap := ⟨_, rfl⟩
  obtain ⟨locs, hlo⟩ : ∃ z : List Loc, z = [] := ⟨_, rfl⟩
  suffices hgo : PW X S H → va_S (xA X) s.heap H locs → W p l e (rmd 2) s m args below meth c H locs 0 0 (MQ below (QcI X (rForge S p0 v set) (mForge S p0 v set)) args s 0 0 (xA X)) (F0 m 0 ls []) by
    subst hH
    subst hlo
    exact hgo hP hS
  clear hP hS
  intro hP hS
  refine lv_aload_n hx hb d_M_forge_0 rfl (lv_at hl 0 rfl) ?_
  refine lv_iload_n hx hb d_M_forge_1 rfl (lv_at hl 1 rfl) ?_
  refine x_callVi (As := [.int p0]) (rest := []) cf hK hN hP hS (k_M_isBlock l hX hI p0) (cw_M_isBlock cf.2.2.2.2 w_655 ⟨Nat.le_of_ble_eq_true rfl, Nat.le_of_ble_eq_true rfl⟩) (rv_M hK hP) hl.1 rfl rfl (Nat.le_of_ble_eq_true rfl) ⟨Nat.zero_le _, Nat.zero_le _⟩ d_M_forge_2 (fun H locs hP hS => ?_)
  refine n_if_eq (tgt := 42) hx hb d_M_forge_5 (by decide) (tnat_lt _) (fun h1 => ?_) (fun h1 => ?_)
  · skip
    have hno : rForgeOk S p0 v set = false := by unfold rForgeOk; rw [tnat_0 (b := mBlock S p0) h1]; simp
    refine lv_iconst (v := (-1)) hx hb d_M_forge_42 (by decide) ?_
    exact x_iret cf hr hlk hP hS (by unfold rForge; rw [hno]; rfl) (by unfold mForge; rw [hno]; rfl) d_M_forge_43
  · skip
    obtain ⟨pj, hpj, rfl⟩ := mBlock_nI (by omega) (tnat_1 h1)
    have hpjc := nI_clamp (show pj < 2 ^ 31 by omega)
    refine lv_aload_n hx hb d_M_forge_8 rfl (lv_at hl 0 rfl) ?_
    refine lv_iload_n hx hb d_M_forge_9 rfl (lv_at hl 1 rfl) ?_
    refine x_callVi (As := [.int (nI pj)]) (rest := []) cf hK hN hP hS (k_M_certified l hX hI (by omega)) (cw_M_certified cf.2.2.2.2 w_659 ⟨Nat.le_of_ble_eq_true rfl, Nat.le_of_ble_eq_true rfl⟩) (rv_M hK hP) hl.1 rfl rfl (Nat.le_of_ble_eq_true rfl) ⟨Nat.zero_le _, Nat.zero_le _⟩ d_M_forge_10 (fun H locs hP hS => ?_)
    refine n_if_eq (tgt := 42) hx hb d_M_forge_13 (by decide) (tnat_lt _) (fun h2 => ?_) (fun h2 => ?_)
    · skip
      have hno : rForgeOk S (nI pj) v set = false := by unfold rForgeOk; rw [hpjc, tnat_0 (b := mCert S pj) h2]; simp
      refine lv_iconst (v := (-1)) hx hb d_M_forge_42 (by decide) ?_
      exact x_iret cf hr hlk hP hS (by unfold rForge; rw [hno]; rfl) (by unfold mForge; rw [hno]; rfl) d_M_forge_43
    · skip
      refine lv_iload_n hx hb d_M_forge_16 rfl (lv_at hl 2 rfl) ?_
      refine lv_aload_n hx hb d_M_forge_17 rfl (lv_at hl 0 rfl) ?_
      refine x_getM (v := .ref (X.2.2.2 5)) cf hK hP 10 (by decide) w_471 rfl d_M_forge_18 ?_
      refine lv_iload_n hx hb d_M_forge_21 rfl (lv_at hl 1 rfl) ?_
      refine x_iald (v := (S 5 pj)) cf hK hP (ia5 X) (by omega) rfl d_M_forge_22 ?_
      refine lv_icmp_le (tgt := 42) hx hb d_M_forge_23 (by decide) (fun h3 => ?_) (fun h3 => ?_)
      · skip
        have uh3 := i_leN (by have := (show S 5 pj + 1 ≤ V from hI.c 5 pj); omega) h3
        have hno : rForgeOk S (nI pj) v set = false := by unfold rForgeOk; rw [hpjc, decide_eq_false (p := (S 5 pj : Int) < v.toInt) (by omega)]; simp
        refine lv_iconst (v := (-1)) hx hb d_M_forge_42 (by decide) ?_
        exact x_iret cf hr hlk hP hS (by unfold rForge; rw [hno]; rfl) (by unfold mForge; rw [hno]; rfl) d_M_forge_43
      · skip
        have uh3 := i_nleN (by have := (show S 5 pj + 1 ≤ V from hI.c 5 pj); omega) h3
        refine lv_iload_n hx hb d_M_forge_26 rfl (lv_at hl 2 rfl) ?_
        refine lv_sipush (v := nI 9999) hx hb d_M_forge_27 (by decide) ?_
        refine lv_icmp_gt (tgt := 42) hx hb d_M_forge_30 (by decide) (fun h4 => ?_) (fun h4 => ?_)
        · skip
          have uh4 := i_gtN (by decide) h4
          have hno : rForgeOk S (nI pj) v set = false := by unfold rForgeOk; rw [decide_eq_false (p := v.toInt ≤ 9999) (by omega)]; simp
          refine lv_iconst (v := (-1)) hx hb d_M_forge_42 (by decide) ?_
          exact x_iret cf hr hlk hP hS (by unfold rForge; rw [hno]; rfl) (by unfold mForge; rw [hno]; rfl) d_M_forge_43
        · skip
          have uh4 := i_ngtN (by decide) h4
          refine lv_aload_n hx hb d_M_forge_33 rfl (lv_at hl 0 rfl) ?_
          refine x_getM (v := .int (nI (S 0 5))) cf hK hP 9 (by decide) w_470 rfl d_M_forge_34 ?_
          refine lv_bipush (v := nI 40) hx hb d_M_forge_37 (by decide) ?_
          refine n_icmp_lt (tgt := 44) hx hb d_M_forge_39 (by decide) (by omega) (by decide) (fun h5 => ?_) (fun h5 => ?_)
          · skip
            obtain ⟨vj, hvj, rfl, hvjt, hvjc⟩ := i_nat (x := v) (by omega)
            refine lv_aload_n hx hb d_M_forge_44 rfl (lv_at hl 0 rfl) ?_
            refine lv_iload_n hx hb d_M_forge_45 rfl (lv_at hl 2 rfl) ?_
            refine x_callVi (As := [.int (nI vj)]) (rest := []) cf hK hN hP hS (k_M_leader l hX hI vj (by omega)) (cw_M_leader cf.2.2.2.2 w_575 ⟨Nat.le_of_ble_eq_true rfl, Nat.le_of_ble_eq_true rfl⟩) (rv_M hK hP) hl.1 rfl rfl (Nat.le_of_ble_eq_true rfl) ⟨Nat.zero_le _, Nat.zero_le _⟩ d_M_forge_46 (fun H locs hP hS => ?_)
            have hle := mLeader_lt hI vj
            refine lv_istore (lv' := [(4, .int (nI (mLeader S vj))), (0, .ref (X.2.2.2 0)), (1, .int (nI pj)), (2, .int (nI vj)), (3, .int set)]) hx hb d_M_forge_49 hl (by decide) rfl (fun ls hl => ?_)
            refine lv_aload_n hx hb d_M_forge_51 rfl (lv_at hl 1 rfl) ?_
            refine lv_iload hx hb d_M_forge_52 (lv_at hl 0 rfl) ?_
            refine x_callVi (As := [.int (nI (mLeader S vj))]) (rest := []) cf hK hN hP hS (k_M_isCorrupt l hX hI (nI (mLeader S vj))) (cw_M_isCorrupt cf.2.2.2.2 w_611 ⟨Nat.le_of_ble_eq_true rfl, Nat.le_of_ble_eq_true rfl⟩) (rv_M hK hP) hl.1 rfl rfl (Nat.le_of_ble_eq_true rfl) ⟨Nat.zero_le _, Nat.zero_le _⟩ d_M_forge_54 (fun H locs hP hS => ?_)
            refine n_if_eq (tgt := 75) hx hb d_M_forge_57 (by decide) (tnat_lt _) (fun h6 => ?_) (fun h6 => ?_)
            · skip
              have hno : rForgeOk S (nI pj) (nI vj) set = false := by have q := tnat_0 h6; rw [mCorrupt_nI (by omega) hle] at q; unfold rForgeOk; rw [hvjc, q]; simp
              refine lv_iconst (v := (-1)) hx hb d_M_forge_75 (by decide) ?_
              exact x_iret cf hr hlk hP hS (by unfold rForge; rw [hno]; rfl) (by unfold mForge; rw [hno]; rfl) d_M_forge_76
            · skip
              have hcl := tnat_1 h6
              rw [mCorrupt_nI (by omega) hle] at hcl
              refine lv_iload_n hx hb d_M_forge_60 rfl (lv_at hl 4 rfl) ?_
              refine lv_iconst (v := nI 1) hx hb d_M_forge_61 (by decide) ?_
              refine lv_aload_n hx hb d_M_forge_62 rfl (lv_at hl 1 rfl) ?_
              refine x_getM (v := .int (nI (S 0 4))) cf hK hP 4 (by decide) w_465 rfl d_M_forge_63 ?_
              refine n_ishl hx hb (by omega) (by have : 2 ^ S 0 4 ≤ 2 ^ 24 := Nat.pow_le_pow_right (by decide) (by omega); omega) d_M_forge_66 ?_
              refine lv_iconst (v := nI 1) hx hb d_M_forge_67 (by decide) ?_
              have hp2 : 1 ≤ 2 ^ S 0 4 := Nat.one_le_two_pow
              refine n_isub hx hb (by omega) d_M_forge_68 ?_
              refine lv_iconst (v := (-1)) hx hb d_M_forge_69 (by decide) ?_
              refine lv_ixor hx hb d_M_forge_70 ?_
              refine lv_iand hx hb d_M_forge_71 ?_
              refine lv_if_eq (tgt := 77) hx hb d_M_forge_72 (by decide) (fun h7 => ?_) (fun h7 => ?_)
              · skip
                have uh7 := i_eq0 h7
                have hmk := (mask_iff (by omega)).mp h7
                have hyes : rForgeOk S (nI pj) (nI vj) set = true := by unfold rForgeOk; rw [hpjc, hvjc, tnat_1 (b := mBlock S (nI pj)) h1, tnat_1 (b := mCert S pj) h2, decide_eq_true (p := (S 5 pj : Int) < (nI vj).toInt) (by omega), decide_eq_true (p := (nI vj).toInt ≤ 9999) (by omega), decide_eq_true (p := S 0 5 < 40) (by omega), hcl, decide_eq_true hmk]; rfl
                obtain ⟨sj, hsj, rfl, hsjt, hsjc⟩ := i_nat (x := set) hmk.1
                refine lv_aload_n hx hb d_M_forge_77 rfl (lv_at hl 1 rfl) ?_
                refine lv_iload_n hx hb d_M_forge_78 rfl (lv_at hl 3 rfl) ?_
                refine lv_iload_n hx hb d_M_forge_79 rfl (lv_at hl 2 rfl) ?_
                refine lv_iload_n hx hb d_M_forge_80 rfl (lv_at hl 4 rfl) ?_
                refine x_callVi (As := [.int (nI vj), .int (nI pj), .int (nI sj)]) (rest := []) cf hK hN hP hS (k_M_newBlock l hX hI (by omega) vj pj sj) (cw_M_newBlock cf.2.2.2.2 w_587 ⟨Nat.le_of_ble_eq_true rfl, Nat.le_of_ble_eq_true rfl⟩) (rv_M hK hP) hl.1 rfl rfl (Nat.le_of_ble_eq_true rfl) ⟨Nat.zero_le _, Nat.zero_le _⟩ d_M_forge_81 (fun H locs hP hS => ?_)
                exact x_iret cf hr hlk hP hS (by unfold rForge; rw [hyes]; rfl) (by unfold mForge; rw [hyes, hvjc, hpjc, hsjc]; rfl) d_M_forge_84
              · skip
                have uh7 := i_ne0 h7
                have hno : rForgeOk S (nI pj) (nI vj) set = false := by unfold rForgeOk; rw [decide_eq_false (p := 0 ≤ set.toInt ∧ set.toInt < ((2 ^ S 0 4 : Nat) : Int)) (fun q => h7 ((mask_iff (by omega)).mpr q))]; simp
                refine lv_iconst (v := (-1)) hx hb d_M_forge_75 (by decide) ?_
                exact x_iret cf hr hlk hP hS (by unfold rForge; rw [hno]; rfl) (by unfold mForge; rw [hno]; rfl) d_M_forge_76
          · skip
            have hno : rForgeOk S (nI pj) v set = false := by unfold rForgeOk; rw [decide_eq_false (p := S 0 5 < 40) (by omega)]; simp
            refine lv_iconst (v := (-1)) hx hb d_M_forge_42 (by decide) ?_
            exact x_iret cf hr hlk hP hS (by unfold rForge; rw [hno]; rfl) (by unfold mForge; rw [hno]; rfl) d_M_forge_43
end
section
theorem mUsed_snd {S : Nat → Nat → Nat} {V : Nat} (hI : IW V S) {x : Nat} (hx : x < 40) : ∀ k, (itr (mUsedF S) 0 (0, x) k).1 < 16777216 ∧ (itr (mUsedF S) 0 (0, x) k).2 < 40
  | 0 => ⟨show 0 < 16777216 by decide, hx⟩
  | k + 1 => by
    obtain ⟨h1, h2⟩ := mUsed_snd hI hx k
    rw [itr_s]
    generalize itr (mUsedF S) 0 (0, x) k = q at h1 h2 ⊢
    exact ⟨Nat.or_lt_two_pow (n := 24) h1 (show S 7 q.2 < 16777216 from hI.c 7 _), (show S 6 q.2 < 40 from hI.c 6 _)⟩
theorem mPick_lt {S : Nat → Nat → Nat} {r used : Nat} : ∀ k, k ≤ 24 → (itr (mPickF S r used) 0 (0, 0) k).1 < 16777216 ∧ (itr (mPickF S r used) 0 (0, 0) k).2 ≤ 2
  | 0, _ => ⟨show 0 < 16777216 by decide, show 0 ≤ 2 by decide⟩
  | k + 1, hk => by
    obtain ⟨h1, h2⟩ := mPick_lt (S := S) (r := r) (used := used) k (by omega)
    rw [itr_z]
    generalize itr (mPickF S r used) 0 (0, 0) k = q at h1 h2 ⊢
    unfold mPickF
    split
    · rename_i hc
      exact ⟨Nat.or_lt_two_pow (n := 24) h1 (p2_24 k (by omega)), by have := hc.1; show q.2 + 1 ≤ 2; omega⟩
    · exact ⟨h1, h2⟩
theorem mPick_stop {S : Nat → Nat → Nat} {r used t : Nat} (h : (itr (mPickF S r used) 0 (0, 0) t).2 = 2) : ∀ k, itr (mPickF S r used) 0 (0, 0) (t + k) = itr (mPickF S r used) 0 (0, 0) t
  | 0 => rfl
  | k + 1 => by
    rw [← Nat.add_assoc, itr_s, mPick_stop h k]
    unfold mPickF
    rw [if_neg (by
      intro q
      have := q.1
      have h' := h
      unfold mPickF at h'
      omega)]
def rLead (S : Nat → Nat → Nat) (r : Int32) : Int32 := if mLeadOk S r = true then nI (S 0 5) else -1
theorem IW.lead1 {V : Nat} {S : Nat → Nat → Nat} {r : Nat} (h : IW V S) (hV : V + 1 ≤ 20000) (hb : S 0 5 < 40) : IW (V + 1) (mLead1 S r) := by
  have hJ := h.mono (show V ≤ V + 1 by omega) hV
  have h14 := (show S 14 r ≤ V ∧ _ from h.c 14 r).1
  have hh := mHigh_lt h r
  have ht := h.t
  refine (hJ.newBlock hb (by omega) (by omega) (mPick_lt _ (by omega)).1).up (k := 18) (by decide) ?_
  show S 14 r ≤ V + 1
  omega
theorem IW.leads {V b : Nat} {S : Nat → Nat → Nat} (h : IW V S) (hb : b < S 0 5) : ∀ k, k ≤ S 0 1 → IW V (itr (fun q Z => mSend Z 0 0 q b 0) 0 S k) ∧ itr (fun q Z => mSend Z 0 0 q b 0) 0 S k 0 1 = S 0 1 ∧ itr (fun q Z => mSend Z 0 0 q b 0) 0 S k 0 5 = S 0 5
  | 0, _ => ⟨h, rfl, rfl⟩
  | k + 1, hk => by
    obtain ⟨h1, h2, h3⟩ := IW.leads h hb k (by omega)
    have hn := h.n
    rw [itr_z]
    generalize itr (fun q Z => mSend Z 0 0 q b 0) 0 S k = Z at h1 h2 h3 ⊢
    refine ⟨h1.send (by decide) (by omega) (by omega) (by omega) (by decide), ?_, ?_⟩
    · show mSend Z 0 0 k b 0 0 1 = S 0 1
      unfold mSend
      split <;> simp [up2_at, h2]
    · show mSend Z 0 0 k b 0 0 5 = S 0 5
      unfold mSend
      split <;> simp [up2_at, h3]
set_option maxRecDepth 100000 in
set_option maxHeartbeats 4000000 in
theorem k_M_lead (l : Launch) {X : WX} (hX : xInj X) {S : Nat → Nat → Nat} {V : Nat} (hI : IW V S) (hV1 : V + 1 ≤ 20000) (r : Int32) : MetI l X y_M_lead (Cond.code y_M_lead c_M_lead 11 (some .int) :: Mst) 2 [.ref (X.2.2.2 0), .int r] S (rLead S r) (mLead S r) := by
  refine MetI.of (by decide) (Nat.le_of_ble_eq_true rfl) ?_
  intro p e s m args below meth c cf hr hlk hP hK hN ls hl
  have hl : lv_has ls 11 [(0, .ref (X.2.2.2 0)), (1, .int r)] := hl
  have hx := cf.1
  have hb := cf.2.1
  have hD := xD_of hX
  have hS : va_S (xA X) s.heap s.heap [] := va_S.rf
  have hf := hI.f
  have hn := hI.n
  have hk := hI.k
  have hcs := hI.cs
  have ht := hI.t
  have hbl := hI.b
  have hm := hI.m
  have hV := hI.V
  obtain ⟨H, hH⟩ : ∃ H, H = s.heap := ⟨_, rfl⟩
  obtain ⟨locs, hlo⟩ : ∃ z : List Loc, z = [] := ⟨_, rfl⟩
  suffices hgo : PW X S H → va_S (xA X) s.heap H locs → W p l e (rmd 2) s m args below meth c H locs 0 0 (MQ below (QcI X (rLead S r) (mLead S r)) args s 0 0 (xA X)) (F0 m 0 ls []) by
    subst hH
    subst hlo
    exact hgo hP hS
  clear hP hS
  intro hP hS
  refine lv_aload_n hx hb d_M_lead_0 rfl (lv_at hl 0 rfl) ?_
  refine lv_iload_n hx hb d_M_lead_1 rfl (lv_at hl 1 rfl) ?_
  refine x_callVi (As := [.int r]) (rest := []) cf hK hN hP hS (k_M_isCorrect l hX hI r) (cw_M_isCorrect cf.2.2.2.2 w_567 ⟨Nat.le_of_ble_eq_true rfl, Nat.le_of_ble_eq_true rfl⟩) (rv_M hK hP) hl.1 rfl rfl (Nat.le_of_ble_eq_true rfl) ⟨Nat.zero_le _, Nat.zero_le _⟩ d_M_lead_2 (fun H locs hP hS => ?_)
  refine n_if_eq (tgt := 46) hx hb d_M_lead_5 (by decide) (tnat_lt _) (fun h1 => ?_) (fun h1 => ?_)
  · skip
    have hno : mLeadOk S r = false := by unfold mLeadOk; rw [tnat_0 (b := mCorrect S r) h1]; simp
    refine lv_iconst (v := (-1)) hx hb d_M_lead_46 (by decide) ?_
    exact x_iret cf hr hlk hP hS (by unfold rLead; rw [hno]; rfl) (by unfold mLead; rw [hno]; rfl) d_M_lead_47
  · skip
    have hcor := tnat_1 h1
    obtain ⟨j, hj, rfl, hjb⟩ := mCorrect_ex (by omega) hcor
    have hjc := nI_clamp (show j < 2 ^ 31 by omega)
    refine lv_aload_n hx hb d_M_lead_8 rfl (lv_at hl 0 rfl) ?_
    refine lv_aload_n hx hb d_M_lead_9 rfl (lv_at hl 0 rfl) ?_
    refine x_getM (v := .ref (X.2.2.2 14)) cf hK hP 21 (by decide) w_482 rfl d_M_lead_10 ?_
    refine lv_iload_n hx hb d_M_lead_13 rfl (lv_at hl 1 rfl) ?_
    refine x_iald (v := (S 14 j)) cf hK hP (ia14 X) (by omega) rfl d_M_lead_14 ?_
    refine x_callVi (As := [.int (nI (S 14 j))]) (rest := []) cf hK hN hP hS (k_M_leader l hX hI (S 14 j) (by have := (show S 14 j ≤ V ∧ (j < S 0 1 → 1 ≤ S 14 j) from hI.c 14 j); omega)) (cw_M_leader cf.2.2.2.2 w_575 ⟨Nat.le_of_ble_eq_true rfl, Nat.le_of_ble_eq_true rfl⟩) (rv_M hK hP) hl.1 rfl rfl (Nat.le_of_ble_eq_true rfl) ⟨Nat.zero_le _, Nat.zero_le _⟩ d_M_lead_15 (fun H locs hP hS => ?_)
    have hle := mLeader_lt hI (S 14 j)
    refine lv_iload_n hx hb d_M_lead_18 rfl (lv_at hl 1 rfl) ?_
    refine n_icmp_ne (tgt := 46) hx hb d_M_lead_19 (by decide) (by omega) (by omega) (fun h2 => ?_) (fun h2 => ?_)
    · skip
      have hno : mLeadOk S (nI j) = false := by unfold mLeadOk; rw [hjc, decide_eq_false (p := mLeader S (S 14 j) = j) (by omega)]; simp
      refine lv_iconst (v := (-1)) hx hb d_M_lead_46 (by decide) ?_
      exact x_iret cf hr hlk hP hS (by unfold rLead; rw [hno]; rfl) (by unfold mLead; rw [hno]; rfl) d_M_lead_47
    · skip
      refine lv_aload_n hx hb d_M_lead_22 rfl (lv_at hl 0 rfl) ?_
      refine x_getM (v := .ref (X.2.2.2 18)) cf hK hP 25 (by decide) w_486 rfl d_M_lead_23 ?_
      refine lv_iload_n hx hb d_M_lead_26 rfl (lv_at hl 1 rfl) ?_
      refine x_iald (v := (S 18 j)) cf hK hP (ia18 X) (by omega) rfl d_M_lead_27 ?_
      refine lv_aload_n hx hb d_M_lead_28 rfl (lv_at hl 0 rfl) ?_
      refine x_getM (v := .ref (X.2.2.2 14)) cf hK hP 21 (by decide) w_482 rfl d_M_lead_29 ?_
      refine lv_iload_n hx hb d_M_lead_32 rfl (lv_at hl 1 rfl) ?_
      refine x_iald (v := (S 14 j)) cf hK hP (ia14 X) (by omega) rfl d_M_lead_33 ?_
      refine n_icmp_eq (tgt := 46) hx hb d_M_lead_34 (by decide) (by have := (show S 18 j ≤ V from hI.c 18 j); omega) (by have := (show S 14 j ≤ V ∧ (j < S 0 1 → 1 ≤ S 14 j) from hI.c 14 j); omega) (fun h3 => ?_) (fun h3 => ?_)
      · skip
        have hno : mLeadOk S (nI j) = false := by unfold mLeadOk; rw [hjc, decide_eq_true (p := S 18 j = S 14 j) (by omega)]; simp
        refine lv_iconst (v := (-1)) hx hb d_M_lead_46 (by decide) ?_
        exact x_iret cf hr hlk hP hS (by unfold rLead; rw [hno]; rfl) (by unfold mLead; rw [hno]; rfl) d_M_lead_47
      · skip
        refine lv_aload_n hx hb d_M_lead_37 rfl (lv_at hl 0 rfl) ?_
        refine x_getM (v := .int (nI (S 0 5))) cf hK hP 9 (by decide) w_470 rfl d_M_lead_38 ?_
        refine lv_bipush (v := nI 40) hx hb d_M_lead_41 (by decide) ?_
        refine n_icmp_lt (tgt := 48) hx hb d_M_lead_43 (by decide) (by omega) (by decide) (fun h4 => ?_) (fun h4 => ?_)
        · skip
          refine lv_aload_n hx hb d_M_lead_48 rfl (lv_at hl 0 rfl) ?_
          refine x_getM (v := .ref (X.2.2.2 14)) cf hK hP 21 (by decide) w_482 rfl d_M_lead_49 ?_
          refine lv_iload_n hx hb d_M_lead_52 rfl (lv_at hl 1 rfl) ?_
          refine x_iald (v := (S 14 j)) cf hK hP (ia14 X) (by omega) rfl d_M_lead_53 ?_
          refine lv_istore_n (lv' := [(2, .int (nI (S 14 j))), (0, .ref (X.2.2.2 0)), (1, .int (nI j))]) hx hb d_M_lead_54 rfl hl (by decide) rfl (fun ls hl => ?_)
          refine lv_aload_n hx hb d_M_lead_55 rfl (lv_at hl 1 rfl) ?_
          refine lv_iload_n hx hb d_M_lead_56 rfl (lv_at hl 2 rfl) ?_
          refine x_callVi (As := [.int (nI j)]) (rest := []) cf hK hN hP hS (k_M_high l hX hI (by omega)) (cw_M_high cf.2.2.2.2 w_579 ⟨Nat.le_of_ble_eq_true rfl, Nat.le_of_ble_eq_true rfl⟩) (rv_M hK hP) hl.1 rfl rfl (Nat.le_of_ble_eq_true rfl) ⟨Nat.zero_le _, Nat.zero_le _⟩ d_M_lead_57 (fun H locs hP hS => ?_)
          have hhi := mHigh_lt hI j
          refine lv_istore_n (lv' := [(3, .int (nI (mHigh S j))), (2, .int (nI (S 14 j))), (0, .ref (X.2.2.2 0)), (1, .int (nI j))]) hx hb d_M_lead_60 rfl hl (by decide) rfl (fun ls hl => ?_)
          refine lv_aload_n hx hb d_M_lead_61 rfl (lv_at hl 2 rfl) ?_
          refine lv_iload_n hx hb d_M_lead_62 rfl (lv_at hl 3 rfl) ?_
          refine x_callVi (As := [.int (nI j)]) (rest := []) cf hK hN hP hS (k_M_push l hX hI (by omega)) (cw_M_push cf.2.2.2.2 w_583 ⟨Nat.le_of_ble_eq_true rfl, Nat.le_of_ble_eq_true rfl⟩) (rv_M hK hP) hl.1 rfl rfl (Nat.le_of_ble_eq_true rfl) ⟨Nat.zero_le _, Nat.zero_le _⟩ d_M_lead_63 (fun H locs hP hS => ?_)
          have hpu := mPush_lt hI j
          refine lv_istore (lv' := [(4, .int (nI (mPush S j))), (3, .int (nI (mHigh S j))), (2, .int (nI (S 14 j))), (0, .ref (X.2.2.2 0)), (1, .int (nI j))]) hx hb d_M_lead_66 hl (by decide) rfl (fun ls hl => ?_)
          have cut93 : ∀ (ls : Array Slot) (H : Heap) (locs : List Loc), lv_has ls 11 [(0, .ref (X.2.2.2 0)), (1, .int (nI j)), (2, .int (nI (S 14 j))), (3, .int (nI (mHigh S j)))] → PW X S H → va_S (xA X) s.heap H locs → (mLeadOk S (nI j) = true) → W p l e (rmd 2) s m args below meth c H locs 0 0 (MQ below (QcI X (rLead S (nI j)) (mLead S (nI j))) args s 0 0 (xA X)) (F0 m 93 ls []) := by
            intro ls H locs hl hP hS hok
            refine lv_iconst (v := nI 0) hx hb d_M_lead_93 (by decide) ?_
            refine lv_istore (lv' := [(5, .int (nI 0)), (0, .ref (X.2.2.2 0)), (1, .int (nI j)), (2, .int (nI (S 14 j))), (3, .int (nI (mHigh S j)))]) hx hb d_M_lead_94 hl (by decide) rfl (fun ls hl => ?_)
            refine lv_iload_n hx hb d_M_lead_96 rfl (lv_at hl 4 rfl) ?_
            refine lv_istore (lv' := [(6, .int (nI (mHigh S j))), (5, .int (nI 0)), (0, .ref (X.2.2.2 0)), (1, .int (nI j)), (2, .int (nI (S 14 j))), (3, .int (nI (mHigh S j)))]) hx hb d_M_lead_97 hl (by decide) rfl (fun ls hl => ?_)
            refine lv_iconst (v := nI 0) hx hb d_M_lead_99 (by decide) ?_
            refine lv_istore (lv' := [(7, .int (nI 0)), (6, .int (nI (mHigh S j))), (5, .int (nI 0)), (0, .ref (X.2.2.2 0)), (1, .int (nI j)), (2, .int (nI (S 14 j))), (3, .int (nI (mHigh S j)))]) hx hb d_M_lead_100 hl (by decide) rfl (fun ls hl => ?_)
            have lp102 : ∀ (dm : Nat) (us : Nat) (x : Nat) (i : Nat) (ls : Array Slot) (H : Heap) (locs : List Loc), lv_has ls 11 [(0, .ref (X.2.2.2 0)), (1, .int (nI j)), (2, .int (nI (S 14 j))), (3, .int (nI (mHigh S j))), (5, .int (nI us)), (6, .int (nI x)), (7, .int (nI i))] → PW X S H → va_S (xA X) s.heap H locs → (i ≤ 40) → (itr (mUsedF S) 0 (0, mHigh S j) i = (us, x)) → (40 - i = dm) → W p l e (rmd 2) s m args below meth c H locs 0 0 (MQ below (QcI X (rLead S (nI j)) (mLead S (nI j))) args s 0 0 (xA X)) (F0 m 102 ls []) := by
              intro dm
              induction dm using Nat.strongRecOn with | ind dm lp102 => ?_
              intro us x i ls H locs hl hP hS hi hz hdm
              have hus := mUsed_snd hI (show mHigh S j < 40 by omega) i
              rw [hz] at hus
              have hus1 : us < 16777216 := hus.1
              have hx40 : x < 40 := hus.2
              refine lv_iload hx hb d_M_lead_102 (lv_at hl 6 rfl) ?_
              refine lv_bipush (v := nI 40) hx hb d_M_lead_104 (by decide) ?_
              refine n_icmp_ge (tgt := 136) hx hb d_M_lead_106 (by decide) (by omega) (by decide) (fun h5 => ?_) (fun h5 => ?_)
              · skip
                refine lv_iconst (v := nI 0) hx hb d_M_lead_136 (by decide) ?_
                refine lv_istore (lv' := [(7, .int (nI 0)), (0, .ref (X.2.2.2 0)), (1, .int (nI j)), (2, .int (nI (S 14 j))), (3, .int (nI (mHigh S j))), (5, .int (nI us)), (6, .int (nI x))]) hx hb d_M_lead_137 hl (by decide) rfl (fun ls hl => ?_)
                refine lv_iconst (v := nI 0) hx hb d_M_lead_139 (by decide) ?_
                refine lv_istore (lv' := [(8, .int (nI 0)), (7, .int (nI 0)), (0, .ref (X.2.2.2 0)), (1, .int (nI j)), (2, .int (nI (S 14 j))), (3, .int (nI (mHigh S j))), (5, .int (nI us)), (6, .int (nI x))]) hx hb d_M_lead_140 hl (by decide) rfl (fun ls hl => ?_)
                refine lv_iconst (v := nI 0) hx hb d_M_lead_142 (by decide) ?_
                refine lv_istore (lv' := [(9, .int (nI 0)), (8, .int (nI 0)), (7, .int (nI 0)), (0, .ref (X.2.2.2 0)), (1, .int (nI j)), (2, .int (nI (S 14 j))), (3, .int (nI (mHigh S j))), (5, .int (nI us)), (6, .int (nI x))]) hx hb d_M_lead_143 hl (by decide) rfl (fun ls hl => ?_)
                have lp145 : ∀ (dm : Nat) (set : Nat) (many : Nat) (t : Nat) (ls : Array Slot) (H : Heap) (locs : List Loc), lv_has ls 11 [(0, .ref (X.2.2.2 0)), (1, .int (nI j)), (2, .int (nI (S 14 j))), (3, .int (nI (mHigh S j))), (5, .int (nI us)), (7, .int (nI set)), (8, .int (nI many)), (9, .int (nI t))] → PW X S H → va_S (xA X) s.heap H locs → (t ≤ S 0 4) → (itr (mPickF S j us) 0 (0, 0) t = (set, many)) → (S 0 4 - t = dm) → W p l e (rmd 2) s m args below meth c H locs 0 0 (MQ below (QcI X (rLead S (nI j)) (mLead S (nI j))) args s 0 0 (xA X)) (F0 m 145 ls []) := by
                  intro dm
                  induction dm using Nat.strongRecOn with | ind dm lp145 => ?_
                  intro set many t ls H locs hl hP hS ht4 hzp hdm
                  have hpk := mPick_lt (S := S) (r := j) (used := us) t (by omega)
                  rw [hzp] at hpk
                  have hset : set < 16777216 := hpk.1
                  have hmany : many ≤ 2 := hpk.2
                  have hh1 := (show S 1 t < 128 from hI.c 1 t)
                  refine lv_iload hx hb d_M_lead_145 (lv_at hl 7 rfl) ?_
                  refine lv_aload_n hx hb d_M_lead_147 rfl (lv_at hl 0 rfl) ?_
                  refine x_getM (v := .int (nI (S 0 4))) cf hK hP 4 (by decide) w_465 rfl d_M_lead_148 ?_
                  refine n_icmp_ge (tgt := 203) hx hb d_M_lead_151 (by decide) (by omega) (by omega) (fun h6 => ?_) (fun h6 => ?_)
                  · skip
                    have hset2 : set = mPick S j (mUsed S (mHigh S j)) := by have hus2 : us = mUsed S (mHigh S j) := (by unfold mUsed; rw [← show i = 40 by omega, hz]); unfold mPick; rw [← hus2]; first | (rw [← show t = S 0 4 by omega, hzp]; done) | (rw [show S 0 4 = t + (S 0 4 - t) by omega, mPick_stop (by rw [hzp]; show many = 2; omega), hzp]; done)
                    refine lv_aload_n hx hb d_M_lead_203 rfl (lv_at hl 0 rfl) ?_
                    refine lv_iload_n hx hb d_M_lead_204 rfl (lv_at hl 2 rfl) ?_
                    refine lv_iload_n hx hb d_M_lead_205 rfl (lv_at hl 3 rfl) ?_
                    refine lv_iload hx hb d_M_lead_206 (lv_at hl 5 rfl) ?_
                    refine x_callVi (As := [.int (nI (S 14 j)), .int (nI (mHigh S j)), .int (nI set)]) (rest := []) cf hK hN hP hS (k_M_newBlock l hX hI (by omega) (S 14 j) (mHigh S j) set) (cw_M_newBlock cf.2.2.2.2 w_587 ⟨Nat.le_of_ble_eq_true rfl, Nat.le_of_ble_eq_true rfl⟩) (rv_M hK hP) hl.1 rfl rfl (Nat.le_of_ble_eq_true rfl) ⟨Nat.zero_le _, Nat.zero_le _⟩ d_M_lead_208 (fun H locs hP hS => ?_)
                    refine lv_istore (lv' := [(9, .int (nI (S 0 5))), (0, .ref (X.2.2.2 0)), (1, .int (nI j)), (2, .int (nI (S 14 j))), (3, .int (nI (mHigh S j))), (5, .int (nI us)), (7, .int (nI set)), (8, .int (nI many))]) hx hb d_M_lead_211 hl (by decide) rfl (fun ls hl => ?_)
                    refine lv_aload_n hx hb d_M_lead_213 rfl (lv_at hl 1 rfl) ?_
                    refine x_getM (v := .ref (X.2.2.2 18)) cf hK hP 25 (by decide) w_486 rfl d_M_lead_214 ?_
                    refine lv_iload_n hx hb d_M_lead_217 rfl (lv_at hl 2 rfl) ?_
                    refine lv_iload_n hx hb d_M_lead_218 rfl (lv_at hl 3 rfl) ?_
                    refine x_iast cf hK hD hP hS (ia18 X) (by omega) d_M_lead_219 (fun H locs hP hS => ?_)
                    have hL1 := hI.lead1 (r := j) hV1 (by omega)
                    have hT1e : (up2 (mNewBlock S (S 14 j) (mHigh S j) set) 18 j (S 14 j)) = itr (fun q Z => mSend Z 0 0 q (S 0 5) 0) 0 (mLead1 S j) 0 := by rw [hset2]; rfl
                    rw [hT1e] at hP
                    refine lv_iconst (v := nI 0) hx hb d_M_lead_220 (by decide) ?_
                    refine lv_istore (lv' := [(10, .int (nI 0)), (9, .int (nI (S 0 5))), (0, .ref (X.2.2.2 0)), (1, .int (nI j)), (2, .int (nI (S 14 j))), (3, .int (nI (mHigh S j))), (5, .int (nI us)), (7, .int (nI set)), (8, .int (nI many))]) hx hb d_M_lead_221 hl (by decide) rfl (fun ls hl => ?_)
                    have lp223 : ∀ (dm : Nat) (q : Nat) (Z : Nat → Nat → Nat) (ls : Array Slot) (H : Heap) (locs : List Loc), lv_has ls 11 [(0, .ref (X.2.2.2 0)), (1, .int (nI j)), (9, .int (nI (S 0 5))), (10, .int (nI q))] → PW X Z H → va_S (xA X) s.heap H locs → (q ≤ S 0 1) → (IW (V + 1) Z) → (Z 0 1 = S 0 1) → (Z = itr (fun q Z => mSend Z 0 0 q (S 0 5) 0) 0 (mLead1 S j) q) → (S 0 1 - q = dm) → W p l e (rmd 2) s m args below meth c H locs 0 0 (MQ below (QcI X (rLead S (nI j)) (mLead S (nI j))) args s 0 0 (xA X)) (F0 m 223 ls []) := by
                      intro dm
                      induction dm using Nat.strongRecOn with | ind dm lp223 => ?_
                      intro q Z ls H locs hl hP hS hq hIZ hZ1 hZz hdm
                      refine lv_iload hx hb d_M_lead_223 (lv_at hl 3 rfl) ?_
                      refine lv_aload_n hx hb d_M_lead_225 rfl (lv_at hl 0 rfl) ?_
                      refine x_getM (v := .int (nI (Z 0 1))) cf hK hP 1 (by decide) w_462 rfl d_M_lead_226 ?_
                      refine n_icmp_ge (tgt := 249) hx hb d_M_lead_229 (by decide) (by omega) (by omega) (fun h7 => ?_) (fun h7 => ?_)
                      · skip
                        refine lv_iload hx hb d_M_lead_249 (lv_at hl 2 rfl) ?_
                        exact x_iret cf hr hlk hP hS (by unfold rLead; rw [hok]; rfl) (by unfold mLead; rw [hok, hjc, hZz, show q = S 0 1 by omega]; rfl) d_M_lead_251
                      · skip
                        refine lv_aload_n hx hb d_M_lead_232 rfl (lv_at hl 0 rfl) ?_
                        refine lv_iconst (v := nI 0) hx hb d_M_lead_233 (by decide) ?_
                        refine lv_iconst (v := nI 0) hx hb d_M_lead_234 (by decide) ?_
                        refine lv_iload hx hb d_M_lead_235 (lv_at hl 3 rfl) ?_
                        refine lv_iload hx hb d_M_lead_237 (lv_at hl 2 rfl) ?_
                        refine lv_iconst (v := nI 0) hx hb d_M_lead_239 (by decide) ?_
                        refine x_callVv (As := [.int (nI 0), .int (nI 0), .int (nI q), .int (nI (S 0 5)), .int (nI 0)]) (rest := []) cf hK hN hP hS (k_M_send l hX hIZ 0 0 q (S 0 5) 0) (cw_M_send cf.2.2.2.2 w_591 ⟨Nat.le_of_ble_eq_true rfl, Nat.le_of_ble_eq_true rfl⟩) (rv_M hK hP) hl.1 rfl rfl (Nat.le_of_ble_eq_true rfl) ⟨Nat.zero_le _, Nat.zero_le _⟩ d_M_lead_240 (fun H locs hP hS => ?_)
                        refine n_iinc1 (lv' := [(10, .int (nI (q + 1))), (0, .ref (X.2.2.2 0)), (1, .int (nI j)), (9, .int (nI (S 0 5)))]) (k := 3) hx hb d_M_lead_243 hl rfl (by decide) rfl (fun ls hl => ?_)
                        refine lv_goto (tgt := 223) hx hb d_M_lead_246 (by decide) ?_
                        have hIZ2 : IW (V + 1) (mSend Z 0 0 q (S 0 5) 0) := by have := (IW.leads hL1 (b := S 0 5) (show S 0 5 < S 0 5 + 1 by omega) (q + 1) (show q + 1 ≤ S 0 1 by omega)).1; rw [itr_z, ← hZz] at this; exact this
                        have hZ12 : (mSend Z 0 0 q (S 0 5) 0) 0 1 = S 0 1 := by have := (IW.leads hL1 (b := S 0 5) (show S 0 5 < S 0 5 + 1 by omega) (q + 1) (show q + 1 ≤ S 0 1 by omega)).2.1; rw [itr_z, ← hZz] at this; exact this
                        exact lp223 _ (by omega) (q + 1) (mSend Z 0 0 q (S 0 5) 0) ls H locs (lv_sub hl [1, 2, 3, 0] rfl) hP hS (by omega) (hIZ2) (hZ12) (by rw [itr_z, ← hZz]) rfl
                    exact lp223 _ 0 (itr (fun q Z => mSend Z 0 0 q (S 0 5) 0) 0 (mLead1 S j) 0) ls H locs (lv_sub hl [2, 3, 1, 0] rfl) hP hS (by omega) (hL1) (rfl) (rfl) rfl
                  · skip
                    refine lv_iload hx hb d_M_lead_154 (lv_at hl 6 rfl) ?_
                    refine lv_iconst (v := nI 2) hx hb d_M_lead_156 (by decide) ?_
                    refine n_icmp_ge (tgt := 203) hx hb d_M_lead_157 (by decide) (by omega) (by decide) (fun h8 => ?_) (fun h8 => ?_)
                    · skip
                      have hset2 : set = mPick S j (mUsed S (mHigh S j)) := by have hus2 : us = mUsed S (mHigh S j) := (by unfold mUsed; rw [← show i = 40 by omega, hz]); unfold mPick; rw [← hus2]; first | (rw [← show t = S 0 4 by omega, hzp]; done) | (rw [show S 0 4 = t + (S 0 4 - t) by omega, mPick_stop (by rw [hzp]; show many = 2; omega), hzp]; done)
                      refine lv_aload_n hx hb d_M_lead_203 rfl (lv_at hl 0 rfl) ?_
                      refine lv_iload_n hx hb d_M_lead_204 rfl (lv_at hl 2 rfl) ?_
                      refine lv_iload_n hx hb d_M_lead_205 rfl (lv_at hl 3 rfl) ?_
                      refine lv_iload hx hb d_M_lead_206 (lv_at hl 5 rfl) ?_
                      refine x_callVi (As := [.int (nI (S 14 j)), .int (nI (mHigh S j)), .int (nI set)]) (rest := []) cf hK hN hP hS (k_M_newBlock l hX hI (by omega) (S 14 j) (mHigh S j) set) (cw_M_newBlock cf.2.2.2.2 w_587 ⟨Nat.le_of_ble_eq_true rfl, Nat.le_of_ble_eq_true rfl⟩) (rv_M hK hP) hl.1 rfl rfl (Nat.le_of_ble_eq_true rfl) ⟨Nat.zero_le _, Nat.zero_le _⟩ d_M_lead_208 (fun H locs hP hS => ?_)
                      refine lv_istore (lv' := [(9, .int (nI (S 0 5))), (0, .ref (X.2.2.2 0)), (1, .int (nI j)), (2, .int (nI (S 14 j))), (3, .int (nI (mHigh S j))), (5, .int (nI us)), (7, .int (nI set)), (8, .int (nI many))]) hx hb d_M_lead_211 hl (by decide) rfl (fun ls hl => ?_)
                      refine lv_aload_n hx hb d_M_lead_213 rfl (lv_at hl 1 rfl) ?_
                      refine x_getM (v := .ref (X.2.2.2 18)) cf hK hP 25 (by decide) w_486 rfl d_M_lead_214 ?_
                      refine lv_iload_n hx hb d_M_lead_217 rfl (lv_at hl 2 rfl) ?_
                      refine lv_iload_n hx hb d_M_lead_218 rfl (lv_at hl 3 rfl) ?_
                      refine x_iast cf hK hD hP hS (ia18 X) (by omega) d_M_lead_219 (fun H locs hP hS => ?_)
                      have hL1 := hI.lead1 (r := j) hV1 (by omega)
                      have hT1e : (up2 (mNewBlock S (S 14 j) (mHigh S j) set) 18 j (S 14 j)) = itr (fun q Z => mSend Z 0 0 q (S 0 5) 0) 0 (mLead1 S j) 0 := by rw [hset2]; rfl
                      rw [hT1e] at hP
                      refine lv_iconst (v := nI 0) hx hb d_M_lead_220 (by decide) ?_
                      refine lv_istore (lv' := [(10, .int (nI 0)), (9, .int (nI (S 0 5))), (0, .ref (X.2.2.2 0)), (1, .int (nI j)), (2, .int (nI (S 14 j))), (3, .int (nI (mHigh S j))), (5, .int (nI us)), (7, .int (nI set)), (8, .int (nI many))]) hx hb d_M_lead_221 hl (by decide) rfl (fun ls hl => ?_)
                      have lp223 : ∀ (dm : Nat) (q : Nat) (Z : Nat → Nat → Nat) (ls : Array Slot) (H : Heap) (locs : List Loc), lv_has ls 11 [(0, .ref (X.2.2.2 0)), (1, .int (nI j)), (9, .int (nI (S 0 5))), (10, .int (nI q))] → PW X Z H → va_S (xA X) s.heap H locs → (q ≤ S 0 1) → (IW (V + 1) Z) → (Z 0 1 = S 0 1) → (Z = itr (fun q Z => mSend Z 0 0 q (S 0 5) 0) 0 (mLead1 S j) q) → (S 0 1 - q = dm) → W p l e (rmd 2) s m args below meth c H locs 0 0 (MQ below (QcI X (rLead S (nI j)) (mLead S (nI j))) args s 0 0 (xA X)) (F0 m 223 ls []) := by
                        intro dm
                        induction dm using Nat.strongRecOn with | ind dm lp223 => ?_
                        intro q Z ls H locs hl hP hS hq hIZ hZ1 hZz hdm
                        refine lv_iload hx hb d_M_lead_223 (lv_at hl 3 rfl) ?_
                        refine lv_aload_n hx hb d_M_lead_225 rfl (lv_at hl 0 rfl) ?_
                        refine x_getM (v := .int (nI (Z 0 1))) cf hK hP 1 (by decide) w_462 rfl d_M_lead_226 ?_
                        refine n_icmp_ge (tgt := 249) hx hb d_M_lead_229 (by decide) (by omega) (by omega) (fun h9 => ?_) (fun h9 => ?_)
                        · skip
                          refine lv_iload hx hb d_M_lead_249 (lv_at hl 2 rfl) ?_
                          exact x_iret cf hr hlk hP hS (by unfold rLead; rw [hok]; rfl) (by unfold mLead; rw [hok, hjc, hZz, show q = S 0 1 by omega]; rfl) d_M_lead_251
                        · skip
                          refine lv_aload_n hx hb d_M_lead_232 rfl (lv_at hl 0 rfl) ?_
                          refine lv_iconst (v := nI 0) hx hb d_M_lead_233 (by decide) ?_
                          refine lv_iconst (v := nI 0) hx hb d_M_lead_234 (by decide) ?_
                          refine lv_iload hx hb d_M_lead_235 (lv_at hl 3 rfl) ?_
                          refine lv_iload hx hb d_M_lead_237 (lv_at hl 2 rfl) ?_
                          refine lv_iconst (v := nI 0) hx hb d_M_lead_239 (by decide) ?_
                          refine x_callVv (As := [.int (nI 0), .int (nI 0), .int (nI q), .int (nI (S 0 5)), .int (nI 0)]) (rest := []) cf hK hN hP hS (k_M_send l hX hIZ 0 0 q (S 0 5) 0) (cw_M_send cf.2.2.2.2 w_591 ⟨Nat.le_of_ble_eq_true rfl, Nat.le_of_ble_eq_true rfl⟩) (rv_M hK hP) hl.1 rfl rfl (Nat.le_of_ble_eq_true rfl) ⟨Nat.zero_le _, Nat.zero_le _⟩ d_M_lead_240 (fun H locs hP hS => ?_)
                          refine n_iinc1 (lv' := [(10, .int (nI (q + 1))), (0, .ref (X.2.2.2 0)), (1, .int (nI j)), (9, .int (nI (S 0 5)))]) (k := 3) hx hb d_M_lead_243 hl rfl (by decide) rfl (fun ls hl => ?_)
                          refine lv_goto (tgt := 223) hx hb d_M_lead_246 (by decide) ?_
                          have hIZ2 : IW (V + 1) (mSend Z 0 0 q (S 0 5) 0) := by have := (IW.leads hL1 (b := S 0 5) (show S 0 5 < S 0 5 + 1 by omega) (q + 1) (show q + 1 ≤ S 0 1 by omega)).1; rw [itr_z, ← hZz] at this; exact this
                          have hZ12 : (mSend Z 0 0 q (S 0 5) 0) 0 1 = S 0 1 := by have := (IW.leads hL1 (b := S 0 5) (show S 0 5 < S 0 5 + 1 by omega) (q + 1) (show q + 1 ≤ S 0 1 by omega)).2.1; rw [itr_z, ← hZz] at this; exact this
                          exact lp223 _ (by omega) (q + 1) (mSend Z 0 0 q (S 0 5) 0) ls H locs (lv_sub hl [1, 2, 3, 0] rfl) hP hS (by omega) (hIZ2) (hZ12) (by rw [itr_z, ← hZz]) rfl
                      exact lp223 _ 0 (itr (fun q Z => mSend Z 0 0 q (S 0 5) 0) 0 (mLead1 S j) 0) ls H locs (lv_sub hl [2, 3, 1, 0] rfl) hP hS (by omega) (hL1) (rfl) (rfl) rfl
                    · skip
                      refine lv_aload_n hx hb d_M_lead_160 rfl (lv_at hl 0 rfl) ?_
                      refine x_getM (v := .ref (X.2.2.2 1)) cf hK hP 5 (by decide) w_466 rfl d_M_lead_161 ?_
                      refine lv_iload hx hb d_M_lead_164 (lv_at hl 7 rfl) ?_
                      refine x_iald (v := (S 1 t)) cf hK hP (ia1 X) (by omega) rfl d_M_lead_166 ?_
                      refine lv_iload_n hx hb d_M_lead_167 rfl (lv_at hl 1 rfl) ?_
                      refine n_ishr hx hb (by have := (show S 1 t < 128 from hI.c 1 t); omega) (by omega) d_M_lead_168 ?_
                      refine lv_iconst (v := nI 1) hx hb d_M_lead_169 (by decide) ?_
                      refine n_and1 hx hb d_M_lead_170 ?_
                      refine lv_iconst (v := nI 1) hx hb d_M_lead_171 (by decide) ?_
                      refine n_icmp_ne (tgt := 197) hx hb d_M_lead_172 (by decide) (by have := (show S 1 t < 128 from hI.c 1 t); have := Nat.div_le_self (S 1 t) (2 ^ j); omega) (by decide) (fun h10 => ?_) (fun h10 => ?_)
                      · skip
                        refine n_iinc1 (lv' := [(9, .int (nI (t + 1))), (0, .ref (X.2.2.2 0)), (1, .int (nI j)), (2, .int (nI (S 14 j))), (3, .int (nI (mHigh S j))), (5, .int (nI us)), (7, .int (nI set)), (8, .int (nI many))]) (k := 7) hx hb d_M_lead_197 hl rfl (by decide) rfl (fun ls hl => ?_)
                        refine lv_goto (tgt := 145) hx hb d_M_lead_200 (by decide) ?_
                        exact lp145 _ (by omega) set many (t + 1) ls H locs (lv_sub hl [1, 2, 3, 4, 5, 6, 7, 0] rfl) hP hS (by omega) (by rw [itr_z, hzp]; unfold mPickF; first | (rw [if_pos (by simp only []; omega)]; done) | (rw [if_neg (by simp only []; omega)]; done)) rfl
                      · skip
                        refine lv_iload hx hb d_M_lead_175 (lv_at hl 4 rfl) ?_
                        refine lv_iload hx hb d_M_lead_177 (lv_at hl 7 rfl) ?_
                        refine n_ishr hx hb (by omega) (by omega) d_M_lead_179 ?_
                        refine lv_iconst (v := nI 1) hx hb d_M_lead_180 (by decide) ?_
                        refine n_and1 hx hb d_M_lead_181 ?_
                        refine n_if_ne (tgt := 197) hx hb d_M_lead_182 (by decide) (by have := Nat.div_le_self us (2 ^ t); omega) (fun h11 => ?_) (fun h11 => ?_)
                        · skip
                          refine n_iinc1 (lv' := [(9, .int (nI (t + 1))), (0, .ref (X.2.2.2 0)), (1, .int (nI j)), (2, .int (nI (S 14 j))), (3, .int (nI (mHigh S j))), (5, .int (nI us)), (7, .int (nI set)), (8, .int (nI many))]) (k := 7) hx hb d_M_lead_197 hl rfl (by decide) rfl (fun ls hl => ?_)
                          refine lv_goto (tgt := 145) hx hb d_M_lead_200 (by decide) ?_
                          exact lp145 _ (by omega) set many (t + 1) ls H locs (lv_sub hl [1, 2, 3, 4, 5, 6, 7, 0] rfl) hP hS (by omega) (by rw [itr_z, hzp]; unfold mPickF; first | (rw [if_pos (by simp only []; omega)]; done) | (rw [if_neg (by simp only []; omega)]; done)) rfl
                        · skip
                          refine lv_iload hx hb d_M_lead_185 (lv_at hl 5 rfl) ?_
                          refine lv_iconst (v := nI 1) hx hb d_M_lead_187 (by decide) ?_
                          refine lv_iload hx hb d_M_lead_188 (lv_at hl 7 rfl) ?_
                          refine n_ishl hx hb (by omega) (by have := p2_24 t (by omega); omega) d_M_lead_190 ?_
                          refine n_ior hx hb d_M_lead_191 ?_
                          refine lv_istore (lv' := [(7, .int (nI (set ||| (1 * (2 ^ t))))), (0, .ref (X.2.2.2 0)), (1, .int (nI j)), (2, .int (nI (S 14 j))), (3, .int (nI (mHigh S j))), (5, .int (nI us)), (8, .int (nI many)), (9, .int (nI t))]) hx hb d_M_lead_192 hl (by decide) rfl (fun ls hl => ?_)
                          refine n_iinc1 (lv' := [(8, .int (nI (many + 1))), (7, .int (nI (set ||| (1 * (2 ^ t))))), (0, .ref (X.2.2.2 0)), (1, .int (nI j)), (2, .int (nI (S 14 j))), (3, .int (nI (mHigh S j))), (5, .int (nI us)), (9, .int (nI t))]) (k := 6) hx hb d_M_lead_194 hl rfl (by decide) rfl (fun ls hl => ?_)
                          refine n_iinc1 (lv' := [(9, .int (nI (t + 1))), (8, .int (nI (many + 1))), (7, .int (nI (set ||| (1 * (2 ^ t))))), (0, .ref (X.2.2.2 0)), (1, .int (nI j)), (2, .int (nI (S 14 j))), (3, .int (nI (mHigh S j))), (5, .int (nI us))]) (k := 7) hx hb d_M_lead_197 hl rfl (by decide) rfl (fun ls hl => ?_)
                          refine lv_goto (tgt := 145) hx hb d_M_lead_200 (by decide) ?_
                          exact lp145 _ (by omega) (set ||| (1 * (2 ^ t))) (many + 1) (t + 1) ls H locs (lv_sub hl [3, 4, 5, 6, 7, 2, 1, 0] rfl) hP hS (by omega) (by rw [itr_z, hzp]; unfold mPickF; first | (rw [if_pos (by simp only []; omega)]; done) | (rw [if_neg (by simp only []; omega)]; done)) rfl
                exact lp145 _ 0 0 0 ls H locs (lv_sub hl [3, 4, 5, 6, 7, 2, 1, 0] rfl) hP hS (by omega) (rfl) rfl
              · skip
                refine lv_iload hx hb d_M_lead_109 (lv_at hl 4 rfl) ?_
                refine lv_aload_n hx hb d_M_lead_111 rfl (lv_at hl 0 rfl) ?_
                refine x_getM (v := .ref (X.2.2.2 7)) cf hK hP 12 (by decide) w_473 rfl d_M_lead_112 ?_
                refine lv_iload hx hb d_M_lead_115 (lv_at hl 5 rfl) ?_
                refine x_iald (v := (S 7 x)) cf hK hP (ia7 X) (by omega) rfl d_M_lead_117 ?_
                refine n_ior hx hb d_M_lead_118 ?_
                refine lv_istore (lv' := [(5, .int (nI (us ||| (S 7 x)))), (0, .ref (X.2.2.2 0)), (1, .int (nI j)), (2, .int (nI (S 14 j))), (3, .int (nI (mHigh S j))), (6, .int (nI x)), (7, .int (nI i))]) hx hb d_M_lead_119 hl (by decide) rfl (fun ls hl => ?_)
                refine lv_aload_n hx hb d_M_lead_121 rfl (lv_at hl 1 rfl) ?_
                refine x_getM (v := .ref (X.2.2.2 6)) cf hK hP 11 (by decide) w_472 rfl d_M_lead_122 ?_
                refine lv_iload hx hb d_M_lead_125 (lv_at hl 5 rfl) ?_
                refine x_iald (v := (S 6 x)) cf hK hP (ia6 X) (by omega) rfl d_M_lead_127 ?_
                refine lv_istore (lv' := [(6, .int (nI (S 6 x))), (5, .int (nI (us ||| (S 7 x)))), (0, .ref (X.2.2.2 0)), (1, .int (nI j)), (2, .int (nI (S 14 j))), (3, .int (nI (mHigh S j))), (7, .int (nI i))]) hx hb d_M_lead_128 hl (by decide) rfl (fun ls hl => ?_)
                refine n_iinc1 (lv' := [(7, .int (nI (i + 1))), (6, .int (nI (S 6 x))), (5, .int (nI (us ||| (S 7 x)))), (0, .ref (X.2.2.2 0)), (1, .int (nI j)), (2, .int (nI (S 14 j))), (3, .int (nI (mHigh S j)))]) (k := 6) hx hb d_M_lead_130 hl rfl (by decide) rfl (fun ls hl => ?_)
                refine lv_goto (tgt := 102) hx hb d_M_lead_133 (by decide) ?_
                exact lp102 _ (by omega) (us ||| (S 7 x)) (S 6 x) (i + 1) ls H locs (lv_sub hl [3, 4, 5, 6, 2, 1, 0] rfl) hP hS (by omega) (by rw [itr_z, hz]; rfl) rfl
            exact lp102 _ 0 (mHigh S j) 0 ls H locs (lv_sub hl [3, 4, 5, 6, 2, 1, 0] rfl) hP hS (by omega) (rfl) rfl
          refine lv_iload_n hx hb d_M_lead_68 rfl (lv_at hl 2 rfl) ?_
          refine lv_iconst (v := nI 1) hx hb d_M_lead_69 (by decide) ?_
          refine n_icmp_eq (tgt := 93) hx hb d_M_lead_70 (by decide) (by have := (show S 14 j ≤ V ∧ (j < S 0 1 → 1 ≤ S 14 j) from hI.c 14 j); omega) (by decide) (fun h12 => ?_) (fun h12 => ?_)
          · skip
            exact cut93  ls H locs (lv_sub hl [3, 4, 2, 1] rfl) hP hS (by unfold mLeadOk; rw [hjc, hcor, decide_eq_true (p := mLeader S (S 14 j) = j) (by omega), decide_eq_false (p := S 18 j = S 14 j) (by omega), decide_eq_true (p := S 0 5 < 40) (by omega), decide_eq_true (p := S 14 j = 1) (by omega)]; rfl)
          · skip
            refine lv_aload_n hx hb d_M_lead_73 rfl (lv_at hl 3 rfl) ?_
            refine x_getM (v := .ref (X.2.2.2 5)) cf hK hP 10 (by decide) w_471 rfl d_M_lead_74 ?_
            refine lv_iload_n hx hb d_M_lead_77 rfl (lv_at hl 1 rfl) ?_
            refine x_iald (v := (S 5 (mHigh S j))) cf hK hP (ia5 X) (by omega) rfl d_M_lead_78 ?_
            refine lv_iload_n hx hb d_M_lead_79 rfl (lv_at hl 2 rfl) ?_
            refine lv_iconst (v := nI 1) hx hb d_M_lead_80 (by decide) ?_
            refine n_isub hx hb (by have := (show S 14 j ≤ V ∧ (j < S 0 1 → 1 ≤ S 14 j) from hI.c 14 j); omega) d_M_lead_81 ?_
            refine n_icmp_eq (tgt := 93) hx hb d_M_lead_82 (by decide) (by have := (show S 5 (mHigh S j) + 1 ≤ V from hI.c 5 (mHigh S j)); omega) (by have := (show S 14 j ≤ V ∧ (j < S 0 1 → 1 ≤ S 14 j) from hI.c 14 j); omega) (fun h13 => ?_) (fun h13 => ?_)
            · skip
              exact cut93  ls H locs (lv_sub hl [3, 4, 2, 1] rfl) hP hS (by unfold mLeadOk; rw [hjc, hcor, decide_eq_true (p := mLeader S (S 14 j) = j) (by omega), decide_eq_false (p := S 18 j = S 14 j) (by omega), decide_eq_true (p := S 0 5 < 40) (by omega), decide_eq_true (p := S 5 (mHigh S j) = S 14 j - 1) (by omega)]; simp)
            · skip
              refine lv_iload hx hb d_M_lead_85 (lv_at hl 0 rfl) ?_
              refine lv_iload_n hx hb d_M_lead_87 rfl (lv_at hl 2 rfl) ?_
              refine n_icmp_ge (tgt := 93) hx hb d_M_lead_88 (by decide) (by omega) (by have := (show S 14 j ≤ V ∧ (j < S 0 1 → 1 ≤ S 14 j) from hI.c 14 j); omega) (fun h14 => ?_) (fun h14 => ?_)
              · skip
                exact cut93  ls H locs (lv_sub hl [3, 4, 2, 1] rfl) hP hS (by unfold mLeadOk; rw [hjc, hcor, decide_eq_true (p := mLeader S (S 14 j) = j) (by omega), decide_eq_false (p := S 18 j = S 14 j) (by omega), decide_eq_true (p := S 0 5 < 40) (by omega), decide_eq_true (p := S 14 j ≤ mPush S j) (by omega)]; simp)
              · skip
                have hno : mLeadOk S (nI j) = false := by unfold mLeadOk; rw [hjc, decide_eq_false (p := S 14 j = 1) (by omega), decide_eq_false (p := S 5 (mHigh S j) = S 14 j - 1) (by omega), decide_eq_false (p := S 14 j ≤ mPush S j) (by omega)]; simp
                refine lv_iconst (v := (-1)) hx hb d_M_lead_91 (by decide) ?_
                exact x_iret cf hr hlk hP hS (by unfold rLead; rw [hno]; rfl) (by unfold mLead; rw [hno]; rfl) d_M_lead_92
        · skip
          have hno : mLeadOk S (nI j) = false := by unfold mLeadOk; rw [decide_eq_false (p := S 0 5 < 40) (by omega)]; simp
          refine lv_iconst (v := (-1)) hx hb d_M_lead_46 (by decide) ?_
          exact x_iret cf hr hlk hP hS (by unfold rLead; rw [hno]; rfl) (by unfold mLead; rw [hno]; rfl) d_M_lead_47
end
section
theorem d_T_init_0 : decode c_T_init 0 = .ok (.aload_n 0, 1) := by decide +kernel
theorem d_T_init_1 : decode c_T_init 1 = .ok (.invokespecial 1, 3) := by decide +kernel
theorem d_T_init_4 : decode c_T_init 4 = .ok (.iload_n 1, 1) := by decide +kernel
theorem d_T_init_5 : decode c_T_init 5 = .ok (.iconst 2, 1) := by decide +kernel
theorem d_T_init_6 : decode c_T_init 6 = .ok (.if_icmp .ne 7, 3) := by decide +kernel
theorem d_T_init_9 : decode c_T_init 9 = .ok (.iconst 2, 1) := by decide +kernel
theorem d_T_init_10 : decode c_T_init 10 = .ok (.goto 4, 3) := by decide +kernel
theorem d_T_init_13 : decode c_T_init 13 = .ok (.iconst 1, 1) := by decide +kernel
theorem d_T_init_14 : decode c_T_init 14 = .ok (.istore 4, 2) := by decide +kernel
theorem d_T_init_16 : decode c_T_init 16 = .ok (.aload_n 0, 1) := by decide +kernel
theorem d_T_init_17 : decode c_T_init 17 = .ok (.iconst 3, 1) := by decide +kernel
theorem d_T_init_18 : decode c_T_init 18 = .ok (.iload 4, 2) := by decide +kernel
theorem d_T_init_20 : decode c_T_init 20 = .ok (.imul, 1) := by decide +kernel
theorem d_T_init_21 : decode c_T_init 21 = .ok (.iconst 1, 1) := by decide +kernel
theorem d_T_init_22 : decode c_T_init 22 = .ok (.iadd, 1) := by decide +kernel
theorem d_T_init_23 : decode c_T_init 23 = .ok (.putfield 7, 3) := by decide +kernel
theorem d_T_init_26 : decode c_T_init 26 = .ok (.aload_n 0, 1) := by decide +kernel
theorem d_T_init_27 : decode c_T_init 27 = .ok (.iconst 2, 1) := by decide +kernel
theorem d_T_init_28 : decode c_T_init 28 = .ok (.iload 4, 2) := by decide +kernel
theorem d_T_init_30 : decode c_T_init 30 = .ok (.imul, 1) := by decide +kernel
theorem d_T_init_31 : decode c_T_init 31 = .ok (.iconst 1, 1) := by decide +kernel
theorem d_T_init_32 : decode c_T_init 32 = .ok (.iadd, 1) := by decide +kernel
theorem d_T_init_33 : decode c_T_init 33 = .ok (.putfield 13, 3) := by decide +kernel
theorem d_T_init_36 : decode c_T_init 36 = .ok (.aload_n 0, 1) := by decide +kernel
theorem d_T_init_37 : decode c_T_init 37 = .ok (.iload_n 3, 1) := by decide +kernel
theorem d_T_init_38 : decode c_T_init 38 = .ok (.iconst 4, 1) := by decide +kernel
theorem d_T_init_39 : decode c_T_init 39 = .ok (.invokestatic 16, 3) := by decide +kernel
theorem d_T_init_42 : decode c_T_init 42 = .ok (.bipush 9, 2) := by decide +kernel
theorem d_T_init_44 : decode c_T_init 44 = .ok (.invokestatic 22, 3) := by decide +kernel
theorem d_T_init_47 : decode c_T_init 47 = .ok (.putfield 25, 3) := by decide +kernel
theorem d_T_init_50 : decode c_T_init 50 = .ok (.aload_n 0, 1) := by decide +kernel
theorem d_T_init_51 : decode c_T_init 51 = .ok (.iload_n 2, 1) := by decide +kernel
theorem d_T_init_52 : decode c_T_init 52 = .ok (.iconst 1, 1) := by decide +kernel
theorem d_T_init_53 : decode c_T_init 53 = .ok (.aload_n 0, 1) := by decide +kernel
theorem d_T_init_54 : decode c_T_init 54 = .ok (.getfield 7, 3) := by decide +kernel
theorem d_T_init_57 : decode c_T_init 57 = .ok (.ishl, 1) := by decide +kernel
theorem d_T_init_58 : decode c_T_init 58 = .ok (.iconst 1, 1) := by decide +kernel
theorem d_T_init_59 : decode c_T_init 59 = .ok (.isub, 1) := by decide +kernel
theorem d_T_init_60 : decode c_T_init 60 = .ok (.iand, 1) := by decide +kernel
theorem d_T_init_61 : decode c_T_init 61 = .ok (.iload 4, 2) := by decide +kernel
theorem d_T_init_63 : decode c_T_init 63 = .ok (.invokestatic 28, 3) := by decide +kernel
theorem d_T_init_66 : decode c_T_init 66 = .ok (.putfield 31, 3) := by decide +kernel
theorem d_T_init_69 : decode c_T_init 69 = .ok (.aload_n 0, 1) := by decide +kernel
theorem d_T_init_70 : decode c_T_init 70 = .ok (.aload_n 0, 1) := by decide +kernel
theorem d_T_init_71 : decode c_T_init 71 = .ok (.getfield 7, 3) := by decide +kernel
theorem d_T_init_74 : decode c_T_init 74 = .ok (.anewarray 34, 3) := by decide +kernel
theorem d_T_init_77 : decode c_T_init 77 = .ok (.putfield 36, 3) := by decide +kernel
theorem d_T_init_80 : decode c_T_init 80 = .ok (.iconst 0, 1) := by decide +kernel
theorem d_T_init_81 : decode c_T_init 81 = .ok (.istore 5, 2) := by decide +kernel
theorem d_T_init_83 : decode c_T_init 83 = .ok (.iload 5, 2) := by decide +kernel
theorem d_T_init_85 : decode c_T_init 85 = .ok (.aload_n 0, 1) := by decide +kernel
theorem d_T_init_86 : decode c_T_init 86 = .ok (.getfield 7, 3) := by decide +kernel
theorem d_T_init_89 : decode c_T_init 89 = .ok (.if_icmp .ge 27, 3) := by decide +kernel
theorem d_T_init_92 : decode c_T_init 92 = .ok (.aload_n 0, 1) := by decide +kernel
theorem d_T_init_93 : decode c_T_init 93 = .ok (.getfield 36, 3) := by decide +kernel
theorem d_T_init_96 : decode c_T_init 96 = .ok (.iload 5, 2) := by decide +kernel
theorem d_T_init_98 : decode c_T_init 98 = .ok (.new 34, 3) := by decide +kernel
theorem d_T_init_101 : decode c_T_init 101 = .ok (.dup, 1) := by decide +kernel
theorem d_T_init_102 : decode c_T_init 102 = .ok (.aload_n 0, 1) := by decide +kernel
theorem d_T_init_103 : decode c_T_init 103 = .ok (.getfield 7, 3) := by decide +kernel
theorem d_T_init_106 : decode c_T_init 106 = .ok (.invokespecial 40, 3) := by decide +kernel
theorem d_T_init_109 : decode c_T_init 109 = .ok (.aastore, 1) := by decide +kernel
theorem d_T_init_110 : decode c_T_init 110 = .ok (.iinc 5 1, 3) := by decide +kernel
theorem d_T_init_113 : decode c_T_init 113 = .ok (.goto (-30), 3) := by decide +kernel
theorem d_T_init_116 : decode c_T_init 116 = .ok (.aload_n 0, 1) := by decide +kernel
theorem d_T_init_117 : decode c_T_init 117 = .ok (.new 43, 3) := by decide +kernel
theorem d_T_init_120 : decode c_T_init 120 = .ok (.dup, 1) := by decide +kernel
theorem d_T_init_121 : decode c_T_init 121 = .ok (.invokespecial 45, 3) := by decide +kernel
theorem d_T_init_124 : decode c_T_init 124 = .ok (.putfield 46, 3) := by decide +kernel
theorem d_T_init_127 : decode c_T_init 127 = .ok (.aload_n 0, 1) := by decide +kernel
theorem d_T_init_128 : decode c_T_init 128 = .ok (.new 50, 3) := by decide +kernel
theorem d_T_init_131 : decode c_T_init 131 = .ok (.dup, 1) := by decide +kernel
theorem d_T_init_132 : decode c_T_init 132 = .ok (.invokespecial 52, 3) := by decide +kernel
theorem d_T_init_135 : decode c_T_init 135 = .ok (.putfield 53, 3) := by decide +kernel
theorem d_T_init_138 : decode c_T_init 138 = .ok (.aload_n 0, 1) := by decide +kernel
theorem d_T_init_139 : decode c_T_init 139 = .ok (.new 57, 3) := by decide +kernel
theorem d_T_init_142 : decode c_T_init 142 = .ok (.dup, 1) := by decide +kernel
theorem d_T_init_143 : decode c_T_init 143 = .ok (.invokespecial 59, 3) := by decide +kernel
theorem d_T_init_146 : decode c_T_init 146 = .ok (.putfield 60, 3) := by decide +kernel
theorem d_T_init_149 : decode c_T_init 149 = .ok (.aload_n 0, 1) := by decide +kernel
theorem d_T_init_150 : decode c_T_init 150 = .ok (.new 64, 3) := by decide +kernel
theorem d_T_init_153 : decode c_T_init 153 = .ok (.dup, 1) := by decide +kernel
theorem d_T_init_154 : decode c_T_init 154 = .ok (.invokespecial 66, 3) := by decide +kernel
theorem d_T_init_157 : decode c_T_init 157 = .ok (.putfield 67, 3) := by decide +kernel
theorem d_T_init_160 : decode c_T_init 160 = .ok (.return_, 1) := by decide +kernel
theorem d_T_submit_0 : decode c_T_submit 0 = .ok (.iload_n 1, 1) := by decide +kernel
theorem d_T_submit_1 : decode c_T_submit 1 = .ok (.aload_n 0, 1) := by decide +kernel
theorem d_T_submit_2 : decode c_T_submit 2 = .ok (.getfield 7, 3) := by decide +kernel
theorem d_T_submit_5 : decode c_T_submit 5 = .ok (.iushr, 1) := by decide +kernel
theorem d_T_submit_6 : decode c_T_submit 6 = .ok (.ifCond .eq 7, 3) := by decide +kernel
theorem d_T_submit_9 : decode c_T_submit 9 = .ok (.iconst 1, 1) := by decide +kernel
theorem d_T_submit_10 : decode c_T_submit 10 = .ok (.goto 4, 3) := by decide +kernel
theorem d_T_submit_13 : decode c_T_submit 13 = .ok (.iconst 0, 1) := by decide +kernel
theorem d_T_submit_14 : decode c_T_submit 14 = .ok (.istore 5, 2) := by decide +kernel
theorem d_T_submit_16 : decode c_T_submit 16 = .ok (.iload_n 2, 1) := by decide +kernel
theorem d_T_submit_17 : decode c_T_submit 17 = .ok (.invokestatic 71, 3) := by decide +kernel
theorem d_T_submit_20 : decode c_T_submit 20 = .ok (.ifCond .eq 15, 3) := by decide +kernel
theorem d_T_submit_23 : decode c_T_submit 23 = .ok (.iload_n 3, 1) := by decide +kernel
theorem d_T_submit_24 : decode c_T_submit 24 = .ok (.invokestatic 71, 3) := by decide +kernel
theorem d_T_submit_27 : decode c_T_submit 27 = .ok (.ifCond .eq 8, 3) := by decide +kernel
theorem d_T_submit_30 : decode c_T_submit 30 = .ok (.iload_n 2, 1) := by decide +kernel
theorem d_T_submit_31 : decode c_T_submit 31 = .ok (.iload_n 3, 1) := by decide +kernel
theorem d_T_submit_32 : decode c_T_submit 32 = .ok (.if_icmp .ne 7, 3) := by decide +kernel
theorem d_T_submit_35 : decode c_T_submit 35 = .ok (.iconst 1, 1) := by decide +kernel
theorem d_T_submit_36 : decode c_T_submit 36 = .ok (.goto 4, 3) := by decide +kernel
theorem d_T_submit_39 : decode c_T_submit 39 = .ok (.iconst 0, 1) := by decide +kernel
theorem d_T_submit_40 : decode c_T_submit 40 = .ok (.istore 6, 2) := by decide +kernel
theorem d_T_submit_42 : decode c_T_submit 42 = .ok (.iload 4, 2) := by decide +kernel
theorem d_T_submit_44 : decode c_T_submit 44 = .ok (.iconst 1, 1) := by decide +kernel
theorem d_T_submit_45 : decode c_T_submit 45 = .ok (.if_icmp .lt 11, 3) := by decide +kernel
theorem d_T_submit_48 : decode c_T_submit 48 = .ok (.iload 4, 2) := by decide +kernel
theorem d_T_submit_50 : decode c_T_submit 50 = .ok (.sipush 1000, 3) := by decide +kernel
theorem d_T_submit_53 : decode c_T_submit 53 = .ok (.if_icmp .le 7, 3) := by decide +kernel
theorem d_T_submit_56 : decode c_T_submit 56 = .ok (.iconst 1, 1) := by decide +kernel
theorem d_T_submit_57 : decode c_T_submit 57 = .ok (.goto 4, 3) := by decide +kernel
theorem d_T_submit_60 : decode c_T_submit 60 = .ok (.iconst 0, 1) := by decide +kernel
theorem d_T_submit_61 : decode c_T_submit 61 = .ok (.istore 7, 2) := by decide +kernel
theorem d_T_submit_63 : decode c_T_submit 63 = .ok (.iload 5, 2) := by decide +kernel
theorem d_T_submit_65 : decode c_T_submit 65 = .ok (.ifCond .ne 23, 3) := by decide +kernel
theorem d_T_submit_68 : decode c_T_submit 68 = .ok (.iload 6, 2) := by decide +kernel
theorem d_T_submit_70 : decode c_T_submit 70 = .ok (.ifCond .ne 18, 3) := by decide +kernel
theorem d_T_submit_73 : decode c_T_submit 73 = .ok (.iload 7, 2) := by decide +kernel
theorem d_T_submit_75 : decode c_T_submit 75 = .ok (.ifCond .ne 13, 3) := by decide +kernel
theorem d_T_submit_78 : decode c_T_submit 78 = .ok (.aload_n 0, 1) := by decide +kernel
theorem d_T_submit_79 : decode c_T_submit 79 = .ok (.getfield 46, 3) := by decide +kernel
theorem d_T_submit_82 : decode c_T_submit 82 = .ok (.invokevirtual 75, 3) := by decide +kernel
theorem d_T_submit_85 : decode c_T_submit 85 = .ok (.ifCond .eq 5, 3) := by decide +kernel
theorem d_T_submit_88 : decode c_T_submit 88 = .ok (.iconst (-1), 1) := by decide +kernel
theorem d_T_submit_89 : decode c_T_submit 89 = .ok (.ireturn, 1) := by decide +kernel
theorem d_T_submit_90 : decode c_T_submit 90 = .ok (.aload_n 0, 1) := by decide +kernel
theorem d_T_submit_91 : decode c_T_submit 91 = .ok (.getfield 46, 3) := by decide +kernel
theorem d_T_submit_94 : decode c_T_submit 94 = .ok (.iload_n 2, 1) := by decide +kernel
theorem d_T_submit_95 : decode c_T_submit 95 = .ok (.iload_n 3, 1) := by decide +kernel
theorem d_T_submit_96 : decode c_T_submit 96 = .ok (.iload 4, 2) := by decide +kernel
theorem d_T_submit_98 : decode c_T_submit 98 = .ok (.invokevirtual 79, 3) := by decide +kernel
theorem d_T_submit_101 : decode c_T_submit 101 = .ok (.istore 8, 2) := by decide +kernel
theorem d_T_submit_103 : decode c_T_submit 103 = .ok (.iconst 0, 1) := by decide +kernel
theorem d_T_submit_104 : decode c_T_submit 104 = .ok (.istore 9, 2) := by decide +kernel
theorem d_T_submit_106 : decode c_T_submit 106 = .ok (.iload 9, 2) := by decide +kernel
theorem d_T_submit_108 : decode c_T_submit 108 = .ok (.aload_n 0, 1) := by decide +kernel
theorem d_T_submit_109 : decode c_T_submit 109 = .ok (.getfield 7, 3) := by decide +kernel
theorem d_T_submit_112 : decode c_T_submit 112 = .ok (.if_icmp .ge 37, 3) := by decide +kernel
theorem d_T_submit_115 : decode c_T_submit 115 = .ok (.iload_n 1, 1) := by decide +kernel
theorem d_T_submit_116 : decode c_T_submit 116 = .ok (.iload 9, 2) := by decide +kernel
theorem d_T_submit_118 : decode c_T_submit 118 = .ok (.invokestatic 83, 3) := by decide +kernel
theorem d_T_submit_121 : decode c_T_submit 121 = .ok (.ifCond .eq 22, 3) := by decide +kernel
theorem d_T_submit_124 : decode c_T_submit 124 = .ok (.aload_n 0, 1) := by decide +kernel
theorem d_T_submit_125 : decode c_T_submit 125 = .ok (.getfield 36, 3) := by decide +kernel
theorem d_T_submit_128 : decode c_T_submit 128 = .ok (.iload 9, 2) := by decide +kernel
theorem d_T_submit_130 : decode c_T_submit 130 = .ok (.aaload, 1) := by decide +kernel
theorem d_T_submit_131 : decode c_T_submit 131 = .ok (.dup, 1) := by decide +kernel
theorem d_T_submit_132 : decode c_T_submit 132 = .ok (.getfield 87, 3) := by decide +kernel
theorem d_T_submit_135 : decode c_T_submit 135 = .ok (.iconst 1, 1) := by decide +kernel
theorem d_T_submit_136 : decode c_T_submit 136 = .ok (.iload 8, 2) := by decide +kernel
theorem d_T_submit_138 : decode c_T_submit 138 = .ok (.ishl, 1) := by decide +kernel
theorem d_T_submit_139 : decode c_T_submit 139 = .ok (.ior, 1) := by decide +kernel
theorem d_T_submit_140 : decode c_T_submit 140 = .ok (.putfield 87, 3) := by decide +kernel
theorem d_T_submit_143 : decode c_T_submit 143 = .ok (.iinc 9 1, 3) := by decide +kernel
theorem d_T_submit_146 : decode c_T_submit 146 = .ok (.goto (-40), 3) := by decide +kernel
theorem d_T_submit_149 : decode c_T_submit 149 = .ok (.iload 8, 2) := by decide +kernel
theorem d_T_submit_151 : decode c_T_submit 151 = .ok (.ireturn, 1) := by decide +kernel
theorem d_T_lead_0 : decode c_T_lead 0 = .ok (.aload_n 0, 1) := by decide +kernel
theorem d_T_lead_1 : decode c_T_lead 1 = .ok (.iload_n 1, 1) := by decide +kernel
theorem d_T_lead_2 : decode c_T_lead 2 = .ok (.invokevirtual 90, 3) := by decide +kernel
theorem d_T_lead_5 : decode c_T_lead 5 = .ok (.ifCond .eq 21, 3) := by decide +kernel
theorem d_T_lead_8 : decode c_T_lead 8 = .ok (.aload_n 0, 1) := by decide +kernel
theorem d_T_lead_9 : decode c_T_lead 9 = .ok (.iload_n 1, 1) := by decide +kernel
theorem d_T_lead_10 : decode c_T_lead 10 = .ok (.invokevirtual 93, 3) := by decide +kernel
theorem d_T_lead_13 : decode c_T_lead 13 = .ok (.ifCond .eq 13, 3) := by decide +kernel
theorem d_T_lead_16 : decode c_T_lead 16 = .ok (.aload_n 0, 1) := by decide +kernel
theorem d_T_lead_17 : decode c_T_lead 17 = .ok (.getfield 53, 3) := by decide +kernel
theorem d_T_lead_20 : decode c_T_lead 20 = .ok (.invokevirtual 96, 3) := by decide +kernel
theorem d_T_lead_23 : decode c_T_lead 23 = .ok (.ifCond .eq 5, 3) := by decide +kernel
theorem d_T_lead_26 : decode c_T_lead 26 = .ok (.iconst (-1), 1) := by decide +kernel
theorem d_T_lead_27 : decode c_T_lead 27 = .ok (.ireturn, 1) := by decide +kernel
theorem d_T_lead_28 : decode c_T_lead 28 = .ok (.aload_n 0, 1) := by decide +kernel
theorem d_T_lead_29 : decode c_T_lead 29 = .ok (.getfield 36, 3) := by decide +kernel
theorem d_T_lead_32 : decode c_T_lead 32 = .ok (.iload_n 1, 1) := by decide +kernel
theorem d_T_lead_33 : decode c_T_lead 33 = .ok (.aaload, 1) := by decide +kernel
theorem d_T_lead_34 : decode c_T_lead 34 = .ok (.astore_n 2, 1) := by decide +kernel
theorem d_T_lead_35 : decode c_T_lead 35 = .ok (.aload_n 2, 1) := by decide +kernel
theorem d_T_lead_36 : decode c_T_lead 36 = .ok (.getfield 87, 3) := by decide +kernel
theorem d_T_lead_39 : decode c_T_lead 39 = .ok (.aload_n 0, 1) := by decide +kernel
theorem d_T_lead_40 : decode c_T_lead 40 = .ok (.getfield 53, 3) := by decide +kernel
theorem d_T_lead_43 : decode c_T_lead 43 = .ok (.getfield 97, 3) := by decide +kernel
theorem d_T_lead_46 : decode c_T_lead 46 = .ok (.aload_n 2, 1) := by decide +kernel
theorem d_T_lead_47 : decode c_T_lead 47 = .ok (.getfield 101, 3) := by decide +kernel
theorem d_T_lead_50 : decode c_T_lead 50 = .ok (.iaload, 1) := by decide +kernel
theorem d_T_lead_51 : decode c_T_lead 51 = .ok (.iconst (-1), 1) := by decide +kernel
theorem d_T_lead_52 : decode c_T_lead 52 = .ok (.ixor, 1) := by decide +kernel
theorem d_T_lead_53 : decode c_T_lead 53 = .ok (.iand, 1) := by decide +kernel
theorem d_T_lead_54 : decode c_T_lead 54 = .ok (.istore_n 3, 1) := by decide +kernel
theorem d_T_lead_55 : decode c_T_lead 55 = .ok (.aload_n 0, 1) := by decide +kernel
theorem d_T_lead_56 : decode c_T_lead 56 = .ok (.getfield 53, 3) := by decide +kernel
theorem d_T_lead_59 : decode c_T_lead 59 = .ok (.aload_n 2, 1) := by decide +kernel
theorem d_T_lead_60 : decode c_T_lead 60 = .ok (.getfield 101, 3) := by decide +kernel
theorem d_T_lead_63 : decode c_T_lead 63 = .ok (.aload_n 2, 1) := by decide +kernel
theorem d_T_lead_64 : decode c_T_lead 64 = .ok (.getfield 104, 3) := by decide +kernel
theorem d_T_lead_67 : decode c_T_lead 67 = .ok (.iload_n 3, 1) := by decide +kernel
theorem d_T_lead_68 : decode c_T_lead 68 = .ok (.iconst 2, 1) := by decide +kernel
theorem d_T_lead_69 : decode c_T_lead 69 = .ok (.invokestatic 28, 3) := by decide +kernel
theorem d_T_lead_72 : decode c_T_lead 72 = .ok (.invokevirtual 107, 3) := by decide +kernel
theorem d_T_lead_75 : decode c_T_lead 75 = .ok (.istore 4, 2) := by decide +kernel
theorem d_T_lead_77 : decode c_T_lead 77 = .ok (.aload_n 2, 1) := by decide +kernel
theorem d_T_lead_78 : decode c_T_lead 78 = .ok (.aload_n 2, 1) := by decide +kernel
theorem d_T_lead_79 : decode c_T_lead 79 = .ok (.getfield 104, 3) := by decide +kernel
theorem d_T_lead_82 : decode c_T_lead 82 = .ok (.putfield 108, 3) := by decide +kernel
theorem d_T_lead_85 : decode c_T_lead 85 = .ok (.iconst 0, 1) := by decide +kernel
theorem d_T_lead_86 : decode c_T_lead 86 = .ok (.istore 5, 2) := by decide +kernel
theorem d_T_lead_88 : decode c_T_lead 88 = .ok (.iload 5, 2) := by decide +kernel
theorem d_T_lead_90 : decode c_T_lead 90 = .ok (.aload_n 0, 1) := by decide +kernel
theorem d_T_lead_91 : decode c_T_lead 91 = .ok (.getfield 7, 3) := by decide +kernel
theorem d_T_lead_94 : decode c_T_lead 94 = .ok (.if_icmp .ge 23, 3) := by decide +kernel
theorem d_T_lead_97 : decode c_T_lead 97 = .ok (.aload_n 0, 1) := by decide +kernel
theorem d_T_lead_98 : decode c_T_lead 98 = .ok (.getfield 60, 3) := by decide +kernel
theorem d_T_lead_101 : decode c_T_lead 101 = .ok (.iconst 0, 1) := by decide +kernel
theorem d_T_lead_102 : decode c_T_lead 102 = .ok (.iload 5, 2) := by decide +kernel
theorem d_T_lead_104 : decode c_T_lead 104 = .ok (.iconst 0, 1) := by decide +kernel
theorem d_T_lead_105 : decode c_T_lead 105 = .ok (.iload 4, 2) := by decide +kernel
theorem d_T_lead_107 : decode c_T_lead 107 = .ok (.iconst 0, 1) := by decide +kernel
theorem d_T_lead_108 : decode c_T_lead 108 = .ok (.invokevirtual 111, 3) := by decide +kernel
theorem d_T_lead_111 : decode c_T_lead 111 = .ok (.iinc 5 1, 3) := by decide +kernel
theorem d_T_lead_114 : decode c_T_lead 114 = .ok (.goto (-26), 3) := by decide +kernel
theorem d_T_lead_117 : decode c_T_lead 117 = .ok (.iload 4, 2) := by decide +kernel
theorem d_T_lead_119 : decode c_T_lead 119 = .ok (.ireturn, 1) := by decide +kernel
theorem d_T_tick_0 : decode c_T_tick 0 = .ok (.aload_n 0, 1) := by decide +kernel
theorem d_T_tick_1 : decode c_T_tick 1 = .ok (.iload_n 1, 1) := by decide +kernel
theorem d_T_tick_2 : decode c_T_tick 2 = .ok (.invokevirtual 90, 3) := by decide +kernel
theorem d_T_tick_5 : decode c_T_tick 5 = .ok (.ifCond .ne 5, 3) := by decide +kernel
theorem d_T_tick_8 : decode c_T_tick 8 = .ok (.iconst (-1), 1) := by decide +kernel
theorem d_T_tick_9 : decode c_T_tick 9 = .ok (.ireturn, 1) := by decide +kernel
theorem d_T_tick_10 : decode c_T_tick 10 = .ok (.aload_n 0, 1) := by decide +kernel
theorem d_T_tick_11 : decode c_T_tick 11 = .ok (.getfield 36, 3) := by decide +kernel
theorem d_T_tick_14 : decode c_T_tick 14 = .ok (.iload_n 1, 1) := by decide +kernel
theorem d_T_tick_15 : decode c_T_tick 15 = .ok (.aaload, 1) := by decide +kernel
theorem d_T_tick_16 : decode c_T_tick 16 = .ok (.astore_n 2, 1) := by decide +kernel
theorem d_T_tick_17 : decode c_T_tick 17 = .ok (.aload_n 2, 1) := by decide +kernel
theorem d_T_tick_18 : decode c_T_tick 18 = .ok (.dup, 1) := by decide +kernel
theorem d_T_tick_19 : decode c_T_tick 19 = .ok (.getfield 115, 3) := by decide +kernel
theorem d_T_tick_22 : decode c_T_tick 22 = .ok (.iconst 1, 1) := by decide +kernel
theorem d_T_tick_23 : decode c_T_tick 23 = .ok (.iadd, 1) := by decide +kernel
theorem d_T_tick_24 : decode c_T_tick 24 = .ok (.putfield 115, 3) := by decide +kernel
theorem d_T_tick_27 : decode c_T_tick 27 = .ok (.aload_n 2, 1) := by decide +kernel
theorem d_T_tick_28 : decode c_T_tick 28 = .ok (.getfield 115, 3) := by decide +kernel
theorem d_T_tick_31 : decode c_T_tick 31 = .ok (.aload_n 2, 1) := by decide +kernel
theorem d_T_tick_32 : decode c_T_tick 32 = .ok (.getfield 118, 3) := by decide +kernel
theorem d_T_tick_35 : decode c_T_tick 35 = .ok (.if_icmp .ne 53, 3) := by decide +kernel
theorem d_T_tick_38 : decode c_T_tick 38 = .ok (.aload_n 2, 1) := by decide +kernel
theorem d_T_tick_39 : decode c_T_tick 39 = .ok (.aload_n 2, 1) := by decide +kernel
theorem d_T_tick_40 : decode c_T_tick 40 = .ok (.getfield 104, 3) := by decide +kernel
theorem d_T_tick_43 : decode c_T_tick 43 = .ok (.iconst 1, 1) := by decide +kernel
theorem d_T_tick_44 : decode c_T_tick 44 = .ok (.iadd, 1) := by decide +kernel
theorem d_T_tick_45 : decode c_T_tick 45 = .ok (.invokevirtual 121, 3) := by decide +kernel
theorem d_T_tick_48 : decode c_T_tick 48 = .ok (.aload_n 2, 1) := by decide +kernel
theorem d_T_tick_49 : decode c_T_tick 49 = .ok (.iconst 2, 1) := by decide +kernel
theorem d_T_tick_50 : decode c_T_tick 50 = .ok (.aload_n 2, 1) := by decide +kernel
theorem d_T_tick_51 : decode c_T_tick 51 = .ok (.getfield 118, 3) := by decide +kernel
theorem d_T_tick_54 : decode c_T_tick 54 = .ok (.imul, 1) := by decide +kernel
theorem d_T_tick_55 : decode c_T_tick 55 = .ok (.bipush 32, 2) := by decide +kernel
theorem d_T_tick_57 : decode c_T_tick 57 = .ok (.invokestatic 22, 3) := by decide +kernel
theorem d_T_tick_60 : decode c_T_tick 60 = .ok (.putfield 118, 3) := by decide +kernel
theorem d_T_tick_63 : decode c_T_tick 63 = .ok (.aload_n 0, 1) := by decide +kernel
theorem d_T_tick_64 : decode c_T_tick 64 = .ok (.getfield 60, 3) := by decide +kernel
theorem d_T_tick_67 : decode c_T_tick 67 = .ok (.iconst 2, 1) := by decide +kernel
theorem d_T_tick_68 : decode c_T_tick 68 = .ok (.aload_n 0, 1) := by decide +kernel
theorem d_T_tick_69 : decode c_T_tick 69 = .ok (.aload_n 2, 1) := by decide +kernel
theorem d_T_tick_70 : decode c_T_tick 70 = .ok (.getfield 104, 3) := by decide +kernel
theorem d_T_tick_73 : decode c_T_tick 73 = .ok (.invokevirtual 124, 3) := by decide +kernel
theorem d_T_tick_76 : decode c_T_tick 76 = .ok (.iload_n 1, 1) := by decide +kernel
theorem d_T_tick_77 : decode c_T_tick 77 = .ok (.aload_n 2, 1) := by decide +kernel
theorem d_T_tick_78 : decode c_T_tick 78 = .ok (.getfield 101, 3) := by decide +kernel
theorem d_T_tick_81 : decode c_T_tick 81 = .ok (.aload_n 2, 1) := by decide +kernel
theorem d_T_tick_82 : decode c_T_tick 82 = .ok (.getfield 104, 3) := by decide +kernel
theorem d_T_tick_85 : decode c_T_tick 85 = .ok (.invokevirtual 111, 3) := by decide +kernel
theorem d_T_tick_88 : decode c_T_tick 88 = .ok (.aload_n 2, 1) := by decide +kernel
theorem d_T_tick_89 : decode c_T_tick 89 = .ok (.getfield 104, 3) := by decide +kernel
theorem d_T_tick_92 : decode c_T_tick 92 = .ok (.ireturn, 1) := by decide +kernel
theorem d_T_deliver_0 : decode c_T_deliver 0 = .ok (.aload_n 0, 1) := by decide +kernel
theorem d_T_deliver_1 : decode c_T_deliver 1 = .ok (.getfield 60, 3) := by decide +kernel
theorem d_T_deliver_4 : decode c_T_deliver 4 = .ok (.iload_n 1, 1) := by decide +kernel
theorem d_T_deliver_5 : decode c_T_deliver 5 = .ok (.invokevirtual 128, 3) := by decide +kernel
theorem d_T_deliver_8 : decode c_T_deliver 8 = .ok (.ifCond .ne 5, 3) := by decide +kernel
theorem d_T_deliver_11 : decode c_T_deliver 11 = .ok (.iconst (-1), 1) := by decide +kernel
theorem d_T_deliver_12 : decode c_T_deliver 12 = .ok (.ireturn, 1) := by decide +kernel
theorem d_T_deliver_13 : decode c_T_deliver 13 = .ok (.aload_n 0, 1) := by decide +kernel
theorem d_T_deliver_14 : decode c_T_deliver 14 = .ok (.iload_n 1, 1) := by decide +kernel
theorem d_T_deliver_15 : decode c_T_deliver 15 = .ok (.invokevirtual 131, 3) := by decide +kernel
theorem d_T_deliver_18 : decode c_T_deliver 18 = .ok (.ifCond .eq 7, 3) := by decide +kernel
theorem d_T_deliver_21 : decode c_T_deliver 21 = .ok (.iconst 1, 1) := by decide +kernel
theorem d_T_deliver_22 : decode c_T_deliver 22 = .ok (.goto 4, 3) := by decide +kernel
theorem d_T_deliver_25 : decode c_T_deliver 25 = .ok (.iconst 0, 1) := by decide +kernel
theorem d_T_deliver_26 : decode c_T_deliver 26 = .ok (.ireturn, 1) := by decide +kernel
theorem d_T_flow_0 : decode c_T_flow 0 = .ok (.iload_n 1, 1) := by decide +kernel
theorem d_T_flow_1 : decode c_T_flow 1 = .ok (.ifCond .lt 9, 3) := by decide +kernel
theorem d_T_flow_4 : decode c_T_flow 4 = .ok (.iload_n 1, 1) := by decide +kernel
theorem d_T_flow_5 : decode c_T_flow 5 = .ok (.bipush 40, 2) := by decide +kernel
theorem d_T_flow_7 : decode c_T_flow 7 = .ok (.if_icmp .le 5, 3) := by decide +kernel
theorem d_T_flow_10 : decode c_T_flow 10 = .ok (.iconst (-1), 1) := by decide +kernel
theorem d_T_flow_11 : decode c_T_flow 11 = .ok (.ireturn, 1) := by decide +kernel
theorem d_T_flow_12 : decode c_T_flow 12 = .ok (.iconst 0, 1) := by decide +kernel
theorem d_T_flow_13 : decode c_T_flow 13 = .ok (.istore_n 2, 1) := by decide +kernel
theorem d_T_flow_14 : decode c_T_flow 14 = .ok (.iload_n 2, 1) := by decide +kernel
theorem d_T_flow_15 : decode c_T_flow 15 = .ok (.iload_n 1, 1) := by decide +kernel
theorem d_T_flow_16 : decode c_T_flow 16 = .ok (.if_icmp .ge 26, 3) := by decide +kernel
theorem d_T_flow_19 : decode c_T_flow 19 = .ok (.aload_n 0, 1) := by decide +kernel
theorem d_T_flow_20 : decode c_T_flow 20 = .ok (.getfield 60, 3) := by decide +kernel
theorem d_T_flow_23 : decode c_T_flow 23 = .ok (.iconst 0, 1) := by decide +kernel
theorem d_T_flow_24 : decode c_T_flow 24 = .ok (.invokevirtual 128, 3) := by decide +kernel
theorem d_T_flow_27 : decode c_T_flow 27 = .ok (.ifCond .eq 15, 3) := by decide +kernel
theorem d_T_flow_30 : decode c_T_flow 30 = .ok (.aload_n 0, 1) := by decide +kernel
theorem d_T_flow_31 : decode c_T_flow 31 = .ok (.iconst 0, 1) := by decide +kernel
theorem d_T_flow_32 : decode c_T_flow 32 = .ok (.invokevirtual 131, 3) := by decide +kernel
theorem d_T_flow_35 : decode c_T_flow 35 = .ok (.pop, 1) := by decide +kernel
theorem d_T_flow_36 : decode c_T_flow 36 = .ok (.iinc 2 1, 3) := by decide +kernel
theorem d_T_flow_39 : decode c_T_flow 39 = .ok (.goto (-25), 3) := by decide +kernel
theorem d_T_flow_42 : decode c_T_flow 42 = .ok (.iload_n 2, 1) := by decide +kernel
theorem d_T_flow_43 : decode c_T_flow 43 = .ok (.ireturn, 1) := by decide +kernel
theorem d_T_drop_0 : decode c_T_drop 0 = .ok (.aload_n 0, 1) := by decide +kernel
theorem d_T_drop_1 : decode c_T_drop 1 = .ok (.getfield 60, 3) := by decide +kernel
theorem d_T_drop_4 : decode c_T_drop 4 = .ok (.iload_n 1, 1) := by decide +kernel
theorem d_T_drop_5 : decode c_T_drop 5 = .ok (.invokevirtual 128, 3) := by decide +kernel
theorem d_T_drop_8 : decode c_T_drop 8 = .ok (.ifCond .ne 5, 3) := by decide +kernel
theorem d_T_drop_11 : decode c_T_drop 11 = .ok (.iconst 0, 1) := by decide +kernel
theorem d_T_drop_12 : decode c_T_drop 12 = .ok (.ireturn, 1) := by decide +kernel
theorem d_T_drop_13 : decode c_T_drop 13 = .ok (.aload_n 0, 1) := by decide +kernel
theorem d_T_drop_14 : decode c_T_drop 14 = .ok (.getfield 60, 3) := by decide +kernel
theorem d_T_drop_17 : decode c_T_drop 17 = .ok (.iload_n 1, 1) := by decide +kernel
theorem d_T_drop_18 : decode c_T_drop 18 = .ok (.invokevirtual 134, 3) := by decide +kernel
theorem d_T_drop_21 : decode c_T_drop 21 = .ok (.iconst 1, 1) := by decide +kernel
theorem d_T_drop_22 : decode c_T_drop 22 = .ok (.ireturn, 1) := by decide +kernel
theorem d_T_forge_0 : decode c_T_forge 0 = .ok (.aload_n 0, 1) := by decide +kernel
theorem d_T_forge_1 : decode c_T_forge 1 = .ok (.iload_n 1, 1) := by decide +kernel
theorem d_T_forge_2 : decode c_T_forge 2 = .ok (.invokevirtual 137, 3) := by decide +kernel
theorem d_T_forge_5 : decode c_T_forge 5 = .ok (.ifCond .eq 23, 3) := by decide +kernel
theorem d_T_forge_8 : decode c_T_forge 8 = .ok (.iload_n 2, 1) := by decide +kernel
theorem d_T_forge_9 : decode c_T_forge 9 = .ok (.aload_n 0, 1) := by decide +kernel
theorem d_T_forge_10 : decode c_T_forge 10 = .ok (.getfield 53, 3) := by decide +kernel
theorem d_T_forge_13 : decode c_T_forge 13 = .ok (.getfield 140, 3) := by decide +kernel
theorem d_T_forge_16 : decode c_T_forge 16 = .ok (.iload_n 1, 1) := by decide +kernel
theorem d_T_forge_17 : decode c_T_forge 17 = .ok (.iaload, 1) := by decide +kernel
theorem d_T_forge_18 : decode c_T_forge 18 = .ok (.if_icmp .le 10, 3) := by decide +kernel
theorem d_T_forge_21 : decode c_T_forge 21 = .ok (.iload_n 2, 1) := by decide +kernel
theorem d_T_forge_22 : decode c_T_forge 22 = .ok (.sipush 9999, 3) := by decide +kernel
theorem d_T_forge_25 : decode c_T_forge 25 = .ok (.if_icmp .le 5, 3) := by decide +kernel
theorem d_T_forge_28 : decode c_T_forge 28 = .ok (.iconst (-1), 1) := by decide +kernel
theorem d_T_forge_29 : decode c_T_forge 29 = .ok (.ireturn, 1) := by decide +kernel
theorem d_T_forge_30 : decode c_T_forge 30 = .ok (.iload_n 3, 1) := by decide +kernel
theorem d_T_forge_31 : decode c_T_forge 31 = .ok (.aload_n 0, 1) := by decide +kernel
theorem d_T_forge_32 : decode c_T_forge 32 = .ok (.getfield 46, 3) := by decide +kernel
theorem d_T_forge_35 : decode c_T_forge 35 = .ok (.getfield 143, 3) := by decide +kernel
theorem d_T_forge_38 : decode c_T_forge 38 = .ok (.iushr, 1) := by decide +kernel
theorem d_T_forge_39 : decode c_T_forge 39 = .ok (.ifCond .eq 7, 3) := by decide +kernel
theorem d_T_forge_42 : decode c_T_forge 42 = .ok (.iconst 1, 1) := by decide +kernel
theorem d_T_forge_43 : decode c_T_forge 43 = .ok (.goto 4, 3) := by decide +kernel
theorem d_T_forge_46 : decode c_T_forge 46 = .ok (.iconst 0, 1) := by decide +kernel
theorem d_T_forge_47 : decode c_T_forge 47 = .ok (.istore 4, 2) := by decide +kernel
theorem d_T_forge_49 : decode c_T_forge 49 = .ok (.aload_n 0, 1) := by decide +kernel
theorem d_T_forge_50 : decode c_T_forge 50 = .ok (.aload_n 0, 1) := by decide +kernel
theorem d_T_forge_51 : decode c_T_forge 51 = .ok (.iload_n 2, 1) := by decide +kernel
theorem d_T_forge_52 : decode c_T_forge 52 = .ok (.invokevirtual 124, 3) := by decide +kernel
theorem d_T_forge_55 : decode c_T_forge 55 = .ok (.invokevirtual 146, 3) := by decide +kernel
theorem d_T_forge_58 : decode c_T_forge 58 = .ok (.ifCond .eq 18, 3) := by decide +kernel
theorem d_T_forge_61 : decode c_T_forge 61 = .ok (.iload 4, 2) := by decide +kernel
theorem d_T_forge_63 : decode c_T_forge 63 = .ok (.ifCond .ne 13, 3) := by decide +kernel
theorem d_T_forge_66 : decode c_T_forge 66 = .ok (.aload_n 0, 1) := by decide +kernel
theorem d_T_forge_67 : decode c_T_forge 67 = .ok (.getfield 53, 3) := by decide +kernel
theorem d_T_forge_70 : decode c_T_forge 70 = .ok (.invokevirtual 96, 3) := by decide +kernel
theorem d_T_forge_73 : decode c_T_forge 73 = .ok (.ifCond .eq 5, 3) := by decide +kernel
theorem d_T_forge_76 : decode c_T_forge 76 = .ok (.iconst (-1), 1) := by decide +kernel
theorem d_T_forge_77 : decode c_T_forge 77 = .ok (.ireturn, 1) := by decide +kernel
theorem d_T_forge_78 : decode c_T_forge 78 = .ok (.aload_n 0, 1) := by decide +kernel
theorem d_T_forge_79 : decode c_T_forge 79 = .ok (.getfield 53, 3) := by decide +kernel
theorem d_T_forge_82 : decode c_T_forge 82 = .ok (.iload_n 1, 1) := by decide +kernel
theorem d_T_forge_83 : decode c_T_forge 83 = .ok (.iload_n 2, 1) := by decide +kernel
theorem d_T_forge_84 : decode c_T_forge 84 = .ok (.iload_n 3, 1) := by decide +kernel
theorem d_T_forge_85 : decode c_T_forge 85 = .ok (.invokevirtual 107, 3) := by decide +kernel
theorem d_T_forge_88 : decode c_T_forge 88 = .ok (.ireturn, 1) := by decide +kernel
theorem d_T_offer_0 : decode c_T_offer 0 = .ok (.aload_n 0, 1) := by decide +kernel
theorem d_T_offer_1 : decode c_T_offer 1 = .ok (.getfield 31, 3) := by decide +kernel
theorem d_T_offer_4 : decode c_T_offer 4 = .ok (.ifCond .eq 12, 3) := by decide +kernel
theorem d_T_offer_7 : decode c_T_offer 7 = .ok (.aload_n 0, 1) := by decide +kernel
theorem d_T_offer_8 : decode c_T_offer 8 = .ok (.iload_n 1, 1) := by decide +kernel
theorem d_T_offer_9 : decode c_T_offer 9 = .ok (.iload_n 2, 1) := by decide +kernel
theorem d_T_offer_10 : decode c_T_offer 10 = .ok (.invokevirtual 149, 3) := by decide +kernel
theorem d_T_offer_13 : decode c_T_offer 13 = .ok (.ifCond .ne 5, 3) := by decide +kernel
theorem d_T_offer_16 : decode c_T_offer 16 = .ok (.iconst 0, 1) := by decide +kernel
theorem d_T_offer_17 : decode c_T_offer 17 = .ok (.ireturn, 1) := by decide +kernel
theorem d_T_offer_18 : decode c_T_offer 18 = .ok (.aload_n 0, 1) := by decide +kernel
theorem d_T_offer_19 : decode c_T_offer 19 = .ok (.getfield 60, 3) := by decide +kernel
theorem d_T_offer_22 : decode c_T_offer 22 = .ok (.iconst 0, 1) := by decide +kernel
theorem d_T_offer_23 : decode c_T_offer 23 = .ok (.iload_n 2, 1) := by decide +kernel
theorem d_T_offer_24 : decode c_T_offer 24 = .ok (.iconst 0, 1) := by decide +kernel
theorem d_T_offer_25 : decode c_T_offer 25 = .ok (.iload_n 1, 1) := by decide +kernel
theorem d_T_offer_26 : decode c_T_offer 26 = .ok (.iconst 0, 1) := by decide +kernel
theorem d_T_offer_27 : decode c_T_offer 27 = .ok (.invokevirtual 111, 3) := by decide +kernel
theorem d_T_offer_30 : decode c_T_offer 30 = .ok (.iconst 1, 1) := by decide +kernel
theorem d_T_offer_31 : decode c_T_offer 31 = .ok (.ireturn, 1) := by decide +kernel
theorem d_T_vote_0 : decode c_T_vote 0 = .ok (.aload_n 0, 1) := by decide +kernel
theorem d_T_vote_1 : decode c_T_vote 1 = .ok (.iload_n 1, 1) := by decide +kernel
theorem d_T_vote_2 : decode c_T_vote 2 = .ok (.invokevirtual 146, 3) := by decide +kernel
theorem d_T_vote_5 : decode c_T_vote 5 = .ok (.ifCond .eq 12, 3) := by decide +kernel
theorem d_T_vote_8 : decode c_T_vote 8 = .ok (.aload_n 0, 1) := by decide +kernel
theorem d_T_vote_9 : decode c_T_vote 9 = .ok (.iload_n 2, 1) := by decide +kernel
theorem d_T_vote_10 : decode c_T_vote 10 = .ok (.iload_n 3, 1) := by decide +kernel
theorem d_T_vote_11 : decode c_T_vote 11 = .ok (.invokevirtual 149, 3) := by decide +kernel
theorem d_T_vote_14 : decode c_T_vote 14 = .ok (.ifCond .ne 5, 3) := by decide +kernel
theorem d_T_vote_17 : decode c_T_vote 17 = .ok (.iconst 0, 1) := by decide +kernel
theorem d_T_vote_18 : decode c_T_vote 18 = .ok (.ireturn, 1) := by decide +kernel
theorem d_T_vote_19 : decode c_T_vote 19 = .ok (.aload_n 0, 1) := by decide +kernel
theorem d_T_vote_20 : decode c_T_vote 20 = .ok (.getfield 60, 3) := by decide +kernel
theorem d_T_vote_23 : decode c_T_vote 23 = .ok (.iconst 1, 1) := by decide +kernel
theorem d_T_vote_24 : decode c_T_vote 24 = .ok (.iload_n 3, 1) := by decide +kernel
theorem d_T_vote_25 : decode c_T_vote 25 = .ok (.iload_n 1, 1) := by decide +kernel
theorem d_T_vote_26 : decode c_T_vote 26 = .ok (.iload_n 2, 1) := by decide +kernel
theorem d_T_vote_27 : decode c_T_vote 27 = .ok (.iconst 0, 1) := by decide +kernel
theorem d_T_vote_28 : decode c_T_vote 28 = .ok (.invokevirtual 111, 3) := by decide +kernel
theorem d_T_vote_31 : decode c_T_vote 31 = .ok (.iconst 1, 1) := by decide +kernel
theorem d_T_vote_32 : decode c_T_vote 32 = .ok (.ireturn, 1) := by decide +kernel
theorem d_T_claim_0 : decode c_T_claim 0 = .ok (.aload_n 0, 1) := by decide +kernel
theorem d_T_claim_1 : decode c_T_claim 1 = .ok (.iload_n 1, 1) := by decide +kernel
theorem d_T_claim_2 : decode c_T_claim 2 = .ok (.invokevirtual 146, 3) := by decide +kernel
theorem d_T_claim_5 : decode c_T_claim 5 = .ok (.ifCond .eq 35, 3) := by decide +kernel
theorem d_T_claim_8 : decode c_T_claim 8 = .ok (.iload_n 2, 1) := by decide +kernel
theorem d_T_claim_9 : decode c_T_claim 9 = .ok (.iconst 1, 1) := by decide +kernel
theorem d_T_claim_10 : decode c_T_claim 10 = .ok (.if_icmp .lt 30, 3) := by decide +kernel
theorem d_T_claim_13 : decode c_T_claim 13 = .ok (.aload_n 0, 1) := by decide +kernel
theorem d_T_claim_14 : decode c_T_claim 14 = .ok (.iload_n 3, 1) := by decide +kernel
theorem d_T_claim_15 : decode c_T_claim 15 = .ok (.invokevirtual 137, 3) := by decide +kernel
theorem d_T_claim_18 : decode c_T_claim 18 = .ok (.ifCond .eq 22, 3) := by decide +kernel
theorem d_T_claim_21 : decode c_T_claim 21 = .ok (.aload_n 0, 1) := by decide +kernel
theorem d_T_claim_22 : decode c_T_claim 22 = .ok (.iload 4, 2) := by decide +kernel
theorem d_T_claim_24 : decode c_T_claim 24 = .ok (.invokevirtual 152, 3) := by decide +kernel
theorem d_T_claim_27 : decode c_T_claim 27 = .ok (.ifCond .eq 13, 3) := by decide +kernel
theorem d_T_claim_30 : decode c_T_claim 30 = .ok (.aload_n 0, 1) := by decide +kernel
theorem d_T_claim_31 : decode c_T_claim 31 = .ok (.getfield 60, 3) := by decide +kernel
theorem d_T_claim_34 : decode c_T_claim 34 = .ok (.invokevirtual 155, 3) := by decide +kernel
theorem d_T_claim_37 : decode c_T_claim 37 = .ok (.ifCond .eq 5, 3) := by decide +kernel
theorem d_T_claim_40 : decode c_T_claim 40 = .ok (.iconst 0, 1) := by decide +kernel
theorem d_T_claim_41 : decode c_T_claim 41 = .ok (.ireturn, 1) := by decide +kernel
theorem d_T_claim_42 : decode c_T_claim 42 = .ok (.aload_n 0, 1) := by decide +kernel
theorem d_T_claim_43 : decode c_T_claim 43 = .ok (.getfield 60, 3) := by decide +kernel
theorem d_T_claim_46 : decode c_T_claim 46 = .ok (.iconst 2, 1) := by decide +kernel
theorem d_T_claim_47 : decode c_T_claim 47 = .ok (.iload 4, 2) := by decide +kernel
theorem d_T_claim_49 : decode c_T_claim 49 = .ok (.iload_n 1, 1) := by decide +kernel
theorem d_T_claim_50 : decode c_T_claim 50 = .ok (.iload_n 3, 1) := by decide +kernel
theorem d_T_claim_51 : decode c_T_claim 51 = .ok (.iload_n 2, 1) := by decide +kernel
theorem d_T_claim_52 : decode c_T_claim 52 = .ok (.invokevirtual 111, 3) := by decide +kernel
theorem d_T_claim_55 : decode c_T_claim 55 = .ok (.iconst 1, 1) := by decide +kernel
theorem d_T_claim_56 : decode c_T_claim 56 = .ok (.ireturn, 1) := by decide +kernel
theorem d_T_waiting_0 : decode c_T_waiting 0 = .ok (.aload_n 0, 1) := by decide +kernel
theorem d_T_waiting_1 : decode c_T_waiting 1 = .ok (.getfield 60, 3) := by decide +kernel
theorem d_T_waiting_4 : decode c_T_waiting 4 = .ok (.getfield 156, 3) := by decide +kernel
theorem d_T_waiting_7 : decode c_T_waiting 7 = .ok (.ireturn, 1) := by decide +kernel
theorem d_T_message_0 : decode c_T_message 0 = .ok (.aload_n 0, 1) := by decide +kernel
theorem d_T_message_1 : decode c_T_message 1 = .ok (.getfield 60, 3) := by decide +kernel
theorem d_T_message_4 : decode c_T_message 4 = .ok (.iload_n 1, 1) := by decide +kernel
theorem d_T_message_5 : decode c_T_message 5 = .ok (.invokevirtual 128, 3) := by decide +kernel
theorem d_T_message_8 : decode c_T_message 8 = .ok (.ifCond .eq 15, 3) := by decide +kernel
theorem d_T_message_11 : decode c_T_message 11 = .ok (.aload_n 0, 1) := by decide +kernel
theorem d_T_message_12 : decode c_T_message 12 = .ok (.getfield 60, 3) := by decide +kernel
theorem d_T_message_15 : decode c_T_message 15 = .ok (.getfield 159, 3) := by decide +kernel
theorem d_T_message_18 : decode c_T_message 18 = .ok (.iload_n 1, 1) := by decide +kernel
theorem d_T_message_19 : decode c_T_message 19 = .ok (.iaload, 1) := by decide +kernel
theorem d_T_message_20 : decode c_T_message 20 = .ok (.goto 4, 3) := by decide +kernel
theorem d_T_message_23 : decode c_T_message 23 = .ok (.iconst (-1), 1) := by decide +kernel
theorem d_T_message_24 : decode c_T_message 24 = .ok (.ireturn, 1) := by decide +kernel
theorem d_T_block_0 : decode c_T_block 0 = .ok (.aload_n 0, 1) := by decide +kernel
theorem d_T_block_1 : decode c_T_block 1 = .ok (.getfield 53, 3) := by decide +kernel
theorem d_T_block_4 : decode c_T_block 4 = .ok (.iload_n 1, 1) := by decide +kernel
theorem d_T_block_5 : decode c_T_block 5 = .ok (.invokevirtual 162, 3) := by decide +kernel
theorem d_T_block_8 : decode c_T_block 8 = .ok (.ifCond .eq 28, 3) := by decide +kernel
theorem d_T_block_11 : decode c_T_block 11 = .ok (.bipush 64, 2) := by decide +kernel
theorem d_T_block_13 : decode c_T_block 13 = .ok (.aload_n 0, 1) := by decide +kernel
theorem d_T_block_14 : decode c_T_block 14 = .ok (.getfield 53, 3) := by decide +kernel
theorem d_T_block_17 : decode c_T_block 17 = .ok (.getfield 140, 3) := by decide +kernel
theorem d_T_block_20 : decode c_T_block 20 = .ok (.iload_n 1, 1) := by decide +kernel
theorem d_T_block_21 : decode c_T_block 21 = .ok (.iaload, 1) := by decide +kernel
theorem d_T_block_22 : decode c_T_block 22 = .ok (.imul, 1) := by decide +kernel
theorem d_T_block_23 : decode c_T_block 23 = .ok (.aload_n 0, 1) := by decide +kernel
theorem d_T_block_24 : decode c_T_block 24 = .ok (.getfield 53, 3) := by decide +kernel
theorem d_T_block_27 : decode c_T_block 27 = .ok (.getfield 165, 3) := by decide +kernel
theorem d_T_block_30 : decode c_T_block 30 = .ok (.iload_n 1, 1) := by decide +kernel
theorem d_T_block_31 : decode c_T_block 31 = .ok (.iaload, 1) := by decide +kernel
theorem d_T_block_32 : decode c_T_block 32 = .ok (.iadd, 1) := by decide +kernel
theorem d_T_block_33 : decode c_T_block 33 = .ok (.goto 4, 3) := by decide +kernel
theorem d_T_block_36 : decode c_T_block 36 = .ok (.iconst (-1), 1) := by decide +kernel
theorem d_T_block_37 : decode c_T_block 37 = .ok (.ireturn, 1) := by decide +kernel
theorem d_T_payload_0 : decode c_T_payload 0 = .ok (.aload_n 0, 1) := by decide +kernel
theorem d_T_payload_1 : decode c_T_payload 1 = .ok (.getfield 53, 3) := by decide +kernel
theorem d_T_payload_4 : decode c_T_payload 4 = .ok (.iload_n 1, 1) := by decide +kernel
theorem d_T_payload_5 : decode c_T_payload 5 = .ok (.invokevirtual 162, 3) := by decide +kernel
theorem d_T_payload_8 : decode c_T_payload 8 = .ok (.ifCond .eq 15, 3) := by decide +kernel
theorem d_T_payload_11 : decode c_T_payload 11 = .ok (.aload_n 0, 1) := by decide +kernel
theorem d_T_payload_12 : decode c_T_payload 12 = .ok (.getfield 53, 3) := by decide +kernel
theorem d_T_payload_15 : decode c_T_payload 15 = .ok (.getfield 168, 3) := by decide +kernel
theorem d_T_payload_18 : decode c_T_payload 18 = .ok (.iload_n 1, 1) := by decide +kernel
theorem d_T_payload_19 : decode c_T_payload 19 = .ok (.iaload, 1) := by decide +kernel
theorem d_T_payload_20 : decode c_T_payload 20 = .ok (.goto 4, 3) := by decide +kernel
theorem d_T_payload_23 : decode c_T_payload 23 = .ok (.iconst (-1), 1) := by decide +kernel
theorem d_T_payload_24 : decode c_T_payload 24 = .ok (.ireturn, 1) := by decide +kernel
end
section
theorem d_T_votes_0 : decode c_T_votes 0 = .ok (.aload_n 0, 1) := by decide +kernel
theorem d_T_votes_1 : decode c_T_votes 1 = .ok (.getfield 53, 3) := by decide +kernel
theorem d_T_votes_4 : decode c_T_votes 4 = .ok (.iload_n 1, 1) := by decide +kernel
theorem d_T_votes_5 : decode c_T_votes 5 = .ok (.invokevirtual 162, 3) := by decide +kernel
theorem d_T_votes_8 : decode c_T_votes 8 = .ok (.ifCond .eq 15, 3) := by decide +kernel
theorem d_T_votes_11 : decode c_T_votes 11 = .ok (.aload_n 0, 1) := by decide +kernel
theorem d_T_votes_12 : decode c_T_votes 12 = .ok (.getfield 53, 3) := by decide +kernel
theorem d_T_votes_15 : decode c_T_votes 15 = .ok (.getfield 171, 3) := by decide +kernel
theorem d_T_votes_18 : decode c_T_votes 18 = .ok (.iload_n 1, 1) := by decide +kernel
theorem d_T_votes_19 : decode c_T_votes 19 = .ok (.iaload, 1) := by decide +kernel
theorem d_T_votes_20 : decode c_T_votes 20 = .ok (.goto 4, 3) := by decide +kernel
theorem d_T_votes_23 : decode c_T_votes 23 = .ok (.iconst (-1), 1) := by decide +kernel
theorem d_T_votes_24 : decode c_T_votes 24 = .ok (.ireturn, 1) := by decide +kernel
theorem d_T_state_0 : decode c_T_state 0 = .ok (.aload_n 0, 1) := by decide +kernel
theorem d_T_state_1 : decode c_T_state 1 = .ok (.iload_n 1, 1) := by decide +kernel
theorem d_T_state_2 : decode c_T_state 2 = .ok (.invokevirtual 90, 3) := by decide +kernel
theorem d_T_state_5 : decode c_T_state 5 = .ok (.ifCond .ne 5, 3) := by decide +kernel
theorem d_T_state_8 : decode c_T_state 8 = .ok (.iconst (-1), 1) := by decide +kernel
theorem d_T_state_9 : decode c_T_state 9 = .ok (.ireturn, 1) := by decide +kernel
theorem d_T_state_10 : decode c_T_state 10 = .ok (.aload_n 0, 1) := by decide +kernel
theorem d_T_state_11 : decode c_T_state 11 = .ok (.getfield 36, 3) := by decide +kernel
theorem d_T_state_14 : decode c_T_state 14 = .ok (.iload_n 1, 1) := by decide +kernel
theorem d_T_state_15 : decode c_T_state 15 = .ok (.aaload, 1) := by decide +kernel
theorem d_T_state_16 : decode c_T_state 16 = .ok (.astore_n 3, 1) := by decide +kernel
theorem d_T_state_17 : decode c_T_state 17 = .ok (.iload_n 2, 1) := by decide +kernel
theorem d_T_state_18 : decode c_T_state 18 = .ok (.tableswitch 99 0 8 #[50, 55, 60, 65, 70, 75, 80, 85, 90], 50) := by decide +kernel
theorem d_T_state_68 : decode c_T_state 68 = .ok (.aload_n 3, 1) := by decide +kernel
theorem d_T_state_69 : decode c_T_state 69 = .ok (.getfield 104, 3) := by decide +kernel
theorem d_T_state_72 : decode c_T_state 72 = .ok (.ireturn, 1) := by decide +kernel
theorem d_T_state_73 : decode c_T_state 73 = .ok (.aload_n 3, 1) := by decide +kernel
theorem d_T_state_74 : decode c_T_state 74 = .ok (.getfield 115, 3) := by decide +kernel
theorem d_T_state_77 : decode c_T_state 77 = .ok (.ireturn, 1) := by decide +kernel
theorem d_T_state_78 : decode c_T_state 78 = .ok (.aload_n 3, 1) := by decide +kernel
theorem d_T_state_79 : decode c_T_state 79 = .ok (.getfield 118, 3) := by decide +kernel
theorem d_T_state_82 : decode c_T_state 82 = .ok (.ireturn, 1) := by decide +kernel
theorem d_T_state_83 : decode c_T_state 83 = .ok (.aload_n 3, 1) := by decide +kernel
theorem d_T_state_84 : decode c_T_state 84 = .ok (.getfield 174, 3) := by decide +kernel
theorem d_T_state_87 : decode c_T_state 87 = .ok (.ireturn, 1) := by decide +kernel
theorem d_T_state_88 : decode c_T_state 88 = .ok (.aload_n 3, 1) := by decide +kernel
theorem d_T_state_89 : decode c_T_state 89 = .ok (.getfield 108, 3) := by decide +kernel
theorem d_T_state_92 : decode c_T_state 92 = .ok (.ireturn, 1) := by decide +kernel
theorem d_T_state_93 : decode c_T_state 93 = .ok (.aload_n 3, 1) := by decide +kernel
theorem d_T_state_94 : decode c_T_state 94 = .ok (.getfield 101, 3) := by decide +kernel
theorem d_T_state_97 : decode c_T_state 97 = .ok (.ireturn, 1) := by decide +kernel
theorem d_T_state_98 : decode c_T_state 98 = .ok (.aload_n 3, 1) := by decide +kernel
theorem d_T_state_99 : decode c_T_state 99 = .ok (.getfield 177, 3) := by decide +kernel
theorem d_T_state_102 : decode c_T_state 102 = .ok (.ireturn, 1) := by decide +kernel
theorem d_T_state_103 : decode c_T_state 103 = .ok (.aload_n 3, 1) := by decide +kernel
theorem d_T_state_104 : decode c_T_state 104 = .ok (.getfield 180, 3) := by decide +kernel
theorem d_T_state_107 : decode c_T_state 107 = .ok (.ireturn, 1) := by decide +kernel
theorem d_T_state_108 : decode c_T_state 108 = .ok (.aload_n 3, 1) := by decide +kernel
theorem d_T_state_109 : decode c_T_state 109 = .ok (.aload_n 0, 1) := by decide +kernel
theorem d_T_state_110 : decode c_T_state 110 = .ok (.getfield 13, 3) := by decide +kernel
theorem d_T_state_113 : decode c_T_state 113 = .ok (.invokevirtual 183, 3) := by decide +kernel
theorem d_T_state_116 : decode c_T_state 116 = .ok (.ireturn, 1) := by decide +kernel
theorem d_T_state_117 : decode c_T_state 117 = .ok (.iconst (-1), 1) := by decide +kernel
theorem d_T_state_118 : decode c_T_state 118 = .ok (.ireturn, 1) := by decide +kernel
theorem d_T_committed_0 : decode c_T_committed 0 = .ok (.aload_n 0, 1) := by decide +kernel
theorem d_T_committed_1 : decode c_T_committed 1 = .ok (.iload_n 1, 1) := by decide +kernel
theorem d_T_committed_2 : decode c_T_committed 2 = .ok (.invokevirtual 90, 3) := by decide +kernel
theorem d_T_committed_5 : decode c_T_committed 5 = .ok (.ifCond .eq 7, 3) := by decide +kernel
theorem d_T_committed_8 : decode c_T_committed 8 = .ok (.iload_n 2, 1) := by decide +kernel
theorem d_T_committed_9 : decode c_T_committed 9 = .ok (.ifCond .ge 5, 3) := by decide +kernel
theorem d_T_committed_12 : decode c_T_committed 12 = .ok (.iconst (-1), 1) := by decide +kernel
theorem d_T_committed_13 : decode c_T_committed 13 = .ok (.ireturn, 1) := by decide +kernel
theorem d_T_committed_14 : decode c_T_committed 14 = .ok (.aload_n 0, 1) := by decide +kernel
theorem d_T_committed_15 : decode c_T_committed 15 = .ok (.getfield 53, 3) := by decide +kernel
theorem d_T_committed_18 : decode c_T_committed 18 = .ok (.aload_n 0, 1) := by decide +kernel
theorem d_T_committed_19 : decode c_T_committed 19 = .ok (.getfield 36, 3) := by decide +kernel
theorem d_T_committed_22 : decode c_T_committed 22 = .ok (.iload_n 1, 1) := by decide +kernel
theorem d_T_committed_23 : decode c_T_committed 23 = .ok (.aaload, 1) := by decide +kernel
theorem d_T_committed_24 : decode c_T_committed 24 = .ok (.getfield 180, 3) := by decide +kernel
theorem d_T_committed_27 : decode c_T_committed 27 = .ok (.iload_n 2, 1) := by decide +kernel
theorem d_T_committed_28 : decode c_T_committed 28 = .ok (.invokevirtual 186, 3) := by decide +kernel
theorem d_T_committed_31 : decode c_T_committed 31 = .ok (.ireturn, 1) := by decide +kernel
theorem d_T_balance_0 : decode c_T_balance 0 = .ok (.aload_n 0, 1) := by decide +kernel
theorem d_T_balance_1 : decode c_T_balance 1 = .ok (.iload_n 1, 1) := by decide +kernel
theorem d_T_balance_2 : decode c_T_balance 2 = .ok (.invokevirtual 90, 3) := by decide +kernel
theorem d_T_balance_5 : decode c_T_balance 5 = .ok (.ifCond .eq 10, 3) := by decide +kernel
theorem d_T_balance_8 : decode c_T_balance 8 = .ok (.iload_n 2, 1) := by decide +kernel
theorem d_T_balance_9 : decode c_T_balance 9 = .ok (.invokestatic 71, 3) := by decide +kernel
theorem d_T_balance_12 : decode c_T_balance 12 = .ok (.ifCond .ne 5, 3) := by decide +kernel
theorem d_T_balance_15 : decode c_T_balance 15 = .ok (.iconst (-1), 1) := by decide +kernel
theorem d_T_balance_16 : decode c_T_balance 16 = .ok (.ireturn, 1) := by decide +kernel
theorem d_T_balance_17 : decode c_T_balance 17 = .ok (.aload_n 0, 1) := by decide +kernel
theorem d_T_balance_18 : decode c_T_balance 18 = .ok (.getfield 67, 3) := by decide +kernel
theorem d_T_balance_21 : decode c_T_balance 21 = .ok (.aload_n 0, 1) := by decide +kernel
theorem d_T_balance_22 : decode c_T_balance 22 = .ok (.getfield 36, 3) := by decide +kernel
theorem d_T_balance_25 : decode c_T_balance 25 = .ok (.iload_n 1, 1) := by decide +kernel
theorem d_T_balance_26 : decode c_T_balance 26 = .ok (.aaload, 1) := by decide +kernel
theorem d_T_balance_27 : decode c_T_balance 27 = .ok (.getfield 180, 3) := by decide +kernel
theorem d_T_balance_30 : decode c_T_balance 30 = .ok (.aload_n 0, 1) := by decide +kernel
theorem d_T_balance_31 : decode c_T_balance 31 = .ok (.getfield 53, 3) := by decide +kernel
theorem d_T_balance_34 : decode c_T_balance 34 = .ok (.aload_n 0, 1) := by decide +kernel
theorem d_T_balance_35 : decode c_T_balance 35 = .ok (.getfield 46, 3) := by decide +kernel
theorem d_T_balance_38 : decode c_T_balance 38 = .ok (.invokevirtual 189, 3) := by decide +kernel
theorem d_T_balance_41 : decode c_T_balance 41 = .ok (.aload_n 0, 1) := by decide +kernel
theorem d_T_balance_42 : decode c_T_balance 42 = .ok (.getfield 67, 3) := by decide +kernel
theorem d_T_balance_45 : decode c_T_balance 45 = .ok (.getfield 193, 3) := by decide +kernel
theorem d_T_balance_48 : decode c_T_balance 48 = .ok (.iload_n 2, 1) := by decide +kernel
theorem d_T_balance_49 : decode c_T_balance 49 = .ok (.iaload, 1) := by decide +kernel
theorem d_T_balance_50 : decode c_T_balance 50 = .ok (.ireturn, 1) := by decide +kernel
theorem d_T_outcome_0 : decode c_T_outcome 0 = .ok (.aload_n 0, 1) := by decide +kernel
theorem d_T_outcome_1 : decode c_T_outcome 1 = .ok (.iload_n 1, 1) := by decide +kernel
theorem d_T_outcome_2 : decode c_T_outcome 2 = .ok (.invokevirtual 90, 3) := by decide +kernel
theorem d_T_outcome_5 : decode c_T_outcome 5 = .ok (.ifCond .eq 14, 3) := by decide +kernel
theorem d_T_outcome_8 : decode c_T_outcome 8 = .ok (.aload_n 0, 1) := by decide +kernel
theorem d_T_outcome_9 : decode c_T_outcome 9 = .ok (.getfield 46, 3) := by decide +kernel
theorem d_T_outcome_12 : decode c_T_outcome 12 = .ok (.iload_n 2, 1) := by decide +kernel
theorem d_T_outcome_13 : decode c_T_outcome 13 = .ok (.invokevirtual 196, 3) := by decide +kernel
theorem d_T_outcome_16 : decode c_T_outcome 16 = .ok (.ifCond .ne 5, 3) := by decide +kernel
theorem d_T_outcome_19 : decode c_T_outcome 19 = .ok (.iconst (-1), 1) := by decide +kernel
theorem d_T_outcome_20 : decode c_T_outcome 20 = .ok (.ireturn, 1) := by decide +kernel
theorem d_T_outcome_21 : decode c_T_outcome 21 = .ok (.aload_n 0, 1) := by decide +kernel
theorem d_T_outcome_22 : decode c_T_outcome 22 = .ok (.getfield 67, 3) := by decide +kernel
theorem d_T_outcome_25 : decode c_T_outcome 25 = .ok (.aload_n 0, 1) := by decide +kernel
theorem d_T_outcome_26 : decode c_T_outcome 26 = .ok (.getfield 36, 3) := by decide +kernel
theorem d_T_outcome_29 : decode c_T_outcome 29 = .ok (.iload_n 1, 1) := by decide +kernel
theorem d_T_outcome_30 : decode c_T_outcome 30 = .ok (.aaload, 1) := by decide +kernel
theorem d_T_outcome_31 : decode c_T_outcome 31 = .ok (.getfield 180, 3) := by decide +kernel
theorem d_T_outcome_34 : decode c_T_outcome 34 = .ok (.aload_n 0, 1) := by decide +kernel
theorem d_T_outcome_35 : decode c_T_outcome 35 = .ok (.getfield 53, 3) := by decide +kernel
theorem d_T_outcome_38 : decode c_T_outcome 38 = .ok (.aload_n 0, 1) := by decide +kernel
theorem d_T_outcome_39 : decode c_T_outcome 39 = .ok (.getfield 46, 3) := by decide +kernel
theorem d_T_outcome_42 : decode c_T_outcome 42 = .ok (.invokevirtual 189, 3) := by decide +kernel
theorem d_T_outcome_45 : decode c_T_outcome 45 = .ok (.aload_n 0, 1) := by decide +kernel
theorem d_T_outcome_46 : decode c_T_outcome 46 = .ok (.getfield 67, 3) := by decide +kernel
theorem d_T_outcome_49 : decode c_T_outcome 49 = .ok (.getfield 197, 3) := by decide +kernel
theorem d_T_outcome_52 : decode c_T_outcome 52 = .ok (.iload_n 2, 1) := by decide +kernel
theorem d_T_outcome_53 : decode c_T_outcome 53 = .ok (.iaload, 1) := by decide +kernel
theorem d_T_outcome_54 : decode c_T_outcome 54 = .ok (.ireturn, 1) := by decide +kernel
theorem d_T_lost_0 : decode c_T_lost 0 = .ok (.aload_n 0, 1) := by decide +kernel
theorem d_T_lost_1 : decode c_T_lost 1 = .ok (.getfield 60, 3) := by decide +kernel
theorem d_T_lost_4 : decode c_T_lost 4 = .ok (.getfield 200, 3) := by decide +kernel
theorem d_T_lost_7 : decode c_T_lost 7 = .ok (.ireturn, 1) := by decide +kernel
theorem d_T_hasMember_0 : decode c_T_hasMember 0 = .ok (.iload_n 0, 1) := by decide +kernel
theorem d_T_hasMember_1 : decode c_T_hasMember 1 = .ok (.iload_n 1, 1) := by decide +kernel
theorem d_T_hasMember_2 : decode c_T_hasMember 2 = .ok (.iushr, 1) := by decide +kernel
theorem d_T_hasMember_3 : decode c_T_hasMember 3 = .ok (.iconst 1, 1) := by decide +kernel
theorem d_T_hasMember_4 : decode c_T_hasMember 4 = .ok (.iand, 1) := by decide +kernel
theorem d_T_hasMember_5 : decode c_T_hasMember 5 = .ok (.ifCond .eq 7, 3) := by decide +kernel
theorem d_T_hasMember_8 : decode c_T_hasMember 8 = .ok (.iconst 1, 1) := by decide +kernel
theorem d_T_hasMember_9 : decode c_T_hasMember 9 = .ok (.goto 4, 3) := by decide +kernel
theorem d_T_hasMember_12 : decode c_T_hasMember 12 = .ok (.iconst 0, 1) := by decide +kernel
theorem d_T_hasMember_13 : decode c_T_hasMember 13 = .ok (.ireturn, 1) := by decide +kernel
theorem d_T_leastMembers_0 : decode c_T_leastMembers 0 = .ok (.iload_n 0, 1) := by decide +kernel
theorem d_T_leastMembers_1 : decode c_T_leastMembers 1 = .ok (.istore_n 2, 1) := by decide +kernel
theorem d_T_leastMembers_2 : decode c_T_leastMembers 2 = .ok (.iconst 0, 1) := by decide +kernel
theorem d_T_leastMembers_3 : decode c_T_leastMembers 3 = .ok (.istore_n 3, 1) := by decide +kernel
theorem d_T_leastMembers_4 : decode c_T_leastMembers 4 = .ok (.iload_n 3, 1) := by decide +kernel
theorem d_T_leastMembers_5 : decode c_T_leastMembers 5 = .ok (.iload_n 1, 1) := by decide +kernel
theorem d_T_leastMembers_6 : decode c_T_leastMembers 6 = .ok (.if_icmp .ge 15, 3) := by decide +kernel
theorem d_T_leastMembers_9 : decode c_T_leastMembers 9 = .ok (.iload_n 2, 1) := by decide +kernel
theorem d_T_leastMembers_10 : decode c_T_leastMembers 10 = .ok (.iload_n 2, 1) := by decide +kernel
theorem d_T_leastMembers_11 : decode c_T_leastMembers 11 = .ok (.iconst 1, 1) := by decide +kernel
theorem d_T_leastMembers_12 : decode c_T_leastMembers 12 = .ok (.isub, 1) := by decide +kernel
theorem d_T_leastMembers_13 : decode c_T_leastMembers 13 = .ok (.iand, 1) := by decide +kernel
theorem d_T_leastMembers_14 : decode c_T_leastMembers 14 = .ok (.istore_n 2, 1) := by decide +kernel
theorem d_T_leastMembers_15 : decode c_T_leastMembers 15 = .ok (.iinc 3 1, 3) := by decide +kernel
theorem d_T_leastMembers_18 : decode c_T_leastMembers 18 = .ok (.goto (-14), 3) := by decide +kernel
theorem d_T_leastMembers_21 : decode c_T_leastMembers 21 = .ok (.iload_n 0, 1) := by decide +kernel
theorem d_T_leastMembers_22 : decode c_T_leastMembers 22 = .ok (.iload_n 2, 1) := by decide +kernel
theorem d_T_leastMembers_23 : decode c_T_leastMembers 23 = .ok (.iconst (-1), 1) := by decide +kernel
theorem d_T_leastMembers_24 : decode c_T_leastMembers 24 = .ok (.ixor, 1) := by decide +kernel
theorem d_T_leastMembers_25 : decode c_T_leastMembers 25 = .ok (.iand, 1) := by decide +kernel
theorem d_T_leastMembers_26 : decode c_T_leastMembers 26 = .ok (.ireturn, 1) := by decide +kernel
theorem d_T_isAccount_0 : decode c_T_isAccount 0 = .ok (.iload_n 0, 1) := by decide +kernel
theorem d_T_isAccount_1 : decode c_T_isAccount 1 = .ok (.ifCond .lt 12, 3) := by decide +kernel
theorem d_T_isAccount_4 : decode c_T_isAccount 4 = .ok (.iload_n 0, 1) := by decide +kernel
theorem d_T_isAccount_5 : decode c_T_isAccount 5 = .ok (.iconst 4, 1) := by decide +kernel
theorem d_T_isAccount_6 : decode c_T_isAccount 6 = .ok (.if_icmp .ge 7, 3) := by decide +kernel
theorem d_T_isAccount_9 : decode c_T_isAccount 9 = .ok (.iconst 1, 1) := by decide +kernel
theorem d_T_isAccount_10 : decode c_T_isAccount 10 = .ok (.goto 4, 3) := by decide +kernel
theorem d_T_isAccount_13 : decode c_T_isAccount 13 = .ok (.iconst 0, 1) := by decide +kernel
theorem d_T_isAccount_14 : decode c_T_isAccount 14 = .ok (.ireturn, 1) := by decide +kernel
theorem d_T_isReplica_0 : decode c_T_isReplica 0 = .ok (.iload_n 1, 1) := by decide +kernel
theorem d_T_isReplica_1 : decode c_T_isReplica 1 = .ok (.ifCond .lt 15, 3) := by decide +kernel
theorem d_T_isReplica_4 : decode c_T_isReplica 4 = .ok (.iload_n 1, 1) := by decide +kernel
theorem d_T_isReplica_5 : decode c_T_isReplica 5 = .ok (.aload_n 0, 1) := by decide +kernel
theorem d_T_isReplica_6 : decode c_T_isReplica 6 = .ok (.getfield 7, 3) := by decide +kernel
theorem d_T_isReplica_9 : decode c_T_isReplica 9 = .ok (.if_icmp .ge 7, 3) := by decide +kernel
theorem d_T_isReplica_12 : decode c_T_isReplica 12 = .ok (.iconst 1, 1) := by decide +kernel
theorem d_T_isReplica_13 : decode c_T_isReplica 13 = .ok (.goto 4, 3) := by decide +kernel
theorem d_T_isReplica_16 : decode c_T_isReplica 16 = .ok (.iconst 0, 1) := by decide +kernel
theorem d_T_isReplica_17 : decode c_T_isReplica 17 = .ok (.ireturn, 1) := by decide +kernel
theorem d_T_isCorrupt_0 : decode c_T_isCorrupt 0 = .ok (.aload_n 0, 1) := by decide +kernel
theorem d_T_isCorrupt_1 : decode c_T_isCorrupt 1 = .ok (.iload_n 1, 1) := by decide +kernel
theorem d_T_isCorrupt_2 : decode c_T_isCorrupt 2 = .ok (.invokevirtual 152, 3) := by decide +kernel
theorem d_T_isCorrupt_5 : decode c_T_isCorrupt 5 = .ok (.ifCond .eq 18, 3) := by decide +kernel
theorem d_T_isCorrupt_8 : decode c_T_isCorrupt 8 = .ok (.aload_n 0, 1) := by decide +kernel
theorem d_T_isCorrupt_9 : decode c_T_isCorrupt 9 = .ok (.getfield 31, 3) := by decide +kernel
theorem d_T_isCorrupt_12 : decode c_T_isCorrupt 12 = .ok (.iload_n 1, 1) := by decide +kernel
theorem d_T_isCorrupt_13 : decode c_T_isCorrupt 13 = .ok (.invokestatic 83, 3) := by decide +kernel
theorem d_T_isCorrupt_16 : decode c_T_isCorrupt 16 = .ok (.ifCond .eq 7, 3) := by decide +kernel
theorem d_T_isCorrupt_19 : decode c_T_isCorrupt 19 = .ok (.iconst 1, 1) := by decide +kernel
theorem d_T_isCorrupt_20 : decode c_T_isCorrupt 20 = .ok (.goto 4, 3) := by decide +kernel
theorem d_T_isCorrupt_23 : decode c_T_isCorrupt 23 = .ok (.iconst 0, 1) := by decide +kernel
theorem d_T_isCorrupt_24 : decode c_T_isCorrupt 24 = .ok (.ireturn, 1) := by decide +kernel
theorem d_T_isCorrect_0 : decode c_T_isCorrect 0 = .ok (.aload_n 0, 1) := by decide +kernel
theorem d_T_isCorrect_1 : decode c_T_isCorrect 1 = .ok (.iload_n 1, 1) := by decide +kernel
theorem d_T_isCorrect_2 : decode c_T_isCorrect 2 = .ok (.invokevirtual 152, 3) := by decide +kernel
theorem d_T_isCorrect_5 : decode c_T_isCorrect 5 = .ok (.ifCond .eq 18, 3) := by decide +kernel
theorem d_T_isCorrect_8 : decode c_T_isCorrect 8 = .ok (.aload_n 0, 1) := by decide +kernel
theorem d_T_isCorrect_9 : decode c_T_isCorrect 9 = .ok (.getfield 31, 3) := by decide +kernel
theorem d_T_isCorrect_12 : decode c_T_isCorrect 12 = .ok (.iload_n 1, 1) := by decide +kernel
theorem d_T_isCorrect_13 : decode c_T_isCorrect 13 = .ok (.invokestatic 83, 3) := by decide +kernel
theorem d_T_isCorrect_16 : decode c_T_isCorrect 16 = .ok (.ifCond .ne 7, 3) := by decide +kernel
theorem d_T_isCorrect_19 : decode c_T_isCorrect 19 = .ok (.iconst 1, 1) := by decide +kernel
theorem d_T_isCorrect_20 : decode c_T_isCorrect 20 = .ok (.goto 4, 3) := by decide +kernel
theorem d_T_isCorrect_23 : decode c_T_isCorrect 23 = .ok (.iconst 0, 1) := by decide +kernel
theorem d_T_isCorrect_24 : decode c_T_isCorrect 24 = .ok (.ireturn, 1) := by decide +kernel
theorem d_T_leaderOf_0 : decode c_T_leaderOf 0 = .ok (.iload_n 1, 1) := by decide +kernel
theorem d_T_leaderOf_1 : decode c_T_leaderOf 1 = .ok (.iconst 1, 1) := by decide +kernel
theorem d_T_leaderOf_2 : decode c_T_leaderOf 2 = .ok (.isub, 1) := by decide +kernel
theorem d_T_leaderOf_3 : decode c_T_leaderOf 3 = .ok (.aload_n 0, 1) := by decide +kernel
theorem d_T_leaderOf_4 : decode c_T_leaderOf 4 = .ok (.getfield 25, 3) := by decide +kernel
theorem d_T_leaderOf_7 : decode c_T_leaderOf 7 = .ok (.idiv, 1) := by decide +kernel
theorem d_T_leaderOf_8 : decode c_T_leaderOf 8 = .ok (.aload_n 0, 1) := by decide +kernel
theorem d_T_leaderOf_9 : decode c_T_leaderOf 9 = .ok (.getfield 7, 3) := by decide +kernel
theorem d_T_leaderOf_12 : decode c_T_leaderOf 12 = .ok (.invokestatic 203, 3) := by decide +kernel
theorem d_T_leaderOf_15 : decode c_T_leaderOf 15 = .ok (.ireturn, 1) := by decide +kernel
theorem d_T_mayPropose_0 : decode c_T_mayPropose 0 = .ok (.aload_n 0, 1) := by decide +kernel
theorem d_T_mayPropose_1 : decode c_T_mayPropose 1 = .ok (.getfield 36, 3) := by decide +kernel
theorem d_T_mayPropose_4 : decode c_T_mayPropose 4 = .ok (.iload_n 1, 1) := by decide +kernel
theorem d_T_mayPropose_5 : decode c_T_mayPropose 5 = .ok (.aaload, 1) := by decide +kernel
theorem d_T_mayPropose_6 : decode c_T_mayPropose 6 = .ok (.astore_n 2, 1) := by decide +kernel
theorem d_T_mayPropose_7 : decode c_T_mayPropose 7 = .ok (.aload_n 2, 1) := by decide +kernel
theorem d_T_mayPropose_8 : decode c_T_mayPropose 8 = .ok (.getfield 104, 3) := by decide +kernel
theorem d_T_mayPropose_11 : decode c_T_mayPropose 11 = .ok (.istore_n 3, 1) := by decide +kernel
theorem d_T_mayPropose_12 : decode c_T_mayPropose 12 = .ok (.aload_n 0, 1) := by decide +kernel
theorem d_T_mayPropose_13 : decode c_T_mayPropose 13 = .ok (.iload_n 3, 1) := by decide +kernel
theorem d_T_mayPropose_14 : decode c_T_mayPropose 14 = .ok (.invokevirtual 124, 3) := by decide +kernel
theorem d_T_mayPropose_17 : decode c_T_mayPropose 17 = .ok (.iload_n 1, 1) := by decide +kernel
theorem d_T_mayPropose_18 : decode c_T_mayPropose 18 = .ok (.if_icmp .ne 11, 3) := by decide +kernel
theorem d_T_mayPropose_21 : decode c_T_mayPropose 21 = .ok (.aload_n 2, 1) := by decide +kernel
theorem d_T_mayPropose_22 : decode c_T_mayPropose 22 = .ok (.getfield 108, 3) := by decide +kernel
theorem d_T_mayPropose_25 : decode c_T_mayPropose 25 = .ok (.iload_n 3, 1) := by decide +kernel
theorem d_T_mayPropose_26 : decode c_T_mayPropose 26 = .ok (.if_icmp .ne 5, 3) := by decide +kernel
theorem d_T_mayPropose_29 : decode c_T_mayPropose 29 = .ok (.iconst 0, 1) := by decide +kernel
theorem d_T_mayPropose_30 : decode c_T_mayPropose 30 = .ok (.ireturn, 1) := by decide +kernel
theorem d_T_mayPropose_31 : decode c_T_mayPropose 31 = .ok (.iload_n 3, 1) := by decide +kernel
theorem d_T_mayPropose_32 : decode c_T_mayPropose 32 = .ok (.iconst 1, 1) := by decide +kernel
theorem d_T_mayPropose_33 : decode c_T_mayPropose 33 = .ok (.if_icmp .eq 33, 3) := by decide +kernel
theorem d_T_mayPropose_36 : decode c_T_mayPropose 36 = .ok (.aload_n 0, 1) := by decide +kernel
theorem d_T_mayPropose_37 : decode c_T_mayPropose 37 = .ok (.getfield 53, 3) := by decide +kernel
theorem d_T_mayPropose_40 : decode c_T_mayPropose 40 = .ok (.getfield 140, 3) := by decide +kernel
theorem d_T_mayPropose_43 : decode c_T_mayPropose 43 = .ok (.aload_n 2, 1) := by decide +kernel
theorem d_T_mayPropose_44 : decode c_T_mayPropose 44 = .ok (.getfield 101, 3) := by decide +kernel
theorem d_T_mayPropose_47 : decode c_T_mayPropose 47 = .ok (.iaload, 1) := by decide +kernel
theorem d_T_mayPropose_48 : decode c_T_mayPropose 48 = .ok (.iload_n 3, 1) := by decide +kernel
theorem d_T_mayPropose_49 : decode c_T_mayPropose 49 = .ok (.iconst 1, 1) := by decide +kernel
theorem d_T_mayPropose_50 : decode c_T_mayPropose 50 = .ok (.isub, 1) := by decide +kernel
theorem d_T_mayPropose_51 : decode c_T_mayPropose 51 = .ok (.if_icmp .eq 15, 3) := by decide +kernel
theorem d_T_mayPropose_54 : decode c_T_mayPropose 54 = .ok (.aload_n 2, 1) := by decide +kernel
theorem d_T_mayPropose_55 : decode c_T_mayPropose 55 = .ok (.aload_n 0, 1) := by decide +kernel
theorem d_T_mayPropose_56 : decode c_T_mayPropose 56 = .ok (.getfield 13, 3) := by decide +kernel
theorem d_T_mayPropose_59 : decode c_T_mayPropose 59 = .ok (.invokevirtual 183, 3) := by decide +kernel
theorem d_T_mayPropose_62 : decode c_T_mayPropose 62 = .ok (.iload_n 3, 1) := by decide +kernel
theorem d_T_mayPropose_63 : decode c_T_mayPropose 63 = .ok (.if_icmp .lt 7, 3) := by decide +kernel
theorem d_T_mayPropose_66 : decode c_T_mayPropose 66 = .ok (.iconst 1, 1) := by decide +kernel
theorem d_T_mayPropose_67 : decode c_T_mayPropose 67 = .ok (.goto 4, 3) := by decide +kernel
theorem d_T_mayPropose_70 : decode c_T_mayPropose 70 = .ok (.iconst 0, 1) := by decide +kernel
theorem d_T_mayPropose_71 : decode c_T_mayPropose 71 = .ok (.ireturn, 1) := by decide +kernel
theorem d_T_maySend_0 : decode c_T_maySend 0 = .ok (.iload_n 1, 1) := by decide +kernel
theorem d_T_maySend_1 : decode c_T_maySend 1 = .ok (.ifCond .eq 36, 3) := by decide +kernel
theorem d_T_maySend_4 : decode c_T_maySend 4 = .ok (.aload_n 0, 1) := by decide +kernel
theorem d_T_maySend_5 : decode c_T_maySend 5 = .ok (.getfield 53, 3) := by decide +kernel
theorem d_T_maySend_8 : decode c_T_maySend 8 = .ok (.iload_n 1, 1) := by decide +kernel
theorem d_T_maySend_9 : decode c_T_maySend 9 = .ok (.invokevirtual 162, 3) := by decide +kernel
theorem d_T_maySend_12 : decode c_T_maySend 12 = .ok (.ifCond .eq 25, 3) := by decide +kernel
theorem d_T_maySend_15 : decode c_T_maySend 15 = .ok (.aload_n 0, 1) := by decide +kernel
theorem d_T_maySend_16 : decode c_T_maySend 16 = .ok (.iload_n 2, 1) := by decide +kernel
theorem d_T_maySend_17 : decode c_T_maySend 17 = .ok (.invokevirtual 152, 3) := by decide +kernel
theorem d_T_maySend_20 : decode c_T_maySend 20 = .ok (.ifCond .eq 17, 3) := by decide +kernel
theorem d_T_maySend_23 : decode c_T_maySend 23 = .ok (.aload_n 0, 1) := by decide +kernel
theorem d_T_maySend_24 : decode c_T_maySend 24 = .ok (.getfield 60, 3) := by decide +kernel
theorem d_T_maySend_27 : decode c_T_maySend 27 = .ok (.invokevirtual 155, 3) := by decide +kernel
theorem d_T_maySend_30 : decode c_T_maySend 30 = .ok (.ifCond .ne 7, 3) := by decide +kernel
theorem d_T_maySend_33 : decode c_T_maySend 33 = .ok (.iconst 1, 1) := by decide +kernel
theorem d_T_maySend_34 : decode c_T_maySend 34 = .ok (.goto 4, 3) := by decide +kernel
theorem d_T_maySend_37 : decode c_T_maySend 37 = .ok (.iconst 0, 1) := by decide +kernel
theorem d_T_maySend_38 : decode c_T_maySend 38 = .ok (.ireturn, 1) := by decide +kernel
theorem d_T_hasCertificate_0 : decode c_T_hasCertificate 0 = .ok (.aload_n 0, 1) := by decide +kernel
theorem d_T_hasCertificate_1 : decode c_T_hasCertificate 1 = .ok (.getfield 53, 3) := by decide +kernel
theorem d_T_hasCertificate_4 : decode c_T_hasCertificate 4 = .ok (.iload_n 1, 1) := by decide +kernel
theorem d_T_hasCertificate_5 : decode c_T_hasCertificate 5 = .ok (.invokevirtual 162, 3) := by decide +kernel
theorem d_T_hasCertificate_8 : decode c_T_hasCertificate 8 = .ok (.ifCond .ne 5, 3) := by decide +kernel
theorem d_T_hasCertificate_11 : decode c_T_hasCertificate 11 = .ok (.iconst 0, 1) := by decide +kernel
theorem d_T_hasCertificate_12 : decode c_T_hasCertificate 12 = .ok (.ireturn, 1) := by decide +kernel
theorem d_T_hasCertificate_13 : decode c_T_hasCertificate 13 = .ok (.iload_n 1, 1) := by decide +kernel
theorem d_T_hasCertificate_14 : decode c_T_hasCertificate 14 = .ok (.ifCond .eq 27, 3) := by decide +kernel
theorem d_T_hasCertificate_17 : decode c_T_hasCertificate 17 = .ok (.aload_n 0, 1) := by decide +kernel
theorem d_T_hasCertificate_18 : decode c_T_hasCertificate 18 = .ok (.getfield 53, 3) := by decide +kernel
theorem d_T_hasCertificate_21 : decode c_T_hasCertificate 21 = .ok (.getfield 171, 3) := by decide +kernel
theorem d_T_hasCertificate_24 : decode c_T_hasCertificate 24 = .ok (.iload_n 1, 1) := by decide +kernel
theorem d_T_hasCertificate_25 : decode c_T_hasCertificate 25 = .ok (.iaload, 1) := by decide +kernel
theorem d_T_hasCertificate_26 : decode c_T_hasCertificate 26 = .ok (.aload_n 0, 1) := by decide +kernel
theorem d_T_hasCertificate_27 : decode c_T_hasCertificate 27 = .ok (.getfield 31, 3) := by decide +kernel
theorem d_T_hasCertificate_30 : decode c_T_hasCertificate 30 = .ok (.ior, 1) := by decide +kernel
theorem d_T_hasCertificate_31 : decode c_T_hasCertificate 31 = .ok (.invokestatic 206, 3) := by decide +kernel
theorem d_T_hasCertificate_34 : decode c_T_hasCertificate 34 = .ok (.aload_n 0, 1) := by decide +kernel
theorem d_T_hasCertificate_35 : decode c_T_hasCertificate 35 = .ok (.getfield 13, 3) := by decide +kernel
theorem d_T_hasCertificate_38 : decode c_T_hasCertificate 38 = .ok (.if_icmp .lt 7, 3) := by decide +kernel
theorem d_T_hasCertificate_41 : decode c_T_hasCertificate 41 = .ok (.iconst 1, 1) := by decide +kernel
theorem d_T_hasCertificate_42 : decode c_T_hasCertificate 42 = .ok (.goto 4, 3) := by decide +kernel
theorem d_T_hasCertificate_45 : decode c_T_hasCertificate 45 = .ok (.iconst 0, 1) := by decide +kernel
theorem d_T_hasCertificate_46 : decode c_T_hasCertificate 46 = .ok (.ireturn, 1) := by decide +kernel
theorem d_T_handOver_0 : decode c_T_handOver 0 = .ok (.aload_n 0, 1) := by decide +kernel
theorem d_T_handOver_1 : decode c_T_handOver 1 = .ok (.getfield 60, 3) := by decide +kernel
theorem d_T_handOver_4 : decode c_T_handOver 4 = .ok (.getfield 159, 3) := by decide +kernel
theorem d_T_handOver_7 : decode c_T_handOver 7 = .ok (.iload_n 1, 1) := by decide +kernel
theorem d_T_handOver_8 : decode c_T_handOver 8 = .ok (.iaload, 1) := by decide +kernel
theorem d_T_handOver_9 : decode c_T_handOver 9 = .ok (.istore_n 2, 1) := by decide +kernel
theorem d_T_handOver_10 : decode c_T_handOver 10 = .ok (.aload_n 0, 1) := by decide +kernel
theorem d_T_handOver_11 : decode c_T_handOver 11 = .ok (.getfield 60, 3) := by decide +kernel
theorem d_T_handOver_14 : decode c_T_handOver 14 = .ok (.getfield 211, 3) := by decide +kernel
theorem d_T_handOver_17 : decode c_T_handOver 17 = .ok (.iload_n 1, 1) := by decide +kernel
theorem d_T_handOver_18 : decode c_T_handOver 18 = .ok (.iaload, 1) := by decide +kernel
theorem d_T_handOver_19 : decode c_T_handOver 19 = .ok (.istore_n 3, 1) := by decide +kernel
theorem d_T_handOver_20 : decode c_T_handOver 20 = .ok (.aload_n 0, 1) := by decide +kernel
theorem d_T_handOver_21 : decode c_T_handOver 21 = .ok (.getfield 60, 3) := by decide +kernel
theorem d_T_handOver_24 : decode c_T_handOver 24 = .ok (.iload_n 1, 1) := by decide +kernel
theorem d_T_handOver_25 : decode c_T_handOver 25 = .ok (.invokevirtual 134, 3) := by decide +kernel
theorem d_T_handOver_28 : decode c_T_handOver 28 = .ok (.iload_n 2, 1) := by decide +kernel
theorem d_T_handOver_29 : decode c_T_handOver 29 = .ok (.invokestatic 212, 3) := by decide +kernel
theorem d_T_handOver_32 : decode c_T_handOver 32 = .ok (.istore 4, 2) := by decide +kernel
theorem d_T_handOver_34 : decode c_T_handOver 34 = .ok (.aload_n 0, 1) := by decide +kernel
theorem d_T_handOver_35 : decode c_T_handOver 35 = .ok (.iload 4, 2) := by decide +kernel
theorem d_T_handOver_37 : decode c_T_handOver 37 = .ok (.invokevirtual 90, 3) := by decide +kernel
theorem d_T_handOver_40 : decode c_T_handOver 40 = .ok (.ifCond .ne 5, 3) := by decide +kernel
theorem d_T_handOver_43 : decode c_T_handOver 43 = .ok (.iconst 0, 1) := by decide +kernel
theorem d_T_handOver_44 : decode c_T_handOver 44 = .ok (.ireturn, 1) := by decide +kernel
theorem d_T_handOver_45 : decode c_T_handOver 45 = .ok (.iload_n 2, 1) := by decide +kernel
theorem d_T_handOver_46 : decode c_T_handOver 46 = .ok (.invokestatic 215, 3) := by decide +kernel
theorem d_T_handOver_49 : decode c_T_handOver 49 = .ok (.istore 5, 2) := by decide +kernel
theorem d_T_handOver_51 : decode c_T_handOver 51 = .ok (.iload_n 2, 1) := by decide +kernel
theorem d_T_handOver_52 : decode c_T_handOver 52 = .ok (.invokestatic 218, 3) := by decide +kernel
theorem d_T_handOver_55 : decode c_T_handOver 55 = .ok (.lookupswitch 51 #[(0, 25), (1, 36)], 25) := by decide +kernel
theorem d_T_handOver_80 : decode c_T_handOver 80 = .ok (.aload_n 0, 1) := by decide +kernel
theorem d_T_handOver_81 : decode c_T_handOver 81 = .ok (.iload 4, 2) := by decide +kernel
theorem d_T_handOver_83 : decode c_T_handOver 83 = .ok (.iload 5, 2) := by decide +kernel
theorem d_T_handOver_85 : decode c_T_handOver 85 = .ok (.invokevirtual 221, 3) := by decide +kernel
theorem d_T_handOver_88 : decode c_T_handOver 88 = .ok (.goto 31, 3) := by decide +kernel
theorem d_T_handOver_91 : decode c_T_handOver 91 = .ok (.aload_n 0, 1) := by decide +kernel
theorem d_T_handOver_92 : decode c_T_handOver 92 = .ok (.iload 4, 2) := by decide +kernel
theorem d_T_handOver_94 : decode c_T_handOver 94 = .ok (.iload_n 2, 1) := by decide +kernel
theorem d_T_handOver_95 : decode c_T_handOver 95 = .ok (.invokestatic 225, 3) := by decide +kernel
theorem d_T_handOver_98 : decode c_T_handOver 98 = .ok (.iload 5, 2) := by decide +kernel
theorem d_T_handOver_100 : decode c_T_handOver 100 = .ok (.invokevirtual 228, 3) := by decide +kernel
theorem d_T_handOver_103 : decode c_T_handOver 103 = .ok (.goto 16, 3) := by decide +kernel
theorem d_T_handOver_106 : decode c_T_handOver 106 = .ok (.aload_n 0, 1) := by decide +kernel
theorem d_T_handOver_107 : decode c_T_handOver 107 = .ok (.iload 4, 2) := by decide +kernel
theorem d_T_handOver_109 : decode c_T_handOver 109 = .ok (.iload_n 2, 1) := by decide +kernel
theorem d_T_handOver_110 : decode c_T_handOver 110 = .ok (.invokestatic 225, 3) := by decide +kernel
theorem d_T_handOver_113 : decode c_T_handOver 113 = .ok (.iload_n 3, 1) := by decide +kernel
theorem d_T_handOver_114 : decode c_T_handOver 114 = .ok (.iload 5, 2) := by decide +kernel
theorem d_T_handOver_116 : decode c_T_handOver 116 = .ok (.invokevirtual 232, 3) := by decide +kernel
theorem d_T_handOver_119 : decode c_T_handOver 119 = .ok (.iconst 1, 1) := by decide +kernel
theorem d_T_handOver_120 : decode c_T_handOver 120 = .ok (.ireturn, 1) := by decide +kernel
theorem d_T_getProposal_0 : decode c_T_getProposal 0 = .ok (.aload_n 0, 1) := by decide +kernel
theorem d_T_getProposal_1 : decode c_T_getProposal 1 = .ok (.getfield 36, 3) := by decide +kernel
theorem d_T_getProposal_4 : decode c_T_getProposal 4 = .ok (.iload_n 1, 1) := by decide +kernel
theorem d_T_getProposal_5 : decode c_T_getProposal 5 = .ok (.aaload, 1) := by decide +kernel
theorem d_T_getProposal_6 : decode c_T_getProposal 6 = .ok (.astore_n 3, 1) := by decide +kernel
theorem d_T_getProposal_7 : decode c_T_getProposal 7 = .ok (.aload_n 0, 1) := by decide +kernel
theorem d_T_getProposal_8 : decode c_T_getProposal 8 = .ok (.getfield 53, 3) := by decide +kernel
theorem d_T_getProposal_11 : decode c_T_getProposal 11 = .ok (.getfield 140, 3) := by decide +kernel
theorem d_T_getProposal_14 : decode c_T_getProposal 14 = .ok (.iload_n 2, 1) := by decide +kernel
theorem d_T_getProposal_15 : decode c_T_getProposal 15 = .ok (.iaload, 1) := by decide +kernel
theorem d_T_getProposal_16 : decode c_T_getProposal 16 = .ok (.istore 4, 2) := by decide +kernel
theorem d_T_getProposal_18 : decode c_T_getProposal 18 = .ok (.aload_n 3, 1) := by decide +kernel
theorem d_T_getProposal_19 : decode c_T_getProposal 19 = .ok (.aload_n 0, 1) := by decide +kernel
theorem d_T_getProposal_20 : decode c_T_getProposal 20 = .ok (.getfield 53, 3) := by decide +kernel
theorem d_T_getProposal_23 : decode c_T_getProposal 23 = .ok (.getfield 165, 3) := by decide +kernel
theorem d_T_getProposal_26 : decode c_T_getProposal 26 = .ok (.iload_n 2, 1) := by decide +kernel
theorem d_T_getProposal_27 : decode c_T_getProposal 27 = .ok (.iaload, 1) := by decide +kernel
theorem d_T_getProposal_28 : decode c_T_getProposal 28 = .ok (.aload_n 0, 1) := by decide +kernel
theorem d_T_getProposal_29 : decode c_T_getProposal 29 = .ok (.getfield 53, 3) := by decide +kernel
theorem d_T_getProposal_32 : decode c_T_getProposal 32 = .ok (.invokevirtual 236, 3) := by decide +kernel
theorem d_T_getProposal_35 : decode c_T_getProposal 35 = .ok (.aload_n 3, 1) := by decide +kernel
theorem d_T_getProposal_36 : decode c_T_getProposal 36 = .ok (.getfield 104, 3) := by decide +kernel
theorem d_T_getProposal_39 : decode c_T_getProposal 39 = .ok (.iload 4, 2) := by decide +kernel
theorem d_T_getProposal_41 : decode c_T_getProposal 41 = .ok (.if_icmp .ge 9, 3) := by decide +kernel
theorem d_T_getProposal_44 : decode c_T_getProposal 44 = .ok (.aload_n 3, 1) := by decide +kernel
theorem d_T_getProposal_45 : decode c_T_getProposal 45 = .ok (.iload 4, 2) := by decide +kernel
theorem d_T_getProposal_47 : decode c_T_getProposal 47 = .ok (.invokevirtual 121, 3) := by decide +kernel
theorem d_T_getProposal_50 : decode c_T_getProposal 50 = .ok (.aload_n 3, 1) := by decide +kernel
theorem d_T_getProposal_51 : decode c_T_getProposal 51 = .ok (.getfield 104, 3) := by decide +kernel
theorem d_T_getProposal_54 : decode c_T_getProposal 54 = .ok (.iload 4, 2) := by decide +kernel
theorem d_T_getProposal_56 : decode c_T_getProposal 56 = .ok (.if_icmp .ne 64, 3) := by decide +kernel
theorem d_T_getProposal_59 : decode c_T_getProposal 59 = .ok (.aload_n 3, 1) := by decide +kernel
theorem d_T_getProposal_60 : decode c_T_getProposal 60 = .ok (.getfield 174, 3) := by decide +kernel
theorem d_T_getProposal_63 : decode c_T_getProposal 63 = .ok (.iload 4, 2) := by decide +kernel
theorem d_T_getProposal_65 : decode c_T_getProposal 65 = .ok (.if_icmp .ge 55, 3) := by decide +kernel
theorem d_T_getProposal_68 : decode c_T_getProposal 68 = .ok (.aload_n 0, 1) := by decide +kernel
theorem d_T_getProposal_69 : decode c_T_getProposal 69 = .ok (.aload_n 3, 1) := by decide +kernel
theorem d_T_getProposal_70 : decode c_T_getProposal 70 = .ok (.getfield 177, 3) := by decide +kernel
theorem d_T_getProposal_73 : decode c_T_getProposal 73 = .ok (.iload_n 2, 1) := by decide +kernel
theorem d_T_getProposal_74 : decode c_T_getProposal 74 = .ok (.invokevirtual 240, 3) := by decide +kernel
theorem d_T_getProposal_77 : decode c_T_getProposal 77 = .ok (.ifCond .eq 43, 3) := by decide +kernel
theorem d_T_getProposal_80 : decode c_T_getProposal 80 = .ok (.aload_n 3, 1) := by decide +kernel
theorem d_T_getProposal_81 : decode c_T_getProposal 81 = .ok (.iload 4, 2) := by decide +kernel
theorem d_T_getProposal_83 : decode c_T_getProposal 83 = .ok (.putfield 174, 3) := by decide +kernel
theorem d_T_getProposal_86 : decode c_T_getProposal 86 = .ok (.aload_n 0, 1) := by decide +kernel
theorem d_T_getProposal_87 : decode c_T_getProposal 87 = .ok (.getfield 53, 3) := by decide +kernel
theorem d_T_getProposal_90 : decode c_T_getProposal 90 = .ok (.getfield 171, 3) := by decide +kernel
theorem d_T_getProposal_93 : decode c_T_getProposal 93 = .ok (.iload_n 2, 1) := by decide +kernel
theorem d_T_getProposal_94 : decode c_T_getProposal 94 = .ok (.dup2, 1) := by decide +kernel
theorem d_T_getProposal_95 : decode c_T_getProposal 95 = .ok (.iaload, 1) := by decide +kernel
theorem d_T_getProposal_96 : decode c_T_getProposal 96 = .ok (.iconst 1, 1) := by decide +kernel
theorem d_T_getProposal_97 : decode c_T_getProposal 97 = .ok (.iload_n 1, 1) := by decide +kernel
theorem d_T_getProposal_98 : decode c_T_getProposal 98 = .ok (.ishl, 1) := by decide +kernel
theorem d_T_getProposal_99 : decode c_T_getProposal 99 = .ok (.ior, 1) := by decide +kernel
theorem d_T_getProposal_100 : decode c_T_getProposal 100 = .ok (.iastore, 1) := by decide +kernel
theorem d_T_getProposal_101 : decode c_T_getProposal 101 = .ok (.aload_n 0, 1) := by decide +kernel
theorem d_T_getProposal_102 : decode c_T_getProposal 102 = .ok (.getfield 60, 3) := by decide +kernel
theorem d_T_getProposal_105 : decode c_T_getProposal 105 = .ok (.iconst 1, 1) := by decide +kernel
theorem d_T_getProposal_106 : decode c_T_getProposal 106 = .ok (.aload_n 0, 1) := by decide +kernel
theorem d_T_getProposal_107 : decode c_T_getProposal 107 = .ok (.iload 4, 2) := by decide +kernel
theorem d_T_getProposal_109 : decode c_T_getProposal 109 = .ok (.iconst 1, 1) := by decide +kernel
theorem d_T_getProposal_110 : decode c_T_getProposal 110 = .ok (.iadd, 1) := by decide +kernel
theorem d_T_getProposal_111 : decode c_T_getProposal 111 = .ok (.invokevirtual 124, 3) := by decide +kernel
theorem d_T_getProposal_114 : decode c_T_getProposal 114 = .ok (.iload_n 1, 1) := by decide +kernel
theorem d_T_getProposal_115 : decode c_T_getProposal 115 = .ok (.iload_n 2, 1) := by decide +kernel
theorem d_T_getProposal_116 : decode c_T_getProposal 116 = .ok (.iconst 0, 1) := by decide +kernel
theorem d_T_getProposal_117 : decode c_T_getProposal 117 = .ok (.invokevirtual 111, 3) := by decide +kernel
theorem d_T_getProposal_120 : decode c_T_getProposal 120 = .ok (.return_, 1) := by decide +kernel
theorem d_T_isSafe_0 : decode c_T_isSafe 0 = .ok (.aload_n 0, 1) := by decide +kernel
theorem d_T_isSafe_1 : decode c_T_isSafe 1 = .ok (.getfield 53, 3) := by decide +kernel
theorem d_T_isSafe_4 : decode c_T_isSafe 4 = .ok (.iload_n 1, 1) := by decide +kernel
theorem d_T_isSafe_5 : decode c_T_isSafe 5 = .ok (.iload_n 2, 1) := by decide +kernel
theorem d_T_isSafe_6 : decode c_T_isSafe 6 = .ok (.invokevirtual 243, 3) := by decide +kernel
theorem d_T_isSafe_9 : decode c_T_isSafe 9 = .ok (.ifCond .ne 32, 3) := by decide +kernel
theorem d_T_isSafe_12 : decode c_T_isSafe 12 = .ok (.aload_n 0, 1) := by decide +kernel
theorem d_T_isSafe_13 : decode c_T_isSafe 13 = .ok (.getfield 53, 3) := by decide +kernel
theorem d_T_isSafe_16 : decode c_T_isSafe 16 = .ok (.getfield 140, 3) := by decide +kernel
theorem d_T_isSafe_19 : decode c_T_isSafe 19 = .ok (.aload_n 0, 1) := by decide +kernel
theorem d_T_isSafe_20 : decode c_T_isSafe 20 = .ok (.getfield 53, 3) := by decide +kernel
theorem d_T_isSafe_23 : decode c_T_isSafe 23 = .ok (.getfield 165, 3) := by decide +kernel
theorem d_T_isSafe_26 : decode c_T_isSafe 26 = .ok (.iload_n 2, 1) := by decide +kernel
theorem d_T_isSafe_27 : decode c_T_isSafe 27 = .ok (.iaload, 1) := by decide +kernel
theorem d_T_isSafe_28 : decode c_T_isSafe 28 = .ok (.iaload, 1) := by decide +kernel
theorem d_T_isSafe_29 : decode c_T_isSafe 29 = .ok (.aload_n 0, 1) := by decide +kernel
theorem d_T_isSafe_30 : decode c_T_isSafe 30 = .ok (.getfield 53, 3) := by decide +kernel
theorem d_T_isSafe_33 : decode c_T_isSafe 33 = .ok (.getfield 140, 3) := by decide +kernel
theorem d_T_isSafe_36 : decode c_T_isSafe 36 = .ok (.iload_n 1, 1) := by decide +kernel
theorem d_T_isSafe_37 : decode c_T_isSafe 37 = .ok (.iaload, 1) := by decide +kernel
theorem d_T_isSafe_38 : decode c_T_isSafe 38 = .ok (.if_icmp .le 7, 3) := by decide +kernel
theorem d_T_isSafe_41 : decode c_T_isSafe 41 = .ok (.iconst 1, 1) := by decide +kernel
theorem d_T_isSafe_42 : decode c_T_isSafe 42 = .ok (.goto 4, 3) := by decide +kernel
theorem d_T_isSafe_45 : decode c_T_isSafe 45 = .ok (.iconst 0, 1) := by decide +kernel
theorem d_T_isSafe_46 : decode c_T_isSafe 46 = .ok (.ireturn, 1) := by decide +kernel
theorem d_T_getVote_0 : decode c_T_getVote 0 = .ok (.aload_n 0, 1) := by decide +kernel
theorem d_T_getVote_1 : decode c_T_getVote 1 = .ok (.getfield 36, 3) := by decide +kernel
theorem d_T_getVote_4 : decode c_T_getVote 4 = .ok (.iload_n 1, 1) := by decide +kernel
theorem d_T_getVote_5 : decode c_T_getVote 5 = .ok (.aaload, 1) := by decide +kernel
theorem d_T_getVote_6 : decode c_T_getVote 6 = .ok (.astore 4, 2) := by decide +kernel
theorem d_T_getVote_8 : decode c_T_getVote 8 = .ok (.aload 4, 2) := by decide +kernel
theorem d_T_getVote_10 : decode c_T_getVote 10 = .ok (.getfield 246, 3) := by decide +kernel
theorem d_T_getVote_13 : decode c_T_getVote 13 = .ok (.iload_n 3, 1) := by decide +kernel
theorem d_T_getVote_14 : decode c_T_getVote 14 = .ok (.dup2, 1) := by decide +kernel
theorem d_T_getVote_15 : decode c_T_getVote 15 = .ok (.iaload, 1) := by decide +kernel
theorem d_T_getVote_16 : decode c_T_getVote 16 = .ok (.iconst 1, 1) := by decide +kernel
theorem d_T_getVote_17 : decode c_T_getVote 17 = .ok (.iload_n 2, 1) := by decide +kernel
theorem d_T_getVote_18 : decode c_T_getVote 18 = .ok (.ishl, 1) := by decide +kernel
theorem d_T_getVote_19 : decode c_T_getVote 19 = .ok (.ior, 1) := by decide +kernel
theorem d_T_getVote_20 : decode c_T_getVote 20 = .ok (.iastore, 1) := by decide +kernel
theorem d_T_getVote_21 : decode c_T_getVote 21 = .ok (.aload 4, 2) := by decide +kernel
theorem d_T_getVote_23 : decode c_T_getVote 23 = .ok (.getfield 246, 3) := by decide +kernel
theorem d_T_getVote_26 : decode c_T_getVote 26 = .ok (.iload_n 3, 1) := by decide +kernel
theorem d_T_getVote_27 : decode c_T_getVote 27 = .ok (.iaload, 1) := by decide +kernel
theorem d_T_getVote_28 : decode c_T_getVote 28 = .ok (.invokestatic 206, 3) := by decide +kernel
theorem d_T_getVote_31 : decode c_T_getVote 31 = .ok (.aload_n 0, 1) := by decide +kernel
theorem d_T_getVote_32 : decode c_T_getVote 32 = .ok (.getfield 13, 3) := by decide +kernel
theorem d_T_getVote_35 : decode c_T_getVote 35 = .ok (.if_icmp .lt 13, 3) := by decide +kernel
theorem d_T_getVote_38 : decode c_T_getVote 38 = .ok (.aload 4, 2) := by decide +kernel
theorem d_T_getVote_40 : decode c_T_getVote 40 = .ok (.iload_n 3, 1) := by decide +kernel
theorem d_T_getVote_41 : decode c_T_getVote 41 = .ok (.aload_n 0, 1) := by decide +kernel
theorem d_T_getVote_42 : decode c_T_getVote 42 = .ok (.getfield 53, 3) := by decide +kernel
theorem d_T_getVote_45 : decode c_T_getVote 45 = .ok (.invokevirtual 236, 3) := by decide +kernel
theorem d_T_getVote_48 : decode c_T_getVote 48 = .ok (.return_, 1) := by decide +kernel
theorem d_T_getNewView_0 : decode c_T_getNewView 0 = .ok (.aload_n 0, 1) := by decide +kernel
theorem d_T_getNewView_1 : decode c_T_getNewView 1 = .ok (.getfield 36, 3) := by decide +kernel
theorem d_T_getNewView_4 : decode c_T_getNewView 4 = .ok (.iload_n 1, 1) := by decide +kernel
theorem d_T_getNewView_5 : decode c_T_getNewView 5 = .ok (.aaload, 1) := by decide +kernel
theorem d_T_getNewView_6 : decode c_T_getNewView 6 = .ok (.astore 5, 2) := by decide +kernel
theorem d_T_getNewView_8 : decode c_T_getNewView 8 = .ok (.aload 5, 2) := by decide +kernel
theorem d_T_getNewView_10 : decode c_T_getNewView 10 = .ok (.getfield 249, 3) := by decide +kernel
theorem d_T_getNewView_13 : decode c_T_getNewView 13 = .ok (.iload_n 2, 1) := by decide +kernel
theorem d_T_getNewView_14 : decode c_T_getNewView 14 = .ok (.aload 5, 2) := by decide +kernel
theorem d_T_getNewView_16 : decode c_T_getNewView 16 = .ok (.getfield 249, 3) := by decide +kernel
theorem d_T_getNewView_19 : decode c_T_getNewView 19 = .ok (.iload_n 2, 1) := by decide +kernel
theorem d_T_getNewView_20 : decode c_T_getNewView 20 = .ok (.iaload, 1) := by decide +kernel
theorem d_T_getNewView_21 : decode c_T_getNewView 21 = .ok (.iload_n 3, 1) := by decide +kernel
theorem d_T_getNewView_22 : decode c_T_getNewView 22 = .ok (.invokestatic 16, 3) := by decide +kernel
theorem d_T_getNewView_25 : decode c_T_getNewView 25 = .ok (.iastore, 1) := by decide +kernel
theorem d_T_getNewView_26 : decode c_T_getNewView 26 = .ok (.aload 5, 2) := by decide +kernel
theorem d_T_getNewView_28 : decode c_T_getNewView 28 = .ok (.iload 4, 2) := by decide +kernel
theorem d_T_getNewView_30 : decode c_T_getNewView 30 = .ok (.aload_n 0, 1) := by decide +kernel
theorem d_T_getNewView_31 : decode c_T_getNewView 31 = .ok (.getfield 53, 3) := by decide +kernel
end
section
theorem d_T_getNewView_34 : decode c_T_getNewView 34 = .ok (.invokevirtual 236, 3) := by decide +kernel
theorem d_T_getNewView_37 : decode c_T_getNewView 37 = .ok (.aload 5, 2) := by decide +kernel
theorem d_T_getNewView_39 : decode c_T_getNewView 39 = .ok (.aload_n 0, 1) := by decide +kernel
theorem d_T_getNewView_40 : decode c_T_getNewView 40 = .ok (.getfield 13, 3) := by decide +kernel
theorem d_T_getNewView_43 : decode c_T_getNewView 43 = .ok (.invokevirtual 183, 3) := by decide +kernel
theorem d_T_getNewView_46 : decode c_T_getNewView 46 = .ok (.istore 6, 2) := by decide +kernel
theorem d_T_getNewView_48 : decode c_T_getNewView 48 = .ok (.iload 6, 2) := by decide +kernel
theorem d_T_getNewView_50 : decode c_T_getNewView 50 = .ok (.aload 5, 2) := by decide +kernel
theorem d_T_getNewView_52 : decode c_T_getNewView 52 = .ok (.getfield 104, 3) := by decide +kernel
theorem d_T_getNewView_55 : decode c_T_getNewView 55 = .ok (.if_icmp .le 10, 3) := by decide +kernel
theorem d_T_getNewView_58 : decode c_T_getNewView 58 = .ok (.aload 5, 2) := by decide +kernel
theorem d_T_getNewView_60 : decode c_T_getNewView 60 = .ok (.iload 6, 2) := by decide +kernel
theorem d_T_getNewView_62 : decode c_T_getNewView 62 = .ok (.invokevirtual 121, 3) := by decide +kernel
theorem d_T_getNewView_65 : decode c_T_getNewView 65 = .ok (.return_, 1) := by decide +kernel
theorem d_Bl_init_0 : decode c_Bl_init 0 = .ok (.aload_n 0, 1) := by decide +kernel
theorem d_Bl_init_1 : decode c_Bl_init 1 = .ok (.invokespecial 3, 3) := by decide +kernel
theorem d_Bl_init_4 : decode c_Bl_init 4 = .ok (.aload_n 0, 1) := by decide +kernel
theorem d_Bl_init_5 : decode c_Bl_init 5 = .ok (.bipush 40, 2) := by decide +kernel
theorem d_Bl_init_7 : decode c_Bl_init 7 = .ok (.newarray .int, 2) := by decide +kernel
theorem d_Bl_init_9 : decode c_Bl_init 9 = .ok (.putfield 9, 3) := by decide +kernel
theorem d_Bl_init_12 : decode c_Bl_init 12 = .ok (.aload_n 0, 1) := by decide +kernel
theorem d_Bl_init_13 : decode c_Bl_init 13 = .ok (.bipush 40, 2) := by decide +kernel
theorem d_Bl_init_15 : decode c_Bl_init 15 = .ok (.newarray .int, 2) := by decide +kernel
theorem d_Bl_init_17 : decode c_Bl_init 17 = .ok (.putfield 15, 3) := by decide +kernel
theorem d_Bl_init_20 : decode c_Bl_init 20 = .ok (.aload_n 0, 1) := by decide +kernel
theorem d_Bl_init_21 : decode c_Bl_init 21 = .ok (.bipush 40, 2) := by decide +kernel
theorem d_Bl_init_23 : decode c_Bl_init 23 = .ok (.newarray .int, 2) := by decide +kernel
theorem d_Bl_init_25 : decode c_Bl_init 25 = .ok (.putfield 18, 3) := by decide +kernel
theorem d_Bl_init_28 : decode c_Bl_init 28 = .ok (.aload_n 0, 1) := by decide +kernel
theorem d_Bl_init_29 : decode c_Bl_init 29 = .ok (.bipush 40, 2) := by decide +kernel
theorem d_Bl_init_31 : decode c_Bl_init 31 = .ok (.newarray .int, 2) := by decide +kernel
theorem d_Bl_init_33 : decode c_Bl_init 33 = .ok (.putfield 21, 3) := by decide +kernel
theorem d_Bl_init_36 : decode c_Bl_init 36 = .ok (.aload_n 0, 1) := by decide +kernel
theorem d_Bl_init_37 : decode c_Bl_init 37 = .ok (.bipush 40, 2) := by decide +kernel
theorem d_Bl_init_39 : decode c_Bl_init 39 = .ok (.newarray .int, 2) := by decide +kernel
theorem d_Bl_init_41 : decode c_Bl_init 41 = .ok (.putfield 24, 3) := by decide +kernel
theorem d_Bl_init_44 : decode c_Bl_init 44 = .ok (.aload_n 0, 1) := by decide +kernel
theorem d_Bl_init_45 : decode c_Bl_init 45 = .ok (.bipush 40, 2) := by decide +kernel
theorem d_Bl_init_47 : decode c_Bl_init 47 = .ok (.newarray .long, 2) := by decide +kernel
theorem d_Bl_init_49 : decode c_Bl_init 49 = .ok (.putfield 27, 3) := by decide +kernel
theorem d_Bl_init_52 : decode c_Bl_init 52 = .ok (.aload_n 0, 1) := by decide +kernel
theorem d_Bl_init_53 : decode c_Bl_init 53 = .ok (.iconst 1, 1) := by decide +kernel
theorem d_Bl_init_54 : decode c_Bl_init 54 = .ok (.putfield 31, 3) := by decide +kernel
theorem d_Bl_init_57 : decode c_Bl_init 57 = .ok (.aload_n 0, 1) := by decide +kernel
theorem d_Bl_init_58 : decode c_Bl_init 58 = .ok (.getfield 27, 3) := by decide +kernel
theorem d_Bl_init_61 : decode c_Bl_init 61 = .ok (.iconst 0, 1) := by decide +kernel
theorem d_Bl_init_62 : decode c_Bl_init 62 = .ok (.lconst 1, 1) := by decide +kernel
theorem d_Bl_init_63 : decode c_Bl_init 63 = .ok (.lastore, 1) := by decide +kernel
theorem d_Bl_init_64 : decode c_Bl_init 64 = .ok (.return_, 1) := by decide +kernel
theorem d_Bl_has_0 : decode c_Bl_has 0 = .ok (.iload_n 1, 1) := by decide +kernel
theorem d_Bl_has_1 : decode c_Bl_has 1 = .ok (.ifCond .lt 15, 3) := by decide +kernel
theorem d_Bl_has_4 : decode c_Bl_has 4 = .ok (.iload_n 1, 1) := by decide +kernel
theorem d_Bl_has_5 : decode c_Bl_has 5 = .ok (.aload_n 0, 1) := by decide +kernel
theorem d_Bl_has_6 : decode c_Bl_has 6 = .ok (.getfield 31, 3) := by decide +kernel
theorem d_Bl_has_9 : decode c_Bl_has 9 = .ok (.if_icmp .ge 7, 3) := by decide +kernel
theorem d_Bl_has_12 : decode c_Bl_has 12 = .ok (.iconst 1, 1) := by decide +kernel
theorem d_Bl_has_13 : decode c_Bl_has 13 = .ok (.goto 4, 3) := by decide +kernel
theorem d_Bl_has_16 : decode c_Bl_has 16 = .ok (.iconst 0, 1) := by decide +kernel
theorem d_Bl_has_17 : decode c_Bl_has 17 = .ok (.ireturn, 1) := by decide +kernel
theorem d_Bl_isFull_0 : decode c_Bl_isFull 0 = .ok (.aload_n 0, 1) := by decide +kernel
theorem d_Bl_isFull_1 : decode c_Bl_isFull 1 = .ok (.getfield 31, 3) := by decide +kernel
theorem d_Bl_isFull_4 : decode c_Bl_isFull 4 = .ok (.bipush 40, 2) := by decide +kernel
theorem d_Bl_isFull_6 : decode c_Bl_isFull 6 = .ok (.if_icmp .lt 7, 3) := by decide +kernel
theorem d_Bl_isFull_9 : decode c_Bl_isFull 9 = .ok (.iconst 1, 1) := by decide +kernel
theorem d_Bl_isFull_10 : decode c_Bl_isFull 10 = .ok (.goto 4, 3) := by decide +kernel
theorem d_Bl_isFull_13 : decode c_Bl_isFull 13 = .ok (.iconst 0, 1) := by decide +kernel
theorem d_Bl_isFull_14 : decode c_Bl_isFull 14 = .ok (.ireturn, 1) := by decide +kernel
theorem d_Bl_add_0 : decode c_Bl_add 0 = .ok (.aload_n 0, 1) := by decide +kernel
theorem d_Bl_add_1 : decode c_Bl_add 1 = .ok (.getfield 9, 3) := by decide +kernel
theorem d_Bl_add_4 : decode c_Bl_add 4 = .ok (.aload_n 0, 1) := by decide +kernel
theorem d_Bl_add_5 : decode c_Bl_add 5 = .ok (.getfield 31, 3) := by decide +kernel
theorem d_Bl_add_8 : decode c_Bl_add 8 = .ok (.iload_n 2, 1) := by decide +kernel
theorem d_Bl_add_9 : decode c_Bl_add 9 = .ok (.iastore, 1) := by decide +kernel
theorem d_Bl_add_10 : decode c_Bl_add 10 = .ok (.aload_n 0, 1) := by decide +kernel
theorem d_Bl_add_11 : decode c_Bl_add 11 = .ok (.getfield 15, 3) := by decide +kernel
theorem d_Bl_add_14 : decode c_Bl_add 14 = .ok (.aload_n 0, 1) := by decide +kernel
theorem d_Bl_add_15 : decode c_Bl_add 15 = .ok (.getfield 31, 3) := by decide +kernel
theorem d_Bl_add_18 : decode c_Bl_add 18 = .ok (.iload_n 1, 1) := by decide +kernel
theorem d_Bl_add_19 : decode c_Bl_add 19 = .ok (.iastore, 1) := by decide +kernel
theorem d_Bl_add_20 : decode c_Bl_add 20 = .ok (.aload_n 0, 1) := by decide +kernel
theorem d_Bl_add_21 : decode c_Bl_add 21 = .ok (.getfield 18, 3) := by decide +kernel
theorem d_Bl_add_24 : decode c_Bl_add 24 = .ok (.aload_n 0, 1) := by decide +kernel
theorem d_Bl_add_25 : decode c_Bl_add 25 = .ok (.getfield 31, 3) := by decide +kernel
theorem d_Bl_add_28 : decode c_Bl_add 28 = .ok (.iload_n 3, 1) := by decide +kernel
theorem d_Bl_add_29 : decode c_Bl_add 29 = .ok (.iastore, 1) := by decide +kernel
theorem d_Bl_add_30 : decode c_Bl_add 30 = .ok (.aload_n 0, 1) := by decide +kernel
theorem d_Bl_add_31 : decode c_Bl_add 31 = .ok (.getfield 24, 3) := by decide +kernel
theorem d_Bl_add_34 : decode c_Bl_add 34 = .ok (.aload_n 0, 1) := by decide +kernel
theorem d_Bl_add_35 : decode c_Bl_add 35 = .ok (.getfield 31, 3) := by decide +kernel
theorem d_Bl_add_38 : decode c_Bl_add 38 = .ok (.aload_n 0, 1) := by decide +kernel
theorem d_Bl_add_39 : decode c_Bl_add 39 = .ok (.getfield 24, 3) := by decide +kernel
theorem d_Bl_add_42 : decode c_Bl_add 42 = .ok (.iload_n 1, 1) := by decide +kernel
theorem d_Bl_add_43 : decode c_Bl_add 43 = .ok (.iaload, 1) := by decide +kernel
theorem d_Bl_add_44 : decode c_Bl_add 44 = .ok (.iload_n 3, 1) := by decide +kernel
theorem d_Bl_add_45 : decode c_Bl_add 45 = .ok (.ior, 1) := by decide +kernel
theorem d_Bl_add_46 : decode c_Bl_add 46 = .ok (.iastore, 1) := by decide +kernel
theorem d_Bl_add_47 : decode c_Bl_add 47 = .ok (.aload_n 0, 1) := by decide +kernel
theorem d_Bl_add_48 : decode c_Bl_add 48 = .ok (.getfield 27, 3) := by decide +kernel
theorem d_Bl_add_51 : decode c_Bl_add 51 = .ok (.aload_n 0, 1) := by decide +kernel
theorem d_Bl_add_52 : decode c_Bl_add 52 = .ok (.getfield 31, 3) := by decide +kernel
theorem d_Bl_add_55 : decode c_Bl_add 55 = .ok (.aload_n 0, 1) := by decide +kernel
theorem d_Bl_add_56 : decode c_Bl_add 56 = .ok (.getfield 27, 3) := by decide +kernel
theorem d_Bl_add_59 : decode c_Bl_add 59 = .ok (.iload_n 1, 1) := by decide +kernel
theorem d_Bl_add_60 : decode c_Bl_add 60 = .ok (.laload, 1) := by decide +kernel
theorem d_Bl_add_61 : decode c_Bl_add 61 = .ok (.lconst 1, 1) := by decide +kernel
theorem d_Bl_add_62 : decode c_Bl_add 62 = .ok (.aload_n 0, 1) := by decide +kernel
theorem d_Bl_add_63 : decode c_Bl_add 63 = .ok (.getfield 31, 3) := by decide +kernel
theorem d_Bl_add_66 : decode c_Bl_add 66 = .ok (.lshl, 1) := by decide +kernel
theorem d_Bl_add_67 : decode c_Bl_add 67 = .ok (.lor, 1) := by decide +kernel
theorem d_Bl_add_68 : decode c_Bl_add 68 = .ok (.lastore, 1) := by decide +kernel
theorem d_Bl_add_69 : decode c_Bl_add 69 = .ok (.aload_n 0, 1) := by decide +kernel
theorem d_Bl_add_70 : decode c_Bl_add 70 = .ok (.dup, 1) := by decide +kernel
theorem d_Bl_add_71 : decode c_Bl_add 71 = .ok (.getfield 31, 3) := by decide +kernel
theorem d_Bl_add_74 : decode c_Bl_add 74 = .ok (.iconst 1, 1) := by decide +kernel
theorem d_Bl_add_75 : decode c_Bl_add 75 = .ok (.iadd, 1) := by decide +kernel
theorem d_Bl_add_76 : decode c_Bl_add 76 = .ok (.putfield 31, 3) := by decide +kernel
theorem d_Bl_add_79 : decode c_Bl_add 79 = .ok (.aload_n 0, 1) := by decide +kernel
theorem d_Bl_add_80 : decode c_Bl_add 80 = .ok (.getfield 31, 3) := by decide +kernel
theorem d_Bl_add_83 : decode c_Bl_add 83 = .ok (.iconst 1, 1) := by decide +kernel
theorem d_Bl_add_84 : decode c_Bl_add 84 = .ok (.isub, 1) := by decide +kernel
theorem d_Bl_add_85 : decode c_Bl_add 85 = .ok (.ireturn, 1) := by decide +kernel
theorem d_Bl_inChain_0 : decode c_Bl_inChain 0 = .ok (.aload_n 0, 1) := by decide +kernel
theorem d_Bl_inChain_1 : decode c_Bl_inChain 1 = .ok (.getfield 27, 3) := by decide +kernel
theorem d_Bl_inChain_4 : decode c_Bl_inChain 4 = .ok (.iload_n 2, 1) := by decide +kernel
theorem d_Bl_inChain_5 : decode c_Bl_inChain 5 = .ok (.laload, 1) := by decide +kernel
theorem d_Bl_inChain_6 : decode c_Bl_inChain 6 = .ok (.iload_n 1, 1) := by decide +kernel
theorem d_Bl_inChain_7 : decode c_Bl_inChain 7 = .ok (.lushr, 1) := by decide +kernel
theorem d_Bl_inChain_8 : decode c_Bl_inChain 8 = .ok (.lconst 1, 1) := by decide +kernel
theorem d_Bl_inChain_9 : decode c_Bl_inChain 9 = .ok (.land, 1) := by decide +kernel
theorem d_Bl_inChain_10 : decode c_Bl_inChain 10 = .ok (.lconst 0, 1) := by decide +kernel
theorem d_Bl_inChain_11 : decode c_Bl_inChain 11 = .ok (.lcmp, 1) := by decide +kernel
theorem d_Bl_inChain_12 : decode c_Bl_inChain 12 = .ok (.ifCond .eq 7, 3) := by decide +kernel
theorem d_Bl_inChain_15 : decode c_Bl_inChain 15 = .ok (.iconst 1, 1) := by decide +kernel
theorem d_Bl_inChain_16 : decode c_Bl_inChain 16 = .ok (.goto 4, 3) := by decide +kernel
theorem d_Bl_inChain_19 : decode c_Bl_inChain 19 = .ok (.iconst 0, 1) := by decide +kernel
theorem d_Bl_inChain_20 : decode c_Bl_inChain 20 = .ok (.ireturn, 1) := by decide +kernel
theorem d_Bl_later_0 : decode c_Bl_later 0 = .ok (.aload_n 0, 1) := by decide +kernel
theorem d_Bl_later_1 : decode c_Bl_later 1 = .ok (.getfield 9, 3) := by decide +kernel
theorem d_Bl_later_4 : decode c_Bl_later 4 = .ok (.iload_n 2, 1) := by decide +kernel
theorem d_Bl_later_5 : decode c_Bl_later 5 = .ok (.iaload, 1) := by decide +kernel
theorem d_Bl_later_6 : decode c_Bl_later 6 = .ok (.aload_n 0, 1) := by decide +kernel
theorem d_Bl_later_7 : decode c_Bl_later 7 = .ok (.getfield 9, 3) := by decide +kernel
theorem d_Bl_later_10 : decode c_Bl_later 10 = .ok (.iload_n 1, 1) := by decide +kernel
theorem d_Bl_later_11 : decode c_Bl_later 11 = .ok (.iaload, 1) := by decide +kernel
theorem d_Bl_later_12 : decode c_Bl_later 12 = .ok (.if_icmp .le 7, 3) := by decide +kernel
theorem d_Bl_later_15 : decode c_Bl_later 15 = .ok (.iload_n 2, 1) := by decide +kernel
theorem d_Bl_later_16 : decode c_Bl_later 16 = .ok (.goto 4, 3) := by decide +kernel
theorem d_Bl_later_19 : decode c_Bl_later 19 = .ok (.iload_n 1, 1) := by decide +kernel
theorem d_Bl_later_20 : decode c_Bl_later 20 = .ok (.ireturn, 1) := by decide +kernel
theorem d_Bl_followsAtOnce_0 : decode c_Bl_followsAtOnce 0 = .ok (.aload_n 0, 1) := by decide +kernel
theorem d_Bl_followsAtOnce_1 : decode c_Bl_followsAtOnce 1 = .ok (.getfield 9, 3) := by decide +kernel
theorem d_Bl_followsAtOnce_4 : decode c_Bl_followsAtOnce 4 = .ok (.iload_n 1, 1) := by decide +kernel
theorem d_Bl_followsAtOnce_5 : decode c_Bl_followsAtOnce 5 = .ok (.iaload, 1) := by decide +kernel
theorem d_Bl_followsAtOnce_6 : decode c_Bl_followsAtOnce 6 = .ok (.aload_n 0, 1) := by decide +kernel
theorem d_Bl_followsAtOnce_7 : decode c_Bl_followsAtOnce 7 = .ok (.getfield 9, 3) := by decide +kernel
theorem d_Bl_followsAtOnce_10 : decode c_Bl_followsAtOnce 10 = .ok (.aload_n 0, 1) := by decide +kernel
theorem d_Bl_followsAtOnce_11 : decode c_Bl_followsAtOnce 11 = .ok (.getfield 15, 3) := by decide +kernel
theorem d_Bl_followsAtOnce_14 : decode c_Bl_followsAtOnce 14 = .ok (.iload_n 1, 1) := by decide +kernel
theorem d_Bl_followsAtOnce_15 : decode c_Bl_followsAtOnce 15 = .ok (.iaload, 1) := by decide +kernel
theorem d_Bl_followsAtOnce_16 : decode c_Bl_followsAtOnce 16 = .ok (.iaload, 1) := by decide +kernel
theorem d_Bl_followsAtOnce_17 : decode c_Bl_followsAtOnce 17 = .ok (.iconst 1, 1) := by decide +kernel
theorem d_Bl_followsAtOnce_18 : decode c_Bl_followsAtOnce 18 = .ok (.iadd, 1) := by decide +kernel
theorem d_Bl_followsAtOnce_19 : decode c_Bl_followsAtOnce 19 = .ok (.if_icmp .ne 7, 3) := by decide +kernel
theorem d_Bl_followsAtOnce_22 : decode c_Bl_followsAtOnce 22 = .ok (.iconst 1, 1) := by decide +kernel
theorem d_Bl_followsAtOnce_23 : decode c_Bl_followsAtOnce 23 = .ok (.goto 4, 3) := by decide +kernel
theorem d_Bl_followsAtOnce_26 : decode c_Bl_followsAtOnce 26 = .ok (.iconst 0, 1) := by decide +kernel
theorem d_Bl_followsAtOnce_27 : decode c_Bl_followsAtOnce 27 = .ok (.ireturn, 1) := by decide +kernel
theorem d_Bl_atPlace_0 : decode c_Bl_atPlace 0 = .ok (.iconst 0, 1) := by decide +kernel
theorem d_Bl_atPlace_1 : decode c_Bl_atPlace 1 = .ok (.istore_n 3, 1) := by decide +kernel
theorem d_Bl_atPlace_2 : decode c_Bl_atPlace 2 = .ok (.iconst 0, 1) := by decide +kernel
theorem d_Bl_atPlace_3 : decode c_Bl_atPlace 3 = .ok (.istore 4, 2) := by decide +kernel
theorem d_Bl_atPlace_5 : decode c_Bl_atPlace 5 = .ok (.iload 4, 2) := by decide +kernel
theorem d_Bl_atPlace_7 : decode c_Bl_atPlace 7 = .ok (.iload_n 1, 1) := by decide +kernel
theorem d_Bl_atPlace_8 : decode c_Bl_atPlace 8 = .ok (.if_icmp .gt 30, 3) := by decide +kernel
theorem d_Bl_atPlace_11 : decode c_Bl_atPlace 11 = .ok (.aload_n 0, 1) := by decide +kernel
theorem d_Bl_atPlace_12 : decode c_Bl_atPlace 12 = .ok (.iload 4, 2) := by decide +kernel
theorem d_Bl_atPlace_14 : decode c_Bl_atPlace 14 = .ok (.iload_n 1, 1) := by decide +kernel
theorem d_Bl_atPlace_15 : decode c_Bl_atPlace 15 = .ok (.invokevirtual 35, 3) := by decide +kernel
theorem d_Bl_atPlace_18 : decode c_Bl_atPlace 18 = .ok (.ifCond .eq 14, 3) := by decide +kernel
theorem d_Bl_atPlace_21 : decode c_Bl_atPlace 21 = .ok (.iload_n 3, 1) := by decide +kernel
theorem d_Bl_atPlace_22 : decode c_Bl_atPlace 22 = .ok (.iload_n 2, 1) := by decide +kernel
theorem d_Bl_atPlace_23 : decode c_Bl_atPlace 23 = .ok (.if_icmp .ne 6, 3) := by decide +kernel
theorem d_Bl_atPlace_26 : decode c_Bl_atPlace 26 = .ok (.iload 4, 2) := by decide +kernel
theorem d_Bl_atPlace_28 : decode c_Bl_atPlace 28 = .ok (.ireturn, 1) := by decide +kernel
theorem d_Bl_atPlace_29 : decode c_Bl_atPlace 29 = .ok (.iinc 3 1, 3) := by decide +kernel
theorem d_Bl_atPlace_32 : decode c_Bl_atPlace 32 = .ok (.iinc 4 1, 3) := by decide +kernel
theorem d_Bl_atPlace_35 : decode c_Bl_atPlace 35 = .ok (.goto (-30), 3) := by decide +kernel
theorem d_Bl_atPlace_38 : decode c_Bl_atPlace 38 = .ok (.iconst (-1), 1) := by decide +kernel
theorem d_Bl_atPlace_39 : decode c_Bl_atPlace 39 = .ok (.ireturn, 1) := by decide +kernel
theorem d_Le_init_0 : decode c_Le_init 0 = .ok (.aload_n 0, 1) := by decide +kernel
theorem d_Le_init_1 : decode c_Le_init 1 = .ok (.invokespecial 3, 3) := by decide +kernel
theorem d_Le_init_4 : decode c_Le_init 4 = .ok (.aload_n 0, 1) := by decide +kernel
theorem d_Le_init_5 : decode c_Le_init 5 = .ok (.iconst 4, 1) := by decide +kernel
theorem d_Le_init_6 : decode c_Le_init 6 = .ok (.newarray .int, 2) := by decide +kernel
theorem d_Le_init_8 : decode c_Le_init 8 = .ok (.putfield 9, 3) := by decide +kernel
theorem d_Le_init_11 : decode c_Le_init 11 = .ok (.aload_n 0, 1) := by decide +kernel
theorem d_Le_init_12 : decode c_Le_init 12 = .ok (.bipush 24, 2) := by decide +kernel
theorem d_Le_init_14 : decode c_Le_init 14 = .ok (.newarray .int, 2) := by decide +kernel
theorem d_Le_init_16 : decode c_Le_init 16 = .ok (.putfield 15, 3) := by decide +kernel
theorem d_Le_init_19 : decode c_Le_init 19 = .ok (.return_, 1) := by decide +kernel
theorem d_Le_replay_0 : decode c_Le_replay 0 = .ok (.iconst 0, 1) := by decide +kernel
theorem d_Le_replay_1 : decode c_Le_replay 1 = .ok (.istore 4, 2) := by decide +kernel
theorem d_Le_replay_3 : decode c_Le_replay 3 = .ok (.iload 4, 2) := by decide +kernel
theorem d_Le_replay_5 : decode c_Le_replay 5 = .ok (.iconst 4, 1) := by decide +kernel
theorem d_Le_replay_6 : decode c_Le_replay 6 = .ok (.if_icmp .ge 18, 3) := by decide +kernel
theorem d_Le_replay_9 : decode c_Le_replay 9 = .ok (.aload_n 0, 1) := by decide +kernel
theorem d_Le_replay_10 : decode c_Le_replay 10 = .ok (.getfield 9, 3) := by decide +kernel
theorem d_Le_replay_13 : decode c_Le_replay 13 = .ok (.iload 4, 2) := by decide +kernel
theorem d_Le_replay_15 : decode c_Le_replay 15 = .ok (.bipush 100, 2) := by decide +kernel
theorem d_Le_replay_17 : decode c_Le_replay 17 = .ok (.iastore, 1) := by decide +kernel
theorem d_Le_replay_18 : decode c_Le_replay 18 = .ok (.iinc 4 1, 3) := by decide +kernel
theorem d_Le_replay_21 : decode c_Le_replay 21 = .ok (.goto (-18), 3) := by decide +kernel
theorem d_Le_replay_24 : decode c_Le_replay 24 = .ok (.iconst 0, 1) := by decide +kernel
theorem d_Le_replay_25 : decode c_Le_replay 25 = .ok (.istore 4, 2) := by decide +kernel
theorem d_Le_replay_27 : decode c_Le_replay 27 = .ok (.iload 4, 2) := by decide +kernel
theorem d_Le_replay_29 : decode c_Le_replay 29 = .ok (.bipush 24, 2) := by decide +kernel
theorem d_Le_replay_31 : decode c_Le_replay 31 = .ok (.if_icmp .ge 17, 3) := by decide +kernel
theorem d_Le_replay_34 : decode c_Le_replay 34 = .ok (.aload_n 0, 1) := by decide +kernel
theorem d_Le_replay_35 : decode c_Le_replay 35 = .ok (.getfield 15, 3) := by decide +kernel
theorem d_Le_replay_38 : decode c_Le_replay 38 = .ok (.iload 4, 2) := by decide +kernel
theorem d_Le_replay_40 : decode c_Le_replay 40 = .ok (.iconst 0, 1) := by decide +kernel
theorem d_Le_replay_41 : decode c_Le_replay 41 = .ok (.iastore, 1) := by decide +kernel
theorem d_Le_replay_42 : decode c_Le_replay 42 = .ok (.iinc 4 1, 3) := by decide +kernel
theorem d_Le_replay_45 : decode c_Le_replay 45 = .ok (.goto (-18), 3) := by decide +kernel
theorem d_Le_replay_48 : decode c_Le_replay 48 = .ok (.iconst 0, 1) := by decide +kernel
theorem d_Le_replay_49 : decode c_Le_replay 49 = .ok (.istore 4, 2) := by decide +kernel
theorem d_Le_replay_51 : decode c_Le_replay 51 = .ok (.iload 4, 2) := by decide +kernel
theorem d_Le_replay_53 : decode c_Le_replay 53 = .ok (.iload_n 1, 1) := by decide +kernel
theorem d_Le_replay_54 : decode c_Le_replay 54 = .ok (.if_icmp .gt 31, 3) := by decide +kernel
theorem d_Le_replay_57 : decode c_Le_replay 57 = .ok (.aload_n 2, 1) := by decide +kernel
theorem d_Le_replay_58 : decode c_Le_replay 58 = .ok (.iload 4, 2) := by decide +kernel
theorem d_Le_replay_60 : decode c_Le_replay 60 = .ok (.iload_n 1, 1) := by decide +kernel
theorem d_Le_replay_61 : decode c_Le_replay 61 = .ok (.invokevirtual 18, 3) := by decide +kernel
theorem d_Le_replay_64 : decode c_Le_replay 64 = .ok (.ifCond .eq 15, 3) := by decide +kernel
theorem d_Le_replay_67 : decode c_Le_replay 67 = .ok (.aload_n 0, 1) := by decide +kernel
theorem d_Le_replay_68 : decode c_Le_replay 68 = .ok (.aload_n 2, 1) := by decide +kernel
theorem d_Le_replay_69 : decode c_Le_replay 69 = .ok (.getfield 24, 3) := by decide +kernel
theorem d_Le_replay_72 : decode c_Le_replay 72 = .ok (.iload 4, 2) := by decide +kernel
theorem d_Le_replay_74 : decode c_Le_replay 74 = .ok (.iaload, 1) := by decide +kernel
theorem d_Le_replay_75 : decode c_Le_replay 75 = .ok (.aload_n 3, 1) := by decide +kernel
theorem d_Le_replay_76 : decode c_Le_replay 76 = .ok (.invokevirtual 27, 3) := by decide +kernel
theorem d_Le_replay_79 : decode c_Le_replay 79 = .ok (.iinc 4 1, 3) := by decide +kernel
theorem d_Le_replay_82 : decode c_Le_replay 82 = .ok (.goto (-31), 3) := by decide +kernel
theorem d_Le_replay_85 : decode c_Le_replay 85 = .ok (.return_, 1) := by decide +kernel
theorem d_Le_settle_0 : decode c_Le_settle 0 = .ok (.iconst 0, 1) := by decide +kernel
theorem d_Le_settle_1 : decode c_Le_settle 1 = .ok (.istore_n 3, 1) := by decide +kernel
theorem d_Le_settle_2 : decode c_Le_settle 2 = .ok (.iload_n 3, 1) := by decide +kernel
theorem d_Le_settle_3 : decode c_Le_settle 3 = .ok (.aload_n 2, 1) := by decide +kernel
theorem d_Le_settle_4 : decode c_Le_settle 4 = .ok (.getfield 31, 3) := by decide +kernel
theorem d_Le_settle_7 : decode c_Le_settle 7 = .ok (.if_icmp .ge 62, 3) := by decide +kernel
theorem d_Le_settle_10 : decode c_Le_settle 10 = .ok (.iload_n 1, 1) := by decide +kernel
theorem d_Le_settle_11 : decode c_Le_settle 11 = .ok (.iload_n 3, 1) := by decide +kernel
theorem d_Le_settle_12 : decode c_Le_settle 12 = .ok (.invokestatic 37, 3) := by decide +kernel
theorem d_Le_settle_15 : decode c_Le_settle 15 = .ok (.ifCond .eq 48, 3) := by decide +kernel
theorem d_Le_settle_18 : decode c_Le_settle 18 = .ok (.aload_n 0, 1) := by decide +kernel
theorem d_Le_settle_19 : decode c_Le_settle 19 = .ok (.getfield 15, 3) := by decide +kernel
theorem d_Le_settle_22 : decode c_Le_settle 22 = .ok (.iload_n 3, 1) := by decide +kernel
theorem d_Le_settle_23 : decode c_Le_settle 23 = .ok (.iaload, 1) := by decide +kernel
theorem d_Le_settle_24 : decode c_Le_settle 24 = .ok (.ifCond .ne 39, 3) := by decide +kernel
theorem d_Le_settle_27 : decode c_Le_settle 27 = .ok (.aload_n 0, 1) := by decide +kernel
theorem d_Le_settle_28 : decode c_Le_settle 28 = .ok (.getfield 15, 3) := by decide +kernel
theorem d_Le_settle_31 : decode c_Le_settle 31 = .ok (.iload_n 3, 1) := by decide +kernel
theorem d_Le_settle_32 : decode c_Le_settle 32 = .ok (.aload_n 0, 1) := by decide +kernel
theorem d_Le_settle_33 : decode c_Le_settle 33 = .ok (.aload_n 2, 1) := by decide +kernel
theorem d_Le_settle_34 : decode c_Le_settle 34 = .ok (.getfield 40, 3) := by decide +kernel
theorem d_Le_settle_37 : decode c_Le_settle 37 = .ok (.iload_n 3, 1) := by decide +kernel
theorem d_Le_settle_38 : decode c_Le_settle 38 = .ok (.iaload, 1) := by decide +kernel
theorem d_Le_settle_39 : decode c_Le_settle 39 = .ok (.aload_n 2, 1) := by decide +kernel
theorem d_Le_settle_40 : decode c_Le_settle 40 = .ok (.getfield 43, 3) := by decide +kernel
theorem d_Le_settle_43 : decode c_Le_settle 43 = .ok (.iload_n 3, 1) := by decide +kernel
theorem d_Le_settle_44 : decode c_Le_settle 44 = .ok (.iaload, 1) := by decide +kernel
theorem d_Le_settle_45 : decode c_Le_settle 45 = .ok (.aload_n 2, 1) := by decide +kernel
theorem d_Le_settle_46 : decode c_Le_settle 46 = .ok (.getfield 46, 3) := by decide +kernel
theorem d_Le_settle_49 : decode c_Le_settle 49 = .ok (.iload_n 3, 1) := by decide +kernel
theorem d_Le_settle_50 : decode c_Le_settle 50 = .ok (.iaload, 1) := by decide +kernel
theorem d_Le_settle_51 : decode c_Le_settle 51 = .ok (.invokevirtual 49, 3) := by decide +kernel
theorem d_Le_settle_54 : decode c_Le_settle 54 = .ok (.ifCond .eq 7, 3) := by decide +kernel
theorem d_Le_settle_57 : decode c_Le_settle 57 = .ok (.iconst 1, 1) := by decide +kernel
theorem d_Le_settle_58 : decode c_Le_settle 58 = .ok (.goto 4, 3) := by decide +kernel
theorem d_Le_settle_61 : decode c_Le_settle 61 = .ok (.iconst 2, 1) := by decide +kernel
theorem d_Le_settle_62 : decode c_Le_settle 62 = .ok (.iastore, 1) := by decide +kernel
theorem d_Le_settle_63 : decode c_Le_settle 63 = .ok (.iinc 3 1, 3) := by decide +kernel
theorem d_Le_settle_66 : decode c_Le_settle 66 = .ok (.goto (-64), 3) := by decide +kernel
theorem d_Le_settle_69 : decode c_Le_settle 69 = .ok (.return_, 1) := by decide +kernel
theorem d_Le_pay_0 : decode c_Le_pay 0 = .ok (.aload_n 0, 1) := by decide +kernel
theorem d_Le_pay_1 : decode c_Le_pay 1 = .ok (.getfield 9, 3) := by decide +kernel
theorem d_Le_pay_4 : decode c_Le_pay 4 = .ok (.iload_n 1, 1) := by decide +kernel
theorem d_Le_pay_5 : decode c_Le_pay 5 = .ok (.iaload, 1) := by decide +kernel
theorem d_Le_pay_6 : decode c_Le_pay 6 = .ok (.iload_n 3, 1) := by decide +kernel
theorem d_Le_pay_7 : decode c_Le_pay 7 = .ok (.if_icmp .ge 5, 3) := by decide +kernel
theorem d_Le_pay_10 : decode c_Le_pay 10 = .ok (.iconst 0, 1) := by decide +kernel
theorem d_Le_pay_11 : decode c_Le_pay 11 = .ok (.ireturn, 1) := by decide +kernel
theorem d_Le_pay_12 : decode c_Le_pay 12 = .ok (.aload_n 0, 1) := by decide +kernel
theorem d_Le_pay_13 : decode c_Le_pay 13 = .ok (.getfield 9, 3) := by decide +kernel
theorem d_Le_pay_16 : decode c_Le_pay 16 = .ok (.iload_n 1, 1) := by decide +kernel
theorem d_Le_pay_17 : decode c_Le_pay 17 = .ok (.dup2, 1) := by decide +kernel
theorem d_Le_pay_18 : decode c_Le_pay 18 = .ok (.iaload, 1) := by decide +kernel
theorem d_Le_pay_19 : decode c_Le_pay 19 = .ok (.iload_n 3, 1) := by decide +kernel
theorem d_Le_pay_20 : decode c_Le_pay 20 = .ok (.isub, 1) := by decide +kernel
theorem d_Le_pay_21 : decode c_Le_pay 21 = .ok (.iastore, 1) := by decide +kernel
theorem d_Le_pay_22 : decode c_Le_pay 22 = .ok (.aload_n 0, 1) := by decide +kernel
theorem d_Le_pay_23 : decode c_Le_pay 23 = .ok (.getfield 9, 3) := by decide +kernel
theorem d_Le_pay_26 : decode c_Le_pay 26 = .ok (.iload_n 2, 1) := by decide +kernel
theorem d_Le_pay_27 : decode c_Le_pay 27 = .ok (.dup2, 1) := by decide +kernel
theorem d_Le_pay_28 : decode c_Le_pay 28 = .ok (.iaload, 1) := by decide +kernel
theorem d_Le_pay_29 : decode c_Le_pay 29 = .ok (.iload_n 3, 1) := by decide +kernel
theorem d_Le_pay_30 : decode c_Le_pay 30 = .ok (.iadd, 1) := by decide +kernel
theorem d_Le_pay_31 : decode c_Le_pay 31 = .ok (.iastore, 1) := by decide +kernel
theorem d_Le_pay_32 : decode c_Le_pay 32 = .ok (.iconst 1, 1) := by decide +kernel
theorem d_Le_pay_33 : decode c_Le_pay 33 = .ok (.ireturn, 1) := by decide +kernel
theorem d_Rp_init_0 : decode c_Rp_init 0 = .ok (.aload_n 0, 1) := by decide +kernel
theorem d_Rp_init_1 : decode c_Rp_init 1 = .ok (.invokespecial 3, 3) := by decide +kernel
theorem d_Rp_init_4 : decode c_Rp_init 4 = .ok (.aload_n 0, 1) := by decide +kernel
theorem d_Rp_init_5 : decode c_Rp_init 5 = .ok (.iconst 1, 1) := by decide +kernel
theorem d_Rp_init_6 : decode c_Rp_init 6 = .ok (.putfield 9, 3) := by decide +kernel
theorem d_Rp_init_9 : decode c_Rp_init 9 = .ok (.aload_n 0, 1) := by decide +kernel
theorem d_Rp_init_10 : decode c_Rp_init 10 = .ok (.iconst 2, 1) := by decide +kernel
theorem d_Rp_init_11 : decode c_Rp_init 11 = .ok (.putfield 15, 3) := by decide +kernel
theorem d_Rp_init_14 : decode c_Rp_init 14 = .ok (.aload_n 0, 1) := by decide +kernel
theorem d_Rp_init_15 : decode c_Rp_init 15 = .ok (.bipush 40, 2) := by decide +kernel
theorem d_Rp_init_17 : decode c_Rp_init 17 = .ok (.newarray .int, 2) := by decide +kernel
theorem d_Rp_init_19 : decode c_Rp_init 19 = .ok (.putfield 18, 3) := by decide +kernel
theorem d_Rp_init_22 : decode c_Rp_init 22 = .ok (.aload_n 0, 1) := by decide +kernel
theorem d_Rp_init_23 : decode c_Rp_init 23 = .ok (.iload_n 1, 1) := by decide +kernel
theorem d_Rp_init_24 : decode c_Rp_init 24 = .ok (.newarray .int, 2) := by decide +kernel
theorem d_Rp_init_26 : decode c_Rp_init 26 = .ok (.putfield 22, 3) := by decide +kernel
theorem d_Rp_init_29 : decode c_Rp_init 29 = .ok (.return_, 1) := by decide +kernel
theorem d_Rp_enter_0 : decode c_Rp_enter 0 = .ok (.aload_n 0, 1) := by decide +kernel
theorem d_Rp_enter_1 : decode c_Rp_enter 1 = .ok (.iload_n 1, 1) := by decide +kernel
theorem d_Rp_enter_2 : decode c_Rp_enter 2 = .ok (.putfield 9, 3) := by decide +kernel
theorem d_Rp_enter_5 : decode c_Rp_enter 5 = .ok (.aload_n 0, 1) := by decide +kernel
theorem d_Rp_enter_6 : decode c_Rp_enter 6 = .ok (.iconst 0, 1) := by decide +kernel
theorem d_Rp_enter_7 : decode c_Rp_enter 7 = .ok (.putfield 25, 3) := by decide +kernel
theorem d_Rp_enter_10 : decode c_Rp_enter 10 = .ok (.return_, 1) := by decide +kernel
theorem d_Rp_see_0 : decode c_Rp_see 0 = .ok (.aload_n 2, 1) := by decide +kernel
theorem d_Rp_see_1 : decode c_Rp_see 1 = .ok (.getfield 28, 3) := by decide +kernel
theorem d_Rp_see_4 : decode c_Rp_see 4 = .ok (.iload_n 1, 1) := by decide +kernel
theorem d_Rp_see_5 : decode c_Rp_see 5 = .ok (.iaload, 1) := by decide +kernel
theorem d_Rp_see_6 : decode c_Rp_see 6 = .ok (.istore_n 3, 1) := by decide +kernel
theorem d_Rp_see_7 : decode c_Rp_see 7 = .ok (.aload_n 0, 1) := by decide +kernel
theorem d_Rp_see_8 : decode c_Rp_see 8 = .ok (.aload_n 2, 1) := by decide +kernel
theorem d_Rp_see_9 : decode c_Rp_see 9 = .ok (.aload_n 0, 1) := by decide +kernel
theorem d_Rp_see_10 : decode c_Rp_see 10 = .ok (.getfield 33, 3) := by decide +kernel
theorem d_Rp_see_13 : decode c_Rp_see 13 = .ok (.iload_n 1, 1) := by decide +kernel
theorem d_Rp_see_14 : decode c_Rp_see 14 = .ok (.invokevirtual 36, 3) := by decide +kernel
theorem d_Rp_see_17 : decode c_Rp_see 17 = .ok (.putfield 33, 3) := by decide +kernel
theorem d_Rp_see_20 : decode c_Rp_see 20 = .ok (.aload_n 0, 1) := by decide +kernel
theorem d_Rp_see_21 : decode c_Rp_see 21 = .ok (.aload_n 2, 1) := by decide +kernel
theorem d_Rp_see_22 : decode c_Rp_see 22 = .ok (.aload_n 0, 1) := by decide +kernel
theorem d_Rp_see_23 : decode c_Rp_see 23 = .ok (.getfield 40, 3) := by decide +kernel
theorem d_Rp_see_26 : decode c_Rp_see 26 = .ok (.iload_n 3, 1) := by decide +kernel
theorem d_Rp_see_27 : decode c_Rp_see 27 = .ok (.invokevirtual 36, 3) := by decide +kernel
theorem d_Rp_see_30 : decode c_Rp_see 30 = .ok (.putfield 40, 3) := by decide +kernel
theorem d_Rp_see_33 : decode c_Rp_see 33 = .ok (.aload_n 2, 1) := by decide +kernel
theorem d_Rp_see_34 : decode c_Rp_see 34 = .ok (.iload_n 1, 1) := by decide +kernel
theorem d_Rp_see_35 : decode c_Rp_see 35 = .ok (.invokevirtual 43, 3) := by decide +kernel
theorem d_Rp_see_38 : decode c_Rp_see 38 = .ok (.ifCond .eq 29, 3) := by decide +kernel
theorem d_Rp_see_41 : decode c_Rp_see 41 = .ok (.aload_n 2, 1) := by decide +kernel
theorem d_Rp_see_42 : decode c_Rp_see 42 = .ok (.iload_n 3, 1) := by decide +kernel
theorem d_Rp_see_43 : decode c_Rp_see 43 = .ok (.invokevirtual 43, 3) := by decide +kernel
theorem d_Rp_see_46 : decode c_Rp_see 46 = .ok (.ifCond .eq 21, 3) := by decide +kernel
theorem d_Rp_see_49 : decode c_Rp_see 49 = .ok (.aload_n 0, 1) := by decide +kernel
theorem d_Rp_see_50 : decode c_Rp_see 50 = .ok (.aload_n 2, 1) := by decide +kernel
theorem d_Rp_see_51 : decode c_Rp_see 51 = .ok (.aload_n 0, 1) := by decide +kernel
theorem d_Rp_see_52 : decode c_Rp_see 52 = .ok (.getfield 47, 3) := by decide +kernel
theorem d_Rp_see_55 : decode c_Rp_see 55 = .ok (.aload_n 2, 1) := by decide +kernel
theorem d_Rp_see_56 : decode c_Rp_see 56 = .ok (.getfield 28, 3) := by decide +kernel
theorem d_Rp_see_59 : decode c_Rp_see 59 = .ok (.iload_n 3, 1) := by decide +kernel
theorem d_Rp_see_60 : decode c_Rp_see 60 = .ok (.iaload, 1) := by decide +kernel
theorem d_Rp_see_61 : decode c_Rp_see 61 = .ok (.invokevirtual 36, 3) := by decide +kernel
theorem d_Rp_see_64 : decode c_Rp_see 64 = .ok (.putfield 47, 3) := by decide +kernel
theorem d_Rp_see_67 : decode c_Rp_see 67 = .ok (.aload_n 2, 1) := by decide +kernel
theorem d_Rp_see_68 : decode c_Rp_see 68 = .ok (.getfield 50, 3) := by decide +kernel
theorem d_Rp_see_71 : decode c_Rp_see 71 = .ok (.iload_n 1, 1) := by decide +kernel
theorem d_Rp_see_72 : decode c_Rp_see 72 = .ok (.iaload, 1) := by decide +kernel
theorem d_Rp_see_73 : decode c_Rp_see 73 = .ok (.aload_n 0, 1) := by decide +kernel
theorem d_Rp_see_74 : decode c_Rp_see 74 = .ok (.getfield 9, 3) := by decide +kernel
theorem d_Rp_see_77 : decode c_Rp_see 77 = .ok (.if_icmp .lt 20, 3) := by decide +kernel
theorem d_Rp_see_80 : decode c_Rp_see 80 = .ok (.aload_n 0, 1) := by decide +kernel
theorem d_Rp_see_81 : decode c_Rp_see 81 = .ok (.aload_n 2, 1) := by decide +kernel
theorem d_Rp_see_82 : decode c_Rp_see 82 = .ok (.getfield 50, 3) := by decide +kernel
theorem d_Rp_see_85 : decode c_Rp_see 85 = .ok (.iload_n 1, 1) := by decide +kernel
theorem d_Rp_see_86 : decode c_Rp_see 86 = .ok (.iaload, 1) := by decide +kernel
theorem d_Rp_see_87 : decode c_Rp_see 87 = .ok (.iconst 1, 1) := by decide +kernel
theorem d_Rp_see_88 : decode c_Rp_see 88 = .ok (.iadd, 1) := by decide +kernel
theorem d_Rp_see_89 : decode c_Rp_see 89 = .ok (.invokevirtual 53, 3) := by decide +kernel
theorem d_Rp_see_92 : decode c_Rp_see 92 = .ok (.aload_n 0, 1) := by decide +kernel
theorem d_Rp_see_93 : decode c_Rp_see 93 = .ok (.iconst 2, 1) := by decide +kernel
theorem d_Rp_see_94 : decode c_Rp_see 94 = .ok (.putfield 15, 3) := by decide +kernel
theorem d_Rp_see_97 : decode c_Rp_see 97 = .ok (.return_, 1) := by decide +kernel
theorem d_Rp_push_0 : decode c_Rp_push 0 = .ok (.iconst 0, 1) := by decide +kernel
theorem d_Rp_push_1 : decode c_Rp_push 1 = .ok (.istore_n 2, 1) := by decide +kernel
theorem d_Rp_push_2 : decode c_Rp_push 2 = .ok (.iconst 0, 1) := by decide +kernel
theorem d_Rp_push_3 : decode c_Rp_push 3 = .ok (.istore_n 3, 1) := by decide +kernel
theorem d_Rp_push_4 : decode c_Rp_push 4 = .ok (.iload_n 3, 1) := by decide +kernel
theorem d_Rp_push_5 : decode c_Rp_push 5 = .ok (.aload_n 0, 1) := by decide +kernel
theorem d_Rp_push_6 : decode c_Rp_push 6 = .ok (.getfield 22, 3) := by decide +kernel
theorem d_Rp_push_9 : decode c_Rp_push 9 = .ok (.arraylength, 1) := by decide +kernel
theorem d_Rp_push_10 : decode c_Rp_push 10 = .ok (.if_icmp .ge 40, 3) := by decide +kernel
theorem d_Rp_push_13 : decode c_Rp_push 13 = .ok (.aload_n 0, 1) := by decide +kernel
theorem d_Rp_push_14 : decode c_Rp_push 14 = .ok (.getfield 22, 3) := by decide +kernel
theorem d_Rp_push_17 : decode c_Rp_push 17 = .ok (.iload_n 3, 1) := by decide +kernel
theorem d_Rp_push_18 : decode c_Rp_push 18 = .ok (.iaload, 1) := by decide +kernel
theorem d_Rp_push_19 : decode c_Rp_push 19 = .ok (.iload_n 2, 1) := by decide +kernel
theorem d_Rp_push_20 : decode c_Rp_push 20 = .ok (.if_icmp .le 24, 3) := by decide +kernel
theorem d_Rp_push_23 : decode c_Rp_push 23 = .ok (.aload_n 0, 1) := by decide +kernel
theorem d_Rp_push_24 : decode c_Rp_push 24 = .ok (.aload_n 0, 1) := by decide +kernel
theorem d_Rp_push_25 : decode c_Rp_push 25 = .ok (.getfield 22, 3) := by decide +kernel
theorem d_Rp_push_28 : decode c_Rp_push 28 = .ok (.iload_n 3, 1) := by decide +kernel
theorem d_Rp_push_29 : decode c_Rp_push 29 = .ok (.iaload, 1) := by decide +kernel
theorem d_Rp_push_30 : decode c_Rp_push 30 = .ok (.invokevirtual 57, 3) := by decide +kernel
theorem d_Rp_push_33 : decode c_Rp_push 33 = .ok (.iload_n 1, 1) := by decide +kernel
theorem d_Rp_push_34 : decode c_Rp_push 34 = .ok (.if_icmp .lt 10, 3) := by decide +kernel
theorem d_Rp_push_37 : decode c_Rp_push 37 = .ok (.aload_n 0, 1) := by decide +kernel
theorem d_Rp_push_38 : decode c_Rp_push 38 = .ok (.getfield 22, 3) := by decide +kernel
theorem d_Rp_push_41 : decode c_Rp_push 41 = .ok (.iload_n 3, 1) := by decide +kernel
theorem d_Rp_push_42 : decode c_Rp_push 42 = .ok (.iaload, 1) := by decide +kernel
theorem d_Rp_push_43 : decode c_Rp_push 43 = .ok (.istore_n 2, 1) := by decide +kernel
theorem d_Rp_push_44 : decode c_Rp_push 44 = .ok (.iinc 3 1, 3) := by decide +kernel
theorem d_Rp_push_47 : decode c_Rp_push 47 = .ok (.goto (-43), 3) := by decide +kernel
theorem d_Rp_push_50 : decode c_Rp_push 50 = .ok (.iload_n 2, 1) := by decide +kernel
theorem d_Rp_push_51 : decode c_Rp_push 51 = .ok (.ireturn, 1) := by decide +kernel
theorem d_Rp_countFrom_0 : decode c_Rp_countFrom 0 = .ok (.iconst 0, 1) := by decide +kernel
theorem d_Rp_countFrom_1 : decode c_Rp_countFrom 1 = .ok (.istore_n 2, 1) := by decide +kernel
theorem d_Rp_countFrom_2 : decode c_Rp_countFrom 2 = .ok (.iconst 0, 1) := by decide +kernel
theorem d_Rp_countFrom_3 : decode c_Rp_countFrom 3 = .ok (.istore_n 3, 1) := by decide +kernel
theorem d_Rp_countFrom_4 : decode c_Rp_countFrom 4 = .ok (.iload_n 3, 1) := by decide +kernel
theorem d_Rp_countFrom_5 : decode c_Rp_countFrom 5 = .ok (.aload_n 0, 1) := by decide +kernel
theorem d_Rp_countFrom_6 : decode c_Rp_countFrom 6 = .ok (.getfield 22, 3) := by decide +kernel
theorem d_Rp_countFrom_9 : decode c_Rp_countFrom 9 = .ok (.arraylength, 1) := by decide +kernel
theorem d_Rp_countFrom_10 : decode c_Rp_countFrom 10 = .ok (.if_icmp .ge 22, 3) := by decide +kernel
theorem d_Rp_countFrom_13 : decode c_Rp_countFrom 13 = .ok (.aload_n 0, 1) := by decide +kernel
theorem d_Rp_countFrom_14 : decode c_Rp_countFrom 14 = .ok (.getfield 22, 3) := by decide +kernel
theorem d_Rp_countFrom_17 : decode c_Rp_countFrom 17 = .ok (.iload_n 3, 1) := by decide +kernel
theorem d_Rp_countFrom_18 : decode c_Rp_countFrom 18 = .ok (.iaload, 1) := by decide +kernel
theorem d_Rp_countFrom_19 : decode c_Rp_countFrom 19 = .ok (.iload_n 1, 1) := by decide +kernel
theorem d_Rp_countFrom_20 : decode c_Rp_countFrom 20 = .ok (.if_icmp .lt 6, 3) := by decide +kernel
theorem d_Rp_countFrom_23 : decode c_Rp_countFrom 23 = .ok (.iinc 2 1, 3) := by decide +kernel
theorem d_Rp_countFrom_26 : decode c_Rp_countFrom 26 = .ok (.iinc 3 1, 3) := by decide +kernel
theorem d_Rp_countFrom_29 : decode c_Rp_countFrom 29 = .ok (.goto (-25), 3) := by decide +kernel
theorem d_Rp_countFrom_32 : decode c_Rp_countFrom 32 = .ok (.iload_n 2, 1) := by decide +kernel
theorem d_Rp_countFrom_33 : decode c_Rp_countFrom 33 = .ok (.ireturn, 1) := by decide +kernel
theorem d_Ro_init_0 : decode c_Ro_init 0 = .ok (.aload_n 0, 1) := by decide +kernel
theorem d_Ro_init_1 : decode c_Ro_init 1 = .ok (.invokespecial 3, 3) := by decide +kernel
theorem d_Ro_init_4 : decode c_Ro_init 4 = .ok (.aload_n 0, 1) := by decide +kernel
theorem d_Ro_init_5 : decode c_Ro_init 5 = .ok (.bipush 40, 2) := by decide +kernel
theorem d_Ro_init_7 : decode c_Ro_init 7 = .ok (.newarray .int, 2) := by decide +kernel
theorem d_Ro_init_9 : decode c_Ro_init 9 = .ok (.putfield 9, 3) := by decide +kernel
theorem d_Ro_init_12 : decode c_Ro_init 12 = .ok (.aload_n 0, 1) := by decide +kernel
theorem d_Ro_init_13 : decode c_Ro_init 13 = .ok (.bipush 40, 2) := by decide +kernel
theorem d_Ro_init_15 : decode c_Ro_init 15 = .ok (.newarray .int, 2) := by decide +kernel
theorem d_Ro_init_17 : decode c_Ro_init 17 = .ok (.putfield 15, 3) := by decide +kernel
theorem d_Ro_init_20 : decode c_Ro_init 20 = .ok (.return_, 1) := by decide +kernel
theorem d_Ro_kind_0 : decode c_Ro_kind 0 = .ok (.iload_n 0, 1) := by decide +kernel
theorem d_Ro_kind_1 : decode c_Ro_kind 1 = .ok (.iconst 3, 1) := by decide +kernel
theorem d_Ro_kind_2 : decode c_Ro_kind 2 = .ok (.iand, 1) := by decide +kernel
theorem d_Ro_kind_3 : decode c_Ro_kind 3 = .ok (.ireturn, 1) := by decide +kernel
theorem d_Ro_receiver_0 : decode c_Ro_receiver 0 = .ok (.iload_n 0, 1) := by decide +kernel
theorem d_Ro_receiver_1 : decode c_Ro_receiver 1 = .ok (.iconst 2, 1) := by decide +kernel
theorem d_Ro_receiver_2 : decode c_Ro_receiver 2 = .ok (.ishr, 1) := by decide +kernel
theorem d_Ro_receiver_3 : decode c_Ro_receiver 3 = .ok (.bipush 7, 2) := by decide +kernel
theorem d_Ro_receiver_5 : decode c_Ro_receiver 5 = .ok (.iand, 1) := by decide +kernel
theorem d_Ro_receiver_6 : decode c_Ro_receiver 6 = .ok (.ireturn, 1) := by decide +kernel
theorem d_Ro_sender_0 : decode c_Ro_sender 0 = .ok (.iload_n 0, 1) := by decide +kernel
theorem d_Ro_sender_1 : decode c_Ro_sender 1 = .ok (.iconst 5, 1) := by decide +kernel
theorem d_Ro_sender_2 : decode c_Ro_sender 2 = .ok (.ishr, 1) := by decide +kernel
theorem d_Ro_sender_3 : decode c_Ro_sender 3 = .ok (.bipush 7, 2) := by decide +kernel
theorem d_Ro_sender_5 : decode c_Ro_sender 5 = .ok (.iand, 1) := by decide +kernel
theorem d_Ro_sender_6 : decode c_Ro_sender 6 = .ok (.ireturn, 1) := by decide +kernel
theorem d_Ro_subject_0 : decode c_Ro_subject 0 = .ok (.iload_n 0, 1) := by decide +kernel
theorem d_Ro_subject_1 : decode c_Ro_subject 1 = .ok (.bipush 8, 2) := by decide +kernel
theorem d_Ro_subject_3 : decode c_Ro_subject 3 = .ok (.ishr, 1) := by decide +kernel
theorem d_Ro_subject_4 : decode c_Ro_subject 4 = .ok (.ireturn, 1) := by decide +kernel
theorem d_Ro_hasPlace_0 : decode c_Ro_hasPlace 0 = .ok (.iload_n 1, 1) := by decide +kernel
theorem d_Ro_hasPlace_1 : decode c_Ro_hasPlace 1 = .ok (.ifCond .lt 15, 3) := by decide +kernel
theorem d_Ro_hasPlace_4 : decode c_Ro_hasPlace 4 = .ok (.iload_n 1, 1) := by decide +kernel
theorem d_Ro_hasPlace_5 : decode c_Ro_hasPlace 5 = .ok (.aload_n 0, 1) := by decide +kernel
theorem d_Ro_hasPlace_6 : decode c_Ro_hasPlace 6 = .ok (.getfield 18, 3) := by decide +kernel
theorem d_Ro_hasPlace_9 : decode c_Ro_hasPlace 9 = .ok (.if_icmp .ge 7, 3) := by decide +kernel
theorem d_Ro_hasPlace_12 : decode c_Ro_hasPlace 12 = .ok (.iconst 1, 1) := by decide +kernel
theorem d_Ro_hasPlace_13 : decode c_Ro_hasPlace 13 = .ok (.goto 4, 3) := by decide +kernel
theorem d_Ro_hasPlace_16 : decode c_Ro_hasPlace 16 = .ok (.iconst 0, 1) := by decide +kernel
theorem d_Ro_hasPlace_17 : decode c_Ro_hasPlace 17 = .ok (.ireturn, 1) := by decide +kernel
theorem d_Ro_isFull_0 : decode c_Ro_isFull 0 = .ok (.aload_n 0, 1) := by decide +kernel
theorem d_Ro_isFull_1 : decode c_Ro_isFull 1 = .ok (.getfield 18, 3) := by decide +kernel
theorem d_Ro_isFull_4 : decode c_Ro_isFull 4 = .ok (.bipush 40, 2) := by decide +kernel
theorem d_Ro_isFull_6 : decode c_Ro_isFull 6 = .ok (.if_icmp .lt 7, 3) := by decide +kernel
theorem d_Ro_isFull_9 : decode c_Ro_isFull 9 = .ok (.iconst 1, 1) := by decide +kernel
theorem d_Ro_isFull_10 : decode c_Ro_isFull 10 = .ok (.goto 4, 3) := by decide +kernel
theorem d_Ro_isFull_13 : decode c_Ro_isFull 13 = .ok (.iconst 0, 1) := by decide +kernel
theorem d_Ro_isFull_14 : decode c_Ro_isFull 14 = .ok (.ireturn, 1) := by decide +kernel
theorem d_Ro_send_0 : decode c_Ro_send 0 = .ok (.aload_n 0, 1) := by decide +kernel
theorem d_Ro_send_1 : decode c_Ro_send 1 = .ok (.invokevirtual 22, 3) := by decide +kernel
theorem d_Ro_send_4 : decode c_Ro_send 4 = .ok (.ifCond .eq 14, 3) := by decide +kernel
theorem d_Ro_send_7 : decode c_Ro_send 7 = .ok (.aload_n 0, 1) := by decide +kernel
theorem d_Ro_send_8 : decode c_Ro_send 8 = .ok (.dup, 1) := by decide +kernel
theorem d_Ro_send_9 : decode c_Ro_send 9 = .ok (.getfield 26, 3) := by decide +kernel
theorem d_Ro_send_12 : decode c_Ro_send 12 = .ok (.iconst 1, 1) := by decide +kernel
theorem d_Ro_send_13 : decode c_Ro_send 13 = .ok (.iadd, 1) := by decide +kernel
theorem d_Ro_send_14 : decode c_Ro_send 14 = .ok (.putfield 26, 3) := by decide +kernel
end
section
theorem d_Ro_send_17 : decode c_Ro_send 17 = .ok (.return_, 1) := by decide +kernel
theorem d_Ro_send_18 : decode c_Ro_send 18 = .ok (.aload_n 0, 1) := by decide +kernel
theorem d_Ro_send_19 : decode c_Ro_send 19 = .ok (.getfield 9, 3) := by decide +kernel
theorem d_Ro_send_22 : decode c_Ro_send 22 = .ok (.aload_n 0, 1) := by decide +kernel
theorem d_Ro_send_23 : decode c_Ro_send 23 = .ok (.getfield 18, 3) := by decide +kernel
theorem d_Ro_send_26 : decode c_Ro_send 26 = .ok (.iload_n 1, 1) := by decide +kernel
theorem d_Ro_send_27 : decode c_Ro_send 27 = .ok (.iconst 4, 1) := by decide +kernel
theorem d_Ro_send_28 : decode c_Ro_send 28 = .ok (.iload_n 2, 1) := by decide +kernel
theorem d_Ro_send_29 : decode c_Ro_send 29 = .ok (.imul, 1) := by decide +kernel
theorem d_Ro_send_30 : decode c_Ro_send 30 = .ok (.iadd, 1) := by decide +kernel
theorem d_Ro_send_31 : decode c_Ro_send 31 = .ok (.bipush 32, 2) := by decide +kernel
theorem d_Ro_send_33 : decode c_Ro_send 33 = .ok (.iload_n 3, 1) := by decide +kernel
theorem d_Ro_send_34 : decode c_Ro_send 34 = .ok (.imul, 1) := by decide +kernel
theorem d_Ro_send_35 : decode c_Ro_send 35 = .ok (.iadd, 1) := by decide +kernel
theorem d_Ro_send_36 : decode c_Ro_send 36 = .ok (.sipush 256, 3) := by decide +kernel
theorem d_Ro_send_39 : decode c_Ro_send 39 = .ok (.iload 4, 2) := by decide +kernel
theorem d_Ro_send_41 : decode c_Ro_send 41 = .ok (.imul, 1) := by decide +kernel
theorem d_Ro_send_42 : decode c_Ro_send 42 = .ok (.iadd, 1) := by decide +kernel
theorem d_Ro_send_43 : decode c_Ro_send 43 = .ok (.iastore, 1) := by decide +kernel
theorem d_Ro_send_44 : decode c_Ro_send 44 = .ok (.aload_n 0, 1) := by decide +kernel
theorem d_Ro_send_45 : decode c_Ro_send 45 = .ok (.getfield 15, 3) := by decide +kernel
theorem d_Ro_send_48 : decode c_Ro_send 48 = .ok (.aload_n 0, 1) := by decide +kernel
theorem d_Ro_send_49 : decode c_Ro_send 49 = .ok (.getfield 18, 3) := by decide +kernel
theorem d_Ro_send_52 : decode c_Ro_send 52 = .ok (.iload 5, 2) := by decide +kernel
theorem d_Ro_send_54 : decode c_Ro_send 54 = .ok (.iastore, 1) := by decide +kernel
theorem d_Ro_send_55 : decode c_Ro_send 55 = .ok (.aload_n 0, 1) := by decide +kernel
theorem d_Ro_send_56 : decode c_Ro_send 56 = .ok (.dup, 1) := by decide +kernel
theorem d_Ro_send_57 : decode c_Ro_send 57 = .ok (.getfield 18, 3) := by decide +kernel
theorem d_Ro_send_60 : decode c_Ro_send 60 = .ok (.iconst 1, 1) := by decide +kernel
theorem d_Ro_send_61 : decode c_Ro_send 61 = .ok (.iadd, 1) := by decide +kernel
theorem d_Ro_send_62 : decode c_Ro_send 62 = .ok (.putfield 18, 3) := by decide +kernel
theorem d_Ro_send_65 : decode c_Ro_send 65 = .ok (.return_, 1) := by decide +kernel
theorem d_Ro_remove_0 : decode c_Ro_remove 0 = .ok (.aload_n 0, 1) := by decide +kernel
theorem d_Ro_remove_1 : decode c_Ro_remove 1 = .ok (.dup, 1) := by decide +kernel
theorem d_Ro_remove_2 : decode c_Ro_remove 2 = .ok (.getfield 18, 3) := by decide +kernel
theorem d_Ro_remove_5 : decode c_Ro_remove 5 = .ok (.iconst 1, 1) := by decide +kernel
theorem d_Ro_remove_6 : decode c_Ro_remove 6 = .ok (.isub, 1) := by decide +kernel
theorem d_Ro_remove_7 : decode c_Ro_remove 7 = .ok (.putfield 18, 3) := by decide +kernel
theorem d_Ro_remove_10 : decode c_Ro_remove 10 = .ok (.aload_n 0, 1) := by decide +kernel
theorem d_Ro_remove_11 : decode c_Ro_remove 11 = .ok (.getfield 9, 3) := by decide +kernel
theorem d_Ro_remove_14 : decode c_Ro_remove 14 = .ok (.iload_n 1, 1) := by decide +kernel
theorem d_Ro_remove_15 : decode c_Ro_remove 15 = .ok (.iconst 1, 1) := by decide +kernel
theorem d_Ro_remove_16 : decode c_Ro_remove 16 = .ok (.iadd, 1) := by decide +kernel
theorem d_Ro_remove_17 : decode c_Ro_remove 17 = .ok (.aload_n 0, 1) := by decide +kernel
theorem d_Ro_remove_18 : decode c_Ro_remove 18 = .ok (.getfield 9, 3) := by decide +kernel
theorem d_Ro_remove_21 : decode c_Ro_remove 21 = .ok (.iload_n 1, 1) := by decide +kernel
theorem d_Ro_remove_22 : decode c_Ro_remove 22 = .ok (.aload_n 0, 1) := by decide +kernel
theorem d_Ro_remove_23 : decode c_Ro_remove 23 = .ok (.getfield 18, 3) := by decide +kernel
theorem d_Ro_remove_26 : decode c_Ro_remove 26 = .ok (.iload_n 1, 1) := by decide +kernel
theorem d_Ro_remove_27 : decode c_Ro_remove 27 = .ok (.isub, 1) := by decide +kernel
theorem d_Ro_remove_28 : decode c_Ro_remove 28 = .ok (.invokestatic 29, 3) := by decide +kernel
theorem d_Ro_remove_31 : decode c_Ro_remove 31 = .ok (.aload_n 0, 1) := by decide +kernel
theorem d_Ro_remove_32 : decode c_Ro_remove 32 = .ok (.getfield 15, 3) := by decide +kernel
theorem d_Ro_remove_35 : decode c_Ro_remove 35 = .ok (.iload_n 1, 1) := by decide +kernel
theorem d_Ro_remove_36 : decode c_Ro_remove 36 = .ok (.iconst 1, 1) := by decide +kernel
theorem d_Ro_remove_37 : decode c_Ro_remove 37 = .ok (.iadd, 1) := by decide +kernel
theorem d_Ro_remove_38 : decode c_Ro_remove 38 = .ok (.aload_n 0, 1) := by decide +kernel
theorem d_Ro_remove_39 : decode c_Ro_remove 39 = .ok (.getfield 15, 3) := by decide +kernel
theorem d_Ro_remove_42 : decode c_Ro_remove 42 = .ok (.iload_n 1, 1) := by decide +kernel
theorem d_Ro_remove_43 : decode c_Ro_remove 43 = .ok (.aload_n 0, 1) := by decide +kernel
theorem d_Ro_remove_44 : decode c_Ro_remove 44 = .ok (.getfield 18, 3) := by decide +kernel
theorem d_Ro_remove_47 : decode c_Ro_remove 47 = .ok (.iload_n 1, 1) := by decide +kernel
theorem d_Ro_remove_48 : decode c_Ro_remove 48 = .ok (.isub, 1) := by decide +kernel
theorem d_Ro_remove_49 : decode c_Ro_remove 49 = .ok (.invokestatic 29, 3) := by decide +kernel
theorem d_Ro_remove_52 : decode c_Ro_remove 52 = .ok (.return_, 1) := by decide +kernel
theorem d_Tr_init_0 : decode c_Tr_init 0 = .ok (.aload_n 0, 1) := by decide +kernel
theorem d_Tr_init_1 : decode c_Tr_init 1 = .ok (.invokespecial 3, 3) := by decide +kernel
theorem d_Tr_init_4 : decode c_Tr_init 4 = .ok (.aload_n 0, 1) := by decide +kernel
theorem d_Tr_init_5 : decode c_Tr_init 5 = .ok (.bipush 24, 2) := by decide +kernel
theorem d_Tr_init_7 : decode c_Tr_init 7 = .ok (.newarray .int, 2) := by decide +kernel
theorem d_Tr_init_9 : decode c_Tr_init 9 = .ok (.putfield 9, 3) := by decide +kernel
theorem d_Tr_init_12 : decode c_Tr_init 12 = .ok (.aload_n 0, 1) := by decide +kernel
theorem d_Tr_init_13 : decode c_Tr_init 13 = .ok (.bipush 24, 2) := by decide +kernel
theorem d_Tr_init_15 : decode c_Tr_init 15 = .ok (.newarray .int, 2) := by decide +kernel
theorem d_Tr_init_17 : decode c_Tr_init 17 = .ok (.putfield 15, 3) := by decide +kernel
theorem d_Tr_init_20 : decode c_Tr_init 20 = .ok (.aload_n 0, 1) := by decide +kernel
theorem d_Tr_init_21 : decode c_Tr_init 21 = .ok (.bipush 24, 2) := by decide +kernel
theorem d_Tr_init_23 : decode c_Tr_init 23 = .ok (.newarray .int, 2) := by decide +kernel
theorem d_Tr_init_25 : decode c_Tr_init 25 = .ok (.putfield 18, 3) := by decide +kernel
theorem d_Tr_init_28 : decode c_Tr_init 28 = .ok (.return_, 1) := by decide +kernel
theorem d_Tr_has_0 : decode c_Tr_has 0 = .ok (.iload_n 1, 1) := by decide +kernel
theorem d_Tr_has_1 : decode c_Tr_has 1 = .ok (.ifCond .lt 15, 3) := by decide +kernel
theorem d_Tr_has_4 : decode c_Tr_has 4 = .ok (.iload_n 1, 1) := by decide +kernel
theorem d_Tr_has_5 : decode c_Tr_has 5 = .ok (.aload_n 0, 1) := by decide +kernel
theorem d_Tr_has_6 : decode c_Tr_has 6 = .ok (.getfield 21, 3) := by decide +kernel
theorem d_Tr_has_9 : decode c_Tr_has 9 = .ok (.if_icmp .ge 7, 3) := by decide +kernel
theorem d_Tr_has_12 : decode c_Tr_has 12 = .ok (.iconst 1, 1) := by decide +kernel
theorem d_Tr_has_13 : decode c_Tr_has 13 = .ok (.goto 4, 3) := by decide +kernel
theorem d_Tr_has_16 : decode c_Tr_has 16 = .ok (.iconst 0, 1) := by decide +kernel
theorem d_Tr_has_17 : decode c_Tr_has 17 = .ok (.ireturn, 1) := by decide +kernel
theorem d_Tr_isFull_0 : decode c_Tr_isFull 0 = .ok (.aload_n 0, 1) := by decide +kernel
theorem d_Tr_isFull_1 : decode c_Tr_isFull 1 = .ok (.getfield 21, 3) := by decide +kernel
theorem d_Tr_isFull_4 : decode c_Tr_isFull 4 = .ok (.bipush 24, 2) := by decide +kernel
theorem d_Tr_isFull_6 : decode c_Tr_isFull 6 = .ok (.if_icmp .lt 7, 3) := by decide +kernel
theorem d_Tr_isFull_9 : decode c_Tr_isFull 9 = .ok (.iconst 1, 1) := by decide +kernel
theorem d_Tr_isFull_10 : decode c_Tr_isFull 10 = .ok (.goto 4, 3) := by decide +kernel
theorem d_Tr_isFull_13 : decode c_Tr_isFull 13 = .ok (.iconst 0, 1) := by decide +kernel
theorem d_Tr_isFull_14 : decode c_Tr_isFull 14 = .ok (.ireturn, 1) := by decide +kernel
theorem d_Tr_add_0 : decode c_Tr_add 0 = .ok (.aload_n 0, 1) := by decide +kernel
theorem d_Tr_add_1 : decode c_Tr_add 1 = .ok (.getfield 9, 3) := by decide +kernel
theorem d_Tr_add_4 : decode c_Tr_add 4 = .ok (.aload_n 0, 1) := by decide +kernel
theorem d_Tr_add_5 : decode c_Tr_add 5 = .ok (.getfield 21, 3) := by decide +kernel
theorem d_Tr_add_8 : decode c_Tr_add 8 = .ok (.iload_n 1, 1) := by decide +kernel
theorem d_Tr_add_9 : decode c_Tr_add 9 = .ok (.iastore, 1) := by decide +kernel
theorem d_Tr_add_10 : decode c_Tr_add 10 = .ok (.aload_n 0, 1) := by decide +kernel
theorem d_Tr_add_11 : decode c_Tr_add 11 = .ok (.getfield 15, 3) := by decide +kernel
theorem d_Tr_add_14 : decode c_Tr_add 14 = .ok (.aload_n 0, 1) := by decide +kernel
theorem d_Tr_add_15 : decode c_Tr_add 15 = .ok (.getfield 21, 3) := by decide +kernel
theorem d_Tr_add_18 : decode c_Tr_add 18 = .ok (.iload_n 2, 1) := by decide +kernel
theorem d_Tr_add_19 : decode c_Tr_add 19 = .ok (.iastore, 1) := by decide +kernel
theorem d_Tr_add_20 : decode c_Tr_add 20 = .ok (.aload_n 0, 1) := by decide +kernel
theorem d_Tr_add_21 : decode c_Tr_add 21 = .ok (.getfield 18, 3) := by decide +kernel
theorem d_Tr_add_24 : decode c_Tr_add 24 = .ok (.aload_n 0, 1) := by decide +kernel
theorem d_Tr_add_25 : decode c_Tr_add 25 = .ok (.getfield 21, 3) := by decide +kernel
theorem d_Tr_add_28 : decode c_Tr_add 28 = .ok (.iload_n 3, 1) := by decide +kernel
theorem d_Tr_add_29 : decode c_Tr_add 29 = .ok (.iastore, 1) := by decide +kernel
theorem d_Tr_add_30 : decode c_Tr_add 30 = .ok (.aload_n 0, 1) := by decide +kernel
theorem d_Tr_add_31 : decode c_Tr_add 31 = .ok (.dup, 1) := by decide +kernel
theorem d_Tr_add_32 : decode c_Tr_add 32 = .ok (.getfield 21, 3) := by decide +kernel
theorem d_Tr_add_35 : decode c_Tr_add 35 = .ok (.iconst 1, 1) := by decide +kernel
theorem d_Tr_add_36 : decode c_Tr_add 36 = .ok (.iadd, 1) := by decide +kernel
theorem d_Tr_add_37 : decode c_Tr_add 37 = .ok (.putfield 21, 3) := by decide +kernel
theorem d_Tr_add_40 : decode c_Tr_add 40 = .ok (.aload_n 0, 1) := by decide +kernel
theorem d_Tr_add_41 : decode c_Tr_add 41 = .ok (.getfield 21, 3) := by decide +kernel
theorem d_Tr_add_44 : decode c_Tr_add 44 = .ok (.iconst 1, 1) := by decide +kernel
theorem d_Tr_add_45 : decode c_Tr_add 45 = .ok (.isub, 1) := by decide +kernel
theorem d_Tr_add_46 : decode c_Tr_add 46 = .ok (.ireturn, 1) := by decide +kernel
theorem d_JI_bitCount_0 : decode c_JI_bitCount 0 = .ok (.iload_n 0, 1) := by decide +kernel
theorem d_JI_bitCount_1 : decode c_JI_bitCount 1 = .ok (.iload_n 0, 1) := by decide +kernel
theorem d_JI_bitCount_2 : decode c_JI_bitCount 2 = .ok (.iconst 1, 1) := by decide +kernel
theorem d_JI_bitCount_3 : decode c_JI_bitCount 3 = .ok (.iushr, 1) := by decide +kernel
theorem d_JI_bitCount_4 : decode c_JI_bitCount 4 = .ok (.ldc_w 265, 3) := by decide +kernel
theorem d_JI_bitCount_7 : decode c_JI_bitCount 7 = .ok (.iand, 1) := by decide +kernel
theorem d_JI_bitCount_8 : decode c_JI_bitCount 8 = .ok (.isub, 1) := by decide +kernel
theorem d_JI_bitCount_9 : decode c_JI_bitCount 9 = .ok (.istore_n 0, 1) := by decide +kernel
theorem d_JI_bitCount_10 : decode c_JI_bitCount 10 = .ok (.iload_n 0, 1) := by decide +kernel
theorem d_JI_bitCount_11 : decode c_JI_bitCount 11 = .ok (.ldc_w 266, 3) := by decide +kernel
theorem d_JI_bitCount_14 : decode c_JI_bitCount 14 = .ok (.iand, 1) := by decide +kernel
theorem d_JI_bitCount_15 : decode c_JI_bitCount 15 = .ok (.iload_n 0, 1) := by decide +kernel
theorem d_JI_bitCount_16 : decode c_JI_bitCount 16 = .ok (.iconst 2, 1) := by decide +kernel
theorem d_JI_bitCount_17 : decode c_JI_bitCount 17 = .ok (.iushr, 1) := by decide +kernel
theorem d_JI_bitCount_18 : decode c_JI_bitCount 18 = .ok (.ldc_w 266, 3) := by decide +kernel
theorem d_JI_bitCount_21 : decode c_JI_bitCount 21 = .ok (.iand, 1) := by decide +kernel
theorem d_JI_bitCount_22 : decode c_JI_bitCount 22 = .ok (.iadd, 1) := by decide +kernel
theorem d_JI_bitCount_23 : decode c_JI_bitCount 23 = .ok (.istore_n 0, 1) := by decide +kernel
theorem d_JI_bitCount_24 : decode c_JI_bitCount 24 = .ok (.iload_n 0, 1) := by decide +kernel
theorem d_JI_bitCount_25 : decode c_JI_bitCount 25 = .ok (.iload_n 0, 1) := by decide +kernel
theorem d_JI_bitCount_26 : decode c_JI_bitCount 26 = .ok (.iconst 4, 1) := by decide +kernel
theorem d_JI_bitCount_27 : decode c_JI_bitCount 27 = .ok (.iushr, 1) := by decide +kernel
theorem d_JI_bitCount_28 : decode c_JI_bitCount 28 = .ok (.iadd, 1) := by decide +kernel
theorem d_JI_bitCount_29 : decode c_JI_bitCount 29 = .ok (.ldc_w 267, 3) := by decide +kernel
theorem d_JI_bitCount_32 : decode c_JI_bitCount 32 = .ok (.iand, 1) := by decide +kernel
theorem d_JI_bitCount_33 : decode c_JI_bitCount 33 = .ok (.istore_n 0, 1) := by decide +kernel
theorem d_JI_bitCount_34 : decode c_JI_bitCount 34 = .ok (.iload_n 0, 1) := by decide +kernel
theorem d_JI_bitCount_35 : decode c_JI_bitCount 35 = .ok (.iload_n 0, 1) := by decide +kernel
theorem d_JI_bitCount_36 : decode c_JI_bitCount 36 = .ok (.bipush 8, 2) := by decide +kernel
theorem d_JI_bitCount_38 : decode c_JI_bitCount 38 = .ok (.iushr, 1) := by decide +kernel
theorem d_JI_bitCount_39 : decode c_JI_bitCount 39 = .ok (.iadd, 1) := by decide +kernel
theorem d_JI_bitCount_40 : decode c_JI_bitCount 40 = .ok (.istore_n 0, 1) := by decide +kernel
theorem d_JI_bitCount_41 : decode c_JI_bitCount 41 = .ok (.iload_n 0, 1) := by decide +kernel
theorem d_JI_bitCount_42 : decode c_JI_bitCount 42 = .ok (.iload_n 0, 1) := by decide +kernel
theorem d_JI_bitCount_43 : decode c_JI_bitCount 43 = .ok (.bipush 16, 2) := by decide +kernel
theorem d_JI_bitCount_45 : decode c_JI_bitCount 45 = .ok (.iushr, 1) := by decide +kernel
theorem d_JI_bitCount_46 : decode c_JI_bitCount 46 = .ok (.iadd, 1) := by decide +kernel
theorem d_JI_bitCount_47 : decode c_JI_bitCount 47 = .ok (.istore_n 0, 1) := by decide +kernel
theorem d_JI_bitCount_48 : decode c_JI_bitCount 48 = .ok (.iload_n 0, 1) := by decide +kernel
theorem d_JI_bitCount_49 : decode c_JI_bitCount 49 = .ok (.bipush 63, 2) := by decide +kernel
theorem d_JI_bitCount_51 : decode c_JI_bitCount 51 = .ok (.iand, 1) := by decide +kernel
theorem d_JI_bitCount_52 : decode c_JI_bitCount 52 = .ok (.ireturn, 1) := by decide +kernel
theorem d_JM_floorMod_0 : decode c_JM_floorMod 0 = .ok (.iload_n 0, 1) := by decide +kernel
theorem d_JM_floorMod_1 : decode c_JM_floorMod 1 = .ok (.iload_n 1, 1) := by decide +kernel
theorem d_JM_floorMod_2 : decode c_JM_floorMod 2 = .ok (.irem, 1) := by decide +kernel
theorem d_JM_floorMod_3 : decode c_JM_floorMod 3 = .ok (.istore_n 2, 1) := by decide +kernel
theorem d_JM_floorMod_4 : decode c_JM_floorMod 4 = .ok (.iload_n 0, 1) := by decide +kernel
theorem d_JM_floorMod_5 : decode c_JM_floorMod 5 = .ok (.iload_n 1, 1) := by decide +kernel
theorem d_JM_floorMod_6 : decode c_JM_floorMod 6 = .ok (.ixor, 1) := by decide +kernel
theorem d_JM_floorMod_7 : decode c_JM_floorMod 7 = .ok (.ifCond .ge 11, 3) := by decide +kernel
theorem d_JM_floorMod_10 : decode c_JM_floorMod 10 = .ok (.iload_n 2, 1) := by decide +kernel
theorem d_JM_floorMod_11 : decode c_JM_floorMod 11 = .ok (.ifCond .eq 7, 3) := by decide +kernel
theorem d_JM_floorMod_14 : decode c_JM_floorMod 14 = .ok (.iload_n 2, 1) := by decide +kernel
theorem d_JM_floorMod_15 : decode c_JM_floorMod 15 = .ok (.iload_n 1, 1) := by decide +kernel
theorem d_JM_floorMod_16 : decode c_JM_floorMod 16 = .ok (.iadd, 1) := by decide +kernel
theorem d_JM_floorMod_17 : decode c_JM_floorMod 17 = .ok (.ireturn, 1) := by decide +kernel
theorem d_JM_floorMod_18 : decode c_JM_floorMod 18 = .ok (.iload_n 2, 1) := by decide +kernel
theorem d_JM_floorMod_19 : decode c_JM_floorMod 19 = .ok (.ireturn, 1) := by decide +kernel
theorem d_JM_max_0 : decode c_JM_max 0 = .ok (.iload_n 0, 1) := by decide +kernel
theorem d_JM_max_1 : decode c_JM_max 1 = .ok (.iload_n 1, 1) := by decide +kernel
theorem d_JM_max_2 : decode c_JM_max 2 = .ok (.if_icmp .lt 7, 3) := by decide +kernel
theorem d_JM_max_5 : decode c_JM_max 5 = .ok (.iload_n 0, 1) := by decide +kernel
theorem d_JM_max_6 : decode c_JM_max 6 = .ok (.goto 4, 3) := by decide +kernel
theorem d_JM_max_9 : decode c_JM_max 9 = .ok (.iload_n 1, 1) := by decide +kernel
theorem d_JM_max_10 : decode c_JM_max 10 = .ok (.ireturn, 1) := by decide +kernel
theorem d_JM_min_0 : decode c_JM_min 0 = .ok (.iload_n 0, 1) := by decide +kernel
theorem d_JM_min_1 : decode c_JM_min 1 = .ok (.iload_n 1, 1) := by decide +kernel
theorem d_JM_min_2 : decode c_JM_min 2 = .ok (.if_icmp .gt 7, 3) := by decide +kernel
theorem d_JM_min_5 : decode c_JM_min 5 = .ok (.iload_n 0, 1) := by decide +kernel
theorem d_JM_min_6 : decode c_JM_min 6 = .ok (.goto 4, 3) := by decide +kernel
theorem d_JM_min_9 : decode c_JM_min 9 = .ok (.iload_n 1, 1) := by decide +kernel
theorem d_JM_min_10 : decode c_JM_min 10 = .ok (.ireturn, 1) := by decide +kernel
end
section
theorem cw_T_submit {R : Room} {s : State} {args : Array Value} {own : String} {index : Nat} (hts : ∀ w ∈ Mst, w.before args s = true) (hl : Cond.methodLink own index y_T_submit ∈ Mst) (hR : 1 + 1 ≤ R.frames ∧ 8 + (10 + 11) + 34 * 1 ≤ R.locals) : CallW R s args own "ThreeChainLedger" index y_T_submit c_T_submit 10 (some .int) (Cond.code y_T_submit c_T_submit 10 (some .int) :: Mst) (rmd 1) 0 0 4 :=
  cwV 4 hts (gV hl w_206 w_207 w_1 w_208) rfl rfl rfl ⟨rfl, by decide, by decide, by decide +kernel⟩ hR
theorem cw_T_lead {R : Room} {s : State} {args : Array Value} {own : String} {index : Nat} (hts : ∀ w ∈ Mst, w.before args s = true) (hl : Cond.methodLink own index y_T_lead ∈ Mst) (hR : 3 + 1 ≤ R.frames ∧ 8 + (6 + 11) + 34 * 3 ≤ R.locals) : CallW R s args own "ThreeChainLedger" index y_T_lead c_T_lead 6 (some .int) (Cond.code y_T_lead c_T_lead 6 (some .int) :: Mst) (rmd 3) 0 0 1 :=
  cwV 1 hts (gV hl w_224 w_225 w_1 w_226) rfl rfl rfl ⟨rfl, by decide, by decide, by decide +kernel⟩ hR
theorem cw_T_tick {R : Room} {s : State} {args : Array Value} {own : String} {index : Nat} (hts : ∀ w ∈ Mst, w.before args s = true) (hl : Cond.methodLink own index y_T_tick ∈ Mst) (hR : 2 + 1 ≤ R.frames ∧ 8 + (3 + 11) + 34 * 2 ≤ R.locals) : CallW R s args own "ThreeChainLedger" index y_T_tick c_T_tick 3 (some .int) (Cond.code y_T_tick c_T_tick 3 (some .int) :: Mst) (rmd 2) 0 0 1 :=
  cwV 1 hts (gV hl w_271 w_272 w_1 w_273) rfl rfl rfl ⟨rfl, by decide, by decide, by decide +kernel⟩ hR
theorem cw_T_deliver {R : Room} {s : State} {args : Array Value} {own : String} {index : Nat} (hts : ∀ w ∈ Mst, w.before args s = true) (hl : Cond.methodLink own index y_T_deliver ∈ Mst) (hR : 4 + 1 ≤ R.frames ∧ 8 + (2 + 11) + 34 * 4 ≤ R.locals) : CallW R s args own "ThreeChainLedger" index y_T_deliver c_T_deliver 2 (some .int) (Cond.code y_T_deliver c_T_deliver 2 (some .int) :: Mst) (rmd 4) 0 0 1 :=
  cwV 1 hts (gV hl w_279 w_280 w_1 w_281) rfl rfl rfl ⟨rfl, by decide, by decide, by decide +kernel⟩ hR
theorem cw_T_flow {R : Room} {s : State} {args : Array Value} {own : String} {index : Nat} (hts : ∀ w ∈ Mst, w.before args s = true) (hl : Cond.methodLink own index y_T_flow ∈ Mst) (hR : 4 + 1 ≤ R.frames ∧ 8 + (3 + 11) + 34 * 4 ≤ R.locals) : CallW R s args own "ThreeChainLedger" index y_T_flow c_T_flow 3 (some .int) (Cond.code y_T_flow c_T_flow 3 (some .int) :: Mst) (rmd 4) 0 0 1 :=
  cwV 1 hts (gV hl w_349 w_350 w_1 w_351) rfl rfl rfl ⟨rfl, by decide, by decide, by decide +kernel⟩ hR
theorem cw_T_drop {R : Room} {s : State} {args : Array Value} {own : String} {index : Nat} (hts : ∀ w ∈ Mst, w.before args s = true) (hl : Cond.methodLink own index y_T_drop ∈ Mst) (hR : 2 + 1 ≤ R.frames ∧ 8 + (2 + 11) + 34 * 2 ≤ R.locals) : CallW R s args own "ThreeChainLedger" index y_T_drop c_T_drop 2 (some .boolean) (Cond.code y_T_drop c_T_drop 2 (some .boolean) :: Mst) (rmd 2) 0 0 1 :=
  cwV 1 hts (gV hl w_353 w_354 w_1 w_355) rfl rfl rfl ⟨rfl, by decide, by decide, by decide +kernel⟩ hR
theorem cw_T_forge {R : Room} {s : State} {args : Array Value} {own : String} {index : Nat} (hts : ∀ w ∈ Mst, w.before args s = true) (hl : Cond.methodLink own index y_T_forge ∈ Mst) (hR : 2 + 1 ≤ R.frames ∧ 8 + (5 + 11) + 34 * 2 ≤ R.locals) : CallW R s args own "ThreeChainLedger" index y_T_forge c_T_forge 5 (some .int) (Cond.code y_T_forge c_T_forge 5 (some .int) :: Mst) (rmd 2) 0 0 3 :=
  cwV 3 hts (gV hl w_357 w_358 w_1 w_359) rfl rfl rfl ⟨rfl, by decide, by decide, by decide +kernel⟩ hR
theorem cw_T_offer {R : Room} {s : State} {args : Array Value} {own : String} {index : Nat} (hts : ∀ w ∈ Mst, w.before args s = true) (hl : Cond.methodLink own index y_T_offer ∈ Mst) (hR : 2 + 1 ≤ R.frames ∧ 8 + (3 + 11) + 34 * 2 ≤ R.locals) : CallW R s args own "ThreeChainLedger" index y_T_offer c_T_offer 3 (some .boolean) (Cond.code y_T_offer c_T_offer 3 (some .boolean) :: Mst) (rmd 2) 0 0 2 :=
  cwV 2 hts (gV hl w_373 w_374 w_1 w_375) rfl rfl rfl ⟨rfl, by decide, by decide, by decide +kernel⟩ hR
theorem cw_T_vote {R : Room} {s : State} {args : Array Value} {own : String} {index : Nat} (hts : ∀ w ∈ Mst, w.before args s = true) (hl : Cond.methodLink own index y_T_vote ∈ Mst) (hR : 2 + 1 ≤ R.frames ∧ 8 + (4 + 11) + 34 * 2 ≤ R.locals) : CallW R s args own "ThreeChainLedger" index y_T_vote c_T_vote 4 (some .boolean) (Cond.code y_T_vote c_T_vote 4 (some .boolean) :: Mst) (rmd 2) 0 0 3 :=
  cwV 3 hts (gV hl w_382 w_383 w_1 w_384) rfl rfl rfl ⟨rfl, by decide, by decide, by decide +kernel⟩ hR
theorem cw_T_claim {R : Room} {s : State} {args : Array Value} {own : String} {index : Nat} (hts : ∀ w ∈ Mst, w.before args s = true) (hl : Cond.methodLink own index y_T_claim ∈ Mst) (hR : 2 + 1 ≤ R.frames ∧ 8 + (5 + 11) + 34 * 2 ≤ R.locals) : CallW R s args own "ThreeChainLedger" index y_T_claim c_T_claim 5 (some .boolean) (Cond.code y_T_claim c_T_claim 5 (some .boolean) :: Mst) (rmd 2) 0 0 4 :=
  cwV 4 hts (gV hl w_386 w_387 w_1 w_388) rfl rfl rfl ⟨rfl, by decide, by decide, by decide +kernel⟩ hR
theorem cw_T_waiting {R : Room} {s : State} {args : Array Value} {own : String} {index : Nat} (hts : ∀ w ∈ Mst, w.before args s = true) (hl : Cond.methodLink own index y_T_waiting ∈ Mst) (hR : 0 + 1 ≤ R.frames ∧ 8 + (1 + 11) + 34 * 0 ≤ R.locals) : CallW R s args own "ThreeChainLedger" index y_T_waiting c_T_waiting 1 (some .int) (Cond.code y_T_waiting c_T_waiting 1 (some .int) :: Mst) (rmd 0) 0 0 0 :=
  cwV 0 hts (gV hl w_390 w_391 w_1 w_392) rfl rfl rfl ⟨rfl, by decide, by decide, by decide +kernel⟩ hR
theorem cw_T_message {R : Room} {s : State} {args : Array Value} {own : String} {index : Nat} (hts : ∀ w ∈ Mst, w.before args s = true) (hl : Cond.methodLink own index y_T_message ∈ Mst) (hR : 1 + 1 ≤ R.frames ∧ 8 + (2 + 11) + 34 * 1 ≤ R.locals) : CallW R s args own "ThreeChainLedger" index y_T_message c_T_message 2 (some .int) (Cond.code y_T_message c_T_message 2 (some .int) :: Mst) (rmd 1) 0 0 1 :=
  cwV 1 hts (gV hl w_394 w_395 w_1 w_396) rfl rfl rfl ⟨rfl, by decide, by decide, by decide +kernel⟩ hR
theorem cw_T_block {R : Room} {s : State} {args : Array Value} {own : String} {index : Nat} (hts : ∀ w ∈ Mst, w.before args s = true) (hl : Cond.methodLink own index y_T_block ∈ Mst) (hR : 1 + 1 ≤ R.frames ∧ 8 + (2 + 11) + 34 * 1 ≤ R.locals) : CallW R s args own "ThreeChainLedger" index y_T_block c_T_block 2 (some .int) (Cond.code y_T_block c_T_block 2 (some .int) :: Mst) (rmd 1) 0 0 1 :=
  cwV 1 hts (gV hl w_398 w_399 w_1 w_400) rfl rfl rfl ⟨rfl, by decide, by decide, by decide +kernel⟩ hR
theorem cw_T_payload {R : Room} {s : State} {args : Array Value} {own : String} {index : Nat} (hts : ∀ w ∈ Mst, w.before args s = true) (hl : Cond.methodLink own index y_T_payload ∈ Mst) (hR : 1 + 1 ≤ R.frames ∧ 8 + (2 + 11) + 34 * 1 ≤ R.locals) : CallW R s args own "ThreeChainLedger" index y_T_payload c_T_payload 2 (some .int) (Cond.code y_T_payload c_T_payload 2 (some .int) :: Mst) (rmd 1) 0 0 1 :=
  cwV 1 hts (gV hl w_402 w_403 w_1 w_404) rfl rfl rfl ⟨rfl, by decide, by decide, by decide +kernel⟩ hR
theorem cw_T_votes {R : Room} {s : State} {args : Array Value} {own : String} {index : Nat} (hts : ∀ w ∈ Mst, w.before args s = true) (hl : Cond.methodLink own index y_T_votes ∈ Mst) (hR : 1 + 1 ≤ R.frames ∧ 8 + (2 + 11) + 34 * 1 ≤ R.locals) : CallW R s args own "ThreeChainLedger" index y_T_votes c_T_votes 2 (some .int) (Cond.code y_T_votes c_T_votes 2 (some .int) :: Mst) (rmd 1) 0 0 1 :=
  cwV 1 hts (gV hl w_406 w_407 w_1 w_408) rfl rfl rfl ⟨rfl, by decide, by decide, by decide +kernel⟩ hR
theorem cw_T_state {R : Room} {s : State} {args : Array Value} {own : String} {index : Nat} (hts : ∀ w ∈ Mst, w.before args s = true) (hl : Cond.methodLink own index y_T_state ∈ Mst) (hR : 2 + 1 ≤ R.frames ∧ 8 + (4 + 11) + 34 * 2 ≤ R.locals) : CallW R s args own "ThreeChainLedger" index y_T_state c_T_state 4 (some .int) (Cond.code y_T_state c_T_state 4 (some .int) :: Mst) (rmd 2) 0 0 2 :=
  cwV 2 hts (gV hl w_410 w_411 w_1 w_412) rfl rfl rfl ⟨rfl, by decide, by decide, by decide +kernel⟩ hR
theorem cw_T_committed {R : Room} {s : State} {args : Array Value} {own : String} {index : Nat} (hts : ∀ w ∈ Mst, w.before args s = true) (hl : Cond.methodLink own index y_T_committed ∈ Mst) (hR : 2 + 1 ≤ R.frames ∧ 8 + (3 + 11) + 34 * 2 ≤ R.locals) : CallW R s args own "ThreeChainLedger" index y_T_committed c_T_committed 3 (some .int) (Cond.code y_T_committed c_T_committed 3 (some .int) :: Mst) (rmd 2) 0 0 2 :=
  cwV 2 hts (gV hl w_414 w_415 w_1 w_416) rfl rfl rfl ⟨rfl, by decide, by decide, by decide +kernel⟩ hR
theorem cw_T_balance {R : Room} {s : State} {args : Array Value} {own : String} {index : Nat} (hts : ∀ w ∈ Mst, w.before args s = true) (hl : Cond.methodLink own index y_T_balance ∈ Mst) (hR : 3 + 1 ≤ R.frames ∧ 8 + (3 + 11) + 34 * 3 ≤ R.locals) : CallW R s args own "ThreeChainLedger" index y_T_balance c_T_balance 3 (some .int) (Cond.code y_T_balance c_T_balance 3 (some .int) :: Mst) (rmd 3) 0 0 2 :=
  cwV 2 hts (gV hl w_423 w_424 w_1 w_425) rfl rfl rfl ⟨rfl, by decide, by decide, by decide +kernel⟩ hR
theorem cw_T_outcome {R : Room} {s : State} {args : Array Value} {own : String} {index : Nat} (hts : ∀ w ∈ Mst, w.before args s = true) (hl : Cond.methodLink own index y_T_outcome ∈ Mst) (hR : 3 + 1 ≤ R.frames ∧ 8 + (3 + 11) + 34 * 3 ≤ R.locals) : CallW R s args own "ThreeChainLedger" index y_T_outcome c_T_outcome 3 (some .int) (Cond.code y_T_outcome c_T_outcome 3 (some .int) :: Mst) (rmd 3) 0 0 2 :=
  cwV 2 hts (gV hl w_441 w_442 w_1 w_443) rfl rfl rfl ⟨rfl, by decide, by decide, by decide +kernel⟩ hR
theorem cw_T_lost {R : Room} {s : State} {args : Array Value} {own : String} {index : Nat} (hts : ∀ w ∈ Mst, w.before args s = true) (hl : Cond.methodLink own index y_T_lost ∈ Mst) (hR : 0 + 1 ≤ R.frames ∧ 8 + (1 + 11) + 34 * 0 ≤ R.locals) : CallW R s args own "ThreeChainLedger" index y_T_lost c_T_lost 1 (some .int) (Cond.code y_T_lost c_T_lost 1 (some .int) :: Mst) (rmd 0) 0 0 0 :=
  cwV 0 hts (gV hl w_449 w_450 w_1 w_451) rfl rfl rfl ⟨rfl, by decide, by decide, by decide +kernel⟩ hR
theorem cw_T_hasMember {R : Room} {s : State} {args : Array Value} {own : String} {index : Nat} (hts : ∀ w ∈ Mst, w.before args s = true) (hl : Cond.methodLink own index y_T_hasMember ∈ Mst) (hR : 0 + 1 ≤ R.frames ∧ 8 + (2 + 11) + 34 * 0 ≤ R.locals) : CallB R s args own index y_T_hasMember c_T_hasMember 2 (some .boolean) (Cond.code y_T_hasMember c_T_hasMember 2 (some .boolean) :: Mst) (rmd 0) 0 0 2 ∧ (Cond.static y_T_hasMember).before args s = true :=
  va_cwS 2 hts (gT hl w_221 w_1 w_222) rfl rfl rfl ⟨by decide, by decide, by decide +kernel⟩ hR
theorem cw_T_leastMembers {R : Room} {s : State} {args : Array Value} {own : String} {index : Nat} (hts : ∀ w ∈ Mst, w.before args s = true) (hl : Cond.methodLink own index y_T_leastMembers ∈ Mst) (hR : 0 + 1 ≤ R.frames ∧ 8 + (4 + 11) + 34 * 0 ≤ R.locals) : CallB R s args own index y_T_leastMembers c_T_leastMembers 4 (some .int) (Cond.code y_T_leastMembers c_T_leastMembers 4 (some .int) :: Mst) (rmd 0) 0 0 2 ∧ (Cond.static y_T_leastMembers).before args s = true :=
  va_cwS 2 hts (gT hl w_26 w_1 w_27) rfl rfl rfl ⟨by decide, by decide, by decide +kernel⟩ hR
theorem cw_T_isAccount {R : Room} {s : State} {args : Array Value} {own : String} {index : Nat} (hts : ∀ w ∈ Mst, w.before args s = true) (hl : Cond.methodLink own index y_T_isAccount ∈ Mst) (hR : 0 + 1 ≤ R.frames ∧ 8 + (1 + 11) + 34 * 0 ≤ R.locals) : CallB R s args own index y_T_isAccount c_T_isAccount 1 (some .boolean) (Cond.code y_T_isAccount c_T_isAccount 1 (some .boolean) :: Mst) (rmd 0) 0 0 1 ∧ (Cond.static y_T_isAccount).before args s = true :=
  va_cwS 1 hts (gT hl w_210 w_1 w_211) rfl rfl rfl ⟨by decide, by decide, by decide +kernel⟩ hR
theorem cw_T_isReplica {R : Room} {s : State} {args : Array Value} {own : String} {index : Nat} (hts : ∀ w ∈ Mst, w.before args s = true) (hl : Cond.methodLink own index y_T_isReplica ∈ Mst) (hR : 0 + 1 ≤ R.frames ∧ 8 + (2 + 11) + 34 * 0 ≤ R.locals) : CallW R s args own "ThreeChainLedger" index y_T_isReplica c_T_isReplica 2 (some .boolean) (Cond.code y_T_isReplica c_T_isReplica 2 (some .boolean) :: Mst) (rmd 0) 0 0 1 :=
  cwV 1 hts (gV hl w_233 ws_1 w_1 w_234) rfl rfl rfl ⟨rfl, by decide, by decide, by decide +kernel⟩ hR
theorem cw_T_isCorrupt {R : Room} {s : State} {args : Array Value} {own : String} {index : Nat} (hts : ∀ w ∈ Mst, w.before args s = true) (hl : Cond.methodLink own index y_T_isCorrupt ∈ Mst) (hR : 1 + 1 ≤ R.frames ∧ 8 + (2 + 11) + 34 * 1 ≤ R.locals) : CallW R s args own "ThreeChainLedger" index y_T_isCorrupt c_T_isCorrupt 2 (some .boolean) (Cond.code y_T_isCorrupt c_T_isCorrupt 2 (some .boolean) :: Mst) (rmd 1) 0 0 1 :=
  cwV 1 hts (gV hl w_370 ws_11 w_1 w_371) rfl rfl rfl ⟨rfl, by decide, by decide, by decide +kernel⟩ hR
theorem cw_T_isCorrect {R : Room} {s : State} {args : Array Value} {own : String} {index : Nat} (hts : ∀ w ∈ Mst, w.before args s = true) (hl : Cond.methodLink own index y_T_isCorrect ∈ Mst) (hR : 1 + 1 ≤ R.frames ∧ 8 + (2 + 11) + 34 * 1 ≤ R.locals) : CallW R s args own "ThreeChainLedger" index y_T_isCorrect c_T_isCorrect 2 (some .boolean) (Cond.code y_T_isCorrect c_T_isCorrect 2 (some .boolean) :: Mst) (rmd 1) 0 0 1 :=
  cwV 1 hts (gV hl w_229 ws_0 w_1 w_230) rfl rfl rfl ⟨rfl, by decide, by decide, by decide +kernel⟩ hR
theorem cw_T_leaderOf {R : Room} {s : State} {args : Array Value} {own : String} {index : Nat} (hts : ∀ w ∈ Mst, w.before args s = true) (hl : Cond.methodLink own index y_T_leaderOf ∈ Mst) (hR : 1 + 1 ≤ R.frames ∧ 8 + (2 + 11) + 34 * 1 ≤ R.locals) : CallW R s args own "ThreeChainLedger" index y_T_leaderOf c_T_leaderOf 2 (some .int) (Cond.code y_T_leaderOf c_T_leaderOf 2 (some .int) :: Mst) (rmd 1) 0 0 1 :=
  cwV 1 hts (gV hl w_241 ws_3 w_1 w_242) rfl rfl rfl ⟨rfl, by decide, by decide, by decide +kernel⟩ hR
theorem cw_T_mayPropose {R : Room} {s : State} {args : Array Value} {own : String} {index : Nat} (hts : ∀ w ∈ Mst, w.before args s = true) (hl : Cond.methodLink own index y_T_mayPropose ∈ Mst) (hR : 2 + 1 ≤ R.frames ∧ 8 + (4 + 11) + 34 * 2 ≤ R.locals) : CallW R s args own "ThreeChainLedger" index y_T_mayPropose c_T_mayPropose 4 (some .boolean) (Cond.code y_T_mayPropose c_T_mayPropose 4 (some .boolean) :: Mst) (rmd 2) 0 0 1 :=
  cwV 1 hts (gV hl w_237 ws_2 w_1 w_238) rfl rfl rfl ⟨rfl, by decide, by decide, by decide +kernel⟩ hR
theorem cw_T_maySend {R : Room} {s : State} {args : Array Value} {own : String} {index : Nat} (hts : ∀ w ∈ Mst, w.before args s = true) (hl : Cond.methodLink own index y_T_maySend ∈ Mst) (hR : 1 + 1 ≤ R.frames ∧ 8 + (3 + 11) + 34 * 1 ≤ R.locals) : CallW R s args own "ThreeChainLedger" index y_T_maySend c_T_maySend 3 (some .boolean) (Cond.code y_T_maySend c_T_maySend 3 (some .boolean) :: Mst) (rmd 1) 0 0 2 :=
  cwV 2 hts (gV hl w_378 ws_12 w_1 w_379) rfl rfl rfl ⟨rfl, by decide, by decide, by decide +kernel⟩ hR
theorem cw_T_hasCertificate {R : Room} {s : State} {args : Array Value} {own : String} {index : Nat} (hts : ∀ w ∈ Mst, w.before args s = true) (hl : Cond.methodLink own index y_T_hasCertificate ∈ Mst) (hR : 1 + 1 ≤ R.frames ∧ 8 + (2 + 11) + 34 * 1 ≤ R.locals) : CallW R s args own "ThreeChainLedger" index y_T_hasCertificate c_T_hasCertificate 2 (some .boolean) (Cond.code y_T_hasCertificate c_T_hasCertificate 2 (some .boolean) :: Mst) (rmd 1) 0 0 1 :=
  cwV 1 hts (gV hl w_362 ws_10 w_1 w_363) rfl rfl rfl ⟨rfl, by decide, by decide, by decide +kernel⟩ hR
theorem cw_T_handOver {R : Room} {s : State} {args : Array Value} {own : String} {index : Nat} (hts : ∀ w ∈ Mst, w.before args s = true) (hl : Cond.methodLink own index y_T_handOver ∈ Mst) (hR : 3 + 1 ≤ R.frames ∧ 8 + (6 + 11) + 34 * 3 ≤ R.locals) : CallW R s args own "ThreeChainLedger" index y_T_handOver c_T_handOver 6 (some .boolean) (Cond.code y_T_handOver c_T_handOver 6 (some .boolean) :: Mst) (rmd 3) 0 0 1 :=
  cwV 1 hts (gV hl w_288 ws_5 w_1 w_289) rfl rfl rfl ⟨rfl, by decide, by decide, by decide +kernel⟩ hR
theorem cw_T_getProposal {R : Room} {s : State} {args : Array Value} {own : String} {index : Nat} (hts : ∀ w ∈ Mst, w.before args s = true) (hl : Cond.methodLink own index y_T_getProposal ∈ Mst) (hR : 2 + 1 ≤ R.frames ∧ 8 + (5 + 11) + 34 * 2 ≤ R.locals) : CallW R s args own "ThreeChainLedger" index y_T_getProposal c_T_getProposal 5 none (Cond.code y_T_getProposal c_T_getProposal 5 none :: Mst) (rmd 2) 0 0 2 :=
  cwV 2 hts (gV hl w_308 ws_6 w_1 w_309) rfl rfl rfl ⟨rfl, by decide, by decide, by decide +kernel⟩ hR
theorem cw_T_isSafe {R : Room} {s : State} {args : Array Value} {own : String} {index : Nat} (hts : ∀ w ∈ Mst, w.before args s = true) (hl : Cond.methodLink own index y_T_isSafe ∈ Mst) (hR : 1 + 1 ≤ R.frames ∧ 8 + (3 + 11) + 34 * 1 ≤ R.locals) : CallW R s args own "ThreeChainLedger" index y_T_isSafe c_T_isSafe 3 (some .boolean) (Cond.code y_T_isSafe c_T_isSafe 3 (some .boolean) :: Mst) (rmd 1) 0 0 2 :=
  cwV 2 hts (gV hl w_325 ws_7 w_1 w_326) rfl rfl rfl ⟨rfl, by decide, by decide, by decide +kernel⟩ hR
theorem cw_T_getVote {R : Room} {s : State} {args : Array Value} {own : String} {index : Nat} (hts : ∀ w ∈ Mst, w.before args s = true) (hl : Cond.methodLink own index y_T_getVote ∈ Mst) (hR : 2 + 1 ≤ R.frames ∧ 8 + (5 + 11) + 34 * 2 ≤ R.locals) : CallW R s args own "ThreeChainLedger" index y_T_getVote c_T_getVote 5 none (Cond.code y_T_getVote c_T_getVote 5 none :: Mst) (rmd 2) 0 0 3 :=
  cwV 3 hts (gV hl w_336 ws_8 w_1 w_337) rfl rfl rfl ⟨rfl, by decide, by decide, by decide +kernel⟩ hR
theorem cw_T_getNewView {R : Room} {s : State} {args : Array Value} {own : String} {index : Nat} (hts : ∀ w ∈ Mst, w.before args s = true) (hl : Cond.methodLink own index y_T_getNewView ∈ Mst) (hR : 2 + 1 ≤ R.frames ∧ 8 + (7 + 11) + 34 * 2 ≤ R.locals) : CallW R s args own "ThreeChainLedger" index y_T_getNewView c_T_getNewView 7 none (Cond.code y_T_getNewView c_T_getNewView 7 none :: Mst) (rmd 2) 0 0 4 :=
  cwV 4 hts (gV hl w_346 ws_9 w_1 w_347) rfl rfl rfl ⟨rfl, by decide, by decide, by decide +kernel⟩ hR
theorem cw_Bl_has {R : Room} {s : State} {args : Array Value} {own : String} {index : Nat} (hts : ∀ w ∈ Mst, w.before args s = true) (hl : Cond.methodLink own index y_Bl_has ∈ Mst) (hR : 0 + 1 ≤ R.frames ∧ 8 + (2 + 11) + 34 * 0 ≤ R.locals) : CallW R s args own "ThreeChainLedger$Blocks" index y_Bl_has c_Bl_has 2 (some .boolean) (Cond.code y_Bl_has c_Bl_has 2 (some .boolean) :: Mst) (rmd 0) 0 0 1 :=
  cwV 1 hts (gV hl w_365 w_366 w_5 w_367) rfl rfl rfl ⟨rfl, by decide, by decide, by decide +kernel⟩ hR
theorem cw_Bl_isFull {R : Room} {s : State} {args : Array Value} {own : String} {index : Nat} (hts : ∀ w ∈ Mst, w.before args s = true) (hl : Cond.methodLink own index y_Bl_isFull ∈ Mst) (hR : 0 + 1 ≤ R.frames ∧ 8 + (1 + 11) + 34 * 0 ≤ R.locals) : CallW R s args own "ThreeChainLedger$Blocks" index y_Bl_isFull c_Bl_isFull 1 (some .boolean) (Cond.code y_Bl_isFull c_Bl_isFull 1 (some .boolean) :: Mst) (rmd 0) 0 0 0 :=
  cwV 0 hts (gV hl w_255 w_256 w_5 w_257) rfl rfl rfl ⟨rfl, by decide, by decide, by decide +kernel⟩ hR
theorem cw_Bl_add {R : Room} {s : State} {args : Array Value} {own : String} {index : Nat} (hts : ∀ w ∈ Mst, w.before args s = true) (hl : Cond.methodLink own index y_Bl_add ∈ Mst) (hR : 0 + 1 ≤ R.frames ∧ 8 + (4 + 11) + 34 * 0 ≤ R.locals) : CallW R s args own "ThreeChainLedger$Blocks" index y_Bl_add c_Bl_add 4 (some .int) (Cond.code y_Bl_add c_Bl_add 4 (some .int) :: Mst) (rmd 0) 0 0 3 :=
  cwV 3 hts (gV hl w_259 w_260 w_5 w_261) rfl rfl rfl ⟨rfl, by decide, by decide, by decide +kernel⟩ hR
theorem cw_Bl_inChain {R : Room} {s : State} {args : Array Value} {own : String} {index : Nat} (hts : ∀ w ∈ Mst, w.before args s = true) (hl : Cond.methodLink own index y_Bl_inChain ∈ Mst) (hR : 0 + 1 ≤ R.frames ∧ 8 + (3 + 11) + 34 * 0 ≤ R.locals) : CallW R s args own "ThreeChainLedger$Blocks" index y_Bl_inChain c_Bl_inChain 3 (some .boolean) (Cond.code y_Bl_inChain c_Bl_inChain 3 (some .boolean) :: Mst) (rmd 0) 0 0 2 :=
  cwV 2 hts (gV hl w_328 w_329 w_5 w_330) rfl rfl rfl ⟨rfl, by decide, by decide, by decide +kernel⟩ hR
theorem cw_Bl_later {R : Room} {s : State} {args : Array Value} {own : String} {index : Nat} (hts : ∀ w ∈ Mst, w.before args s = true) (hl : Cond.methodLink own index y_Bl_later ∈ Mst) (hR : 0 + 1 ≤ R.frames ∧ 8 + (3 + 11) + 34 * 0 ≤ R.locals) : CallW R s args own "ThreeChainLedger$Blocks" index y_Bl_later c_Bl_later 3 (some .int) (Cond.code y_Bl_later c_Bl_later 3 (some .int) :: Mst) (rmd 0) 0 0 2 :=
  cwV 2 hts (gV hl w_315 w_316 w_5 w_317) rfl rfl rfl ⟨rfl, by decide, by decide, by decide +kernel⟩ hR
theorem cw_Bl_followsAtOnce {R : Room} {s : State} {args : Array Value} {own : String} {index : Nat} (hts : ∀ w ∈ Mst, w.before args s = true) (hl : Cond.methodLink own index y_Bl_followsAtOnce ∈ Mst) (hR : 0 + 1 ≤ R.frames ∧ 8 + (2 + 11) + 34 * 0 ≤ R.locals) : CallW R s args own "ThreeChainLedger$Blocks" index y_Bl_followsAtOnce c_Bl_followsAtOnce 2 (some .boolean) (Cond.code y_Bl_followsAtOnce c_Bl_followsAtOnce 2 (some .boolean) :: Mst) (rmd 0) 0 0 1 :=
  cwV 1 hts (gV hl w_319 w_320 w_5 w_321) rfl rfl rfl ⟨rfl, by decide, by decide, by decide +kernel⟩ hR
theorem cw_Bl_atPlace {R : Room} {s : State} {args : Array Value} {own : String} {index : Nat} (hts : ∀ w ∈ Mst, w.before args s = true) (hl : Cond.methodLink own index y_Bl_atPlace ∈ Mst) (hR : 1 + 1 ≤ R.frames ∧ 8 + (5 + 11) + 34 * 1 ≤ R.locals) : CallW R s args own "ThreeChainLedger$Blocks" index y_Bl_atPlace c_Bl_atPlace 5 (some .int) (Cond.code y_Bl_atPlace c_Bl_atPlace 5 (some .int) :: Mst) (rmd 1) 0 0 2 :=
  cwV 2 hts (gV hl w_418 w_419 w_5 w_420) rfl rfl rfl ⟨rfl, by decide, by decide, by decide +kernel⟩ hR
theorem cw_Le_replay {R : Room} {s : State} {args : Array Value} {own : String} {index : Nat} (hts : ∀ w ∈ Mst, w.before args s = true) (hl : Cond.methodLink own index y_Le_replay ∈ Mst) (hR : 2 + 1 ≤ R.frames ∧ 8 + (5 + 11) + 34 * 2 ≤ R.locals) : CallW R s args own "ThreeChainLedger$Ledger" index y_Le_replay c_Le_replay 5 none (Cond.code y_Le_replay c_Le_replay 5 none :: Mst) (rmd 2) 0 0 3 :=
  cwV 3 hts (gV hl w_427 w_428 w_7 w_429) rfl rfl rfl ⟨rfl, by decide, by decide, by decide +kernel⟩ hR
theorem cw_Le_settle {R : Room} {s : State} {args : Array Value} {own : String} {index : Nat} (hts : ∀ w ∈ Mst, w.before args s = true) (hl : Cond.methodLink own index y_Le_settle ∈ Mst) (hR : 1 + 1 ≤ R.frames ∧ 8 + (4 + 11) + 34 * 1 ≤ R.locals) : CallW R s args own "ThreeChainLedger$Ledger" index y_Le_settle c_Le_settle 4 none (Cond.code y_Le_settle c_Le_settle 4 none :: Mst) (rmd 1) 0 0 2 :=
  cwV 2 hts (gV hl w_433 ws_13 w_7 w_434) rfl rfl rfl ⟨rfl, by decide, by decide, by decide +kernel⟩ hR
theorem cw_Le_pay {R : Room} {s : State} {args : Array Value} {own : String} {index : Nat} (hts : ∀ w ∈ Mst, w.before args s = true) (hl : Cond.methodLink own index y_Le_pay ∈ Mst) (hR : 0 + 1 ≤ R.frames ∧ 8 + (4 + 11) + 34 * 0 ≤ R.locals) : CallW R s args own "ThreeChainLedger$Ledger" index y_Le_pay c_Le_pay 4 (some .boolean) (Cond.code y_Le_pay c_Le_pay 4 (some .boolean) :: Mst) (rmd 0) 0 0 3 :=
  cwV 3 hts (gV hl w_438 ws_14 w_7 w_439) rfl rfl rfl ⟨rfl, by decide, by decide, by decide +kernel⟩ hR
theorem cw_Rp_enter {R : Room} {s : State} {args : Array Value} {own : String} {index : Nat} (hts : ∀ w ∈ Mst, w.before args s = true) (hl : Cond.methodLink own index y_Rp_enter ∈ Mst) (hR : 0 + 1 ≤ R.frames ∧ 8 + (2 + 11) + 34 * 0 ≤ R.locals) : CallW R s args own "ThreeChainLedger$Replica" index y_Rp_enter c_Rp_enter 2 none (Cond.code y_Rp_enter c_Rp_enter 2 none :: Mst) (rmd 0) 0 0 1 :=
  cwV 1 hts (gV hl w_275 w_276 w_3 w_277) rfl rfl rfl ⟨rfl, by decide, by decide, by decide +kernel⟩ hR
theorem cw_Rp_see {R : Room} {s : State} {args : Array Value} {own : String} {index : Nat} (hts : ∀ w ∈ Mst, w.before args s = true) (hl : Cond.methodLink own index y_Rp_see ∈ Mst) (hR : 1 + 1 ≤ R.frames ∧ 8 + (4 + 11) + 34 * 1 ≤ R.locals) : CallW R s args own "ThreeChainLedger$Replica" index y_Rp_see c_Rp_see 4 none (Cond.code y_Rp_see c_Rp_see 4 none :: Mst) (rmd 1) 0 0 2 :=
  cwV 2 hts (gV hl w_311 w_312 w_3 w_313) rfl rfl rfl ⟨rfl, by decide, by decide, by decide +kernel⟩ hR
theorem cw_Rp_push {R : Room} {s : State} {args : Array Value} {own : String} {index : Nat} (hts : ∀ w ∈ Mst, w.before args s = true) (hl : Cond.methodLink own index y_Rp_push ∈ Mst) (hR : 1 + 1 ≤ R.frames ∧ 8 + (4 + 11) + 34 * 1 ≤ R.locals) : CallW R s args own "ThreeChainLedger$Replica" index y_Rp_push c_Rp_push 4 (some .int) (Cond.code y_Rp_push c_Rp_push 4 (some .int) :: Mst) (rmd 1) 0 0 1 :=
  cwV 1 hts (gV hl w_247 w_248 w_3 w_249) rfl rfl rfl ⟨rfl, by decide, by decide, by decide +kernel⟩ hR
theorem cw_Rp_countFrom {R : Room} {s : State} {args : Array Value} {own : String} {index : Nat} (hts : ∀ w ∈ Mst, w.before args s = true) (hl : Cond.methodLink own index y_Rp_countFrom ∈ Mst) (hR : 0 + 1 ≤ R.frames ∧ 8 + (4 + 11) + 34 * 0 ≤ R.locals) : CallW R s args own "ThreeChainLedger$Replica" index y_Rp_countFrom c_Rp_countFrom 4 (some .int) (Cond.code y_Rp_countFrom c_Rp_countFrom 4 (some .int) :: Mst) (rmd 0) 0 0 1 :=
  cwV 1 hts (gV hl w_252 ws_4 w_3 w_253) rfl rfl rfl ⟨rfl, by decide, by decide, by decide +kernel⟩ hR
theorem cw_Ro_kind {R : Room} {s : State} {args : Array Value} {own : String} {index : Nat} (hts : ∀ w ∈ Mst, w.before args s = true) (hl : Cond.methodLink own index y_Ro_kind ∈ Mst) (hR : 0 + 1 ≤ R.frames ∧ 8 + (1 + 11) + 34 * 0 ≤ R.locals) : CallB R s args own index y_Ro_kind c_Ro_kind 1 (some .int) (Cond.code y_Ro_kind c_Ro_kind 1 (some .int) :: Mst) (rmd 0) 0 0 1 ∧ (Cond.static y_Ro_kind).before args s = true :=
  va_cwS 1 hts (gT hl w_304 w_6 w_305) rfl rfl rfl ⟨by decide, by decide, by decide +kernel⟩ hR
theorem cw_Ro_receiver {R : Room} {s : State} {args : Array Value} {own : String} {index : Nat} (hts : ∀ w ∈ Mst, w.before args s = true) (hl : Cond.methodLink own index y_Ro_receiver ∈ Mst) (hR : 0 + 1 ≤ R.frames ∧ 8 + (1 + 11) + 34 * 0 ≤ R.locals) : CallB R s args own index y_Ro_receiver c_Ro_receiver 1 (some .int) (Cond.code y_Ro_receiver c_Ro_receiver 1 (some .int) :: Mst) (rmd 0) 0 0 1 ∧ (Cond.static y_Ro_receiver).before args s = true :=
  va_cwS 1 hts (gT hl w_298 w_6 w_299) rfl rfl rfl ⟨by decide, by decide, by decide +kernel⟩ hR
theorem cw_Ro_sender {R : Room} {s : State} {args : Array Value} {own : String} {index : Nat} (hts : ∀ w ∈ Mst, w.before args s = true) (hl : Cond.methodLink own index y_Ro_sender ∈ Mst) (hR : 0 + 1 ≤ R.frames ∧ 8 + (1 + 11) + 34 * 0 ≤ R.locals) : CallB R s args own index y_Ro_sender c_Ro_sender 1 (some .int) (Cond.code y_Ro_sender c_Ro_sender 1 (some .int) :: Mst) (rmd 0) 0 0 1 ∧ (Cond.static y_Ro_sender).before args s = true :=
  va_cwS 1 hts (gT hl w_332 w_6 w_333) rfl rfl rfl ⟨by decide, by decide, by decide +kernel⟩ hR
theorem cw_Ro_subject {R : Room} {s : State} {args : Array Value} {own : String} {index : Nat} (hts : ∀ w ∈ Mst, w.before args s = true) (hl : Cond.methodLink own index y_Ro_subject ∈ Mst) (hR : 0 + 1 ≤ R.frames ∧ 8 + (1 + 11) + 34 * 0 ≤ R.locals) : CallB R s args own index y_Ro_subject c_Ro_subject 1 (some .int) (Cond.code y_Ro_subject c_Ro_subject 1 (some .int) :: Mst) (rmd 0) 0 0 1 ∧ (Cond.static y_Ro_subject).before args s = true :=
  va_cwS 1 hts (gT hl w_301 w_6 w_302) rfl rfl rfl ⟨by decide, by decide, by decide +kernel⟩ hR
theorem cw_Ro_hasPlace {R : Room} {s : State} {args : Array Value} {own : String} {index : Nat} (hts : ∀ w ∈ Mst, w.before args s = true) (hl : Cond.methodLink own index y_Ro_hasPlace ∈ Mst) (hR : 0 + 1 ≤ R.frames ∧ 8 + (2 + 11) + 34 * 0 ≤ R.locals) : CallW R s args own "ThreeChainLedger$Row" index y_Ro_hasPlace c_Ro_hasPlace 2 (some .boolean) (Cond.code y_Ro_hasPlace c_Ro_hasPlace 2 (some .boolean) :: Mst) (rmd 0) 0 0 1 :=
  cwV 1 hts (gV hl w_283 w_284 w_6 w_285) rfl rfl rfl ⟨rfl, by decide, by decide, by decide +kernel⟩ hR
theorem cw_Ro_isFull {R : Room} {s : State} {args : Array Value} {own : String} {index : Nat} (hts : ∀ w ∈ Mst, w.before args s = true) (hl : Cond.methodLink own index y_Ro_isFull ∈ Mst) (hR : 0 + 1 ≤ R.frames ∧ 8 + (1 + 11) + 34 * 0 ≤ R.locals) : CallW R s args own "ThreeChainLedger$Row" index y_Ro_isFull c_Ro_isFull 1 (some .boolean) (Cond.code y_Ro_isFull c_Ro_isFull 1 (some .boolean) :: Mst) (rmd 0) 0 0 0 :=
  cwV 0 hts (gV hl w_267 w_268 w_6 w_269) rfl rfl rfl ⟨rfl, by decide, by decide, by decide +kernel⟩ hR
theorem cw_Ro_send {R : Room} {s : State} {args : Array Value} {own : String} {index : Nat} (hts : ∀ w ∈ Mst, w.before args s = true) (hl : Cond.methodLink own index y_Ro_send ∈ Mst) (hR : 1 + 1 ≤ R.frames ∧ 8 + (6 + 11) + 34 * 1 ≤ R.locals) : CallW R s args own "ThreeChainLedger$Row" index y_Ro_send c_Ro_send 6 none (Cond.code y_Ro_send c_Ro_send 6 none :: Mst) (rmd 1) 0 0 5 :=
  cwV 5 hts (gV hl w_263 w_264 w_6 w_265) rfl rfl rfl ⟨rfl, by decide, by decide, by decide +kernel⟩ hR
theorem cw_Ro_remove {R : Room} {s : State} {args : Array Value} {own : String} {index : Nat} (hts : ∀ w ∈ Mst, w.before args s = true) (hl : Cond.methodLink own index y_Ro_remove ∈ Mst) (hR : 1 + 1 ≤ R.frames ∧ 8 + (2 + 11) + 34 * 1 ≤ R.locals) : CallW R s args own "ThreeChainLedger$Row" index y_Ro_remove c_Ro_remove 2 none (Cond.code y_Ro_remove c_Ro_remove 2 none :: Mst) (rmd 1) 0 0 1 :=
  cwV 1 hts (gV hl w_291 w_292 w_6 w_293) rfl rfl rfl ⟨rfl, by decide, by decide, by decide +kernel⟩ hR
theorem cw_Tr_has {R : Room} {s : State} {args : Array Value} {own : String} {index : Nat} (hts : ∀ w ∈ Mst, w.before args s = true) (hl : Cond.methodLink own index y_Tr_has ∈ Mst) (hR : 0 + 1 ≤ R.frames ∧ 8 + (2 + 11) + 34 * 0 ≤ R.locals) : CallW R s args own "ThreeChainLedger$Transfers" index y_Tr_has c_Tr_has 2 (some .boolean) (Cond.code y_Tr_has c_Tr_has 2 (some .boolean) :: Mst) (rmd 0) 0 0 1 :=
  cwV 1 hts (gV hl w_445 w_446 w_4 w_447) rfl rfl rfl ⟨rfl, by decide, by decide, by decide +kernel⟩ hR
theorem cw_Tr_isFull {R : Room} {s : State} {args : Array Value} {own : String} {index : Nat} (hts : ∀ w ∈ Mst, w.before args s = true) (hl : Cond.methodLink own index y_Tr_isFull ∈ Mst) (hR : 0 + 1 ≤ R.frames ∧ 8 + (1 + 11) + 34 * 0 ≤ R.locals) : CallW R s args own "ThreeChainLedger$Transfers" index y_Tr_isFull c_Tr_isFull 1 (some .boolean) (Cond.code y_Tr_isFull c_Tr_isFull 1 (some .boolean) :: Mst) (rmd 0) 0 0 0 :=
  cwV 0 hts (gV hl w_213 w_214 w_4 w_215) rfl rfl rfl ⟨rfl, by decide, by decide, by decide +kernel⟩ hR
theorem cw_Tr_add {R : Room} {s : State} {args : Array Value} {own : String} {index : Nat} (hts : ∀ w ∈ Mst, w.before args s = true) (hl : Cond.methodLink own index y_Tr_add ∈ Mst) (hR : 0 + 1 ≤ R.frames ∧ 8 + (4 + 11) + 34 * 0 ≤ R.locals) : CallW R s args own "ThreeChainLedger$Transfers" index y_Tr_add c_Tr_add 4 (some .int) (Cond.code y_Tr_add c_Tr_add 4 (some .int) :: Mst) (rmd 0) 0 0 3 :=
  cwV 3 hts (gV hl w_217 w_218 w_4 w_219) rfl rfl rfl ⟨rfl, by decide, by decide, by decide +kernel⟩ hR
theorem cw_JI_bitCount {R : Room} {s : State} {args : Array Value} {own : String} {index : Nat} (hts : ∀ w ∈ Mst, w.before args s = true) (hl : Cond.methodLink own index y_JI_bitCount ∈ Mst) (hR : 0 + 1 ≤ R.frames ∧ 8 + (1 + 11) + 34 * 0 ≤ R.locals) : CallB R s args own index y_JI_bitCount c_JI_bitCount 1 (some .int) (Cond.code y_JI_bitCount c_JI_bitCount 1 (some .int) :: Mst) (rmd 0) 0 0 1 ∧ (Cond.static y_JI_bitCount).before args s = true :=
  va_cwS 1 hts (gT hl w_339 w_10 w_340) rfl rfl rfl ⟨by decide, by decide, by decide +kernel⟩ hR
theorem cw_JM_floorMod {R : Room} {s : State} {args : Array Value} {own : String} {index : Nat} (hts : ∀ w ∈ Mst, w.before args s = true) (hl : Cond.methodLink own index y_JM_floorMod ∈ Mst) (hR : 0 + 1 ≤ R.frames ∧ 8 + (3 + 11) + 34 * 0 ≤ R.locals) : CallB R s args own index y_JM_floorMod c_JM_floorMod 3 (some .int) (Cond.code y_JM_floorMod c_JM_floorMod 3 (some .int) :: Mst) (rmd 0) 0 0 2 ∧ (Cond.static y_JM_floorMod).before args s = true :=
  va_cwS 2 hts (gT hl w_244 w_2 w_245) rfl rfl rfl ⟨by decide, by decide, by decide +kernel⟩ hR
theorem cw_JM_max {R : Room} {s : State} {args : Array Value} {own : String} {index : Nat} (hts : ∀ w ∈ Mst, w.before args s = true) (hl : Cond.methodLink own index y_JM_max ∈ Mst) (hR : 0 + 1 ≤ R.frames ∧ 8 + (2 + 11) + 34 * 0 ≤ R.locals) : CallB R s args own index y_JM_max c_JM_max 2 (some .int) (Cond.code y_JM_max c_JM_max 2 (some .int) :: Mst) (rmd 0) 0 0 2 ∧ (Cond.static y_JM_max).before args s = true :=
  va_cwS 2 hts (gT hl w_20 w_2 w_21) rfl rfl rfl ⟨by decide, by decide, by decide +kernel⟩ hR
theorem cw_JM_min {R : Room} {s : State} {args : Array Value} {own : String} {index : Nat} (hts : ∀ w ∈ Mst, w.before args s = true) (hl : Cond.methodLink own index y_JM_min ∈ Mst) (hR : 0 + 1 ≤ R.frames ∧ 8 + (2 + 11) + 34 * 0 ≤ R.locals) : CallB R s args own index y_JM_min c_JM_min 2 (some .int) (Cond.code y_JM_min c_JM_min 2 (some .int) :: Mst) (rmd 0) 0 0 2 ∧ (Cond.static y_JM_min).before args s = true :=
  va_cwS 2 hts (gT hl w_23 w_2 w_24) rfl rfl rfl ⟨by decide, by decide, by decide +kernel⟩ hR
end
section
/-! ===== lN n to 2^64: shifts, and, or, masks, one bit ===== -/
theorem wb_tb (n : Nat) : (lN n).toBitVec = BitVec.ofNat 64 n := rfl
theorem wb_inj {a b : Int64} (h : a.toBitVec = b.toBitVec) : a = b := Int64.toBitVec_inj.mp h
theorem wb_tn {n : Nat} (h : n < 2 ^ 64) : (lN n).toBitVec.toNat = n := by rw [wb_tb, BitVec.toNat_ofNat, Nat.mod_eq_of_lt h]
theorem wb_of (x : Int64) : ∃ n, n < 2 ^ 64 ∧ x = lN n := ⟨x.toBitVec.toNat, x.toBitVec.isLt, wb_inj (by rw [wb_tb]; simp)⟩
theorem wb_of32 (x : Int32) : ∃ n, n < 2 ^ 32 ∧ x = nI n := ⟨x.toBitVec.toNat, x.toBitVec.isLt, Int32.toBitVec_inj.mp (by show _ = BitVec.ofNat 32 _; simp)⟩
theorem wb_c : ∀ k, k < 64 → ((nI k).toInt64 &&& 63) = lN k := by decide +kernel
theorem wb_cu : ∀ k, k < 64 → ((nI k).toInt64.toUInt64 &&& Int64.toUInt64 63) = UInt64.ofNat k := by decide +kernel
theorem wb_sm : ∀ k, k < 64 → (BitVec.ofNat 64 k).smod 64 = BitVec.ofNat 64 k := by decide +kernel
theorem wb_pw {a b : Nat} (h : a ≤ b) : 2 ^ b = 2 ^ a * 2 ^ (b - a) := by rw [← Nat.pow_add]; congr 1; omega
theorem wb_lt2 {a b : Nat} (h : a < b) : 2 ^ a < 2 ^ b := Nat.pow_lt_pow_right (by decide) h
theorem wb_mod (n : Nat) : lN n = lN (n % 2 ^ 64) := wb_inj (by rw [wb_tb, wb_tb]; apply BitVec.eq_of_toNat_eq; rw [BitVec.toNat_ofNat, BitVec.toNat_ofNat, Nat.mod_mod])
theorem wb_shr {n k : Nat} (hn : n < 2 ^ 64) (hk : k < 64) : ((lN n).toUInt64 >>> ((nI k).toInt64.toUInt64 &&& Int64.toUInt64 63)).toInt64 = lN (n / 2 ^ k) := by
  rw [wb_cu k hk]
  apply wb_inj
  apply BitVec.eq_of_toNat_eq
  show ((lN n).toUInt64 >>> UInt64.ofNat k).toNat = (BitVec.ofNat 64 _).toNat
  have h1 : (UInt64.ofNat k).toNat = k := by
    show (BitVec.ofNat 64 k).toNat = k
    rw [BitVec.toNat_ofNat, Nat.mod_eq_of_lt (by omega)]
  have h2 : (lN n).toUInt64.toNat = n := wb_tn hn
  rw [UInt64.toNat_shiftRight, h1, h2, Nat.mod_eq_of_lt hk, Nat.shiftRight_eq_div_pow, BitVec.toNat_ofNat, Nat.mod_eq_of_lt (Nat.lt_of_le_of_lt (Nat.div_le_self _ _) hn)]
theorem wb_shl (n : Nat) {k : Nat} (hk : k < 64) : lN n <<< ((nI k).toInt64 &&& 63) = lN (n * 2 ^ k) := by
  rw [wb_c k hk]
  apply wb_inj
  rw [Int64.toBitVec_shiftLeft, wb_tb, wb_tb, wb_tb, wb_sm k hk]
  apply BitVec.eq_of_toNat_eq
  rw [BitVec.shiftLeft_eq', BitVec.toNat_shiftLeft, BitVec.toNat_ofNat, BitVec.toNat_ofNat, BitVec.toNat_ofNat, Nat.mod_eq_of_lt (show k < 2 ^ 64 by omega), Nat.shiftLeft_eq, Nat.mul_mod, Nat.mod_mod, ← Nat.mul_mod]
theorem wb_and {a b : Nat} (ha : a < 2 ^ 64) (hb : b < 2 ^ 64) : lN a &&& lN b = lN (a &&& b) := by
  apply wb_inj
  rw [Int64.toBitVec_and, wb_tb, wb_tb, wb_tb]
  apply BitVec.eq_of_toNat_eq
  rw [BitVec.toNat_and, BitVec.toNat_ofNat, BitVec.toNat_ofNat, BitVec.toNat_ofNat, Nat.mod_eq_of_lt ha, Nat.mod_eq_of_lt hb, Nat.mod_eq_of_lt (Nat.and_lt_two_pow _ hb)]
theorem wb_or {a b : Nat} (ha : a < 2 ^ 64) (hb : b < 2 ^ 64) : lN a ||| lN b = lN (a ||| b) := by
  apply wb_inj
  rw [Int64.toBitVec_or, wb_tb, wb_tb, wb_tb]
  apply BitVec.eq_of_toNat_eq
  rw [BitVec.toNat_or, BitVec.toNat_ofNat, BitVec.toNat_ofNat, BitVec.toNat_ofNat, Nat.mod_eq_of_lt ha, Nat.mod_eq_of_lt hb, Nat.mod_eq_of_lt (Nat.or_lt_two_pow ha hb)]
theorem wb_mask {n k : Nat} (hn : n < 2 ^ 64) (hk : k < 64) : lN n &&& lN (2 ^ k - 1) = lN (n % 2 ^ k) := by
  rw [wb_and hn (by have := wb_lt2 hk; omega), Nat.and_two_pow_sub_one_eq_mod]
theorem wb_a1 {n : Nat} (hn : n < 2 ^ 64) : lN n &&& 1 = lN (n % 2) := wb_mask (k := 1) hn (by decide)
theorem wb_bit {n k : Nat} (hn : n < 2 ^ 64) (hk : k < 64) : ((lN n).toUInt64 >>> ((nI k).toInt64.toUInt64 &&& Int64.toUInt64 63)).toInt64 &&& 1 = lN (n / 2 ^ k % 2) := by
  rw [wb_shr hn hk, wb_a1 (Nat.lt_of_le_of_lt (Nat.div_le_self _ _) hn)]
theorem lcmp0 {a : Nat} (h : a < 2 ^ 63) : lg_cmp (lN a) (lN 0) = nI (if a = 0 then 0 else 1) := by
  unfold lg_cmp
  by_cases ha : a = 0
  · subst ha
    rw [if_pos rfl]
    decide
  · rw [if_neg ha, if_pos (by show lN 0 < lN a; exact (pk_lLT (by decide) h).mpr (by omega))]
    rfl
section L2
variable {p : Program} {l : Launch} {e : Env} {R : Room} {s : State} {m : MethodId} {args : Array Value} {below : List Frame} {meth : Method} {c : Code} {H : Heap} {locs : List Loc} {cells slots : Nat} {Q : State → Prop}
variable {cc : ByteArray} {pc : Nat} {ls : Array Slot} {rest : List Value}
theorem n_lushr (hx : p.tables.exec = Jvm.exec) (hb : c.code = cc) {a b : Nat} (h1 : a < 2 ^ 64) (h2 : b < 64) (hdg : decode cc pc = .ok (.lushr, 1)) (k : W p l e R s m args below meth c H locs cells slots Q (F0 m (pc + 1) ls (.long (lN (a / 2 ^ b)) :: rest))) : W p l e R s m args below meth c H locs cells slots Q (F0 m pc ls (.int (nI b) :: .long (lN a) :: rest)) := lv_lushr hx hb hdg (wb_shr h1 h2) k
theorem n_lshl (hx : p.tables.exec = Jvm.exec) (hb : c.code = cc) {a b : Nat} (h2 : b < 64) (hdg : decode cc pc = .ok (.lshl, 1)) (k : W p l e R s m args below meth c H locs cells slots Q (F0 m (pc + 1) ls (.long (lN (a * 2 ^ b)) :: rest))) : W p l e R s m args below meth c H locs cells slots Q (F0 m pc ls (.int (nI b) :: .long (lN a) :: rest)) := lv_lshl hx hb hdg (wb_shl a h2) k
theorem n_lor (hx : p.tables.exec = Jvm.exec) (hb : c.code = cc) {a b : Nat} (h1 : a < 2 ^ 64) (h2 : b < 2 ^ 64) (hdg : decode cc pc = .ok (.lor, 1)) (k : W p l e R s m args below meth c H locs cells slots Q (F0 m (pc + 1) ls (.long (lN (a ||| b)) :: rest))) : W p l e R s m args below meth c H locs cells slots Q (F0 m pc ls (.long (lN b) :: .long (lN a) :: rest)) := lv_lor hx hb hdg (by rw [wb_or h1 h2]; exact k)
theorem n_land1 (hx : p.tables.exec = Jvm.exec) (hb : c.code = cc) {a : Nat} (h1 : a < 2 ^ 64) (hdg : decode cc pc = .ok (.land, 1)) (k : W p l e R s m args below meth c H locs cells slots Q (F0 m (pc + 1) ls (.long (lN (a % 2)) :: rest))) : W p l e R s m args below meth c H locs cells slots Q (F0 m pc ls (.long (lN 1) :: .long (lN a) :: rest)) := lv_land hx hb hdg (by rw [show lN a &&& lN 1 = lN (a % 2) from wb_a1 h1]; exact k)
theorem n_lcmp0 (hx : p.tables.exec = Jvm.exec) (hb : c.code = cc) {a : Nat} (h1 : a < 2 ^ 63) (hdg : decode cc pc = .ok (.lcmp, 1)) (k : W p l e R s m args below meth c H locs cells slots Q (F0 m (pc + 1) ls (.int (nI (if a = 0 then 0 else 1)) :: rest))) : W p l e R s m args below meth c H locs cells slots Q (F0 m pc ls (.long (lN 0) :: .long (lN a) :: rest)) := W.lcmp hx hb hdg (by rw [lcmp0 h1]; exact k)
variable {nL : Nat} {own : String} {X : WX} {S : Nat → Nat → Nat} {H0 : Heap}
theorem x_alenV (cf : CallFix p m c cc nL s args Mst own) (hK : XK X s) (hP : PW X S H) (hX : X.2.2.1 ≤ 7) {r : Nat} (hr : r < X.2.2.1) (hdg : decode cc pc = .ok (.arraylength, 1)) (k : W p l e R s m args below meth c H locs cells slots Q (F0 m (pc + 1) ls (.int (nI X.2.2.1) :: rest))) : W p l e R s m args below meth c H locs cells slots Q (F0 m pc ls (.ref (X.2.2.2 (3 * r + 46)) :: rest)) :=
  va_alen (cA := X.2.1.1) (x := (X.2.2.1, .inl (fun q => nI (S (3 * r + 46) q)))) (ty := .int) cf.1 cf.2.1 hK hP (3 * r + 46) 0 ((wl_at (iaV hX hr).1).trans (by rw [(iaV hX hr).2.2])) rfl rfl hdg k
theorem cpy_nI (f : Nat → Nat) (sp dp n : Nat) : va_cpy (fun q => nI (f q)) (fun q => nI (f q)) sp dp n = fun q => nI (va_cpy f f sp dp n q) := by
  funext q
  unfold va_cpy
  split <;> rfl
theorem x_copy (cf : CallFix p m c cc nL s args Mst own) (hK : XK X s) (hD : ∀ S : Nat → Nat → Nat, va_D (xA X) (wl (xK X) X.2.2.2 (xE X) S)) (hP : PW X S H) (hS : va_S (xA X) H0 H locs) {i n : Nat} (ia : IA X i n) {sp dp k : Nat} (h1 : sp + k ≤ n) (h2 : dp + k ≤ n) (hsz : ls.size = nL) (hfr : 1 ≤ R.frames) (hlo : (rest.map fun v => v.category).sum + (nativeFrameWords "java/lang/System" "arraycopy" 5 + 11) ≤ R.locals) {index : Nat} (hl : Cond.methodLink own index arraycopyName ∈ Mst) (hdg : decode cc pc = .ok (.invokestatic index, 3)) (kk : ∀ (H1 : Heap) (locs1 : List Loc), PW X (va_up S i (va_cpy (S i) (S i) sp dp k)) H1 → va_S (xA X) H0 H1 locs1 → W p l e R s m args below meth c H1 locs1 cells slots Q (F0 m (pc + 3) ls rest)) : W p l e R s m args below meth c H locs cells slots Q (F0 m pc ls (.int (nI k) :: .int (nI dp) :: .ref (X.2.2.2 i) :: .int (nI sp) :: .ref (X.2.2.2 i) :: rest)) := by
  have hn := ia.2.1
  refine va_copyi (ty := .int) (c0 := X.2.1.1) (c1 := X.2.1.1) (n0 := n) (n1 := n) (f := fun q => nI (S i q)) (g := fun q => nI (S i q)) cf.1 cf.2.1 (cf.2.2.1.trans hsz.symm) cf.2.2.2.1 (cf.2.2.2.2 _ hl) (cf.2.2.2.2 _ w_296) (cf.2.2.2.2 _ w_295) (cf.2.2.2.2 _ w_9) hK hP (hD S) hS i i 0 0 ((wl_at ia.1).trans (by rw [ia.2.2])) ((wl_at ia.1).trans (by rw [ia.2.2])) rfl rfl rfl (nI_pos (by omega)) (nI_pos (by omega)) (nI_pos (by omega)) (by rw [nI_clamp (by omega), nI_clamp (by omega)]; exact h1) (by rw [nI_clamp (by omega), nI_clamp (by omega)]; exact h2) (fun _ _ => rfl) hfr hlo hdg (fun H1 locs1 g1 _ g3 => kk H1 locs1 ?_ g3)
  rw [nI_clamp (by omega), nI_clamp (by omega), nI_clamp (by omega), cpy_nI, wl_set ia.1 (ia.2.2 _)] at g1
  exact g1
/-- a call of the nest mate's private static method -/
theorem x_callSNi (cf : CallFix p m c cc nL s args Mst own) (hK : XK X s) (hN : NWs s) (hP : PW X S H) (hS : va_S (xA X) H0 H locs) {y : MethodName} {ws : List Cond} {d index maxL n : Nat} {As : List Value} {r : Int32} {S' : Nat → Nat → Nat} {host : String} {bytes : ByteArray} {ret : Option FieldType} {st0 : List Value} (hM : MetI l X y ws d As S r S') (cw : va_CN R s args own index y host bytes maxL ret ws (rmd d) 0 0 n ∧ (Cond.static y).before args s = true ∧ True) (hsize : ls.size = nL) (hst : st0 = As.reverse ++ rest) (hn : As.length = n) (hrest : (rest.map fun v => v.category).sum ≤ 8) (hcs : cells ≤ R.cells ∧ slots ≤ R.slots) (hdg : decode cc pc = .ok (.invokestatic index, 3)) (kk : ∀ (H1 : Heap) (locs1 : List Loc), PW X S' H1 → va_S (xA X) H0 H1 locs1 → W p l e R s m args below meth c H1 locs1 cells slots Q (F0 m (pc + 3) ls (.int r :: rest))) : W p l e R s m args below meth c H locs cells slots Q (F0 m pc ls st0) := by
  refine va_calli (va_runSN (As := As) (rest := rest) cf hM cw ⟨PreW.blind, fun U hU hW => ⟨rfl, by rw [hU]; exact hP, va_K.moved hW.alike hK, NWs.warm hW hN⟩⟩ rfl hn hsize hst (lv_room hrest) hdg ⟨hcs.1, hcs.2⟩) hS (fun q _ h => h) (fun q h => h) (fun r2 u t H1 locs1 ht hvm hp hB hz hk hS1 => by
    subst hp
    exact kk H1 locs1 (ht ▸ hB) hS1)
end L2
end
section
/-- what a place of the class's rows may hold -/
def cRp (V j v : Nat) : Prop :=
  match j with
  | 0 => 1 ≤ v ∧ v ≤ V
  | 1 => v ≤ V
  | 2 => v ≤ 32
  | 3 => v ≤ V
  | 4 => v ≤ V
  | 5 => v < 16777216
  | 6 => v < 40
  | 7 => v < 40
  | 8 => v < 40
  | _ => True
def cellC (V n : Nat) (k j v : Nat) : Prop :=
  if k < 44 then (match k with
    | 25 => (j = 0 → v = n) ∧ (j = 1 → v ≤ 7) ∧ (j = 2 → 4 ≤ v ∧ v ≤ 9) ∧ (j = 3 → v < 128)
    | 27 => j = 0 → v ≤ 24
    | 28 => v < 4
    | 29 => v < 4
    | 30 => v ≤ 1000
    | 31 => j = 0 → 1 ≤ v ∧ v ≤ 40
    | 32 => v + 1 ≤ V
    | 33 => v < 40
    | 34 => v < 16777216
    | 35 => v < 128
    | 36 => v < 16777216
    | 37 => v < 1099511627776
    | 38 => j = 0 → v ≤ 40
    | 39 => v < 10496 ∧ v / 4 % 8 < n ∧ v / 32 % 8 < n ∧ v / 256 < 40
    | 40 => v < 2147483648
    | 43 => v ≤ 2
    | _ => True)
  else if (k - 44) % 3 = 0 then cRp V j v else if (k - 44) % 3 = 1 then v < 128 else v < 2147483648
def CI (V : Nat) (X : WX) (S : Nat → Nat → Nat) : Prop := (4 ≤ X.2.2.1 ∧ X.2.2.1 ≤ 7) ∧ V ≤ 20000 ∧ ∀ k j, cellC V X.2.2.1 k j (S k j)
theorem CI.nn {V : Nat} {X : WX} {S : Nat → Nat → Nat} (h : CI V X S) : 4 ≤ X.2.2.1 ∧ X.2.2.1 ≤ 7 := h.1
theorem CI.V {V : Nat} {X : WX} {S : Nat → Nat → Nat} (h : CI V X S) : V ≤ 20000 := h.2.1
theorem CI.c {V : Nat} {X : WX} {S : Nat → Nat → Nat} (h : CI V X S) (k j : Nat) : cellC V X.2.2.1 k j (S k j) := h.2.2 k j
theorem CI.n {V : Nat} {X : WX} {S : Nat → Nat → Nat} (h : CI V X S) : S 25 0 = X.2.2.1 ∧ S 25 1 ≤ 7 ∧ (4 ≤ S 25 2 ∧ S 25 2 ≤ 9) ∧ S 25 3 < 128 := ⟨(h.c 25 0).1 rfl, (h.c 25 1).2.1 rfl, (h.c 25 2).2.2.1 rfl, (h.c 25 3).2.2.2 rfl⟩
theorem CI.tr {V : Nat} {X : WX} {S : Nat → Nat → Nat} (h : CI V X S) : S 27 0 ≤ 24 := h.c 27 0 rfl
theorem CI.bl {V : Nat} {X : WX} {S : Nat → Nat → Nat} (h : CI V X S) : 1 ≤ S 31 0 ∧ S 31 0 ≤ 40 := h.c 31 0 rfl
theorem CI.ro {V : Nat} {X : WX} {S : Nat → Nat → Nat} (h : CI V X S) : S 38 0 ≤ 40 := h.c 38 0 rfl
theorem cellC_rp {V n r j v : Nat} : cellC V n (3 * r + 44) j v = cRp V j v := by
  unfold cellC
  rw [if_neg (by omega), if_pos (by omega)]
theorem cellC_rg {V n r j v : Nat} : cellC V n (3 * r + 45) j v = (v < 128) := by
  unfold cellC
  rw [if_neg (by omega), if_neg (by omega), if_pos (by omega)]
theorem cellC_rn {V n r j v : Nat} : cellC V n (3 * r + 46) j v = (v < 2147483648) := by
  unfold cellC
  rw [if_neg (by omega), if_neg (by omega), if_neg (by omega)]
theorem CI.rp {V : Nat} {X : WX} {S : Nat → Nat → Nat} (h : CI V X S) (r : Nat) : (1 ≤ S (3 * r + 44) 0 ∧ S (3 * r + 44) 0 ≤ V) ∧ S (3 * r + 44) 1 ≤ V ∧ S (3 * r + 44) 2 ≤ 32 ∧ S (3 * r + 44) 3 ≤ V ∧ S (3 * r + 44) 4 ≤ V ∧ S (3 * r + 44) 5 < 16777216 ∧ S (3 * r + 44) 6 < 40 ∧ S (3 * r + 44) 7 < 40 ∧ S (3 * r + 44) 8 < 40 := by
  have h0 := h.c (3 * r + 44) 0
  have h1 := h.c (3 * r + 44) 1
  have h2 := h.c (3 * r + 44) 2
  have h3 := h.c (3 * r + 44) 3
  have h4 := h.c (3 * r + 44) 4
  have h5 := h.c (3 * r + 44) 5
  have h6 := h.c (3 * r + 44) 6
  have h7 := h.c (3 * r + 44) 7
  have h8 := h.c (3 * r + 44) 8
  rw [cellC_rp] at h0 h1 h2 h3 h4 h5 h6 h7 h8
  exact ⟨h0, h1, h2, h3, h4, h5, h6, h7, h8⟩
theorem CI.rg {V : Nat} {X : WX} {S : Nat → Nat → Nat} (h : CI V X S) (r j : Nat) : S (3 * r + 45) j < 128 := by
  have h0 := h.c (3 * r + 45) j
  rw [cellC_rg] at h0
  exact h0
theorem CI.rn {V : Nat} {X : WX} {S : Nat → Nat → Nat} (h : CI V X S) (r j : Nat) : S (3 * r + 46) j < 2147483648 := by
  have h0 := h.c (3 * r + 46) j
  rw [cellC_rn] at h0
  exact h0
theorem CI.up {V : Nat} {X : WX} {S : Nat → Nat → Nat} {k j v : Nat} (h : CI V X S) (hv : cellC V X.2.2.1 k j v) : CI V X (up2 S k j v) := by
  refine ⟨h.1, h.2.1, fun k' j' => ?_⟩
  rw [up2_at]
  split
  · rename_i hh
    obtain ⟨rfl, rfl⟩ := hh
    exact hv
  · exact h.c k' j'
theorem CI.upR {V : Nat} {X : WX} {S : Nat → Nat → Nat} {r j v : Nat} (h : CI V X S) (hv : cRp V j v) : CI V X (up2 S (3 * r + 44) j v) := h.up (by rw [cellC_rp]; exact hv)
theorem CI.mono {V W : Nat} {X : WX} {S : Nat → Nat → Nat} (h : CI V X S) (h1 : V ≤ W) (h2 : W ≤ 20000) : CI W X S := by
  refine ⟨h.1, h2, fun k j => ?_⟩
  have hc := h.c k j
  revert hc
  generalize S k j = w
  intro hc
  unfold cellC at hc ⊢
  split
  · rename_i hk
    rw [if_pos hk] at hc
    split at hc <;> first | exact hc | exact Nat.le_trans hc h1
  · rename_i hk
    rw [if_neg hk] at hc
    split
    · rename_i hm
      rw [if_pos hm] at hc
      unfold cRp at hc ⊢
      split at hc <;> first | exact hc | exact ⟨hc.1, Nat.le_trans hc.2 h1⟩ | exact Nat.le_trans hc h1
    · rename_i hm
      rw [if_neg hm] at hc
      exact hc
-- what the class's calls do (rows 25 and on)
def cHas (S : Nat → Nat → Nat) (b : Int32) : Bool := decide (0 ≤ b.toInt ∧ b.toInt < (S 31 0 : Int))
def cAdd (S : Nat → Nat → Nat) (p v set : Nat) : Nat → Nat → Nat := up2 (up2 (up2 (up2 (up2 (up2 S 32 (S 31 0) v) 33 (S 31 0) p) 34 (S 31 0) set) 36 (S 31 0) (up2 (up2 (up2 S 32 (S 31 0) v) 33 (S 31 0) p) 34 (S 31 0) set 36 p ||| set)) 37 (S 31 0) (S 37 p ||| 1 * 2 ^ S 31 0)) 31 0 (S 31 0 + 1)
def cLater (S : Nat → Nat → Nat) (a b : Nat) : Nat := if S 32 a < S 32 b then b else a
def cFol (S : Nat → Nat → Nat) (b : Nat) : Bool := decide (S 32 b = S 32 (S 33 b) + 1)
def cInC (S : Nat → Nat → Nat) (a b : Nat) : Bool := decide (S 37 b / 2 ^ a % 2 = 1)
/-- the place-th of the numbers from a on that are in b's chain, counting from passed -/
def cAtF (S : Nat → Nat → Nat) (b : Nat) (place : Int32) : Nat → Nat → Nat → Int32
  | 0, _, _ => -1
  | f + 1, a, passed => if cInC S a b = true then (if nI passed = place then nI a else cAtF S b place f (a + 1) (passed + 1)) else cAtF S b place f (a + 1) passed
def cSend (S : Nat → Nat → Nat) (k to fr b v : Nat) : Nat → Nat → Nat := if 40 ≤ S 38 0 then up2 S 38 1 (S 38 1 + 1) else up2 (up2 (up2 S 39 (S 38 0) (k + 4 * to + 32 * fr + 256 * b)) 40 (S 38 0) v) 38 0 (S 38 0 + 1)
def cRem (S : Nat → Nat → Nat) (i : Nat) : Nat → Nat → Nat := va_up (va_up (up2 S 38 0 (S 38 0 - 1)) 39 (va_cpy (S 39) (S 39) (i + 1) i (S 38 0 - 1 - i))) 40 (va_cpy (S 40) (S 40) (i + 1) i (S 38 0 - 1 - i))
def cPlace (S : Nat → Nat → Nat) (i : Int32) : Bool := decide (0 ≤ i.toInt ∧ i.toInt < (S 38 0 : Int))
def cTrAdd (S : Nat → Nat → Nat) (a b c : Nat) : Nat → Nat → Nat := up2 (up2 (up2 (up2 S 28 (S 27 0) a) 29 (S 27 0) b) 30 (S 27 0) c) 27 0 (S 27 0 + 1)
def cTrHas (S : Nat → Nat → Nat) (t : Int32) : Bool := decide (0 ≤ t.toInt ∧ t.toInt < (S 27 0 : Int))
def cEnter (S : Nat → Nat → Nat) (r v : Nat) : Nat → Nat → Nat := up2 (up2 S (3 * r + 44) 0 v) (3 * r + 44) 1 0
def cSee1 (S : Nat → Nat → Nat) (r x : Nat) : Nat → Nat → Nat := up2 (up2 S (3 * r + 44) 6 (cLater S (S (3 * r + 44) 6) x)) (3 * r + 44) 7 (cLater S (S (3 * r + 44) 7) (S 33 x))
def cSee2 (S : Nat → Nat → Nat) (r x : Nat) : Nat → Nat → Nat := if cFol S x = true ∧ cFol S (S 33 x) = true then up2 (cSee1 S r x) (3 * r + 44) 8 (cLater S (S (3 * r + 44) 8) (S 33 (S 33 x))) else cSee1 S r x
def cSee (S : Nat → Nat → Nat) (r x : Nat) : Nat → Nat → Nat := if S 32 x < S (3 * r + 44) 0 then cSee2 S r x else up2 (cEnter (cSee2 S r x) r (S 32 x + 1)) (3 * r + 44) 2 2
def cCntF (S : Nat → Nat → Nat) (r v q many : Nat) : Nat := if v ≤ S (3 * r + 46) q then many + 1 else many
def cCnt (S : Nat → Nat → Nat) (n r v : Nat) : Nat := itr (cCntF S r v) 0 0 n
def cPushF (S : Nat → Nat → Nat) (n r quo x best : Nat) : Nat := if best < S (3 * r + 46) x ∧ quo ≤ cCnt S n r (S (3 * r + 46) x) then S (3 * r + 46) x else best
def cPush (S : Nat → Nat → Nat) (n r quo : Nat) : Nat := itr (cPushF S n r quo) 0 0 n
end
