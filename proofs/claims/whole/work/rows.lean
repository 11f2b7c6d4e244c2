section
-- ===== PART A: goes FIRST, ahead of the names: the tables' words, and 'selects' of the private methods out of them =====
/-- a private method of a class that the tables say can be made, by its rows of tables_1 -/
def lw_okq (q : MethodName × Nat) : Prop := (q.1.cls ≠ "java/lang/invoke/MethodHandle" ∧ q.1.cls ≠ "java/lang/invoke/VarHandle") ∧ Cond.instantiable q.1.cls q.2 ∈ tables_1 ∧ Cond.privateMethod q.1 ∈ tables_1 ∧ Cond.instanceMethod q.1 ∈ tables_1
theorem lw_p0 : lw_okq (⟨"AncestryNet", "tipsOf", "(I)I"⟩, 11) := ⟨⟨by decide +kernel, by decide +kernel⟩, List.mem_of_getElem? (i := 13) (by decide +kernel), List.mem_of_getElem? (i := 80) (by decide +kernel), List.mem_of_getElem? (i := 81) (by decide +kernel)⟩
theorem lw_p1 : lw_okq (⟨"AncestryNet", "greatestGeneration", "()I"⟩, 11) := ⟨⟨by decide +kernel, by decide +kernel⟩, List.mem_of_getElem? (i := 13) (by decide +kernel), List.mem_of_getElem? (i := 87) (by decide +kernel), List.mem_of_getElem? (i := 88) (by decide +kernel)⟩
theorem lw_p2 : lw_okq (⟨"AncestryNet", "childlessCommits", "()I"⟩, 11) := ⟨⟨by decide +kernel, by decide +kernel⟩, List.mem_of_getElem? (i := 13) (by decide +kernel), List.mem_of_getElem? (i := 94) (by decide +kernel), List.mem_of_getElem? (i := 95) (by decide +kernel)⟩
theorem lw_p3 : lw_okq (⟨"AncestryNet", "commonCommits", "()I"⟩, 11) := ⟨⟨by decide +kernel, by decide +kernel⟩, List.mem_of_getElem? (i := 13) (by decide +kernel), List.mem_of_getElem? (i := 98) (by decide +kernel), List.mem_of_getElem? (i := 99) (by decide +kernel)⟩
theorem lw_p4 : lw_okq (⟨"AncestryNet", "markHeld", "()V"⟩, 11) := ⟨⟨by decide +kernel, by decide +kernel⟩, List.mem_of_getElem? (i := 13) (by decide +kernel), List.mem_of_getElem? (i := 102) (by decide +kernel), List.mem_of_getElem? (i := 103) (by decide +kernel)⟩
theorem lw_p5 : lw_okq (⟨"AncestryNet", "spreadMarks", "()V"⟩, 11) := ⟨⟨by decide +kernel, by decide +kernel⟩, List.mem_of_getElem? (i := 13) (by decide +kernel), List.mem_of_getElem? (i := 106) (by decide +kernel), List.mem_of_getElem? (i := 107) (by decide +kernel)⟩
theorem lw_p6 : lw_okq (⟨"AncestryNet", "isCommon", "(I)Z"⟩, 11) := ⟨⟨by decide +kernel, by decide +kernel⟩, List.mem_of_getElem? (i := 13) (by decide +kernel), List.mem_of_getElem? (i := 110) (by decide +kernel), List.mem_of_getElem? (i := 111) (by decide +kernel)⟩
theorem lw_p7 : lw_okq (⟨"AncestryNet", "parentOf", "(II)I"⟩, 11) := ⟨⟨by decide +kernel, by decide +kernel⟩, List.mem_of_getElem? (i := 13) (by decide +kernel), List.mem_of_getElem? (i := 114) (by decide +kernel), List.mem_of_getElem? (i := 115) (by decide +kernel)⟩
theorem lw_p8 : lw_okq (⟨"AncestryNet", "misplacedCommits", "()I"⟩, 11) := ⟨⟨by decide +kernel, by decide +kernel⟩, List.mem_of_getElem? (i := 13) (by decide +kernel), List.mem_of_getElem? (i := 118) (by decide +kernel), List.mem_of_getElem? (i := 119) (by decide +kernel)⟩
theorem lw_p9 : lw_okq (⟨"AncestryNet", "hasParentNotBelow", "(I)Z"⟩, 11) := ⟨⟨by decide +kernel, by decide +kernel⟩, List.mem_of_getElem? (i := 13) (by decide +kernel), List.mem_of_getElem? (i := 122) (by decide +kernel), List.mem_of_getElem? (i := 123) (by decide +kernel)⟩
theorem lw_p10 : lw_okq (⟨"AncestryNet", "checkParentOrNone", "(I)V"⟩, 11) := ⟨⟨by decide +kernel, by decide +kernel⟩, List.mem_of_getElem? (i := 13) (by decide +kernel), List.mem_of_getElem? (i := 135) (by decide +kernel), List.mem_of_getElem? (i := 136) (by decide +kernel)⟩
theorem lw_p11 : lw_okq (⟨"AncestryNet", "checkCommit", "(I)V"⟩, 11) := ⟨⟨by decide +kernel, by decide +kernel⟩, List.mem_of_getElem? (i := 13) (by decide +kernel), List.mem_of_getElem? (i := 139) (by decide +kernel), List.mem_of_getElem? (i := 140) (by decide +kernel)⟩
theorem lw_p12 : lw_okq (⟨"java/lang/Throwable", "fillInStackTrace", "(I)Ljava/lang/Throwable;"⟩, 6) := ⟨⟨by decide +kernel, by decide +kernel⟩, List.mem_of_getElem? (i := 181) (by decide +kernel), List.mem_of_getElem? (i := 179) (by decide +kernel), List.mem_of_getElem? (i := 180) (by decide +kernel)⟩
theorem lw_p13 : lw_okq (⟨"AncestryNet", "linkUnlessNone", "(II)V"⟩, 11) := ⟨⟨by decide +kernel, by decide +kernel⟩, List.mem_of_getElem? (i := 13) (by decide +kernel), List.mem_of_getElem? (i := 227) (by decide +kernel), List.mem_of_getElem? (i := 228) (by decide +kernel)⟩
theorem lw_p14 : lw_okq (⟨"AncestryNet", "link", "(II)V"⟩, 11) := ⟨⟨by decide +kernel, by decide +kernel⟩, List.mem_of_getElem? (i := 13) (by decide +kernel), List.mem_of_getElem? (i := 231) (by decide +kernel), List.mem_of_getElem? (i := 232) (by decide +kernel)⟩
theorem lw_p15 : lw_okq (⟨"AncestryNet", "markReachable", "(I)V"⟩, 11) := ⟨⟨by decide +kernel, by decide +kernel⟩, List.mem_of_getElem? (i := 13) (by decide +kernel), List.mem_of_getElem? (i := 262) (by decide +kernel), List.mem_of_getElem? (i := 263) (by decide +kernel)⟩
def lw_privs_1 : List (MethodName × Nat) := [(⟨"AncestryNet", "tipsOf", "(I)I"⟩, 11), (⟨"AncestryNet", "greatestGeneration", "()I"⟩, 11), (⟨"AncestryNet", "childlessCommits", "()I"⟩, 11), (⟨"AncestryNet", "commonCommits", "()I"⟩, 11), (⟨"AncestryNet", "markHeld", "()V"⟩, 11), (⟨"AncestryNet", "spreadMarks", "()V"⟩, 11), (⟨"AncestryNet", "isCommon", "(I)Z"⟩, 11), (⟨"AncestryNet", "parentOf", "(II)I"⟩, 11), (⟨"AncestryNet", "misplacedCommits", "()I"⟩, 11), (⟨"AncestryNet", "hasParentNotBelow", "(I)Z"⟩, 11), (⟨"AncestryNet", "checkParentOrNone", "(I)V"⟩, 11), (⟨"AncestryNet", "checkCommit", "(I)V"⟩, 11), (⟨"java/lang/Throwable", "fillInStackTrace", "(I)Ljava/lang/Throwable;"⟩, 6), (⟨"AncestryNet", "linkUnlessNone", "(II)V"⟩, 11), (⟨"AncestryNet", "link", "(II)V"⟩, 11), (⟨"AncestryNet", "markReachable", "(I)V"⟩, 11)]
theorem lw_r1 : ∀ q ∈ lw_privs_1, lw_okq q := List.forall_mem_cons.mpr ⟨lw_p0, List.forall_mem_cons.mpr ⟨lw_p1, List.forall_mem_cons.mpr ⟨lw_p2, List.forall_mem_cons.mpr ⟨lw_p3, List.forall_mem_cons.mpr ⟨lw_p4, List.forall_mem_cons.mpr ⟨lw_p5, List.forall_mem_cons.mpr ⟨lw_p6, List.forall_mem_cons.mpr ⟨lw_p7, List.forall_mem_cons.mpr ⟨lw_p8, List.forall_mem_cons.mpr ⟨lw_p9, List.forall_mem_cons.mpr ⟨lw_p10, List.forall_mem_cons.mpr ⟨lw_p11, List.forall_mem_cons.mpr ⟨lw_p12, List.forall_mem_cons.mpr ⟨lw_p13, List.forall_mem_cons.mpr ⟨lw_p14, List.forall_mem_cons.mpr ⟨lw_p15, fun _ h => absurd h List.not_mem_nil⟩⟩⟩⟩⟩⟩⟩⟩⟩⟩⟩⟩⟩⟩⟩⟩
theorem lw_p16 : lw_okq (⟨"AncestryNet", "clearMarks", "()V"⟩, 11) := ⟨⟨by decide +kernel, by decide +kernel⟩, List.mem_of_getElem? (i := 13) (by decide +kernel), List.mem_of_getElem? (i := 266) (by decide +kernel), List.mem_of_getElem? (i := 267) (by decide +kernel)⟩
theorem lw_p17 : lw_okq (⟨"AncestryNet", "queueInTheOrder", "(I)V"⟩, 11) := ⟨⟨by decide +kernel, by decide +kernel⟩, List.mem_of_getElem? (i := 13) (by decide +kernel), List.mem_of_getElem? (i := 282) (by decide +kernel), List.mem_of_getElem? (i := 283) (by decide +kernel)⟩
theorem lw_p18 : lw_okq (⟨"AncestryNet$Queue", "rise", "()V"⟩, 4) := ⟨⟨by decide +kernel, by decide +kernel⟩, List.mem_of_getElem? (i := 21) (by decide +kernel), List.mem_of_getElem? (i := 290) (by decide +kernel), List.mem_of_getElem? (i := 291) (by decide +kernel)⟩
theorem lw_p19 : lw_okq (⟨"AncestryNet$Queue", "comesBefore", "(II)Z"⟩, 4) := ⟨⟨by decide +kernel, by decide +kernel⟩, List.mem_of_getElem? (i := 21) (by decide +kernel), List.mem_of_getElem? (i := 294) (by decide +kernel), List.mem_of_getElem? (i := 295) (by decide +kernel)⟩
theorem lw_p20 : lw_okq (⟨"AncestryNet$Queue", "swap", "(II)V"⟩, 4) := ⟨⟨by decide +kernel, by decide +kernel⟩, List.mem_of_getElem? (i := 21) (by decide +kernel), List.mem_of_getElem? (i := 298) (by decide +kernel), List.mem_of_getElem? (i := 299) (by decide +kernel)⟩
theorem lw_p21 : lw_okq (⟨"AncestryNet", "queuedAt", "(I)I"⟩, 11) := ⟨⟨by decide +kernel, by decide +kernel⟩, List.mem_of_getElem? (i := 13) (by decide +kernel), List.mem_of_getElem? (i := 302) (by decide +kernel), List.mem_of_getElem? (i := 303) (by decide +kernel)⟩
theorem lw_p22 : lw_okq (⟨"AncestryNet$Queue", "sink", "()V"⟩, 4) := ⟨⟨by decide +kernel, by decide +kernel⟩, List.mem_of_getElem? (i := 21) (by decide +kernel), List.mem_of_getElem? (i := 333) (by decide +kernel), List.mem_of_getElem? (i := 334) (by decide +kernel)⟩
theorem lw_p23 : lw_okq (⟨"AncestryNet", "markedCommits", "()I"⟩, 11) := ⟨⟨by decide +kernel, by decide +kernel⟩, List.mem_of_getElem? (i := 13) (by decide +kernel), List.mem_of_getElem? (i := 344) (by decide +kernel), List.mem_of_getElem? (i := 345) (by decide +kernel)⟩
theorem lw_p24 : lw_okq (⟨"AncestryNet", "toldAt", "(II)I"⟩, 11) := ⟨⟨by decide +kernel, by decide +kernel⟩, List.mem_of_getElem? (i := 13) (by decide +kernel), List.mem_of_getElem? (i := 348) (by decide +kernel), List.mem_of_getElem? (i := 349) (by decide +kernel)⟩
theorem lw_p25 : lw_okq (⟨"AncestryNet", "countUntoldLinks", "()V"⟩, 11) := ⟨⟨by decide +kernel, by decide +kernel⟩, List.mem_of_getElem? (i := 13) (by decide +kernel), List.mem_of_getElem? (i := 352) (by decide +kernel), List.mem_of_getElem? (i := 353) (by decide +kernel)⟩
theorem lw_p26 : lw_okq (⟨"AncestryNet", "tellNext", "()V"⟩, 11) := ⟨⟨by decide +kernel, by decide +kernel⟩, List.mem_of_getElem? (i := 13) (by decide +kernel), List.mem_of_getElem? (i := 356) (by decide +kernel), List.mem_of_getElem? (i := 357) (by decide +kernel)⟩
theorem lw_p27 : lw_okq (⟨"AncestryNetModel", "refuse", "(I)I"⟩, 12) := ⟨⟨by decide +kernel, by decide +kernel⟩, List.mem_of_getElem? (i := 390) (by decide +kernel), List.mem_of_getElem? (i := 441) (by decide +kernel), List.mem_of_getElem? (i := 442) (by decide +kernel)⟩
theorem lw_p28 : lw_okq (⟨"AncestryNetModel", "join", "(II)V"⟩, 12) := ⟨⟨by decide +kernel, by decide +kernel⟩, List.mem_of_getElem? (i := 390) (by decide +kernel), List.mem_of_getElem? (i := 445) (by decide +kernel), List.mem_of_getElem? (i := 446) (by decide +kernel)⟩
theorem lw_p29 : lw_okq (⟨"AncestryNetModel", "there", "(I)Z"⟩, 12) := ⟨⟨by decide +kernel, by decide +kernel⟩, List.mem_of_getElem? (i := 390) (by decide +kernel), List.mem_of_getElem? (i := 453) (by decide +kernel), List.mem_of_getElem? (i := 454) (by decide +kernel)⟩
theorem lw_p30 : lw_okq (⟨"AncestryNetModel", "isAnyParent", "(I)Z"⟩, 12) := ⟨⟨by decide +kernel, by decide +kernel⟩, List.mem_of_getElem? (i := 390) (by decide +kernel), List.mem_of_getElem? (i := 457) (by decide +kernel), List.mem_of_getElem? (i := 458) (by decide +kernel)⟩
theorem lw_p31 : lw_okq (⟨"AncestryNetModel", "isParent", "(II)Z"⟩, 12) := ⟨⟨by decide +kernel, by decide +kernel⟩, List.mem_of_getElem? (i := 390) (by decide +kernel), List.mem_of_getElem? (i := 461) (by decide +kernel), List.mem_of_getElem? (i := 462) (by decide +kernel)⟩
def lw_privs_2 : List (MethodName × Nat) := [(⟨"AncestryNet", "clearMarks", "()V"⟩, 11), (⟨"AncestryNet", "queueInTheOrder", "(I)V"⟩, 11), (⟨"AncestryNet$Queue", "rise", "()V"⟩, 4), (⟨"AncestryNet$Queue", "comesBefore", "(II)Z"⟩, 4), (⟨"AncestryNet$Queue", "swap", "(II)V"⟩, 4), (⟨"AncestryNet", "queuedAt", "(I)I"⟩, 11), (⟨"AncestryNet$Queue", "sink", "()V"⟩, 4), (⟨"AncestryNet", "markedCommits", "()I"⟩, 11), (⟨"AncestryNet", "toldAt", "(II)I"⟩, 11), (⟨"AncestryNet", "countUntoldLinks", "()V"⟩, 11), (⟨"AncestryNet", "tellNext", "()V"⟩, 11), (⟨"AncestryNetModel", "refuse", "(I)I"⟩, 12), (⟨"AncestryNetModel", "join", "(II)V"⟩, 12), (⟨"AncestryNetModel", "there", "(I)Z"⟩, 12), (⟨"AncestryNetModel", "isAnyParent", "(I)Z"⟩, 12), (⟨"AncestryNetModel", "isParent", "(II)Z"⟩, 12)]
theorem lw_r2 : ∀ q ∈ lw_privs_2, lw_okq q := List.forall_mem_cons.mpr ⟨lw_p16, List.forall_mem_cons.mpr ⟨lw_p17, List.forall_mem_cons.mpr ⟨lw_p18, List.forall_mem_cons.mpr ⟨lw_p19, List.forall_mem_cons.mpr ⟨lw_p20, List.forall_mem_cons.mpr ⟨lw_p21, List.forall_mem_cons.mpr ⟨lw_p22, List.forall_mem_cons.mpr ⟨lw_p23, List.forall_mem_cons.mpr ⟨lw_p24, List.forall_mem_cons.mpr ⟨lw_p25, List.forall_mem_cons.mpr ⟨lw_p26, List.forall_mem_cons.mpr ⟨lw_p27, List.forall_mem_cons.mpr ⟨lw_p28, List.forall_mem_cons.mpr ⟨lw_p29, List.forall_mem_cons.mpr ⟨lw_p30, List.forall_mem_cons.mpr ⟨lw_p31, fun _ h => absurd h List.not_mem_nil⟩⟩⟩⟩⟩⟩⟩⟩⟩⟩⟩⟩⟩⟩⟩⟩
theorem lw_p32 : lw_okq (⟨"AncestryNetModel", "from", "(I[Z)V"⟩, 12) := ⟨⟨by decide +kernel, by decide +kernel⟩, List.mem_of_getElem? (i := 390) (by decide +kernel), List.mem_of_getElem? (i := 473) (by decide +kernel), List.mem_of_getElem? (i := 474) (by decide +kernel)⟩
theorem lw_p33 : lw_okq (⟨"AncestryNetModel", "close", "([Z)V"⟩, 12) := ⟨⟨by decide +kernel, by decide +kernel⟩, List.mem_of_getElem? (i := 390) (by decide +kernel), List.mem_of_getElem? (i := 477) (by decide +kernel), List.mem_of_getElem? (i := 478) (by decide +kernel)⟩
theorem lw_p34 : lw_okq (⟨"AncestryNetModel", "order", "()V"⟩, 12) := ⟨⟨by decide +kernel, by decide +kernel⟩, List.mem_of_getElem? (i := 390) (by decide +kernel), List.mem_of_getElem? (i := 485) (by decide +kernel), List.mem_of_getElem? (i := 486) (by decide +kernel)⟩
theorem lw_p35 : lw_okq (⟨"AncestryNetModel", "before", "(II)Z"⟩, 12) := ⟨⟨by decide +kernel, by decide +kernel⟩, List.mem_of_getElem? (i := 390) (by decide +kernel), List.mem_of_getElem? (i := 489) (by decide +kernel), List.mem_of_getElem? (i := 490) (by decide +kernel)⟩
theorem lw_p36 : lw_okq (⟨"AncestryNetModel", "pick", "(I)I"⟩, 12) := ⟨⟨by decide +kernel, by decide +kernel⟩, List.mem_of_getElem? (i := 390) (by decide +kernel), List.mem_of_getElem? (i := 493) (by decide +kernel), List.mem_of_getElem? (i := 494) (by decide +kernel)⟩
theorem lw_p37 : lw_okq (⟨"AncestryNetModel", "free", "(I)Z"⟩, 12) := ⟨⟨by decide +kernel, by decide +kernel⟩, List.mem_of_getElem? (i := 390) (by decide +kernel), List.mem_of_getElem? (i := 501) (by decide +kernel), List.mem_of_getElem? (i := 502) (by decide +kernel)⟩
theorem lw_p38 : lw_okq (⟨"AncestryNetModel", "held", "(I[Z)V"⟩, 12) := ⟨⟨by decide +kernel, by decide +kernel⟩, List.mem_of_getElem? (i := 390) (by decide +kernel), List.mem_of_getElem? (i := 513) (by decide +kernel), List.mem_of_getElem? (i := 514) (by decide +kernel)⟩
theorem lw_p39 : lw_okq (⟨"AncestryNetModel", "generation", "(I)I"⟩, 12) := ⟨⟨by decide +kernel, by decide +kernel⟩, List.mem_of_getElem? (i := 390) (by decide +kernel), List.mem_of_getElem? (i := 517) (by decide +kernel), List.mem_of_getElem? (i := 518) (by decide +kernel)⟩
def lw_privs_3 : List (MethodName × Nat) := [(⟨"AncestryNetModel", "from", "(I[Z)V"⟩, 12), (⟨"AncestryNetModel", "close", "([Z)V"⟩, 12), (⟨"AncestryNetModel", "order", "()V"⟩, 12), (⟨"AncestryNetModel", "before", "(II)Z"⟩, 12), (⟨"AncestryNetModel", "pick", "(I)I"⟩, 12), (⟨"AncestryNetModel", "free", "(I)Z"⟩, 12), (⟨"AncestryNetModel", "held", "(I[Z)V"⟩, 12), (⟨"AncestryNetModel", "generation", "(I)I"⟩, 12)]
theorem lw_r3 : ∀ q ∈ lw_privs_3, lw_okq q := List.forall_mem_cons.mpr ⟨lw_p32, List.forall_mem_cons.mpr ⟨lw_p33, List.forall_mem_cons.mpr ⟨lw_p34, List.forall_mem_cons.mpr ⟨lw_p35, List.forall_mem_cons.mpr ⟨lw_p36, List.forall_mem_cons.mpr ⟨lw_p37, List.forall_mem_cons.mpr ⟨lw_p38, List.forall_mem_cons.mpr ⟨lw_p39, fun _ h => absurd h List.not_mem_nil⟩⟩⟩⟩⟩⟩⟩⟩
def lw_privs : List (MethodName × Nat) := lw_privs_1 ++ (lw_privs_2 ++ (lw_privs_3))
def lw_tbl : List Cond := k2_sels lw_privs ++ tables_1
theorem lw_privs_ok : ∀ q ∈ lw_privs, lw_okq q := by
  show ∀ q ∈ lw_privs_1 ++ (lw_privs_2 ++ (lw_privs_3)), lw_okq q
  exact List.forall_mem_append.mpr ⟨lw_r1, List.forall_mem_append.mpr ⟨lw_r2, lw_r3⟩⟩
end
section
/-! ===== BEGIN words of one list among another's, by their places ===== -/
theorem goodIn_r {big : List Cond} (ws : List Cond) (ps : List Nat) (hp : ws = ps.filterMap (fun i => big[i]?)) (h : ws.all goodWord = true) : GoodIn big ws := by
  intro w hw
  have h1 := List.all_eq_true.mp h w hw
  rw [hp] at hw
  obtain ⟨i, -, hi⟩ := List.mem_filterMap.mp hw
  have hm : w ∈ big := by first | exact List.mem_of_getElem? hi | exact List.getElem?_mem hi
  exact ⟨hm, good_of_word h1⟩
theorem goodIn_app {big a b : List Cond} (ha : GoodIn big a) (hb : GoodIn big b) : GoodIn big (a ++ b) := fun w h => (List.mem_append.mp h).elim (ha w) (hb w)
theorem goodIn_ca {big a b : List Cond} {c : Cond} (ha : GoodIn big (c :: a)) (hb : GoodIn big b) : GoodIn big (c :: (a ++ b)) := fun w h => (List.mem_cons.mp h).elim (fun e => ha w (List.mem_cons.mpr (Or.inl e))) (fun h => (List.mem_append.mp h).elim (fun h => ha w (List.mem_cons.mpr (Or.inr h))) (hb w))
theorem goodIn_sub {big ws : List Cond} (hm : ∀ w ∈ ws, w ∈ big) (h : ws.all goodWord = true) : GoodIn big ws := fun w hw => ⟨hm w hw, good_of_word (List.all_eq_true.mp h w hw)⟩
/-! ===== END ===== -/

/-! ===== BEGIN exceptions that leave a method, and their catching by the caller (launches without stack traces) ===== -/
section VXA
/-! The laws vx_back, vx_callV, vx_callS, vx_callSW, vx_throw0, vx_throwS follow proofs of the library, with one case more: JvmDerived/Free/Laws.lean (Back.of_free), Shelf42/LK1.lean (callV, callS), Shelf/KitTraced.lean (throwNew0V, throwNewS). -/
/-- where a method has thrown q: the class by its name, the cell, what was written, the world -/
def vx_T (XC : String → State → State → Prop) (st : State) (q : Addr) (t : State) (mc ms : Nat) (free : Addr → Prop) : Prop :=
  ∃ (E : String) (ce : Cell) (L : List Loc), XC E st t ∧ t.heap[q]? = some ce ∧ ce.vm = .none ∧ st.vm.findClass E = some ce.cls ∧ st.WarmedH t.vm ∧ st.sameButNew ({ t with vm := st.vm } : State) L mc ms ∧ ∀ z ∈ L, free z.base
def vx_Q (Qc : Array Value → State → Outcome → State → Prop) (XC : String → State → State → Prop) (mc ms : Nat) (free : Addr → Prop) : Array Value → State → Outcome → State → Prop := fun a st o t =>
  (Qc a st o t ∧ ∃ L, FrameEnd st o t L mc ms ∧ ∀ q ∈ L, free q.base) ∨ ∃ q, o = .threw q ∧ vx_T XC st q t mc ms free
/-- a callee that returns or throws -/
def vx_Met (l : Launch) (y : MethodName) (ws : List Cond) (rm : Room) (Pc : Array Value → State → Prop) (Qc : Array Value → State → Outcome → State → Prop) (XC : String → State → State → Prop) (mc ms : Nat) (free : Addr → Prop) : Prop :=
  MetFree l y (headSpec ws rm) Pc (fun _ _ _ _ _ => True) (vx_Q Qc XC mc ms free)
def vx_Post (XC : String → State → State → Prop) (mc ms : Nat) (free : Addr → Prop) : Pt → Array Value → Addr → Pt → Prop := fun A a q B =>
  ∃ (g : JFrame) (mk : MethodId) (t : State) (L : List Loc) (E : String) (ce : Cell), B.U.heap = t.heap ∧ B.U.vm = t.vm ∧ XC E (A.U.calling g mk a) t ∧ t.heap[q]? = some ce ∧ ce.vm = .none ∧ A.U.vm.findClass E = some ce.cls ∧ B.locs = A.locs ++ L ∧ (∀ z ∈ L, free z.base) ∧ B.cells = A.cells + mc ∧ B.slots = A.slots + ms
def vx_Back (l : Launch) (R : Room) (p : Program) (e : Env) (below : List Frame) (s : State) (sargs : Array Value) (y : MethodName) (len W9 : Nat)
    (Pre : Pt → Array Value → Prop) (Post : Pt → Array Value → Option Value → Pt → Prop) (PostX : Pt → Array Value → Addr → Pt → Prop) : Prop :=
  ∀ (m : MethodId) (meth : Method) (c : Code) (A : Pt) (g : JFrame) (ig : Instr) (mk : MethodId) (a : Array Value),
    Stand p l e R s m sargs below meth c A.U A.locs A.cells A.slots → g.method = m → g.locals.size = c.maxLocals → decode c.code g.pc = .ok (ig, len) →
    2 * g.monitorRoom + (g.stack.map fun v => v.category).sum ≤ W9 → A.U.methodNamed? y = some mk → Pre A a →
    (∃ (v : Option Value) (B : Pt), Stand p l e R s m sargs below meth c B.U B.locs B.cells B.slots ∧ Post A a v B ∧
      Steps p.tables e below (doInvoke e (A.U.setTop g) [] mk a).1 (B.U.setTop { g with pc := g.pc + len, stack := v.toList ++ g.stack })) ∨
    (∃ (q : Addr) (B : Pt), Stand p l e R s m sargs below meth c B.U B.locs B.cells B.slots ∧ PostX A a q B ∧
      Steps p.tables e below (doInvoke e (A.U.setTop g) [] mk a).1 ((B.U.setTop g).pushFrame (.throwing q)))
section Payer
variable {l : Launch} {R : Room} {p : Program} {e : Env} {below : List Frame} {s : State} {sargs : Array Value} {y : MethodName} {len W9 : Nat}
theorem vx_back {ws : List Cond} {rm : Room} {Pc : Array Value → State → Prop} {Qc : Array Value → State → Outcome → State → Prop} {XC : String → State → State → Prop} {mc ms : Nat} {free : Addr → Prop} {bytes : ByteArray} {maxL : Nat} {ret : Option FieldType}
    (hM : vx_Met l y ws rm Pc Qc XC mc ms free) (hblind : FrameBlind Pc) (hrc : rm.cells = mc) (hrs : rm.slots = ms)
    (hframes : rm.frames + 1 ≤ R.frames) (hlocals : W9 + (maxL + 11) + rm.locals ≤ R.locals)
    (hws : ∀ w ∈ ws, ∀ a' U, s.WarmedH U.vm → w.before a' U = true) (hcode : Cond.code y bytes maxL ret ∈ ws) (hinit : ∀ a' U, s.WarmedH U.vm → (Cond.initialized y.cls).before a' U = true) :
    vx_Back l R p e below s sargs y len W9 (PreOf R mc ms Pc) (PostOf Qc mc ms free) (vx_Post XC mc ms free) := by
  intro m meth c A g ig mk a X hg hsize hdg hW hn hp
  have h1 : (headSpec ws rm).pre.before a A.U = true := atoms_intro fun w hw => hws w hw _ _ X.warmed
  have h2 : (Cond.code y bytes maxL ret).before a A.U = true := hws _ hcode _ _ X.warmed
  have h3 : (Cond.initialized y.cls).before a A.U = true := hinit _ _ X.warmed
  have h4 : A.cells + (headSpec ws rm).room.cells ≤ R.cells := by rw [show (headSpec ws rm).room.cells = mc from hrc]; exact hp.1
  have h5 : A.slots + (headSpec ws rm).room.slots ≤ R.slots := by rw [show (headSpec ws rm).room.slots = ms from hrs]; exact hp.2.1
  have hPc : Pc a (A.U.calling g mk a) := hblind _ _ _ _ hp.2.2
  obtain ⟨U, Ls, c0, s0⟩ := A
  dsimp only [Pt.U, Pt.locs, Pt.cells, Pt.slots] at h1 h2 h3 h4 h5 X hn hPc ⊢
  obtain ⟨methY, cY, hmY, hcY, -, hlY, -, -, -, -⟩ := Cond.code_spec hn h2
  obtain ⟨kY, hkY, -⟩ := className_of_methodNamed hn
  have hinitY : kY.init = .initialized := Cond.initialized_spec (findClass_of_methodNamed hn) hkY h3
  have h : At U g.method c below := by rw [hg]; exact X.here
  have hlocals9 : W9 + (maxL + 11) + (headSpec ws rm).room.locals ≤ R.locals := hlocals
  have happ : (headSpec ws rm).appliesLoose y e.platform (U.calling g mk a) = true :=
    Spec.appliesLoose_calling (g := g) h hdg hn hkY hinitY
      (X.room_calling (g := g) (R' := (headSpec ws rm).room) hsize hmY hcY hframes (by rw [hlY]; omega) h4 h5) h1
  obtain ⟨mid, hmid⟩ := h.above
  have hfr : (U.setTop g).frames = (.java g :: mid) ++ below := by rw [State.frames_setTop' g h.top, hmid]; rfl
  obtain ⟨o, s₂, hsteps, -, hend, hq⟩ := Steps.callFree hM p X.admits X.cas X.clock (acts := []) hfr happ hPc trivial
  have hq' : vx_Q Qc XC mc ms free a (U.calling g mk a) o s₂ := hq
  rw [State.frames_setTop' g h.top] at hend
  obtain ⟨g₀, hg0⟩ := Option.isSome_iff_exists.mp h.top
  obtain ⟨r, hr⟩ := State.topJava?_eq_some.mp hg0
  have hr' : (({ U with heap := s₂.heap, slotsUsed := s₂.slotsUsed } : State).setVm s₂.vm).frames = .java g₀ :: r := hr
  rcases hq' with ⟨hqc, L, hfe, hL⟩ | ⟨q, rfl, E, ce, L, hx, hce, hcv, hcl, hW₂, hsm, hL⟩
  · obtain ⟨⟨v, rfl⟩, hW₂, e2, q2, q3, q4, q5, q6⟩ := id hfe
    have e3 : s₂ = ({ (U.calling g mk a).setFrames s₂.frames with heap := s₂.heap, slotsUsed := s₂.slotsUsed } : State).setVm s₂.vm := by
      have : s₂ = ({ s₂ with vm := (U.calling g mk a).vm } : State).setVm s₂.vm := rfl
      rw [e2] at this
      exact this
    obtain ⟨c₂, i₂, len₂, hc₂, hd₂, hf₂⟩ := hend
    have hW' : U.WarmedH s₂.vm := hW₂
    have hcc : c₂ = c := by
      have h1 : s₂.code? g.method = U.code? g.method := by
        rw [State.code?_eq, State.code?_eq, hW'.alike.method?]
      exact Option.some.inj (hc₂.symm.trans (h1.trans h.code))
    subst hcc
    have hlen : len₂ = len := by rw [hdg] at hd₂; cases hd₂; rfl
    subst hlen
    have hs₂ : s₂ = (({ U with heap := s₂.heap, slotsUsed := s₂.slotsUsed } : State).setVm s₂.vm).setTop { g with pc := g.pc + len₂, stack := v.toList ++ g.stack } := by
      refine e3.trans ?_
      rw [hf₂, State.calling_eq h.top, State.setFrames_setFrames, State.setTop_of_frames _ hr', hr]
      rfl
    have hsame : U.sameButNew ({ U with heap := s₂.heap, slotsUsed := s₂.slotsUsed } : State) L mc ms := by
      refine ⟨?_, q2, q3, q4, q5, q6⟩
      obtain ⟨t, ht, -⟩ := State.frames_cons hr
      show ({ U with heap := s₂.heap, slotsUsed := s₂.slotsUsed } : State) = { U.setFrames U.frames with heap := s₂.heap, slotsUsed := s₂.slotsUsed }
      rw [State.setFrames_self ht]
    subst hg
    refine Or.inl ⟨v, ⟨(({ U with heap := s₂.heap, slotsUsed := s₂.slotsUsed } : State).setVm s₂.vm), Ls ++ L, c0 + mc, s0 + ms⟩,
      ⟨X.admits, X.cas, X.clock, X.frames, X.room, X.hears, X.method, X.code, (X.here.setHeapUsed s₂.heap s₂.slotsUsed).setVm hW'.alike, X.tail, State.WarmedH.trans X.warmed hW', X.limits, X.bytes, X.same.trans (hsame.setVm s.vm)⟩,
      ⟨g, mk, s₂, L, rfl, rfl, hqc, rfl, hL, rfl, rfl⟩, ?_⟩
    show Steps p.tables e below _ ((({ U with heap := s₂.heap, slotsUsed := s₂.slotsUsed } : State).setVm s₂.vm).setTop { g with pc := g.pc + len₂, stack := v.toList ++ g.stack })
    rw [← hs₂]
    exact hsteps
  · obtain ⟨e2, q2, q3, q4, q5, q6⟩ := id hsm
    have e3 : s₂ = ({ (U.calling g mk a).setFrames s₂.frames with heap := s₂.heap, slotsUsed := s₂.slotsUsed } : State).setVm s₂.vm := by
      have : s₂ = ({ s₂ with vm := (U.calling g mk a).vm } : State).setVm s₂.vm := rfl
      rw [e2] at this
      exact this
    have hf₂ : s₂.frames = .throwing q :: .java g :: U.frames.tail := hend
    have hW' : U.WarmedH s₂.vm := hW₂
    have hs₂ : s₂ = ((({ U with heap := s₂.heap, slotsUsed := s₂.slotsUsed } : State).setVm s₂.vm).setTop g).pushFrame (.throwing q) := by
      refine e3.trans ?_
      rw [hf₂, State.calling_eq h.top, State.setFrames_setFrames, State.pushFrame, State.frames_setTop _ hr', State.setTop_of_frames _ hr', State.setFrames_setFrames, hr]
      rfl
    have hsame : U.sameButNew ({ U with heap := s₂.heap, slotsUsed := s₂.slotsUsed } : State) L mc ms := by
      refine ⟨?_, q2, q3, q4, q5, q6⟩
      obtain ⟨t, ht, -⟩ := State.frames_cons hr
      show ({ U with heap := s₂.heap, slotsUsed := s₂.slotsUsed } : State) = { U.setFrames U.frames with heap := s₂.heap, slotsUsed := s₂.slotsUsed }
      rw [State.setFrames_self ht]
    subst hg
    refine Or.inr ⟨q, ⟨(({ U with heap := s₂.heap, slotsUsed := s₂.slotsUsed } : State).setVm s₂.vm), Ls ++ L, c0 + mc, s0 + ms⟩,
      ⟨X.admits, X.cas, X.clock, X.frames, X.room, X.hears, X.method, X.code, (X.here.setHeapUsed s₂.heap s₂.slotsUsed).setVm hW'.alike, X.tail, State.WarmedH.trans X.warmed hW', X.limits, X.bytes, X.same.trans (hsame.setVm s.vm)⟩,
      ⟨g, mk, s₂, L, E, ce, rfl, rfl, hx, hce, hcv, hcl, rfl, hL, rfl, rfl⟩, ?_⟩
    show Steps p.tables e below _ (((({ U with heap := s₂.heap, slotsUsed := s₂.slotsUsed } : State).setVm s₂.vm).setTop g).pushFrame (.throwing q))
    rw [← hs₂]
    exact hsteps
end Payer
section Calls
variable {p : Program} {l : Launch} {e : Env} {R : Room} {s : State} {m : MethodId} {args : Array Value} {below : List Frame} {meth : Method} {c : Code} {T : State} {locs : List Loc} {cells slots : Nat}
theorem vx_callV (X : Stand p l e R s m args below meth c T locs cells slots) (hexec : p.tables.exec = Jvm.exec) {own C : String} {index : Nat} {y : MethodName} {bytes : ByteArray} {maxL : Nat} {ret : Option FieldType}
    (hown : s.vm.findClass own = some m.cls) (hlink : (Cond.methodLink own index y).before args s = true) (hinst : (Cond.instanceMethod y).before args s = true) (hsel : (Cond.selects C y y).before args s = true)
    (hcode : (Cond.code y bytes maxL ret).before args s = true) (hy : y.cls ≠ "java/lang/invoke/MethodHandle" ∧ y.cls ≠ "java/lang/invoke/VarHandle")
    {W9 : Nat} {Pre : Pt → Array Value → Prop} {Post : Pt → Array Value → Option Value → Pt → Prop} {PostX : Pt → Array Value → Addr → Pt → Prop} (hK : vx_Back l R p e below s args y 3 W9 Pre Post PostX)
    {b : Addr} {cellB : Cell} (hcell : T.heap[b]? = some cellB) (hobj : cellB.vm.isStatics = false) (hcls : s.vm.findClass C = some cellB.cls)
    {g : JFrame} (hg : g.method = m) (hsize : g.locals.size = c.maxLocals) {argsL rest : List Value} (hlen : ∀ sig, parseMethodDescriptor y.desc = some sig → argsL.length = sig.parameters.length)
    (hstack : g.stack = argsL.reverse ++ .ref b :: rest) (hW : 2 * g.monitorRoom + (rest.map fun v => v.category).sum ≤ W9) (hdg : decode c.code g.pc = .ok (.invokevirtual index, 3))
    (hpre : ∀ vm₁, s.WarmedH vm₁ → Pre ⟨T.setVm vm₁, locs, cells, slots⟩ (Value.ref b :: argsL).toArray) :
    (∃ (v : Option Value) (vm₁ : Vm) (B : Pt), s.WarmedH vm₁ ∧ Stand p l e R s m args below meth c B.U B.locs B.cells B.slots ∧ Post ⟨T.setVm vm₁, locs, cells, slots⟩ (Value.ref b :: argsL).toArray v B ∧
      ∀ target, Steps p.tables e below (B.U.setTop { g with pc := g.pc + 3, stack := v.toList ++ rest }) target → Steps p.tables e below (T.setTop g) target) ∨
    (∃ (q : Addr) (vm₁ : Vm) (B : Pt), s.WarmedH vm₁ ∧ Stand p l e R s m args below meth c B.U B.locs B.cells B.slots ∧ PostX ⟨T.setVm vm₁, locs, cells, slots⟩ (Value.ref b :: argsL).toArray q B ∧
      Steps p.tables e below (T.setTop g) ((B.U.setTop { g with stack := rest }).pushFrame (.throwing q))) := by
  obtain ⟨mk, methM, hnamed, hmethM, hstM, habM⟩ := Cond.instanceMethod_spec hinst
  obtain ⟨methM', cM, hmethM', -, -, -, -, -, -, hsigM⟩ := Cond.code_spec hnamed hcode
  cases hmethM.symm.trans hmethM'
  obtain ⟨c2, r2, m2, q1, q2, q3, q4, kP, hkP, hkPi⟩ := Cond.selects_spec hsel
  cases hcls.symm.trans q1
  cases (State.methodFound?_of_named hnamed hy).symm.trans q2
  cases hnamed.symm.trans q3
  have hselP : selectMethod e.platform s.vm cellB.cls mk = .method mk := by rw [Launch.admits_selectMethod X.admits]; exact q4
  obtain ⟨vm₁, X₁, hstep₁⟩ := X.invokevirtual hexec hown hlink hnamed hmethM hstM hkP hkPi hy (a := b) (cell := cellB) hcell
    (fun z h => by rw [h] at hobj; cases hobj) hselP hmethM habM hkP hkPi (g := g) hg (argsL := argsL) (rest := rest) (hlen _ hsigM) hstack hdg
  rcases hK m meth c ⟨T.setVm vm₁, locs, cells, slots⟩ { g with stack := rest } (.invokevirtual index) mk (Value.ref b :: argsL).toArray X₁ hg hsize hdg hW (X₁.named hnamed) (hpre vm₁ X₁.warmed) with ⟨v, B, X', hpost, hsteps⟩ | ⟨q, B, X', hpost, hsteps⟩
  · exact Or.inl ⟨v, vm₁, B, X₁.warmed, X', hpost, fun target h => hstep₁ _ fun acts => by rw [doInvoke_state]; exact hsteps.trans h⟩
  · exact Or.inr ⟨q, vm₁, B, X₁.warmed, X', hpost, hstep₁ _ fun acts => by rw [doInvoke_state]; exact hsteps⟩
theorem vx_callS (X : Stand p l e R s m args below meth c T locs cells slots) (hexec : p.tables.exec = Jvm.exec) {own : String} {index : Nat} {y : MethodName} {bytes : ByteArray} {maxL : Nat} {ret : Option FieldType}
    (hown : s.vm.findClass own = some m.cls) (hlink : (Cond.methodLink own index y).before args s = true) (hstat : (Cond.static y).before args s = true) (hinit : (Cond.initialized y.cls).before args s = true)
    (hcode : (Cond.code y bytes maxL ret).before args s = true) (hy : y.cls ≠ "java/lang/invoke/MethodHandle" ∧ y.cls ≠ "java/lang/invoke/VarHandle")
    {W9 : Nat} {Pre : Pt → Array Value → Prop} {Post : Pt → Array Value → Option Value → Pt → Prop} {PostX : Pt → Array Value → Addr → Pt → Prop} (hK : vx_Back l R p e below s args y 3 W9 Pre Post PostX)
    {g : JFrame} (hg : g.method = m) (hsize : g.locals.size = c.maxLocals) {argsL rest : List Value} (hlen : ∀ sig, parseMethodDescriptor y.desc = some sig → argsL.length = sig.parameters.length)
    (hstack : g.stack = argsL.reverse ++ rest) (hW : 2 * g.monitorRoom + (rest.map fun v => v.category).sum ≤ W9) (hdg : decode c.code g.pc = .ok (.invokestatic index, 3))
    (hpre : ∀ vm₁, s.WarmedH vm₁ → Pre ⟨T.setVm vm₁, locs, cells, slots⟩ argsL.toArray) :
    (∃ (v : Option Value) (vm₁ : Vm) (B : Pt), s.WarmedH vm₁ ∧ Stand p l e R s m args below meth c B.U B.locs B.cells B.slots ∧ Post ⟨T.setVm vm₁, locs, cells, slots⟩ argsL.toArray v B ∧
      ∀ target, Steps p.tables e below (B.U.setTop { g with pc := g.pc + 3, stack := v.toList ++ rest }) target → Steps p.tables e below (T.setTop g) target) ∨
    (∃ (q : Addr) (vm₁ : Vm) (B : Pt), s.WarmedH vm₁ ∧ Stand p l e R s m args below meth c B.U B.locs B.cells B.slots ∧ PostX ⟨T.setVm vm₁, locs, cells, slots⟩ argsL.toArray q B ∧
      Steps p.tables e below (T.setTop g) ((B.U.setTop { g with stack := rest }).pushFrame (.throwing q))) := by
  obtain ⟨mk, hnamed⟩ := Cond.code_named hcode
  obtain ⟨methM, cM, hmethM, -, -, -, -, -, -, hsigM⟩ := Cond.code_spec hnamed hcode
  have hstatic : methM.isStatic = true := Cond.static_spec hnamed hmethM hstat
  obtain ⟨kP, hkP, -⟩ := className_of_methodNamed hnamed
  have hinitP : kP.init = .initialized := Cond.initialized_spec (findClass_of_methodNamed hnamed) hkP hinit
  obtain ⟨vm₁, X₁, hstep₁⟩ := X.invokestatic hexec hown hlink hnamed hmethM hstatic hkP hinitP hy (g := g) hg (argsL := argsL) (rest := rest) (hlen _ hsigM) hstack hdg
  rcases hK m meth c ⟨T.setVm vm₁, locs, cells, slots⟩ { g with stack := rest } (.invokestatic index) mk argsL.toArray X₁ hg hsize hdg hW (X₁.named hnamed) (hpre vm₁ X₁.warmed) with ⟨v, B, X', hpost, hsteps⟩ | ⟨q, B, X', hpost, hsteps⟩
  · exact Or.inl ⟨v, vm₁, B, X₁.warmed, X', hpost, fun target h => hstep₁ _ fun acts => by rw [doInvoke_state]; exact hsteps.trans h⟩
  · exact Or.inr ⟨q, vm₁, B, X₁.warmed, X', hpost, hstep₁ _ fun acts => by rw [doInvoke_state]; exact hsteps⟩
end Calls
theorem vx_cls {s : State} {T : State} {vm₁ : Vm} {E : String} {k : ClassId} (hW : s.WarmedH vm₁) (h : (T.setVm vm₁).vm.findClass E = some k) : s.vm.findClass E = some k := by
  have h1 : vm₁.findClass E = some k := h
  rw [hW.alike.findClass] at h1
  exact h1
/-- the method's frame g, with q thrown over it -/
def vx_W (p : Program) (l : Launch) (e : Env) (R : Room) (s : State) (m : MethodId) (args : Array Value) (below : List Frame) (meth : Method) (c : Code) (H : Heap) (locs : List Loc) (cells slots : Nat) (Q : State → Prop) (g : JFrame) (q : Addr) : Prop :=
  ∀ T : State, T.heap = H → Stand p l e R s m args below meth c T locs cells slots → ∃ t, Steps p.tables e below ((T.setTop g).pushFrame (.throwing q)) t ∧ Q t
def vx_Run (p : Program) (l : Launch) (e : Env) (R : Room) (s : State) (m : MethodId) (args : Array Value) (below : List Frame) (meth : Method) (c : Code) (H : Heap) (locs : List Loc) (cells slots mc ms : Nat) (g : JFrame) (rest : List Value) (Qa : State → Outcome → State → Prop) (XC : String → State → State → Prop) (free : Addr → Prop) : Prop :=
  ∀ T : State, T.heap = H → Stand p l e R s m args below meth c T locs cells slots →
    (∃ (v : Option Value) (st₀ t T' : State) (L : List Loc), st₀.heap = H ∧ Stand p l e R s m args below meth c T' (locs ++ L) (cells + mc) (slots + ms) ∧ (∀ q ∈ L, free q.base) ∧ T'.heap = t.heap ∧ T'.vm = t.vm ∧ Qa st₀ (.returned v) t ∧
      Goes p e below T g T' { g with pc := g.pc + 3, stack := v.toList ++ rest }) ∨
    (∃ (q : Addr) (st₀ t T' : State) (L : List Loc) (E : String) (ce : Cell), st₀.heap = H ∧ Stand p l e R s m args below meth c T' (locs ++ L) (cells + mc) (slots + ms) ∧ (∀ z ∈ L, free z.base) ∧ T'.heap = t.heap ∧ T'.vm = t.vm ∧ XC E st₀ t ∧ t.heap[q]? = some ce ∧ ce.vm = .none ∧ s.vm.findClass E = some ce.cls ∧
      Steps p.tables e below (T.setTop g) ((T'.setTop { g with stack := rest }).pushFrame (.throwing q)))
def vx_X {S : Type} (px : S → Prop) (B : String → S → State → Prop) (A : Nat → Prop) : String → State → State → Prop := fun E st t => ∃ u : S, px u ∧ B E u t ∧ va_F A st t
section Runs
variable {p : Program} {l : Launch} {e : Env} {R : Room} {s : State} {m : MethodId} {args : Array Value} {below : List Frame} {meth : Method} {c : Code} {H : Heap} {locs : List Loc} {cells slots : Nat}
variable {y : MethodName} {bytes cc : ByteArray} {maxL nL mc ms n index : Nat} {ret : Option FieldType} {ws : List Cond} {rm : Room} {Pc : Array Value → State → Prop} {Qc : Array Value → State → Outcome → State → Prop} {XC : String → State → State → Prop} {free : Addr → Prop} {Ts : List Cond} {own C : String} {b : Addr} {As rest : List Value} {g : JFrame}
theorem vx_callBack (cb : CallB R s args own index y bytes maxL ret ws rm mc ms n) (hM : vx_Met l y ws rm Pc Qc XC mc ms free) (hbl : FrameBlind Pc) : vx_Back l R p e below s args y 3 8 (PreOf R mc ms Pc) (PostOf Qc mc ms free) (vx_Post XC mc ms free) := by
  obtain ⟨hrc, hrs, hfr, hlo, hws, hcw, -, hini, -⟩ := cb
  exact vx_back (bytes := bytes) (maxL := maxL) (ret := ret) hM hbl hrc hrs hfr hlo hws hcw (fun a' U hW => word_at hW (Or.inl (by first | rfl | simp [Cond.onTables, Cond.keeps, Cond.steady])) hini)
theorem vx_runV (S : CallFix p m c cc nL s args Ts own) (hM : vx_Met l y ws rm Pc Qc XC mc ms free) (cw : CallW R s args own C index y bytes maxL ret ws rm mc ms n) (hp : PreV s H C b Pc As)
    (hg : g.method = m) (hn : As.length = n) (hsize : g.locals.size = nL) (hstack : g.stack = As.reverse ++ .ref b :: rest) (hW : 2 * g.monitorRoom + (rest.map fun v => v.category).sum ≤ 8) (hdg : decode cc g.pc = .ok (.invokevirtual index, 3)) (hf : cells + mc ≤ R.cells ∧ slots + ms ≤ R.slots) :
    vx_Run p l e R s m args below meth c H locs cells slots mc ms g rest (Qc (Value.ref b :: As).toArray) XC free := by
  have hK : vx_Back l R p e below s args y 3 8 (PreOf R mc ms Pc) (PostOf Qc mc ms free) (vx_Post XC mc ms free) := vx_callBack cw.1 hM hp.1
  obtain ⟨⟨-, -, -, -, -, -, hcode, -, hy, hlen, hl⟩, hin, hse⟩ := cw
  obtain ⟨hx, hb, hml, ho, -⟩ := S
  obtain ⟨-, ⟨cellB, hcB, hoB, hclB⟩, hPc⟩ := hp
  intro T hT X
  rcases vx_callV X hx (C := C) (bytes := bytes) (maxL := maxL) (ret := ret) ho hl hin hse hcode hy hK (by rw [hT]; exact hcB) hoB hclB hg (hsize.trans hml.symm) (argsL := As) (rest := rest) (fun sig h => hn.trans (hlen sig h)) hstack hW (by rw [hb]; exact hdg)
    (fun vm₁ hW₁ => ⟨hf.1, hf.2, hPc (T.setVm vm₁) hT hW₁⟩) with ⟨v, vm₁, ⟨U', l2, c2, s2⟩, hW₁, X', ⟨g', mk, t, L, e1, e2, hq, h1, hL, h2, h3⟩, st⟩ | ⟨q, vm₁, ⟨U', l2, c2, s2⟩, hW₁, X', ⟨g', mk, t, L, E, ce, e1, e2, hq, hce, hcv, hcl, h1, hL, h2, h3⟩, st⟩
  · dsimp only [Pt.U, Pt.locs, Pt.cells, Pt.slots] at X' e1 e2 h1 h2 h3 st
    subst h1; subst h2; subst h3
    exact Or.inl ⟨v, (T.setVm vm₁).calling g' mk (Value.ref b :: As).toArray, t, U', L, hT, X', hL, e1, e2, hq, st⟩
  · dsimp only [Pt.U, Pt.locs, Pt.cells, Pt.slots] at X' e1 e2 h1 h2 h3 st hcl
    subst h1; subst h2; subst h3
    exact Or.inr ⟨q, (T.setVm vm₁).calling g' mk (Value.ref b :: As).toArray, t, U', L, E, ce, hT, X', hL, e1, e2, hq, hce, hcv, vx_cls hW₁ hcl, st⟩
theorem vx_runS (S : CallFix p m c cc nL s args Ts own) (hM : vx_Met l y ws rm Pc Qc XC mc ms free) (cw : CallB R s args own index y bytes maxL ret ws rm mc ms n ∧ (Cond.static y).before args s = true) (hp : PreS s H Pc As)
    (hg : g.method = m) (hn : As.length = n) (hsize : g.locals.size = nL) (hstack : g.stack = As.reverse ++ rest) (hW : 2 * g.monitorRoom + (rest.map fun v => v.category).sum ≤ 8) (hdg : decode cc g.pc = .ok (.invokestatic index, 3)) (hf : cells + mc ≤ R.cells ∧ slots + ms ≤ R.slots) :
    vx_Run p l e R s m args below meth c H locs cells slots mc ms g rest (Qc As.toArray) XC free := by
  have hK : vx_Back l R p e below s args y 3 8 (PreOf R mc ms Pc) (PostOf Qc mc ms free) (vx_Post XC mc ms free) := vx_callBack cw.1 hM hp.1
  obtain ⟨⟨-, -, -, -, -, -, hcode, hini, hy, hlen, hl⟩, hstt⟩ := cw
  obtain ⟨hx, hb, hml, ho, -⟩ := S
  intro T hT X
  rcases vx_callS X hx (bytes := bytes) (maxL := maxL) (ret := ret) ho hl hstt hini hcode hy hK hg (hsize.trans hml.symm) (argsL := As) (rest := rest) (fun sig h => hn.trans (hlen sig h)) hstack hW (by rw [hb]; exact hdg)
    (fun vm₁ hW₁ => ⟨hf.1, hf.2, hp.2 (T.setVm vm₁) hT hW₁⟩) with ⟨v, vm₁, ⟨U', l2, c2, s2⟩, hW₁, X', ⟨g', mk, t, L, e1, e2, hq, h1, hL, h2, h3⟩, st⟩ | ⟨q, vm₁, ⟨U', l2, c2, s2⟩, hW₁, X', ⟨g', mk, t, L, E, ce, e1, e2, hq, hce, hcv, hcl, h1, hL, h2, h3⟩, st⟩
  · dsimp only [Pt.U, Pt.locs, Pt.cells, Pt.slots] at X' e1 e2 h1 h2 h3 st
    subst h1; subst h2; subst h3
    exact Or.inl ⟨v, (T.setVm vm₁).calling g' mk As.toArray, t, U', L, hT, X', hL, e1, e2, hq, st⟩
  · dsimp only [Pt.U, Pt.locs, Pt.cells, Pt.slots] at X' e1 e2 h1 h2 h3 st hcl
    subst h1; subst h2; subst h3
    exact Or.inr ⟨q, (T.setVm vm₁).calling g' mk As.toArray, t, U', L, E, ce, hT, X', hL, e1, e2, hq, hce, hcv, vx_cls hW₁ hcl, st⟩
end Runs
section Rows
variable {p : Program} {l : Launch} {e : Env} {R : Room} {s : State} {m : MethodId} {args : Array Value} {below : List Frame} {meth : Method} {c : Code} {H : Heap} {locs : List Loc} {cells slots : Nat} {Q : State → Prop}
variable {mc ms : Nat} {free : Addr → Prop} {A0 A1 : Nat → Prop} {H0 : Heap} {a : Array Value} {pc : Nat} {ls : Array Slot} {st0 rest : List Value}
theorem vx_keep {st₀ t T' : State} {L : List Loc} (h0 : st₀.heap = H) (e1 : T'.heap = t.heap) (hS : va_S A0 H0 H locs) (hA : ∀ q, q < H.size → A1 q → A0 q) (hf : ∀ q, free q → A0 q) (hL : ∀ q ∈ L, free q.base) (hF : va_F A1 st₀ t) :
    H.size ≤ T'.heap.size ∧ (∀ q : Nat, q < H.size → ¬ A1 q → T'.heap[q]? = H[q]?) ∧ va_S A0 H0 T'.heap (locs ++ L) := by
  obtain ⟨hz, hk⟩ := hF
  rw [h0] at hz hk
  exact ⟨by rw [e1]; exact hz, fun q h1 h2 => by rw [e1]; exact hk q h1 h2,
    ⟨Nat.le_trans hS.1 (by rw [e1]; exact hz), fun q h1 h2 => by rw [e1, hk q (Nat.lt_of_lt_of_le h1 hS.1) (fun z => h2 (hA q (Nat.lt_of_lt_of_le h1 hS.1) z))]; exact hS.2.1 q h1 h2, fun q hq => by
      rcases List.mem_append.mp hq with h | h
      · exact hS.2.2 q h
      · exact hf _ (hL q h)⟩⟩
theorem vx_calli {S SX : Type} {post : Int32 → S → Prop} {px : SX → Prop} {B : S → State → Prop} {BX : String → SX → State → Prop} {AX : Nat → Prop} (hr : vx_Run p l e R s m args below meth c H locs cells slots mc ms (F0 m pc ls st0) rest (va_Qi post B A1 a) (vx_X px BX AX) free) (hS : va_S A0 H0 H locs) (hA : ∀ q, q < H.size → A1 q → A0 q) (hf : ∀ q, free q → A0 q) (hAX : ∀ q, q < H.size → AX q → A0 q)
    (kx : ∀ (E : String) (ce : Cell) (q9 : Addr) (u : SX) (t : State) (H1 : Heap) (locs1 : List Loc), t.heap = H1 → s.vm.Alike t.vm → px u → BX E u t → H.size ≤ H1.size → (∀ q : Nat, q < H.size → ¬ AX q → H1[q]? = H[q]?) → va_S A0 H0 H1 locs1 → H1[q9]? = some ce → ce.vm = .none → s.vm.findClass E = some ce.cls → vx_W p l e R s m args below meth c H1 locs1 (cells + mc) (slots + ms) Q (F0 m pc ls rest) q9)
    (kk : ∀ (r : Int32) (u : S) (t : State) (H1 : Heap) (locs1 : List Loc), t.heap = H1 → s.vm.Alike t.vm → post r u → B u t → H.size ≤ H1.size → (∀ q : Nat, q < H.size → ¬ A1 q → H1[q]? = H[q]?) → va_S A0 H0 H1 locs1 → W p l e R s m args below meth c H1 locs1 (cells + mc) (slots + ms) Q (F0 m (pc + 3) ls (.int r :: rest))) : W p l e R s m args below meth c H locs cells slots Q (F0 m pc ls st0) := by
  intro T hT X
  rcases hr T hT X with ⟨v, st₀, t, T', L, h0, X', hL, e1, e2, ⟨⟨r, u, hv, hp, hb⟩, hF⟩, st⟩ | ⟨q, st₀, t, T', L, E, ce, h0, X', hL, e1, e2, ⟨u, hp, hb, hF⟩, hce, hcv, hcl, st⟩
  · cases hv
    obtain ⟨k1, k2, k3⟩ := vx_keep h0 e1 hS hA hf hL hF
    obtain ⟨t2, a1, b1⟩ := kk r u t T'.heap (locs ++ L) e1.symm (by rw [← e2]; exact X'.warmed.alike) hp hb k1 k2 k3 T' rfl X'
    exact ⟨t2, st t2 a1, b1⟩
  · obtain ⟨k1, k2, k3⟩ := vx_keep h0 e1 hS hAX hf hL hF
    obtain ⟨t2, a1, b1⟩ := kx E ce q u t T'.heap (locs ++ L) e1.symm (by rw [← e2]; exact X'.warmed.alike) hp hb k1 k2 k3 (by rw [e1]; exact hce) hcv hcl T' rfl X'
    exact ⟨t2, st.trans a1, b1⟩
theorem vx_calll {S SX : Type} {post : Int64 → S → Prop} {px : SX → Prop} {B : S → State → Prop} {BX : String → SX → State → Prop} {AX : Nat → Prop} (hr : vx_Run p l e R s m args below meth c H locs cells slots mc ms (F0 m pc ls st0) rest (va_Ql post B A1 a) (vx_X px BX AX) free) (hS : va_S A0 H0 H locs) (hA : ∀ q, q < H.size → A1 q → A0 q) (hf : ∀ q, free q → A0 q) (hAX : ∀ q, q < H.size → AX q → A0 q)
    (kx : ∀ (E : String) (ce : Cell) (q9 : Addr) (u : SX) (t : State) (H1 : Heap) (locs1 : List Loc), t.heap = H1 → s.vm.Alike t.vm → px u → BX E u t → H.size ≤ H1.size → (∀ q : Nat, q < H.size → ¬ AX q → H1[q]? = H[q]?) → va_S A0 H0 H1 locs1 → H1[q9]? = some ce → ce.vm = .none → s.vm.findClass E = some ce.cls → vx_W p l e R s m args below meth c H1 locs1 (cells + mc) (slots + ms) Q (F0 m pc ls rest) q9)
    (kk : ∀ (r : Int64) (u : S) (t : State) (H1 : Heap) (locs1 : List Loc), t.heap = H1 → s.vm.Alike t.vm → post r u → B u t → H.size ≤ H1.size → (∀ q : Nat, q < H.size → ¬ A1 q → H1[q]? = H[q]?) → va_S A0 H0 H1 locs1 → W p l e R s m args below meth c H1 locs1 (cells + mc) (slots + ms) Q (F0 m (pc + 3) ls (.long r :: rest))) : W p l e R s m args below meth c H locs cells slots Q (F0 m pc ls st0) := by
  intro T hT X
  rcases hr T hT X with ⟨v, st₀, t, T', L, h0, X', hL, e1, e2, ⟨⟨r, u, hv, hp, hb⟩, hF⟩, st⟩ | ⟨q, st₀, t, T', L, E, ce, h0, X', hL, e1, e2, ⟨u, hp, hb, hF⟩, hce, hcv, hcl, st⟩
  · cases hv
    obtain ⟨k1, k2, k3⟩ := vx_keep h0 e1 hS hA hf hL hF
    obtain ⟨t2, a1, b1⟩ := kk r u t T'.heap (locs ++ L) e1.symm (by rw [← e2]; exact X'.warmed.alike) hp hb k1 k2 k3 T' rfl X'
    exact ⟨t2, st t2 a1, b1⟩
  · obtain ⟨k1, k2, k3⟩ := vx_keep h0 e1 hS hAX hf hL hF
    obtain ⟨t2, a1, b1⟩ := kx E ce q u t T'.heap (locs ++ L) e1.symm (by rw [← e2]; exact X'.warmed.alike) hp hb k1 k2 k3 (by rw [e1]; exact hce) hcv hcl T' rfl X'
    exact ⟨t2, st.trans a1, b1⟩
theorem vx_callf {S SX : Type} {post : UInt32 → S → Prop} {px : SX → Prop} {B : S → State → Prop} {BX : String → SX → State → Prop} {AX : Nat → Prop} (hr : vx_Run p l e R s m args below meth c H locs cells slots mc ms (F0 m pc ls st0) rest (va_Qf post B A1 a) (vx_X px BX AX) free) (hS : va_S A0 H0 H locs) (hA : ∀ q, q < H.size → A1 q → A0 q) (hf : ∀ q, free q → A0 q) (hAX : ∀ q, q < H.size → AX q → A0 q)
    (kx : ∀ (E : String) (ce : Cell) (q9 : Addr) (u : SX) (t : State) (H1 : Heap) (locs1 : List Loc), t.heap = H1 → s.vm.Alike t.vm → px u → BX E u t → H.size ≤ H1.size → (∀ q : Nat, q < H.size → ¬ AX q → H1[q]? = H[q]?) → va_S A0 H0 H1 locs1 → H1[q9]? = some ce → ce.vm = .none → s.vm.findClass E = some ce.cls → vx_W p l e R s m args below meth c H1 locs1 (cells + mc) (slots + ms) Q (F0 m pc ls rest) q9)
    (kk : ∀ (r : UInt32) (u : S) (t : State) (H1 : Heap) (locs1 : List Loc), t.heap = H1 → s.vm.Alike t.vm → post r u → B u t → H.size ≤ H1.size → (∀ q : Nat, q < H.size → ¬ A1 q → H1[q]? = H[q]?) → va_S A0 H0 H1 locs1 → W p l e R s m args below meth c H1 locs1 (cells + mc) (slots + ms) Q (F0 m (pc + 3) ls (.float r :: rest))) : W p l e R s m args below meth c H locs cells slots Q (F0 m pc ls st0) := by
  intro T hT X
  rcases hr T hT X with ⟨v, st₀, t, T', L, h0, X', hL, e1, e2, ⟨⟨r, u, hv, hp, hb⟩, hF⟩, st⟩ | ⟨q, st₀, t, T', L, E, ce, h0, X', hL, e1, e2, ⟨u, hp, hb, hF⟩, hce, hcv, hcl, st⟩
  · cases hv
    obtain ⟨k1, k2, k3⟩ := vx_keep h0 e1 hS hA hf hL hF
    obtain ⟨t2, a1, b1⟩ := kk r u t T'.heap (locs ++ L) e1.symm (by rw [← e2]; exact X'.warmed.alike) hp hb k1 k2 k3 T' rfl X'
    exact ⟨t2, st t2 a1, b1⟩
  · obtain ⟨k1, k2, k3⟩ := vx_keep h0 e1 hS hAX hf hL hF
    obtain ⟨t2, a1, b1⟩ := kx E ce q u t T'.heap (locs ++ L) e1.symm (by rw [← e2]; exact X'.warmed.alike) hp hb k1 k2 k3 (by rw [e1]; exact hce) hcv hcl T' rfl X'
    exact ⟨t2, st.trans a1, b1⟩
theorem vx_calld {S SX : Type} {post : UInt64 → S → Prop} {px : SX → Prop} {B : S → State → Prop} {BX : String → SX → State → Prop} {AX : Nat → Prop} (hr : vx_Run p l e R s m args below meth c H locs cells slots mc ms (F0 m pc ls st0) rest (va_Qd post B A1 a) (vx_X px BX AX) free) (hS : va_S A0 H0 H locs) (hA : ∀ q, q < H.size → A1 q → A0 q) (hf : ∀ q, free q → A0 q) (hAX : ∀ q, q < H.size → AX q → A0 q)
    (kx : ∀ (E : String) (ce : Cell) (q9 : Addr) (u : SX) (t : State) (H1 : Heap) (locs1 : List Loc), t.heap = H1 → s.vm.Alike t.vm → px u → BX E u t → H.size ≤ H1.size → (∀ q : Nat, q < H.size → ¬ AX q → H1[q]? = H[q]?) → va_S A0 H0 H1 locs1 → H1[q9]? = some ce → ce.vm = .none → s.vm.findClass E = some ce.cls → vx_W p l e R s m args below meth c H1 locs1 (cells + mc) (slots + ms) Q (F0 m pc ls rest) q9)
    (kk : ∀ (r : UInt64) (u : S) (t : State) (H1 : Heap) (locs1 : List Loc), t.heap = H1 → s.vm.Alike t.vm → post r u → B u t → H.size ≤ H1.size → (∀ q : Nat, q < H.size → ¬ A1 q → H1[q]? = H[q]?) → va_S A0 H0 H1 locs1 → W p l e R s m args below meth c H1 locs1 (cells + mc) (slots + ms) Q (F0 m (pc + 3) ls (.double r :: rest))) : W p l e R s m args below meth c H locs cells slots Q (F0 m pc ls st0) := by
  intro T hT X
  rcases hr T hT X with ⟨v, st₀, t, T', L, h0, X', hL, e1, e2, ⟨⟨r, u, hv, hp, hb⟩, hF⟩, st⟩ | ⟨q, st₀, t, T', L, E, ce, h0, X', hL, e1, e2, ⟨u, hp, hb, hF⟩, hce, hcv, hcl, st⟩
  · cases hv
    obtain ⟨k1, k2, k3⟩ := vx_keep h0 e1 hS hA hf hL hF
    obtain ⟨t2, a1, b1⟩ := kk r u t T'.heap (locs ++ L) e1.symm (by rw [← e2]; exact X'.warmed.alike) hp hb k1 k2 k3 T' rfl X'
    exact ⟨t2, st t2 a1, b1⟩
  · obtain ⟨k1, k2, k3⟩ := vx_keep h0 e1 hS hAX hf hL hF
    obtain ⟨t2, a1, b1⟩ := kx E ce q u t T'.heap (locs ++ L) e1.symm (by rw [← e2]; exact X'.warmed.alike) hp hb k1 k2 k3 (by rw [e1]; exact hce) hcv hcl T' rfl X'
    exact ⟨t2, st.trans a1, b1⟩
theorem vx_callv {S SX : Type} {post : S → Prop} {px : SX → Prop} {B : S → State → Prop} {BX : String → SX → State → Prop} {AX : Nat → Prop} (hr : vx_Run p l e R s m args below meth c H locs cells slots mc ms (F0 m pc ls st0) rest (va_Qv post B A1 a) (vx_X px BX AX) free) (hS : va_S A0 H0 H locs) (hA : ∀ q, q < H.size → A1 q → A0 q) (hf : ∀ q, free q → A0 q) (hAX : ∀ q, q < H.size → AX q → A0 q)
    (kx : ∀ (E : String) (ce : Cell) (q9 : Addr) (u : SX) (t : State) (H1 : Heap) (locs1 : List Loc), t.heap = H1 → s.vm.Alike t.vm → px u → BX E u t → H.size ≤ H1.size → (∀ q : Nat, q < H.size → ¬ AX q → H1[q]? = H[q]?) → va_S A0 H0 H1 locs1 → H1[q9]? = some ce → ce.vm = .none → s.vm.findClass E = some ce.cls → vx_W p l e R s m args below meth c H1 locs1 (cells + mc) (slots + ms) Q (F0 m pc ls rest) q9)
    (kk : ∀ (u : S) (t : State) (H1 : Heap) (locs1 : List Loc), t.heap = H1 → s.vm.Alike t.vm → post u → B u t → H.size ≤ H1.size → (∀ q : Nat, q < H.size → ¬ A1 q → H1[q]? = H[q]?) → va_S A0 H0 H1 locs1 → W p l e R s m args below meth c H1 locs1 (cells + mc) (slots + ms) Q (F0 m (pc + 3) ls (rest))) : W p l e R s m args below meth c H locs cells slots Q (F0 m pc ls st0) := by
  intro T hT X
  rcases hr T hT X with ⟨v, st₀, t, T', L, h0, X', hL, e1, e2, ⟨⟨u, hv, hp, hb⟩, hF⟩, st⟩ | ⟨q, st₀, t, T', L, E, ce, h0, X', hL, e1, e2, ⟨u, hp, hb, hF⟩, hce, hcv, hcl, st⟩
  · cases hv
    obtain ⟨k1, k2, k3⟩ := vx_keep h0 e1 hS hA hf hL hF
    obtain ⟨t2, a1, b1⟩ := kk u t T'.heap (locs ++ L) e1.symm (by rw [← e2]; exact X'.warmed.alike) hp hb k1 k2 k3 T' rfl X'
    exact ⟨t2, st t2 a1, b1⟩
  · obtain ⟨k1, k2, k3⟩ := vx_keep h0 e1 hS hAX hf hL hF
    obtain ⟨t2, a1, b1⟩ := kx E ce q u t T'.heap (locs ++ L) e1.symm (by rw [← e2]; exact X'.warmed.alike) hp hb k1 k2 k3 (by rw [e1]; exact hce) hcv hcl T' rfl X'
    exact ⟨t2, st.trans a1, b1⟩
/-- caught by the row x of this method's table; the rows ahead don't take it -/
theorem vx_catch {own name : String} {E : String} {ce : Cell} {q : Addr} (hown : s.vm.findClass own = some m.cls) (pre : List ExceptionTableEntry) (x : ExceptionTableEntry) (suf : List ExceptionTableEntry) (hsplit : c.exceptionTable.toList = pre ++ x :: suf)
    (hpass : ∀ z ∈ pre, covers z pc = false ∨ (z.catchType ≠ 0 ∧ ∃ nm : String, (Cond.classLink own z.catchType nm).before args s = true ∧ va_Nc E nm s)) (hx : covers x pc = true) (h0 : x.catchType ≠ 0)
    (hlink : (Cond.classLink own x.catchType name).before args s = true) (hcast : (Cond.castable E name).before args s = true) (hcell : H[q]? = some ce) (hv : ce.vm = .none) (hcl : s.vm.findClass E = some ce.cls)
    (kk : W p l e R s m args below meth c H locs cells slots Q (F0 m x.handlerPc ls [.ref q])) : vx_W p l e R s m args below meth c H locs cells slots Q (F0 m pc ls rest) q := by
  intro T hT X
  have hpl : e.platform.magicAccessors = ({} : Platform).magicAccessors := by rw [X.admits.platform]
  obtain ⟨c3, c4, hc3, hc4, hasg⟩ := Cond.castable_spec hcast
  cases Option.some.inj (hc3.symm.trans hcl)
  obtain ⟨c5, hc5, hcl5⟩ := Cond.classLink_spec hown hlink e.platform hpl
  cases Option.some.inj (hc4.symm.trans hc5)
  obtain ⟨vm', X', st⟩ := X.thenCaughtThrough q (g := F0 m pc ls rest) rfl (Steps.refl _) (by rw [hT]; exact hcell) (by rw [hv]; rfl) (by obtain ⟨k9, h9, -⟩ := Vm.findClass_spec hcl; exact ⟨k9, h9⟩) pre x suf hsplit
    (fun z hz => by
      rcases hpass z hz with h | ⟨hz0, nm, hl1, hn1⟩
      · exact Or.inl h
      · obtain ⟨c6, hc6, hcl6⟩ := Cond.classLink_spec hown hl1 e.platform hpl
        obtain ⟨a8, b8, h1, h2, h3⟩ := hn1
        cases Option.some.inj (h1.symm.trans hcl)
        cases Option.some.inj (h2.symm.trans hc6)
        exact Or.inr ⟨hz0, _, hcl6, h3⟩) hx (Or.inr ⟨h0, c4, hcl5, hasg⟩)
  obtain ⟨t, a1, b1⟩ := kk (T.setVm vm') hT X'
  exact ⟨t, st.trans a1, b1⟩
end Rows
section Ends
variable {p : Program} {l : Launch} {e : Env} {R : Room} {s : State} {m : MethodId} {args : Array Value} {below : List Frame} {meth : Method} {c : Code} {H : Heap} {locs : List Loc} {cells slots : Nat} {Q : State → Prop}
variable {mc ms : Nat} {free : Addr → Prop} {A0 A1 : Nat → Prop} {H0 : Heap} {a : Array Value} {ls : Array Slot} {st0 rest : List Value}
variable {Qc : Array Value → State → Outcome → State → Prop} {XC : String → State → State → Prop}
/-- what a body that may throw owes at its end -/
def vx_MQ (below : List Frame) (Qc : Array Value → State → Outcome → State → Prop) (XC : String → State → State → Prop) (a : Array Value) (s : State) (mc ms : Nat) (free : Addr → Prop) : State → Prop := fun t =>
  ∃ o, t.status = .running ∧ Ended t below o ∧ vx_Q Qc XC mc ms free a s o t
theorem vx_ret {g : JFrame} {mc ms : Nat} (k : W p l e R s m args below meth c H locs cells slots (MQ below Qc args s mc ms free) g) : W p l e R s m args below meth c H locs cells slots (vx_MQ below Qc XC args s mc ms free) g := by
  intro T hT X
  obtain ⟨t, a1, o, b1, b2, b3, b4⟩ := k T hT X
  exact ⟨t, a1, o, b1, b2, Or.inl ⟨b3, b4⟩⟩
/-- not caught here: it goes on to the caller -/
theorem vx_widen {g : JFrame} {q : Addr} {k n : Nat} (h1 : cells ≤ k) (h2 : slots ≤ n) (kk : vx_W p l e R s m args below meth c H locs k n Q g q) : vx_W p l e R s m args below meth c H locs cells slots Q g q := fun T hT X => kk T hT (stand_widen X h1 h2)
theorem vx_out {pc : Nat} {E : String} {ce : Cell} {q : Addr} {mc ms : Nat} (hout : ∀ x ∈ c.exceptionTable.toList, covers x pc = false) (hlocks : meth.locks = false) (hcell : H[q]? = some ce) (hv : ce.vm = .none) (hcl : s.vm.findClass E = some ce.cls)
    (hx : ∀ t : State, t.heap = H → s.vm.Alike t.vm → XC E s t) (hf : ∀ z ∈ locs, free z.base) (hc : cells ≤ mc) (hs : slots ≤ ms) :
    vx_W p l e R s m args below meth c H locs cells slots (vx_MQ below Qc XC args s mc ms free) (F0 m pc ls rest) q := by
  intro T hT X
  obtain ⟨st1, hrun, hend, hW, hsm⟩ := X.leaveThrown q (g := F0 m pc ls rest) rfl rfl rfl hout hlocks
  have hcell9 : (T.setFrames (.throwing q :: below)).heap[q]? = some ce := by
    show T.heap[q]? = some ce
    rw [hT]; exact hcell
  exact ⟨_, st1, .threw q, hrun, hend, Or.inr ⟨q, rfl, E, ce, locs, hx _ hT hW.alike, hcell9, hv, hcl, hW, hsm.mono hc hs, hf⟩⟩
theorem vx_frame {U : State} {k n : Nat} (h : s.sameButNew ({ U with vm := s.vm } : State) locs k n) : s.heap.size ≤ U.heap.size ∧ ∀ q : Nat, q < s.heap.size → (∀ z ∈ locs, z.base ≠ q) → U.heap[q]? = s.heap[q]? := by
  obtain ⟨-, h2, -, -, -, h6⟩ := h
  refine ⟨h2, fun q hq hz => ?_⟩
  obtain ⟨c9, e1, e2, e3, e4⟩ := h6 q _ (Array.getElem?_eq_getElem hq)
  have hs : c9.slots = (s.heap[q]).slots := Array.ext_getElem? fun i => e4 i fun hm => hz _ hm rfl
  have h9 : c9 = s.heap[q] := by
    rw [hs] at e2
    exact e2
  have e5 : U.heap[q]? = some c9 := e1
  rw [e5, h9, Array.getElem?_eq_getElem hq]
/-- the words of a throw but the four that speak of the heap -/
def vx_no (w : Cond) : Bool := decide (w ≠ .isRef (.static Bundle.tN "UNASSIGNED_STACK" Bundle.steD)) && decide (w ≠ .isRef (.static Bundle.tN "SUPPRESSED_SENTINEL" Bundle.listD)) && decide (w ≠ .laysStatic Bundle.tN "UNASSIGNED_STACK" Bundle.steD) && decide (w ≠ .laysStatic Bundle.tN "SUPPRESSED_SENTINEL" Bundle.listD)
def vx_at0 (own : String) (ic : Nat) (X : String) (names : List String) : List Cond := (Bundle.ownAtoms0 own ic X names).filter vx_no
def vx_atS (own : String) (ic : Nat) (X : String) (names : List String) : List Cond := (Bundle.ownAtoms own ic X names).filter vx_no
/-- a word that the tables alone decide, or a good one -/
def vx_ot (w : Cond) : Bool := w.onTables || goodWord w
theorem vx_ot_at {args a' : Array Value} {s U : State} {w : Cond} (hW : s.WarmedH U.vm) (hvm : s.vm = U.vm) (hg : vx_ot w = true) (h : w.before args s = true) : w.before a' U = true := by
  simp only [vx_ot, Bool.or_eq_true] at hg
  rcases hg with hg | hg
  · exact va_tabs hg hvm h
  · exact word_at hW (good_of_word hg) h
/-- a list's words: the good ones out of the method's own list, the others by premises of their own -/
theorem vx_hat {args : Array Value} {s : State} {L B : List Cond} (h1 : ∀ w ∈ L.filter goodWord, w.before args s = true) (h2 : ∀ w ∈ L.filter (fun w => !goodWord w), w ∈ B) (h3 : ∀ w ∈ B, w.before args s = true) : ∀ w ∈ L, w.before args s = true := by
  intro w hw
  by_cases g : goodWord w = true
  · exact h1 w (List.mem_filter.mpr ⟨hw, g⟩)
  · refine h3 w (h2 w (List.mem_filter.mpr ⟨hw, ?_⟩))
    show (!goodWord w) = true
    cases hgw : goodWord w
    · rfl
    · exact absurd hgw g
theorem vx_c {args : Array Value} {s : State} {w : Cond} {B : List Cond} (h : w.before args s = true) (t : ∀ w ∈ B, w.before args s = true) : ∀ w' ∈ w :: B, w'.before args s = true := fun w' h' => (List.mem_cons.mp h').elim (fun e => by rw [e]; exact h) (t w')
theorem vx_n {args : Array Value} {s : State} : ∀ w ∈ ([] : List Cond), w.before args s = true := fun _ h => nomatch h
theorem vx_own {args : Array Value} {s : State} {L : List Cond} (h1 : ∀ w ∈ L.filter vx_no, w.before args s = true)
    (hU : (Cond.isRef (.static Bundle.tN "UNASSIGNED_STACK" Bundle.steD)).before args s = true) (hN : (Cond.isRef (.static Bundle.tN "SUPPRESSED_SENTINEL" Bundle.listD)).before args s = true)
    (lU : (Cond.laysStatic Bundle.tN "UNASSIGNED_STACK" Bundle.steD).before args s = true) (lN : (Cond.laysStatic Bundle.tN "SUPPRESSED_SENTINEL" Bundle.listD).before args s = true) : ∀ w ∈ L, w.before args s = true := by
  intro w hw
  by_cases e1 : w = .isRef (.static Bundle.tN "UNASSIGNED_STACK" Bundle.steD)
  · rw [e1]; exact hU
  · by_cases e2 : w = .isRef (.static Bundle.tN "SUPPRESSED_SENTINEL" Bundle.listD)
    · rw [e2]; exact hN
    · by_cases e3 : w = .laysStatic Bundle.tN "UNASSIGNED_STACK" Bundle.steD
      · rw [e3]; exact lU
      · by_cases e4 : w = .laysStatic Bundle.tN "SUPPRESSED_SENTINEL" Bundle.listD
        · rw [e4]; exact lN
        · exact h1 w (List.mem_filter.mpr ⟨hw, by unfold vx_no; rw [decide_eq_true e1, decide_eq_true e2, decide_eq_true e3, decide_eq_true e4]; rfl⟩)
/-- where a static field lies, its class's statics cell in H -/
def vx_L (C n d : String) (A : Nat → Prop) (U : State) (H : Heap) : Prop := ∃ (c : ClassId) (k : Class) (i : Nat) (f : Field) (a : Nat) (cell : Cell), U.vm.findClass C = some c ∧ U.fieldFound? C n d = some (c, k, i, f) ∧ f.isStatic = true ∧ k.statics = some a ∧ H[a]? = some cell ∧ cell.vm.isStatics = true ∧ cell.cls = c ∧ f.slot < cell.slots.size ∧ k.staticTypes[f.slot]? = some f.type ∧ ¬ A a
theorem vx_L.moved {C n d : String} {A : Nat → Prop} {u U : State} {H : Heap} (hvm : u.vm.Alike U.vm) (h : vx_L C n d A u H) : vx_L C n d A U H := by
  obtain ⟨c, k, i, f, a, cell, h1, h2, h3, h4, h5, h6, h7, h8, h9, h10⟩ := h
  obtain ⟨k', hi', he⟩ := State.fieldFound?_setVm hvm h2
  exact ⟨c, k', i, f, a, cell, by rw [hvm.findClass]; exact h1, hi', h3, by rw [he]; exact h4, h5, h6, h7, h8, by rw [he]; exact h9, h10⟩
theorem vx_L.kept {C n d : String} {A : Nat → Prop} {U : State} {H H1 : Heap} (h : vx_L C n d A U H) (hq : ∀ a : Nat, a < H.size → ¬ A a → H1[a]? = H[a]?) : vx_L C n d A U H1 := by
  obtain ⟨c, k, i, f, a, cell, h1, h2, h3, h4, h5, h6, h7, h8, h9, h10⟩ := h
  exact ⟨c, k, i, f, a, cell, h1, h2, h3, h4, by rw [hq a (Array.getElem?_eq_some_iff.mp h5).1 h10]; exact h5, h6, h7, h8, h9, h10⟩
theorem vx_L.narrow {C n d : String} {A B : Nat → Prop} {U : State} {H : Heap} (h : vx_L C n d A U H) (hAB : ∀ q, B q → A q) : vx_L C n d B U H := by
  obtain ⟨c, k, i, f, a, cell, h1, h2, h3, h4, h5, h6, h7, h8, h9, h10⟩ := h
  exact ⟨c, k, i, f, a, cell, h1, h2, h3, h4, h5, h6, h7, h8, h9, fun z => h10 (hAB _ z)⟩
theorem vx_L.word {C n d : String} {A : Nat → Prop} {s : State} {args : Array Value} (h : vx_L C n d A s s.heap) : (Cond.laysStatic C n d).before args s = true := by
  obtain ⟨c, k, i, f, a, cell, h1, h2, h3, h4, h5, h6, h7, h8, h9, -⟩ := h
  show (Cond.laysStatic C n d).holds args s none s [] = true
  exact Cond.laysStatic_of h1 h2 h3 h4 h5 h6 h7 h8 h9
/-- .. and what it holds: null or some reference -/
def vx_Zq (C n d : String) (A : Nat → Prop) (U : State) (H : Heap) : Prop := va_Zq C n d A U H ∧ vx_L C n d A U H
theorem vx_Zq.moved {C n d : String} {A : Nat → Prop} {u U : State} {H : Heap} (hvm : u.vm.Alike U.vm) (h : vx_Zq C n d A u H) : vx_Zq C n d A U H := ⟨va_Zq.moved hvm h.1, vx_L.moved hvm h.2⟩
theorem vx_Zq.kept {C n d : String} {A : Nat → Prop} {U : State} {H H1 : Heap} (h : vx_Zq C n d A U H) (hq : ∀ a : Nat, a < H.size → ¬ A a → H1[a]? = H[a]?) : vx_Zq C n d A U H1 := ⟨va_Zq.kept h.1 hq, vx_L.kept h.2 hq⟩
theorem vx_Zq.narrow {C n d : String} {A B : Nat → Prop} {U : State} {H : Heap} (h : vx_Zq C n d A U H) (hAB : ∀ q, B q → A q) : vx_Zq C n d B U H := ⟨va_Zq.narrow h.1 hAB, vx_L.narrow h.2 hAB⟩
theorem vx_Zqof {args : Array Value} {s : State} {C n d : String} {A : Nat → Prop} (hl : (Cond.laysStatic C n d).before args s = true) (hini : (Cond.initialized C).before args s = true) (h : (Cond.isRef (.static C n d)).before args s = true) (hA : ∀ a : Nat, a < s.heap.size → ¬ A a) : vx_Zq C n d A s s.heap := by
  refine ⟨va_Zqof hl hini h hA, ?_⟩
  obtain ⟨c, k, i, f, a, cell, h1, h2, h3, h4, h5, h6, h7, h8, h9⟩ := Cond.laysStatic_spec hl
  exact ⟨c, k, i, f, a, cell, h1, h2, h3, h4, h5, h6, h7, h8, h9, hA a (Array.getElem?_eq_some_iff.mp h5).1⟩
theorem vx_isRef {C n d : String} {v : Value} {A : Nat → Prop} {s : State} {args : Array Value} (h : va_Z C n d v A s s.heap) (hv : v.isRef = true) : (Cond.isRef (.static C n d)).before args s = true := by
  obtain ⟨cf, kf, fi, f, a, cell, h1, h2, h3, h4, h5, h6, h7, -⟩ := h
  have he : (Term.static C n d).eval args s none [] s = some v := by
    simp [Term.eval, State.fieldNamed?, h1, h2, h4, h5, h6, h7]
  simp only [Cond.before, Cond.holds, Cond.value, he]
  cases v <;> simp_all [Value.isRef]
theorem vx_isRefq {C n d : String} {A : Nat → Prop} {s : State} {args : Array Value} (h : va_Zq C n d A s s.heap) : (Cond.isRef (.static C n d)).before args s = true := by
  rcases h with h | ⟨t, h⟩
  · exact vx_isRef h rfl
  · exact vx_isRef h rfl
/-- the same frame, seen from here: as if the method were called anew in this heap -/
theorem vx_rebase {T : State} (X : Stand p l e R s m args below meth c T locs cells slots) {R' : Room} (hf : R'.frames ≤ R.frames) (hl : R'.locals ≤ R.locals) (hc : cells + R'.cells ≤ R.cells) (hs : slots + R'.slots ≤ R.slots) :
    Stand p l e R' ((T.setVm s.vm).setFrames (.invoking m args :: below)) m args below meth c T [] 0 0 := by
  have htop : (T.setVm s.vm).topJava?.isSome := X.here.top
  have hF : ((T.setVm s.vm).setFrames (.invoking m args :: below)).frames = .invoking m args :: below := State.frames_setFrames _ (State.cur_lt_of_top htop)
  obtain ⟨g₀, hg0⟩ := Option.isSome_iff_exists.mp htop
  obtain ⟨r, hr⟩ := State.topJava?_eq_some.mp hg0
  have hl9 : e.platform.stackLimits (T.setVm s.vm).me = e.platform.stackLimits s.me := X.limits
  have hb9 : (T.setVm s.vm).me.stackBytes = s.me.stackBytes := X.bytes
  refine ⟨X.admits, X.cas, X.clock, hF, ?_, X.hears, X.method, X.code, X.here, X.tail, X.warmed, ?_, ?_, ?_⟩
  · have h := X.room
    have hU : ((T.setVm s.vm).setFrames (.invoking m args :: below)).localsInUse = s.localsInUse := by
      rw [State.localsInUse_invoking hF (meth := meth) (c := c) X.method X.code, State.localsInUse_invoking X.frames X.method X.code]
    simp only [State.hasRoom, Bool.and_eq_true, decide_eq_true_eq] at h ⊢
    obtain ⟨⟨⟨⟨h1, h2, h3, h4, h5, h6⟩, h7⟩, h8⟩, h9⟩ := h
    rw [X.frames, List.length_cons] at h2 h3
    have q1 := X.heapSize
    have q2 := X.used
    simp only [hF, hU, List.length_cons, State.stackLimits_setFrames, State.stackBytes_setFrames, hl9, hb9]
    refine ⟨⟨⟨⟨by omega, by omega, by omega, by omega, by omega, h6⟩, ?_⟩, ?_⟩, X.book⟩
    · show T.heap.size + R'.cells ≤ e.platform.maxCells
      omega
    · show T.slotsUsed + R'.slots ≤ e.platform.maxSlots
      omega
  · rw [State.stackLimits_setFrames]; rfl
  · rw [State.stackBytes_setFrames]; rfl
  · refine ⟨?_, Nat.le_refl _, Nat.le_refl _, ?_, ?_, fun a c9 h9 => ⟨c9, h9, rfl, rfl, fun _ _ => rfl⟩⟩
    · obtain ⟨t, ht, -⟩ := State.frames_cons hr
      show T.setVm s.vm = { ((T.setVm s.vm).setFrames (.invoking m args :: below)).setFrames (T.setVm s.vm).frames with heap := T.heap, slotsUsed := T.slotsUsed }
      rw [State.setFrames_setFrames, State.setFrames_self ht]
      rfl
    · show T.slotsUsed = T.slotsUsed + ((T.heap.toList.drop T.heap.size).map (·.slots.size)).sum
      rw [List.drop_eq_nil_of_le (Nat.le_of_eq Array.length_toList)]
      rfl
    · show ((T.heap.toList.drop T.heap.size).map (·.slots.size)).sum ≤ 0
      rw [List.drop_eq_nil_of_le (Nat.le_of_eq Array.length_toList)]
      exact Nat.le_refl _
/-- 'throw new E()': new; dup; invokespecial; athrow -/
theorem vx_throw0 {cc : ByteArray} {pc : Nat} (hexec : p.tables.exec = Jvm.exec) (hb : c.code = cc) (hl : l.stackTraces = false) {own cls : String} {names : List String} {ik ic mc ms : Nat} {A : Nat → Prop}
    (hown : s.vm.findClass own = some m.cls) (hcls : Bundle.fit cls = true) (hnames : ∀ n ∈ names, Bundle.fit n = true)
    (hk : (Cond.classLink own ik cls).before args s = true) (hini : (Cond.initialized cls).before args s = true) (hat : ∀ w ∈ vx_at0 own ic cls names, w.before args s = true)
    (hgood : ∀ w ∈ Cond.classLink own ik cls :: Cond.initialized cls :: vx_at0 own ic cls names, vx_ot w = true)
    (hU : vx_Zq Bundle.tN "UNASSIGNED_STACK" Bundle.steD A s s.heap) (hN : vx_Zq Bundle.tN "SUPPRESSED_SENTINEL" Bundle.listD A s s.heap) (hS : va_S A s.heap H locs) (hsize : ls.size = c.maxLocals)
    (d0 : decode cc pc = .ok (.new ik, 3)) (d3 : decode cc (pc + 3) = .ok (.dup, 1)) (d4 : decode cc (pc + 4) = .ok (.invokespecial ic, 3)) (d7 : decode cc (pc + 7) = .ok (.athrow, 1))
    (hout : ∀ x ∈ c.exceptionTable.toList, covers x (pc + 7) = false)
    (hRframes : names.length + 3 < R.frames) (hRlocals : (rest.map fun v => v.category).sum + (13 * (names.length + 1) + 42) ≤ R.locals) (hRcells : cells + 1 ≤ R.cells) (hRslots : slots + 6 ≤ R.slots) (hlocks : meth.locks = false)
    (hx : ∀ t : State, s.vm.Alike t.vm → H.size ≤ t.heap.size → (∀ q : Nat, q < H.size → t.heap[q]? = H[q]?) → XC cls s t)
    (hf : ∀ z ∈ locs, free z.base) (hc : cells + 1 ≤ mc) (hs : slots + 6 ≤ ms) :
    W p l e R s m args below meth c H locs cells slots (vx_MQ below Qc XC args s mc ms free) (F0 m pc ls rest) := by
  intro T hT X
  have htr : e.platform.stackTraces = false := (show e.platform.stackTraces = l.stackTraces by rw [X.admits.platform]).trans hl
  have Y := vx_rebase X (R' := { frames := R.frames, locals := R.locals, cells := 1, slots := 6 }) (Nat.le_refl _) (Nat.le_refl _) hRcells hRslots
  obtain ⟨s', hA⟩ : ∃ z, z = (T.setVm s.vm).setFrames (.invoking m args :: below) := ⟨_, rfl⟩
  rw [← hA] at Y
  have hvm : s'.vm = s.vm := by rw [hA]; rfl
  have hhp : s'.heap = H := by rw [hA]; exact hT
  have hW0 : s.WarmedH s'.vm := by rw [hvm]; exact State.WarmedH.refl s
  have hat' : ∀ w ∈ vx_at0 own ic cls names, w.before args s' = true := fun w hw => vx_ot_at hW0 hvm.symm (hgood w (List.mem_cons_of_mem _ (List.mem_cons_of_mem _ hw))) (hat w hw)
  have hk' : (Cond.classLink own ik cls).before args s' = true := vx_ot_at hW0 hvm.symm (hgood _ List.mem_cons_self) hk
  have hini' : (Cond.initialized cls).before args s' = true := vx_ot_at hW0 hvm.symm (hgood _ (List.mem_cons_of_mem _ List.mem_cons_self)) hini
  have hU' : vx_Zq Bundle.tN "UNASSIGNED_STACK" Bundle.steD A s' s'.heap := by rw [hhp]; exact vx_Zq.moved hW0.alike (hU.kept hS.2.1)
  have hN' : vx_Zq Bundle.tN "SUPPRESSED_SENTINEL" Bundle.listD A s' s'.heap := by rw [hhp]; exact vx_Zq.moved hW0.alike (hN.kept hS.2.1)
  have h : ∀ w ∈ Bundle.ownAtoms0 own ic cls names, w.before args s' = true := vx_own hat' (vx_isRefq hU'.1) (vx_isRefq hN'.1) hU'.2.word hN'.2.word
  have hown' : s'.vm.findClass own = some m.cls := by rw [hvm]; exact hown
  have hins : (Cond.instantiable cls 6).before args s' = true := h _ (by simp [Bundle.ownAtoms0])
  obtain ⟨vm₁, cX, kX, hfX, hkX, -, -, X₁, st1⟩ := Y.newCold hexec (own := own) (C := cls) (index := ik) (n := 6) hown' hk' hins hini'
    (g := F0 m pc ls rest) rfl (by rw [hb]; exact d0) (Nat.le_refl _) (Nat.le_refl _)
  generalize hT1 : (T.setVm vm₁).pushCell { cls := cX, slots := kX.instanceTypes.map defaultValue, vm := .none } = T1 at X₁ st1
  have hcat : (Value.ref T.heap.size).category = 1 := rfl
  have hcellA : T1.heap[T.heap.size]? = some (freshCell cX kX) := by rw [← hT1]; exact State.heap_pushCell_size _ _
  have d3' : decode c.code (pc + 3) = .ok (.dup, 1) := by rw [hb]; exact d3
  obtain ⟨U, hsteps, hrun, hend, hW, hsame, ce, hce, hO⟩ := X₁.ctorThrow0 hexec htr (own := own) (cls := cls) (names := names) (ic := ic) hown' hcls hnames h (fun x hx => nomatch hx) hfX hkX hcellA (by rw [hhp, hT]; exact Nat.le_refl _)
    (g := { method := m, pc := pc + 4, locals := ls, stack := .ref T.heap.size :: .ref T.heap.size :: rest, locked := none }) rfl hsize rfl rfl (rest := rest) rfl
    (by rw [hb]; exact d4) (by rw [hb]; exact d7) hout hRframes (by simp only [List.map_cons, List.sum_cons, hcat]; omega) hlocks
  obtain ⟨f1, f2⟩ := vx_frame hsame
  rw [hhp] at f1 f2
  have hWs : s.WarmedH U.vm := State.WarmedH.trans hW0 hW
  have hcl : s.vm.findClass cls = some ce.cls := by
    have h9 := hO.cls
    rw [hvm] at h9
    exact h9
  have hall : s.sameButNew ({ U with vm := s.vm } : State) locs mc ms := by
    subst hA
    obtain ⟨e1, e2⟩ := hsame
    rw [State.setFrames_setFrames] at e1
    have h2 : (T.setVm s.vm).sameButNew ({ U with vm := s.vm } : State) [] (0 + 1) (0 + 6) := ⟨e1, e2⟩
    have h3 := X.same.trans h2
    rw [List.append_nil] at h3
    exact h3.mono hc hs
  refine ⟨U, ?_, .threw T.heap.size, hrun, hend, Or.inr ⟨T.heap.size, rfl, cls, ce, locs, hx U hWs.alike f1 (fun q hq => f2 q hq (fun z hz => nomatch hz)), hce, hO.vm, hcl, hWs, hall, hf⟩⟩
  refine st1 _ ?_
  show Steps p.tables e below (T1.setTop { method := m, pc := pc + 3, locals := ls, stack := .ref T.heap.size :: rest, locked := none }) _
  jvm_step X₁.here [X₁.here.top, hexec, d3', Value.category]
  exact hsteps
/-- 'throw new E("text")': new; dup; ldc; invokespecial; athrow -/
theorem vx_throwS {cc : ByteArray} {pc : Nat} (hexec : p.tables.exec = Jvm.exec) (hb : c.code = cc) (hl : l.stackTraces = false) {own cls text : String} {names : List String} {ik is ic mc ms sa : Nat} {A : Nat → Prop}
    (hown : s.vm.findClass own = some m.cls) (hcls : Bundle.fit cls = true) (hnames : ∀ n ∈ names, Bundle.fit n = true)
    (hk : (Cond.classLink own ik cls).before args s = true) (hini : (Cond.initialized cls).before args s = true) (hstr : vk_R own is text sa s) (hat : ∀ w ∈ vx_atS own ic cls names, w.before args s = true)
    (hgood : ∀ w ∈ Cond.classLink own ik cls :: Cond.initialized cls :: vx_atS own ic cls names, vx_ot w = true)
    (hU : vx_Zq Bundle.tN "UNASSIGNED_STACK" Bundle.steD A s s.heap) (hN : vx_Zq Bundle.tN "SUPPRESSED_SENTINEL" Bundle.listD A s s.heap) (hS : va_S A s.heap H locs) (hsize : ls.size = c.maxLocals)
    (d0 : decode cc pc = .ok (.new ik, 3)) (d3 : decode cc (pc + 3) = .ok (.dup, 1)) (d4 : decode cc (pc + 4) = .ok (.ldc is, 2)) (d6 : decode cc (pc + 6) = .ok (.invokespecial ic, 3)) (d9 : decode cc (pc + 9) = .ok (.athrow, 1))
    (hout : ∀ x ∈ c.exceptionTable.toList, covers x (pc + 9) = false)
    (hRframes : names.length + 3 < R.frames) (hRlocals : (rest.map fun v => v.category).sum + (13 * (names.length + 1) + 43) ≤ R.locals) (hRcells : cells + 1 ≤ R.cells) (hRslots : slots + 6 ≤ R.slots) (hlocks : meth.locks = false)
    (hx : ∀ t : State, s.vm.Alike t.vm → H.size ≤ t.heap.size → (∀ q : Nat, q < H.size → t.heap[q]? = H[q]?) → XC cls s t)
    (hf : ∀ z ∈ locs, free z.base) (hc : cells + 1 ≤ mc) (hs : slots + 6 ≤ ms) :
    W p l e R s m args below meth c H locs cells slots (vx_MQ below Qc XC args s mc ms free) (F0 m pc ls rest) := by
  intro T hT X
  have htr : e.platform.stackTraces = false := (show e.platform.stackTraces = l.stackTraces by rw [X.admits.platform]).trans hl
  have Y := vx_rebase X (R' := { frames := R.frames, locals := R.locals, cells := 1, slots := 6 }) (Nat.le_refl _) (Nat.le_refl _) hRcells hRslots
  obtain ⟨s', hA⟩ : ∃ z, z = (T.setVm s.vm).setFrames (.invoking m args :: below) := ⟨_, rfl⟩
  rw [← hA] at Y
  have hvm : s'.vm = s.vm := by rw [hA]; rfl
  have hhp : s'.heap = H := by rw [hA]; exact hT
  have hW0 : s.WarmedH s'.vm := by rw [hvm]; exact State.WarmedH.refl s
  have hat' : ∀ w ∈ vx_atS own ic cls names, w.before args s' = true := fun w hw => vx_ot_at hW0 hvm.symm (hgood w (List.mem_cons_of_mem _ (List.mem_cons_of_mem _ hw))) (hat w hw)
  have hk' : (Cond.classLink own ik cls).before args s' = true := vx_ot_at hW0 hvm.symm (hgood _ List.mem_cons_self) hk
  have hini' : (Cond.initialized cls).before args s' = true := vx_ot_at hW0 hvm.symm (hgood _ (List.mem_cons_of_mem _ List.mem_cons_self)) hini
  have hU' : vx_Zq Bundle.tN "UNASSIGNED_STACK" Bundle.steD A s' s'.heap := by rw [hhp]; exact vx_Zq.moved hW0.alike (hU.kept hS.2.1)
  have hN' : vx_Zq Bundle.tN "SUPPRESSED_SENTINEL" Bundle.listD A s' s'.heap := by rw [hhp]; exact vx_Zq.moved hW0.alike (hN.kept hS.2.1)
  have h : ∀ w ∈ Bundle.ownAtoms own ic cls names, w.before args s' = true := vx_own hat' (vx_isRefq hU'.1) (vx_isRefq hN'.1) hU'.2.word hN'.2.word
  have hown' : s'.vm.findClass own = some m.cls := by rw [hvm]; exact hown
  have hins : (Cond.instantiable cls 6).before args s' = true := h _ (by simp [Bundle.ownAtoms])
  obtain ⟨vm₁, cX, kX, hfX, hkX, -, -, X₁, st1⟩ := Y.newCold hexec (own := own) (C := cls) (index := ik) (n := 6) hown' hk' hins hini'
    (g := F0 m pc ls rest) rfl (by rw [hb]; exact d0) (Nat.le_refl _) (Nat.le_refl _)
  generalize hT1 : (T.setVm vm₁).pushCell { cls := cX, slots := kX.instanceTypes.map defaultValue, vm := .none } = T1 at X₁ st1
  have hcat : (Value.ref T.heap.size).category = 1 := rfl
  have hcellA : T1.heap[T.heap.size]? = some (freshCell cX kX) := by rw [← hT1]; exact State.heap_pushCell_size _ _
  have d3' : decode c.code (pc + 3) = .ok (.dup, 1) := by rw [hb]; exact d3
  have d4' : decode c.code (pc + 4) = .ok (.ldc is, 2) := by rw [hb]; exact d4
  have hstr' : vk_R own is text sa s' := vk_R.warm hW0 hstr
  obtain ⟨U, hsteps, hrun, hend, hW, hsame, ce, hce, hO⟩ := X₁.ctorThrowS hexec htr (own := own) (cls := cls) (names := names) (ic := ic) hown' hcls hnames h (fun x hx => nomatch hx) hfX hkX hcellA (by rw [hhp, hT]; exact Nat.le_refl _) (msg := .ref sa) rfl
    (g := { method := m, pc := pc + 6, locals := ls, stack := .ref sa :: .ref T.heap.size :: .ref T.heap.size :: rest, locked := none }) rfl hsize rfl rfl (rest := rest) rfl
    (by rw [hb]; exact d6) (by rw [hb]; exact d9) hout hRframes (by simp only [List.map_cons, List.sum_cons, hcat]; omega) hlocks
  obtain ⟨f1, f2⟩ := vx_frame hsame
  rw [hhp] at f1 f2
  have hWs : s.WarmedH U.vm := State.WarmedH.trans hW0 hW
  have hcl : s.vm.findClass cls = some ce.cls := by
    have h9 := hO.cls
    rw [hvm] at h9
    exact h9
  have hall : s.sameButNew ({ U with vm := s.vm } : State) locs mc ms := by
    subst hA
    obtain ⟨e1, e2⟩ := hsame
    rw [State.setFrames_setFrames] at e1
    have h2 : (T.setVm s.vm).sameButNew ({ U with vm := s.vm } : State) [] (0 + 1) (0 + 6) := ⟨e1, e2⟩
    have h3 := X.same.trans h2
    rw [List.append_nil] at h3
    exact h3.mono hc hs
  refine ⟨U, ?_, .threw T.heap.size, hrun, hend, Or.inr ⟨T.heap.size, rfl, cls, ce, locs, hx U hWs.alike f1 (fun q hq => f2 q hq (fun z hz => nomatch hz)), hce, hO.vm, hcl, hWs, hall, hf⟩⟩
  refine st1 _ ?_
  show Steps p.tables e below (T1.setTop { method := m, pc := pc + 3, locals := ls, stack := .ref T.heap.size :: rest, locked := none }) _
  jvm_step X₁.here [X₁.here.top, hexec, d3', Value.category]
  exact X₁.ldcString hexec (own := own) (text := text) (index := is) (a := sa) hown' hstr'.1 hstr'.2
    (g := { method := m, pc := pc + 4, locals := ls, stack := .ref T.heap.size :: .ref T.heap.size :: rest, locked := none }) rfl d4' _ hsteps
/-- 'throw new E("text")', the text by a wide index -/
theorem vx_throwSW {cc : ByteArray} {pc : Nat} (hexec : p.tables.exec = Jvm.exec) (hb : c.code = cc) (hl : l.stackTraces = false) {own cls text : String} {names : List String} {ik is ic mc ms sa : Nat} {A : Nat → Prop}
    (hown : s.vm.findClass own = some m.cls) (hcls : Bundle.fit cls = true) (hnames : ∀ n ∈ names, Bundle.fit n = true)
    (hk : (Cond.classLink own ik cls).before args s = true) (hini : (Cond.initialized cls).before args s = true) (hstr : vk_R own is text sa s) (hat : ∀ w ∈ vx_atS own ic cls names, w.before args s = true)
    (hgood : ∀ w ∈ Cond.classLink own ik cls :: Cond.initialized cls :: vx_atS own ic cls names, vx_ot w = true)
    (hU : vx_Zq Bundle.tN "UNASSIGNED_STACK" Bundle.steD A s s.heap) (hN : vx_Zq Bundle.tN "SUPPRESSED_SENTINEL" Bundle.listD A s s.heap) (hS : va_S A s.heap H locs) (hsize : ls.size = c.maxLocals)
    (d0 : decode cc pc = .ok (.new ik, 3)) (d3 : decode cc (pc + 3) = .ok (.dup, 1)) (d4 : decode cc (pc + 4) = .ok (.ldc_w is, 3)) (d7 : decode cc (pc + 7) = .ok (.invokespecial ic, 3)) (d10 : decode cc (pc + 10) = .ok (.athrow, 1))
    (hout : ∀ x ∈ c.exceptionTable.toList, covers x (pc + 10) = false)
    (hRframes : names.length + 3 < R.frames) (hRlocals : (rest.map fun v => v.category).sum + (13 * (names.length + 1) + 43) ≤ R.locals) (hRcells : cells + 1 ≤ R.cells) (hRslots : slots + 6 ≤ R.slots) (hlocks : meth.locks = false)
    (hx : ∀ t : State, s.vm.Alike t.vm → H.size ≤ t.heap.size → (∀ q : Nat, q < H.size → t.heap[q]? = H[q]?) → XC cls s t)
    (hf : ∀ z ∈ locs, free z.base) (hc : cells + 1 ≤ mc) (hs : slots + 6 ≤ ms) :
    W p l e R s m args below meth c H locs cells slots (vx_MQ below Qc XC args s mc ms free) (F0 m pc ls rest) := by
  intro T hT X
  have htr : e.platform.stackTraces = false := (show e.platform.stackTraces = l.stackTraces by rw [X.admits.platform]).trans hl
  have Y := vx_rebase X (R' := { frames := R.frames, locals := R.locals, cells := 1, slots := 6 }) (Nat.le_refl _) (Nat.le_refl _) hRcells hRslots
  obtain ⟨s', hA⟩ : ∃ z, z = (T.setVm s.vm).setFrames (.invoking m args :: below) := ⟨_, rfl⟩
  rw [← hA] at Y
  have hvm : s'.vm = s.vm := by rw [hA]; rfl
  have hhp : s'.heap = H := by rw [hA]; exact hT
  have hW0 : s.WarmedH s'.vm := by rw [hvm]; exact State.WarmedH.refl s
  have hat' : ∀ w ∈ vx_atS own ic cls names, w.before args s' = true := fun w hw => vx_ot_at hW0 hvm.symm (hgood w (List.mem_cons_of_mem _ (List.mem_cons_of_mem _ hw))) (hat w hw)
  have hk' : (Cond.classLink own ik cls).before args s' = true := vx_ot_at hW0 hvm.symm (hgood _ List.mem_cons_self) hk
  have hini' : (Cond.initialized cls).before args s' = true := vx_ot_at hW0 hvm.symm (hgood _ (List.mem_cons_of_mem _ List.mem_cons_self)) hini
  have hU' : vx_Zq Bundle.tN "UNASSIGNED_STACK" Bundle.steD A s' s'.heap := by rw [hhp]; exact vx_Zq.moved hW0.alike (hU.kept hS.2.1)
  have hN' : vx_Zq Bundle.tN "SUPPRESSED_SENTINEL" Bundle.listD A s' s'.heap := by rw [hhp]; exact vx_Zq.moved hW0.alike (hN.kept hS.2.1)
  have h : ∀ w ∈ Bundle.ownAtoms own ic cls names, w.before args s' = true := vx_own hat' (vx_isRefq hU'.1) (vx_isRefq hN'.1) hU'.2.word hN'.2.word
  have hown' : s'.vm.findClass own = some m.cls := by rw [hvm]; exact hown
  have hins : (Cond.instantiable cls 6).before args s' = true := h _ (by simp [Bundle.ownAtoms])
  obtain ⟨vm₁, cX, kX, hfX, hkX, -, -, X₁, st1⟩ := Y.newCold hexec (own := own) (C := cls) (index := ik) (n := 6) hown' hk' hins hini'
    (g := F0 m pc ls rest) rfl (by rw [hb]; exact d0) (Nat.le_refl _) (Nat.le_refl _)
  generalize hT1 : (T.setVm vm₁).pushCell { cls := cX, slots := kX.instanceTypes.map defaultValue, vm := .none } = T1 at X₁ st1
  have hcat : (Value.ref T.heap.size).category = 1 := rfl
  have hcellA : T1.heap[T.heap.size]? = some (freshCell cX kX) := by rw [← hT1]; exact State.heap_pushCell_size _ _
  have d3' : decode c.code (pc + 3) = .ok (.dup, 1) := by rw [hb]; exact d3
  have d4' : decode c.code (pc + 4) = .ok (.ldc_w is, 3) := by rw [hb]; exact d4
  have hstr' : vk_R own is text sa s' := vk_R.warm hW0 hstr
  obtain ⟨U, hsteps, hrun, hend, hW, hsame, ce, hce, hO⟩ := X₁.ctorThrowS hexec htr (own := own) (cls := cls) (names := names) (ic := ic) hown' hcls hnames h (fun x hx => nomatch hx) hfX hkX hcellA (by rw [hhp, hT]; exact Nat.le_refl _) (msg := .ref sa) rfl
    (g := { method := m, pc := pc + 7, locals := ls, stack := .ref sa :: .ref T.heap.size :: .ref T.heap.size :: rest, locked := none }) rfl hsize rfl rfl (rest := rest) rfl
    (by rw [hb]; exact d7) (by rw [hb]; exact d10) hout hRframes (by simp only [List.map_cons, List.sum_cons, hcat]; omega) hlocks
  obtain ⟨f1, f2⟩ := vx_frame hsame
  rw [hhp] at f1 f2
  have hWs : s.WarmedH U.vm := State.WarmedH.trans hW0 hW
  have hcl : s.vm.findClass cls = some ce.cls := by
    have h9 := hO.cls
    rw [hvm] at h9
    exact h9
  have hall : s.sameButNew ({ U with vm := s.vm } : State) locs mc ms := by
    subst hA
    obtain ⟨e1, e2⟩ := hsame
    rw [State.setFrames_setFrames] at e1
    have h2 : (T.setVm s.vm).sameButNew ({ U with vm := s.vm } : State) [] (0 + 1) (0 + 6) := ⟨e1, e2⟩
    have h3 := X.same.trans h2
    rw [List.append_nil] at h3
    exact h3.mono hc hs
  refine ⟨U, ?_, .threw T.heap.size, hrun, hend, Or.inr ⟨T.heap.size, rfl, cls, ce, locs, hx U hWs.alike f1 (fun q hq => f2 q hq (fun z hz => nomatch hz)), hce, hO.vm, hcl, hWs, hall, hf⟩⟩
  refine st1 _ ?_
  show Steps p.tables e below (T1.setTop { method := m, pc := pc + 3, locals := ls, stack := .ref T.heap.size :: rest, locked := none }) _
  jvm_step X₁.here [X₁.here.top, hexec, d3', Value.category]
  exact X₁.ldcStringW hexec (own := own) (text := text) (index := is) (a := sa) hown' hstr'.1 hstr'.2
    (g := { method := m, pc := pc + 4, locals := ls, stack := .ref T.heap.size :: .ref T.heap.size :: rest, locked := none }) rfl d4' _ hsteps
end Ends
section Bodies
variable {l : Launch}
theorem vx_ofW {y : MethodName} {ws ws' : List Cond} {rm : Room} {Pc : Array Value → State → Prop} {Qc : Array Value → State → Outcome → State → Prop} {XC : String → State → State → Prop} {mc ms : Nat} {free : Addr → Prop} {cc : ByteArray} {maxL : Nat} {ret : Option FieldType}
    (hy : plainName y.cls = true) (hw : ws = Cond.code y cc maxL ret :: ws')
    (body : ∀ p e s m args below meth c s₁, BodyLoose p l y (headSpec ws rm) cc maxL ret e s m args below meth c s₁ → c.maxLocals = maxL → (∀ x ∈ c.exceptionTable.toList, False) → Pc args s →
      W p l e (headSpec ws rm).room s m args below meth c s.heap [] 0 0 (vx_MQ below Qc XC args s mc ms free) (entryFrame m args maxL)) : vx_Met l y ws rm Pc Qc XC mc ms free := by
  refine MetFree.of_bodyS (code := cc) (maxLocals := maxL) (ret := ret) hy ?_ ?_
  · intro args s m h hn
    obtain ⟨meth, c, h1, h2, h3, h4, h5, h6, -, -⟩ := Cond.code_spec hn (atoms_spec (ws := ws) h _ (by rw [hw]; exact List.mem_cons_self))
    exact ⟨meth, c, h1, h2, h3, h4, h5, h6⟩
  · intro p e s m args below meth c s₁ B hml hP _
    have hh0 : s₁.heap = s.heap := by rw [B.state]; rfl
    have ht : ∀ x ∈ c.exceptionTable.toList, False := by
      obtain ⟨meth9, c9, h1, h2, -, -, -, -, h7, -⟩ := Cond.code_spec B.named (atoms_spec (ws := ws) B.pre _ (by rw [hw]; exact List.mem_cons_self))
      cases Option.some.inj (h1.symm.trans B.method)
      cases Option.some.inj (h2.symm.trans (Stand.of_body B).code)
      intro x hx
      rw [Array.isEmpty_iff.mp h7] at hx
      cases hx
    obtain ⟨t, a1, o, b1, b2, b3⟩ := body p e s m args below meth c s₁ B hml ht hP s₁ hh0 (Stand.of_body B)
    exact ⟨t, o, a1, b1, b2, b3⟩
/-- the table of a body with handlers -/
theorem vx_table {p : Program} {x y : MethodName} {S : Spec} {cc bytes : ByteArray} {maxL maxL' : Nat} {ret ret' : Option FieldType} {e : Env} {s s₁ : State} {m : MethodId} {args : Array Value} {below : List Frame} {meth : Method} {c : Code} {hh : List (Nat × Nat × Nat × Nat)}
    (B : BodyLoose p l y S cc maxL ret e s m args below meth c s₁) (h : (Cond.codeWith y bytes maxL' ret' hh).before args s = true) : c.exceptionTable.toList = tableOf hh := by
  obtain ⟨m9, meth9, c9, hn9, h1, h2, -, -, h6, -⟩ := Cond.codeWith_spec h
  cases Option.some.inj (hn9.symm.trans B.named)
  cases Option.some.inj (h1.symm.trans B.method)
  cases Option.some.inj (h2.symm.trans (Stand.of_body B).code)
  rw [← h6, table_eq]
end Bodies
end VXA
/-! ===== END ===== -/
/-! ===== BEGIN a static call of a method with an exception table ===== -/
section VXS
variable {p : Program} {l : Launch} {e : Env} {R : Room} {s : State} {m : MethodId} {args : Array Value} {below : List Frame} {meth : Method} {c : Code} {T : State} {H : Heap} {locs : List Loc} {cells slots : Nat}
abbrev vx_CSW (R : Room) (s : State) (args : Array Value) (own : String) (index : Nat) (y : MethodName) (bytes : ByteArray) (maxL : Nat) (ret : Option FieldType) (hh : List (Nat × Nat × Nat × Nat)) (ws : List Cond) (rm : Room) (mc ms n : Nat) : Prop :=
  (rm.cells = mc ∧ rm.slots = ms ∧ rm.frames + 1 ≤ R.frames ∧ 8 + (maxL + 11) + rm.locals ≤ R.locals ∧ (∀ w ∈ ws, ∀ (a' : Array Value) (U : State), s.WarmedH U.vm → w.before a' U = true) ∧ Cond.codeWith y bytes maxL ret hh ∈ ws) ∧
  (Cond.codeWith y bytes maxL ret hh).before args s = true ∧ (Cond.initialized y.cls).before args s = true ∧ (y.cls ≠ "java/lang/invoke/MethodHandle" ∧ y.cls ≠ "java/lang/invoke/VarHandle") ∧
  (∀ sig, parseMethodDescriptor y.desc = some sig → n = sig.parameters.length) ∧ (Cond.methodLink own index y).before args s = true ∧ (Cond.static y).before args s = true
theorem vx_cwSW {own : String} {index maxL mc ms : Nat} {y : MethodName} {bytes : ByteArray} {ret : Option FieldType} {hh : List (Nat × Nat × Nat × Nat)} {Ts ws ws' : List Cond} {rm : Room} (n : Nat) (ht : ∀ w ∈ Ts, w.before args s = true) (hT : GoodIn Ts (va_wsS own index y ws)) (hw : ws = Cond.codeWith y bytes maxL ret hh :: ws') (hrc : rm.cells = mc) (hrs : rm.slots = ms)
    (hd : y.cls ≠ "java/lang/invoke/MethodHandle" ∧ y.cls ≠ "java/lang/invoke/VarHandle" ∧ (parseMethodDescriptor y.desc).map (fun d => d.parameters.length) = some n) (hR : rm.frames + 1 ≤ R.frames ∧ 8 + (maxL + 11) + rm.locals ≤ R.locals) :
    vx_CSW R s args own index y bytes maxL ret hh ws rm mc ms n := by
  have ok : ∀ w ∈ va_wsS own index y ws, w.before args s = true := fun w h => ht w (hT w h).1
  have hG : GoodIn Ts ws := fun w h => hT w (by unfold va_wsS; exact List.mem_append_right _ h)
  have hc : Cond.codeWith y bytes maxL ret hh ∈ ws := by rw [hw]; exact List.mem_cons_self
  refine ⟨⟨hrc, hrs, hR.1, hR.2, pay_in ht hG, hc⟩, ht _ (hG _ hc).1, ok _ (by simp [va_wsS]), ⟨hd.1, hd.2.1⟩, fun sig h => ?_, ok _ (by simp [va_wsS]), ok _ (by simp [va_wsS])⟩
  have h2 := hd.2.2
  rw [h] at h2
  exact (Option.some.inj h2).symm
theorem vx_callSW (X : Stand p l e R s m args below meth c T locs cells slots) (hexec : p.tables.exec = Jvm.exec) {own : String} {index : Nat} {y : MethodName} {bytes : ByteArray} {maxL : Nat} {ret : Option FieldType} {hh : List (Nat × Nat × Nat × Nat)}
    (hown : s.vm.findClass own = some m.cls) (hlink : (Cond.methodLink own index y).before args s = true) (hstat : (Cond.static y).before args s = true) (hinit : (Cond.initialized y.cls).before args s = true)
    (hcode : (Cond.codeWith y bytes maxL ret hh).before args s = true) (hy : y.cls ≠ "java/lang/invoke/MethodHandle" ∧ y.cls ≠ "java/lang/invoke/VarHandle")
    {W9 : Nat} {Pre : Pt → Array Value → Prop} {Post : Pt → Array Value → Option Value → Pt → Prop} (hK : Back l R p e below s args y 3 W9 Pre Post)
    {g : JFrame} (hg : g.method = m) (hsize : g.locals.size = c.maxLocals) {argsL rest : List Value} (hlen : ∀ sig, parseMethodDescriptor y.desc = some sig → argsL.length = sig.parameters.length)
    (hstack : g.stack = argsL.reverse ++ rest) (hW : 2 * g.monitorRoom + (rest.map fun v => v.category).sum ≤ W9) (hdg : decode c.code g.pc = .ok (.invokestatic index, 3))
    (hpre : ∀ vm₁, s.WarmedH vm₁ → Pre ⟨T.setVm vm₁, locs, cells, slots⟩ argsL.toArray) :
    ∃ (v : Option Value) (vm₁ : Vm) (B : Pt), s.WarmedH vm₁ ∧ Stand p l e R s m args below meth c B.U B.locs B.cells B.slots ∧ Post ⟨T.setVm vm₁, locs, cells, slots⟩ argsL.toArray v B ∧
      ∀ target, Steps p.tables e below (B.U.setTop { g with pc := g.pc + 3, stack := v.toList ++ rest }) target → Steps p.tables e below (T.setTop g) target := by
  obtain ⟨mk, methM, cM, hnamed, hmethM, -, -, -, -, -, -, hsigM⟩ := Cond.codeWith_spec hcode
  have hstatic : methM.isStatic = true := Cond.static_spec hnamed hmethM hstat
  obtain ⟨kP, hkP, -⟩ := className_of_methodNamed hnamed
  have hinitP : kP.init = .initialized := Cond.initialized_spec (findClass_of_methodNamed hnamed) hkP hinit
  obtain ⟨vm₁, X₁, hstep₁⟩ := X.invokestatic hexec hown hlink hnamed hmethM hstatic hkP hinitP hy (g := g) hg (argsL := argsL) (rest := rest) (hlen _ hsigM) hstack hdg
  obtain ⟨v, B, X', hpost, hsteps⟩ := hK m meth c ⟨T.setVm vm₁, locs, cells, slots⟩ { g with stack := rest } (.invokestatic index) mk argsL.toArray X₁ hg hsize hdg hW (X₁.named hnamed) (hpre vm₁ X₁.warmed)
  exact ⟨v, vm₁, B, X₁.warmed, X', hpost, fun target h => hstep₁ _ fun acts => by rw [doInvoke_state]; exact hsteps.trans h⟩
theorem vx_runSW {y : MethodName} {bytes cc : ByteArray} {maxL nL mc ms n index : Nat} {ret : Option FieldType} {hh : List (Nat × Nat × Nat × Nat)} {ws : List Cond} {rm : Room} {Pc : Array Value → State → Prop} {Qc : Array Value → State → Outcome → State → Prop} {free : Addr → Prop} {Ts : List Cond} {own : String} {As rest : List Value} {g : JFrame}
    (S : CallFix p m c cc nL s args Ts own) (hM : Met l y ws rm Pc Qc mc ms free) (cw : vx_CSW R s args own index y bytes maxL ret hh ws rm mc ms n) (hp : PreS s H Pc As)
    (hg : g.method = m) (hn : As.length = n) (hsize : g.locals.size = nL) (hstack : g.stack = As.reverse ++ rest) (hW : 2 * g.monitorRoom + (rest.map fun v => v.category).sum ≤ 8) (hdg : decode cc g.pc = .ok (.invokestatic index, 3)) (hf : cells + mc ≤ R.cells ∧ slots + ms ≤ R.slots) :
    va_Run p l e R s m args below meth c H locs cells slots mc ms g rest (Qc As.toArray) (free) := by
  obtain ⟨⟨hrc, hrs, hfr, hlo, hws, hcw⟩, hcode, hini, hy, hlen, hl, hstt⟩ := cw
  have hK : Back l R p e below s args y 3 8 (PreOf R mc ms Pc) (PostOf Qc mc ms free) := va_backW (hh := hh) (bytes := bytes) (maxL := maxL) (ret := ret) hM hp.1 hrc hrs hfr hlo hws hcw (fun a' U hW => word_at hW (Or.inl (by first | rfl | simp [Cond.onTables, Cond.keeps, Cond.steady])) hini)
  obtain ⟨hx, hb, hml, ho, -⟩ := S
  intro T hT X
  obtain ⟨v, vm₁, ⟨U', l2, c2, s2⟩, hW₁, X', ⟨g', mk, t, L, e1, e2, hq, h1, hL, h2, h3⟩, st⟩ := vx_callSW X hx (hh := hh) (bytes := bytes) (maxL := maxL) (ret := ret) ho hl hstt hini hcode hy hK hg (hsize.trans hml.symm) (argsL := As) (rest := rest) (fun sig h => hn.trans (hlen sig h)) hstack hW (by rw [hb]; exact hdg)
    (fun vm₁ hW₁ => ⟨hf.1, hf.2, hp.2 (T.setVm vm₁) hT hW₁⟩)
  dsimp only [Pt.U, Pt.locs, Pt.cells, Pt.slots] at X' e1 e2 h1 h2 h3 st
  subst h1; subst h2; subst h3
  exact ⟨v, (T.setVm vm₁).calling g' mk As.toArray, t, U', L, hT, X', hL, e1, e2, hq, st⟩
/-- not caught here, past rows that name other classes: it goes on to the caller -/
theorem vx_outP {p : Program} {l : Launch} {e : Env} {R : Room} {s : State} {m : MethodId} {args : Array Value} {below : List Frame} {meth : Method} {c : Code} {H : Heap} {locs : List Loc} {cells slots : Nat} {free : Addr → Prop} {ls : Array Slot} {rest : List Value} {Qc : Array Value → State → Outcome → State → Prop} {XC : String → State → State → Prop}
    {pc : Nat} {own E : String} {ce : Cell} {q : Addr} {mc ms : Nat} (hown : s.vm.findClass own = some m.cls) (hlocks : meth.locks = false)
    (hpass : ∀ z ∈ c.exceptionTable.toList, covers z pc = false ∨ (z.catchType ≠ 0 ∧ ∃ nm : String, (Cond.classLink own z.catchType nm).before args s = true ∧ va_Nc E nm s)) (hcell : H[q]? = some ce) (hv : ce.vm = .none) (hcl : s.vm.findClass E = some ce.cls)
    (hx : ∀ t : State, t.heap = H → s.vm.Alike t.vm → XC E s t) (hf : ∀ z ∈ locs, free z.base) (hc : cells ≤ mc) (hs : slots ≤ ms) :
    vx_W p l e R s m args below meth c H locs cells slots (vx_MQ below Qc XC args s mc ms free) (F0 m pc ls rest) q := by
  intro T hT X
  have hpl : e.platform.magicAccessors = ({} : Platform).magicAccessors := by rw [X.admits.platform]
  obtain ⟨vm', hW', X', st⟩ := X.outThrough hlocks q (g := F0 m pc ls rest) rfl rfl rfl (cell := ce) (by rw [hT]; exact hcell) (by rw [hv]; rfl)
    (by obtain ⟨k9, h9, -⟩ := Vm.findClass_spec hcl; exact ⟨k9, h9⟩) (fun z hz => by
      rcases hpass z hz with h | ⟨hz0, nm, hl1, hn1⟩
      · exact Or.inl h
      · obtain ⟨c6, hc6, hcl6⟩ := Cond.classLink_spec hown hl1 e.platform hpl
        obtain ⟨a8, b8, h1, h2, h3⟩ := hn1
        cases Option.some.inj (h1.symm.trans hcl)
        cases Option.some.inj (h2.symm.trans hc6)
        exact Or.inr ⟨hz0, _, hcl6, h3⟩)
  obtain ⟨g₀, hfr⟩ := X'.frames_eq
  have hcell9 : ((T.setVm vm').setFrames (.throwing q :: below)).heap[q]? = some ce := by
    show T.heap[q]? = some ce
    rw [hT]; exact hcell
  have hend : Ended ((T.setVm vm').setFrames (.throwing q :: below)) below (.threw q) := State.frames_setFrames _ (State.cur_lt_of_frames hfr)
  refine ⟨(T.setVm vm').setFrames (.throwing q :: below), ?_, .threw q, X'.here.running, hend, Or.inr ⟨q, rfl, E, ce, locs, hx _ hT (X'.ends _).1.alike, hcell9, hv, hcl, (X'.ends _).1, (X'.ends _).2.mono hc hs, hf⟩⟩
  rw [X.pushThrowing_eq]
  exact st
/-- a thing of a world lies in the heap -/
theorem vx_lt {D : va_G} {cl : List vw_C} {ws : va_W} {H1 : Heap} (h : va_P D cl ws H1) {k : Nat} {q : Nat × va_E} (hk : ws[k]? = some q) : q.1 < H1.size := (h k q hk).lt
end VXS
/-! ===== END ===== -/
/-! ===== BEGIN methods with a table of their own: called by a name, returning or throwing ===== -/
section VXH
/-! vx_backW, vx_callVX, vx_callSX, vx_callVW, vx_runVW, vx_runVX, vx_runSX, vx_ofWH follow the same proofs as their sisters above (Free/Laws.lean, Shelf42/LK1.lean); vx_outP calls Shelf42/NT130.lean (outThrough). -/
section
variable {l : Launch} {R : Room} {p : Program} {e : Env} {below : List Frame} {s : State} {sargs : Array Value} {y : MethodName} {len W9 : Nat}
theorem vx_backW {ws : List Cond} {rm : Room} {Pc : Array Value → State → Prop} {Qc : Array Value → State → Outcome → State → Prop} {XC : String → State → State → Prop} {mc ms : Nat} {free : Addr → Prop} {bytes : ByteArray} {maxL : Nat} {ret : Option FieldType} {hh : List (Nat × Nat × Nat × Nat)}
    (hM : vx_Met l y ws rm Pc Qc XC mc ms free) (hblind : FrameBlind Pc) (hrc : rm.cells = mc) (hrs : rm.slots = ms)
    (hframes : rm.frames + 1 ≤ R.frames) (hlocals : W9 + (maxL + 11) + rm.locals ≤ R.locals)
    (hws : ∀ w ∈ ws, ∀ a' U, s.WarmedH U.vm → w.before a' U = true) (hcode : Cond.codeWith y bytes maxL ret hh ∈ ws) (hinit : ∀ a' U, s.WarmedH U.vm → (Cond.initialized y.cls).before a' U = true) :
    vx_Back l R p e below s sargs y len W9 (PreOf R mc ms Pc) (PostOf Qc mc ms free) (vx_Post XC mc ms free) := by
  intro m meth c A g ig mk a X hg hsize hdg hW hn hp
  have h1 : (headSpec ws rm).pre.before a A.U = true := atoms_intro fun w hw => hws w hw _ _ X.warmed
  have h2 : (Cond.codeWith y bytes maxL ret hh).before a A.U = true := hws _ hcode _ _ X.warmed
  have h3 : (Cond.initialized y.cls).before a A.U = true := hinit _ _ X.warmed
  have h4 : A.cells + (headSpec ws rm).room.cells ≤ R.cells := by rw [show (headSpec ws rm).room.cells = mc from hrc]; exact hp.1
  have h5 : A.slots + (headSpec ws rm).room.slots ≤ R.slots := by rw [show (headSpec ws rm).room.slots = ms from hrs]; exact hp.2.1
  have hPc : Pc a (A.U.calling g mk a) := hblind _ _ _ _ hp.2.2
  obtain ⟨U, Ls, c0, s0⟩ := A
  dsimp only [Pt.U, Pt.locs, Pt.cells, Pt.slots] at h1 h2 h3 h4 h5 X hn hPc ⊢
  obtain ⟨m9, methY, cY, hn9, hmY, hcY, -, hlY, -⟩ := Cond.codeWith_spec h2
  cases Option.some.inj (hn9.symm.trans hn)
  obtain ⟨kY, hkY, -⟩ := className_of_methodNamed hn
  have hinitY : kY.init = .initialized := Cond.initialized_spec (findClass_of_methodNamed hn) hkY h3
  have h : At U g.method c below := by rw [hg]; exact X.here
  have hlocals9 : W9 + (maxL + 11) + (headSpec ws rm).room.locals ≤ R.locals := hlocals
  have happ : (headSpec ws rm).appliesLoose y e.platform (U.calling g mk a) = true :=
    Spec.appliesLoose_calling (g := g) h hdg hn hkY hinitY
      (X.room_calling (g := g) (R' := (headSpec ws rm).room) hsize hmY hcY hframes (by rw [hlY]; omega) h4 h5) h1
  obtain ⟨mid, hmid⟩ := h.above
  have hfr : (U.setTop g).frames = (.java g :: mid) ++ below := by rw [State.frames_setTop' g h.top, hmid]; rfl
  obtain ⟨o, s₂, hsteps, -, hend, hq⟩ := Steps.callFree hM p X.admits X.cas X.clock (acts := []) hfr happ hPc trivial
  have hq' : vx_Q Qc XC mc ms free a (U.calling g mk a) o s₂ := hq
  rw [State.frames_setTop' g h.top] at hend
  obtain ⟨g₀, hg0⟩ := Option.isSome_iff_exists.mp h.top
  obtain ⟨r, hr⟩ := State.topJava?_eq_some.mp hg0
  have hr' : (({ U with heap := s₂.heap, slotsUsed := s₂.slotsUsed } : State).setVm s₂.vm).frames = .java g₀ :: r := hr
  rcases hq' with ⟨hqc, L, hfe, hL⟩ | ⟨q, rfl, E, ce, L, hx, hce, hcv, hcl, hW₂, hsm, hL⟩
  · obtain ⟨⟨v, rfl⟩, hW₂, e2, q2, q3, q4, q5, q6⟩ := id hfe
    have e3 : s₂ = ({ (U.calling g mk a).setFrames s₂.frames with heap := s₂.heap, slotsUsed := s₂.slotsUsed } : State).setVm s₂.vm := by
      have : s₂ = ({ s₂ with vm := (U.calling g mk a).vm } : State).setVm s₂.vm := rfl
      rw [e2] at this
      exact this
    obtain ⟨c₂, i₂, len₂, hc₂, hd₂, hf₂⟩ := hend
    have hW' : U.WarmedH s₂.vm := hW₂
    have hcc : c₂ = c := by
      have h1 : s₂.code? g.method = U.code? g.method := by
        rw [State.code?_eq, State.code?_eq, hW'.alike.method?]
      exact Option.some.inj (hc₂.symm.trans (h1.trans h.code))
    subst hcc
    have hlen : len₂ = len := by rw [hdg] at hd₂; cases hd₂; rfl
    subst hlen
    have hs₂ : s₂ = (({ U with heap := s₂.heap, slotsUsed := s₂.slotsUsed } : State).setVm s₂.vm).setTop { g with pc := g.pc + len₂, stack := v.toList ++ g.stack } := by
      refine e3.trans ?_
      rw [hf₂, State.calling_eq h.top, State.setFrames_setFrames, State.setTop_of_frames _ hr', hr]
      rfl
    have hsame : U.sameButNew ({ U with heap := s₂.heap, slotsUsed := s₂.slotsUsed } : State) L mc ms := by
      refine ⟨?_, q2, q3, q4, q5, q6⟩
      obtain ⟨t, ht, -⟩ := State.frames_cons hr
      show ({ U with heap := s₂.heap, slotsUsed := s₂.slotsUsed } : State) = { U.setFrames U.frames with heap := s₂.heap, slotsUsed := s₂.slotsUsed }
      rw [State.setFrames_self ht]
    subst hg
    refine Or.inl ⟨v, ⟨(({ U with heap := s₂.heap, slotsUsed := s₂.slotsUsed } : State).setVm s₂.vm), Ls ++ L, c0 + mc, s0 + ms⟩,
      ⟨X.admits, X.cas, X.clock, X.frames, X.room, X.hears, X.method, X.code, (X.here.setHeapUsed s₂.heap s₂.slotsUsed).setVm hW'.alike, X.tail, State.WarmedH.trans X.warmed hW', X.limits, X.bytes, X.same.trans (hsame.setVm s.vm)⟩,
      ⟨g, mk, s₂, L, rfl, rfl, hqc, rfl, hL, rfl, rfl⟩, ?_⟩
    show Steps p.tables e below _ ((({ U with heap := s₂.heap, slotsUsed := s₂.slotsUsed } : State).setVm s₂.vm).setTop { g with pc := g.pc + len₂, stack := v.toList ++ g.stack })
    rw [← hs₂]
    exact hsteps
  · obtain ⟨e2, q2, q3, q4, q5, q6⟩ := id hsm
    have e3 : s₂ = ({ (U.calling g mk a).setFrames s₂.frames with heap := s₂.heap, slotsUsed := s₂.slotsUsed } : State).setVm s₂.vm := by
      have : s₂ = ({ s₂ with vm := (U.calling g mk a).vm } : State).setVm s₂.vm := rfl
      rw [e2] at this
      exact this
    have hf₂ : s₂.frames = .throwing q :: .java g :: U.frames.tail := hend
    have hW' : U.WarmedH s₂.vm := hW₂
    have hs₂ : s₂ = ((({ U with heap := s₂.heap, slotsUsed := s₂.slotsUsed } : State).setVm s₂.vm).setTop g).pushFrame (.throwing q) := by
      refine e3.trans ?_
      rw [hf₂, State.calling_eq h.top, State.setFrames_setFrames, State.pushFrame, State.frames_setTop _ hr', State.setTop_of_frames _ hr', State.setFrames_setFrames, hr]
      rfl
    have hsame : U.sameButNew ({ U with heap := s₂.heap, slotsUsed := s₂.slotsUsed } : State) L mc ms := by
      refine ⟨?_, q2, q3, q4, q5, q6⟩
      obtain ⟨t, ht, -⟩ := State.frames_cons hr
      show ({ U with heap := s₂.heap, slotsUsed := s₂.slotsUsed } : State) = { U.setFrames U.frames with heap := s₂.heap, slotsUsed := s₂.slotsUsed }
      rw [State.setFrames_self ht]
    subst hg
    refine Or.inr ⟨q, ⟨(({ U with heap := s₂.heap, slotsUsed := s₂.slotsUsed } : State).setVm s₂.vm), Ls ++ L, c0 + mc, s0 + ms⟩,
      ⟨X.admits, X.cas, X.clock, X.frames, X.room, X.hears, X.method, X.code, (X.here.setHeapUsed s₂.heap s₂.slotsUsed).setVm hW'.alike, X.tail, State.WarmedH.trans X.warmed hW', X.limits, X.bytes, X.same.trans (hsame.setVm s.vm)⟩,
      ⟨g, mk, s₂, L, E, ce, rfl, rfl, hx, hce, hcv, hcl, rfl, hL, rfl, rfl⟩, ?_⟩
    show Steps p.tables e below _ (((({ U with heap := s₂.heap, slotsUsed := s₂.slotsUsed } : State).setVm s₂.vm).setTop g).pushFrame (.throwing q))
    rw [← hs₂]
    exact hsteps
end
variable {p : Program} {l : Launch} {e : Env} {R : Room} {s : State} {m : MethodId} {args : Array Value} {below : List Frame} {meth : Method} {c : Code} {T : State} {H : Heap} {locs : List Loc} {cells slots : Nat}
theorem vx_callVX (X : Stand p l e R s m args below meth c T locs cells slots) (hexec : p.tables.exec = Jvm.exec) {own C : String} {index : Nat} {y : MethodName} {bytes : ByteArray} {maxL : Nat} {ret : Option FieldType} {hh : List (Nat × Nat × Nat × Nat)}
    (hown : s.vm.findClass own = some m.cls) (hlink : (Cond.methodLink own index y).before args s = true) (hinst : (Cond.instanceMethod y).before args s = true) (hsel : (Cond.selects C y y).before args s = true)
    (hcode : (Cond.codeWith y bytes maxL ret hh).before args s = true) (hy : y.cls ≠ "java/lang/invoke/MethodHandle" ∧ y.cls ≠ "java/lang/invoke/VarHandle")
    {W9 : Nat} {Pre : Pt → Array Value → Prop} {Post : Pt → Array Value → Option Value → Pt → Prop} {PostX : Pt → Array Value → Addr → Pt → Prop} (hK : vx_Back l R p e below s args y 3 W9 Pre Post PostX)
    {b : Addr} {cellB : Cell} (hcell : T.heap[b]? = some cellB) (hobj : cellB.vm.isStatics = false) (hcls : s.vm.findClass C = some cellB.cls)
    {g : JFrame} (hg : g.method = m) (hsize : g.locals.size = c.maxLocals) {argsL rest : List Value} (hlen : ∀ sig, parseMethodDescriptor y.desc = some sig → argsL.length = sig.parameters.length)
    (hstack : g.stack = argsL.reverse ++ .ref b :: rest) (hW : 2 * g.monitorRoom + (rest.map fun v => v.category).sum ≤ W9) (hdg : decode c.code g.pc = .ok (.invokevirtual index, 3))
    (hpre : ∀ vm₁, s.WarmedH vm₁ → Pre ⟨T.setVm vm₁, locs, cells, slots⟩ (Value.ref b :: argsL).toArray) :
    (∃ (v : Option Value) (vm₁ : Vm) (B : Pt), s.WarmedH vm₁ ∧ Stand p l e R s m args below meth c B.U B.locs B.cells B.slots ∧ Post ⟨T.setVm vm₁, locs, cells, slots⟩ (Value.ref b :: argsL).toArray v B ∧
      ∀ target, Steps p.tables e below (B.U.setTop { g with pc := g.pc + 3, stack := v.toList ++ rest }) target → Steps p.tables e below (T.setTop g) target) ∨
    (∃ (q : Addr) (vm₁ : Vm) (B : Pt), s.WarmedH vm₁ ∧ Stand p l e R s m args below meth c B.U B.locs B.cells B.slots ∧ PostX ⟨T.setVm vm₁, locs, cells, slots⟩ (Value.ref b :: argsL).toArray q B ∧
      Steps p.tables e below (T.setTop g) ((B.U.setTop { g with stack := rest }).pushFrame (.throwing q))) := by
  obtain ⟨mk, methM, hnamed, hmethM, hstM, habM⟩ := Cond.instanceMethod_spec hinst
  obtain ⟨m8, methM', cM, hn8, hmethM', -, -, -, -, -, -, hsigM⟩ := Cond.codeWith_spec hcode
  cases Option.some.inj (hn8.symm.trans hnamed)
  cases hmethM.symm.trans hmethM'
  obtain ⟨c2, r2, m2, q1, q2, q3, q4, kP, hkP, hkPi⟩ := Cond.selects_spec hsel
  cases hcls.symm.trans q1
  cases (State.methodFound?_of_named hnamed hy).symm.trans q2
  cases hnamed.symm.trans q3
  have hselP : selectMethod e.platform s.vm cellB.cls mk = .method mk := by rw [Launch.admits_selectMethod X.admits]; exact q4
  obtain ⟨vm₁, X₁, hstep₁⟩ := X.invokevirtual hexec hown hlink hnamed hmethM hstM hkP hkPi hy (a := b) (cell := cellB) hcell
    (fun z h => by rw [h] at hobj; cases hobj) hselP hmethM habM hkP hkPi (g := g) hg (argsL := argsL) (rest := rest) (hlen _ hsigM) hstack hdg
  rcases hK m meth c ⟨T.setVm vm₁, locs, cells, slots⟩ { g with stack := rest } (.invokevirtual index) mk (Value.ref b :: argsL).toArray X₁ hg hsize hdg hW (X₁.named hnamed) (hpre vm₁ X₁.warmed) with ⟨v, B, X', hpost, hsteps⟩ | ⟨q, B, X', hpost, hsteps⟩
  · exact Or.inl ⟨v, vm₁, B, X₁.warmed, X', hpost, fun target h => hstep₁ _ fun acts => by rw [doInvoke_state]; exact hsteps.trans h⟩
  · exact Or.inr ⟨q, vm₁, B, X₁.warmed, X', hpost, hstep₁ _ fun acts => by rw [doInvoke_state]; exact hsteps⟩
theorem vx_callSX (X : Stand p l e R s m args below meth c T locs cells slots) (hexec : p.tables.exec = Jvm.exec) {own : String} {index : Nat} {y : MethodName} {bytes : ByteArray} {maxL : Nat} {ret : Option FieldType} {hh : List (Nat × Nat × Nat × Nat)}
    (hown : s.vm.findClass own = some m.cls) (hlink : (Cond.methodLink own index y).before args s = true) (hstat : (Cond.static y).before args s = true) (hinit : (Cond.initialized y.cls).before args s = true)
    (hcode : (Cond.codeWith y bytes maxL ret hh).before args s = true) (hy : y.cls ≠ "java/lang/invoke/MethodHandle" ∧ y.cls ≠ "java/lang/invoke/VarHandle")
    {W9 : Nat} {Pre : Pt → Array Value → Prop} {Post : Pt → Array Value → Option Value → Pt → Prop} {PostX : Pt → Array Value → Addr → Pt → Prop} (hK : vx_Back l R p e below s args y 3 W9 Pre Post PostX)
    {g : JFrame} (hg : g.method = m) (hsize : g.locals.size = c.maxLocals) {argsL rest : List Value} (hlen : ∀ sig, parseMethodDescriptor y.desc = some sig → argsL.length = sig.parameters.length)
    (hstack : g.stack = argsL.reverse ++ rest) (hW : 2 * g.monitorRoom + (rest.map fun v => v.category).sum ≤ W9) (hdg : decode c.code g.pc = .ok (.invokestatic index, 3))
    (hpre : ∀ vm₁, s.WarmedH vm₁ → Pre ⟨T.setVm vm₁, locs, cells, slots⟩ argsL.toArray) :
    (∃ (v : Option Value) (vm₁ : Vm) (B : Pt), s.WarmedH vm₁ ∧ Stand p l e R s m args below meth c B.U B.locs B.cells B.slots ∧ Post ⟨T.setVm vm₁, locs, cells, slots⟩ argsL.toArray v B ∧
      ∀ target, Steps p.tables e below (B.U.setTop { g with pc := g.pc + 3, stack := v.toList ++ rest }) target → Steps p.tables e below (T.setTop g) target) ∨
    (∃ (q : Addr) (vm₁ : Vm) (B : Pt), s.WarmedH vm₁ ∧ Stand p l e R s m args below meth c B.U B.locs B.cells B.slots ∧ PostX ⟨T.setVm vm₁, locs, cells, slots⟩ argsL.toArray q B ∧
      Steps p.tables e below (T.setTop g) ((B.U.setTop { g with stack := rest }).pushFrame (.throwing q))) := by
  obtain ⟨mk, methM, cM, hnamed, hmethM, -, -, -, -, -, -, hsigM⟩ := Cond.codeWith_spec hcode
  have hstatic : methM.isStatic = true := Cond.static_spec hnamed hmethM hstat
  obtain ⟨kP, hkP, -⟩ := className_of_methodNamed hnamed
  have hinitP : kP.init = .initialized := Cond.initialized_spec (findClass_of_methodNamed hnamed) hkP hinit
  obtain ⟨vm₁, X₁, hstep₁⟩ := X.invokestatic hexec hown hlink hnamed hmethM hstatic hkP hinitP hy (g := g) hg (argsL := argsL) (rest := rest) (hlen _ hsigM) hstack hdg
  rcases hK m meth c ⟨T.setVm vm₁, locs, cells, slots⟩ { g with stack := rest } (.invokestatic index) mk argsL.toArray X₁ hg hsize hdg hW (X₁.named hnamed) (hpre vm₁ X₁.warmed) with ⟨v, B, X', hpost, hsteps⟩ | ⟨q, B, X', hpost, hsteps⟩
  · exact Or.inl ⟨v, vm₁, B, X₁.warmed, X', hpost, fun target h => hstep₁ _ fun acts => by rw [doInvoke_state]; exact hsteps.trans h⟩
  · exact Or.inr ⟨q, vm₁, B, X₁.warmed, X', hpost, hstep₁ _ fun acts => by rw [doInvoke_state]; exact hsteps⟩
theorem vx_callVW (X : Stand p l e R s m args below meth c T locs cells slots) (hexec : p.tables.exec = Jvm.exec) {own C : String} {index : Nat} {y : MethodName} {bytes : ByteArray} {maxL : Nat} {ret : Option FieldType} {hh : List (Nat × Nat × Nat × Nat)}
    (hown : s.vm.findClass own = some m.cls) (hlink : (Cond.methodLink own index y).before args s = true) (hinst : (Cond.instanceMethod y).before args s = true) (hsel : (Cond.selects C y y).before args s = true)
    (hcode : (Cond.codeWith y bytes maxL ret hh).before args s = true) (hy : y.cls ≠ "java/lang/invoke/MethodHandle" ∧ y.cls ≠ "java/lang/invoke/VarHandle")
    {W9 : Nat} {Pre : Pt → Array Value → Prop} {Post : Pt → Array Value → Option Value → Pt → Prop} (hK : Back l R p e below s args y 3 W9 Pre Post)
    {b : Addr} {cellB : Cell} (hcell : T.heap[b]? = some cellB) (hobj : cellB.vm.isStatics = false) (hcls : s.vm.findClass C = some cellB.cls)
    {g : JFrame} (hg : g.method = m) (hsize : g.locals.size = c.maxLocals) {argsL rest : List Value} (hlen : ∀ sig, parseMethodDescriptor y.desc = some sig → argsL.length = sig.parameters.length)
    (hstack : g.stack = argsL.reverse ++ .ref b :: rest) (hW : 2 * g.monitorRoom + (rest.map fun v => v.category).sum ≤ W9) (hdg : decode c.code g.pc = .ok (.invokevirtual index, 3))
    (hpre : ∀ vm₁, s.WarmedH vm₁ → Pre ⟨T.setVm vm₁, locs, cells, slots⟩ (Value.ref b :: argsL).toArray) :
    ∃ (v : Option Value) (vm₁ : Vm) (B : Pt), s.WarmedH vm₁ ∧ Stand p l e R s m args below meth c B.U B.locs B.cells B.slots ∧ Post ⟨T.setVm vm₁, locs, cells, slots⟩ (Value.ref b :: argsL).toArray v B ∧
      ∀ target, Steps p.tables e below (B.U.setTop { g with pc := g.pc + 3, stack := v.toList ++ rest }) target → Steps p.tables e below (T.setTop g) target := by
  obtain ⟨mk, methM, hnamed, hmethM, hstM, habM⟩ := Cond.instanceMethod_spec hinst
  obtain ⟨m8, methM', cM, hn8, hmethM', -, -, -, -, -, -, hsigM⟩ := Cond.codeWith_spec hcode
  cases Option.some.inj (hn8.symm.trans hnamed)
  cases hmethM.symm.trans hmethM'
  obtain ⟨c2, r2, m2, q1, q2, q3, q4, kP, hkP, hkPi⟩ := Cond.selects_spec hsel
  cases hcls.symm.trans q1
  cases (State.methodFound?_of_named hnamed hy).symm.trans q2
  cases hnamed.symm.trans q3
  have hselP : selectMethod e.platform s.vm cellB.cls mk = .method mk := by rw [Launch.admits_selectMethod X.admits]; exact q4
  obtain ⟨vm₁, X₁, hstep₁⟩ := X.invokevirtual hexec hown hlink hnamed hmethM hstM hkP hkPi hy (a := b) (cell := cellB) hcell
    (fun z h => by rw [h] at hobj; cases hobj) hselP hmethM habM hkP hkPi (g := g) hg (argsL := argsL) (rest := rest) (hlen _ hsigM) hstack hdg
  obtain ⟨v, B, X', hpost, hsteps⟩ := hK m meth c ⟨T.setVm vm₁, locs, cells, slots⟩ { g with stack := rest } (.invokevirtual index) mk (Value.ref b :: argsL).toArray X₁ hg hsize hdg hW (X₁.named hnamed) (hpre vm₁ X₁.warmed)
  exact ⟨v, vm₁, B, X₁.warmed, X', hpost, fun target h => hstep₁ _ fun acts => by rw [doInvoke_state]; exact hsteps.trans h⟩
abbrev vx_CVW (R : Room) (s : State) (args : Array Value) (own C : String) (index : Nat) (y : MethodName) (bytes : ByteArray) (maxL : Nat) (ret : Option FieldType) (hh : List (Nat × Nat × Nat × Nat)) (ws : List Cond) (rm : Room) (mc ms n : Nat) : Prop :=
  (rm.cells = mc ∧ rm.slots = ms ∧ rm.frames + 1 ≤ R.frames ∧ 8 + (maxL + 11) + rm.locals ≤ R.locals ∧ (∀ w ∈ ws, ∀ (a' : Array Value) (U : State), s.WarmedH U.vm → w.before a' U = true) ∧ Cond.codeWith y bytes maxL ret hh ∈ ws) ∧
  (Cond.codeWith y bytes maxL ret hh).before args s = true ∧ (Cond.initialized y.cls).before args s = true ∧ (y.cls ≠ "java/lang/invoke/MethodHandle" ∧ y.cls ≠ "java/lang/invoke/VarHandle") ∧
  (∀ sig, parseMethodDescriptor y.desc = some sig → n = sig.parameters.length) ∧ (Cond.methodLink own index y).before args s = true ∧ (Cond.instanceMethod y).before args s = true ∧ (Cond.selects C y y).before args s = true
theorem vx_cwVW {own C : String} {index maxL mc ms : Nat} {y : MethodName} {bytes : ByteArray} {ret : Option FieldType} {hh : List (Nat × Nat × Nat × Nat)} {Ts ws ws' : List Cond} {rm : Room} (n : Nat) (ht : ∀ w ∈ Ts, w.before args s = true) (hT : GoodIn Ts (wsV own index C y ws)) (hw : ws = Cond.codeWith y bytes maxL ret hh :: ws') (hrc : rm.cells = mc) (hrs : rm.slots = ms)
    (hd : y.cls = C ∧ y.cls ≠ "java/lang/invoke/MethodHandle" ∧ y.cls ≠ "java/lang/invoke/VarHandle" ∧ (parseMethodDescriptor y.desc).map (fun d => d.parameters.length) = some n) (hR : rm.frames + 1 ≤ R.frames ∧ 8 + (maxL + 11) + rm.locals ≤ R.locals) :
    vx_CVW R s args own C index y bytes maxL ret hh ws rm mc ms n := by
  obtain ⟨hC, hd⟩ := hd
  subst hC
  have ok : ∀ w ∈ wsV own index y.cls y ws, w.before args s = true := fun w h => ht w (hT w h).1
  have hG : GoodIn Ts ws := fun w h => hT w (by unfold wsV; exact List.mem_append_right _ h)
  have hc : Cond.codeWith y bytes maxL ret hh ∈ ws := by rw [hw]; exact List.mem_cons_self
  refine ⟨⟨hrc, hrs, hR.1, hR.2, pay_in ht hG, hc⟩, ht _ (hG _ hc).1, ok _ (by simp [wsV]), ⟨hd.1, hd.2.1⟩, fun sig h => ?_, ok _ (by simp [wsV]), ok _ (by simp [wsV]), ok _ (by simp [wsV])⟩
  have h2 := hd.2.2
  rw [h] at h2
  exact (Option.some.inj h2).symm
theorem vx_runVW {y : MethodName} {bytes cc : ByteArray} {maxL nL mc ms n index : Nat} {ret : Option FieldType} {hh : List (Nat × Nat × Nat × Nat)} {ws : List Cond} {rm : Room} {Pc : Array Value → State → Prop} {Qc : Array Value → State → Outcome → State → Prop} {free : Addr → Prop} {Ts : List Cond} {own C : String} {b : Addr} {As rest : List Value} {g : JFrame}
    (S : CallFix p m c cc nL s args Ts own) (hM : Met l y ws rm Pc Qc mc ms free) (cw : vx_CVW R s args own C index y bytes maxL ret hh ws rm mc ms n) (hp : PreV s H C b Pc As)
    (hg : g.method = m) (hn : As.length = n) (hsize : g.locals.size = nL) (hstack : g.stack = As.reverse ++ .ref b :: rest) (hW : 2 * g.monitorRoom + (rest.map fun v => v.category).sum ≤ 8) (hdg : decode cc g.pc = .ok (.invokevirtual index, 3)) (hf : cells + mc ≤ R.cells ∧ slots + ms ≤ R.slots) :
    va_Run p l e R s m args below meth c H locs cells slots mc ms g rest (Qc (Value.ref b :: As).toArray) free := by
  obtain ⟨⟨hrc, hrs, hfr, hlo, hws, hcw⟩, hcode, hini, hy, hlen, hl, hin, hse⟩ := cw
  have hK : Back l R p e below s args y 3 8 (PreOf R mc ms Pc) (PostOf Qc mc ms free) := va_backW (hh := hh) (bytes := bytes) (maxL := maxL) (ret := ret) hM hp.1 hrc hrs hfr hlo hws hcw (fun a' U hW => word_at hW (Or.inl (by first | rfl | simp [Cond.onTables, Cond.keeps, Cond.steady])) hini)
  obtain ⟨hx, hb, hml, ho, -⟩ := S
  obtain ⟨-, ⟨cellB, hcB, hoB, hclB⟩, hPc⟩ := hp
  intro T hT X
  obtain ⟨v, vm₁, ⟨U', l2, c2, s2⟩, hW₁, X', ⟨g', mk, t, L, e1, e2, hq, h1, hL, h2, h3⟩, st⟩ := vx_callVW X hx (C := C) (hh := hh) (bytes := bytes) (maxL := maxL) (ret := ret) ho hl hin hse hcode hy hK (by rw [hT]; exact hcB) hoB hclB hg (hsize.trans hml.symm) (argsL := As) (rest := rest) (fun sig h => hn.trans (hlen sig h)) hstack hW (by rw [hb]; exact hdg)
    (fun vm₁ hW₁ => ⟨hf.1, hf.2, hPc (T.setVm vm₁) hT hW₁⟩)
  dsimp only [Pt.U, Pt.locs, Pt.cells, Pt.slots] at X' e1 e2 h1 h2 h3 st
  subst h1; subst h2; subst h3
  exact ⟨v, (T.setVm vm₁).calling g' mk (Value.ref b :: As).toArray, t, U', L, hT, X', hL, e1, e2, hq, st⟩
section
variable {y : MethodName} {bytes cc : ByteArray} {maxL nL mc ms n index : Nat} {ret : Option FieldType} {ws : List Cond} {rm : Room} {Pc : Array Value → State → Prop} {Qc : Array Value → State → Outcome → State → Prop} {XC : String → State → State → Prop} {free : Addr → Prop} {Ts : List Cond} {own C : String} {b : Addr} {As rest : List Value} {g : JFrame}
theorem vx_runVX {hh : List (Nat × Nat × Nat × Nat)} (S : CallFix p m c cc nL s args Ts own) (hM : vx_Met l y ws rm Pc Qc XC mc ms free) (cw : vx_CVW R s args own C index y bytes maxL ret hh ws rm mc ms n) (hp : PreV s H C b Pc As)
    (hg : g.method = m) (hn : As.length = n) (hsize : g.locals.size = nL) (hstack : g.stack = As.reverse ++ .ref b :: rest) (hW : 2 * g.monitorRoom + (rest.map fun v => v.category).sum ≤ 8) (hdg : decode cc g.pc = .ok (.invokevirtual index, 3)) (hf : cells + mc ≤ R.cells ∧ slots + ms ≤ R.slots) :
    vx_Run p l e R s m args below meth c H locs cells slots mc ms g rest (Qc (Value.ref b :: As).toArray) XC free := by
  obtain ⟨⟨hrc, hrs, hfr, hlo, hws, hcw⟩, hcode, hini, hy, hlen, hl, hin, hse⟩ := cw
  have hK : vx_Back l R p e below s args y 3 8 (PreOf R mc ms Pc) (PostOf Qc mc ms free) (vx_Post XC mc ms free) := vx_backW (hh := hh) (bytes := bytes) (maxL := maxL) (ret := ret) hM hp.1 hrc hrs hfr hlo hws hcw (fun a' U hW => word_at hW (Or.inl (by first | rfl | simp [Cond.onTables, Cond.keeps, Cond.steady])) hini)
  obtain ⟨hx, hb, hml, ho, -⟩ := S
  obtain ⟨-, ⟨cellB, hcB, hoB, hclB⟩, hPc⟩ := hp
  intro T hT X
  rcases vx_callVX X hx (C := C) (hh := hh) (bytes := bytes) (maxL := maxL) (ret := ret) ho hl hin hse hcode hy hK (by rw [hT]; exact hcB) hoB hclB hg (hsize.trans hml.symm) (argsL := As) (rest := rest) (fun sig h => hn.trans (hlen sig h)) hstack hW (by rw [hb]; exact hdg)
    (fun vm₁ hW₁ => ⟨hf.1, hf.2, hPc (T.setVm vm₁) hT hW₁⟩) with ⟨v, vm₁, ⟨U', l2, c2, s2⟩, hW₁, X', ⟨g', mk, t, L, e1, e2, hq, h1, hL, h2, h3⟩, st⟩ | ⟨q, vm₁, ⟨U', l2, c2, s2⟩, hW₁, X', ⟨g', mk, t, L, E, ce, e1, e2, hq, hce, hcv, hcl, h1, hL, h2, h3⟩, st⟩
  · dsimp only [Pt.U, Pt.locs, Pt.cells, Pt.slots] at X' e1 e2 h1 h2 h3 st
    subst h1; subst h2; subst h3
    exact Or.inl ⟨v, (T.setVm vm₁).calling g' mk (Value.ref b :: As).toArray, t, U', L, hT, X', hL, e1, e2, hq, st⟩
  · dsimp only [Pt.U, Pt.locs, Pt.cells, Pt.slots] at X' e1 e2 h1 h2 h3 st hcl
    subst h1; subst h2; subst h3
    exact Or.inr ⟨q, (T.setVm vm₁).calling g' mk (Value.ref b :: As).toArray, t, U', L, E, ce, hT, X', hL, e1, e2, hq, hce, hcv, vx_cls hW₁ hcl, st⟩
theorem vx_runSX {hh : List (Nat × Nat × Nat × Nat)} (S : CallFix p m c cc nL s args Ts own) (hM : vx_Met l y ws rm Pc Qc XC mc ms free) (cw : vx_CSW R s args own index y bytes maxL ret hh ws rm mc ms n) (hp : PreS s H Pc As)
    (hg : g.method = m) (hn : As.length = n) (hsize : g.locals.size = nL) (hstack : g.stack = As.reverse ++ rest) (hW : 2 * g.monitorRoom + (rest.map fun v => v.category).sum ≤ 8) (hdg : decode cc g.pc = .ok (.invokestatic index, 3)) (hf : cells + mc ≤ R.cells ∧ slots + ms ≤ R.slots) :
    vx_Run p l e R s m args below meth c H locs cells slots mc ms g rest (Qc As.toArray) XC free := by
  obtain ⟨⟨hrc, hrs, hfr, hlo, hws, hcw⟩, hcode, hini, hy, hlen, hl, hstt⟩ := cw
  have hK : vx_Back l R p e below s args y 3 8 (PreOf R mc ms Pc) (PostOf Qc mc ms free) (vx_Post XC mc ms free) := vx_backW (hh := hh) (bytes := bytes) (maxL := maxL) (ret := ret) hM hp.1 hrc hrs hfr hlo hws hcw (fun a' U hW => word_at hW (Or.inl (by first | rfl | simp [Cond.onTables, Cond.keeps, Cond.steady])) hini)
  obtain ⟨hx, hb, hml, ho, -⟩ := S
  intro T hT X
  rcases vx_callSX X hx (hh := hh) (bytes := bytes) (maxL := maxL) (ret := ret) ho hl hstt hini hcode hy hK hg (hsize.trans hml.symm) (argsL := As) (rest := rest) (fun sig h => hn.trans (hlen sig h)) hstack hW (by rw [hb]; exact hdg)
    (fun vm₁ hW₁ => ⟨hf.1, hf.2, hp.2 (T.setVm vm₁) hT hW₁⟩) with ⟨v, vm₁, ⟨U', l2, c2, s2⟩, hW₁, X', ⟨g', mk, t, L, e1, e2, hq, h1, hL, h2, h3⟩, st⟩ | ⟨q, vm₁, ⟨U', l2, c2, s2⟩, hW₁, X', ⟨g', mk, t, L, E, ce, e1, e2, hq, hce, hcv, hcl, h1, hL, h2, h3⟩, st⟩
  · dsimp only [Pt.U, Pt.locs, Pt.cells, Pt.slots] at X' e1 e2 h1 h2 h3 st
    subst h1; subst h2; subst h3
    exact Or.inl ⟨v, (T.setVm vm₁).calling g' mk As.toArray, t, U', L, hT, X', hL, e1, e2, hq, st⟩
  · dsimp only [Pt.U, Pt.locs, Pt.cells, Pt.slots] at X' e1 e2 h1 h2 h3 st hcl
    subst h1; subst h2; subst h3
    exact Or.inr ⟨q, (T.setVm vm₁).calling g' mk As.toArray, t, U', L, E, ce, hT, X', hL, e1, e2, hq, hce, hcv, vx_cls hW₁ hcl, st⟩
end
end VXH
theorem vx_ofWH {l : Launch} {y : MethodName} {ws ws' : List Cond} {rm : Room} {Pc : Array Value → State → Prop} {Qc : Array Value → State → Outcome → State → Prop} {XC : String → State → State → Prop} {mc ms : Nat} {free : Addr → Prop} {cc : ByteArray} {maxL : Nat} {ret : Option FieldType} {hh : List (Nat × Nat × Nat × Nat)}
    (hy : plainName y.cls = true) (hw : ws = Cond.codeWith y cc maxL ret hh :: ws')
    (body : ∀ p e s m args below meth c s₁, BodyLoose p l y (headSpec ws rm) cc maxL ret e s m args below meth c s₁ → c.maxLocals = maxL → Pc args s →
      W p l e (headSpec ws rm).room s m args below meth c s.heap [] 0 0 (vx_MQ below Qc XC args s mc ms free) (entryFrame m args maxL)) : vx_Met l y ws rm Pc Qc XC mc ms free := by
  refine MetFree.of_bodyS (code := cc) (maxLocals := maxL) (ret := ret) hy ?_ ?_
  · intro args s m h hn
    obtain ⟨m9, meth, c, hn9, h1, h2, h3, h4, -, h5, h6, -⟩ := Cond.codeWith_spec (atoms_spec (ws := ws) h _ (by rw [hw]; exact List.mem_cons_self))
    cases hn.symm.trans hn9
    exact ⟨meth, c, h1, h2, h3, h4, h5, h6⟩
  · intro p e s m args below meth c s₁ B hml hP _
    have hh0 : s₁.heap = s.heap := by rw [B.state]; rfl
    obtain ⟨t, a1, o, b1, b2, b3⟩ := body p e s m args below meth c s₁ B hml hP s₁ hh0 (Stand.of_body B)
    exact ⟨t, o, a1, b1, b2, b3⟩
/-! ===== END ===== -/

/-! ===== BEGIN printed: names, fields, word lists, decode rows ===== -/
end
section
def RX0 : String := "AncestryNet$Queue"
def TX0 : u_T := fun k => match k with
  | 0 => ("AncestryNet$Queue", "ranks", "[I", true)
  | 1 => ("AncestryNet$Queue", "keys", "[I", true)
  | 2 => ("AncestryNet$Queue", "numbers", "[I", true)
  | _ => ("AncestryNet$Queue", "size", "I", false)
def tyX0 : Nat → FieldType := fun k => match k with
  | 0 => .array .int
  | 1 => .array .int
  | 2 => .array .int
  | _ => .int
abbrev wsX00 : List Cond := u_ws RX0 TX0 4
theorem nmX0 : ∀ a, a < 4 → ∀ b, b < 4 → a ≠ b → (TX0 a).2.1 ≠ (TX0 b).2.1 := by decide +kernel
theorem tyX0_ok : ∀ k, k < 4 → parseFieldDescriptor (TX0 k).2.2.1 = some (tyX0 k) := by decide +kernel
abbrev cX0_init : ByteArray := prog_2_method_1_code
def yX0_init : MethodName := ⟨RX0, "<init>", "()V"⟩
def RX1 : String := "AncestryNet"
def TX1 : u_T := fun k => match k with
  | 0 => ("AncestryNet", "commits", "I", false)
  | 1 => ("AncestryNet", "times", "[I", true)
  | 2 => ("AncestryNet", "keys", "[I", true)
  | 3 => ("AncestryNet", "generations", "[I", true)
  | 4 => ("AncestryNet", "parentCounts", "[I", true)
  | 5 => ("AncestryNet", "parents", "[I", true)
  | 6 => ("AncestryNet", "isParent", "[Z", true)
  | 7 => ("AncestryNet", "tips", "[I", true)
  | 8 => ("AncestryNet", "marks", "[I", true)
  | 9 => ("AncestryNet", "untoldLinks", "[I", true)
  | _ => ("AncestryNet", "queue", "LAncestryNet$Queue;", true)
def tyX1 : Nat → FieldType := fun k => match k with
  | 0 => .int
  | 1 => .array .int
  | 2 => .array .int
  | 3 => .array .int
  | 4 => .array .int
  | 5 => .array .int
  | 6 => .array .boolean
  | 7 => .array .int
  | 8 => .array .int
  | 9 => .array .int
  | _ => .object "AncestryNet$Queue"
abbrev wsX10 : List Cond := u_ws RX1 TX1 11
theorem nmX1 : ∀ a, a < 11 → ∀ b, b < 11 → a ≠ b → (TX1 a).2.1 ≠ (TX1 b).2.1 := by decide +kernel
theorem tyX1_ok : ∀ k, k < 11 → parseFieldDescriptor (TX1 k).2.2.1 = some (tyX1 k) := by decide +kernel
abbrev cX1_init : ByteArray := prog_1_method_1_code
def yX1_init : MethodName := ⟨RX1, "<init>", "()V"⟩
abbrev cX1_add : ByteArray := prog_1_method_2_code
def yX1_add : MethodName := ⟨RX1, "add", "(IIIII)I"⟩
abbrev cX1_count : ByteArray := prog_1_method_11_code
def yX1_count : MethodName := ⟨RX1, "count", "(I)I"⟩
abbrev cX1_checkCommit : ByteArray := prog_1_method_12_code
def yX1_checkCommit : MethodName := ⟨RX1, "checkCommit", "(I)V"⟩
abbrev cX1_checkParentOrNone : ByteArray := prog_1_method_13_code
def yX1_checkParentOrNone : MethodName := ⟨RX1, "checkParentOrNone", "(I)V"⟩
abbrev cX1_sideOf : ByteArray := prog_1_method_16_code
def yX1_sideOf : MethodName := ⟨RX1, "sideOf", "(I)I"⟩
abbrev cX1_parentOf : ByteArray := prog_1_method_17_code
def yX1_parentOf : MethodName := ⟨RX1, "parentOf", "(II)I"⟩
abbrev cX1_linkUnlessNone : ByteArray := prog_1_method_18_code
def yX1_linkUnlessNone : MethodName := ⟨RX1, "linkUnlessNone", "(II)V"⟩
abbrev cX1_link : ByteArray := prog_1_method_19_code
def yX1_link : MethodName := ⟨RX1, "link", "(II)V"⟩
abbrev cX1_markHeld : ByteArray := prog_1_method_22_code
def yX1_markHeld : MethodName := ⟨RX1, "markHeld", "()V"⟩
abbrev cX1_spreadMarks : ByteArray := prog_1_method_23_code
def yX1_spreadMarks : MethodName := ⟨RX1, "spreadMarks", "()V"⟩
abbrev cX1_isCommon : ByteArray := prog_1_method_24_code
def yX1_isCommon : MethodName := ⟨RX1, "isCommon", "(I)Z"⟩
abbrev cX1_tipsOf : ByteArray := prog_1_method_31_code
def yX1_tipsOf : MethodName := ⟨RX1, "tipsOf", "(I)I"⟩
abbrev cX1_greatestGeneration : ByteArray := prog_1_method_32_code
def yX1_greatestGeneration : MethodName := ⟨RX1, "greatestGeneration", "()I"⟩
abbrev cX1_childlessCommits : ByteArray := prog_1_method_33_code
def yX1_childlessCommits : MethodName := ⟨RX1, "childlessCommits", "()I"⟩
abbrev cX1_commonCommits : ByteArray := prog_1_method_34_code
def yX1_commonCommits : MethodName := ⟨RX1, "commonCommits", "()I"⟩
abbrev cX1_misplacedCommits : ByteArray := prog_1_method_35_code
def yX1_misplacedCommits : MethodName := ⟨RX1, "misplacedCommits", "()I"⟩
abbrev cX1_hasParentNotBelow : ByteArray := prog_1_method_36_code
def yX1_hasParentNotBelow : MethodName := ⟨RX1, "hasParentNotBelow", "(I)Z"⟩
def RX2 : String := "AncestryNetModel"
def TX2 : u_T := fun k => match k with
  | _ => ("", "", "", false)
def tyX2 : Nat → FieldType := fun k => match k with
  | _ => .int
abbrev wsX20 : List Cond := u_ws RX2 TX2 0
theorem nmX2 : ∀ a, a < 0 → ∀ b, b < 0 → a ≠ b → (TX2 a).2.1 ≠ (TX2 b).2.1 := by decide +kernel
theorem tyX2_ok : ∀ k, k < 0 → parseFieldDescriptor (TX2 k).2.2.1 = some (tyX2 k) := by decide +kernel
def RJ6 : String := "java/lang/Integer"
def TJ6 : u_T := fun k => match k with
  | _ => ("", "", "", false)
def tyJ6 : Nat → FieldType := fun k => match k with
  | _ => .int
abbrev wsJ60 : List Cond := u_ws RJ6 TJ6 0
theorem nmJ6 : ∀ a, a < 0 → ∀ b, b < 0 → a ≠ b → (TJ6 a).2.1 ≠ (TJ6 b).2.1 := by decide +kernel
theorem tyJ6_ok : ∀ k, k < 0 → parseFieldDescriptor (TJ6 k).2.2.1 = some (tyJ6 k) := by decide +kernel
def RJ9 : String := "java/lang/Math"
def TJ9 : u_T := fun k => match k with
  | _ => ("", "", "", false)
def tyJ9 : Nat → FieldType := fun k => match k with
  | _ => .int
abbrev wsJ90 : List Cond := u_ws RJ9 TJ9 0
theorem nmJ9 : ∀ a, a < 0 → ∀ b, b < 0 → a ≠ b → (TJ9 a).2.1 ≠ (TJ9 b).2.1 := by decide +kernel
theorem tyJ9_ok : ∀ k, k < 0 → parseFieldDescriptor (TJ9 k).2.2.1 = some (tyJ9 k) := by decide +kernel
abbrev cJ9_max_7cf53 : ByteArray := prog_9_method_65_code
def yJ9_max_7cf53 : MethodName := ⟨RJ9, "max", "(II)I"⟩
def RJ0 : String := "java/lang/String"
def TJ0 : u_T := fun k => match k with
  | _ => ("", "", "", false)
def tyJ0 : Nat → FieldType := fun k => match k with
  | _ => .int
abbrev wsJ00 : List Cond := u_ws RJ0 TJ0 0
theorem nmJ0 : ∀ a, a < 0 → ∀ b, b < 0 → a ≠ b → (TJ0 a).2.1 ≠ (TJ0 b).2.1 := by decide +kernel
theorem tyJ0_ok : ∀ k, k < 0 → parseFieldDescriptor (TJ0 k).2.2.1 = some (tyJ0 k) := by decide +kernel
def RL : String := "AncestryNetLaw"
abbrev cL_add : ByteArray := method_3_code
def yL_add : MethodName := ⟨RL, "add", "(LAncestryNet;IIIII[J)I"⟩
abbrev cL_under : ByteArray := method_4_code
def yL_under : MethodName := ⟨RL, "under", "(LAncestryNet;II[J)I"⟩
abbrev cL_law : ByteArray := code
def yL_law : MethodName := ⟨RL, "law", "([I)Z"⟩
end
section
theorem dX0_init_0 : decode cX0_init 0 = .ok (.aload_n 0, 1) := by decide +kernel
theorem dX0_init_1 : decode cX0_init 1 = .ok (.invokespecial 3, 3) := by decide +kernel
theorem dX0_init_4 : decode cX0_init 4 = .ok (.aload_n 0, 1) := by decide +kernel
theorem dX0_init_5 : decode cX0_init 5 = .ok (.sipush 2000, 3) := by decide +kernel
theorem dX0_init_8 : decode cX0_init 8 = .ok (.newarray .int, 2) := by decide +kernel
theorem dX0_init_10 : decode cX0_init 10 = .ok (.putfield 9, 3) := by decide +kernel
theorem dX0_init_13 : decode cX0_init 13 = .ok (.aload_n 0, 1) := by decide +kernel
theorem dX0_init_14 : decode cX0_init 14 = .ok (.sipush 2000, 3) := by decide +kernel
theorem dX0_init_17 : decode cX0_init 17 = .ok (.newarray .int, 2) := by decide +kernel
theorem dX0_init_19 : decode cX0_init 19 = .ok (.putfield 15, 3) := by decide +kernel
theorem dX0_init_22 : decode cX0_init 22 = .ok (.aload_n 0, 1) := by decide +kernel
theorem dX0_init_23 : decode cX0_init 23 = .ok (.sipush 2000, 3) := by decide +kernel
theorem dX0_init_26 : decode cX0_init 26 = .ok (.newarray .int, 2) := by decide +kernel
theorem dX0_init_28 : decode cX0_init 28 = .ok (.putfield 18, 3) := by decide +kernel
theorem dX0_init_31 : decode cX0_init 31 = .ok (.return_, 1) := by decide +kernel
theorem dX1_init_0 : decode cX1_init 0 = .ok (.aload_n 0, 1) := by decide +kernel
theorem dX1_init_1 : decode cX1_init 1 = .ok (.invokespecial 1, 3) := by decide +kernel
theorem dX1_init_4 : decode cX1_init 4 = .ok (.aload_n 0, 1) := by decide +kernel
theorem dX1_init_5 : decode cX1_init 5 = .ok (.sipush 2000, 3) := by decide +kernel
theorem dX1_init_8 : decode cX1_init 8 = .ok (.newarray .int, 2) := by decide +kernel
theorem dX1_init_10 : decode cX1_init 10 = .ok (.putfield 9, 3) := by decide +kernel
theorem dX1_init_13 : decode cX1_init 13 = .ok (.aload_n 0, 1) := by decide +kernel
theorem dX1_init_14 : decode cX1_init 14 = .ok (.sipush 2000, 3) := by decide +kernel
theorem dX1_init_17 : decode cX1_init 17 = .ok (.newarray .int, 2) := by decide +kernel
theorem dX1_init_19 : decode cX1_init 19 = .ok (.putfield 13, 3) := by decide +kernel
theorem dX1_init_22 : decode cX1_init 22 = .ok (.aload_n 0, 1) := by decide +kernel
theorem dX1_init_23 : decode cX1_init 23 = .ok (.sipush 2000, 3) := by decide +kernel
theorem dX1_init_26 : decode cX1_init 26 = .ok (.newarray .int, 2) := by decide +kernel
theorem dX1_init_28 : decode cX1_init 28 = .ok (.putfield 16, 3) := by decide +kernel
theorem dX1_init_31 : decode cX1_init 31 = .ok (.aload_n 0, 1) := by decide +kernel
theorem dX1_init_32 : decode cX1_init 32 = .ok (.sipush 2000, 3) := by decide +kernel
theorem dX1_init_35 : decode cX1_init 35 = .ok (.newarray .int, 2) := by decide +kernel
theorem dX1_init_37 : decode cX1_init 37 = .ok (.putfield 19, 3) := by decide +kernel
theorem dX1_init_40 : decode cX1_init 40 = .ok (.aload_n 0, 1) := by decide +kernel
theorem dX1_init_41 : decode cX1_init 41 = .ok (.sipush 8000, 3) := by decide +kernel
theorem dX1_init_44 : decode cX1_init 44 = .ok (.newarray .int, 2) := by decide +kernel
theorem dX1_init_46 : decode cX1_init 46 = .ok (.putfield 22, 3) := by decide +kernel
theorem dX1_init_49 : decode cX1_init 49 = .ok (.aload_n 0, 1) := by decide +kernel
theorem dX1_init_50 : decode cX1_init 50 = .ok (.sipush 2000, 3) := by decide +kernel
theorem dX1_init_53 : decode cX1_init 53 = .ok (.newarray .boolean, 2) := by decide +kernel
theorem dX1_init_55 : decode cX1_init 55 = .ok (.putfield 25, 3) := by decide +kernel
theorem dX1_init_58 : decode cX1_init 58 = .ok (.aload_n 0, 1) := by decide +kernel
theorem dX1_init_59 : decode cX1_init 59 = .ok (.sipush 2000, 3) := by decide +kernel
theorem dX1_init_62 : decode cX1_init 62 = .ok (.newarray .int, 2) := by decide +kernel
theorem dX1_init_64 : decode cX1_init 64 = .ok (.putfield 29, 3) := by decide +kernel
theorem dX1_init_67 : decode cX1_init 67 = .ok (.aload_n 0, 1) := by decide +kernel
theorem dX1_init_68 : decode cX1_init 68 = .ok (.sipush 2000, 3) := by decide +kernel
theorem dX1_init_71 : decode cX1_init 71 = .ok (.newarray .int, 2) := by decide +kernel
theorem dX1_init_73 : decode cX1_init 73 = .ok (.putfield 32, 3) := by decide +kernel
theorem dX1_init_76 : decode cX1_init 76 = .ok (.aload_n 0, 1) := by decide +kernel
theorem dX1_init_77 : decode cX1_init 77 = .ok (.sipush 2000, 3) := by decide +kernel
theorem dX1_init_80 : decode cX1_init 80 = .ok (.newarray .int, 2) := by decide +kernel
theorem dX1_init_82 : decode cX1_init 82 = .ok (.putfield 35, 3) := by decide +kernel
theorem dX1_init_85 : decode cX1_init 85 = .ok (.aload_n 0, 1) := by decide +kernel
theorem dX1_init_86 : decode cX1_init 86 = .ok (.new 38, 3) := by decide +kernel
theorem dX1_init_89 : decode cX1_init 89 = .ok (.dup, 1) := by decide +kernel
theorem dX1_init_90 : decode cX1_init 90 = .ok (.invokespecial 40, 3) := by decide +kernel
theorem dX1_init_93 : decode cX1_init 93 = .ok (.putfield 41, 3) := by decide +kernel
theorem dX1_init_96 : decode cX1_init 96 = .ok (.return_, 1) := by decide +kernel
theorem dX1_add_0 : decode cX1_add 0 = .ok (.aload_n 0, 1) := by decide +kernel
theorem dX1_add_1 : decode cX1_add 1 = .ok (.iload_n 3, 1) := by decide +kernel
theorem dX1_add_2 : decode cX1_add 2 = .ok (.invokevirtual 45, 3) := by decide +kernel
theorem dX1_add_5 : decode cX1_add 5 = .ok (.aload_n 0, 1) := by decide +kernel
theorem dX1_add_6 : decode cX1_add 6 = .ok (.iload 4, 2) := by decide +kernel
theorem dX1_add_8 : decode cX1_add 8 = .ok (.invokevirtual 45, 3) := by decide +kernel
theorem dX1_add_11 : decode cX1_add 11 = .ok (.aload_n 0, 1) := by decide +kernel
theorem dX1_add_12 : decode cX1_add 12 = .ok (.iload 5, 2) := by decide +kernel
theorem dX1_add_14 : decode cX1_add 14 = .ok (.invokevirtual 45, 3) := by decide +kernel
theorem dX1_add_17 : decode cX1_add 17 = .ok (.aload_n 0, 1) := by decide +kernel
theorem dX1_add_18 : decode cX1_add 18 = .ok (.getfield 49, 3) := by decide +kernel
theorem dX1_add_21 : decode cX1_add 21 = .ok (.sipush 2000, 3) := by decide +kernel
theorem dX1_add_24 : decode cX1_add 24 = .ok (.if_icmp .lt 13, 3) := by decide +kernel
theorem dX1_add_27 : decode cX1_add 27 = .ok (.new 53, 3) := by decide +kernel
theorem dX1_add_30 : decode cX1_add 30 = .ok (.dup, 1) := by decide +kernel
theorem dX1_add_31 : decode cX1_add 31 = .ok (.ldc 55, 2) := by decide +kernel
theorem dX1_add_33 : decode cX1_add 33 = .ok (.invokespecial 57, 3) := by decide +kernel
theorem dX1_add_36 : decode cX1_add 36 = .ok (.athrow, 1) := by decide +kernel
theorem dX1_add_37 : decode cX1_add 37 = .ok (.aload_n 0, 1) := by decide +kernel
theorem dX1_add_38 : decode cX1_add 38 = .ok (.getfield 49, 3) := by decide +kernel
theorem dX1_add_41 : decode cX1_add 41 = .ok (.istore 6, 2) := by decide +kernel
theorem dX1_add_43 : decode cX1_add 43 = .ok (.aload_n 0, 1) := by decide +kernel
theorem dX1_add_44 : decode cX1_add 44 = .ok (.dup, 1) := by decide +kernel
theorem dX1_add_45 : decode cX1_add 45 = .ok (.getfield 49, 3) := by decide +kernel
theorem dX1_add_48 : decode cX1_add 48 = .ok (.iconst 1, 1) := by decide +kernel
theorem dX1_add_49 : decode cX1_add 49 = .ok (.iadd, 1) := by decide +kernel
theorem dX1_add_50 : decode cX1_add 50 = .ok (.putfield 49, 3) := by decide +kernel
theorem dX1_add_53 : decode cX1_add 53 = .ok (.aload_n 0, 1) := by decide +kernel
theorem dX1_add_54 : decode cX1_add 54 = .ok (.getfield 9, 3) := by decide +kernel
theorem dX1_add_57 : decode cX1_add 57 = .ok (.iload 6, 2) := by decide +kernel
theorem dX1_add_59 : decode cX1_add 59 = .ok (.iload_n 1, 1) := by decide +kernel
theorem dX1_add_60 : decode cX1_add 60 = .ok (.iastore, 1) := by decide +kernel
theorem dX1_add_61 : decode cX1_add 61 = .ok (.aload_n 0, 1) := by decide +kernel
theorem dX1_add_62 : decode cX1_add 62 = .ok (.getfield 13, 3) := by decide +kernel
theorem dX1_add_65 : decode cX1_add 65 = .ok (.iload 6, 2) := by decide +kernel
theorem dX1_add_67 : decode cX1_add 67 = .ok (.iload_n 2, 1) := by decide +kernel
theorem dX1_add_68 : decode cX1_add 68 = .ok (.iastore, 1) := by decide +kernel
theorem dX1_add_69 : decode cX1_add 69 = .ok (.aload_n 0, 1) := by decide +kernel
theorem dX1_add_70 : decode cX1_add 70 = .ok (.getfield 16, 3) := by decide +kernel
theorem dX1_add_73 : decode cX1_add 73 = .ok (.iload 6, 2) := by decide +kernel
theorem dX1_add_75 : decode cX1_add 75 = .ok (.iconst 1, 1) := by decide +kernel
theorem dX1_add_76 : decode cX1_add 76 = .ok (.iastore, 1) := by decide +kernel
theorem dX1_add_77 : decode cX1_add 77 = .ok (.aload_n 0, 1) := by decide +kernel
theorem dX1_add_78 : decode cX1_add 78 = .ok (.iload 6, 2) := by decide +kernel
theorem dX1_add_80 : decode cX1_add 80 = .ok (.iload_n 3, 1) := by decide +kernel
theorem dX1_add_81 : decode cX1_add 81 = .ok (.invokevirtual 60, 3) := by decide +kernel
theorem dX1_add_84 : decode cX1_add 84 = .ok (.aload_n 0, 1) := by decide +kernel
theorem dX1_add_85 : decode cX1_add 85 = .ok (.iload 6, 2) := by decide +kernel
theorem dX1_add_87 : decode cX1_add 87 = .ok (.iload 4, 2) := by decide +kernel
theorem dX1_add_89 : decode cX1_add 89 = .ok (.invokevirtual 60, 3) := by decide +kernel
theorem dX1_add_92 : decode cX1_add 92 = .ok (.aload_n 0, 1) := by decide +kernel
theorem dX1_add_93 : decode cX1_add 93 = .ok (.iload 6, 2) := by decide +kernel
theorem dX1_add_95 : decode cX1_add 95 = .ok (.iload 5, 2) := by decide +kernel
theorem dX1_add_97 : decode cX1_add 97 = .ok (.invokevirtual 60, 3) := by decide +kernel
theorem dX1_add_100 : decode cX1_add 100 = .ok (.iload 6, 2) := by decide +kernel
theorem dX1_add_102 : decode cX1_add 102 = .ok (.ireturn, 1) := by decide +kernel
theorem dX1_count_0 : decode cX1_count 0 = .ok (.iload_n 1, 1) := by decide +kernel
theorem dX1_count_1 : decode cX1_count 1 = .ok (.tableswitch 80 0 6 #[43, 48, 54, 60, 65, 70, 75], 43) := by decide +kernel
theorem dX1_count_44 : decode cX1_count 44 = .ok (.aload_n 0, 1) := by decide +kernel
theorem dX1_count_45 : decode cX1_count 45 = .ok (.getfield 49, 3) := by decide +kernel
theorem dX1_count_48 : decode cX1_count 48 = .ok (.ireturn, 1) := by decide +kernel
theorem dX1_count_49 : decode cX1_count 49 = .ok (.aload_n 0, 1) := by decide +kernel
theorem dX1_count_50 : decode cX1_count 50 = .ok (.iconst 0, 1) := by decide +kernel
theorem dX1_count_51 : decode cX1_count 51 = .ok (.invokevirtual 137, 3) := by decide +kernel
theorem dX1_count_54 : decode cX1_count 54 = .ok (.ireturn, 1) := by decide +kernel
theorem dX1_count_55 : decode cX1_count 55 = .ok (.aload_n 0, 1) := by decide +kernel
theorem dX1_count_56 : decode cX1_count 56 = .ok (.iconst 1, 1) := by decide +kernel
theorem dX1_count_57 : decode cX1_count 57 = .ok (.invokevirtual 137, 3) := by decide +kernel
theorem dX1_count_60 : decode cX1_count 60 = .ok (.ireturn, 1) := by decide +kernel
theorem dX1_count_61 : decode cX1_count 61 = .ok (.aload_n 0, 1) := by decide +kernel
theorem dX1_count_62 : decode cX1_count 62 = .ok (.invokevirtual 140, 3) := by decide +kernel
theorem dX1_count_65 : decode cX1_count 65 = .ok (.ireturn, 1) := by decide +kernel
theorem dX1_count_66 : decode cX1_count 66 = .ok (.aload_n 0, 1) := by decide +kernel
theorem dX1_count_67 : decode cX1_count 67 = .ok (.invokevirtual 143, 3) := by decide +kernel
theorem dX1_count_70 : decode cX1_count 70 = .ok (.ireturn, 1) := by decide +kernel
theorem dX1_count_71 : decode cX1_count 71 = .ok (.aload_n 0, 1) := by decide +kernel
theorem dX1_count_72 : decode cX1_count 72 = .ok (.invokevirtual 146, 3) := by decide +kernel
theorem dX1_count_75 : decode cX1_count 75 = .ok (.ireturn, 1) := by decide +kernel
theorem dX1_count_76 : decode cX1_count 76 = .ok (.aload_n 0, 1) := by decide +kernel
theorem dX1_count_77 : decode cX1_count 77 = .ok (.invokevirtual 149, 3) := by decide +kernel
theorem dX1_count_80 : decode cX1_count 80 = .ok (.ireturn, 1) := by decide +kernel
theorem dX1_count_81 : decode cX1_count 81 = .ok (.iconst (-1), 1) := by decide +kernel
theorem dX1_count_82 : decode cX1_count 82 = .ok (.ireturn, 1) := by decide +kernel
theorem dX1_checkCommit_0 : decode cX1_checkCommit 0 = .ok (.iload_n 1, 1) := by decide +kernel
theorem dX1_checkCommit_1 : decode cX1_checkCommit 1 = .ok (.ifCond .lt 11, 3) := by decide +kernel
theorem dX1_checkCommit_4 : decode cX1_checkCommit 4 = .ok (.iload_n 1, 1) := by decide +kernel
theorem dX1_checkCommit_5 : decode cX1_checkCommit 5 = .ok (.aload_n 0, 1) := by decide +kernel
theorem dX1_checkCommit_6 : decode cX1_checkCommit 6 = .ok (.getfield 49, 3) := by decide +kernel
theorem dX1_checkCommit_9 : decode cX1_checkCommit 9 = .ok (.if_icmp .lt 13, 3) := by decide +kernel
theorem dX1_checkCommit_12 : decode cX1_checkCommit 12 = .ok (.new 67, 3) := by decide +kernel
theorem dX1_checkCommit_15 : decode cX1_checkCommit 15 = .ok (.dup, 1) := by decide +kernel
end
section
theorem dX1_checkCommit_16 : decode cX1_checkCommit 16 = .ok (.ldc 152, 2) := by decide +kernel
theorem dX1_checkCommit_18 : decode cX1_checkCommit 18 = .ok (.invokespecial 71, 3) := by decide +kernel
theorem dX1_checkCommit_21 : decode cX1_checkCommit 21 = .ok (.athrow, 1) := by decide +kernel
theorem dX1_checkCommit_22 : decode cX1_checkCommit 22 = .ok (.return_, 1) := by decide +kernel
theorem dX1_checkParentOrNone_0 : decode cX1_checkParentOrNone 0 = .ok (.iload_n 1, 1) := by decide +kernel
theorem dX1_checkParentOrNone_1 : decode cX1_checkParentOrNone 1 = .ok (.iconst (-1), 1) := by decide +kernel
theorem dX1_checkParentOrNone_2 : decode cX1_checkParentOrNone 2 = .ok (.if_icmp .eq 8, 3) := by decide +kernel
theorem dX1_checkParentOrNone_5 : decode cX1_checkParentOrNone 5 = .ok (.aload_n 0, 1) := by decide +kernel
theorem dX1_checkParentOrNone_6 : decode cX1_checkParentOrNone 6 = .ok (.iload_n 1, 1) := by decide +kernel
theorem dX1_checkParentOrNone_7 : decode cX1_checkParentOrNone 7 = .ok (.invokevirtual 64, 3) := by decide +kernel
theorem dX1_checkParentOrNone_10 : decode cX1_checkParentOrNone 10 = .ok (.return_, 1) := by decide +kernel
theorem dX1_sideOf_0 : decode cX1_sideOf 0 = .ok (.iload_n 0, 1) := by decide +kernel
theorem dX1_sideOf_1 : decode cX1_sideOf 1 = .ok (.ifCond .ne 7, 3) := by decide +kernel
theorem dX1_sideOf_4 : decode cX1_sideOf 4 = .ok (.iconst 1, 1) := by decide +kernel
theorem dX1_sideOf_5 : decode cX1_sideOf 5 = .ok (.goto 4, 3) := by decide +kernel
theorem dX1_sideOf_8 : decode cX1_sideOf 8 = .ok (.iconst 2, 1) := by decide +kernel
theorem dX1_sideOf_9 : decode cX1_sideOf 9 = .ok (.ireturn, 1) := by decide +kernel
theorem dX1_parentOf_0 : decode cX1_parentOf 0 = .ok (.aload_n 0, 1) := by decide +kernel
theorem dX1_parentOf_1 : decode cX1_parentOf 1 = .ok (.getfield 22, 3) := by decide +kernel
theorem dX1_parentOf_4 : decode cX1_parentOf 4 = .ok (.iload_n 1, 1) := by decide +kernel
theorem dX1_parentOf_5 : decode cX1_parentOf 5 = .ok (.iconst 4, 1) := by decide +kernel
theorem dX1_parentOf_6 : decode cX1_parentOf 6 = .ok (.imul, 1) := by decide +kernel
theorem dX1_parentOf_7 : decode cX1_parentOf 7 = .ok (.iload_n 2, 1) := by decide +kernel
theorem dX1_parentOf_8 : decode cX1_parentOf 8 = .ok (.iadd, 1) := by decide +kernel
theorem dX1_parentOf_9 : decode cX1_parentOf 9 = .ok (.iaload, 1) := by decide +kernel
theorem dX1_parentOf_10 : decode cX1_parentOf 10 = .ok (.ireturn, 1) := by decide +kernel
theorem dX1_linkUnlessNone_0 : decode cX1_linkUnlessNone 0 = .ok (.iload_n 2, 1) := by decide +kernel
theorem dX1_linkUnlessNone_1 : decode cX1_linkUnlessNone 1 = .ok (.iconst (-1), 1) := by decide +kernel
theorem dX1_linkUnlessNone_2 : decode cX1_linkUnlessNone 2 = .ok (.if_icmp .eq 9, 3) := by decide +kernel
theorem dX1_linkUnlessNone_5 : decode cX1_linkUnlessNone 5 = .ok (.aload_n 0, 1) := by decide +kernel
theorem dX1_linkUnlessNone_6 : decode cX1_linkUnlessNone 6 = .ok (.iload_n 1, 1) := by decide +kernel
theorem dX1_linkUnlessNone_7 : decode cX1_linkUnlessNone 7 = .ok (.iload_n 2, 1) := by decide +kernel
theorem dX1_linkUnlessNone_8 : decode cX1_linkUnlessNone 8 = .ok (.invokevirtual 74, 3) := by decide +kernel
theorem dX1_linkUnlessNone_11 : decode cX1_linkUnlessNone 11 = .ok (.return_, 1) := by decide +kernel
theorem dX1_link_0 : decode cX1_link 0 = .ok (.aload_n 0, 1) := by decide +kernel
theorem dX1_link_1 : decode cX1_link 1 = .ok (.getfield 22, 3) := by decide +kernel
theorem dX1_link_4 : decode cX1_link 4 = .ok (.iload_n 1, 1) := by decide +kernel
theorem dX1_link_5 : decode cX1_link 5 = .ok (.iconst 4, 1) := by decide +kernel
theorem dX1_link_6 : decode cX1_link 6 = .ok (.imul, 1) := by decide +kernel
theorem dX1_link_7 : decode cX1_link 7 = .ok (.aload_n 0, 1) := by decide +kernel
theorem dX1_link_8 : decode cX1_link 8 = .ok (.getfield 19, 3) := by decide +kernel
theorem dX1_link_11 : decode cX1_link 11 = .ok (.iload_n 1, 1) := by decide +kernel
theorem dX1_link_12 : decode cX1_link 12 = .ok (.iaload, 1) := by decide +kernel
theorem dX1_link_13 : decode cX1_link 13 = .ok (.iadd, 1) := by decide +kernel
theorem dX1_link_14 : decode cX1_link 14 = .ok (.iload_n 2, 1) := by decide +kernel
theorem dX1_link_15 : decode cX1_link 15 = .ok (.iastore, 1) := by decide +kernel
theorem dX1_link_16 : decode cX1_link 16 = .ok (.aload_n 0, 1) := by decide +kernel
theorem dX1_link_17 : decode cX1_link 17 = .ok (.getfield 19, 3) := by decide +kernel
theorem dX1_link_20 : decode cX1_link 20 = .ok (.iload_n 1, 1) := by decide +kernel
theorem dX1_link_21 : decode cX1_link 21 = .ok (.dup2, 1) := by decide +kernel
theorem dX1_link_22 : decode cX1_link 22 = .ok (.iaload, 1) := by decide +kernel
theorem dX1_link_23 : decode cX1_link 23 = .ok (.iconst 1, 1) := by decide +kernel
theorem dX1_link_24 : decode cX1_link 24 = .ok (.iadd, 1) := by decide +kernel
theorem dX1_link_25 : decode cX1_link 25 = .ok (.iastore, 1) := by decide +kernel
theorem dX1_link_26 : decode cX1_link 26 = .ok (.aload_n 0, 1) := by decide +kernel
theorem dX1_link_27 : decode cX1_link 27 = .ok (.getfield 25, 3) := by decide +kernel
theorem dX1_link_30 : decode cX1_link 30 = .ok (.iload_n 2, 1) := by decide +kernel
theorem dX1_link_31 : decode cX1_link 31 = .ok (.iconst 1, 1) := by decide +kernel
theorem dX1_link_32 : decode cX1_link 32 = .ok (.bastore, 1) := by decide +kernel
theorem dX1_link_33 : decode cX1_link 33 = .ok (.aload_n 0, 1) := by decide +kernel
theorem dX1_link_34 : decode cX1_link 34 = .ok (.getfield 16, 3) := by decide +kernel
theorem dX1_link_37 : decode cX1_link 37 = .ok (.iload_n 1, 1) := by decide +kernel
theorem dX1_link_38 : decode cX1_link 38 = .ok (.aload_n 0, 1) := by decide +kernel
theorem dX1_link_39 : decode cX1_link 39 = .ok (.getfield 16, 3) := by decide +kernel
theorem dX1_link_42 : decode cX1_link 42 = .ok (.iload_n 1, 1) := by decide +kernel
theorem dX1_link_43 : decode cX1_link 43 = .ok (.iaload, 1) := by decide +kernel
theorem dX1_link_44 : decode cX1_link 44 = .ok (.aload_n 0, 1) := by decide +kernel
theorem dX1_link_45 : decode cX1_link 45 = .ok (.getfield 16, 3) := by decide +kernel
theorem dX1_link_48 : decode cX1_link 48 = .ok (.iload_n 2, 1) := by decide +kernel
theorem dX1_link_49 : decode cX1_link 49 = .ok (.iaload, 1) := by decide +kernel
theorem dX1_link_50 : decode cX1_link 50 = .ok (.iconst 1, 1) := by decide +kernel
theorem dX1_link_51 : decode cX1_link 51 = .ok (.iadd, 1) := by decide +kernel
theorem dX1_link_52 : decode cX1_link 52 = .ok (.invokestatic 158, 3) := by decide +kernel
theorem dX1_link_55 : decode cX1_link 55 = .ok (.iastore, 1) := by decide +kernel
theorem dX1_link_56 : decode cX1_link 56 = .ok (.return_, 1) := by decide +kernel
theorem dX1_markHeld_0 : decode cX1_markHeld 0 = .ok (.iconst 0, 1) := by decide +kernel
theorem dX1_markHeld_1 : decode cX1_markHeld 1 = .ok (.istore_n 1, 1) := by decide +kernel
theorem dX1_markHeld_2 : decode cX1_markHeld 2 = .ok (.iload_n 1, 1) := by decide +kernel
theorem dX1_markHeld_3 : decode cX1_markHeld 3 = .ok (.aload_n 0, 1) := by decide +kernel
theorem dX1_markHeld_4 : decode cX1_markHeld 4 = .ok (.getfield 49, 3) := by decide +kernel
theorem dX1_markHeld_7 : decode cX1_markHeld 7 = .ok (.if_icmp .ge 21, 3) := by decide +kernel
theorem dX1_markHeld_10 : decode cX1_markHeld 10 = .ok (.aload_n 0, 1) := by decide +kernel
theorem dX1_markHeld_11 : decode cX1_markHeld 11 = .ok (.getfield 32, 3) := by decide +kernel
theorem dX1_markHeld_14 : decode cX1_markHeld 14 = .ok (.iload_n 1, 1) := by decide +kernel
theorem dX1_markHeld_15 : decode cX1_markHeld 15 = .ok (.aload_n 0, 1) := by decide +kernel
theorem dX1_markHeld_16 : decode cX1_markHeld 16 = .ok (.getfield 29, 3) := by decide +kernel
theorem dX1_markHeld_19 : decode cX1_markHeld 19 = .ok (.iload_n 1, 1) := by decide +kernel
theorem dX1_markHeld_20 : decode cX1_markHeld 20 = .ok (.iaload, 1) := by decide +kernel
theorem dX1_markHeld_21 : decode cX1_markHeld 21 = .ok (.iastore, 1) := by decide +kernel
theorem dX1_markHeld_22 : decode cX1_markHeld 22 = .ok (.iinc 1 1, 3) := by decide +kernel
theorem dX1_markHeld_25 : decode cX1_markHeld 25 = .ok (.goto (-23), 3) := by decide +kernel
theorem dX1_markHeld_28 : decode cX1_markHeld 28 = .ok (.aload_n 0, 1) := by decide +kernel
theorem dX1_markHeld_29 : decode cX1_markHeld 29 = .ok (.invokevirtual 90, 3) := by decide +kernel
theorem dX1_markHeld_32 : decode cX1_markHeld 32 = .ok (.return_, 1) := by decide +kernel
theorem dX1_spreadMarks_0 : decode cX1_spreadMarks 0 = .ok (.aload_n 0, 1) := by decide +kernel
theorem dX1_spreadMarks_1 : decode cX1_spreadMarks 1 = .ok (.getfield 49, 3) := by decide +kernel
theorem dX1_spreadMarks_4 : decode cX1_spreadMarks 4 = .ok (.iconst 1, 1) := by decide +kernel
theorem dX1_spreadMarks_5 : decode cX1_spreadMarks 5 = .ok (.isub, 1) := by decide +kernel
theorem dX1_spreadMarks_6 : decode cX1_spreadMarks 6 = .ok (.istore_n 1, 1) := by decide +kernel
theorem dX1_spreadMarks_7 : decode cX1_spreadMarks 7 = .ok (.iload_n 1, 1) := by decide +kernel
theorem dX1_spreadMarks_8 : decode cX1_spreadMarks 8 = .ok (.ifCond .lt 68, 3) := by decide +kernel
theorem dX1_spreadMarks_11 : decode cX1_spreadMarks 11 = .ok (.aload_n 0, 1) := by decide +kernel
theorem dX1_spreadMarks_12 : decode cX1_spreadMarks 12 = .ok (.iload_n 1, 1) := by decide +kernel
theorem dX1_spreadMarks_13 : decode cX1_spreadMarks 13 = .ok (.invokevirtual 163, 3) := by decide +kernel
theorem dX1_spreadMarks_16 : decode cX1_spreadMarks 16 = .ok (.ifCond .eq 14, 3) := by decide +kernel
theorem dX1_spreadMarks_19 : decode cX1_spreadMarks 19 = .ok (.aload_n 0, 1) := by decide +kernel
theorem dX1_spreadMarks_20 : decode cX1_spreadMarks 20 = .ok (.getfield 32, 3) := by decide +kernel
theorem dX1_spreadMarks_23 : decode cX1_spreadMarks 23 = .ok (.iload_n 1, 1) := by decide +kernel
theorem dX1_spreadMarks_24 : decode cX1_spreadMarks 24 = .ok (.iaload, 1) := by decide +kernel
theorem dX1_spreadMarks_25 : decode cX1_spreadMarks 25 = .ok (.iconst 4, 1) := by decide +kernel
theorem dX1_spreadMarks_26 : decode cX1_spreadMarks 26 = .ok (.ior, 1) := by decide +kernel
theorem dX1_spreadMarks_27 : decode cX1_spreadMarks 27 = .ok (.goto 9, 3) := by decide +kernel
theorem dX1_spreadMarks_30 : decode cX1_spreadMarks 30 = .ok (.aload_n 0, 1) := by decide +kernel
theorem dX1_spreadMarks_31 : decode cX1_spreadMarks 31 = .ok (.getfield 32, 3) := by decide +kernel
theorem dX1_spreadMarks_34 : decode cX1_spreadMarks 34 = .ok (.iload_n 1, 1) := by decide +kernel
theorem dX1_spreadMarks_35 : decode cX1_spreadMarks 35 = .ok (.iaload, 1) := by decide +kernel
theorem dX1_spreadMarks_36 : decode cX1_spreadMarks 36 = .ok (.istore_n 2, 1) := by decide +kernel
theorem dX1_spreadMarks_37 : decode cX1_spreadMarks 37 = .ok (.iconst 0, 1) := by decide +kernel
theorem dX1_spreadMarks_38 : decode cX1_spreadMarks 38 = .ok (.istore_n 3, 1) := by decide +kernel
theorem dX1_spreadMarks_39 : decode cX1_spreadMarks 39 = .ok (.iload_n 3, 1) := by decide +kernel
theorem dX1_spreadMarks_40 : decode cX1_spreadMarks 40 = .ok (.aload_n 0, 1) := by decide +kernel
theorem dX1_spreadMarks_41 : decode cX1_spreadMarks 41 = .ok (.getfield 19, 3) := by decide +kernel
theorem dX1_spreadMarks_44 : decode cX1_spreadMarks 44 = .ok (.iload_n 1, 1) := by decide +kernel
theorem dX1_spreadMarks_45 : decode cX1_spreadMarks 45 = .ok (.iaload, 1) := by decide +kernel
theorem dX1_spreadMarks_46 : decode cX1_spreadMarks 46 = .ok (.if_icmp .ge 24, 3) := by decide +kernel
theorem dX1_spreadMarks_49 : decode cX1_spreadMarks 49 = .ok (.aload_n 0, 1) := by decide +kernel
theorem dX1_spreadMarks_50 : decode cX1_spreadMarks 50 = .ok (.getfield 32, 3) := by decide +kernel
theorem dX1_spreadMarks_53 : decode cX1_spreadMarks 53 = .ok (.aload_n 0, 1) := by decide +kernel
theorem dX1_spreadMarks_54 : decode cX1_spreadMarks 54 = .ok (.iload_n 1, 1) := by decide +kernel
theorem dX1_spreadMarks_55 : decode cX1_spreadMarks 55 = .ok (.iload_n 3, 1) := by decide +kernel
theorem dX1_spreadMarks_56 : decode cX1_spreadMarks 56 = .ok (.invokevirtual 120, 3) := by decide +kernel
theorem dX1_spreadMarks_59 : decode cX1_spreadMarks 59 = .ok (.dup2, 1) := by decide +kernel
theorem dX1_spreadMarks_60 : decode cX1_spreadMarks 60 = .ok (.iaload, 1) := by decide +kernel
theorem dX1_spreadMarks_61 : decode cX1_spreadMarks 61 = .ok (.iload_n 2, 1) := by decide +kernel
theorem dX1_spreadMarks_62 : decode cX1_spreadMarks 62 = .ok (.ior, 1) := by decide +kernel
theorem dX1_spreadMarks_63 : decode cX1_spreadMarks 63 = .ok (.iastore, 1) := by decide +kernel
theorem dX1_spreadMarks_64 : decode cX1_spreadMarks 64 = .ok (.iinc 3 1, 3) := by decide +kernel
theorem dX1_spreadMarks_67 : decode cX1_spreadMarks 67 = .ok (.goto (-28), 3) := by decide +kernel
theorem dX1_spreadMarks_70 : decode cX1_spreadMarks 70 = .ok (.iinc 1 (-1), 3) := by decide +kernel
theorem dX1_spreadMarks_73 : decode cX1_spreadMarks 73 = .ok (.goto (-66), 3) := by decide +kernel
theorem dX1_spreadMarks_76 : decode cX1_spreadMarks 76 = .ok (.return_, 1) := by decide +kernel
theorem dX1_isCommon_0 : decode cX1_isCommon 0 = .ok (.aload_n 0, 1) := by decide +kernel
theorem dX1_isCommon_1 : decode cX1_isCommon 1 = .ok (.getfield 32, 3) := by decide +kernel
theorem dX1_isCommon_4 : decode cX1_isCommon 4 = .ok (.iload_n 1, 1) := by decide +kernel
theorem dX1_isCommon_5 : decode cX1_isCommon 5 = .ok (.iaload, 1) := by decide +kernel
theorem dX1_isCommon_6 : decode cX1_isCommon 6 = .ok (.iconst 3, 1) := by decide +kernel
theorem dX1_isCommon_7 : decode cX1_isCommon 7 = .ok (.iand, 1) := by decide +kernel
theorem dX1_isCommon_8 : decode cX1_isCommon 8 = .ok (.iconst 3, 1) := by decide +kernel
theorem dX1_isCommon_9 : decode cX1_isCommon 9 = .ok (.if_icmp .ne 7, 3) := by decide +kernel
theorem dX1_isCommon_12 : decode cX1_isCommon 12 = .ok (.iconst 1, 1) := by decide +kernel
end
section
theorem dX1_isCommon_13 : decode cX1_isCommon 13 = .ok (.goto 4, 3) := by decide +kernel
theorem dX1_isCommon_16 : decode cX1_isCommon 16 = .ok (.iconst 0, 1) := by decide +kernel
theorem dX1_isCommon_17 : decode cX1_isCommon 17 = .ok (.ireturn, 1) := by decide +kernel
theorem dX1_tipsOf_0 : decode cX1_tipsOf 0 = .ok (.iconst 0, 1) := by decide +kernel
theorem dX1_tipsOf_1 : decode cX1_tipsOf 1 = .ok (.istore_n 2, 1) := by decide +kernel
theorem dX1_tipsOf_2 : decode cX1_tipsOf 2 = .ok (.iconst 0, 1) := by decide +kernel
theorem dX1_tipsOf_3 : decode cX1_tipsOf 3 = .ok (.istore_n 3, 1) := by decide +kernel
theorem dX1_tipsOf_4 : decode cX1_tipsOf 4 = .ok (.iload_n 3, 1) := by decide +kernel
theorem dX1_tipsOf_5 : decode cX1_tipsOf 5 = .ok (.aload_n 0, 1) := by decide +kernel
theorem dX1_tipsOf_6 : decode cX1_tipsOf 6 = .ok (.getfield 49, 3) := by decide +kernel
theorem dX1_tipsOf_9 : decode cX1_tipsOf 9 = .ok (.if_icmp .ge 26, 3) := by decide +kernel
theorem dX1_tipsOf_12 : decode cX1_tipsOf 12 = .ok (.aload_n 0, 1) := by decide +kernel
theorem dX1_tipsOf_13 : decode cX1_tipsOf 13 = .ok (.getfield 29, 3) := by decide +kernel
theorem dX1_tipsOf_16 : decode cX1_tipsOf 16 = .ok (.iload_n 3, 1) := by decide +kernel
theorem dX1_tipsOf_17 : decode cX1_tipsOf 17 = .ok (.iaload, 1) := by decide +kernel
theorem dX1_tipsOf_18 : decode cX1_tipsOf 18 = .ok (.iload_n 1, 1) := by decide +kernel
theorem dX1_tipsOf_19 : decode cX1_tipsOf 19 = .ok (.invokestatic 80, 3) := by decide +kernel
theorem dX1_tipsOf_22 : decode cX1_tipsOf 22 = .ok (.iand, 1) := by decide +kernel
theorem dX1_tipsOf_23 : decode cX1_tipsOf 23 = .ok (.ifCond .eq 6, 3) := by decide +kernel
theorem dX1_tipsOf_26 : decode cX1_tipsOf 26 = .ok (.iinc 2 1, 3) := by decide +kernel
theorem dX1_tipsOf_29 : decode cX1_tipsOf 29 = .ok (.iinc 3 1, 3) := by decide +kernel
theorem dX1_tipsOf_32 : decode cX1_tipsOf 32 = .ok (.goto (-28), 3) := by decide +kernel
theorem dX1_tipsOf_35 : decode cX1_tipsOf 35 = .ok (.iload_n 2, 1) := by decide +kernel
theorem dX1_tipsOf_36 : decode cX1_tipsOf 36 = .ok (.ireturn, 1) := by decide +kernel
theorem dX1_greatestGeneration_0 : decode cX1_greatestGeneration 0 = .ok (.iconst 0, 1) := by decide +kernel
theorem dX1_greatestGeneration_1 : decode cX1_greatestGeneration 1 = .ok (.istore_n 1, 1) := by decide +kernel
theorem dX1_greatestGeneration_2 : decode cX1_greatestGeneration 2 = .ok (.iconst 0, 1) := by decide +kernel
theorem dX1_greatestGeneration_3 : decode cX1_greatestGeneration 3 = .ok (.istore_n 2, 1) := by decide +kernel
theorem dX1_greatestGeneration_4 : decode cX1_greatestGeneration 4 = .ok (.iload_n 2, 1) := by decide +kernel
theorem dX1_greatestGeneration_5 : decode cX1_greatestGeneration 5 = .ok (.aload_n 0, 1) := by decide +kernel
theorem dX1_greatestGeneration_6 : decode cX1_greatestGeneration 6 = .ok (.getfield 49, 3) := by decide +kernel
theorem dX1_greatestGeneration_9 : decode cX1_greatestGeneration 9 = .ok (.if_icmp .ge 20, 3) := by decide +kernel
theorem dX1_greatestGeneration_12 : decode cX1_greatestGeneration 12 = .ok (.iload_n 1, 1) := by decide +kernel
theorem dX1_greatestGeneration_13 : decode cX1_greatestGeneration 13 = .ok (.aload_n 0, 1) := by decide +kernel
theorem dX1_greatestGeneration_14 : decode cX1_greatestGeneration 14 = .ok (.getfield 16, 3) := by decide +kernel
theorem dX1_greatestGeneration_17 : decode cX1_greatestGeneration 17 = .ok (.iload_n 2, 1) := by decide +kernel
theorem dX1_greatestGeneration_18 : decode cX1_greatestGeneration 18 = .ok (.iaload, 1) := by decide +kernel
theorem dX1_greatestGeneration_19 : decode cX1_greatestGeneration 19 = .ok (.invokestatic 158, 3) := by decide +kernel
theorem dX1_greatestGeneration_22 : decode cX1_greatestGeneration 22 = .ok (.istore_n 1, 1) := by decide +kernel
theorem dX1_greatestGeneration_23 : decode cX1_greatestGeneration 23 = .ok (.iinc 2 1, 3) := by decide +kernel
theorem dX1_greatestGeneration_26 : decode cX1_greatestGeneration 26 = .ok (.goto (-22), 3) := by decide +kernel
theorem dX1_greatestGeneration_29 : decode cX1_greatestGeneration 29 = .ok (.iload_n 1, 1) := by decide +kernel
theorem dX1_greatestGeneration_30 : decode cX1_greatestGeneration 30 = .ok (.ireturn, 1) := by decide +kernel
theorem dX1_childlessCommits_0 : decode cX1_childlessCommits 0 = .ok (.iconst 0, 1) := by decide +kernel
theorem dX1_childlessCommits_1 : decode cX1_childlessCommits 1 = .ok (.istore_n 1, 1) := by decide +kernel
theorem dX1_childlessCommits_2 : decode cX1_childlessCommits 2 = .ok (.iconst 0, 1) := by decide +kernel
theorem dX1_childlessCommits_3 : decode cX1_childlessCommits 3 = .ok (.istore_n 2, 1) := by decide +kernel
theorem dX1_childlessCommits_4 : decode cX1_childlessCommits 4 = .ok (.iload_n 2, 1) := by decide +kernel
theorem dX1_childlessCommits_5 : decode cX1_childlessCommits 5 = .ok (.aload_n 0, 1) := by decide +kernel
theorem dX1_childlessCommits_6 : decode cX1_childlessCommits 6 = .ok (.getfield 49, 3) := by decide +kernel
theorem dX1_childlessCommits_9 : decode cX1_childlessCommits 9 = .ok (.if_icmp .ge 21, 3) := by decide +kernel
theorem dX1_childlessCommits_12 : decode cX1_childlessCommits 12 = .ok (.aload_n 0, 1) := by decide +kernel
theorem dX1_childlessCommits_13 : decode cX1_childlessCommits 13 = .ok (.getfield 25, 3) := by decide +kernel
theorem dX1_childlessCommits_16 : decode cX1_childlessCommits 16 = .ok (.iload_n 2, 1) := by decide +kernel
theorem dX1_childlessCommits_17 : decode cX1_childlessCommits 17 = .ok (.baload, 1) := by decide +kernel
theorem dX1_childlessCommits_18 : decode cX1_childlessCommits 18 = .ok (.ifCond .ne 6, 3) := by decide +kernel
theorem dX1_childlessCommits_21 : decode cX1_childlessCommits 21 = .ok (.iinc 1 1, 3) := by decide +kernel
theorem dX1_childlessCommits_24 : decode cX1_childlessCommits 24 = .ok (.iinc 2 1, 3) := by decide +kernel
theorem dX1_childlessCommits_27 : decode cX1_childlessCommits 27 = .ok (.goto (-23), 3) := by decide +kernel
theorem dX1_childlessCommits_30 : decode cX1_childlessCommits 30 = .ok (.iload_n 1, 1) := by decide +kernel
theorem dX1_childlessCommits_31 : decode cX1_childlessCommits 31 = .ok (.ireturn, 1) := by decide +kernel
theorem dX1_commonCommits_0 : decode cX1_commonCommits 0 = .ok (.aload_n 0, 1) := by decide +kernel
theorem dX1_commonCommits_1 : decode cX1_commonCommits 1 = .ok (.invokevirtual 123, 3) := by decide +kernel
theorem dX1_commonCommits_4 : decode cX1_commonCommits 4 = .ok (.iconst 0, 1) := by decide +kernel
theorem dX1_commonCommits_5 : decode cX1_commonCommits 5 = .ok (.istore_n 1, 1) := by decide +kernel
theorem dX1_commonCommits_6 : decode cX1_commonCommits 6 = .ok (.iconst 0, 1) := by decide +kernel
theorem dX1_commonCommits_7 : decode cX1_commonCommits 7 = .ok (.istore_n 2, 1) := by decide +kernel
theorem dX1_commonCommits_8 : decode cX1_commonCommits 8 = .ok (.iload_n 2, 1) := by decide +kernel
theorem dX1_commonCommits_9 : decode cX1_commonCommits 9 = .ok (.aload_n 0, 1) := by decide +kernel
theorem dX1_commonCommits_10 : decode cX1_commonCommits 10 = .ok (.getfield 49, 3) := by decide +kernel
theorem dX1_commonCommits_13 : decode cX1_commonCommits 13 = .ok (.if_icmp .ge 20, 3) := by decide +kernel
theorem dX1_commonCommits_16 : decode cX1_commonCommits 16 = .ok (.aload_n 0, 1) := by decide +kernel
theorem dX1_commonCommits_17 : decode cX1_commonCommits 17 = .ok (.iload_n 2, 1) := by decide +kernel
theorem dX1_commonCommits_18 : decode cX1_commonCommits 18 = .ok (.invokevirtual 163, 3) := by decide +kernel
theorem dX1_commonCommits_21 : decode cX1_commonCommits 21 = .ok (.ifCond .eq 6, 3) := by decide +kernel
theorem dX1_commonCommits_24 : decode cX1_commonCommits 24 = .ok (.iinc 1 1, 3) := by decide +kernel
theorem dX1_commonCommits_27 : decode cX1_commonCommits 27 = .ok (.iinc 2 1, 3) := by decide +kernel
theorem dX1_commonCommits_30 : decode cX1_commonCommits 30 = .ok (.goto (-22), 3) := by decide +kernel
theorem dX1_commonCommits_33 : decode cX1_commonCommits 33 = .ok (.iload_n 1, 1) := by decide +kernel
theorem dX1_commonCommits_34 : decode cX1_commonCommits 34 = .ok (.ireturn, 1) := by decide +kernel
theorem dX1_misplacedCommits_0 : decode cX1_misplacedCommits 0 = .ok (.iconst 0, 1) := by decide +kernel
theorem dX1_misplacedCommits_1 : decode cX1_misplacedCommits 1 = .ok (.istore_n 1, 1) := by decide +kernel
theorem dX1_misplacedCommits_2 : decode cX1_misplacedCommits 2 = .ok (.iconst 0, 1) := by decide +kernel
theorem dX1_misplacedCommits_3 : decode cX1_misplacedCommits 3 = .ok (.istore_n 2, 1) := by decide +kernel
theorem dX1_misplacedCommits_4 : decode cX1_misplacedCommits 4 = .ok (.iload_n 2, 1) := by decide +kernel
theorem dX1_misplacedCommits_5 : decode cX1_misplacedCommits 5 = .ok (.aload_n 0, 1) := by decide +kernel
theorem dX1_misplacedCommits_6 : decode cX1_misplacedCommits 6 = .ok (.getfield 49, 3) := by decide +kernel
theorem dX1_misplacedCommits_9 : decode cX1_misplacedCommits 9 = .ok (.if_icmp .ge 20, 3) := by decide +kernel
theorem dX1_misplacedCommits_12 : decode cX1_misplacedCommits 12 = .ok (.aload_n 0, 1) := by decide +kernel
theorem dX1_misplacedCommits_13 : decode cX1_misplacedCommits 13 = .ok (.iload_n 2, 1) := by decide +kernel
theorem dX1_misplacedCommits_14 : decode cX1_misplacedCommits 14 = .ok (.invokevirtual 179, 3) := by decide +kernel
theorem dX1_misplacedCommits_17 : decode cX1_misplacedCommits 17 = .ok (.ifCond .eq 6, 3) := by decide +kernel
theorem dX1_misplacedCommits_20 : decode cX1_misplacedCommits 20 = .ok (.iinc 1 1, 3) := by decide +kernel
theorem dX1_misplacedCommits_23 : decode cX1_misplacedCommits 23 = .ok (.iinc 2 1, 3) := by decide +kernel
theorem dX1_misplacedCommits_26 : decode cX1_misplacedCommits 26 = .ok (.goto (-22), 3) := by decide +kernel
theorem dX1_misplacedCommits_29 : decode cX1_misplacedCommits 29 = .ok (.iload_n 1, 1) := by decide +kernel
theorem dX1_misplacedCommits_30 : decode cX1_misplacedCommits 30 = .ok (.ireturn, 1) := by decide +kernel
theorem dX1_hasParentNotBelow_0 : decode cX1_hasParentNotBelow 0 = .ok (.iconst 0, 1) := by decide +kernel
theorem dX1_hasParentNotBelow_1 : decode cX1_hasParentNotBelow 1 = .ok (.istore_n 2, 1) := by decide +kernel
theorem dX1_hasParentNotBelow_2 : decode cX1_hasParentNotBelow 2 = .ok (.iload_n 2, 1) := by decide +kernel
theorem dX1_hasParentNotBelow_3 : decode cX1_hasParentNotBelow 3 = .ok (.aload_n 0, 1) := by decide +kernel
theorem dX1_hasParentNotBelow_4 : decode cX1_hasParentNotBelow 4 = .ok (.getfield 19, 3) := by decide +kernel
theorem dX1_hasParentNotBelow_7 : decode cX1_hasParentNotBelow 7 = .ok (.iload_n 1, 1) := by decide +kernel
theorem dX1_hasParentNotBelow_8 : decode cX1_hasParentNotBelow 8 = .ok (.iaload, 1) := by decide +kernel
theorem dX1_hasParentNotBelow_9 : decode cX1_hasParentNotBelow 9 = .ok (.if_icmp .ge 21, 3) := by decide +kernel
theorem dX1_hasParentNotBelow_12 : decode cX1_hasParentNotBelow 12 = .ok (.aload_n 0, 1) := by decide +kernel
theorem dX1_hasParentNotBelow_13 : decode cX1_hasParentNotBelow 13 = .ok (.iload_n 1, 1) := by decide +kernel
theorem dX1_hasParentNotBelow_14 : decode cX1_hasParentNotBelow 14 = .ok (.iload_n 2, 1) := by decide +kernel
theorem dX1_hasParentNotBelow_15 : decode cX1_hasParentNotBelow 15 = .ok (.invokevirtual 120, 3) := by decide +kernel
theorem dX1_hasParentNotBelow_18 : decode cX1_hasParentNotBelow 18 = .ok (.iload_n 1, 1) := by decide +kernel
theorem dX1_hasParentNotBelow_19 : decode cX1_hasParentNotBelow 19 = .ok (.if_icmp .lt 5, 3) := by decide +kernel
theorem dX1_hasParentNotBelow_22 : decode cX1_hasParentNotBelow 22 = .ok (.iconst 1, 1) := by decide +kernel
theorem dX1_hasParentNotBelow_23 : decode cX1_hasParentNotBelow 23 = .ok (.ireturn, 1) := by decide +kernel
theorem dX1_hasParentNotBelow_24 : decode cX1_hasParentNotBelow 24 = .ok (.iinc 2 1, 3) := by decide +kernel
theorem dX1_hasParentNotBelow_27 : decode cX1_hasParentNotBelow 27 = .ok (.goto (-25), 3) := by decide +kernel
theorem dX1_hasParentNotBelow_30 : decode cX1_hasParentNotBelow 30 = .ok (.iconst 0, 1) := by decide +kernel
theorem dX1_hasParentNotBelow_31 : decode cX1_hasParentNotBelow 31 = .ok (.ireturn, 1) := by decide +kernel
theorem dL_add_0 : decode cL_add 0 = .ok (.aload 6, 2) := by decide +kernel
theorem dL_add_2 : decode cL_add 2 = .ok (.iconst 0, 1) := by decide +kernel
theorem dL_add_3 : decode cL_add 3 = .ok (.aload_n 0, 1) := by decide +kernel
theorem dL_add_4 : decode cL_add 4 = .ok (.iload_n 1, 1) := by decide +kernel
theorem dL_add_5 : decode cL_add 5 = .ok (.iload_n 2, 1) := by decide +kernel
theorem dL_add_6 : decode cL_add 6 = .ok (.iload_n 3, 1) := by decide +kernel
theorem dL_add_7 : decode cL_add 7 = .ok (.iload 4, 2) := by decide +kernel
theorem dL_add_9 : decode cL_add 9 = .ok (.iload 5, 2) := by decide +kernel
theorem dL_add_11 : decode cL_add 11 = .ok (.invokevirtual 7, 3) := by decide +kernel
theorem dL_add_14 : decode cL_add 14 = .ok (.i2l, 1) := by decide +kernel
theorem dL_add_15 : decode cL_add 15 = .ok (.lastore, 1) := by decide +kernel
theorem dL_add_16 : decode cL_add 16 = .ok (.goto 11, 3) := by decide +kernel
theorem dL_add_19 : decode cL_add 19 = .ok (.astore 7, 2) := by decide +kernel
theorem dL_add_21 : decode cL_add 21 = .ok (.iconst 1, 1) := by decide +kernel
theorem dL_add_22 : decode cL_add 22 = .ok (.ireturn, 1) := by decide +kernel
theorem dL_add_23 : decode cL_add 23 = .ok (.astore 7, 2) := by decide +kernel
theorem dL_add_25 : decode cL_add 25 = .ok (.iconst 2, 1) := by decide +kernel
theorem dL_add_26 : decode cL_add 26 = .ok (.ireturn, 1) := by decide +kernel
theorem dL_add_27 : decode cL_add 27 = .ok (.iconst 0, 1) := by decide +kernel
theorem dL_add_28 : decode cL_add 28 = .ok (.ireturn, 1) := by decide +kernel
theorem dL_under_0 : decode cL_under 0 = .ok (.aload_n 3, 1) := by decide +kernel
theorem dL_under_1 : decode cL_under 1 = .ok (.iconst 0, 1) := by decide +kernel
theorem dL_under_2 : decode cL_under 2 = .ok (.aload_n 0, 1) := by decide +kernel
theorem dL_under_3 : decode cL_under 3 = .ok (.iload_n 1, 1) := by decide +kernel
theorem dL_under_4 : decode cL_under 4 = .ok (.iload_n 2, 1) := by decide +kernel
theorem dL_under_5 : decode cL_under 5 = .ok (.invokevirtual 17, 3) := by decide +kernel
theorem dL_under_8 : decode cL_under 8 = .ok (.i2l, 1) := by decide +kernel
theorem dL_under_9 : decode cL_under 9 = .ok (.lastore, 1) := by decide +kernel
theorem dL_under_10 : decode cL_under 10 = .ok (.goto 11, 3) := by decide +kernel
theorem dL_under_13 : decode cL_under 13 = .ok (.astore 4, 2) := by decide +kernel
theorem dL_under_15 : decode cL_under 15 = .ok (.iconst 1, 1) := by decide +kernel
theorem dL_under_16 : decode cL_under 16 = .ok (.ireturn, 1) := by decide +kernel
theorem dL_under_17 : decode cL_under 17 = .ok (.astore 4, 2) := by decide +kernel
end
section
theorem dL_under_19 : decode cL_under 19 = .ok (.iconst 2, 1) := by decide +kernel
theorem dL_under_20 : decode cL_under 20 = .ok (.ireturn, 1) := by decide +kernel
theorem dL_under_21 : decode cL_under 21 = .ok (.iconst 0, 1) := by decide +kernel
theorem dL_under_22 : decode cL_under 22 = .ok (.ireturn, 1) := by decide +kernel
theorem dL_law_0 : decode cL_law 0 = .ok (.new 8, 3) := by decide +kernel
theorem dL_law_3 : decode cL_law 3 = .ok (.dup, 1) := by decide +kernel
theorem dL_law_4 : decode cL_law 4 = .ok (.invokespecial 47, 3) := by decide +kernel
theorem dL_law_7 : decode cL_law 7 = .ok (.astore_n 1, 1) := by decide +kernel
theorem dL_law_8 : decode cL_law 8 = .ok (.new 48, 3) := by decide +kernel
theorem dL_law_11 : decode cL_law 11 = .ok (.dup, 1) := by decide +kernel
theorem dL_law_12 : decode cL_law 12 = .ok (.invokespecial 50, 3) := by decide +kernel
theorem dL_law_15 : decode cL_law 15 = .ok (.astore_n 2, 1) := by decide +kernel
theorem dL_law_16 : decode cL_law 16 = .ok (.iconst 1, 1) := by decide +kernel
theorem dL_law_17 : decode cL_law 17 = .ok (.newarray .long, 2) := by decide +kernel
theorem dL_law_19 : decode cL_law 19 = .ok (.astore_n 3, 1) := by decide +kernel
theorem dL_law_20 : decode cL_law 20 = .ok (.iconst 0, 1) := by decide +kernel
theorem dL_law_21 : decode cL_law 21 = .ok (.istore 4, 2) := by decide +kernel
theorem dL_law_23 : decode cL_law 23 = .ok (.iload 4, 2) := by decide +kernel
theorem dL_law_25 : decode cL_law 25 = .ok (.aload_n 0, 1) := by decide +kernel
theorem dL_law_26 : decode cL_law 26 = .ok (.arraylength, 1) := by decide +kernel
theorem dL_law_27 : decode cL_law 27 = .ok (.bipush 6, 2) := by decide +kernel
theorem dL_law_29 : decode cL_law 29 = .ok (.isub, 1) := by decide +kernel
theorem dL_law_30 : decode cL_law 30 = .ok (.if_icmp .gt 772, 3) := by decide +kernel
theorem dL_law_33 : decode cL_law 33 = .ok (.aload_n 0, 1) := by decide +kernel
theorem dL_law_34 : decode cL_law 34 = .ok (.iload 4, 2) := by decide +kernel
theorem dL_law_36 : decode cL_law 36 = .ok (.iaload, 1) := by decide +kernel
theorem dL_law_37 : decode cL_law 37 = .ok (.bipush 15, 2) := by decide +kernel
theorem dL_law_39 : decode cL_law 39 = .ok (.iand, 1) := by decide +kernel
theorem dL_law_40 : decode cL_law 40 = .ok (.tableswitch 756 0 9 #[56, 160, 228, 304, 379, 459, 527, 595, 663, 731], 56) := by decide +kernel
theorem dL_law_96 : decode cL_law 96 = .ok (.aload_n 1, 1) := by decide +kernel
theorem dL_law_97 : decode cL_law 97 = .ok (.aload_n 0, 1) := by decide +kernel
theorem dL_law_98 : decode cL_law 98 = .ok (.iload 4, 2) := by decide +kernel
theorem dL_law_100 : decode cL_law 100 = .ok (.iconst 1, 1) := by decide +kernel
theorem dL_law_101 : decode cL_law 101 = .ok (.iadd, 1) := by decide +kernel
theorem dL_law_102 : decode cL_law 102 = .ok (.iaload, 1) := by decide +kernel
theorem dL_law_103 : decode cL_law 103 = .ok (.aload_n 0, 1) := by decide +kernel
theorem dL_law_104 : decode cL_law 104 = .ok (.iload 4, 2) := by decide +kernel
theorem dL_law_106 : decode cL_law 106 = .ok (.iconst 2, 1) := by decide +kernel
theorem dL_law_107 : decode cL_law 107 = .ok (.iadd, 1) := by decide +kernel
theorem dL_law_108 : decode cL_law 108 = .ok (.iaload, 1) := by decide +kernel
theorem dL_law_109 : decode cL_law 109 = .ok (.aload_n 0, 1) := by decide +kernel
theorem dL_law_110 : decode cL_law 110 = .ok (.iload 4, 2) := by decide +kernel
theorem dL_law_112 : decode cL_law 112 = .ok (.iconst 3, 1) := by decide +kernel
theorem dL_law_113 : decode cL_law 113 = .ok (.iadd, 1) := by decide +kernel
theorem dL_law_114 : decode cL_law 114 = .ok (.iaload, 1) := by decide +kernel
theorem dL_law_115 : decode cL_law 115 = .ok (.aload_n 0, 1) := by decide +kernel
theorem dL_law_116 : decode cL_law 116 = .ok (.iload 4, 2) := by decide +kernel
theorem dL_law_118 : decode cL_law 118 = .ok (.iconst 4, 1) := by decide +kernel
theorem dL_law_119 : decode cL_law 119 = .ok (.iadd, 1) := by decide +kernel
theorem dL_law_120 : decode cL_law 120 = .ok (.iaload, 1) := by decide +kernel
theorem dL_law_121 : decode cL_law 121 = .ok (.aload_n 0, 1) := by decide +kernel
theorem dL_law_122 : decode cL_law 122 = .ok (.iload 4, 2) := by decide +kernel
theorem dL_law_124 : decode cL_law 124 = .ok (.iconst 5, 1) := by decide +kernel
theorem dL_law_125 : decode cL_law 125 = .ok (.iadd, 1) := by decide +kernel
theorem dL_law_126 : decode cL_law 126 = .ok (.iaload, 1) := by decide +kernel
theorem dL_law_127 : decode cL_law 127 = .ok (.aload_n 3, 1) := by decide +kernel
theorem dL_law_128 : decode cL_law 128 = .ok (.invokestatic 51, 3) := by decide +kernel
theorem dL_law_131 : decode cL_law 131 = .ok (.istore 5, 2) := by decide +kernel
theorem dL_law_133 : decode cL_law 133 = .ok (.aload_n 2, 1) := by decide +kernel
theorem dL_law_134 : decode cL_law 134 = .ok (.aload_n 0, 1) := by decide +kernel
theorem dL_law_135 : decode cL_law 135 = .ok (.iload 4, 2) := by decide +kernel
theorem dL_law_137 : decode cL_law 137 = .ok (.iconst 1, 1) := by decide +kernel
theorem dL_law_138 : decode cL_law 138 = .ok (.iadd, 1) := by decide +kernel
theorem dL_law_139 : decode cL_law 139 = .ok (.iaload, 1) := by decide +kernel
theorem dL_law_140 : decode cL_law 140 = .ok (.aload_n 0, 1) := by decide +kernel
theorem dL_law_141 : decode cL_law 141 = .ok (.iload 4, 2) := by decide +kernel
theorem dL_law_143 : decode cL_law 143 = .ok (.iconst 2, 1) := by decide +kernel
theorem dL_law_144 : decode cL_law 144 = .ok (.iadd, 1) := by decide +kernel
theorem dL_law_145 : decode cL_law 145 = .ok (.iaload, 1) := by decide +kernel
theorem dL_law_146 : decode cL_law 146 = .ok (.aload_n 0, 1) := by decide +kernel
theorem dL_law_147 : decode cL_law 147 = .ok (.iload 4, 2) := by decide +kernel
theorem dL_law_149 : decode cL_law 149 = .ok (.iconst 3, 1) := by decide +kernel
theorem dL_law_150 : decode cL_law 150 = .ok (.iadd, 1) := by decide +kernel
theorem dL_law_151 : decode cL_law 151 = .ok (.iaload, 1) := by decide +kernel
theorem dL_law_152 : decode cL_law 152 = .ok (.aload_n 0, 1) := by decide +kernel
theorem dL_law_153 : decode cL_law 153 = .ok (.iload 4, 2) := by decide +kernel
theorem dL_law_155 : decode cL_law 155 = .ok (.iconst 4, 1) := by decide +kernel
theorem dL_law_156 : decode cL_law 156 = .ok (.iadd, 1) := by decide +kernel
theorem dL_law_157 : decode cL_law 157 = .ok (.iaload, 1) := by decide +kernel
theorem dL_law_158 : decode cL_law 158 = .ok (.aload_n 0, 1) := by decide +kernel
theorem dL_law_159 : decode cL_law 159 = .ok (.iload 4, 2) := by decide +kernel
theorem dL_law_161 : decode cL_law 161 = .ok (.iconst 5, 1) := by decide +kernel
theorem dL_law_162 : decode cL_law 162 = .ok (.iadd, 1) := by decide +kernel
theorem dL_law_163 : decode cL_law 163 = .ok (.iaload, 1) := by decide +kernel
theorem dL_law_164 : decode cL_law 164 = .ok (.invokevirtual 56, 3) := by decide +kernel
theorem dL_law_167 : decode cL_law 167 = .ok (.istore 6, 2) := by decide +kernel
theorem dL_law_169 : decode cL_law 169 = .ok (.aload_n 2, 1) := by decide +kernel
theorem dL_law_170 : decode cL_law 170 = .ok (.invokevirtual 57, 3) := by decide +kernel
theorem dL_law_173 : decode cL_law 173 = .ok (.iload 5, 2) := by decide +kernel
theorem dL_law_175 : decode cL_law 175 = .ok (.if_icmp .eq 5, 3) := by decide +kernel
theorem dL_law_178 : decode cL_law 178 = .ok (.iconst 0, 1) := by decide +kernel
theorem dL_law_179 : decode cL_law 179 = .ok (.ireturn, 1) := by decide +kernel
theorem dL_law_180 : decode cL_law 180 = .ok (.iload 5, 2) := by decide +kernel
theorem dL_law_182 : decode cL_law 182 = .ok (.ifCond .ne 15, 3) := by decide +kernel
theorem dL_law_185 : decode cL_law 185 = .ok (.aload_n 3, 1) := by decide +kernel
theorem dL_law_186 : decode cL_law 186 = .ok (.iconst 0, 1) := by decide +kernel
theorem dL_law_187 : decode cL_law 187 = .ok (.laload, 1) := by decide +kernel
theorem dL_law_188 : decode cL_law 188 = .ok (.iload 6, 2) := by decide +kernel
theorem dL_law_190 : decode cL_law 190 = .ok (.i2l, 1) := by decide +kernel
theorem dL_law_191 : decode cL_law 191 = .ok (.lcmp, 1) := by decide +kernel
theorem dL_law_192 : decode cL_law 192 = .ok (.ifCond .eq 5, 3) := by decide +kernel
theorem dL_law_195 : decode cL_law 195 = .ok (.iconst 0, 1) := by decide +kernel
theorem dL_law_196 : decode cL_law 196 = .ok (.ireturn, 1) := by decide +kernel
theorem dL_law_197 : decode cL_law 197 = .ok (.goto 599, 3) := by decide +kernel
theorem dL_law_200 : decode cL_law 200 = .ok (.aload_n 1, 1) := by decide +kernel
theorem dL_law_201 : decode cL_law 201 = .ok (.aload_n 0, 1) := by decide +kernel
theorem dL_law_202 : decode cL_law 202 = .ok (.iload 4, 2) := by decide +kernel
theorem dL_law_204 : decode cL_law 204 = .ok (.iconst 1, 1) := by decide +kernel
theorem dL_law_205 : decode cL_law 205 = .ok (.iadd, 1) := by decide +kernel
theorem dL_law_206 : decode cL_law 206 = .ok (.iaload, 1) := by decide +kernel
theorem dL_law_207 : decode cL_law 207 = .ok (.aload_n 0, 1) := by decide +kernel
theorem dL_law_208 : decode cL_law 208 = .ok (.iload 4, 2) := by decide +kernel
theorem dL_law_210 : decode cL_law 210 = .ok (.iconst 2, 1) := by decide +kernel
theorem dL_law_211 : decode cL_law 211 = .ok (.iadd, 1) := by decide +kernel
theorem dL_law_212 : decode cL_law 212 = .ok (.iaload, 1) := by decide +kernel
theorem dL_law_213 : decode cL_law 213 = .ok (.aload_n 3, 1) := by decide +kernel
theorem dL_law_214 : decode cL_law 214 = .ok (.invokestatic 61, 3) := by decide +kernel
theorem dL_law_217 : decode cL_law 217 = .ok (.istore 5, 2) := by decide +kernel
theorem dL_law_219 : decode cL_law 219 = .ok (.aload_n 2, 1) := by decide +kernel
theorem dL_law_220 : decode cL_law 220 = .ok (.aload_n 0, 1) := by decide +kernel
theorem dL_law_221 : decode cL_law 221 = .ok (.iload 4, 2) := by decide +kernel
theorem dL_law_223 : decode cL_law 223 = .ok (.iconst 1, 1) := by decide +kernel
theorem dL_law_224 : decode cL_law 224 = .ok (.iadd, 1) := by decide +kernel
theorem dL_law_225 : decode cL_law 225 = .ok (.iaload, 1) := by decide +kernel
theorem dL_law_226 : decode cL_law 226 = .ok (.aload_n 0, 1) := by decide +kernel
theorem dL_law_227 : decode cL_law 227 = .ok (.iload 4, 2) := by decide +kernel
theorem dL_law_229 : decode cL_law 229 = .ok (.iconst 2, 1) := by decide +kernel
theorem dL_law_230 : decode cL_law 230 = .ok (.iadd, 1) := by decide +kernel
theorem dL_law_231 : decode cL_law 231 = .ok (.iaload, 1) := by decide +kernel
theorem dL_law_232 : decode cL_law 232 = .ok (.invokevirtual 64, 3) := by decide +kernel
theorem dL_law_235 : decode cL_law 235 = .ok (.istore 6, 2) := by decide +kernel
theorem dL_law_237 : decode cL_law 237 = .ok (.aload_n 2, 1) := by decide +kernel
theorem dL_law_238 : decode cL_law 238 = .ok (.invokevirtual 57, 3) := by decide +kernel
theorem dL_law_241 : decode cL_law 241 = .ok (.iload 5, 2) := by decide +kernel
theorem dL_law_243 : decode cL_law 243 = .ok (.if_icmp .eq 5, 3) := by decide +kernel
theorem dL_law_246 : decode cL_law 246 = .ok (.iconst 0, 1) := by decide +kernel
theorem dL_law_247 : decode cL_law 247 = .ok (.ireturn, 1) := by decide +kernel
theorem dL_law_248 : decode cL_law 248 = .ok (.iload 5, 2) := by decide +kernel
theorem dL_law_250 : decode cL_law 250 = .ok (.ifCond .ne 15, 3) := by decide +kernel
theorem dL_law_253 : decode cL_law 253 = .ok (.aload_n 3, 1) := by decide +kernel
theorem dL_law_254 : decode cL_law 254 = .ok (.iconst 0, 1) := by decide +kernel
theorem dL_law_255 : decode cL_law 255 = .ok (.laload, 1) := by decide +kernel
theorem dL_law_256 : decode cL_law 256 = .ok (.iload 6, 2) := by decide +kernel
theorem dL_law_258 : decode cL_law 258 = .ok (.i2l, 1) := by decide +kernel
theorem dL_law_259 : decode cL_law 259 = .ok (.lcmp, 1) := by decide +kernel
theorem dL_law_260 : decode cL_law 260 = .ok (.ifCond .eq 5, 3) := by decide +kernel
theorem dL_law_263 : decode cL_law 263 = .ok (.iconst 0, 1) := by decide +kernel
theorem dL_law_264 : decode cL_law 264 = .ok (.ireturn, 1) := by decide +kernel
theorem dL_law_265 : decode cL_law 265 = .ok (.goto 531, 3) := by decide +kernel
theorem dL_law_268 : decode cL_law 268 = .ok (.aload_n 1, 1) := by decide +kernel
end
section
theorem dL_law_269 : decode cL_law 269 = .ok (.aload_n 0, 1) := by decide +kernel
theorem dL_law_270 : decode cL_law 270 = .ok (.iload 4, 2) := by decide +kernel
theorem dL_law_272 : decode cL_law 272 = .ok (.iconst 1, 1) := by decide +kernel
theorem dL_law_273 : decode cL_law 273 = .ok (.iadd, 1) := by decide +kernel
theorem dL_law_274 : decode cL_law 274 = .ok (.iaload, 1) := by decide +kernel
theorem dL_law_275 : decode cL_law 275 = .ok (.aload_n 0, 1) := by decide +kernel
theorem dL_law_276 : decode cL_law 276 = .ok (.iload 4, 2) := by decide +kernel
theorem dL_law_278 : decode cL_law 278 = .ok (.iconst 2, 1) := by decide +kernel
theorem dL_law_279 : decode cL_law 279 = .ok (.iadd, 1) := by decide +kernel
theorem dL_law_280 : decode cL_law 280 = .ok (.iaload, 1) := by decide +kernel
theorem dL_law_281 : decode cL_law 281 = .ok (.aload_n 0, 1) := by decide +kernel
theorem dL_law_282 : decode cL_law 282 = .ok (.iload 4, 2) := by decide +kernel
theorem dL_law_284 : decode cL_law 284 = .ok (.iconst 3, 1) := by decide +kernel
theorem dL_law_285 : decode cL_law 285 = .ok (.iadd, 1) := by decide +kernel
theorem dL_law_286 : decode cL_law 286 = .ok (.iaload, 1) := by decide +kernel
theorem dL_law_287 : decode cL_law 287 = .ok (.ifCond .eq 7, 3) := by decide +kernel
theorem dL_law_290 : decode cL_law 290 = .ok (.iconst 1, 1) := by decide +kernel
theorem dL_law_291 : decode cL_law 291 = .ok (.goto 4, 3) := by decide +kernel
theorem dL_law_294 : decode cL_law 294 = .ok (.iconst 0, 1) := by decide +kernel
theorem dL_law_295 : decode cL_law 295 = .ok (.invokestatic 65, 3) := by decide +kernel
theorem dL_law_298 : decode cL_law 298 = .ok (.istore 5, 2) := by decide +kernel
theorem dL_law_300 : decode cL_law 300 = .ok (.aload_n 2, 1) := by decide +kernel
theorem dL_law_301 : decode cL_law 301 = .ok (.aload_n 0, 1) := by decide +kernel
theorem dL_law_302 : decode cL_law 302 = .ok (.iload 4, 2) := by decide +kernel
theorem dL_law_304 : decode cL_law 304 = .ok (.iconst 1, 1) := by decide +kernel
theorem dL_law_305 : decode cL_law 305 = .ok (.iadd, 1) := by decide +kernel
theorem dL_law_306 : decode cL_law 306 = .ok (.iaload, 1) := by decide +kernel
theorem dL_law_307 : decode cL_law 307 = .ok (.aload_n 0, 1) := by decide +kernel
theorem dL_law_308 : decode cL_law 308 = .ok (.iload 4, 2) := by decide +kernel
theorem dL_law_310 : decode cL_law 310 = .ok (.iconst 2, 1) := by decide +kernel
theorem dL_law_311 : decode cL_law 311 = .ok (.iadd, 1) := by decide +kernel
theorem dL_law_312 : decode cL_law 312 = .ok (.iaload, 1) := by decide +kernel
theorem dL_law_313 : decode cL_law 313 = .ok (.aload_n 0, 1) := by decide +kernel
theorem dL_law_314 : decode cL_law 314 = .ok (.iload 4, 2) := by decide +kernel
theorem dL_law_316 : decode cL_law 316 = .ok (.iconst 3, 1) := by decide +kernel
theorem dL_law_317 : decode cL_law 317 = .ok (.iadd, 1) := by decide +kernel
theorem dL_law_318 : decode cL_law 318 = .ok (.iaload, 1) := by decide +kernel
theorem dL_law_319 : decode cL_law 319 = .ok (.ifCond .eq 7, 3) := by decide +kernel
theorem dL_law_322 : decode cL_law 322 = .ok (.iconst 1, 1) := by decide +kernel
theorem dL_law_323 : decode cL_law 323 = .ok (.goto 4, 3) := by decide +kernel
theorem dL_law_326 : decode cL_law 326 = .ok (.iconst 0, 1) := by decide +kernel
theorem dL_law_327 : decode cL_law 327 = .ok (.invokevirtual 68, 3) := by decide +kernel
theorem dL_law_330 : decode cL_law 330 = .ok (.aload_n 2, 1) := by decide +kernel
theorem dL_law_331 : decode cL_law 331 = .ok (.invokevirtual 57, 3) := by decide +kernel
theorem dL_law_334 : decode cL_law 334 = .ok (.iload 5, 2) := by decide +kernel
theorem dL_law_336 : decode cL_law 336 = .ok (.if_icmp .eq 5, 3) := by decide +kernel
theorem dL_law_339 : decode cL_law 339 = .ok (.iconst 0, 1) := by decide +kernel
theorem dL_law_340 : decode cL_law 340 = .ok (.ireturn, 1) := by decide +kernel
theorem dL_law_341 : decode cL_law 341 = .ok (.goto 455, 3) := by decide +kernel
theorem dL_law_344 : decode cL_law 344 = .ok (.aload_n 1, 1) := by decide +kernel
theorem dL_law_345 : decode cL_law 345 = .ok (.aload_n 0, 1) := by decide +kernel
theorem dL_law_346 : decode cL_law 346 = .ok (.iload 4, 2) := by decide +kernel
theorem dL_law_348 : decode cL_law 348 = .ok (.iconst 1, 1) := by decide +kernel
theorem dL_law_349 : decode cL_law 349 = .ok (.iadd, 1) := by decide +kernel
theorem dL_law_350 : decode cL_law 350 = .ok (.iaload, 1) := by decide +kernel
theorem dL_law_351 : decode cL_law 351 = .ok (.aload_n 0, 1) := by decide +kernel
theorem dL_law_352 : decode cL_law 352 = .ok (.iload 4, 2) := by decide +kernel
theorem dL_law_354 : decode cL_law 354 = .ok (.iconst 2, 1) := by decide +kernel
theorem dL_law_355 : decode cL_law 355 = .ok (.iadd, 1) := by decide +kernel
theorem dL_law_356 : decode cL_law 356 = .ok (.iaload, 1) := by decide +kernel
theorem dL_law_357 : decode cL_law 357 = .ok (.aload_n 3, 1) := by decide +kernel
theorem dL_law_358 : decode cL_law 358 = .ok (.invokestatic 69, 3) := by decide +kernel
theorem dL_law_361 : decode cL_law 361 = .ok (.istore 5, 2) := by decide +kernel
theorem dL_law_363 : decode cL_law 363 = .ok (.aload_n 2, 1) := by decide +kernel
theorem dL_law_364 : decode cL_law 364 = .ok (.aload_n 0, 1) := by decide +kernel
theorem dL_law_365 : decode cL_law 365 = .ok (.iload 4, 2) := by decide +kernel
theorem dL_law_367 : decode cL_law 367 = .ok (.iconst 1, 1) := by decide +kernel
theorem dL_law_368 : decode cL_law 368 = .ok (.iadd, 1) := by decide +kernel
theorem dL_law_369 : decode cL_law 369 = .ok (.iaload, 1) := by decide +kernel
theorem dL_law_370 : decode cL_law 370 = .ok (.aload_n 0, 1) := by decide +kernel
theorem dL_law_371 : decode cL_law 371 = .ok (.iload 4, 2) := by decide +kernel
theorem dL_law_373 : decode cL_law 373 = .ok (.iconst 2, 1) := by decide +kernel
theorem dL_law_374 : decode cL_law 374 = .ok (.iadd, 1) := by decide +kernel
theorem dL_law_375 : decode cL_law 375 = .ok (.iaload, 1) := by decide +kernel
theorem dL_law_376 : decode cL_law 376 = .ok (.invokevirtual 71, 3) := by decide +kernel
theorem dL_law_379 : decode cL_law 379 = .ok (.istore 6, 2) := by decide +kernel
theorem dL_law_381 : decode cL_law 381 = .ok (.aload_n 2, 1) := by decide +kernel
theorem dL_law_382 : decode cL_law 382 = .ok (.invokevirtual 57, 3) := by decide +kernel
theorem dL_law_385 : decode cL_law 385 = .ok (.iload 5, 2) := by decide +kernel
theorem dL_law_387 : decode cL_law 387 = .ok (.if_icmp .eq 5, 3) := by decide +kernel
theorem dL_law_390 : decode cL_law 390 = .ok (.iconst 0, 1) := by decide +kernel
theorem dL_law_391 : decode cL_law 391 = .ok (.ireturn, 1) := by decide +kernel
theorem dL_law_392 : decode cL_law 392 = .ok (.iload 5, 2) := by decide +kernel
theorem dL_law_394 : decode cL_law 394 = .ok (.ifCond .ne 22, 3) := by decide +kernel
theorem dL_law_397 : decode cL_law 397 = .ok (.aload_n 3, 1) := by decide +kernel
theorem dL_law_398 : decode cL_law 398 = .ok (.iconst 0, 1) := by decide +kernel
theorem dL_law_399 : decode cL_law 399 = .ok (.laload, 1) := by decide +kernel
theorem dL_law_400 : decode cL_law 400 = .ok (.iload 6, 2) := by decide +kernel
theorem dL_law_402 : decode cL_law 402 = .ok (.ifCond .eq 7, 3) := by decide +kernel
theorem dL_law_405 : decode cL_law 405 = .ok (.lconst 1, 1) := by decide +kernel
theorem dL_law_406 : decode cL_law 406 = .ok (.goto 4, 3) := by decide +kernel
theorem dL_law_409 : decode cL_law 409 = .ok (.lconst 0, 1) := by decide +kernel
theorem dL_law_410 : decode cL_law 410 = .ok (.lcmp, 1) := by decide +kernel
theorem dL_law_411 : decode cL_law 411 = .ok (.ifCond .eq 5, 3) := by decide +kernel
theorem dL_law_414 : decode cL_law 414 = .ok (.iconst 0, 1) := by decide +kernel
theorem dL_law_415 : decode cL_law 415 = .ok (.ireturn, 1) := by decide +kernel
theorem dL_law_416 : decode cL_law 416 = .ok (.goto 380, 3) := by decide +kernel
theorem dL_law_419 : decode cL_law 419 = .ok (.aload_n 1, 1) := by decide +kernel
theorem dL_law_420 : decode cL_law 420 = .ok (.aload_n 0, 1) := by decide +kernel
theorem dL_law_421 : decode cL_law 421 = .ok (.iload 4, 2) := by decide +kernel
theorem dL_law_423 : decode cL_law 423 = .ok (.iconst 1, 1) := by decide +kernel
theorem dL_law_424 : decode cL_law 424 = .ok (.iadd, 1) := by decide +kernel
theorem dL_law_425 : decode cL_law 425 = .ok (.iaload, 1) := by decide +kernel
theorem dL_law_426 : decode cL_law 426 = .ok (.aload_n 0, 1) := by decide +kernel
theorem dL_law_427 : decode cL_law 427 = .ok (.iload 4, 2) := by decide +kernel
theorem dL_law_429 : decode cL_law 429 = .ok (.iconst 2, 1) := by decide +kernel
theorem dL_law_430 : decode cL_law 430 = .ok (.iadd, 1) := by decide +kernel
theorem dL_law_431 : decode cL_law 431 = .ok (.iaload, 1) := by decide +kernel
theorem dL_law_432 : decode cL_law 432 = .ok (.aload_n 0, 1) := by decide +kernel
theorem dL_law_433 : decode cL_law 433 = .ok (.iload 4, 2) := by decide +kernel
theorem dL_law_435 : decode cL_law 435 = .ok (.iconst 3, 1) := by decide +kernel
theorem dL_law_436 : decode cL_law 436 = .ok (.iadd, 1) := by decide +kernel
theorem dL_law_437 : decode cL_law 437 = .ok (.iaload, 1) := by decide +kernel
theorem dL_law_438 : decode cL_law 438 = .ok (.aload_n 3, 1) := by decide +kernel
theorem dL_law_439 : decode cL_law 439 = .ok (.invokestatic 72, 3) := by decide +kernel
theorem dL_law_442 : decode cL_law 442 = .ok (.istore 5, 2) := by decide +kernel
theorem dL_law_444 : decode cL_law 444 = .ok (.aload_n 2, 1) := by decide +kernel
theorem dL_law_445 : decode cL_law 445 = .ok (.aload_n 0, 1) := by decide +kernel
theorem dL_law_446 : decode cL_law 446 = .ok (.iload 4, 2) := by decide +kernel
theorem dL_law_448 : decode cL_law 448 = .ok (.iconst 1, 1) := by decide +kernel
theorem dL_law_449 : decode cL_law 449 = .ok (.iadd, 1) := by decide +kernel
theorem dL_law_450 : decode cL_law 450 = .ok (.iaload, 1) := by decide +kernel
theorem dL_law_451 : decode cL_law 451 = .ok (.aload_n 0, 1) := by decide +kernel
theorem dL_law_452 : decode cL_law 452 = .ok (.iload 4, 2) := by decide +kernel
theorem dL_law_454 : decode cL_law 454 = .ok (.iconst 2, 1) := by decide +kernel
theorem dL_law_455 : decode cL_law 455 = .ok (.iadd, 1) := by decide +kernel
theorem dL_law_456 : decode cL_law 456 = .ok (.iaload, 1) := by decide +kernel
theorem dL_law_457 : decode cL_law 457 = .ok (.aload_n 0, 1) := by decide +kernel
theorem dL_law_458 : decode cL_law 458 = .ok (.iload 4, 2) := by decide +kernel
theorem dL_law_460 : decode cL_law 460 = .ok (.iconst 3, 1) := by decide +kernel
theorem dL_law_461 : decode cL_law 461 = .ok (.iadd, 1) := by decide +kernel
theorem dL_law_462 : decode cL_law 462 = .ok (.iaload, 1) := by decide +kernel
theorem dL_law_463 : decode cL_law 463 = .ok (.invokevirtual 75, 3) := by decide +kernel
theorem dL_law_466 : decode cL_law 466 = .ok (.istore 6, 2) := by decide +kernel
theorem dL_law_468 : decode cL_law 468 = .ok (.aload_n 2, 1) := by decide +kernel
theorem dL_law_469 : decode cL_law 469 = .ok (.invokevirtual 57, 3) := by decide +kernel
theorem dL_law_472 : decode cL_law 472 = .ok (.iload 5, 2) := by decide +kernel
theorem dL_law_474 : decode cL_law 474 = .ok (.if_icmp .eq 5, 3) := by decide +kernel
theorem dL_law_477 : decode cL_law 477 = .ok (.iconst 0, 1) := by decide +kernel
theorem dL_law_478 : decode cL_law 478 = .ok (.ireturn, 1) := by decide +kernel
theorem dL_law_479 : decode cL_law 479 = .ok (.iload 5, 2) := by decide +kernel
theorem dL_law_481 : decode cL_law 481 = .ok (.ifCond .ne 15, 3) := by decide +kernel
theorem dL_law_484 : decode cL_law 484 = .ok (.aload_n 3, 1) := by decide +kernel
theorem dL_law_485 : decode cL_law 485 = .ok (.iconst 0, 1) := by decide +kernel
theorem dL_law_486 : decode cL_law 486 = .ok (.laload, 1) := by decide +kernel
theorem dL_law_487 : decode cL_law 487 = .ok (.iload 6, 2) := by decide +kernel
theorem dL_law_489 : decode cL_law 489 = .ok (.i2l, 1) := by decide +kernel
theorem dL_law_490 : decode cL_law 490 = .ok (.lcmp, 1) := by decide +kernel
theorem dL_law_491 : decode cL_law 491 = .ok (.ifCond .eq 5, 3) := by decide +kernel
theorem dL_law_494 : decode cL_law 494 = .ok (.iconst 0, 1) := by decide +kernel
end
section
theorem dL_law_495 : decode cL_law 495 = .ok (.ireturn, 1) := by decide +kernel
theorem dL_law_496 : decode cL_law 496 = .ok (.goto 300, 3) := by decide +kernel
theorem dL_law_499 : decode cL_law 499 = .ok (.aload_n 1, 1) := by decide +kernel
theorem dL_law_500 : decode cL_law 500 = .ok (.aload_n 0, 1) := by decide +kernel
theorem dL_law_501 : decode cL_law 501 = .ok (.iload 4, 2) := by decide +kernel
theorem dL_law_503 : decode cL_law 503 = .ok (.iconst 1, 1) := by decide +kernel
theorem dL_law_504 : decode cL_law 504 = .ok (.iadd, 1) := by decide +kernel
theorem dL_law_505 : decode cL_law 505 = .ok (.iaload, 1) := by decide +kernel
theorem dL_law_506 : decode cL_law 506 = .ok (.aload_n 0, 1) := by decide +kernel
theorem dL_law_507 : decode cL_law 507 = .ok (.iload 4, 2) := by decide +kernel
theorem dL_law_509 : decode cL_law 509 = .ok (.iconst 2, 1) := by decide +kernel
theorem dL_law_510 : decode cL_law 510 = .ok (.iadd, 1) := by decide +kernel
theorem dL_law_511 : decode cL_law 511 = .ok (.iaload, 1) := by decide +kernel
theorem dL_law_512 : decode cL_law 512 = .ok (.aload_n 3, 1) := by decide +kernel
theorem dL_law_513 : decode cL_law 513 = .ok (.invokestatic 76, 3) := by decide +kernel
theorem dL_law_516 : decode cL_law 516 = .ok (.istore 5, 2) := by decide +kernel
theorem dL_law_518 : decode cL_law 518 = .ok (.aload_n 2, 1) := by decide +kernel
theorem dL_law_519 : decode cL_law 519 = .ok (.aload_n 0, 1) := by decide +kernel
theorem dL_law_520 : decode cL_law 520 = .ok (.iload 4, 2) := by decide +kernel
theorem dL_law_522 : decode cL_law 522 = .ok (.iconst 1, 1) := by decide +kernel
theorem dL_law_523 : decode cL_law 523 = .ok (.iadd, 1) := by decide +kernel
theorem dL_law_524 : decode cL_law 524 = .ok (.iaload, 1) := by decide +kernel
theorem dL_law_525 : decode cL_law 525 = .ok (.aload_n 0, 1) := by decide +kernel
theorem dL_law_526 : decode cL_law 526 = .ok (.iload 4, 2) := by decide +kernel
theorem dL_law_528 : decode cL_law 528 = .ok (.iconst 2, 1) := by decide +kernel
theorem dL_law_529 : decode cL_law 529 = .ok (.iadd, 1) := by decide +kernel
theorem dL_law_530 : decode cL_law 530 = .ok (.iaload, 1) := by decide +kernel
theorem dL_law_531 : decode cL_law 531 = .ok (.invokevirtual 78, 3) := by decide +kernel
theorem dL_law_534 : decode cL_law 534 = .ok (.istore 6, 2) := by decide +kernel
theorem dL_law_536 : decode cL_law 536 = .ok (.aload_n 2, 1) := by decide +kernel
theorem dL_law_537 : decode cL_law 537 = .ok (.invokevirtual 57, 3) := by decide +kernel
theorem dL_law_540 : decode cL_law 540 = .ok (.iload 5, 2) := by decide +kernel
theorem dL_law_542 : decode cL_law 542 = .ok (.if_icmp .eq 5, 3) := by decide +kernel
theorem dL_law_545 : decode cL_law 545 = .ok (.iconst 0, 1) := by decide +kernel
theorem dL_law_546 : decode cL_law 546 = .ok (.ireturn, 1) := by decide +kernel
theorem dL_law_547 : decode cL_law 547 = .ok (.iload 5, 2) := by decide +kernel
theorem dL_law_549 : decode cL_law 549 = .ok (.ifCond .ne 15, 3) := by decide +kernel
theorem dL_law_552 : decode cL_law 552 = .ok (.aload_n 3, 1) := by decide +kernel
theorem dL_law_553 : decode cL_law 553 = .ok (.iconst 0, 1) := by decide +kernel
theorem dL_law_554 : decode cL_law 554 = .ok (.laload, 1) := by decide +kernel
theorem dL_law_555 : decode cL_law 555 = .ok (.iload 6, 2) := by decide +kernel
theorem dL_law_557 : decode cL_law 557 = .ok (.i2l, 1) := by decide +kernel
theorem dL_law_558 : decode cL_law 558 = .ok (.lcmp, 1) := by decide +kernel
theorem dL_law_559 : decode cL_law 559 = .ok (.ifCond .eq 5, 3) := by decide +kernel
theorem dL_law_562 : decode cL_law 562 = .ok (.iconst 0, 1) := by decide +kernel
theorem dL_law_563 : decode cL_law 563 = .ok (.ireturn, 1) := by decide +kernel
theorem dL_law_564 : decode cL_law 564 = .ok (.goto 232, 3) := by decide +kernel
theorem dL_law_567 : decode cL_law 567 = .ok (.aload_n 1, 1) := by decide +kernel
theorem dL_law_568 : decode cL_law 568 = .ok (.aload_n 0, 1) := by decide +kernel
theorem dL_law_569 : decode cL_law 569 = .ok (.iload 4, 2) := by decide +kernel
theorem dL_law_571 : decode cL_law 571 = .ok (.iconst 1, 1) := by decide +kernel
theorem dL_law_572 : decode cL_law 572 = .ok (.iadd, 1) := by decide +kernel
theorem dL_law_573 : decode cL_law 573 = .ok (.iaload, 1) := by decide +kernel
theorem dL_law_574 : decode cL_law 574 = .ok (.aload_n 0, 1) := by decide +kernel
theorem dL_law_575 : decode cL_law 575 = .ok (.iload 4, 2) := by decide +kernel
theorem dL_law_577 : decode cL_law 577 = .ok (.iconst 2, 1) := by decide +kernel
theorem dL_law_578 : decode cL_law 578 = .ok (.iadd, 1) := by decide +kernel
theorem dL_law_579 : decode cL_law 579 = .ok (.iaload, 1) := by decide +kernel
theorem dL_law_580 : decode cL_law 580 = .ok (.aload_n 3, 1) := by decide +kernel
theorem dL_law_581 : decode cL_law 581 = .ok (.invokestatic 79, 3) := by decide +kernel
theorem dL_law_584 : decode cL_law 584 = .ok (.istore 5, 2) := by decide +kernel
theorem dL_law_586 : decode cL_law 586 = .ok (.aload_n 2, 1) := by decide +kernel
theorem dL_law_587 : decode cL_law 587 = .ok (.aload_n 0, 1) := by decide +kernel
theorem dL_law_588 : decode cL_law 588 = .ok (.iload 4, 2) := by decide +kernel
theorem dL_law_590 : decode cL_law 590 = .ok (.iconst 1, 1) := by decide +kernel
theorem dL_law_591 : decode cL_law 591 = .ok (.iadd, 1) := by decide +kernel
theorem dL_law_592 : decode cL_law 592 = .ok (.iaload, 1) := by decide +kernel
theorem dL_law_593 : decode cL_law 593 = .ok (.aload_n 0, 1) := by decide +kernel
theorem dL_law_594 : decode cL_law 594 = .ok (.iload 4, 2) := by decide +kernel
theorem dL_law_596 : decode cL_law 596 = .ok (.iconst 2, 1) := by decide +kernel
theorem dL_law_597 : decode cL_law 597 = .ok (.iadd, 1) := by decide +kernel
theorem dL_law_598 : decode cL_law 598 = .ok (.iaload, 1) := by decide +kernel
theorem dL_law_599 : decode cL_law 599 = .ok (.invokevirtual 81, 3) := by decide +kernel
theorem dL_law_602 : decode cL_law 602 = .ok (.istore 6, 2) := by decide +kernel
theorem dL_law_604 : decode cL_law 604 = .ok (.aload_n 2, 1) := by decide +kernel
theorem dL_law_605 : decode cL_law 605 = .ok (.invokevirtual 57, 3) := by decide +kernel
theorem dL_law_608 : decode cL_law 608 = .ok (.iload 5, 2) := by decide +kernel
theorem dL_law_610 : decode cL_law 610 = .ok (.if_icmp .eq 5, 3) := by decide +kernel
theorem dL_law_613 : decode cL_law 613 = .ok (.iconst 0, 1) := by decide +kernel
theorem dL_law_614 : decode cL_law 614 = .ok (.ireturn, 1) := by decide +kernel
theorem dL_law_615 : decode cL_law 615 = .ok (.iload 5, 2) := by decide +kernel
theorem dL_law_617 : decode cL_law 617 = .ok (.ifCond .ne 15, 3) := by decide +kernel
theorem dL_law_620 : decode cL_law 620 = .ok (.aload_n 3, 1) := by decide +kernel
theorem dL_law_621 : decode cL_law 621 = .ok (.iconst 0, 1) := by decide +kernel
theorem dL_law_622 : decode cL_law 622 = .ok (.laload, 1) := by decide +kernel
theorem dL_law_623 : decode cL_law 623 = .ok (.iload 6, 2) := by decide +kernel
theorem dL_law_625 : decode cL_law 625 = .ok (.i2l, 1) := by decide +kernel
theorem dL_law_626 : decode cL_law 626 = .ok (.lcmp, 1) := by decide +kernel
theorem dL_law_627 : decode cL_law 627 = .ok (.ifCond .eq 5, 3) := by decide +kernel
theorem dL_law_630 : decode cL_law 630 = .ok (.iconst 0, 1) := by decide +kernel
theorem dL_law_631 : decode cL_law 631 = .ok (.ireturn, 1) := by decide +kernel
theorem dL_law_632 : decode cL_law 632 = .ok (.goto 164, 3) := by decide +kernel
theorem dL_law_635 : decode cL_law 635 = .ok (.aload_n 1, 1) := by decide +kernel
theorem dL_law_636 : decode cL_law 636 = .ok (.aload_n 0, 1) := by decide +kernel
theorem dL_law_637 : decode cL_law 637 = .ok (.iload 4, 2) := by decide +kernel
theorem dL_law_639 : decode cL_law 639 = .ok (.iconst 1, 1) := by decide +kernel
theorem dL_law_640 : decode cL_law 640 = .ok (.iadd, 1) := by decide +kernel
theorem dL_law_641 : decode cL_law 641 = .ok (.iaload, 1) := by decide +kernel
theorem dL_law_642 : decode cL_law 642 = .ok (.aload_n 0, 1) := by decide +kernel
theorem dL_law_643 : decode cL_law 643 = .ok (.iload 4, 2) := by decide +kernel
theorem dL_law_645 : decode cL_law 645 = .ok (.iconst 2, 1) := by decide +kernel
theorem dL_law_646 : decode cL_law 646 = .ok (.iadd, 1) := by decide +kernel
theorem dL_law_647 : decode cL_law 647 = .ok (.iaload, 1) := by decide +kernel
theorem dL_law_648 : decode cL_law 648 = .ok (.aload_n 3, 1) := by decide +kernel
theorem dL_law_649 : decode cL_law 649 = .ok (.invokestatic 82, 3) := by decide +kernel
theorem dL_law_652 : decode cL_law 652 = .ok (.istore 5, 2) := by decide +kernel
theorem dL_law_654 : decode cL_law 654 = .ok (.aload_n 2, 1) := by decide +kernel
theorem dL_law_655 : decode cL_law 655 = .ok (.aload_n 0, 1) := by decide +kernel
theorem dL_law_656 : decode cL_law 656 = .ok (.iload 4, 2) := by decide +kernel
theorem dL_law_658 : decode cL_law 658 = .ok (.iconst 1, 1) := by decide +kernel
theorem dL_law_659 : decode cL_law 659 = .ok (.iadd, 1) := by decide +kernel
theorem dL_law_660 : decode cL_law 660 = .ok (.iaload, 1) := by decide +kernel
theorem dL_law_661 : decode cL_law 661 = .ok (.aload_n 0, 1) := by decide +kernel
theorem dL_law_662 : decode cL_law 662 = .ok (.iload 4, 2) := by decide +kernel
theorem dL_law_664 : decode cL_law 664 = .ok (.iconst 2, 1) := by decide +kernel
theorem dL_law_665 : decode cL_law 665 = .ok (.iadd, 1) := by decide +kernel
theorem dL_law_666 : decode cL_law 666 = .ok (.iaload, 1) := by decide +kernel
theorem dL_law_667 : decode cL_law 667 = .ok (.invokevirtual 84, 3) := by decide +kernel
theorem dL_law_670 : decode cL_law 670 = .ok (.istore 6, 2) := by decide +kernel
theorem dL_law_672 : decode cL_law 672 = .ok (.aload_n 2, 1) := by decide +kernel
theorem dL_law_673 : decode cL_law 673 = .ok (.invokevirtual 57, 3) := by decide +kernel
theorem dL_law_676 : decode cL_law 676 = .ok (.iload 5, 2) := by decide +kernel
theorem dL_law_678 : decode cL_law 678 = .ok (.if_icmp .eq 5, 3) := by decide +kernel
theorem dL_law_681 : decode cL_law 681 = .ok (.iconst 0, 1) := by decide +kernel
theorem dL_law_682 : decode cL_law 682 = .ok (.ireturn, 1) := by decide +kernel
theorem dL_law_683 : decode cL_law 683 = .ok (.iload 5, 2) := by decide +kernel
theorem dL_law_685 : decode cL_law 685 = .ok (.ifCond .ne 15, 3) := by decide +kernel
theorem dL_law_688 : decode cL_law 688 = .ok (.aload_n 3, 1) := by decide +kernel
theorem dL_law_689 : decode cL_law 689 = .ok (.iconst 0, 1) := by decide +kernel
theorem dL_law_690 : decode cL_law 690 = .ok (.laload, 1) := by decide +kernel
theorem dL_law_691 : decode cL_law 691 = .ok (.iload 6, 2) := by decide +kernel
theorem dL_law_693 : decode cL_law 693 = .ok (.i2l, 1) := by decide +kernel
theorem dL_law_694 : decode cL_law 694 = .ok (.lcmp, 1) := by decide +kernel
theorem dL_law_695 : decode cL_law 695 = .ok (.ifCond .eq 5, 3) := by decide +kernel
theorem dL_law_698 : decode cL_law 698 = .ok (.iconst 0, 1) := by decide +kernel
theorem dL_law_699 : decode cL_law 699 = .ok (.ireturn, 1) := by decide +kernel
theorem dL_law_700 : decode cL_law 700 = .ok (.goto 96, 3) := by decide +kernel
theorem dL_law_703 : decode cL_law 703 = .ok (.aload_n 1, 1) := by decide +kernel
theorem dL_law_704 : decode cL_law 704 = .ok (.aload_n 0, 1) := by decide +kernel
theorem dL_law_705 : decode cL_law 705 = .ok (.iload 4, 2) := by decide +kernel
theorem dL_law_707 : decode cL_law 707 = .ok (.iconst 1, 1) := by decide +kernel
theorem dL_law_708 : decode cL_law 708 = .ok (.iadd, 1) := by decide +kernel
theorem dL_law_709 : decode cL_law 709 = .ok (.iaload, 1) := by decide +kernel
theorem dL_law_710 : decode cL_law 710 = .ok (.aload_n 0, 1) := by decide +kernel
theorem dL_law_711 : decode cL_law 711 = .ok (.iload 4, 2) := by decide +kernel
theorem dL_law_713 : decode cL_law 713 = .ok (.iconst 2, 1) := by decide +kernel
theorem dL_law_714 : decode cL_law 714 = .ok (.iadd, 1) := by decide +kernel
theorem dL_law_715 : decode cL_law 715 = .ok (.iaload, 1) := by decide +kernel
theorem dL_law_716 : decode cL_law 716 = .ok (.aload_n 3, 1) := by decide +kernel
theorem dL_law_717 : decode cL_law 717 = .ok (.invokestatic 85, 3) := by decide +kernel
end
section
theorem dL_law_720 : decode cL_law 720 = .ok (.istore 5, 2) := by decide +kernel
theorem dL_law_722 : decode cL_law 722 = .ok (.aload_n 2, 1) := by decide +kernel
theorem dL_law_723 : decode cL_law 723 = .ok (.aload_n 0, 1) := by decide +kernel
theorem dL_law_724 : decode cL_law 724 = .ok (.iload 4, 2) := by decide +kernel
theorem dL_law_726 : decode cL_law 726 = .ok (.iconst 1, 1) := by decide +kernel
theorem dL_law_727 : decode cL_law 727 = .ok (.iadd, 1) := by decide +kernel
theorem dL_law_728 : decode cL_law 728 = .ok (.iaload, 1) := by decide +kernel
theorem dL_law_729 : decode cL_law 729 = .ok (.aload_n 0, 1) := by decide +kernel
theorem dL_law_730 : decode cL_law 730 = .ok (.iload 4, 2) := by decide +kernel
theorem dL_law_732 : decode cL_law 732 = .ok (.iconst 2, 1) := by decide +kernel
theorem dL_law_733 : decode cL_law 733 = .ok (.iadd, 1) := by decide +kernel
theorem dL_law_734 : decode cL_law 734 = .ok (.iaload, 1) := by decide +kernel
theorem dL_law_735 : decode cL_law 735 = .ok (.invokevirtual 87, 3) := by decide +kernel
theorem dL_law_738 : decode cL_law 738 = .ok (.istore 6, 2) := by decide +kernel
theorem dL_law_740 : decode cL_law 740 = .ok (.aload_n 2, 1) := by decide +kernel
theorem dL_law_741 : decode cL_law 741 = .ok (.invokevirtual 57, 3) := by decide +kernel
theorem dL_law_744 : decode cL_law 744 = .ok (.iload 5, 2) := by decide +kernel
theorem dL_law_746 : decode cL_law 746 = .ok (.if_icmp .eq 5, 3) := by decide +kernel
theorem dL_law_749 : decode cL_law 749 = .ok (.iconst 0, 1) := by decide +kernel
theorem dL_law_750 : decode cL_law 750 = .ok (.ireturn, 1) := by decide +kernel
theorem dL_law_751 : decode cL_law 751 = .ok (.iload 5, 2) := by decide +kernel
theorem dL_law_753 : decode cL_law 753 = .ok (.ifCond .ne 15, 3) := by decide +kernel
theorem dL_law_756 : decode cL_law 756 = .ok (.aload_n 3, 1) := by decide +kernel
theorem dL_law_757 : decode cL_law 757 = .ok (.iconst 0, 1) := by decide +kernel
theorem dL_law_758 : decode cL_law 758 = .ok (.laload, 1) := by decide +kernel
theorem dL_law_759 : decode cL_law 759 = .ok (.iload 6, 2) := by decide +kernel
theorem dL_law_761 : decode cL_law 761 = .ok (.i2l, 1) := by decide +kernel
theorem dL_law_762 : decode cL_law 762 = .ok (.lcmp, 1) := by decide +kernel
theorem dL_law_763 : decode cL_law 763 = .ok (.ifCond .eq 5, 3) := by decide +kernel
theorem dL_law_766 : decode cL_law 766 = .ok (.iconst 0, 1) := by decide +kernel
theorem dL_law_767 : decode cL_law 767 = .ok (.ireturn, 1) := by decide +kernel
theorem dL_law_768 : decode cL_law 768 = .ok (.goto 28, 3) := by decide +kernel
theorem dL_law_771 : decode cL_law 771 = .ok (.aload_n 1, 1) := by decide +kernel
theorem dL_law_772 : decode cL_law 772 = .ok (.aload_n 0, 1) := by decide +kernel
theorem dL_law_773 : decode cL_law 773 = .ok (.iload 4, 2) := by decide +kernel
theorem dL_law_775 : decode cL_law 775 = .ok (.iconst 1, 1) := by decide +kernel
theorem dL_law_776 : decode cL_law 776 = .ok (.iadd, 1) := by decide +kernel
theorem dL_law_777 : decode cL_law 777 = .ok (.iaload, 1) := by decide +kernel
theorem dL_law_778 : decode cL_law 778 = .ok (.invokevirtual 88, 3) := by decide +kernel
theorem dL_law_781 : decode cL_law 781 = .ok (.aload_n 2, 1) := by decide +kernel
theorem dL_law_782 : decode cL_law 782 = .ok (.aload_n 0, 1) := by decide +kernel
theorem dL_law_783 : decode cL_law 783 = .ok (.iload 4, 2) := by decide +kernel
theorem dL_law_785 : decode cL_law 785 = .ok (.iconst 1, 1) := by decide +kernel
theorem dL_law_786 : decode cL_law 786 = .ok (.iadd, 1) := by decide +kernel
theorem dL_law_787 : decode cL_law 787 = .ok (.iaload, 1) := by decide +kernel
theorem dL_law_788 : decode cL_law 788 = .ok (.invokevirtual 92, 3) := by decide +kernel
theorem dL_law_791 : decode cL_law 791 = .ok (.if_icmp .eq 5, 3) := by decide +kernel
theorem dL_law_794 : decode cL_law 794 = .ok (.iconst 0, 1) := by decide +kernel
theorem dL_law_795 : decode cL_law 795 = .ok (.ireturn, 1) := by decide +kernel
theorem dL_law_796 : decode cL_law 796 = .ok (.iinc 4 6, 3) := by decide +kernel
theorem dL_law_799 : decode cL_law 799 = .ok (.goto (-776), 3) := by decide +kernel
theorem dL_law_802 : decode cL_law 802 = .ok (.iconst 1, 1) := by decide +kernel
theorem dL_law_803 : decode cL_law 803 = .ok (.ireturn, 1) := by decide +kernel
end
section
abbrev cX1_under : ByteArray := prog_1_method_3_code
def yX1_under : MethodName := ⟨RX1, "under", "(II)I"⟩
abbrev cL_tip : ByteArray := method_5_code
def yL_tip : MethodName := ⟨RL, "tip", "(LAncestryNet;IIZ)I"⟩
abbrev cX1_tip : ByteArray := prog_1_method_4_code
def yX1_tip : MethodName := ⟨RX1, "tip", "(IIZ)V"⟩
abbrev cX1_checkHolder : ByteArray := prog_1_method_14_code
def yX1_checkHolder : MethodName := ⟨RX1, "checkHolder", "(I)V"⟩
abbrev cL_reaches : ByteArray := method_6_code
def yL_reaches : MethodName := ⟨RL, "reaches", "(LAncestryNet;II[J)I"⟩
abbrev cX1_reaches : ByteArray := prog_1_method_5_code
def yX1_reaches : MethodName := ⟨RX1, "reaches", "(II)Z"⟩
abbrev cX1_markReachable : ByteArray := prog_1_method_21_code
def yX1_markReachable : MethodName := ⟨RX1, "markReachable", "(I)V"⟩
abbrev cX1_clearMarks : ByteArray := prog_1_method_20_code
def yX1_clearMarks : MethodName := ⟨RX1, "clearMarks", "()V"⟩
abbrev cL_base : ByteArray := method_7_code
def yL_base : MethodName := ⟨RL, "base", "(LAncestryNet;III[J)I"⟩
abbrev cX1_base : ByteArray := prog_1_method_6_code
def yX1_base : MethodName := ⟨RX1, "base", "(III)I"⟩
abbrev cX0_clear : ByteArray := prog_2_method_2_code
def yX0_clear : MethodName := ⟨RX0, "clear", "()V"⟩
abbrev cX1_queueInTheOrder : ByteArray := prog_1_method_26_code
def yX1_queueInTheOrder : MethodName := ⟨RX1, "queueInTheOrder", "(I)V"⟩
abbrev cX0_put : ByteArray := prog_2_method_4_code
def yX0_put : MethodName := ⟨RX0, "put", "(III)V"⟩
abbrev cX0_rise : ByteArray := prog_2_method_6_code
def yX0_rise : MethodName := ⟨RX0, "rise", "()V"⟩
abbrev cX0_comesBefore : ByteArray := prog_2_method_8_code
def yX0_comesBefore : MethodName := ⟨RX0, "comesBefore", "(II)Z"⟩
abbrev cX0_swap : ByteArray := prog_2_method_9_code
def yX0_swap : MethodName := ⟨RX0, "swap", "(II)V"⟩
abbrev cX1_queuedAt : ByteArray := prog_1_method_27_code
def yX1_queuedAt : MethodName := ⟨RX1, "queuedAt", "(I)I"⟩
abbrev cX0_size : ByteArray := prog_2_method_3_code
def yX0_size : MethodName := ⟨RX0, "size", "()I"⟩
abbrev cX1_checkPlace : ByteArray := prog_1_method_15_code
def yX1_checkPlace : MethodName := ⟨RX1, "checkPlace", "(II)V"⟩
abbrev cX0_take : ByteArray := prog_2_method_5_code
def yX0_take : MethodName := ⟨RX0, "take", "()I"⟩
abbrev cX0_sink : ByteArray := prog_2_method_7_code
def yX0_sink : MethodName := ⟨RX0, "sink", "()V"⟩
abbrev cL_log : ByteArray := method_8_code
def yL_log : MethodName := ⟨RL, "log", "(LAncestryNet;II[J)I"⟩
abbrev cX1_log : ByteArray := prog_1_method_7_code
def yX1_log : MethodName := ⟨RX1, "log", "(II)I"⟩
abbrev cX1_markedCommits : ByteArray := prog_1_method_25_code
def yX1_markedCommits : MethodName := ⟨RX1, "markedCommits", "()I"⟩
abbrev cX1_toldAt : ByteArray := prog_1_method_28_code
def yX1_toldAt : MethodName := ⟨RX1, "toldAt", "(II)I"⟩
abbrev cX1_countUntoldLinks : ByteArray := prog_1_method_29_code
def yX1_countUntoldLinks : MethodName := ⟨RX1, "countUntoldLinks", "()V"⟩
abbrev cX1_tellNext : ByteArray := prog_1_method_30_code
def yX1_tellNext : MethodName := ⟨RX1, "tellNext", "()V"⟩
abbrev cL_back : ByteArray := method_9_code
def yL_back : MethodName := ⟨RL, "back", "(LAncestryNet;II[J)I"⟩
abbrev cX1_back : ByteArray := prog_1_method_8_code
def yX1_back : MethodName := ⟨RX1, "back", "(II)I"⟩
abbrev cL_sent : ByteArray := method_10_code
def yL_sent : MethodName := ⟨RL, "sent", "(LAncestryNet;II[J)I"⟩
abbrev cX1_sent : ByteArray := prog_1_method_9_code
def yX1_sent : MethodName := ⟨RX1, "sent", "(II)I"⟩
abbrev cL_told : ByteArray := method_11_code
def yL_told : MethodName := ⟨RL, "told", "(LAncestryNet;II[J)I"⟩
abbrev cX1_told : ByteArray := prog_1_method_10_code
def yX1_told : MethodName := ⟨RX1, "told", "(II)I"⟩
abbrev cX2_init : ByteArray := prog_4_method_1_code
def yX2_init : MethodName := ⟨RX2, "<init>", "()V"⟩
abbrev cX2_thrown : ByteArray := prog_4_method_2_code
def yX2_thrown : MethodName := ⟨RX2, "thrown", "()I"⟩
abbrev cX2_add : ByteArray := prog_4_method_5_code
def yX2_add : MethodName := ⟨RX2, "add", "(IIIII)I"⟩
abbrev cX2_refuse : ByteArray := prog_4_method_3_code
def yX2_refuse : MethodName := ⟨RX2, "refuse", "(I)I"⟩
abbrev cX2_join : ByteArray := prog_4_method_6_code
def yX2_join : MethodName := ⟨RX2, "join", "(II)V"⟩
abbrev cX2_under : ByteArray := prog_4_method_9_code
def yX2_under : MethodName := ⟨RX2, "under", "(II)I"⟩
abbrev cX2_there : ByteArray := prog_4_method_4_code
def yX2_there : MethodName := ⟨RX2, "there", "(I)Z"⟩
abbrev cX2_isAnyParent : ByteArray := prog_4_method_8_code
def yX2_isAnyParent : MethodName := ⟨RX2, "isAnyParent", "(I)Z"⟩
abbrev cX2_isParent : ByteArray := prog_4_method_7_code
def yX2_isParent : MethodName := ⟨RX2, "isParent", "(II)Z"⟩
abbrev cX2_tip : ByteArray := prog_4_method_10_code
def yX2_tip : MethodName := ⟨RX2, "tip", "(IIZ)V"⟩
abbrev cX2_reaches : ByteArray := prog_4_method_13_code
def yX2_reaches : MethodName := ⟨RX2, "reaches", "(II)Z"⟩
abbrev cX2_from : ByteArray := prog_4_method_12_code
def yX2_from : MethodName := ⟨RX2, "from", "(I[Z)V"⟩
abbrev cX2_close : ByteArray := prog_4_method_11_code
def yX2_close : MethodName := ⟨RX2, "close", "([Z)V"⟩
abbrev cX2_base : ByteArray := prog_4_method_17_code
def yX2_base : MethodName := ⟨RX2, "base", "(III)I"⟩
abbrev cX2_order : ByteArray := prog_4_method_15_code
def yX2_order : MethodName := ⟨RX2, "order", "()V"⟩
abbrev cX2_before : ByteArray := prog_4_method_14_code
def yX2_before : MethodName := ⟨RX2, "before", "(II)Z"⟩
abbrev cX2_pick : ByteArray := prog_4_method_16_code
def yX2_pick : MethodName := ⟨RX2, "pick", "(I)I"⟩
abbrev cX2_log : ByteArray := prog_4_method_19_code
def yX2_log : MethodName := ⟨RX2, "log", "(II)I"⟩
abbrev cX2_free : ByteArray := prog_4_method_18_code
def yX2_free : MethodName := ⟨RX2, "free", "(I)Z"⟩
abbrev cX2_back : ByteArray := prog_4_method_20_code
def yX2_back : MethodName := ⟨RX2, "back", "(II)I"⟩
abbrev cX2_sent : ByteArray := prog_4_method_23_code
def yX2_sent : MethodName := ⟨RX2, "sent", "(II)I"⟩
abbrev cX2_held : ByteArray := prog_4_method_22_code
def yX2_held : MethodName := ⟨RX2, "held", "(I[Z)V"⟩
abbrev cX2_generation : ByteArray := prog_4_method_21_code
def yX2_generation : MethodName := ⟨RX2, "generation", "(I)I"⟩
abbrev cX2_told : ByteArray := prog_4_method_24_code
def yX2_told : MethodName := ⟨RX2, "told", "(II)I"⟩
abbrev cX2_count : ByteArray := prog_4_method_25_code
def yX2_count : MethodName := ⟨RX2, "count", "(I)I"⟩
end
section
theorem dX0_clear_0 : decode cX0_clear 0 = .ok (.aload_n 0, 1) := by decide +kernel
theorem dX0_clear_1 : decode cX0_clear 1 = .ok (.iconst 0, 1) := by decide +kernel
theorem dX0_clear_2 : decode cX0_clear 2 = .ok (.putfield 21, 3) := by decide +kernel
theorem dX0_clear_5 : decode cX0_clear 5 = .ok (.return_, 1) := by decide +kernel
theorem dX0_put_0 : decode cX0_put 0 = .ok (.aload_n 0, 1) := by decide +kernel
theorem dX0_put_1 : decode cX0_put 1 = .ok (.getfield 21, 3) := by decide +kernel
theorem dX0_put_4 : decode cX0_put 4 = .ok (.sipush 2000, 3) := by decide +kernel
theorem dX0_put_7 : decode cX0_put 7 = .ok (.if_icmp .lt 4, 3) := by decide +kernel
theorem dX0_put_10 : decode cX0_put 10 = .ok (.return_, 1) := by decide +kernel
theorem dX0_put_11 : decode cX0_put 11 = .ok (.aload_n 0, 1) := by decide +kernel
theorem dX0_put_12 : decode cX0_put 12 = .ok (.getfield 9, 3) := by decide +kernel
theorem dX0_put_15 : decode cX0_put 15 = .ok (.aload_n 0, 1) := by decide +kernel
theorem dX0_put_16 : decode cX0_put 16 = .ok (.getfield 21, 3) := by decide +kernel
theorem dX0_put_19 : decode cX0_put 19 = .ok (.iload_n 1, 1) := by decide +kernel
theorem dX0_put_20 : decode cX0_put 20 = .ok (.iastore, 1) := by decide +kernel
theorem dX0_put_21 : decode cX0_put 21 = .ok (.aload_n 0, 1) := by decide +kernel
theorem dX0_put_22 : decode cX0_put 22 = .ok (.getfield 15, 3) := by decide +kernel
theorem dX0_put_25 : decode cX0_put 25 = .ok (.aload_n 0, 1) := by decide +kernel
theorem dX0_put_26 : decode cX0_put 26 = .ok (.getfield 21, 3) := by decide +kernel
theorem dX0_put_29 : decode cX0_put 29 = .ok (.iload_n 2, 1) := by decide +kernel
theorem dX0_put_30 : decode cX0_put 30 = .ok (.iastore, 1) := by decide +kernel
theorem dX0_put_31 : decode cX0_put 31 = .ok (.aload_n 0, 1) := by decide +kernel
theorem dX0_put_32 : decode cX0_put 32 = .ok (.getfield 18, 3) := by decide +kernel
theorem dX0_put_35 : decode cX0_put 35 = .ok (.aload_n 0, 1) := by decide +kernel
theorem dX0_put_36 : decode cX0_put 36 = .ok (.getfield 21, 3) := by decide +kernel
theorem dX0_put_39 : decode cX0_put 39 = .ok (.iload_n 3, 1) := by decide +kernel
theorem dX0_put_40 : decode cX0_put 40 = .ok (.iastore, 1) := by decide +kernel
theorem dX0_put_41 : decode cX0_put 41 = .ok (.aload_n 0, 1) := by decide +kernel
theorem dX0_put_42 : decode cX0_put 42 = .ok (.dup, 1) := by decide +kernel
theorem dX0_put_43 : decode cX0_put 43 = .ok (.getfield 21, 3) := by decide +kernel
theorem dX0_put_46 : decode cX0_put 46 = .ok (.iconst 1, 1) := by decide +kernel
theorem dX0_put_47 : decode cX0_put 47 = .ok (.iadd, 1) := by decide +kernel
theorem dX0_put_48 : decode cX0_put 48 = .ok (.putfield 21, 3) := by decide +kernel
theorem dX0_put_51 : decode cX0_put 51 = .ok (.aload_n 0, 1) := by decide +kernel
theorem dX0_put_52 : decode cX0_put 52 = .ok (.invokevirtual 25, 3) := by decide +kernel
theorem dX0_put_55 : decode cX0_put 55 = .ok (.return_, 1) := by decide +kernel
theorem dX0_rise_0 : decode cX0_rise 0 = .ok (.aload_n 0, 1) := by decide +kernel
theorem dX0_rise_1 : decode cX0_rise 1 = .ok (.getfield 21, 3) := by decide +kernel
theorem dX0_rise_4 : decode cX0_rise 4 = .ok (.iconst 1, 1) := by decide +kernel
theorem dX0_rise_5 : decode cX0_rise 5 = .ok (.isub, 1) := by decide +kernel
theorem dX0_rise_6 : decode cX0_rise 6 = .ok (.istore_n 1, 1) := by decide +kernel
theorem dX0_rise_7 : decode cX0_rise 7 = .ok (.iload_n 1, 1) := by decide +kernel
theorem dX0_rise_8 : decode cX0_rise 8 = .ok (.ifCond .le 34, 3) := by decide +kernel
theorem dX0_rise_11 : decode cX0_rise 11 = .ok (.iload_n 1, 1) := by decide +kernel
theorem dX0_rise_12 : decode cX0_rise 12 = .ok (.iconst 1, 1) := by decide +kernel
theorem dX0_rise_13 : decode cX0_rise 13 = .ok (.isub, 1) := by decide +kernel
theorem dX0_rise_14 : decode cX0_rise 14 = .ok (.iconst 2, 1) := by decide +kernel
theorem dX0_rise_15 : decode cX0_rise 15 = .ok (.idiv, 1) := by decide +kernel
theorem dX0_rise_16 : decode cX0_rise 16 = .ok (.istore_n 2, 1) := by decide +kernel
theorem dX0_rise_17 : decode cX0_rise 17 = .ok (.aload_n 0, 1) := by decide +kernel
theorem dX0_rise_18 : decode cX0_rise 18 = .ok (.iload_n 2, 1) := by decide +kernel
theorem dX0_rise_19 : decode cX0_rise 19 = .ok (.iload_n 1, 1) := by decide +kernel
theorem dX0_rise_20 : decode cX0_rise 20 = .ok (.invokevirtual 35, 3) := by decide +kernel
theorem dX0_rise_23 : decode cX0_rise 23 = .ok (.ifCond .eq 4, 3) := by decide +kernel
theorem dX0_rise_26 : decode cX0_rise 26 = .ok (.return_, 1) := by decide +kernel
theorem dX0_rise_27 : decode cX0_rise 27 = .ok (.aload_n 0, 1) := by decide +kernel
theorem dX0_rise_28 : decode cX0_rise 28 = .ok (.iload_n 2, 1) := by decide +kernel
theorem dX0_rise_29 : decode cX0_rise 29 = .ok (.iload_n 1, 1) := by decide +kernel
theorem dX0_rise_30 : decode cX0_rise 30 = .ok (.invokevirtual 28, 3) := by decide +kernel
theorem dX0_rise_33 : decode cX0_rise 33 = .ok (.iload_n 1, 1) := by decide +kernel
theorem dX0_rise_34 : decode cX0_rise 34 = .ok (.iconst 1, 1) := by decide +kernel
theorem dX0_rise_35 : decode cX0_rise 35 = .ok (.isub, 1) := by decide +kernel
theorem dX0_rise_36 : decode cX0_rise 36 = .ok (.iconst 2, 1) := by decide +kernel
theorem dX0_rise_37 : decode cX0_rise 37 = .ok (.idiv, 1) := by decide +kernel
theorem dX0_rise_38 : decode cX0_rise 38 = .ok (.istore_n 1, 1) := by decide +kernel
theorem dX0_rise_39 : decode cX0_rise 39 = .ok (.goto (-32), 3) := by decide +kernel
theorem dX0_rise_42 : decode cX0_rise 42 = .ok (.return_, 1) := by decide +kernel
theorem dX0_comesBefore_0 : decode cX0_comesBefore 0 = .ok (.aload_n 0, 1) := by decide +kernel
theorem dX0_comesBefore_1 : decode cX0_comesBefore 1 = .ok (.getfield 9, 3) := by decide +kernel
theorem dX0_comesBefore_4 : decode cX0_comesBefore 4 = .ok (.iload_n 1, 1) := by decide +kernel
theorem dX0_comesBefore_5 : decode cX0_comesBefore 5 = .ok (.iaload, 1) := by decide +kernel
theorem dX0_comesBefore_6 : decode cX0_comesBefore 6 = .ok (.aload_n 0, 1) := by decide +kernel
theorem dX0_comesBefore_7 : decode cX0_comesBefore 7 = .ok (.getfield 9, 3) := by decide +kernel
theorem dX0_comesBefore_10 : decode cX0_comesBefore 10 = .ok (.iload_n 2, 1) := by decide +kernel
theorem dX0_comesBefore_11 : decode cX0_comesBefore 11 = .ok (.iaload, 1) := by decide +kernel
theorem dX0_comesBefore_12 : decode cX0_comesBefore 12 = .ok (.if_icmp .eq 24, 3) := by decide +kernel
theorem dX0_comesBefore_15 : decode cX0_comesBefore 15 = .ok (.aload_n 0, 1) := by decide +kernel
theorem dX0_comesBefore_16 : decode cX0_comesBefore 16 = .ok (.getfield 9, 3) := by decide +kernel
theorem dX0_comesBefore_19 : decode cX0_comesBefore 19 = .ok (.iload_n 1, 1) := by decide +kernel
theorem dX0_comesBefore_20 : decode cX0_comesBefore 20 = .ok (.iaload, 1) := by decide +kernel
theorem dX0_comesBefore_21 : decode cX0_comesBefore 21 = .ok (.aload_n 0, 1) := by decide +kernel
theorem dX0_comesBefore_22 : decode cX0_comesBefore 22 = .ok (.getfield 9, 3) := by decide +kernel
theorem dX0_comesBefore_25 : decode cX0_comesBefore 25 = .ok (.iload_n 2, 1) := by decide +kernel
theorem dX0_comesBefore_26 : decode cX0_comesBefore 26 = .ok (.iaload, 1) := by decide +kernel
theorem dX0_comesBefore_27 : decode cX0_comesBefore 27 = .ok (.if_icmp .ge 7, 3) := by decide +kernel
theorem dX0_comesBefore_30 : decode cX0_comesBefore 30 = .ok (.iconst 1, 1) := by decide +kernel
theorem dX0_comesBefore_31 : decode cX0_comesBefore 31 = .ok (.goto 4, 3) := by decide +kernel
theorem dX0_comesBefore_34 : decode cX0_comesBefore 34 = .ok (.iconst 0, 1) := by decide +kernel
theorem dX0_comesBefore_35 : decode cX0_comesBefore 35 = .ok (.ireturn, 1) := by decide +kernel
theorem dX0_comesBefore_36 : decode cX0_comesBefore 36 = .ok (.aload_n 0, 1) := by decide +kernel
theorem dX0_comesBefore_37 : decode cX0_comesBefore 37 = .ok (.getfield 15, 3) := by decide +kernel
theorem dX0_comesBefore_40 : decode cX0_comesBefore 40 = .ok (.iload_n 1, 1) := by decide +kernel
theorem dX0_comesBefore_41 : decode cX0_comesBefore 41 = .ok (.iaload, 1) := by decide +kernel
theorem dX0_comesBefore_42 : decode cX0_comesBefore 42 = .ok (.aload_n 0, 1) := by decide +kernel
theorem dX0_comesBefore_43 : decode cX0_comesBefore 43 = .ok (.getfield 15, 3) := by decide +kernel
theorem dX0_comesBefore_46 : decode cX0_comesBefore 46 = .ok (.iload_n 2, 1) := by decide +kernel
theorem dX0_comesBefore_47 : decode cX0_comesBefore 47 = .ok (.iaload, 1) := by decide +kernel
theorem dX0_comesBefore_48 : decode cX0_comesBefore 48 = .ok (.if_icmp .eq 24, 3) := by decide +kernel
theorem dX0_comesBefore_51 : decode cX0_comesBefore 51 = .ok (.aload_n 0, 1) := by decide +kernel
theorem dX0_comesBefore_52 : decode cX0_comesBefore 52 = .ok (.getfield 15, 3) := by decide +kernel
theorem dX0_comesBefore_55 : decode cX0_comesBefore 55 = .ok (.iload_n 1, 1) := by decide +kernel
theorem dX0_comesBefore_56 : decode cX0_comesBefore 56 = .ok (.iaload, 1) := by decide +kernel
theorem dX0_comesBefore_57 : decode cX0_comesBefore 57 = .ok (.aload_n 0, 1) := by decide +kernel
theorem dX0_comesBefore_58 : decode cX0_comesBefore 58 = .ok (.getfield 15, 3) := by decide +kernel
theorem dX0_comesBefore_61 : decode cX0_comesBefore 61 = .ok (.iload_n 2, 1) := by decide +kernel
theorem dX0_comesBefore_62 : decode cX0_comesBefore 62 = .ok (.iaload, 1) := by decide +kernel
theorem dX0_comesBefore_63 : decode cX0_comesBefore 63 = .ok (.if_icmp .ge 7, 3) := by decide +kernel
theorem dX0_comesBefore_66 : decode cX0_comesBefore 66 = .ok (.iconst 1, 1) := by decide +kernel
theorem dX0_comesBefore_67 : decode cX0_comesBefore 67 = .ok (.goto 4, 3) := by decide +kernel
theorem dX0_comesBefore_70 : decode cX0_comesBefore 70 = .ok (.iconst 0, 1) := by decide +kernel
theorem dX0_comesBefore_71 : decode cX0_comesBefore 71 = .ok (.ireturn, 1) := by decide +kernel
theorem dX0_comesBefore_72 : decode cX0_comesBefore 72 = .ok (.aload_n 0, 1) := by decide +kernel
theorem dX0_comesBefore_73 : decode cX0_comesBefore 73 = .ok (.getfield 18, 3) := by decide +kernel
theorem dX0_comesBefore_76 : decode cX0_comesBefore 76 = .ok (.iload_n 1, 1) := by decide +kernel
theorem dX0_comesBefore_77 : decode cX0_comesBefore 77 = .ok (.iaload, 1) := by decide +kernel
theorem dX0_comesBefore_78 : decode cX0_comesBefore 78 = .ok (.aload_n 0, 1) := by decide +kernel
theorem dX0_comesBefore_79 : decode cX0_comesBefore 79 = .ok (.getfield 18, 3) := by decide +kernel
theorem dX0_comesBefore_82 : decode cX0_comesBefore 82 = .ok (.iload_n 2, 1) := by decide +kernel
theorem dX0_comesBefore_83 : decode cX0_comesBefore 83 = .ok (.iaload, 1) := by decide +kernel
theorem dX0_comesBefore_84 : decode cX0_comesBefore 84 = .ok (.if_icmp .ge 7, 3) := by decide +kernel
theorem dX0_comesBefore_87 : decode cX0_comesBefore 87 = .ok (.iconst 1, 1) := by decide +kernel
theorem dX0_comesBefore_88 : decode cX0_comesBefore 88 = .ok (.goto 4, 3) := by decide +kernel
theorem dX0_comesBefore_91 : decode cX0_comesBefore 91 = .ok (.iconst 0, 1) := by decide +kernel
theorem dX0_comesBefore_92 : decode cX0_comesBefore 92 = .ok (.ireturn, 1) := by decide +kernel
theorem dX0_swap_0 : decode cX0_swap 0 = .ok (.aload_n 0, 1) := by decide +kernel
theorem dX0_swap_1 : decode cX0_swap 1 = .ok (.getfield 9, 3) := by decide +kernel
theorem dX0_swap_4 : decode cX0_swap 4 = .ok (.iload_n 1, 1) := by decide +kernel
theorem dX0_swap_5 : decode cX0_swap 5 = .ok (.iaload, 1) := by decide +kernel
theorem dX0_swap_6 : decode cX0_swap 6 = .ok (.istore_n 3, 1) := by decide +kernel
theorem dX0_swap_7 : decode cX0_swap 7 = .ok (.aload_n 0, 1) := by decide +kernel
theorem dX0_swap_8 : decode cX0_swap 8 = .ok (.getfield 9, 3) := by decide +kernel
theorem dX0_swap_11 : decode cX0_swap 11 = .ok (.iload_n 1, 1) := by decide +kernel
theorem dX0_swap_12 : decode cX0_swap 12 = .ok (.aload_n 0, 1) := by decide +kernel
theorem dX0_swap_13 : decode cX0_swap 13 = .ok (.getfield 9, 3) := by decide +kernel
theorem dX0_swap_16 : decode cX0_swap 16 = .ok (.iload_n 2, 1) := by decide +kernel
theorem dX0_swap_17 : decode cX0_swap 17 = .ok (.iaload, 1) := by decide +kernel
theorem dX0_swap_18 : decode cX0_swap 18 = .ok (.iastore, 1) := by decide +kernel
theorem dX0_swap_19 : decode cX0_swap 19 = .ok (.aload_n 0, 1) := by decide +kernel
theorem dX0_swap_20 : decode cX0_swap 20 = .ok (.getfield 9, 3) := by decide +kernel
theorem dX0_swap_23 : decode cX0_swap 23 = .ok (.iload_n 2, 1) := by decide +kernel
theorem dX0_swap_24 : decode cX0_swap 24 = .ok (.iload_n 3, 1) := by decide +kernel
theorem dX0_swap_25 : decode cX0_swap 25 = .ok (.iastore, 1) := by decide +kernel
theorem dX0_swap_26 : decode cX0_swap 26 = .ok (.aload_n 0, 1) := by decide +kernel
theorem dX0_swap_27 : decode cX0_swap 27 = .ok (.getfield 15, 3) := by decide +kernel
theorem dX0_swap_30 : decode cX0_swap 30 = .ok (.iload_n 1, 1) := by decide +kernel
theorem dX0_swap_31 : decode cX0_swap 31 = .ok (.iaload, 1) := by decide +kernel
theorem dX0_swap_32 : decode cX0_swap 32 = .ok (.istore 4, 2) := by decide +kernel
theorem dX0_swap_34 : decode cX0_swap 34 = .ok (.aload_n 0, 1) := by decide +kernel
theorem dX0_swap_35 : decode cX0_swap 35 = .ok (.getfield 15, 3) := by decide +kernel
theorem dX0_swap_38 : decode cX0_swap 38 = .ok (.iload_n 1, 1) := by decide +kernel
end
section
theorem dX0_swap_39 : decode cX0_swap 39 = .ok (.aload_n 0, 1) := by decide +kernel
theorem dX0_swap_40 : decode cX0_swap 40 = .ok (.getfield 15, 3) := by decide +kernel
theorem dX0_swap_43 : decode cX0_swap 43 = .ok (.iload_n 2, 1) := by decide +kernel
theorem dX0_swap_44 : decode cX0_swap 44 = .ok (.iaload, 1) := by decide +kernel
theorem dX0_swap_45 : decode cX0_swap 45 = .ok (.iastore, 1) := by decide +kernel
theorem dX0_swap_46 : decode cX0_swap 46 = .ok (.aload_n 0, 1) := by decide +kernel
theorem dX0_swap_47 : decode cX0_swap 47 = .ok (.getfield 15, 3) := by decide +kernel
theorem dX0_swap_50 : decode cX0_swap 50 = .ok (.iload_n 2, 1) := by decide +kernel
theorem dX0_swap_51 : decode cX0_swap 51 = .ok (.iload 4, 2) := by decide +kernel
theorem dX0_swap_53 : decode cX0_swap 53 = .ok (.iastore, 1) := by decide +kernel
theorem dX0_swap_54 : decode cX0_swap 54 = .ok (.aload_n 0, 1) := by decide +kernel
theorem dX0_swap_55 : decode cX0_swap 55 = .ok (.getfield 18, 3) := by decide +kernel
theorem dX0_swap_58 : decode cX0_swap 58 = .ok (.iload_n 1, 1) := by decide +kernel
theorem dX0_swap_59 : decode cX0_swap 59 = .ok (.iaload, 1) := by decide +kernel
theorem dX0_swap_60 : decode cX0_swap 60 = .ok (.istore 5, 2) := by decide +kernel
theorem dX0_swap_62 : decode cX0_swap 62 = .ok (.aload_n 0, 1) := by decide +kernel
theorem dX0_swap_63 : decode cX0_swap 63 = .ok (.getfield 18, 3) := by decide +kernel
theorem dX0_swap_66 : decode cX0_swap 66 = .ok (.iload_n 1, 1) := by decide +kernel
theorem dX0_swap_67 : decode cX0_swap 67 = .ok (.aload_n 0, 1) := by decide +kernel
theorem dX0_swap_68 : decode cX0_swap 68 = .ok (.getfield 18, 3) := by decide +kernel
theorem dX0_swap_71 : decode cX0_swap 71 = .ok (.iload_n 2, 1) := by decide +kernel
theorem dX0_swap_72 : decode cX0_swap 72 = .ok (.iaload, 1) := by decide +kernel
theorem dX0_swap_73 : decode cX0_swap 73 = .ok (.iastore, 1) := by decide +kernel
theorem dX0_swap_74 : decode cX0_swap 74 = .ok (.aload_n 0, 1) := by decide +kernel
theorem dX0_swap_75 : decode cX0_swap 75 = .ok (.getfield 18, 3) := by decide +kernel
theorem dX0_swap_78 : decode cX0_swap 78 = .ok (.iload_n 2, 1) := by decide +kernel
theorem dX0_swap_79 : decode cX0_swap 79 = .ok (.iload 5, 2) := by decide +kernel
theorem dX0_swap_81 : decode cX0_swap 81 = .ok (.iastore, 1) := by decide +kernel
theorem dX0_swap_82 : decode cX0_swap 82 = .ok (.return_, 1) := by decide +kernel
theorem dX0_size_0 : decode cX0_size 0 = .ok (.aload_n 0, 1) := by decide +kernel
theorem dX0_size_1 : decode cX0_size 1 = .ok (.getfield 21, 3) := by decide +kernel
theorem dX0_size_4 : decode cX0_size 4 = .ok (.ireturn, 1) := by decide +kernel
theorem dX0_take_0 : decode cX0_take 0 = .ok (.aload_n 0, 1) := by decide +kernel
theorem dX0_take_1 : decode cX0_take 1 = .ok (.getfield 21, 3) := by decide +kernel
theorem dX0_take_4 : decode cX0_take 4 = .ok (.ifCond .gt 5, 3) := by decide +kernel
theorem dX0_take_7 : decode cX0_take 7 = .ok (.iconst (-1), 1) := by decide +kernel
theorem dX0_take_8 : decode cX0_take 8 = .ok (.ireturn, 1) := by decide +kernel
theorem dX0_take_9 : decode cX0_take 9 = .ok (.aload_n 0, 1) := by decide +kernel
theorem dX0_take_10 : decode cX0_take 10 = .ok (.getfield 18, 3) := by decide +kernel
theorem dX0_take_13 : decode cX0_take 13 = .ok (.iconst 0, 1) := by decide +kernel
theorem dX0_take_14 : decode cX0_take 14 = .ok (.iaload, 1) := by decide +kernel
theorem dX0_take_15 : decode cX0_take 15 = .ok (.istore_n 1, 1) := by decide +kernel
theorem dX0_take_16 : decode cX0_take 16 = .ok (.aload_n 0, 1) := by decide +kernel
theorem dX0_take_17 : decode cX0_take 17 = .ok (.dup, 1) := by decide +kernel
theorem dX0_take_18 : decode cX0_take 18 = .ok (.getfield 21, 3) := by decide +kernel
theorem dX0_take_21 : decode cX0_take 21 = .ok (.iconst 1, 1) := by decide +kernel
theorem dX0_take_22 : decode cX0_take 22 = .ok (.isub, 1) := by decide +kernel
theorem dX0_take_23 : decode cX0_take 23 = .ok (.putfield 21, 3) := by decide +kernel
theorem dX0_take_26 : decode cX0_take 26 = .ok (.aload_n 0, 1) := by decide +kernel
theorem dX0_take_27 : decode cX0_take 27 = .ok (.iconst 0, 1) := by decide +kernel
theorem dX0_take_28 : decode cX0_take 28 = .ok (.aload_n 0, 1) := by decide +kernel
theorem dX0_take_29 : decode cX0_take 29 = .ok (.getfield 21, 3) := by decide +kernel
theorem dX0_take_32 : decode cX0_take 32 = .ok (.invokevirtual 28, 3) := by decide +kernel
theorem dX0_take_35 : decode cX0_take 35 = .ok (.aload_n 0, 1) := by decide +kernel
theorem dX0_take_36 : decode cX0_take 36 = .ok (.invokevirtual 32, 3) := by decide +kernel
theorem dX0_take_39 : decode cX0_take 39 = .ok (.iload_n 1, 1) := by decide +kernel
theorem dX0_take_40 : decode cX0_take 40 = .ok (.ireturn, 1) := by decide +kernel
theorem dX0_sink_0 : decode cX0_sink 0 = .ok (.iconst 0, 1) := by decide +kernel
theorem dX0_sink_1 : decode cX0_sink 1 = .ok (.istore_n 1, 1) := by decide +kernel
theorem dX0_sink_2 : decode cX0_sink 2 = .ok (.iconst 1, 1) := by decide +kernel
theorem dX0_sink_3 : decode cX0_sink 3 = .ok (.istore_n 2, 1) := by decide +kernel
theorem dX0_sink_4 : decode cX0_sink 4 = .ok (.iload_n 2, 1) := by decide +kernel
theorem dX0_sink_5 : decode cX0_sink 5 = .ok (.aload_n 0, 1) := by decide +kernel
theorem dX0_sink_6 : decode cX0_sink 6 = .ok (.getfield 21, 3) := by decide +kernel
theorem dX0_sink_9 : decode cX0_sink 9 = .ok (.if_icmp .ge 54, 3) := by decide +kernel
theorem dX0_sink_12 : decode cX0_sink 12 = .ok (.iload_n 2, 1) := by decide +kernel
theorem dX0_sink_13 : decode cX0_sink 13 = .ok (.iconst 1, 1) := by decide +kernel
theorem dX0_sink_14 : decode cX0_sink 14 = .ok (.iadd, 1) := by decide +kernel
theorem dX0_sink_15 : decode cX0_sink 15 = .ok (.aload_n 0, 1) := by decide +kernel
theorem dX0_sink_16 : decode cX0_sink 16 = .ok (.getfield 21, 3) := by decide +kernel
theorem dX0_sink_19 : decode cX0_sink 19 = .ok (.if_icmp .ge 17, 3) := by decide +kernel
theorem dX0_sink_22 : decode cX0_sink 22 = .ok (.aload_n 0, 1) := by decide +kernel
theorem dX0_sink_23 : decode cX0_sink 23 = .ok (.iload_n 2, 1) := by decide +kernel
theorem dX0_sink_24 : decode cX0_sink 24 = .ok (.iconst 1, 1) := by decide +kernel
theorem dX0_sink_25 : decode cX0_sink 25 = .ok (.iadd, 1) := by decide +kernel
theorem dX0_sink_26 : decode cX0_sink 26 = .ok (.iload_n 2, 1) := by decide +kernel
theorem dX0_sink_27 : decode cX0_sink 27 = .ok (.invokevirtual 35, 3) := by decide +kernel
theorem dX0_sink_30 : decode cX0_sink 30 = .ok (.ifCond .eq 6, 3) := by decide +kernel
theorem dX0_sink_33 : decode cX0_sink 33 = .ok (.iinc 2 1, 3) := by decide +kernel
theorem dX0_sink_36 : decode cX0_sink 36 = .ok (.aload_n 0, 1) := by decide +kernel
theorem dX0_sink_37 : decode cX0_sink 37 = .ok (.iload_n 1, 1) := by decide +kernel
theorem dX0_sink_38 : decode cX0_sink 38 = .ok (.iload_n 2, 1) := by decide +kernel
theorem dX0_sink_39 : decode cX0_sink 39 = .ok (.invokevirtual 35, 3) := by decide +kernel
theorem dX0_sink_42 : decode cX0_sink 42 = .ok (.ifCond .eq 4, 3) := by decide +kernel
theorem dX0_sink_45 : decode cX0_sink 45 = .ok (.return_, 1) := by decide +kernel
theorem dX0_sink_46 : decode cX0_sink 46 = .ok (.aload_n 0, 1) := by decide +kernel
theorem dX0_sink_47 : decode cX0_sink 47 = .ok (.iload_n 1, 1) := by decide +kernel
theorem dX0_sink_48 : decode cX0_sink 48 = .ok (.iload_n 2, 1) := by decide +kernel
theorem dX0_sink_49 : decode cX0_sink 49 = .ok (.invokevirtual 28, 3) := by decide +kernel
theorem dX0_sink_52 : decode cX0_sink 52 = .ok (.iload_n 2, 1) := by decide +kernel
theorem dX0_sink_53 : decode cX0_sink 53 = .ok (.istore_n 1, 1) := by decide +kernel
theorem dX0_sink_54 : decode cX0_sink 54 = .ok (.iconst 2, 1) := by decide +kernel
theorem dX0_sink_55 : decode cX0_sink 55 = .ok (.iload_n 1, 1) := by decide +kernel
theorem dX0_sink_56 : decode cX0_sink 56 = .ok (.imul, 1) := by decide +kernel
theorem dX0_sink_57 : decode cX0_sink 57 = .ok (.iconst 1, 1) := by decide +kernel
theorem dX0_sink_58 : decode cX0_sink 58 = .ok (.iadd, 1) := by decide +kernel
theorem dX0_sink_59 : decode cX0_sink 59 = .ok (.istore_n 2, 1) := by decide +kernel
theorem dX0_sink_60 : decode cX0_sink 60 = .ok (.goto (-56), 3) := by decide +kernel
theorem dX0_sink_63 : decode cX0_sink 63 = .ok (.return_, 1) := by decide +kernel
theorem dX1_under_0 : decode cX1_under 0 = .ok (.aload_n 0, 1) := by decide +kernel
theorem dX1_under_1 : decode cX1_under 1 = .ok (.iload_n 1, 1) := by decide +kernel
theorem dX1_under_2 : decode cX1_under 2 = .ok (.invokevirtual 64, 3) := by decide +kernel
theorem dX1_under_5 : decode cX1_under 5 = .ok (.iload_n 2, 1) := by decide +kernel
theorem dX1_under_6 : decode cX1_under 6 = .ok (.ifCond .lt 8, 3) := by decide +kernel
theorem dX1_under_9 : decode cX1_under 9 = .ok (.iload_n 2, 1) := by decide +kernel
theorem dX1_under_10 : decode cX1_under 10 = .ok (.iload_n 1, 1) := by decide +kernel
theorem dX1_under_11 : decode cX1_under 11 = .ok (.if_icmp .lt 13, 3) := by decide +kernel
theorem dX1_under_14 : decode cX1_under 14 = .ok (.new 67, 3) := by decide +kernel
theorem dX1_under_17 : decode cX1_under 17 = .ok (.dup, 1) := by decide +kernel
theorem dX1_under_18 : decode cX1_under 18 = .ok (.ldc 69, 2) := by decide +kernel
theorem dX1_under_20 : decode cX1_under 20 = .ok (.invokespecial 71, 3) := by decide +kernel
theorem dX1_under_23 : decode cX1_under 23 = .ok (.athrow, 1) := by decide +kernel
theorem dX1_under_24 : decode cX1_under 24 = .ok (.aload_n 0, 1) := by decide +kernel
theorem dX1_under_25 : decode cX1_under 25 = .ok (.getfield 25, 3) := by decide +kernel
theorem dX1_under_28 : decode cX1_under 28 = .ok (.iload_n 1, 1) := by decide +kernel
theorem dX1_under_29 : decode cX1_under 29 = .ok (.baload, 1) := by decide +kernel
theorem dX1_under_30 : decode cX1_under 30 = .ok (.ifCond .ne 13, 3) := by decide +kernel
theorem dX1_under_33 : decode cX1_under 33 = .ok (.aload_n 0, 1) := by decide +kernel
theorem dX1_under_34 : decode cX1_under 34 = .ok (.getfield 19, 3) := by decide +kernel
theorem dX1_under_37 : decode cX1_under 37 = .ok (.iload_n 1, 1) := by decide +kernel
theorem dX1_under_38 : decode cX1_under 38 = .ok (.iaload, 1) := by decide +kernel
theorem dX1_under_39 : decode cX1_under 39 = .ok (.iconst 4, 1) := by decide +kernel
theorem dX1_under_40 : decode cX1_under 40 = .ok (.if_icmp .lt 13, 3) := by decide +kernel
theorem dX1_under_43 : decode cX1_under 43 = .ok (.new 53, 3) := by decide +kernel
theorem dX1_under_46 : decode cX1_under 46 = .ok (.dup, 1) := by decide +kernel
theorem dX1_under_47 : decode cX1_under 47 = .ok (.ldc 72, 2) := by decide +kernel
theorem dX1_under_49 : decode cX1_under 49 = .ok (.invokespecial 57, 3) := by decide +kernel
theorem dX1_under_52 : decode cX1_under 52 = .ok (.athrow, 1) := by decide +kernel
theorem dX1_under_53 : decode cX1_under 53 = .ok (.aload_n 0, 1) := by decide +kernel
theorem dX1_under_54 : decode cX1_under 54 = .ok (.iload_n 1, 1) := by decide +kernel
theorem dX1_under_55 : decode cX1_under 55 = .ok (.iload_n 2, 1) := by decide +kernel
theorem dX1_under_56 : decode cX1_under 56 = .ok (.invokevirtual 74, 3) := by decide +kernel
theorem dX1_under_59 : decode cX1_under 59 = .ok (.aload_n 0, 1) := by decide +kernel
theorem dX1_under_60 : decode cX1_under 60 = .ok (.getfield 19, 3) := by decide +kernel
theorem dX1_under_63 : decode cX1_under 63 = .ok (.iload_n 1, 1) := by decide +kernel
theorem dX1_under_64 : decode cX1_under 64 = .ok (.iaload, 1) := by decide +kernel
theorem dX1_under_65 : decode cX1_under 65 = .ok (.ireturn, 1) := by decide +kernel
theorem dX1_tip_0 : decode cX1_tip 0 = .ok (.iload_n 1, 1) := by decide +kernel
theorem dX1_tip_1 : decode cX1_tip 1 = .ok (.invokestatic 77, 3) := by decide +kernel
theorem dX1_tip_4 : decode cX1_tip 4 = .ok (.aload_n 0, 1) := by decide +kernel
theorem dX1_tip_5 : decode cX1_tip 5 = .ok (.iload_n 2, 1) := by decide +kernel
theorem dX1_tip_6 : decode cX1_tip 6 = .ok (.invokevirtual 64, 3) := by decide +kernel
theorem dX1_tip_9 : decode cX1_tip 9 = .ok (.aload_n 0, 1) := by decide +kernel
theorem dX1_tip_10 : decode cX1_tip 10 = .ok (.getfield 29, 3) := by decide +kernel
theorem dX1_tip_13 : decode cX1_tip 13 = .ok (.iload_n 2, 1) := by decide +kernel
theorem dX1_tip_14 : decode cX1_tip 14 = .ok (.iload_n 3, 1) := by decide +kernel
theorem dX1_tip_15 : decode cX1_tip 15 = .ok (.ifCond .eq 17, 3) := by decide +kernel
theorem dX1_tip_18 : decode cX1_tip 18 = .ok (.aload_n 0, 1) := by decide +kernel
theorem dX1_tip_19 : decode cX1_tip 19 = .ok (.getfield 29, 3) := by decide +kernel
theorem dX1_tip_22 : decode cX1_tip 22 = .ok (.iload_n 2, 1) := by decide +kernel
end
section
theorem dX1_tip_23 : decode cX1_tip 23 = .ok (.iaload, 1) := by decide +kernel
theorem dX1_tip_24 : decode cX1_tip 24 = .ok (.iload_n 1, 1) := by decide +kernel
theorem dX1_tip_25 : decode cX1_tip 25 = .ok (.invokestatic 80, 3) := by decide +kernel
theorem dX1_tip_28 : decode cX1_tip 28 = .ok (.ior, 1) := by decide +kernel
theorem dX1_tip_29 : decode cX1_tip 29 = .ok (.goto 16, 3) := by decide +kernel
theorem dX1_tip_32 : decode cX1_tip 32 = .ok (.aload_n 0, 1) := by decide +kernel
theorem dX1_tip_33 : decode cX1_tip 33 = .ok (.getfield 29, 3) := by decide +kernel
theorem dX1_tip_36 : decode cX1_tip 36 = .ok (.iload_n 2, 1) := by decide +kernel
theorem dX1_tip_37 : decode cX1_tip 37 = .ok (.iaload, 1) := by decide +kernel
theorem dX1_tip_38 : decode cX1_tip 38 = .ok (.iload_n 1, 1) := by decide +kernel
theorem dX1_tip_39 : decode cX1_tip 39 = .ok (.invokestatic 80, 3) := by decide +kernel
theorem dX1_tip_42 : decode cX1_tip 42 = .ok (.iconst (-1), 1) := by decide +kernel
theorem dX1_tip_43 : decode cX1_tip 43 = .ok (.ixor, 1) := by decide +kernel
theorem dX1_tip_44 : decode cX1_tip 44 = .ok (.iand, 1) := by decide +kernel
theorem dX1_tip_45 : decode cX1_tip 45 = .ok (.iastore, 1) := by decide +kernel
theorem dX1_tip_46 : decode cX1_tip 46 = .ok (.return_, 1) := by decide +kernel
theorem dX1_checkHolder_0 : decode cX1_checkHolder 0 = .ok (.iload_n 0, 1) := by decide +kernel
theorem dX1_checkHolder_1 : decode cX1_checkHolder 1 = .ok (.ifCond .lt 8, 3) := by decide +kernel
theorem dX1_checkHolder_4 : decode cX1_checkHolder 4 = .ok (.iload_n 0, 1) := by decide +kernel
theorem dX1_checkHolder_5 : decode cX1_checkHolder 5 = .ok (.iconst 2, 1) := by decide +kernel
theorem dX1_checkHolder_6 : decode cX1_checkHolder 6 = .ok (.if_icmp .lt 13, 3) := by decide +kernel
theorem dX1_checkHolder_9 : decode cX1_checkHolder 9 = .ok (.new 67, 3) := by decide +kernel
theorem dX1_checkHolder_12 : decode cX1_checkHolder 12 = .ok (.dup, 1) := by decide +kernel
theorem dX1_checkHolder_13 : decode cX1_checkHolder 13 = .ok (.ldc 154, 2) := by decide +kernel
theorem dX1_checkHolder_15 : decode cX1_checkHolder 15 = .ok (.invokespecial 71, 3) := by decide +kernel
theorem dX1_checkHolder_18 : decode cX1_checkHolder 18 = .ok (.athrow, 1) := by decide +kernel
theorem dX1_checkHolder_19 : decode cX1_checkHolder 19 = .ok (.return_, 1) := by decide +kernel
theorem dX1_reaches_0 : decode cX1_reaches 0 = .ok (.aload_n 0, 1) := by decide +kernel
theorem dX1_reaches_1 : decode cX1_reaches 1 = .ok (.iload_n 1, 1) := by decide +kernel
theorem dX1_reaches_2 : decode cX1_reaches 2 = .ok (.invokevirtual 64, 3) := by decide +kernel
theorem dX1_reaches_5 : decode cX1_reaches 5 = .ok (.aload_n 0, 1) := by decide +kernel
theorem dX1_reaches_6 : decode cX1_reaches 6 = .ok (.iload_n 2, 1) := by decide +kernel
theorem dX1_reaches_7 : decode cX1_reaches 7 = .ok (.invokevirtual 64, 3) := by decide +kernel
theorem dX1_reaches_10 : decode cX1_reaches 10 = .ok (.aload_n 0, 1) := by decide +kernel
theorem dX1_reaches_11 : decode cX1_reaches 11 = .ok (.iload_n 1, 1) := by decide +kernel
theorem dX1_reaches_12 : decode cX1_reaches 12 = .ok (.invokevirtual 84, 3) := by decide +kernel
theorem dX1_reaches_15 : decode cX1_reaches 15 = .ok (.aload_n 0, 1) := by decide +kernel
theorem dX1_reaches_16 : decode cX1_reaches 16 = .ok (.getfield 32, 3) := by decide +kernel
theorem dX1_reaches_19 : decode cX1_reaches 19 = .ok (.iload_n 2, 1) := by decide +kernel
theorem dX1_reaches_20 : decode cX1_reaches 20 = .ok (.iaload, 1) := by decide +kernel
theorem dX1_reaches_21 : decode cX1_reaches 21 = .ok (.ifCond .eq 7, 3) := by decide +kernel
theorem dX1_reaches_24 : decode cX1_reaches 24 = .ok (.iconst 1, 1) := by decide +kernel
theorem dX1_reaches_25 : decode cX1_reaches 25 = .ok (.goto 4, 3) := by decide +kernel
theorem dX1_reaches_28 : decode cX1_reaches 28 = .ok (.iconst 0, 1) := by decide +kernel
theorem dX1_reaches_29 : decode cX1_reaches 29 = .ok (.ireturn, 1) := by decide +kernel
theorem dX1_markReachable_0 : decode cX1_markReachable 0 = .ok (.aload_n 0, 1) := by decide +kernel
theorem dX1_markReachable_1 : decode cX1_markReachable 1 = .ok (.invokevirtual 87, 3) := by decide +kernel
theorem dX1_markReachable_4 : decode cX1_markReachable 4 = .ok (.aload_n 0, 1) := by decide +kernel
theorem dX1_markReachable_5 : decode cX1_markReachable 5 = .ok (.getfield 32, 3) := by decide +kernel
theorem dX1_markReachable_8 : decode cX1_markReachable 8 = .ok (.iload_n 1, 1) := by decide +kernel
theorem dX1_markReachable_9 : decode cX1_markReachable 9 = .ok (.iconst 1, 1) := by decide +kernel
theorem dX1_markReachable_10 : decode cX1_markReachable 10 = .ok (.iastore, 1) := by decide +kernel
theorem dX1_markReachable_11 : decode cX1_markReachable 11 = .ok (.aload_n 0, 1) := by decide +kernel
theorem dX1_markReachable_12 : decode cX1_markReachable 12 = .ok (.invokevirtual 90, 3) := by decide +kernel
theorem dX1_markReachable_15 : decode cX1_markReachable 15 = .ok (.return_, 1) := by decide +kernel
theorem dX1_clearMarks_0 : decode cX1_clearMarks 0 = .ok (.iconst 0, 1) := by decide +kernel
theorem dX1_clearMarks_1 : decode cX1_clearMarks 1 = .ok (.istore_n 1, 1) := by decide +kernel
theorem dX1_clearMarks_2 : decode cX1_clearMarks 2 = .ok (.iload_n 1, 1) := by decide +kernel
theorem dX1_clearMarks_3 : decode cX1_clearMarks 3 = .ok (.aload_n 0, 1) := by decide +kernel
theorem dX1_clearMarks_4 : decode cX1_clearMarks 4 = .ok (.getfield 49, 3) := by decide +kernel
theorem dX1_clearMarks_7 : decode cX1_clearMarks 7 = .ok (.if_icmp .ge 16, 3) := by decide +kernel
theorem dX1_clearMarks_10 : decode cX1_clearMarks 10 = .ok (.aload_n 0, 1) := by decide +kernel
theorem dX1_clearMarks_11 : decode cX1_clearMarks 11 = .ok (.getfield 32, 3) := by decide +kernel
theorem dX1_clearMarks_14 : decode cX1_clearMarks 14 = .ok (.iload_n 1, 1) := by decide +kernel
theorem dX1_clearMarks_15 : decode cX1_clearMarks 15 = .ok (.iconst 0, 1) := by decide +kernel
theorem dX1_clearMarks_16 : decode cX1_clearMarks 16 = .ok (.iastore, 1) := by decide +kernel
theorem dX1_clearMarks_17 : decode cX1_clearMarks 17 = .ok (.iinc 1 1, 3) := by decide +kernel
theorem dX1_clearMarks_20 : decode cX1_clearMarks 20 = .ok (.goto (-18), 3) := by decide +kernel
theorem dX1_clearMarks_23 : decode cX1_clearMarks 23 = .ok (.return_, 1) := by decide +kernel
theorem dX1_base_0 : decode cX1_base 0 = .ok (.aload_n 0, 1) := by decide +kernel
theorem dX1_base_1 : decode cX1_base 1 = .ok (.iload_n 1, 1) := by decide +kernel
theorem dX1_base_2 : decode cX1_base 2 = .ok (.invokevirtual 64, 3) := by decide +kernel
theorem dX1_base_5 : decode cX1_base 5 = .ok (.aload_n 0, 1) := by decide +kernel
theorem dX1_base_6 : decode cX1_base 6 = .ok (.iload_n 2, 1) := by decide +kernel
theorem dX1_base_7 : decode cX1_base 7 = .ok (.invokevirtual 64, 3) := by decide +kernel
theorem dX1_base_10 : decode cX1_base 10 = .ok (.aload_n 0, 1) := by decide +kernel
theorem dX1_base_11 : decode cX1_base 11 = .ok (.invokevirtual 87, 3) := by decide +kernel
theorem dX1_base_14 : decode cX1_base 14 = .ok (.aload_n 0, 1) := by decide +kernel
theorem dX1_base_15 : decode cX1_base 15 = .ok (.getfield 32, 3) := by decide +kernel
theorem dX1_base_18 : decode cX1_base 18 = .ok (.iload_n 1, 1) := by decide +kernel
theorem dX1_base_19 : decode cX1_base 19 = .ok (.dup2, 1) := by decide +kernel
theorem dX1_base_20 : decode cX1_base 20 = .ok (.iaload, 1) := by decide +kernel
theorem dX1_base_21 : decode cX1_base 21 = .ok (.iconst 1, 1) := by decide +kernel
theorem dX1_base_22 : decode cX1_base 22 = .ok (.ior, 1) := by decide +kernel
theorem dX1_base_23 : decode cX1_base 23 = .ok (.iastore, 1) := by decide +kernel
theorem dX1_base_24 : decode cX1_base 24 = .ok (.aload_n 0, 1) := by decide +kernel
theorem dX1_base_25 : decode cX1_base 25 = .ok (.getfield 32, 3) := by decide +kernel
theorem dX1_base_28 : decode cX1_base 28 = .ok (.iload_n 2, 1) := by decide +kernel
theorem dX1_base_29 : decode cX1_base 29 = .ok (.dup2, 1) := by decide +kernel
theorem dX1_base_30 : decode cX1_base 30 = .ok (.iaload, 1) := by decide +kernel
theorem dX1_base_31 : decode cX1_base 31 = .ok (.iconst 2, 1) := by decide +kernel
theorem dX1_base_32 : decode cX1_base 32 = .ok (.ior, 1) := by decide +kernel
theorem dX1_base_33 : decode cX1_base 33 = .ok (.iastore, 1) := by decide +kernel
theorem dX1_base_34 : decode cX1_base 34 = .ok (.aload_n 0, 1) := by decide +kernel
theorem dX1_base_35 : decode cX1_base 35 = .ok (.invokevirtual 90, 3) := by decide +kernel
theorem dX1_base_38 : decode cX1_base 38 = .ok (.aload_n 0, 1) := by decide +kernel
theorem dX1_base_39 : decode cX1_base 39 = .ok (.getfield 41, 3) := by decide +kernel
theorem dX1_base_42 : decode cX1_base 42 = .ok (.invokevirtual 93, 3) := by decide +kernel
theorem dX1_base_45 : decode cX1_base 45 = .ok (.iconst 0, 1) := by decide +kernel
theorem dX1_base_46 : decode cX1_base 46 = .ok (.istore 4, 2) := by decide +kernel
theorem dX1_base_48 : decode cX1_base 48 = .ok (.iload 4, 2) := by decide +kernel
theorem dX1_base_50 : decode cX1_base 50 = .ok (.aload_n 0, 1) := by decide +kernel
theorem dX1_base_51 : decode cX1_base 51 = .ok (.getfield 49, 3) := by decide +kernel
theorem dX1_base_54 : decode cX1_base 54 = .ok (.if_icmp .ge 26, 3) := by decide +kernel
theorem dX1_base_57 : decode cX1_base 57 = .ok (.aload_n 0, 1) := by decide +kernel
theorem dX1_base_58 : decode cX1_base 58 = .ok (.getfield 32, 3) := by decide +kernel
theorem dX1_base_61 : decode cX1_base 61 = .ok (.iload 4, 2) := by decide +kernel
theorem dX1_base_63 : decode cX1_base 63 = .ok (.iaload, 1) := by decide +kernel
theorem dX1_base_64 : decode cX1_base 64 = .ok (.iconst 3, 1) := by decide +kernel
theorem dX1_base_65 : decode cX1_base 65 = .ok (.if_icmp .ne 9, 3) := by decide +kernel
theorem dX1_base_68 : decode cX1_base 68 = .ok (.aload_n 0, 1) := by decide +kernel
theorem dX1_base_69 : decode cX1_base 69 = .ok (.iload 4, 2) := by decide +kernel
theorem dX1_base_71 : decode cX1_base 71 = .ok (.invokevirtual 96, 3) := by decide +kernel
theorem dX1_base_74 : decode cX1_base 74 = .ok (.iinc 4 1, 3) := by decide +kernel
theorem dX1_base_77 : decode cX1_base 77 = .ok (.goto (-29), 3) := by decide +kernel
theorem dX1_base_80 : decode cX1_base 80 = .ok (.aload_n 0, 1) := by decide +kernel
theorem dX1_base_81 : decode cX1_base 81 = .ok (.iload_n 3, 1) := by decide +kernel
theorem dX1_base_82 : decode cX1_base 82 = .ok (.invokevirtual 99, 3) := by decide +kernel
theorem dX1_base_85 : decode cX1_base 85 = .ok (.ireturn, 1) := by decide +kernel
theorem dX1_queueInTheOrder_0 : decode cX1_queueInTheOrder 0 = .ok (.aload_n 0, 1) := by decide +kernel
theorem dX1_queueInTheOrder_1 : decode cX1_queueInTheOrder 1 = .ok (.getfield 41, 3) := by decide +kernel
theorem dX1_queueInTheOrder_4 : decode cX1_queueInTheOrder 4 = .ok (.aload_n 0, 1) := by decide +kernel
theorem dX1_queueInTheOrder_5 : decode cX1_queueInTheOrder 5 = .ok (.getfield 9, 3) := by decide +kernel
theorem dX1_queueInTheOrder_8 : decode cX1_queueInTheOrder 8 = .ok (.iload_n 1, 1) := by decide +kernel
theorem dX1_queueInTheOrder_9 : decode cX1_queueInTheOrder 9 = .ok (.iaload, 1) := by decide +kernel
theorem dX1_queueInTheOrder_10 : decode cX1_queueInTheOrder 10 = .ok (.iconst (-1), 1) := by decide +kernel
theorem dX1_queueInTheOrder_11 : decode cX1_queueInTheOrder 11 = .ok (.ixor, 1) := by decide +kernel
theorem dX1_queueInTheOrder_12 : decode cX1_queueInTheOrder 12 = .ok (.aload_n 0, 1) := by decide +kernel
theorem dX1_queueInTheOrder_13 : decode cX1_queueInTheOrder 13 = .ok (.getfield 13, 3) := by decide +kernel
theorem dX1_queueInTheOrder_16 : decode cX1_queueInTheOrder 16 = .ok (.iload_n 1, 1) := by decide +kernel
theorem dX1_queueInTheOrder_17 : decode cX1_queueInTheOrder 17 = .ok (.iaload, 1) := by decide +kernel
theorem dX1_queueInTheOrder_18 : decode cX1_queueInTheOrder 18 = .ok (.iload_n 1, 1) := by decide +kernel
theorem dX1_queueInTheOrder_19 : decode cX1_queueInTheOrder 19 = .ok (.invokevirtual 126, 3) := by decide +kernel
theorem dX1_queueInTheOrder_22 : decode cX1_queueInTheOrder 22 = .ok (.return_, 1) := by decide +kernel
theorem dX1_queuedAt_0 : decode cX1_queuedAt 0 = .ok (.iload_n 1, 1) := by decide +kernel
theorem dX1_queuedAt_1 : decode cX1_queuedAt 1 = .ok (.iconst (-1), 1) := by decide +kernel
theorem dX1_queuedAt_2 : decode cX1_queuedAt 2 = .ok (.if_icmp .ne 11, 3) := by decide +kernel
theorem dX1_queuedAt_5 : decode cX1_queuedAt 5 = .ok (.aload_n 0, 1) := by decide +kernel
theorem dX1_queuedAt_6 : decode cX1_queuedAt 6 = .ok (.getfield 41, 3) := by decide +kernel
theorem dX1_queuedAt_9 : decode cX1_queuedAt 9 = .ok (.invokevirtual 167, 3) := by decide +kernel
theorem dX1_queuedAt_12 : decode cX1_queuedAt 12 = .ok (.ireturn, 1) := by decide +kernel
theorem dX1_queuedAt_13 : decode cX1_queuedAt 13 = .ok (.iload_n 1, 1) := by decide +kernel
theorem dX1_queuedAt_14 : decode cX1_queuedAt 14 = .ok (.aload_n 0, 1) := by decide +kernel
theorem dX1_queuedAt_15 : decode cX1_queuedAt 15 = .ok (.getfield 41, 3) := by decide +kernel
theorem dX1_queuedAt_18 : decode cX1_queuedAt 18 = .ok (.invokevirtual 167, 3) := by decide +kernel
theorem dX1_queuedAt_21 : decode cX1_queuedAt 21 = .ok (.invokestatic 106, 3) := by decide +kernel
theorem dX1_queuedAt_24 : decode cX1_queuedAt 24 = .ok (.iconst 0, 1) := by decide +kernel
theorem dX1_queuedAt_25 : decode cX1_queuedAt 25 = .ok (.istore_n 2, 1) := by decide +kernel
theorem dX1_queuedAt_26 : decode cX1_queuedAt 26 = .ok (.iload_n 2, 1) := by decide +kernel
theorem dX1_queuedAt_27 : decode cX1_queuedAt 27 = .ok (.iload_n 1, 1) := by decide +kernel
end
section
theorem dX1_queuedAt_28 : decode cX1_queuedAt 28 = .ok (.if_icmp .ge 17, 3) := by decide +kernel
theorem dX1_queuedAt_31 : decode cX1_queuedAt 31 = .ok (.aload_n 0, 1) := by decide +kernel
theorem dX1_queuedAt_32 : decode cX1_queuedAt 32 = .ok (.getfield 41, 3) := by decide +kernel
theorem dX1_queuedAt_35 : decode cX1_queuedAt 35 = .ok (.invokevirtual 170, 3) := by decide +kernel
theorem dX1_queuedAt_38 : decode cX1_queuedAt 38 = .ok (.pop, 1) := by decide +kernel
theorem dX1_queuedAt_39 : decode cX1_queuedAt 39 = .ok (.iinc 2 1, 3) := by decide +kernel
theorem dX1_queuedAt_42 : decode cX1_queuedAt 42 = .ok (.goto (-16), 3) := by decide +kernel
theorem dX1_queuedAt_45 : decode cX1_queuedAt 45 = .ok (.aload_n 0, 1) := by decide +kernel
theorem dX1_queuedAt_46 : decode cX1_queuedAt 46 = .ok (.getfield 41, 3) := by decide +kernel
theorem dX1_queuedAt_49 : decode cX1_queuedAt 49 = .ok (.invokevirtual 170, 3) := by decide +kernel
theorem dX1_queuedAt_52 : decode cX1_queuedAt 52 = .ok (.ireturn, 1) := by decide +kernel
theorem dX1_checkPlace_0 : decode cX1_checkPlace 0 = .ok (.iload_n 0, 1) := by decide +kernel
theorem dX1_checkPlace_1 : decode cX1_checkPlace 1 = .ok (.ifCond .lt 8, 3) := by decide +kernel
theorem dX1_checkPlace_4 : decode cX1_checkPlace 4 = .ok (.iload_n 0, 1) := by decide +kernel
theorem dX1_checkPlace_5 : decode cX1_checkPlace 5 = .ok (.iload_n 1, 1) := by decide +kernel
theorem dX1_checkPlace_6 : decode cX1_checkPlace 6 = .ok (.if_icmp .lt 13, 3) := by decide +kernel
theorem dX1_checkPlace_9 : decode cX1_checkPlace 9 = .ok (.new 115, 3) := by decide +kernel
theorem dX1_checkPlace_12 : decode cX1_checkPlace 12 = .ok (.dup, 1) := by decide +kernel
theorem dX1_checkPlace_13 : decode cX1_checkPlace 13 = .ok (.ldc 156, 2) := by decide +kernel
theorem dX1_checkPlace_15 : decode cX1_checkPlace 15 = .ok (.invokespecial 119, 3) := by decide +kernel
theorem dX1_checkPlace_18 : decode cX1_checkPlace 18 = .ok (.athrow, 1) := by decide +kernel
theorem dX1_checkPlace_19 : decode cX1_checkPlace 19 = .ok (.return_, 1) := by decide +kernel
theorem dX1_log_0 : decode cX1_log 0 = .ok (.aload_n 0, 1) := by decide +kernel
theorem dX1_log_1 : decode cX1_log 1 = .ok (.iload_n 1, 1) := by decide +kernel
theorem dX1_log_2 : decode cX1_log 2 = .ok (.invokevirtual 64, 3) := by decide +kernel
theorem dX1_log_5 : decode cX1_log 5 = .ok (.aload_n 0, 1) := by decide +kernel
theorem dX1_log_6 : decode cX1_log 6 = .ok (.iload_n 1, 1) := by decide +kernel
theorem dX1_log_7 : decode cX1_log 7 = .ok (.invokevirtual 84, 3) := by decide +kernel
theorem dX1_log_10 : decode cX1_log 10 = .ok (.aload_n 0, 1) := by decide +kernel
theorem dX1_log_11 : decode cX1_log 11 = .ok (.invokevirtual 102, 3) := by decide +kernel
theorem dX1_log_14 : decode cX1_log 14 = .ok (.istore_n 3, 1) := by decide +kernel
theorem dX1_log_15 : decode cX1_log 15 = .ok (.iload_n 2, 1) := by decide +kernel
theorem dX1_log_16 : decode cX1_log 16 = .ok (.iconst (-1), 1) := by decide +kernel
theorem dX1_log_17 : decode cX1_log 17 = .ok (.if_icmp .ne 5, 3) := by decide +kernel
theorem dX1_log_20 : decode cX1_log 20 = .ok (.iload_n 3, 1) := by decide +kernel
theorem dX1_log_21 : decode cX1_log 21 = .ok (.ireturn, 1) := by decide +kernel
theorem dX1_log_22 : decode cX1_log 22 = .ok (.iload_n 2, 1) := by decide +kernel
theorem dX1_log_23 : decode cX1_log 23 = .ok (.iload_n 3, 1) := by decide +kernel
theorem dX1_log_24 : decode cX1_log 24 = .ok (.invokestatic 106, 3) := by decide +kernel
theorem dX1_log_27 : decode cX1_log 27 = .ok (.aload_n 0, 1) := by decide +kernel
theorem dX1_log_28 : decode cX1_log 28 = .ok (.iload_n 1, 1) := by decide +kernel
theorem dX1_log_29 : decode cX1_log 29 = .ok (.iload_n 2, 1) := by decide +kernel
theorem dX1_log_30 : decode cX1_log 30 = .ok (.invokevirtual 109, 3) := by decide +kernel
theorem dX1_log_33 : decode cX1_log 33 = .ok (.ireturn, 1) := by decide +kernel
theorem dX1_markedCommits_0 : decode cX1_markedCommits 0 = .ok (.iconst 0, 1) := by decide +kernel
theorem dX1_markedCommits_1 : decode cX1_markedCommits 1 = .ok (.istore_n 1, 1) := by decide +kernel
theorem dX1_markedCommits_2 : decode cX1_markedCommits 2 = .ok (.iconst 0, 1) := by decide +kernel
theorem dX1_markedCommits_3 : decode cX1_markedCommits 3 = .ok (.istore_n 2, 1) := by decide +kernel
theorem dX1_markedCommits_4 : decode cX1_markedCommits 4 = .ok (.iload_n 2, 1) := by decide +kernel
theorem dX1_markedCommits_5 : decode cX1_markedCommits 5 = .ok (.aload_n 0, 1) := by decide +kernel
theorem dX1_markedCommits_6 : decode cX1_markedCommits 6 = .ok (.getfield 49, 3) := by decide +kernel
theorem dX1_markedCommits_9 : decode cX1_markedCommits 9 = .ok (.if_icmp .ge 21, 3) := by decide +kernel
theorem dX1_markedCommits_12 : decode cX1_markedCommits 12 = .ok (.aload_n 0, 1) := by decide +kernel
theorem dX1_markedCommits_13 : decode cX1_markedCommits 13 = .ok (.getfield 32, 3) := by decide +kernel
theorem dX1_markedCommits_16 : decode cX1_markedCommits 16 = .ok (.iload_n 2, 1) := by decide +kernel
theorem dX1_markedCommits_17 : decode cX1_markedCommits 17 = .ok (.iaload, 1) := by decide +kernel
theorem dX1_markedCommits_18 : decode cX1_markedCommits 18 = .ok (.ifCond .eq 6, 3) := by decide +kernel
theorem dX1_markedCommits_21 : decode cX1_markedCommits 21 = .ok (.iinc 1 1, 3) := by decide +kernel
theorem dX1_markedCommits_24 : decode cX1_markedCommits 24 = .ok (.iinc 2 1, 3) := by decide +kernel
theorem dX1_markedCommits_27 : decode cX1_markedCommits 27 = .ok (.goto (-23), 3) := by decide +kernel
theorem dX1_markedCommits_30 : decode cX1_markedCommits 30 = .ok (.iload_n 1, 1) := by decide +kernel
theorem dX1_markedCommits_31 : decode cX1_markedCommits 31 = .ok (.ireturn, 1) := by decide +kernel
theorem dX1_toldAt_0 : decode cX1_toldAt 0 = .ok (.aload_n 0, 1) := by decide +kernel
theorem dX1_toldAt_1 : decode cX1_toldAt 1 = .ok (.invokevirtual 173, 3) := by decide +kernel
theorem dX1_toldAt_4 : decode cX1_toldAt 4 = .ok (.aload_n 0, 1) := by decide +kernel
theorem dX1_toldAt_5 : decode cX1_toldAt 5 = .ok (.getfield 41, 3) := by decide +kernel
theorem dX1_toldAt_8 : decode cX1_toldAt 8 = .ok (.invokevirtual 93, 3) := by decide +kernel
theorem dX1_toldAt_11 : decode cX1_toldAt 11 = .ok (.aload_n 0, 1) := by decide +kernel
theorem dX1_toldAt_12 : decode cX1_toldAt 12 = .ok (.iload_n 1, 1) := by decide +kernel
theorem dX1_toldAt_13 : decode cX1_toldAt 13 = .ok (.invokevirtual 96, 3) := by decide +kernel
theorem dX1_toldAt_16 : decode cX1_toldAt 16 = .ok (.iconst 0, 1) := by decide +kernel
theorem dX1_toldAt_17 : decode cX1_toldAt 17 = .ok (.istore_n 3, 1) := by decide +kernel
theorem dX1_toldAt_18 : decode cX1_toldAt 18 = .ok (.iload_n 3, 1) := by decide +kernel
theorem dX1_toldAt_19 : decode cX1_toldAt 19 = .ok (.iload_n 2, 1) := by decide +kernel
theorem dX1_toldAt_20 : decode cX1_toldAt 20 = .ok (.if_icmp .ge 23, 3) := by decide +kernel
theorem dX1_toldAt_23 : decode cX1_toldAt 23 = .ok (.aload_n 0, 1) := by decide +kernel
theorem dX1_toldAt_24 : decode cX1_toldAt 24 = .ok (.getfield 41, 3) := by decide +kernel
theorem dX1_toldAt_27 : decode cX1_toldAt 27 = .ok (.invokevirtual 167, 3) := by decide +kernel
theorem dX1_toldAt_30 : decode cX1_toldAt 30 = .ok (.ifCond .le 13, 3) := by decide +kernel
theorem dX1_toldAt_33 : decode cX1_toldAt 33 = .ok (.aload_n 0, 1) := by decide +kernel
theorem dX1_toldAt_34 : decode cX1_toldAt 34 = .ok (.invokevirtual 176, 3) := by decide +kernel
theorem dX1_toldAt_37 : decode cX1_toldAt 37 = .ok (.iinc 3 1, 3) := by decide +kernel
theorem dX1_toldAt_40 : decode cX1_toldAt 40 = .ok (.goto (-22), 3) := by decide +kernel
theorem dX1_toldAt_43 : decode cX1_toldAt 43 = .ok (.aload_n 0, 1) := by decide +kernel
theorem dX1_toldAt_44 : decode cX1_toldAt 44 = .ok (.getfield 41, 3) := by decide +kernel
theorem dX1_toldAt_47 : decode cX1_toldAt 47 = .ok (.invokevirtual 170, 3) := by decide +kernel
theorem dX1_toldAt_50 : decode cX1_toldAt 50 = .ok (.ireturn, 1) := by decide +kernel
theorem dX1_countUntoldLinks_0 : decode cX1_countUntoldLinks 0 = .ok (.iconst 0, 1) := by decide +kernel
theorem dX1_countUntoldLinks_1 : decode cX1_countUntoldLinks 1 = .ok (.istore_n 1, 1) := by decide +kernel
theorem dX1_countUntoldLinks_2 : decode cX1_countUntoldLinks 2 = .ok (.iload_n 1, 1) := by decide +kernel
theorem dX1_countUntoldLinks_3 : decode cX1_countUntoldLinks 3 = .ok (.aload_n 0, 1) := by decide +kernel
theorem dX1_countUntoldLinks_4 : decode cX1_countUntoldLinks 4 = .ok (.getfield 49, 3) := by decide +kernel
theorem dX1_countUntoldLinks_7 : decode cX1_countUntoldLinks 7 = .ok (.if_icmp .ge 16, 3) := by decide +kernel
theorem dX1_countUntoldLinks_10 : decode cX1_countUntoldLinks 10 = .ok (.aload_n 0, 1) := by decide +kernel
theorem dX1_countUntoldLinks_11 : decode cX1_countUntoldLinks 11 = .ok (.getfield 35, 3) := by decide +kernel
theorem dX1_countUntoldLinks_14 : decode cX1_countUntoldLinks 14 = .ok (.iload_n 1, 1) := by decide +kernel
theorem dX1_countUntoldLinks_15 : decode cX1_countUntoldLinks 15 = .ok (.iconst 0, 1) := by decide +kernel
theorem dX1_countUntoldLinks_16 : decode cX1_countUntoldLinks 16 = .ok (.iastore, 1) := by decide +kernel
theorem dX1_countUntoldLinks_17 : decode cX1_countUntoldLinks 17 = .ok (.iinc 1 1, 3) := by decide +kernel
theorem dX1_countUntoldLinks_20 : decode cX1_countUntoldLinks 20 = .ok (.goto (-18), 3) := by decide +kernel
theorem dX1_countUntoldLinks_23 : decode cX1_countUntoldLinks 23 = .ok (.iconst 0, 1) := by decide +kernel
theorem dX1_countUntoldLinks_24 : decode cX1_countUntoldLinks 24 = .ok (.istore_n 1, 1) := by decide +kernel
theorem dX1_countUntoldLinks_25 : decode cX1_countUntoldLinks 25 = .ok (.iload_n 1, 1) := by decide +kernel
theorem dX1_countUntoldLinks_26 : decode cX1_countUntoldLinks 26 = .ok (.aload_n 0, 1) := by decide +kernel
theorem dX1_countUntoldLinks_27 : decode cX1_countUntoldLinks 27 = .ok (.getfield 49, 3) := by decide +kernel
theorem dX1_countUntoldLinks_30 : decode cX1_countUntoldLinks 30 = .ok (.if_icmp .ge 57, 3) := by decide +kernel
theorem dX1_countUntoldLinks_33 : decode cX1_countUntoldLinks 33 = .ok (.aload_n 0, 1) := by decide +kernel
theorem dX1_countUntoldLinks_34 : decode cX1_countUntoldLinks 34 = .ok (.getfield 32, 3) := by decide +kernel
theorem dX1_countUntoldLinks_37 : decode cX1_countUntoldLinks 37 = .ok (.iload_n 1, 1) := by decide +kernel
theorem dX1_countUntoldLinks_38 : decode cX1_countUntoldLinks 38 = .ok (.iaload, 1) := by decide +kernel
theorem dX1_countUntoldLinks_39 : decode cX1_countUntoldLinks 39 = .ok (.ifCond .ne 7, 3) := by decide +kernel
theorem dX1_countUntoldLinks_42 : decode cX1_countUntoldLinks 42 = .ok (.iconst 0, 1) := by decide +kernel
theorem dX1_countUntoldLinks_43 : decode cX1_countUntoldLinks 43 = .ok (.goto 9, 3) := by decide +kernel
theorem dX1_countUntoldLinks_46 : decode cX1_countUntoldLinks 46 = .ok (.aload_n 0, 1) := by decide +kernel
theorem dX1_countUntoldLinks_47 : decode cX1_countUntoldLinks 47 = .ok (.getfield 19, 3) := by decide +kernel
theorem dX1_countUntoldLinks_50 : decode cX1_countUntoldLinks 50 = .ok (.iload_n 1, 1) := by decide +kernel
theorem dX1_countUntoldLinks_51 : decode cX1_countUntoldLinks 51 = .ok (.iaload, 1) := by decide +kernel
theorem dX1_countUntoldLinks_52 : decode cX1_countUntoldLinks 52 = .ok (.istore_n 2, 1) := by decide +kernel
theorem dX1_countUntoldLinks_53 : decode cX1_countUntoldLinks 53 = .ok (.iconst 0, 1) := by decide +kernel
theorem dX1_countUntoldLinks_54 : decode cX1_countUntoldLinks 54 = .ok (.istore_n 3, 1) := by decide +kernel
theorem dX1_countUntoldLinks_55 : decode cX1_countUntoldLinks 55 = .ok (.iload_n 3, 1) := by decide +kernel
theorem dX1_countUntoldLinks_56 : decode cX1_countUntoldLinks 56 = .ok (.iload_n 2, 1) := by decide +kernel
theorem dX1_countUntoldLinks_57 : decode cX1_countUntoldLinks 57 = .ok (.if_icmp .ge 24, 3) := by decide +kernel
theorem dX1_countUntoldLinks_60 : decode cX1_countUntoldLinks 60 = .ok (.aload_n 0, 1) := by decide +kernel
theorem dX1_countUntoldLinks_61 : decode cX1_countUntoldLinks 61 = .ok (.getfield 35, 3) := by decide +kernel
theorem dX1_countUntoldLinks_64 : decode cX1_countUntoldLinks 64 = .ok (.aload_n 0, 1) := by decide +kernel
theorem dX1_countUntoldLinks_65 : decode cX1_countUntoldLinks 65 = .ok (.iload_n 1, 1) := by decide +kernel
theorem dX1_countUntoldLinks_66 : decode cX1_countUntoldLinks 66 = .ok (.iload_n 3, 1) := by decide +kernel
theorem dX1_countUntoldLinks_67 : decode cX1_countUntoldLinks 67 = .ok (.invokevirtual 120, 3) := by decide +kernel
theorem dX1_countUntoldLinks_70 : decode cX1_countUntoldLinks 70 = .ok (.dup2, 1) := by decide +kernel
theorem dX1_countUntoldLinks_71 : decode cX1_countUntoldLinks 71 = .ok (.iaload, 1) := by decide +kernel
theorem dX1_countUntoldLinks_72 : decode cX1_countUntoldLinks 72 = .ok (.iconst 1, 1) := by decide +kernel
theorem dX1_countUntoldLinks_73 : decode cX1_countUntoldLinks 73 = .ok (.iadd, 1) := by decide +kernel
theorem dX1_countUntoldLinks_74 : decode cX1_countUntoldLinks 74 = .ok (.iastore, 1) := by decide +kernel
theorem dX1_countUntoldLinks_75 : decode cX1_countUntoldLinks 75 = .ok (.iinc 3 1, 3) := by decide +kernel
theorem dX1_countUntoldLinks_78 : decode cX1_countUntoldLinks 78 = .ok (.goto (-23), 3) := by decide +kernel
theorem dX1_countUntoldLinks_81 : decode cX1_countUntoldLinks 81 = .ok (.iinc 1 1, 3) := by decide +kernel
theorem dX1_countUntoldLinks_84 : decode cX1_countUntoldLinks 84 = .ok (.goto (-59), 3) := by decide +kernel
theorem dX1_countUntoldLinks_87 : decode cX1_countUntoldLinks 87 = .ok (.return_, 1) := by decide +kernel
theorem dX1_tellNext_0 : decode cX1_tellNext 0 = .ok (.aload_n 0, 1) := by decide +kernel
theorem dX1_tellNext_1 : decode cX1_tellNext 1 = .ok (.getfield 41, 3) := by decide +kernel
theorem dX1_tellNext_4 : decode cX1_tellNext 4 = .ok (.invokevirtual 170, 3) := by decide +kernel
theorem dX1_tellNext_7 : decode cX1_tellNext 7 = .ok (.istore_n 1, 1) := by decide +kernel
theorem dX1_tellNext_8 : decode cX1_tellNext 8 = .ok (.iconst 0, 1) := by decide +kernel
theorem dX1_tellNext_9 : decode cX1_tellNext 9 = .ok (.istore_n 2, 1) := by decide +kernel
theorem dX1_tellNext_10 : decode cX1_tellNext 10 = .ok (.iload_n 2, 1) := by decide +kernel
theorem dX1_tellNext_11 : decode cX1_tellNext 11 = .ok (.aload_n 0, 1) := by decide +kernel
theorem dX1_tellNext_12 : decode cX1_tellNext 12 = .ok (.getfield 19, 3) := by decide +kernel
theorem dX1_tellNext_15 : decode cX1_tellNext 15 = .ok (.iload_n 1, 1) := by decide +kernel
theorem dX1_tellNext_16 : decode cX1_tellNext 16 = .ok (.iaload, 1) := by decide +kernel
end
section
theorem dX1_tellNext_17 : decode cX1_tellNext 17 = .ok (.if_icmp .ge 40, 3) := by decide +kernel
theorem dX1_tellNext_20 : decode cX1_tellNext 20 = .ok (.aload_n 0, 1) := by decide +kernel
theorem dX1_tellNext_21 : decode cX1_tellNext 21 = .ok (.iload_n 1, 1) := by decide +kernel
theorem dX1_tellNext_22 : decode cX1_tellNext 22 = .ok (.iload_n 2, 1) := by decide +kernel
theorem dX1_tellNext_23 : decode cX1_tellNext 23 = .ok (.invokevirtual 120, 3) := by decide +kernel
theorem dX1_tellNext_26 : decode cX1_tellNext 26 = .ok (.istore_n 3, 1) := by decide +kernel
theorem dX1_tellNext_27 : decode cX1_tellNext 27 = .ok (.aload_n 0, 1) := by decide +kernel
theorem dX1_tellNext_28 : decode cX1_tellNext 28 = .ok (.getfield 35, 3) := by decide +kernel
theorem dX1_tellNext_31 : decode cX1_tellNext 31 = .ok (.iload_n 3, 1) := by decide +kernel
theorem dX1_tellNext_32 : decode cX1_tellNext 32 = .ok (.dup2, 1) := by decide +kernel
theorem dX1_tellNext_33 : decode cX1_tellNext 33 = .ok (.iaload, 1) := by decide +kernel
theorem dX1_tellNext_34 : decode cX1_tellNext 34 = .ok (.iconst 1, 1) := by decide +kernel
theorem dX1_tellNext_35 : decode cX1_tellNext 35 = .ok (.isub, 1) := by decide +kernel
theorem dX1_tellNext_36 : decode cX1_tellNext 36 = .ok (.iastore, 1) := by decide +kernel
theorem dX1_tellNext_37 : decode cX1_tellNext 37 = .ok (.aload_n 0, 1) := by decide +kernel
theorem dX1_tellNext_38 : decode cX1_tellNext 38 = .ok (.getfield 35, 3) := by decide +kernel
theorem dX1_tellNext_41 : decode cX1_tellNext 41 = .ok (.iload_n 3, 1) := by decide +kernel
theorem dX1_tellNext_42 : decode cX1_tellNext 42 = .ok (.iaload, 1) := by decide +kernel
theorem dX1_tellNext_43 : decode cX1_tellNext 43 = .ok (.ifCond .ne 8, 3) := by decide +kernel
theorem dX1_tellNext_46 : decode cX1_tellNext 46 = .ok (.aload_n 0, 1) := by decide +kernel
theorem dX1_tellNext_47 : decode cX1_tellNext 47 = .ok (.iload_n 3, 1) := by decide +kernel
theorem dX1_tellNext_48 : decode cX1_tellNext 48 = .ok (.invokevirtual 96, 3) := by decide +kernel
theorem dX1_tellNext_51 : decode cX1_tellNext 51 = .ok (.iinc 2 1, 3) := by decide +kernel
theorem dX1_tellNext_54 : decode cX1_tellNext 54 = .ok (.goto (-44), 3) := by decide +kernel
theorem dX1_tellNext_57 : decode cX1_tellNext 57 = .ok (.return_, 1) := by decide +kernel
theorem dX1_back_0 : decode cX1_back 0 = .ok (.aload_n 0, 1) := by decide +kernel
theorem dX1_back_1 : decode cX1_back 1 = .ok (.iload_n 1, 1) := by decide +kernel
theorem dX1_back_2 : decode cX1_back 2 = .ok (.invokevirtual 64, 3) := by decide +kernel
theorem dX1_back_5 : decode cX1_back 5 = .ok (.iload_n 2, 1) := by decide +kernel
theorem dX1_back_6 : decode cX1_back 6 = .ok (.ifCond .ge 13, 3) := by decide +kernel
theorem dX1_back_9 : decode cX1_back 9 = .ok (.new 67, 3) := by decide +kernel
theorem dX1_back_12 : decode cX1_back 12 = .ok (.dup, 1) := by decide +kernel
theorem dX1_back_13 : decode cX1_back 13 = .ok (.ldc 113, 2) := by decide +kernel
theorem dX1_back_15 : decode cX1_back 15 = .ok (.invokespecial 71, 3) := by decide +kernel
theorem dX1_back_18 : decode cX1_back 18 = .ok (.athrow, 1) := by decide +kernel
theorem dX1_back_19 : decode cX1_back 19 = .ok (.iload_n 1, 1) := by decide +kernel
theorem dX1_back_20 : decode cX1_back 20 = .ok (.istore_n 3, 1) := by decide +kernel
theorem dX1_back_21 : decode cX1_back 21 = .ok (.iconst 0, 1) := by decide +kernel
theorem dX1_back_22 : decode cX1_back 22 = .ok (.istore 4, 2) := by decide +kernel
theorem dX1_back_24 : decode cX1_back 24 = .ok (.iload 4, 2) := by decide +kernel
theorem dX1_back_26 : decode cX1_back 26 = .ok (.iload_n 2, 1) := by decide +kernel
theorem dX1_back_27 : decode cX1_back 27 = .ok (.if_icmp .ge 35, 3) := by decide +kernel
theorem dX1_back_30 : decode cX1_back 30 = .ok (.aload_n 0, 1) := by decide +kernel
theorem dX1_back_31 : decode cX1_back 31 = .ok (.getfield 19, 3) := by decide +kernel
theorem dX1_back_34 : decode cX1_back 34 = .ok (.iload_n 3, 1) := by decide +kernel
theorem dX1_back_35 : decode cX1_back 35 = .ok (.iaload, 1) := by decide +kernel
theorem dX1_back_36 : decode cX1_back 36 = .ok (.ifCond .ne 13, 3) := by decide +kernel
theorem dX1_back_39 : decode cX1_back 39 = .ok (.new 115, 3) := by decide +kernel
theorem dX1_back_42 : decode cX1_back 42 = .ok (.dup, 1) := by decide +kernel
theorem dX1_back_43 : decode cX1_back 43 = .ok (.ldc 117, 2) := by decide +kernel
theorem dX1_back_45 : decode cX1_back 45 = .ok (.invokespecial 119, 3) := by decide +kernel
theorem dX1_back_48 : decode cX1_back 48 = .ok (.athrow, 1) := by decide +kernel
theorem dX1_back_49 : decode cX1_back 49 = .ok (.aload_n 0, 1) := by decide +kernel
theorem dX1_back_50 : decode cX1_back 50 = .ok (.iload_n 3, 1) := by decide +kernel
theorem dX1_back_51 : decode cX1_back 51 = .ok (.iconst 0, 1) := by decide +kernel
theorem dX1_back_52 : decode cX1_back 52 = .ok (.invokevirtual 120, 3) := by decide +kernel
theorem dX1_back_55 : decode cX1_back 55 = .ok (.istore_n 3, 1) := by decide +kernel
theorem dX1_back_56 : decode cX1_back 56 = .ok (.iinc 4 1, 3) := by decide +kernel
theorem dX1_back_59 : decode cX1_back 59 = .ok (.goto (-35), 3) := by decide +kernel
theorem dX1_back_62 : decode cX1_back 62 = .ok (.iload_n 3, 1) := by decide +kernel
theorem dX1_back_63 : decode cX1_back 63 = .ok (.ireturn, 1) := by decide +kernel
theorem dX1_sent_0 : decode cX1_sent 0 = .ok (.iload_n 1, 1) := by decide +kernel
theorem dX1_sent_1 : decode cX1_sent 1 = .ok (.invokestatic 77, 3) := by decide +kernel
theorem dX1_sent_4 : decode cX1_sent 4 = .ok (.aload_n 0, 1) := by decide +kernel
theorem dX1_sent_5 : decode cX1_sent 5 = .ok (.invokevirtual 123, 3) := by decide +kernel
theorem dX1_sent_8 : decode cX1_sent 8 = .ok (.aload_n 0, 1) := by decide +kernel
theorem dX1_sent_9 : decode cX1_sent 9 = .ok (.getfield 41, 3) := by decide +kernel
theorem dX1_sent_12 : decode cX1_sent 12 = .ok (.invokevirtual 93, 3) := by decide +kernel
theorem dX1_sent_15 : decode cX1_sent 15 = .ok (.iconst 0, 1) := by decide +kernel
theorem dX1_sent_16 : decode cX1_sent 16 = .ok (.istore_n 3, 1) := by decide +kernel
theorem dX1_sent_17 : decode cX1_sent 17 = .ok (.iload_n 3, 1) := by decide +kernel
theorem dX1_sent_18 : decode cX1_sent 18 = .ok (.aload_n 0, 1) := by decide +kernel
theorem dX1_sent_19 : decode cX1_sent 19 = .ok (.getfield 49, 3) := by decide +kernel
theorem dX1_sent_22 : decode cX1_sent 22 = .ok (.if_icmp .ge 42, 3) := by decide +kernel
theorem dX1_sent_25 : decode cX1_sent 25 = .ok (.aload_n 0, 1) := by decide +kernel
theorem dX1_sent_26 : decode cX1_sent 26 = .ok (.getfield 32, 3) := by decide +kernel
theorem dX1_sent_29 : decode cX1_sent 29 = .ok (.iload_n 3, 1) := by decide +kernel
theorem dX1_sent_30 : decode cX1_sent 30 = .ok (.iaload, 1) := by decide +kernel
theorem dX1_sent_31 : decode cX1_sent 31 = .ok (.iload_n 1, 1) := by decide +kernel
theorem dX1_sent_32 : decode cX1_sent 32 = .ok (.invokestatic 80, 3) := by decide +kernel
theorem dX1_sent_35 : decode cX1_sent 35 = .ok (.if_icmp .ne 23, 3) := by decide +kernel
theorem dX1_sent_38 : decode cX1_sent 38 = .ok (.aload_n 0, 1) := by decide +kernel
theorem dX1_sent_39 : decode cX1_sent 39 = .ok (.getfield 41, 3) := by decide +kernel
theorem dX1_sent_42 : decode cX1_sent 42 = .ok (.aload_n 0, 1) := by decide +kernel
theorem dX1_sent_43 : decode cX1_sent 43 = .ok (.getfield 16, 3) := by decide +kernel
theorem dX1_sent_46 : decode cX1_sent 46 = .ok (.iload_n 3, 1) := by decide +kernel
theorem dX1_sent_47 : decode cX1_sent 47 = .ok (.iaload, 1) := by decide +kernel
theorem dX1_sent_48 : decode cX1_sent 48 = .ok (.aload_n 0, 1) := by decide +kernel
theorem dX1_sent_49 : decode cX1_sent 49 = .ok (.getfield 13, 3) := by decide +kernel
theorem dX1_sent_52 : decode cX1_sent 52 = .ok (.iload_n 3, 1) := by decide +kernel
theorem dX1_sent_53 : decode cX1_sent 53 = .ok (.iaload, 1) := by decide +kernel
theorem dX1_sent_54 : decode cX1_sent 54 = .ok (.iload_n 3, 1) := by decide +kernel
theorem dX1_sent_55 : decode cX1_sent 55 = .ok (.invokevirtual 126, 3) := by decide +kernel
theorem dX1_sent_58 : decode cX1_sent 58 = .ok (.iinc 3 1, 3) := by decide +kernel
theorem dX1_sent_61 : decode cX1_sent 61 = .ok (.goto (-44), 3) := by decide +kernel
theorem dX1_sent_64 : decode cX1_sent 64 = .ok (.aload_n 0, 1) := by decide +kernel
theorem dX1_sent_65 : decode cX1_sent 65 = .ok (.iload_n 2, 1) := by decide +kernel
theorem dX1_sent_66 : decode cX1_sent 66 = .ok (.invokevirtual 99, 3) := by decide +kernel
theorem dX1_sent_69 : decode cX1_sent 69 = .ok (.ireturn, 1) := by decide +kernel
theorem dX1_told_0 : decode cX1_told 0 = .ok (.aload_n 0, 1) := by decide +kernel
theorem dX1_told_1 : decode cX1_told 1 = .ok (.iload_n 1, 1) := by decide +kernel
theorem dX1_told_2 : decode cX1_told 2 = .ok (.invokevirtual 64, 3) := by decide +kernel
theorem dX1_told_5 : decode cX1_told 5 = .ok (.iload_n 2, 1) := by decide +kernel
theorem dX1_told_6 : decode cX1_told 6 = .ok (.tableswitch 72 0 4 #[34, 41, 48, 55, 62], 34) := by decide +kernel
theorem dX1_told_40 : decode cX1_told 40 = .ok (.aload_n 0, 1) := by decide +kernel
theorem dX1_told_41 : decode cX1_told 41 = .ok (.getfield 9, 3) := by decide +kernel
theorem dX1_told_44 : decode cX1_told 44 = .ok (.iload_n 1, 1) := by decide +kernel
theorem dX1_told_45 : decode cX1_told 45 = .ok (.iaload, 1) := by decide +kernel
theorem dX1_told_46 : decode cX1_told 46 = .ok (.ireturn, 1) := by decide +kernel
theorem dX1_told_47 : decode cX1_told 47 = .ok (.aload_n 0, 1) := by decide +kernel
theorem dX1_told_48 : decode cX1_told 48 = .ok (.getfield 13, 3) := by decide +kernel
theorem dX1_told_51 : decode cX1_told 51 = .ok (.iload_n 1, 1) := by decide +kernel
theorem dX1_told_52 : decode cX1_told 52 = .ok (.iaload, 1) := by decide +kernel
theorem dX1_told_53 : decode cX1_told 53 = .ok (.ireturn, 1) := by decide +kernel
theorem dX1_told_54 : decode cX1_told 54 = .ok (.aload_n 0, 1) := by decide +kernel
theorem dX1_told_55 : decode cX1_told 55 = .ok (.getfield 19, 3) := by decide +kernel
theorem dX1_told_58 : decode cX1_told 58 = .ok (.iload_n 1, 1) := by decide +kernel
theorem dX1_told_59 : decode cX1_told 59 = .ok (.iaload, 1) := by decide +kernel
theorem dX1_told_60 : decode cX1_told 60 = .ok (.ireturn, 1) := by decide +kernel
theorem dX1_told_61 : decode cX1_told 61 = .ok (.aload_n 0, 1) := by decide +kernel
theorem dX1_told_62 : decode cX1_told 62 = .ok (.getfield 16, 3) := by decide +kernel
theorem dX1_told_65 : decode cX1_told 65 = .ok (.iload_n 1, 1) := by decide +kernel
theorem dX1_told_66 : decode cX1_told 66 = .ok (.iaload, 1) := by decide +kernel
theorem dX1_told_67 : decode cX1_told 67 = .ok (.ireturn, 1) := by decide +kernel
theorem dX1_told_68 : decode cX1_told 68 = .ok (.aload_n 0, 1) := by decide +kernel
theorem dX1_told_69 : decode cX1_told 69 = .ok (.getfield 29, 3) := by decide +kernel
theorem dX1_told_72 : decode cX1_told 72 = .ok (.iload_n 1, 1) := by decide +kernel
theorem dX1_told_73 : decode cX1_told 73 = .ok (.iaload, 1) := by decide +kernel
theorem dX1_told_74 : decode cX1_told 74 = .ok (.invokestatic 130, 3) := by decide +kernel
theorem dX1_told_77 : decode cX1_told 77 = .ok (.ireturn, 1) := by decide +kernel
theorem dX1_told_78 : decode cX1_told 78 = .ok (.new 67, 3) := by decide +kernel
theorem dX1_told_81 : decode cX1_told 81 = .ok (.dup, 1) := by decide +kernel
theorem dX1_told_82 : decode cX1_told 82 = .ok (.ldc 135, 2) := by decide +kernel
theorem dX1_told_84 : decode cX1_told 84 = .ok (.invokespecial 71, 3) := by decide +kernel
theorem dX1_told_87 : decode cX1_told 87 = .ok (.athrow, 1) := by decide +kernel
end
section
/-! The methods as functions of the rows. -/
abbrev ix (x : Int32) : Nat := x.toNatClampNeg
def bI (b : Bool) : Int32 := if b = true then nI 1 else nI 0
def cbF (M : Nat → Nat → Int32) (x y : Nat) : Bool := if M 11 x = M 11 y then (if M 12 x = M 12 y then decide (M 13 x < M 13 y) else decide (M 12 x < M 12 y)) else decide (M 11 x < M 11 y)
def sw1 (f : Nat → Int32) (x y : Nat) : Nat → Int32 := upd (upd f x (f y)) y (f x)
def swF (M : Nat → Nat → Int32) (x y : Nat) : Nat → Nat → Int32 := va_up (va_up (va_up M 11 (sw1 (M 11) x y)) 12 (sw1 (M 12) x y)) 13 (sw1 (M 13) x y)
def riF : Nat → (Nat → Nat → Int32) → Nat → (Nat → Nat → Int32)
  | 0, M, _ => M
  | f + 1, M, p => if p = 0 then M else if cbF M ((p - 1) / 2) p = true then M else riF f (swF M ((p - 1) / 2) p) ((p - 1) / 2)
def chF (M : Nat → Nat → Int32) (k p : Nat) : Nat := if 2 * p + 1 + 1 < k ∧ cbF M (2 * p + 1 + 1) (2 * p + 1) = true then 2 * p + 1 + 1 else 2 * p + 1
def siF : Nat → (Nat → Nat → Int32) → Nat → Nat → (Nat → Nat → Int32)
  | 0, M, _, _ => M
  | f + 1, M, k, p => if 2 * p + 1 < k then (if cbF M p (chF M k p) = true then M else siF f (swF M p (chF M k p)) k (chF M k p)) else M
def ptF (M : Nat → Nat → Int32) (k : Nat) (r ky nm : Int32) : Nat → Nat → Int32 := va_up (va_up (va_up M 11 (upd (M 11) k r)) 12 (upd (M 12) k ky)) 13 (upd (M 13) k nm)
def puF (M : Nat → Nat → Int32) (k : Nat) (r ky nm : Int32) : Nat → Nat → Int32 := if 2000 ≤ k then M else riF k (ptF M k r ky nm) k
def puK (k : Nat) : Nat := if 2000 ≤ k then k else k + 1
def tkR (M : Nat → Nat → Int32) (k : Nat) : Int32 := if k = 0 then -1 else M 13 0
def tkF (M : Nat → Nat → Int32) (k : Nat) : Nat → Nat → Int32 := if k = 0 then M else siF (k - 1) (swF M 0 (k - 1)) (k - 1) 0
theorem riF_0 (f : Nat) (M : Nat → Nat → Int32) : riF f M 0 = M := by cases f <;> simp [riF]
theorem riF_s {f p : Nat} {M : Nat → Nat → Int32} (h : 0 < p) : riF (f + 1) M p = if cbF M ((p - 1) / 2) p = true then M else riF f (swF M ((p - 1) / 2) p) ((p - 1) / 2) := by
  rw [riF, if_neg (by omega)]
theorem siF_e {f k p : Nat} {M : Nat → Nat → Int32} (h : ¬ 2 * p + 1 < k) : siF f M k p = M := by
  cases f with
  | zero => rfl
  | succ f => rw [siF, if_neg h]
theorem siF_s {f k p : Nat} {M : Nat → Nat → Int32} (h : 2 * p + 1 < k) : siF (f + 1) M k p = if cbF M p (chF M k p) = true then M else siF f (swF M p (chF M k p)) k (chF M k p) := by
  rw [siF, if_pos h]
def pcn (M : Nat → Nat → Int32) (c : Nat) : Nat := ix (M 4 c)
def par (M : Nat → Nat → Int32) (c s : Nat) : Nat := ix (M 5 (c * 4 + s))
/-- what keeps every index in range: counts of parents are at most four, parents lie below -/
def okN (M : Nat → Nat → Int32) (n : Nat) : Prop := n ≤ 2000 ∧ ∀ c, c < n → pcn M c ≤ 4 ∧ M 4 c = nI (pcn M c) ∧ ∀ s, s < pcn M c → par M c s < c ∧ M 5 (c * 4 + s) = nI (par M c s)
def sdF (h : Nat) : Int32 := if h = 0 then nI 1 else nI 2
/-- clear the marks of d commits from i on -/
def clF : Nat → Nat → (Nat → Nat → Int32) → (Nat → Nat → Int32)
  | 0, _, M => M
  | d + 1, i, M => clF d (i + 1) (va_up M 8 (upd (M 8) i (nI 0)))
def mhF : Nat → Nat → (Nat → Nat → Int32) → (Nat → Nat → Int32)
  | 0, _, M => M
  | d + 1, i, M => mhF d (i + 1) (va_up M 8 (upd (M 8) i (M 7 i)))
def cmF (M : Nat → Nat → Int32) (c : Nat) : Bool := decide (M 8 c &&& nI 3 = nI 3)
def hdF (M : Nat → Nat → Int32) (c : Nat) : Int32 := if cmF M c = true then M 8 c ||| nI 4 else M 8 c
/-- hand h down to the parents of c: d slots from t on -/
def inF (c : Nat) (h : Int32) : Nat → Nat → (Nat → Nat → Int32) → (Nat → Nat → Int32)
  | 0, _, M => M
  | d + 1, t, M => inF c h d (t + 1) (va_up M 8 (upd (M 8) (par M c t) (M 8 (par M c t) ||| h)))
def spF : Nat → (Nat → Nat → Int32) → (Nat → Nat → Int32)
  | 0, M => M
  | c + 1, M => spF c (inF c (hdF M c) (pcn M c) 0 M)
def mrF (M : Nat → Nat → Int32) (n c : Nat) : Nat → Nat → Int32 := spF n (va_up (clF n 0 M) 8 (upd (clF n 0 M 8) c (nI 1)))
def hlF (M : Nat → Nat → Int32) (n : Nat) : Nat → Nat → Int32 := spF n (mhF n 0 M)
/-- how many of d from i on have b, more than a -/
def cnF (b : Nat → Bool) : Nat → Nat → Nat → Nat
  | 0, _, a => a
  | d + 1, i, a => cnF b d (i + 1) (if b i = true then a + 1 else a)
def ggF (f : Nat → Int32) : Nat → Nat → Int32 → Int32
  | 0, _, a => a
  | d + 1, i, a => ggF f d (i + 1) (if a < f i then f i else a)
def hnF (M : Nat → Nat → Int32) (c : Nat) : Nat → Nat → Bool
  | 0, _ => false
  | d + 1, t => if c ≤ par M c t then true else hnF M c d (t + 1)
def lkF (M : Nat → Nat → Int32) (c p : Nat) : Nat → Nat → Int32 :=
  va_up (va_up (va_up (va_up M 5 (upd (M 5) (c * 4 + pcn M c) (nI p))) 4 (upd (M 4) c (M 4 c + nI 1))) 6 (upd (M 6) p (nI 1))) 3 (upd (M 3) c (if M 3 c < M 3 p + nI 1 then M 3 p + nI 1 else M 3 c))
def u1F : Nat → Nat → (Nat → Nat → Int32) → (Nat → Nat → Int32)
  | 0, _, M => M
  | d + 1, i, M => u1F d (i + 1) (va_up M 9 (upd (M 9) i (nI 0)))
def u2F (c : Nat) : Nat → Nat → (Nat → Nat → Int32) → (Nat → Nat → Int32)
  | 0, _, M => M
  | d + 1, t, M => u2F c d (t + 1) (va_up M 9 (upd (M 9) (par M c t) (M 9 (par M c t) + nI 1)))
def u3F : Nat → Nat → (Nat → Nat → Int32) → (Nat → Nat → Int32)
  | 0, _, M => M
  | d + 1, i, M => u3F d (i + 1) (u2F i (if M 8 i = 0 then 0 else pcn M i) 0 M)
def cuF (M : Nat → Nat → Int32) (n : Nat) : Nat → Nat → Int32 := u3F n 0 (u1F n 0 M)
/-- put c into the queue in THE ORDER -/
def qoF (M : Nat → Nat → Int32) (k c : Nat) : Nat → Nat → Int32 := puF M k (M 1 c ^^^ (-1)) (M 2 c) (nI c)
/-- the loop of tellNext -/
def tlF (c : Nat) : Nat → Nat → (Nat → Nat → Int32) × Nat → (Nat → Nat → Int32) × Nat
  | 0, _, u => u
  | d + 1, t, u => tlF c d (t + 1) (let M := va_up u.1 9 (upd (u.1 9) (par u.1 c t) (u.1 9 (par u.1 c t) - nI 1)); if M 9 (par u.1 c t) = 0 then (qoF M u.2 (par u.1 c t), puK u.2) else (M, u.2))
def tnF (u : (Nat → Nat → Int32) × Nat) : (Nat → Nat → Int32) × Nat := tlF (ix (tkR u.1 u.2)) (pcn (tkF u.1 u.2) (ix (tkR u.1 u.2))) 0 (tkF u.1 u.2, u.2 - 1)
/-- the loop of toldAt: at most i -/
def taF : Nat → (Nat → Nat → Int32) × Nat → (Nat → Nat → Int32) × Nat
  | 0, u => u
  | i + 1, u => if 0 < u.2 then taF i (tnF u) else u
/-- take i times -/
def qaF : Nat → (Nat → Nat → Int32) × Nat → (Nat → Nat → Int32) × Nat
  | 0, u => u
  | i + 1, u => qaF i (tkF u.1 u.2, u.2 - 1)
def bsF : Nat → Nat → (Nat → Nat → Int32) × Nat → (Nat → Nat → Int32) × Nat
  | 0, _, u => u
  | d + 1, i, u => bsF d (i + 1) (if u.1 8 i = nI 3 then (qoF u.1 u.2 i, puK u.2) else u)
def seF (h : Nat) : Nat → Nat → (Nat → Nat → Int32) × Nat → (Nat → Nat → Int32) × Nat
  | 0, _, u => u
  | d + 1, i, u => seF h d (i + 1) (if u.1 8 i = sdF h then (puF u.1 u.2 (u.1 3 i) (u.1 2 i) (nI i), puK u.2) else u)
end
section
def TY2 : u_T := fun k => match k with
  | 0 => ("AncestryNetModel", "time", "[I", true)
  | 1 => ("AncestryNetModel", "key", "[I", true)
  | 2 => ("AncestryNetModel", "many", "[I", true)
  | 3 => ("AncestryNetModel", "parent", "[I", true)
  | 4 => ("AncestryNetModel", "row", "[I", true)
  | 5 => ("AncestryNetModel", "tips", "[Z", true)
  | 6 => ("AncestryNetModel", "one", "[Z", true)
  | 7 => ("AncestryNetModel", "other", "[Z", true)
  | 8 => ("AncestryNetModel", "left", "[Z", true)
  | 9 => ("AncestryNetModel", "size", "I", false)
  | 10 => ("AncestryNetModel", "thrown", "I", false)
  | _ => ("AncestryNetModel", "found", "I", false)
def tyY2 : Nat → FieldType := fun k => match k with
  | 0 => .array .int
  | 1 => .array .int
  | 2 => .array .int
  | 3 => .array .int
  | 4 => .array .int
  | 5 => .array .boolean
  | 6 => .array .boolean
  | 7 => .array .boolean
  | 8 => .array .boolean
  | _ => .int
theorem nmY2 : ∀ a, a < 12 → ∀ b, b < 12 → a ≠ b → (TY2 a).2.1 ≠ (TY2 b).2.1 := by decide +kernel
theorem tyY2_ok : ∀ k, k < 12 → parseFieldDescriptor (TY2 k).2.2.1 = some (tyY2 k) := by decide +kernel
def wC : List Cond := [(Jvm.Cond.selects "AncestryNet" ({ cls := "AncestryNet", name := "tipsOf", desc := "(I)I" } : Jvm.MethodName) ({ cls := "AncestryNet", name := "tipsOf", desc := "(I)I" } : Jvm.MethodName)),
  (Jvm.Cond.selects "AncestryNet" ({ cls := "AncestryNet", name := "greatestGeneration", desc := "()I" } : Jvm.MethodName) ({ cls := "AncestryNet", name := "greatestGeneration", desc := "()I" } : Jvm.MethodName)),
  (Jvm.Cond.selects "AncestryNet" ({ cls := "AncestryNet", name := "childlessCommits", desc := "()I" } : Jvm.MethodName) ({ cls := "AncestryNet", name := "childlessCommits", desc := "()I" } : Jvm.MethodName)),
  (Jvm.Cond.selects "AncestryNet" ({ cls := "AncestryNet", name := "commonCommits", desc := "()I" } : Jvm.MethodName) ({ cls := "AncestryNet", name := "commonCommits", desc := "()I" } : Jvm.MethodName)),
  (Jvm.Cond.selects "AncestryNet" ({ cls := "AncestryNet", name := "markHeld", desc := "()V" } : Jvm.MethodName) ({ cls := "AncestryNet", name := "markHeld", desc := "()V" } : Jvm.MethodName)),
  (Jvm.Cond.selects "AncestryNet" ({ cls := "AncestryNet", name := "spreadMarks", desc := "()V" } : Jvm.MethodName) ({ cls := "AncestryNet", name := "spreadMarks", desc := "()V" } : Jvm.MethodName)),
  (Jvm.Cond.selects "AncestryNet" ({ cls := "AncestryNet", name := "isCommon", desc := "(I)Z" } : Jvm.MethodName) ({ cls := "AncestryNet", name := "isCommon", desc := "(I)Z" } : Jvm.MethodName)),
  (Jvm.Cond.selects "AncestryNet" ({ cls := "AncestryNet", name := "parentOf", desc := "(II)I" } : Jvm.MethodName) ({ cls := "AncestryNet", name := "parentOf", desc := "(II)I" } : Jvm.MethodName)),
  (Jvm.Cond.selects "AncestryNet" ({ cls := "AncestryNet", name := "misplacedCommits", desc := "()I" } : Jvm.MethodName) ({ cls := "AncestryNet", name := "misplacedCommits", desc := "()I" } : Jvm.MethodName)),
  (Jvm.Cond.selects "AncestryNet" ({ cls := "AncestryNet", name := "hasParentNotBelow", desc := "(I)Z" } : Jvm.MethodName) ({ cls := "AncestryNet", name := "hasParentNotBelow", desc := "(I)Z" } : Jvm.MethodName)),
  (Jvm.Cond.selects "AncestryNet" ({ cls := "AncestryNet", name := "checkParentOrNone", desc := "(I)V" } : Jvm.MethodName) ({ cls := "AncestryNet", name := "checkParentOrNone", desc := "(I)V" } : Jvm.MethodName)),
  (Jvm.Cond.selects "AncestryNet" ({ cls := "AncestryNet", name := "checkCommit", desc := "(I)V" } : Jvm.MethodName) ({ cls := "AncestryNet", name := "checkCommit", desc := "(I)V" } : Jvm.MethodName)),
  (Jvm.Cond.selects "java/lang/Throwable" ({ cls := "java/lang/Throwable", name := "fillInStackTrace", desc := "(I)Ljava/lang/Throwable;" } : Jvm.MethodName) ({ cls := "java/lang/Throwable", name := "fillInStackTrace", desc := "(I)Ljava/lang/Throwable;" } : Jvm.MethodName)),
  (Jvm.Cond.selects "AncestryNet" ({ cls := "AncestryNet", name := "linkUnlessNone", desc := "(II)V" } : Jvm.MethodName) ({ cls := "AncestryNet", name := "linkUnlessNone", desc := "(II)V" } : Jvm.MethodName)),
  (Jvm.Cond.selects "AncestryNet" ({ cls := "AncestryNet", name := "link", desc := "(II)V" } : Jvm.MethodName) ({ cls := "AncestryNet", name := "link", desc := "(II)V" } : Jvm.MethodName)),
  (Jvm.Cond.selects "AncestryNet" ({ cls := "AncestryNet", name := "markReachable", desc := "(I)V" } : Jvm.MethodName) ({ cls := "AncestryNet", name := "markReachable", desc := "(I)V" } : Jvm.MethodName)),
  (Jvm.Cond.selects "AncestryNet" ({ cls := "AncestryNet", name := "clearMarks", desc := "()V" } : Jvm.MethodName) ({ cls := "AncestryNet", name := "clearMarks", desc := "()V" } : Jvm.MethodName)),
  (Jvm.Cond.selects "AncestryNet" ({ cls := "AncestryNet", name := "queueInTheOrder", desc := "(I)V" } : Jvm.MethodName) ({ cls := "AncestryNet", name := "queueInTheOrder", desc := "(I)V" } : Jvm.MethodName)),
  (Jvm.Cond.selects "AncestryNet$Queue" ({ cls := "AncestryNet$Queue", name := "rise", desc := "()V" } : Jvm.MethodName) ({ cls := "AncestryNet$Queue", name := "rise", desc := "()V" } : Jvm.MethodName)),
  (Jvm.Cond.selects "AncestryNet$Queue" ({ cls := "AncestryNet$Queue", name := "comesBefore", desc := "(II)Z" } : Jvm.MethodName) ({ cls := "AncestryNet$Queue", name := "comesBefore", desc := "(II)Z" } : Jvm.MethodName)),
  (Jvm.Cond.selects "AncestryNet$Queue" ({ cls := "AncestryNet$Queue", name := "swap", desc := "(II)V" } : Jvm.MethodName) ({ cls := "AncestryNet$Queue", name := "swap", desc := "(II)V" } : Jvm.MethodName)),
  (Jvm.Cond.selects "AncestryNet" ({ cls := "AncestryNet", name := "queuedAt", desc := "(I)I" } : Jvm.MethodName) ({ cls := "AncestryNet", name := "queuedAt", desc := "(I)I" } : Jvm.MethodName)),
  (Jvm.Cond.selects "AncestryNet$Queue" ({ cls := "AncestryNet$Queue", name := "sink", desc := "()V" } : Jvm.MethodName) ({ cls := "AncestryNet$Queue", name := "sink", desc := "()V" } : Jvm.MethodName)),
  (Jvm.Cond.selects "AncestryNet" ({ cls := "AncestryNet", name := "markedCommits", desc := "()I" } : Jvm.MethodName) ({ cls := "AncestryNet", name := "markedCommits", desc := "()I" } : Jvm.MethodName)),
  (Jvm.Cond.selects "AncestryNet" ({ cls := "AncestryNet", name := "toldAt", desc := "(II)I" } : Jvm.MethodName) ({ cls := "AncestryNet", name := "toldAt", desc := "(II)I" } : Jvm.MethodName)),
  (Jvm.Cond.selects "AncestryNet" ({ cls := "AncestryNet", name := "countUntoldLinks", desc := "()V" } : Jvm.MethodName) ({ cls := "AncestryNet", name := "countUntoldLinks", desc := "()V" } : Jvm.MethodName)),
  (Jvm.Cond.selects "AncestryNet" ({ cls := "AncestryNet", name := "tellNext", desc := "()V" } : Jvm.MethodName) ({ cls := "AncestryNet", name := "tellNext", desc := "()V" } : Jvm.MethodName)),
  (Jvm.Cond.initialized "AncestryNet"),
  (Jvm.Cond.initialized "AncestryNet$Queue"),
  (Jvm.Cond.initialized "java/lang/Throwable"),
  (Jvm.Cond.initialized "java/lang/Exception"),
  (Jvm.Cond.initialized "java/lang/RuntimeException"),
  (Jvm.Cond.initialized "java/lang/IllegalArgumentException"),
  (Jvm.Cond.initialized "java/lang/IllegalStateException"),
  (Jvm.Cond.initialized "java/lang/Math"),
  (Jvm.Cond.initialized "java/util/NoSuchElementException"),
  (Jvm.Cond.initialized "java/lang/Integer"),
  (Jvm.Cond.instantiable "AncestryNet" (11 : Nat)),
  (Jvm.Cond.instanceMethod ({ cls := "AncestryNet", name := "<init>", desc := "()V" } : Jvm.MethodName)),
  (Jvm.Cond.code ({ cls := "AncestryNet", name := "<init>", desc := "()V" } : Jvm.MethodName) prog_1_method_1_code (1 : Nat) (Option.none : Option Jvm.ClassFile.FieldType)),
  (Jvm.Cond.methodLink "AncestryNet" (1 : Nat) ({ cls := "java/lang/Object", name := "<init>", desc := "()V" } : Jvm.MethodName)),
  (Jvm.Cond.instanceMethod ({ cls := "java/lang/Object", name := "<init>", desc := "()V" } : Jvm.MethodName)),
  (Jvm.Cond.code ({ cls := "java/lang/Object", name := "<init>", desc := "()V" } : Jvm.MethodName) object_method_1_code (1 : Nat) (Option.none : Option Jvm.ClassFile.FieldType)),
  (Jvm.Cond.classLink "AncestryNet" (38 : Nat) "AncestryNet$Queue"),
  (Jvm.Cond.instantiable "AncestryNet$Queue" (4 : Nat)),
  (Jvm.Cond.instanceMethod ({ cls := "AncestryNet$Queue", name := "<init>", desc := "()V" } : Jvm.MethodName)),
  (Jvm.Cond.code ({ cls := "AncestryNet$Queue", name := "<init>", desc := "()V" } : Jvm.MethodName) prog_2_method_1_code (1 : Nat) (Option.none : Option Jvm.ClassFile.FieldType)),
  (Jvm.Cond.methodLink "AncestryNet$Queue" (3 : Nat) ({ cls := "java/lang/Object", name := "<init>", desc := "()V" } : Jvm.MethodName)),
  (Jvm.Cond.fieldLink "AncestryNet$Queue" (9 : Nat) "AncestryNet$Queue" "ranks" "[I"),
  (Jvm.Cond.fieldLink "AncestryNet$Queue" (15 : Nat) "AncestryNet$Queue" "keys" "[I"),
  (Jvm.Cond.fieldLink "AncestryNet$Queue" (18 : Nat) "AncestryNet$Queue" "numbers" "[I"),
  (Jvm.Cond.fieldLink "AncestryNet$Queue" (21 : Nat) "AncestryNet$Queue" "size" "I"),
  (Jvm.Cond.laysFinal "AncestryNet$Queue" "AncestryNet$Queue" "ranks" "[I"),
  (Jvm.Cond.soleField "AncestryNet$Queue" "ranks"),
  (Jvm.Cond.laysFinal "AncestryNet$Queue" "AncestryNet$Queue" "keys" "[I"),
  (Jvm.Cond.soleField "AncestryNet$Queue" "keys"),
  (Jvm.Cond.laysFinal "AncestryNet$Queue" "AncestryNet$Queue" "numbers" "[I"),
  (Jvm.Cond.soleField "AncestryNet$Queue" "numbers"),
  (Jvm.Cond.lays "AncestryNet$Queue" "AncestryNet$Queue" "size" "I"),
  (Jvm.Cond.soleField "AncestryNet$Queue" "size"),
  (Jvm.Cond.superclass "AncestryNet$Queue" "java/lang/Object"),
  (Jvm.Cond.arrayClass Jvm.ClassFile.FieldType.int),
  (Jvm.Cond.arrayClass Jvm.ClassFile.FieldType.boolean),
  (Jvm.Cond.fieldLink "AncestryNet" (49 : Nat) "AncestryNet" "commits" "I"),
  (Jvm.Cond.fieldLink "AncestryNet" (9 : Nat) "AncestryNet" "times" "[I"),
  (Jvm.Cond.fieldLink "AncestryNet" (13 : Nat) "AncestryNet" "keys" "[I"),
  (Jvm.Cond.fieldLink "AncestryNet" (16 : Nat) "AncestryNet" "generations" "[I"),
  (Jvm.Cond.fieldLink "AncestryNet" (19 : Nat) "AncestryNet" "parentCounts" "[I"),
  (Jvm.Cond.fieldLink "AncestryNet" (22 : Nat) "AncestryNet" "parents" "[I"),
  (Jvm.Cond.fieldLink "AncestryNet" (25 : Nat) "AncestryNet" "isParent" "[Z"),
  (Jvm.Cond.fieldLink "AncestryNet" (29 : Nat) "AncestryNet" "tips" "[I"),
  (Jvm.Cond.fieldLink "AncestryNet" (32 : Nat) "AncestryNet" "marks" "[I"),
  (Jvm.Cond.fieldLink "AncestryNet" (35 : Nat) "AncestryNet" "untoldLinks" "[I"),
  (Jvm.Cond.fieldLink "AncestryNet" (41 : Nat) "AncestryNet" "queue" "LAncestryNet$Queue;"),
  (Jvm.Cond.lays "AncestryNet" "AncestryNet" "commits" "I"),
  (Jvm.Cond.soleField "AncestryNet" "commits"),
  (Jvm.Cond.laysFinal "AncestryNet" "AncestryNet" "times" "[I"),
  (Jvm.Cond.soleField "AncestryNet" "times"),
  (Jvm.Cond.laysFinal "AncestryNet" "AncestryNet" "keys" "[I"),
  (Jvm.Cond.soleField "AncestryNet" "keys"),
  (Jvm.Cond.laysFinal "AncestryNet" "AncestryNet" "generations" "[I"),
  (Jvm.Cond.soleField "AncestryNet" "generations"),
  (Jvm.Cond.laysFinal "AncestryNet" "AncestryNet" "parentCounts" "[I"),
  (Jvm.Cond.soleField "AncestryNet" "parentCounts"),
  (Jvm.Cond.laysFinal "AncestryNet" "AncestryNet" "parents" "[I"),
  (Jvm.Cond.soleField "AncestryNet" "parents"),
  (Jvm.Cond.laysFinal "AncestryNet" "AncestryNet" "isParent" "[Z"),
  (Jvm.Cond.soleField "AncestryNet" "isParent"),
  (Jvm.Cond.laysFinal "AncestryNet" "AncestryNet" "tips" "[I"),
  (Jvm.Cond.soleField "AncestryNet" "tips"),
  (Jvm.Cond.laysFinal "AncestryNet" "AncestryNet" "marks" "[I"),
  (Jvm.Cond.soleField "AncestryNet" "marks"),
  (Jvm.Cond.laysFinal "AncestryNet" "AncestryNet" "untoldLinks" "[I"),
  (Jvm.Cond.soleField "AncestryNet" "untoldLinks"),
  (Jvm.Cond.laysFinal "AncestryNet" "AncestryNet" "queue" "LAncestryNet$Queue;"),
  (Jvm.Cond.soleField "AncestryNet" "queue"),
  (Jvm.Cond.superclass "AncestryNet" "java/lang/Object"),
  (Jvm.Cond.instanceMethod ({ cls := "AncestryNet", name := "count", desc := "(I)I" } : Jvm.MethodName)),
  (Jvm.Cond.selects "AncestryNet" ({ cls := "AncestryNet", name := "count", desc := "(I)I" } : Jvm.MethodName) ({ cls := "AncestryNet", name := "count", desc := "(I)I" } : Jvm.MethodName)),
  (Jvm.Cond.code ({ cls := "AncestryNet", name := "count", desc := "(I)I" } : Jvm.MethodName) prog_1_method_11_code (2 : Nat) (Option.some Jvm.ClassFile.FieldType.int)),
  (Jvm.Cond.methodLink "AncestryNet" (137 : Nat) ({ cls := "AncestryNet", name := "tipsOf", desc := "(I)I" } : Jvm.MethodName)),
  (Jvm.Cond.instanceMethod ({ cls := "AncestryNet", name := "tipsOf", desc := "(I)I" } : Jvm.MethodName)),
  (Jvm.Cond.code ({ cls := "AncestryNet", name := "tipsOf", desc := "(I)I" } : Jvm.MethodName) prog_1_method_31_code (4 : Nat) (Option.some Jvm.ClassFile.FieldType.int)),
  (Jvm.Cond.methodLink "AncestryNet" (80 : Nat) ({ cls := "AncestryNet", name := "sideOf", desc := "(I)I" } : Jvm.MethodName)),
  (Jvm.Cond.static ({ cls := "AncestryNet", name := "sideOf", desc := "(I)I" } : Jvm.MethodName)),
  (Jvm.Cond.code ({ cls := "AncestryNet", name := "sideOf", desc := "(I)I" } : Jvm.MethodName) prog_1_method_16_code (1 : Nat) (Option.some Jvm.ClassFile.FieldType.int)),
  (Jvm.Cond.methodLink "AncestryNet" (140 : Nat) ({ cls := "AncestryNet", name := "greatestGeneration", desc := "()I" } : Jvm.MethodName)),
  (Jvm.Cond.instanceMethod ({ cls := "AncestryNet", name := "greatestGeneration", desc := "()I" } : Jvm.MethodName)),
  (Jvm.Cond.code ({ cls := "AncestryNet", name := "greatestGeneration", desc := "()I" } : Jvm.MethodName) prog_1_method_32_code (3 : Nat) (Option.some Jvm.ClassFile.FieldType.int)),
  (Jvm.Cond.methodLink "AncestryNet" (158 : Nat) ({ cls := "java/lang/Math", name := "max", desc := "(II)I" } : Jvm.MethodName)),
  (Jvm.Cond.static ({ cls := "java/lang/Math", name := "max", desc := "(II)I" } : Jvm.MethodName)),
  (Jvm.Cond.code ({ cls := "java/lang/Math", name := "max", desc := "(II)I" } : Jvm.MethodName) prog_9_method_65_code (2 : Nat) (Option.some Jvm.ClassFile.FieldType.int)),
  (Jvm.Cond.methodLink "AncestryNet" (143 : Nat) ({ cls := "AncestryNet", name := "childlessCommits", desc := "()I" } : Jvm.MethodName)),
  (Jvm.Cond.instanceMethod ({ cls := "AncestryNet", name := "childlessCommits", desc := "()I" } : Jvm.MethodName)),
  (Jvm.Cond.code ({ cls := "AncestryNet", name := "childlessCommits", desc := "()I" } : Jvm.MethodName) prog_1_method_33_code (3 : Nat) (Option.some Jvm.ClassFile.FieldType.int)),
  (Jvm.Cond.methodLink "AncestryNet" (146 : Nat) ({ cls := "AncestryNet", name := "commonCommits", desc := "()I" } : Jvm.MethodName)),
  (Jvm.Cond.instanceMethod ({ cls := "AncestryNet", name := "commonCommits", desc := "()I" } : Jvm.MethodName)),
  (Jvm.Cond.code ({ cls := "AncestryNet", name := "commonCommits", desc := "()I" } : Jvm.MethodName) prog_1_method_34_code (3 : Nat) (Option.some Jvm.ClassFile.FieldType.int)),
  (Jvm.Cond.methodLink "AncestryNet" (123 : Nat) ({ cls := "AncestryNet", name := "markHeld", desc := "()V" } : Jvm.MethodName)),
  (Jvm.Cond.instanceMethod ({ cls := "AncestryNet", name := "markHeld", desc := "()V" } : Jvm.MethodName)),
  (Jvm.Cond.code ({ cls := "AncestryNet", name := "markHeld", desc := "()V" } : Jvm.MethodName) prog_1_method_22_code (2 : Nat) (Option.none : Option Jvm.ClassFile.FieldType)),
  (Jvm.Cond.methodLink "AncestryNet" (90 : Nat) ({ cls := "AncestryNet", name := "spreadMarks", desc := "()V" } : Jvm.MethodName)),
  (Jvm.Cond.instanceMethod ({ cls := "AncestryNet", name := "spreadMarks", desc := "()V" } : Jvm.MethodName)),
  (Jvm.Cond.code ({ cls := "AncestryNet", name := "spreadMarks", desc := "()V" } : Jvm.MethodName) prog_1_method_23_code (4 : Nat) (Option.none : Option Jvm.ClassFile.FieldType)),
  (Jvm.Cond.methodLink "AncestryNet" (163 : Nat) ({ cls := "AncestryNet", name := "isCommon", desc := "(I)Z" } : Jvm.MethodName)),
  (Jvm.Cond.instanceMethod ({ cls := "AncestryNet", name := "isCommon", desc := "(I)Z" } : Jvm.MethodName)),
  (Jvm.Cond.code ({ cls := "AncestryNet", name := "isCommon", desc := "(I)Z" } : Jvm.MethodName) prog_1_method_24_code (2 : Nat) (Option.some Jvm.ClassFile.FieldType.boolean)),
  (Jvm.Cond.methodLink "AncestryNet" (120 : Nat) ({ cls := "AncestryNet", name := "parentOf", desc := "(II)I" } : Jvm.MethodName)),
  (Jvm.Cond.instanceMethod ({ cls := "AncestryNet", name := "parentOf", desc := "(II)I" } : Jvm.MethodName)),
  (Jvm.Cond.code ({ cls := "AncestryNet", name := "parentOf", desc := "(II)I" } : Jvm.MethodName) prog_1_method_17_code (3 : Nat) (Option.some Jvm.ClassFile.FieldType.int)),
  (Jvm.Cond.methodLink "AncestryNet" (149 : Nat) ({ cls := "AncestryNet", name := "misplacedCommits", desc := "()I" } : Jvm.MethodName)),
  (Jvm.Cond.instanceMethod ({ cls := "AncestryNet", name := "misplacedCommits", desc := "()I" } : Jvm.MethodName)),
  (Jvm.Cond.code ({ cls := "AncestryNet", name := "misplacedCommits", desc := "()I" } : Jvm.MethodName) prog_1_method_35_code (3 : Nat) (Option.some Jvm.ClassFile.FieldType.int)),
  (Jvm.Cond.methodLink "AncestryNet" (179 : Nat) ({ cls := "AncestryNet", name := "hasParentNotBelow", desc := "(I)Z" } : Jvm.MethodName)),
  (Jvm.Cond.instanceMethod ({ cls := "AncestryNet", name := "hasParentNotBelow", desc := "(I)Z" } : Jvm.MethodName)),
  (Jvm.Cond.code ({ cls := "AncestryNet", name := "hasParentNotBelow", desc := "(I)Z" } : Jvm.MethodName) prog_1_method_36_code (3 : Nat) (Option.some Jvm.ClassFile.FieldType.boolean)),
  (Jvm.Cond.instanceMethod ({ cls := "AncestryNet", name := "add", desc := "(IIIII)I" } : Jvm.MethodName)),
  (Jvm.Cond.selects "AncestryNet" ({ cls := "AncestryNet", name := "add", desc := "(IIIII)I" } : Jvm.MethodName) ({ cls := "AncestryNet", name := "add", desc := "(IIIII)I" } : Jvm.MethodName)),
  (Jvm.Cond.code ({ cls := "AncestryNet", name := "add", desc := "(IIIII)I" } : Jvm.MethodName) prog_1_method_2_code (7 : Nat) (Option.some Jvm.ClassFile.FieldType.int)),
  (Jvm.Cond.methodLink "AncestryNet" (45 : Nat) ({ cls := "AncestryNet", name := "checkParentOrNone", desc := "(I)V" } : Jvm.MethodName)),
  (Jvm.Cond.instanceMethod ({ cls := "AncestryNet", name := "checkParentOrNone", desc := "(I)V" } : Jvm.MethodName)),
  (Jvm.Cond.code ({ cls := "AncestryNet", name := "checkParentOrNone", desc := "(I)V" } : Jvm.MethodName) prog_1_method_13_code (2 : Nat) (Option.none : Option Jvm.ClassFile.FieldType)),
  (Jvm.Cond.methodLink "AncestryNet" (64 : Nat) ({ cls := "AncestryNet", name := "checkCommit", desc := "(I)V" } : Jvm.MethodName)),
  (Jvm.Cond.instanceMethod ({ cls := "AncestryNet", name := "checkCommit", desc := "(I)V" } : Jvm.MethodName)),
  (Jvm.Cond.code ({ cls := "AncestryNet", name := "checkCommit", desc := "(I)V" } : Jvm.MethodName) prog_1_method_12_code (2 : Nat) (Option.none : Option Jvm.ClassFile.FieldType)),
  (Jvm.Cond.classLink "AncestryNet" (67 : Nat) "java/lang/IllegalArgumentException"),
  (Jvm.Cond.instantiable "java/lang/IllegalArgumentException" (6 : Nat)),
  (Jvm.Cond.selects "java/lang/IllegalArgumentException" ({ cls := "java/lang/Throwable", name := "fillInStackTrace", desc := "(I)Ljava/lang/Throwable;" } : Jvm.MethodName) ({ cls := "java/lang/Throwable", name := "fillInStackTrace", desc := "(I)Ljava/lang/Throwable;" } : Jvm.MethodName)),
  (Jvm.Cond.selects "java/lang/IllegalArgumentException" ({ cls := "java/lang/Throwable", name := "fillInStackTrace", desc := "()Ljava/lang/Throwable;" } : Jvm.MethodName) ({ cls := "java/lang/Throwable", name := "fillInStackTrace", desc := "()Ljava/lang/Throwable;" } : Jvm.MethodName)),
  (Jvm.Cond.lays "java/lang/IllegalArgumentException" "java/lang/Throwable" "cause" "Ljava/lang/Throwable;"),
  (Jvm.Cond.lays "java/lang/Throwable" "java/lang/Throwable" "cause" "Ljava/lang/Throwable;"),
  (Jvm.Cond.lays "java/lang/IllegalArgumentException" "java/lang/Throwable" "stackTrace" "[Ljava/lang/StackTraceElement;"),
  (Jvm.Cond.lays "java/lang/Throwable" "java/lang/Throwable" "stackTrace" "[Ljava/lang/StackTraceElement;"),
  (Jvm.Cond.lays "java/lang/IllegalArgumentException" "java/lang/Throwable" "suppressedExceptions" "Ljava/util/List;"),
  (Jvm.Cond.lays "java/lang/Throwable" "java/lang/Throwable" "suppressedExceptions" "Ljava/util/List;"),
  (Jvm.Cond.lays "java/lang/IllegalArgumentException" "java/lang/Throwable" "detailMessage" "Ljava/lang/String;"),
  (Jvm.Cond.lays "java/lang/Throwable" "java/lang/Throwable" "detailMessage" "Ljava/lang/String;"),
  (Jvm.Cond.lays "java/lang/IllegalArgumentException" "java/lang/Throwable" "backtrace" "Ljava/lang/Object;"),
  (Jvm.Cond.lays "java/lang/Throwable" "java/lang/Throwable" "backtrace" "Ljava/lang/Object;"),
  (Jvm.Cond.fieldLink "java/lang/Throwable" (198 : Nat) "java/lang/Throwable" "backtrace" "Ljava/lang/Object;"),
  (Jvm.Cond.superclass "java/lang/Throwable" "java/lang/Object"),
  (Jvm.Cond.instanceMethod ({ cls := "java/lang/Throwable", name := "<init>", desc := "()V" } : Jvm.MethodName)),
  (Jvm.Cond.code ({ cls := "java/lang/Throwable", name := "<init>", desc := "()V" } : Jvm.MethodName) prog_12_method_1_code (1 : Nat) (Option.none : Option Jvm.ClassFile.FieldType)),
  (Jvm.Cond.methodLink "java/lang/Throwable" (1 : Nat) ({ cls := "java/lang/Object", name := "<init>", desc := "()V" } : Jvm.MethodName)),
  (Jvm.Cond.fieldLink "java/lang/Throwable" (13 : Nat) "java/lang/Throwable" "UNASSIGNED_STACK" "[Ljava/lang/StackTraceElement;"),
  (Jvm.Cond.fieldLink "java/lang/Throwable" (20 : Nat) "java/lang/Throwable" "SUPPRESSED_SENTINEL" "Ljava/util/List;"),
  (Jvm.Cond.methodLink "java/lang/Throwable" (27 : Nat) ({ cls := "java/lang/Throwable", name := "fillInStackTrace", desc := "()Ljava/lang/Throwable;" } : Jvm.MethodName)),
  (Jvm.Cond.instanceMethod ({ cls := "java/lang/Throwable", name := "fillInStackTrace", desc := "()Ljava/lang/Throwable;" } : Jvm.MethodName)),
  (Jvm.Cond.selects "java/lang/IllegalStateException" ({ cls := "java/lang/Throwable", name := "fillInStackTrace", desc := "()Ljava/lang/Throwable;" } : Jvm.MethodName) ({ cls := "java/lang/Throwable", name := "fillInStackTrace", desc := "()Ljava/lang/Throwable;" } : Jvm.MethodName)),
  (Jvm.Cond.selects "java/util/NoSuchElementException" ({ cls := "java/lang/Throwable", name := "fillInStackTrace", desc := "()Ljava/lang/Throwable;" } : Jvm.MethodName) ({ cls := "java/lang/Throwable", name := "fillInStackTrace", desc := "()Ljava/lang/Throwable;" } : Jvm.MethodName)),
  (Jvm.Cond.codeSync ({ cls := "java/lang/Throwable", name := "fillInStackTrace", desc := "()Ljava/lang/Throwable;" } : Jvm.MethodName) prog_12_method_18_code (1 : Nat) (Option.some (Jvm.ClassFile.FieldType.object "java/lang/Throwable"))),
  (Jvm.Cond.methodLink "java/lang/Throwable" (202 : Nat) ({ cls := "java/lang/Throwable", name := "fillInStackTrace", desc := "(I)Ljava/lang/Throwable;" } : Jvm.MethodName)),
  (Jvm.Cond.instanceMethod ({ cls := "java/lang/Throwable", name := "fillInStackTrace", desc := "(I)Ljava/lang/Throwable;" } : Jvm.MethodName)),
  (Jvm.Cond.instantiable "java/lang/Throwable" (6 : Nat)),
  (Jvm.Cond.native ({ cls := "java/lang/Throwable", name := "fillInStackTrace", desc := "(I)Ljava/lang/Throwable;" } : Jvm.MethodName)),
  (Jvm.Cond.methodLink "AncestryNet" (71 : Nat) ({ cls := "java/lang/IllegalArgumentException", name := "<init>", desc := "(Ljava/lang/String;)V" } : Jvm.MethodName)),
  (Jvm.Cond.instanceMethod ({ cls := "java/lang/IllegalArgumentException", name := "<init>", desc := "(Ljava/lang/String;)V" } : Jvm.MethodName)),
  (Jvm.Cond.code ({ cls := "java/lang/IllegalArgumentException", name := "<init>", desc := "(Ljava/lang/String;)V" } : Jvm.MethodName) prog_6_method_2_code (2 : Nat) (Option.none : Option Jvm.ClassFile.FieldType)),
  (Jvm.Cond.methodLink "java/lang/IllegalArgumentException" (7 : Nat) ({ cls := "java/lang/RuntimeException", name := "<init>", desc := "(Ljava/lang/String;)V" } : Jvm.MethodName)),
  (Jvm.Cond.instanceMethod ({ cls := "java/lang/RuntimeException", name := "<init>", desc := "(Ljava/lang/String;)V" } : Jvm.MethodName)),
  (Jvm.Cond.code ({ cls := "java/lang/RuntimeException", name := "<init>", desc := "(Ljava/lang/String;)V" } : Jvm.MethodName) prog_10_method_2_code (2 : Nat) (Option.none : Option Jvm.ClassFile.FieldType)),
  (Jvm.Cond.methodLink "java/lang/RuntimeException" (7 : Nat) ({ cls := "java/lang/Exception", name := "<init>", desc := "(Ljava/lang/String;)V" } : Jvm.MethodName)),
  (Jvm.Cond.instanceMethod ({ cls := "java/lang/Exception", name := "<init>", desc := "(Ljava/lang/String;)V" } : Jvm.MethodName)),
  (Jvm.Cond.code ({ cls := "java/lang/Exception", name := "<init>", desc := "(Ljava/lang/String;)V" } : Jvm.MethodName) prog_5_method_2_code (2 : Nat) (Option.none : Option Jvm.ClassFile.FieldType)),
  (Jvm.Cond.methodLink "java/lang/Exception" (7 : Nat) ({ cls := "java/lang/Throwable", name := "<init>", desc := "(Ljava/lang/String;)V" } : Jvm.MethodName)),
  (Jvm.Cond.instanceMethod ({ cls := "java/lang/Throwable", name := "<init>", desc := "(Ljava/lang/String;)V" } : Jvm.MethodName)),
  (Jvm.Cond.code ({ cls := "java/lang/Throwable", name := "<init>", desc := "(Ljava/lang/String;)V" } : Jvm.MethodName) prog_12_method_2_code (2 : Nat) (Option.none : Option Jvm.ClassFile.FieldType)),
  (Jvm.Cond.fieldLink "java/lang/Throwable" (31 : Nat) "java/lang/Throwable" "detailMessage" "Ljava/lang/String;"),
  (Jvm.Cond.fieldLink "java/lang/Throwable" (7 : Nat) "java/lang/Throwable" "cause" "Ljava/lang/Throwable;"),
  (Jvm.Cond.fieldLink "java/lang/Throwable" (17 : Nat) "java/lang/Throwable" "stackTrace" "[Ljava/lang/StackTraceElement;"),
  (Jvm.Cond.fieldLink "java/lang/Throwable" (24 : Nat) "java/lang/Throwable" "suppressedExceptions" "Ljava/util/List;"),
  (Jvm.Cond.soleField "java/lang/Throwable" "backtrace"),
  (Jvm.Cond.soleField "java/lang/Throwable" "detailMessage"),
  (Jvm.Cond.soleField "java/lang/Throwable" "cause"),
  (Jvm.Cond.soleField "java/lang/Throwable" "stackTrace"),
  (Jvm.Cond.lays "java/lang/IllegalArgumentException" "java/lang/Throwable" "depth" "I"),
  (Jvm.Cond.soleField "java/lang/Throwable" "depth"),
  (Jvm.Cond.soleField "java/lang/Throwable" "suppressedExceptions"),
  (Jvm.Cond.superclass "java/lang/IllegalArgumentException" "java/lang/RuntimeException"),
  (Jvm.Cond.arrayClass Jvm.ClassFile.FieldType.byte),
  (Jvm.Cond.classLink "AncestryNet" (53 : Nat) "java/lang/IllegalStateException"),
  (Jvm.Cond.instantiable "java/lang/IllegalStateException" (6 : Nat)),
  (Jvm.Cond.selects "java/lang/IllegalStateException" ({ cls := "java/lang/Throwable", name := "fillInStackTrace", desc := "(I)Ljava/lang/Throwable;" } : Jvm.MethodName) ({ cls := "java/lang/Throwable", name := "fillInStackTrace", desc := "(I)Ljava/lang/Throwable;" } : Jvm.MethodName)),
  (Jvm.Cond.lays "java/lang/IllegalStateException" "java/lang/Throwable" "cause" "Ljava/lang/Throwable;"),
  (Jvm.Cond.lays "java/lang/IllegalStateException" "java/lang/Throwable" "stackTrace" "[Ljava/lang/StackTraceElement;"),
  (Jvm.Cond.lays "java/lang/IllegalStateException" "java/lang/Throwable" "suppressedExceptions" "Ljava/util/List;"),
  (Jvm.Cond.lays "java/lang/IllegalStateException" "java/lang/Throwable" "detailMessage" "Ljava/lang/String;"),
  (Jvm.Cond.lays "java/lang/IllegalStateException" "java/lang/Throwable" "backtrace" "Ljava/lang/Object;"),
  (Jvm.Cond.methodLink "AncestryNet" (57 : Nat) ({ cls := "java/lang/IllegalStateException", name := "<init>", desc := "(Ljava/lang/String;)V" } : Jvm.MethodName)),
  (Jvm.Cond.instanceMethod ({ cls := "java/lang/IllegalStateException", name := "<init>", desc := "(Ljava/lang/String;)V" } : Jvm.MethodName)),
  (Jvm.Cond.code ({ cls := "java/lang/IllegalStateException", name := "<init>", desc := "(Ljava/lang/String;)V" } : Jvm.MethodName) prog_7_method_2_code (2 : Nat) (Option.none : Option Jvm.ClassFile.FieldType)),
  (Jvm.Cond.methodLink "java/lang/IllegalStateException" (7 : Nat) ({ cls := "java/lang/RuntimeException", name := "<init>", desc := "(Ljava/lang/String;)V" } : Jvm.MethodName)),
  (Jvm.Cond.lays "java/lang/IllegalStateException" "java/lang/Throwable" "depth" "I"),
  (Jvm.Cond.superclass "java/lang/IllegalStateException" "java/lang/RuntimeException"),
  (Jvm.Cond.methodLink "AncestryNet" (60 : Nat) ({ cls := "AncestryNet", name := "linkUnlessNone", desc := "(II)V" } : Jvm.MethodName)),
  (Jvm.Cond.instanceMethod ({ cls := "AncestryNet", name := "linkUnlessNone", desc := "(II)V" } : Jvm.MethodName)),
  (Jvm.Cond.code ({ cls := "AncestryNet", name := "linkUnlessNone", desc := "(II)V" } : Jvm.MethodName) prog_1_method_18_code (3 : Nat) (Option.none : Option Jvm.ClassFile.FieldType)),
  (Jvm.Cond.methodLink "AncestryNet" (74 : Nat) ({ cls := "AncestryNet", name := "link", desc := "(II)V" } : Jvm.MethodName)),
  (Jvm.Cond.instanceMethod ({ cls := "AncestryNet", name := "link", desc := "(II)V" } : Jvm.MethodName)),
  (Jvm.Cond.code ({ cls := "AncestryNet", name := "link", desc := "(II)V" } : Jvm.MethodName) prog_1_method_19_code (3 : Nat) (Option.none : Option Jvm.ClassFile.FieldType)),
  (Jvm.Cond.instanceMethod ({ cls := "AncestryNet", name := "under", desc := "(II)I" } : Jvm.MethodName)),
  (Jvm.Cond.selects "AncestryNet" ({ cls := "AncestryNet", name := "under", desc := "(II)I" } : Jvm.MethodName) ({ cls := "AncestryNet", name := "under", desc := "(II)I" } : Jvm.MethodName)),
  (Jvm.Cond.code ({ cls := "AncestryNet", name := "under", desc := "(II)I" } : Jvm.MethodName) prog_1_method_3_code (3 : Nat) (Option.some Jvm.ClassFile.FieldType.int)),
  (Jvm.Cond.instanceMethod ({ cls := "AncestryNet", name := "tip", desc := "(IIZ)V" } : Jvm.MethodName)),
  (Jvm.Cond.selects "AncestryNet" ({ cls := "AncestryNet", name := "tip", desc := "(IIZ)V" } : Jvm.MethodName) ({ cls := "AncestryNet", name := "tip", desc := "(IIZ)V" } : Jvm.MethodName)),
  (Jvm.Cond.code ({ cls := "AncestryNet", name := "tip", desc := "(IIZ)V" } : Jvm.MethodName) prog_1_method_4_code (4 : Nat) (Option.none : Option Jvm.ClassFile.FieldType)),
  (Jvm.Cond.methodLink "AncestryNet" (77 : Nat) ({ cls := "AncestryNet", name := "checkHolder", desc := "(I)V" } : Jvm.MethodName)),
  (Jvm.Cond.static ({ cls := "AncestryNet", name := "checkHolder", desc := "(I)V" } : Jvm.MethodName)),
  (Jvm.Cond.code ({ cls := "AncestryNet", name := "checkHolder", desc := "(I)V" } : Jvm.MethodName) prog_1_method_14_code (1 : Nat) (Option.none : Option Jvm.ClassFile.FieldType)),
  (Jvm.Cond.instanceMethod ({ cls := "AncestryNet", name := "reaches", desc := "(II)Z" } : Jvm.MethodName)),
  (Jvm.Cond.selects "AncestryNet" ({ cls := "AncestryNet", name := "reaches", desc := "(II)Z" } : Jvm.MethodName) ({ cls := "AncestryNet", name := "reaches", desc := "(II)Z" } : Jvm.MethodName)),
  (Jvm.Cond.code ({ cls := "AncestryNet", name := "reaches", desc := "(II)Z" } : Jvm.MethodName) prog_1_method_5_code (3 : Nat) (Option.some Jvm.ClassFile.FieldType.boolean)),
  (Jvm.Cond.methodLink "AncestryNet" (84 : Nat) ({ cls := "AncestryNet", name := "markReachable", desc := "(I)V" } : Jvm.MethodName)),
  (Jvm.Cond.instanceMethod ({ cls := "AncestryNet", name := "markReachable", desc := "(I)V" } : Jvm.MethodName)),
  (Jvm.Cond.code ({ cls := "AncestryNet", name := "markReachable", desc := "(I)V" } : Jvm.MethodName) prog_1_method_21_code (2 : Nat) (Option.none : Option Jvm.ClassFile.FieldType)),
  (Jvm.Cond.methodLink "AncestryNet" (87 : Nat) ({ cls := "AncestryNet", name := "clearMarks", desc := "()V" } : Jvm.MethodName)),
  (Jvm.Cond.instanceMethod ({ cls := "AncestryNet", name := "clearMarks", desc := "()V" } : Jvm.MethodName)),
  (Jvm.Cond.code ({ cls := "AncestryNet", name := "clearMarks", desc := "()V" } : Jvm.MethodName) prog_1_method_20_code (2 : Nat) (Option.none : Option Jvm.ClassFile.FieldType)),
  (Jvm.Cond.instanceMethod ({ cls := "AncestryNet", name := "base", desc := "(III)I" } : Jvm.MethodName)),
  (Jvm.Cond.selects "AncestryNet" ({ cls := "AncestryNet", name := "base", desc := "(III)I" } : Jvm.MethodName) ({ cls := "AncestryNet", name := "base", desc := "(III)I" } : Jvm.MethodName)),
  (Jvm.Cond.code ({ cls := "AncestryNet", name := "base", desc := "(III)I" } : Jvm.MethodName) prog_1_method_6_code (5 : Nat) (Option.some Jvm.ClassFile.FieldType.int)),
  (Jvm.Cond.methodLink "AncestryNet" (93 : Nat) ({ cls := "AncestryNet$Queue", name := "clear", desc := "()V" } : Jvm.MethodName)),
  (Jvm.Cond.instanceMethod ({ cls := "AncestryNet$Queue", name := "clear", desc := "()V" } : Jvm.MethodName)),
  (Jvm.Cond.selects "AncestryNet$Queue" ({ cls := "AncestryNet$Queue", name := "clear", desc := "()V" } : Jvm.MethodName) ({ cls := "AncestryNet$Queue", name := "clear", desc := "()V" } : Jvm.MethodName)),
  (Jvm.Cond.code ({ cls := "AncestryNet$Queue", name := "clear", desc := "()V" } : Jvm.MethodName) prog_2_method_2_code (1 : Nat) (Option.none : Option Jvm.ClassFile.FieldType)),
  (Jvm.Cond.methodLink "AncestryNet" (96 : Nat) ({ cls := "AncestryNet", name := "queueInTheOrder", desc := "(I)V" } : Jvm.MethodName)),
  (Jvm.Cond.instanceMethod ({ cls := "AncestryNet", name := "queueInTheOrder", desc := "(I)V" } : Jvm.MethodName)),
  (Jvm.Cond.code ({ cls := "AncestryNet", name := "queueInTheOrder", desc := "(I)V" } : Jvm.MethodName) prog_1_method_26_code (2 : Nat) (Option.none : Option Jvm.ClassFile.FieldType)),
  (Jvm.Cond.methodLink "AncestryNet" (126 : Nat) ({ cls := "AncestryNet$Queue", name := "put", desc := "(III)V" } : Jvm.MethodName)),
  (Jvm.Cond.instanceMethod ({ cls := "AncestryNet$Queue", name := "put", desc := "(III)V" } : Jvm.MethodName)),
  (Jvm.Cond.selects "AncestryNet$Queue" ({ cls := "AncestryNet$Queue", name := "put", desc := "(III)V" } : Jvm.MethodName) ({ cls := "AncestryNet$Queue", name := "put", desc := "(III)V" } : Jvm.MethodName)),
  (Jvm.Cond.code ({ cls := "AncestryNet$Queue", name := "put", desc := "(III)V" } : Jvm.MethodName) prog_2_method_4_code (4 : Nat) (Option.none : Option Jvm.ClassFile.FieldType)),
  (Jvm.Cond.methodLink "AncestryNet$Queue" (25 : Nat) ({ cls := "AncestryNet$Queue", name := "rise", desc := "()V" } : Jvm.MethodName)),
  (Jvm.Cond.instanceMethod ({ cls := "AncestryNet$Queue", name := "rise", desc := "()V" } : Jvm.MethodName)),
  (Jvm.Cond.code ({ cls := "AncestryNet$Queue", name := "rise", desc := "()V" } : Jvm.MethodName) prog_2_method_6_code (3 : Nat) (Option.none : Option Jvm.ClassFile.FieldType)),
  (Jvm.Cond.methodLink "AncestryNet$Queue" (35 : Nat) ({ cls := "AncestryNet$Queue", name := "comesBefore", desc := "(II)Z" } : Jvm.MethodName)),
  (Jvm.Cond.instanceMethod ({ cls := "AncestryNet$Queue", name := "comesBefore", desc := "(II)Z" } : Jvm.MethodName)),
  (Jvm.Cond.code ({ cls := "AncestryNet$Queue", name := "comesBefore", desc := "(II)Z" } : Jvm.MethodName) prog_2_method_8_code (3 : Nat) (Option.some Jvm.ClassFile.FieldType.boolean)),
  (Jvm.Cond.methodLink "AncestryNet$Queue" (28 : Nat) ({ cls := "AncestryNet$Queue", name := "swap", desc := "(II)V" } : Jvm.MethodName)),
  (Jvm.Cond.instanceMethod ({ cls := "AncestryNet$Queue", name := "swap", desc := "(II)V" } : Jvm.MethodName)),
  (Jvm.Cond.code ({ cls := "AncestryNet$Queue", name := "swap", desc := "(II)V" } : Jvm.MethodName) prog_2_method_9_code (6 : Nat) (Option.none : Option Jvm.ClassFile.FieldType)),
  (Jvm.Cond.methodLink "AncestryNet" (99 : Nat) ({ cls := "AncestryNet", name := "queuedAt", desc := "(I)I" } : Jvm.MethodName)),
  (Jvm.Cond.instanceMethod ({ cls := "AncestryNet", name := "queuedAt", desc := "(I)I" } : Jvm.MethodName)),
  (Jvm.Cond.code ({ cls := "AncestryNet", name := "queuedAt", desc := "(I)I" } : Jvm.MethodName) prog_1_method_27_code (3 : Nat) (Option.some Jvm.ClassFile.FieldType.int)),
  (Jvm.Cond.methodLink "AncestryNet" (167 : Nat) ({ cls := "AncestryNet$Queue", name := "size", desc := "()I" } : Jvm.MethodName)),
  (Jvm.Cond.instanceMethod ({ cls := "AncestryNet$Queue", name := "size", desc := "()I" } : Jvm.MethodName)),
  (Jvm.Cond.selects "AncestryNet$Queue" ({ cls := "AncestryNet$Queue", name := "size", desc := "()I" } : Jvm.MethodName) ({ cls := "AncestryNet$Queue", name := "size", desc := "()I" } : Jvm.MethodName)),
  (Jvm.Cond.code ({ cls := "AncestryNet$Queue", name := "size", desc := "()I" } : Jvm.MethodName) prog_2_method_3_code (1 : Nat) (Option.some Jvm.ClassFile.FieldType.int)),
  (Jvm.Cond.methodLink "AncestryNet" (106 : Nat) ({ cls := "AncestryNet", name := "checkPlace", desc := "(II)V" } : Jvm.MethodName)),
  (Jvm.Cond.static ({ cls := "AncestryNet", name := "checkPlace", desc := "(II)V" } : Jvm.MethodName)),
  (Jvm.Cond.code ({ cls := "AncestryNet", name := "checkPlace", desc := "(II)V" } : Jvm.MethodName) prog_1_method_15_code (2 : Nat) (Option.none : Option Jvm.ClassFile.FieldType)),
  (Jvm.Cond.classLink "AncestryNet" (115 : Nat) "java/util/NoSuchElementException"),
  (Jvm.Cond.instantiable "java/util/NoSuchElementException" (6 : Nat)),
  (Jvm.Cond.selects "java/util/NoSuchElementException" ({ cls := "java/lang/Throwable", name := "fillInStackTrace", desc := "(I)Ljava/lang/Throwable;" } : Jvm.MethodName) ({ cls := "java/lang/Throwable", name := "fillInStackTrace", desc := "(I)Ljava/lang/Throwable;" } : Jvm.MethodName)),
  (Jvm.Cond.lays "java/util/NoSuchElementException" "java/lang/Throwable" "cause" "Ljava/lang/Throwable;"),
  (Jvm.Cond.lays "java/util/NoSuchElementException" "java/lang/Throwable" "stackTrace" "[Ljava/lang/StackTraceElement;"),
  (Jvm.Cond.lays "java/util/NoSuchElementException" "java/lang/Throwable" "suppressedExceptions" "Ljava/util/List;"),
  (Jvm.Cond.lays "java/util/NoSuchElementException" "java/lang/Throwable" "detailMessage" "Ljava/lang/String;"),
  (Jvm.Cond.lays "java/util/NoSuchElementException" "java/lang/Throwable" "backtrace" "Ljava/lang/Object;"),
  (Jvm.Cond.methodLink "AncestryNet" (119 : Nat) ({ cls := "java/util/NoSuchElementException", name := "<init>", desc := "(Ljava/lang/String;)V" } : Jvm.MethodName)),
  (Jvm.Cond.instanceMethod ({ cls := "java/util/NoSuchElementException", name := "<init>", desc := "(Ljava/lang/String;)V" } : Jvm.MethodName)),
  (Jvm.Cond.code ({ cls := "java/util/NoSuchElementException", name := "<init>", desc := "(Ljava/lang/String;)V" } : Jvm.MethodName) prog_13_method_4_code (2 : Nat) (Option.none : Option Jvm.ClassFile.FieldType)),
  (Jvm.Cond.methodLink "java/util/NoSuchElementException" (13 : Nat) ({ cls := "java/lang/RuntimeException", name := "<init>", desc := "(Ljava/lang/String;)V" } : Jvm.MethodName)),
  (Jvm.Cond.lays "java/util/NoSuchElementException" "java/lang/Throwable" "depth" "I"),
  (Jvm.Cond.superclass "java/util/NoSuchElementException" "java/lang/RuntimeException"),
  (Jvm.Cond.methodLink "AncestryNet" (170 : Nat) ({ cls := "AncestryNet$Queue", name := "take", desc := "()I" } : Jvm.MethodName)),
  (Jvm.Cond.instanceMethod ({ cls := "AncestryNet$Queue", name := "take", desc := "()I" } : Jvm.MethodName)),
  (Jvm.Cond.selects "AncestryNet$Queue" ({ cls := "AncestryNet$Queue", name := "take", desc := "()I" } : Jvm.MethodName) ({ cls := "AncestryNet$Queue", name := "take", desc := "()I" } : Jvm.MethodName)),
  (Jvm.Cond.code ({ cls := "AncestryNet$Queue", name := "take", desc := "()I" } : Jvm.MethodName) prog_2_method_5_code (2 : Nat) (Option.some Jvm.ClassFile.FieldType.int)),
  (Jvm.Cond.methodLink "AncestryNet$Queue" (32 : Nat) ({ cls := "AncestryNet$Queue", name := "sink", desc := "()V" } : Jvm.MethodName)),
  (Jvm.Cond.instanceMethod ({ cls := "AncestryNet$Queue", name := "sink", desc := "()V" } : Jvm.MethodName)),
  (Jvm.Cond.code ({ cls := "AncestryNet$Queue", name := "sink", desc := "()V" } : Jvm.MethodName) prog_2_method_7_code (3 : Nat) (Option.none : Option Jvm.ClassFile.FieldType)),
  (Jvm.Cond.instanceMethod ({ cls := "AncestryNet", name := "log", desc := "(II)I" } : Jvm.MethodName)),
  (Jvm.Cond.selects "AncestryNet" ({ cls := "AncestryNet", name := "log", desc := "(II)I" } : Jvm.MethodName) ({ cls := "AncestryNet", name := "log", desc := "(II)I" } : Jvm.MethodName)),
  (Jvm.Cond.code ({ cls := "AncestryNet", name := "log", desc := "(II)I" } : Jvm.MethodName) prog_1_method_7_code (4 : Nat) (Option.some Jvm.ClassFile.FieldType.int)),
  (Jvm.Cond.methodLink "AncestryNet" (102 : Nat) ({ cls := "AncestryNet", name := "markedCommits", desc := "()I" } : Jvm.MethodName)),
  (Jvm.Cond.instanceMethod ({ cls := "AncestryNet", name := "markedCommits", desc := "()I" } : Jvm.MethodName)),
  (Jvm.Cond.code ({ cls := "AncestryNet", name := "markedCommits", desc := "()I" } : Jvm.MethodName) prog_1_method_25_code (3 : Nat) (Option.some Jvm.ClassFile.FieldType.int)),
  (Jvm.Cond.methodLink "AncestryNet" (109 : Nat) ({ cls := "AncestryNet", name := "toldAt", desc := "(II)I" } : Jvm.MethodName)),
  (Jvm.Cond.instanceMethod ({ cls := "AncestryNet", name := "toldAt", desc := "(II)I" } : Jvm.MethodName)),
  (Jvm.Cond.code ({ cls := "AncestryNet", name := "toldAt", desc := "(II)I" } : Jvm.MethodName) prog_1_method_28_code (4 : Nat) (Option.some Jvm.ClassFile.FieldType.int)),
  (Jvm.Cond.methodLink "AncestryNet" (173 : Nat) ({ cls := "AncestryNet", name := "countUntoldLinks", desc := "()V" } : Jvm.MethodName)),
  (Jvm.Cond.instanceMethod ({ cls := "AncestryNet", name := "countUntoldLinks", desc := "()V" } : Jvm.MethodName)),
  (Jvm.Cond.code ({ cls := "AncestryNet", name := "countUntoldLinks", desc := "()V" } : Jvm.MethodName) prog_1_method_29_code (4 : Nat) (Option.none : Option Jvm.ClassFile.FieldType)),
  (Jvm.Cond.methodLink "AncestryNet" (176 : Nat) ({ cls := "AncestryNet", name := "tellNext", desc := "()V" } : Jvm.MethodName)),
  (Jvm.Cond.instanceMethod ({ cls := "AncestryNet", name := "tellNext", desc := "()V" } : Jvm.MethodName)),
  (Jvm.Cond.code ({ cls := "AncestryNet", name := "tellNext", desc := "()V" } : Jvm.MethodName) prog_1_method_30_code (4 : Nat) (Option.none : Option Jvm.ClassFile.FieldType)),
  (Jvm.Cond.instanceMethod ({ cls := "AncestryNet", name := "back", desc := "(II)I" } : Jvm.MethodName)),
  (Jvm.Cond.selects "AncestryNet" ({ cls := "AncestryNet", name := "back", desc := "(II)I" } : Jvm.MethodName) ({ cls := "AncestryNet", name := "back", desc := "(II)I" } : Jvm.MethodName)),
  (Jvm.Cond.code ({ cls := "AncestryNet", name := "back", desc := "(II)I" } : Jvm.MethodName) prog_1_method_8_code (5 : Nat) (Option.some Jvm.ClassFile.FieldType.int)),
  (Jvm.Cond.instanceMethod ({ cls := "AncestryNet", name := "sent", desc := "(II)I" } : Jvm.MethodName)),
  (Jvm.Cond.selects "AncestryNet" ({ cls := "AncestryNet", name := "sent", desc := "(II)I" } : Jvm.MethodName) ({ cls := "AncestryNet", name := "sent", desc := "(II)I" } : Jvm.MethodName)),
  (Jvm.Cond.code ({ cls := "AncestryNet", name := "sent", desc := "(II)I" } : Jvm.MethodName) prog_1_method_9_code (4 : Nat) (Option.some Jvm.ClassFile.FieldType.int)),
  (Jvm.Cond.instanceMethod ({ cls := "AncestryNet", name := "told", desc := "(II)I" } : Jvm.MethodName)),
  (Jvm.Cond.selects "AncestryNet" ({ cls := "AncestryNet", name := "told", desc := "(II)I" } : Jvm.MethodName) ({ cls := "AncestryNet", name := "told", desc := "(II)I" } : Jvm.MethodName)),
  (Jvm.Cond.code ({ cls := "AncestryNet", name := "told", desc := "(II)I" } : Jvm.MethodName) prog_1_method_10_code (3 : Nat) (Option.some Jvm.ClassFile.FieldType.int)),
  (Jvm.Cond.methodLink "AncestryNet" (130 : Nat) ({ cls := "java/lang/Integer", name := "bitCount", desc := "(I)I" } : Jvm.MethodName)),
  (Jvm.Cond.static ({ cls := "java/lang/Integer", name := "bitCount", desc := "(I)I" } : Jvm.MethodName)),
  (Jvm.Cond.code ({ cls := "java/lang/Integer", name := "bitCount", desc := "(I)I" } : Jvm.MethodName) prog_8_method_49_code (1 : Nat) (Option.some Jvm.ClassFile.FieldType.int)),
  (Jvm.Cond.constant "java/lang/Integer" (265 : Nat) (1431655765 : Int32)),
  (Jvm.Cond.constant "java/lang/Integer" (266 : Nat) (858993459 : Int32)),
  (Jvm.Cond.constant "java/lang/Integer" (267 : Nat) (252645135 : Int32)),
  (Jvm.Cond.arrayClass Jvm.ClassFile.FieldType.long)]
abbrev vcl : List vw_C := [(RX0, TX0, 4), (RX1, TX1, 11), (RX2, TY2, 12)]
theorem wC_all : wC.all goodWord = true := by decide +kernel
theorem wC_good {w : Cond} (h : w ∈ wC) : (w.onTables && w.keeps) = true ∨ ∃ ty, w = .arrayClass ty := good_of_word (List.all_eq_true.mp wC_all w h)
theorem at_in {L : List Cond} (ps : List Nat) (h : ps.map (fun i => wC[i]?) = L.map some) : ∀ w ∈ L, w ∈ wC := by
  intro w hw
  have h1 : some w ∈ ps.map (fun i => wC[i]?) := by rw [h]; exact List.mem_map.mpr ⟨w, hw, rfl⟩
  obtain ⟨i, -, hi⟩ := List.mem_map.mp h1
  exact List.mem_of_getElem? hi
theorem gL {w0 w1 : Cond} {L : List Cond} (h1 : w1 ∈ wC) (hl : ∀ w ∈ L, w ∈ wC) : GoodIn (w0 :: wC) (L ++ (w1 :: wC)) := by
  intro w h
  rcases List.mem_append.mp h with h | h
  · exact ⟨List.mem_cons_of_mem _ (hl w h), wC_good (hl w h)⟩
  · rcases List.mem_cons.mp h with rfl | h
    · exact ⟨List.mem_cons_of_mem _ h1, wC_good h1⟩
    · exact ⟨List.mem_cons_of_mem _ h, wC_good h⟩
theorem in_X0 : ∀ w ∈ u_ws RX0 TX0 4, w ∈ wC := at_in [52, 54, 56, 58] rfl
theorem in_X1 : ∀ w ∈ u_ws RX1 TX1 11, w ∈ wC := at_in [74, 76, 78, 80, 82, 84, 86, 88, 90, 92, 94] rfl
def strL : List (Nat × String) := [(55, "no room for another commit"), (69, "a parent is below its child"), (72, "the commit takes no more parents"), (113, "no way back is that short"), (117, "the line of first parents ends before"), (135, "nothing of that kind is told"), (152, "no such commit"), (154, "no such holder"), (156, "no such place")]
def xL : List String := ["java/lang/IllegalArgumentException", "java/lang/IllegalStateException", "java/util/NoSuchElementException"]
def dL : List MethodName := [⟨"java/lang/RuntimeException", "<init>", "(Ljava/lang/String;)V"⟩, ⟨"java/lang/Exception", "<init>", "(Ljava/lang/String;)V"⟩, ⟨"java/lang/Throwable", "<init>", "(Ljava/lang/String;)V"⟩]
end
section
/-! The world: one list of fourteen cells, rows M, n commits, k in the queue. -/
abbrev Mt : Type := Nat → Nat → Int32
abbrev En : Type := va_G × ClassId × ClassId × (Nat → Nat)
def ad (E : En) (i : Nat) : Nat := E.2.2.2 i
abbrev rmA (fr lo : Nat) : Room := { frames := fr, cells := 0, slots := 0, locals := lo }
abbrev rmx (fr lo : Nat) : Room := { frames := fr, cells := 1, slots := 6, locals := lo }
abbrev tyN (E : En) : List (ClassId × FieldType) := [(E.2.1, .int), (E.2.2.1, .boolean)]
def wN (E : En) (M : Mt) (n k : Nat) : va_W := [
  (ad E 0, .inr (1, [.int (nI n), .ref (ad E 1), .ref (ad E 2), .ref (ad E 3), .ref (ad E 4), .ref (ad E 5), .ref (ad E 6), .ref (ad E 7), .ref (ad E 8), .ref (ad E 9), .ref (ad E 10)])),
  (ad E 1, .inl (E.2.1, 2000, .inl (M 1))), (ad E 2, .inl (E.2.1, 2000, .inl (M 2))), (ad E 3, .inl (E.2.1, 2000, .inl (M 3))), (ad E 4, .inl (E.2.1, 2000, .inl (M 4))),
  (ad E 5, .inl (E.2.1, 8000, .inl (M 5))), (ad E 6, .inl (E.2.2.1, 2000, .inl (M 6))), (ad E 7, .inl (E.2.1, 2000, .inl (M 7))), (ad E 8, .inl (E.2.1, 2000, .inl (M 8))), (ad E 9, .inl (E.2.1, 2000, .inl (M 9))),
  (ad E 10, .inr (0, [.ref (ad E 11), .ref (ad E 12), .ref (ad E 13), .int (nI k)])),
  (ad E 11, .inl (E.2.1, 2000, .inl (M 11))), (ad E 12, .inl (E.2.1, 2000, .inl (M 12))), (ad E 13, .inl (E.2.1, 2000, .inl (M 13)))]
def dN (E : En) : Prop := ∀ i j, i < 14 → j < 14 → ad E i = ad E j → i = j
def aN (E : En) (sz : Nat) : Nat → Prop := fun q => (∃ i, i < 14 ∧ q = ad E i) ∨ sz ≤ q
theorem wN_addr {E : En} {M : Mt} {n k i : Nat} {q : Nat × va_E} (h : (wN E M n k)[i]? = some q) : i < 14 ∧ q.1 = ad E i := by
  have h2 : ((wN E M n k).map Prod.fst)[i]? = some q.1 := by rw [List.getElem?_map, h]; rfl
  have h3 : (wN E M n k).map Prod.fst = (List.range 14).map (ad E) := rfl
  rw [h3, List.getElem?_map] at h2
  by_cases hi : i < 14
  · rw [List.getElem?_range hi] at h2
    exact ⟨hi, (Option.some.inj h2).symm⟩
  · rw [List.getElem?_eq_none (by rw [List.length_range]; omega)] at h2
    cases h2
theorem dN.D {E : En} (h : dN E) {M : Mt} {n k sz : Nat} : va_D (aN E sz) (wN E M n k) := by
  refine ⟨fun i j p q hi hj e => ?_, fun i q hi => ?_⟩
  · obtain ⟨a1, a2⟩ := wN_addr hi
    obtain ⟨b1, b2⟩ := wN_addr hj
    exact h i j a1 b1 (by rw [← a2, ← b2]; exact e)
  · obtain ⟨a1, a2⟩ := wN_addr hi
    exact Or.inl ⟨i, a1, a2⟩
theorem aN_le {E : En} {a b : Nat} (h : a ≤ b) : ∀ q, aN E b q → aN E a q := fun _ hq => hq.elim Or.inl (fun h2 => Or.inr (Nat.le_trans h h2))
def wst (E : En) (H0 : Heap) (M : Mt) (n k : Nat) (H : Heap) (locs : List Loc) : Prop := va_P E.1 vcl (wN E M n k) H ∧ va_S (aN E H0.size) H0 H locs
def cX (E : En) (p : Program) (m : MethodId) (c : Code) (cc : ByteArray) (nL : Nat) (s : State) (args : Array Value) (w0 : Cond) (own : String) : Prop := CallFix p m c cc nL s args (w0 :: wC) own ∧ va_K E.1 vcl (tyN E) s ∧ dN E
/-- row q, of L places -/
def row (q L : Nat) : Prop := L < 2 ^ 31 ∧ ∀ (E : En) (M : Mt) (n k : Nat), (wN E M n k)[q]? = some (ad E q, .inl (E.2.1, L, .inl (M q))) ∧ ∀ f : Nat → Int32, (wN E M n k).set q (ad E q, .inl (E.2.1, L, .inl f)) = wN E (va_up M q f) n k
theorem row1 : row 1 2000 := ⟨by decide, fun _ _ _ _ => ⟨rfl, fun _ => rfl⟩⟩
theorem row2 : row 2 2000 := ⟨by decide, fun _ _ _ _ => ⟨rfl, fun _ => rfl⟩⟩
theorem row3 : row 3 2000 := ⟨by decide, fun _ _ _ _ => ⟨rfl, fun _ => rfl⟩⟩
theorem row4 : row 4 2000 := ⟨by decide, fun _ _ _ _ => ⟨rfl, fun _ => rfl⟩⟩
theorem row5 : row 5 8000 := ⟨by decide, fun _ _ _ _ => ⟨rfl, fun _ => rfl⟩⟩
theorem row7 : row 7 2000 := ⟨by decide, fun _ _ _ _ => ⟨rfl, fun _ => rfl⟩⟩
theorem row8 : row 8 2000 := ⟨by decide, fun _ _ _ _ => ⟨rfl, fun _ => rfl⟩⟩
theorem row9 : row 9 2000 := ⟨by decide, fun _ _ _ _ => ⟨rfl, fun _ => rfl⟩⟩
theorem row11 : row 11 2000 := ⟨by decide, fun _ _ _ _ => ⟨rfl, fun _ => rfl⟩⟩
theorem row12 : row 12 2000 := ⟨by decide, fun _ _ _ _ => ⟨rfl, fun _ => rfl⟩⟩
theorem row13 : row 13 2000 := ⟨by decide, fun _ _ _ _ => ⟨rfl, fun _ => rfl⟩⟩
theorem row6g {E : En} {M : Mt} {n k : Nat} : (wN E M n k)[6]? = some (ad E 6, .inl (E.2.2.1, 2000, .inl (M 6))) := rfl
theorem row6s {E : En} {M : Mt} {n k : Nat} (f : Nat → Int32) : (wN E M n k).set 6 (ad E 6, .inl (E.2.2.1, 2000, .inl f)) = wN E (va_up M 6 f) n k := rfl
theorem inc1 (i : Nat) : nI i + Int32.ofInt 1 = nI (i + 1) := (nI_succ i).symm
theorem dec1 (i : Nat) : nI (i + 1) + Int32.ofInt (-1) = nI i := pk_m1 i
section CR
variable {p : Program} {l : Launch} {e : Env} {R : Room} {s : State} {m : MethodId} {args : Array Value} {below : List Frame} {meth : Method} {c : Code} {H H0 : Heap} {locs : List Loc} {cells slots : Nat} {Q : State → Prop} {pc nL : Nat} {ls : Array Slot} {rest : List Value} {cc : ByteArray} {w0 : Cond} {own : String} {E : En} {M : Mt} {n k : Nat}
theorem topE {x y : Int32} (h : x = y) (kk : W p l e R s m args below meth c H locs cells slots Q (F0 m pc ls (.int y :: rest))) : W p l e R s m args below meth c H locs cells slots Q (F0 m pc ls (.int x :: rest)) := h ▸ kk
theorem ldN (K : cX E p m c cc nL s args w0 own) (w : wst E H0 M n k H locs) {q L : Nat} (hq : row q L) {j : Nat} (hj : j < L) (hd : decode cc pc = .ok (.iaload, 1))
    (kk : W p l e R s m args below meth c H locs cells slots Q (F0 m (pc + 1) ls (.int (M q j) :: rest))) : W p l e R s m args below meth c H locs cells slots Q (F0 m pc ls (.int (nI j) :: .ref (ad E q) :: rest)) := by
  refine va_iald K.1.1 K.1.2.1 K.2.1 w.1 q 0 (hq.2 E M n k).1 rfl (vp_in_nI hj hq.1) hd ?_
  rw [nI_clamp (Nat.lt_trans hj hq.1)]
  exact kk
theorem stN (K : cX E p m c cc nL s args w0 own) (w : wst E H0 M n k H locs) {q L : Nat} (hq : row q L) {j : Nat} {x : Int32} (hj : j < L) (hd : decode cc pc = .ok (.iastore, 1))
    (kk : ∀ (H : Heap) (locs : List Loc), wst E H0 (va_up M q (upd (M q) j x)) n k H locs → W p l e R s m args below meth c H locs cells slots Q (F0 m (pc + 1) ls rest)) : W p l e R s m args below meth c H locs cells slots Q (F0 m pc ls (.int x :: .int (nI j) :: .ref (ad E q) :: rest)) := by
  refine va_iast K.1.1 K.1.2.1 K.2.1 w.1 K.2.2.D w.2 q 0 (hq.2 E M n k).1 rfl (vp_in_nI hj hq.1) hd (fun H1 locs1 hP _ hS => kk H1 locs1 ⟨?_, hS⟩)
  rw [nI_clamp (Nat.lt_trans hj hq.1), (hq.2 E M n k).2] at hP
  exact hP
theorem ldZ (K : cX E p m c cc nL s args w0 own) (w : wst E H0 M n k H locs) {j : Nat} (hj : j < 2000) (hd : decode cc pc = .ok (.baload, 1))
    (kk : W p l e R s m args below meth c H locs cells slots Q (F0 m (pc + 1) ls (.int (M 6 j) :: rest))) : W p l e R s m args below meth c H locs cells slots Q (F0 m pc ls (.int (nI j) :: .ref (ad E 6) :: rest)) := by
  refine va_zald K.1.1 K.1.2.1 K.2.1 w.1 6 1 row6g rfl (vp_in_nI hj (by decide)) hd ?_
  rw [nI_clamp (Nat.lt_trans hj (by decide))]
  exact kk
theorem stZ (K : cX E p m c cc nL s args w0 own) (w : wst E H0 M n k H locs) {j : Nat} {x : Int32} (hj : j < 2000) (hx : vp_nar .boolean x = x) (hd : decode cc pc = .ok (.bastore, 1))
    (kk : ∀ (H : Heap) (locs : List Loc), wst E H0 (va_up M 6 (upd (M 6) j x)) n k H locs → W p l e R s m args below meth c H locs cells slots Q (F0 m (pc + 1) ls rest)) : W p l e R s m args below meth c H locs cells slots Q (F0 m pc ls (.int x :: .int (nI j) :: .ref (ad E 6) :: rest)) := by
  refine va_zast K.1.1 K.1.2.1 K.2.1 w.1 K.2.2.D w.2 6 1 row6g rfl (vp_in_nI hj (by decide)) hd (fun H1 locs1 hP _ hS => kk H1 locs1 ⟨?_, hS⟩)
  rw [nI_clamp (Nat.lt_trans hj (by decide)), hx, row6s] at hP
  exact hP
theorem recv0 (K : cX E p m c cc nL s args w0 own) (w : wst E H0 M n k H locs) : ∃ cell : Cell, H[ad E 0]? = some cell ∧ cell.vm.isStatics = false ∧ s.vm.findClass RX1 = some cell.cls := va_recv (ci := 1) (q0 := 0) K.2.1 w.1 rfl rfl
theorem recv10 (K : cX E p m c cc nL s args w0 own) (w : wst E H0 M n k H locs) : ∃ cell : Cell, H[ad E 10]? = some cell ∧ cell.vm.isStatics = false ∧ s.vm.findClass RX0 = some cell.cls := va_recv (ci := 0) (q0 := 10) K.2.1 w.1 rfl rfl
end CR
/-- a contract without an answer: rows, commits, queue before and behind -/
def MV (l : Launch) (y : MethodName) (w1 : Cond) (fr lo : Nat) (E : En) (av : List Value) (M : Mt) (n k : Nat) (M' : Mt) (n' k' : Nat) : Prop := ∀ sz : Nat, Met l y (w1 :: wC) (rmA fr lo)
  (va_Pc av (fun U => U.heap.size = sz ∧ va_P E.1 vcl (wN E M n k) U.heap ∧ va_K E.1 vcl (tyN E) U)) (va_Qv (fun _ : Unit => True) (fun _ t => va_P E.1 vcl (wN E M' n' k') t.heap) (aN E sz)) 0 0 (aN E sz)
def MI (l : Launch) (y : MethodName) (w1 : Cond) (fr lo : Nat) (E : En) (av : List Value) (M : Mt) (n k : Nat) (r : Int32) (M' : Mt) (n' k' : Nat) : Prop := ∀ sz : Nat, Met l y (w1 :: wC) (rmA fr lo)
  (va_Pc av (fun U => U.heap.size = sz ∧ va_P E.1 vcl (wN E M n k) U.heap ∧ va_K E.1 vcl (tyN E) U)) (va_Qi (fun r' (_ : Unit) => r' = r) (fun _ t => va_P E.1 vcl (wN E M' n' k') t.heap) (aN E sz)) 0 0 (aN E sz)
theorem pN_blind {E : En} {av : List Value} {sz : Nat} {M : Mt} {n k : Nat} : FrameBlind (va_Pc av (fun U => U.heap.size = sz ∧ va_P E.1 vcl (wN E M n k) U.heap ∧ va_K E.1 vcl (tyN E) U)) := by
  intro a U g mk q
  obtain ⟨q0, q1, qP, qK⟩ := q
  exact ⟨q0, q1, qP, va_K.moved (u := U) (U := U.calling g mk a) (Vm.Alike.refl U.vm) qK⟩
section CM
variable {l : Launch} {y : MethodName} {fr lo : Nat} {E : En} {av : List Value} {M M' : Mt} {n k n' k' : Nat} {r : Int32} {cc : ByteArray} {maxL : Nat} {own : String}
theorem MV.of (dn : dN E) (hy : plainName own = true) (ho : y.cls = own) (hav : (lg_sl av).length ≤ maxL)
    (body : ∀ (p : Program) (e : Env) (s : State) (m : MethodId) (args : Array Value) (below : List Frame) (meth : Method) (c : Code) (ls : Array Slot) (Q : State → Prop), cX E p m c cc maxL s args (.code y cc maxL none) own → wst E s.heap M n k s.heap [] → lv_has ls maxL (lv_args 0 av) →
      (∀ {H : Heap} {locs : List Loc} {pc : Nat} {ls : Array Slot}, wst E s.heap M' n' k' H locs → decode cc pc = .ok (.return_, 1) → W p l e (rmA fr lo) s m args below meth c H locs 0 0 Q (F0 m pc ls [])) →
      W p l e (rmA fr lo) s m args below meth c s.heap [] 0 0 Q (F0 m 0 ls [])) : MV l y (.code y cc maxL none) fr lo E av M n k M' n' k' := by
  intro sz
  refine Met.ofW (cc := cc) (maxL := maxL) (ret := none) (by rw [ho]; exact hy) rfl ?_
  intro p e s m args below meth c s₁ B hml hv
  obtain ⟨rfl, hsz, hP, hK⟩ := hv
  subst hsz
  have hts := atoms_spec (ws := .code y cc maxL none :: wC) B.pre
  have hown : s.vm.findClass own = some m.cls := ho ▸ findClass_of_methodNamed B.named
  have hlocks := B.notSynchronized
  have hl := lv_entry av (n := maxL) hav
  rw [lg_entry_eq]
  generalize (lg_sl av ++ List.replicate (maxL - (lg_sl av).length) Slot.unset).toArray = ls at hl ⊢
  exact body p e s m _ below meth c ls _ ⟨⟨B.exec, B.bytes, hml, hown, hts⟩, hK, dn⟩ ⟨hP, va_S.rf⟩ hl (fun w hd => W.vret B.exec B.bytes B.returns (fun t ht hW => ⟨⟨(), rfl, trivial, by show va_P E.1 vcl (wN E M' n' k') t.heap; rw [ht]; exact w.1⟩, w.2.F ht⟩) w.2.2.2 hd)
theorem MI.of (dn : dN E) (hy : plainName own = true) (ho : y.cls = own) (hav : (lg_sl av).length ≤ maxL)
    (body : ∀ (p : Program) (e : Env) (s : State) (m : MethodId) (args : Array Value) (below : List Frame) (meth : Method) (c : Code) (ls : Array Slot) (Q : State → Prop), cX E p m c cc maxL s args (.code y cc maxL (some .int)) own → wst E s.heap M n k s.heap [] → lv_has ls maxL (lv_args 0 av) →
      (∀ {H : Heap} {locs : List Loc} {pc : Nat} {ls : Array Slot} {v : Int32}, wst E s.heap M' n' k' H locs → v = r → decode cc pc = .ok (.ireturn, 1) → W p l e (rmA fr lo) s m args below meth c H locs 0 0 Q (F0 m pc ls [.int v])) →
      W p l e (rmA fr lo) s m args below meth c s.heap [] 0 0 Q (F0 m 0 ls [])) : MI l y (.code y cc maxL (some .int)) fr lo E av M n k r M' n' k' := by
  intro sz
  refine Met.ofW (cc := cc) (maxL := maxL) (ret := some .int) (by rw [ho]; exact hy) rfl ?_
  intro p e s m args below meth c s₁ B hml hv
  obtain ⟨rfl, hsz, hP, hK⟩ := hv
  subst hsz
  have hts := atoms_spec (ws := .code y cc maxL (some .int) :: wC) B.pre
  have hown : s.vm.findClass own = some m.cls := ho ▸ findClass_of_methodNamed B.named
  have hlocks := B.notSynchronized
  have hl := lv_entry av (n := maxL) hav
  rw [lg_entry_eq]
  generalize (lg_sl av ++ List.replicate (maxL - (lg_sl av).length) Slot.unset).toArray = ls at hl ⊢
  exact body p e s m _ below meth c ls _ ⟨⟨B.exec, B.bytes, hml, hown, hts⟩, hK, dn⟩ ⟨hP, va_S.rf⟩ hl (fun w hv hd => W.iret B.exec B.bytes B.returns (fun t ht hW => ⟨⟨_, (), rfl, hv, by show va_P E.1 vcl (wN E M' n' k') t.heap; rw [ht]; exact w.1⟩, w.2.F ht⟩) w.2.2.2 hd)
theorem MI.ofZ (dn : dN E) (hy : plainName own = true) (ho : y.cls = own) (hav : (lg_sl av).length ≤ maxL) (hz : r = 0 ∨ r = 1)
    (body : ∀ (p : Program) (e : Env) (s : State) (m : MethodId) (args : Array Value) (below : List Frame) (meth : Method) (c : Code) (ls : Array Slot) (Q : State → Prop), cX E p m c cc maxL s args (.code y cc maxL (some .boolean)) own → wst E s.heap M n k s.heap [] → lv_has ls maxL (lv_args 0 av) →
      (∀ {H : Heap} {locs : List Loc} {pc : Nat} {ls : Array Slot} {v : Int32}, wst E s.heap M' n' k' H locs → v = r → decode cc pc = .ok (.ireturn, 1) → W p l e (rmA fr lo) s m args below meth c H locs 0 0 Q (F0 m pc ls [.int v])) →
      W p l e (rmA fr lo) s m args below meth c s.heap [] 0 0 Q (F0 m 0 ls [])) : MI l y (.code y cc maxL (some .boolean)) fr lo E av M n k r M' n' k' := by
  intro sz
  refine Met.ofW (cc := cc) (maxL := maxL) (ret := some .boolean) (by rw [ho]; exact hy) rfl ?_
  intro p e s m args below meth c s₁ B hml hv
  obtain ⟨rfl, hsz, hP, hK⟩ := hv
  subst hsz
  have hts := atoms_spec (ws := .code y cc maxL (some .boolean) :: wC) B.pre
  have hown : s.vm.findClass own = some m.cls := ho ▸ findClass_of_methodNamed B.named
  have hlocks := B.notSynchronized
  have hl := lv_entry av (n := maxL) hav
  rw [lg_entry_eq]
  generalize (lg_sl av ++ List.replicate (maxL - (lg_sl av).length) Slot.unset).toArray = ls at hl ⊢
  exact body p e s m _ below meth c ls _ ⟨⟨B.exec, B.bytes, hml, hown, hts⟩, hK, dn⟩ ⟨hP, va_S.rf⟩ hl (fun w hv hd => W.zret B.exec B.bytes B.returns (by subst hv; rcases hz with h | h <;> rw [h] <;> rfl) (fun t ht hW => ⟨⟨_, (), rfl, hv, by show va_P E.1 vcl (wN E M' n' k') t.heap; rw [ht]; exact w.1⟩, w.2.F ht⟩) w.2.2.2 hd)
end CM
section CC
variable {p : Program} {l : Launch} {e : Env} {R : Room} {s : State} {m : MethodId} {args : Array Value} {below : List Frame} {meth : Method} {c : Code} {H : Heap} {locs : List Loc} {cells slots : Nat} {Q : State → Prop} {pc nL : Nat} {ls : Array Slot} {rest st : List Value} {cc : ByteArray} {w0 w1 : Cond} {own C : String} {E : En} {M M' : Mt} {n k n' k' : Nat}
variable {y : MethodName} {bytes : ByteArray} {maxL fr lo idx nA b : Nat} {As : List Value} {ret : Option FieldType} {r : Int32}
theorem callv (K : cX E p m c cc nL s args w0 own) (w : wst E s.heap M n k H locs) (hM : MV l y w1 fr lo E (.ref b :: As) M n k M' n' k') (cw : CallW R s args own C idx y bytes maxL ret (w1 :: wC) (rmA fr lo) 0 0 nA)
    (hr : ∃ cell : Cell, H[b]? = some cell ∧ cell.vm.isStatics = false ∧ s.vm.findClass C = some cell.cls) (hn : As.length = nA) (hsz : ls.size = nL) (hst : st = As.reverse ++ .ref b :: rest) (hW : (rest.map fun v => v.category).sum ≤ 8) (hd : decode cc pc = .ok (.invokevirtual idx, 3)) (hf : cells ≤ R.cells ∧ slots ≤ R.slots)
    (kk : ∀ (H : Heap) (locs : List Loc), wst E s.heap M' n' k' H locs → W p l e R s m args below meth c H locs cells slots Q (F0 m (pc + 3) ls rest)) : W p l e R s m args below meth c H locs cells slots Q (F0 m pc ls st) := by
  have hsub := aN_le (E := E) w.2.1
  refine va_callv (A0 := aN E s.heap.size) (A1 := aN E H.size) (va_runV (As := As) (rest := rest) K.1 (hM H.size) cw ⟨pN_blind, hr, fun U hU hW => ⟨rfl, by rw [hU], by rw [hU]; exact w.1, va_K.moved hW.alike K.2.1⟩⟩ rfl hn hsz hst (lv_room hW) hd ⟨hf.1, hf.2⟩) w.2 (fun q _ h => hsub q h) hsub (fun u t H1 locs1 ht hvm hp hB hz hk hS => ?_)
  exact kk H1 locs1 ⟨by rw [← ht]; exact hB, hS⟩
theorem calli (K : cX E p m c cc nL s args w0 own) (w : wst E s.heap M n k H locs) (hM : MI l y w1 fr lo E (.ref b :: As) M n k r M' n' k') (cw : CallW R s args own C idx y bytes maxL ret (w1 :: wC) (rmA fr lo) 0 0 nA)
    (hr : ∃ cell : Cell, H[b]? = some cell ∧ cell.vm.isStatics = false ∧ s.vm.findClass C = some cell.cls) (hn : As.length = nA) (hsz : ls.size = nL) (hst : st = As.reverse ++ .ref b :: rest) (hW : (rest.map fun v => v.category).sum ≤ 8) (hd : decode cc pc = .ok (.invokevirtual idx, 3)) (hf : cells ≤ R.cells ∧ slots ≤ R.slots)
    (kk : ∀ (H : Heap) (locs : List Loc), wst E s.heap M' n' k' H locs → W p l e R s m args below meth c H locs cells slots Q (F0 m (pc + 3) ls (.int r :: rest))) : W p l e R s m args below meth c H locs cells slots Q (F0 m pc ls st) := by
  have hsub := aN_le (E := E) w.2.1
  refine va_calli (A0 := aN E s.heap.size) (A1 := aN E H.size) (va_runV (As := As) (rest := rest) K.1 (hM H.size) cw ⟨pN_blind, hr, fun U hU hW => ⟨rfl, by rw [hU], by rw [hU]; exact w.1, va_K.moved hW.alike K.2.1⟩⟩ rfl hn hsz hst (lv_room hW) hd ⟨hf.1, hf.2⟩) w.2 (fun q _ h => hsub q h) hsub (fun r' u t H1 locs1 ht hvm hp hB hz hk hS => ?_)
  subst hp
  exact kk H1 locs1 ⟨by rw [← ht]; exact hB, hS⟩
theorem callsv (K : cX E p m c cc nL s args w0 own) (w : wst E s.heap M n k H locs) (hM : MV l y w1 fr lo E As M n k M' n' k') (cw : CallB R s args own idx y bytes maxL ret (w1 :: wC) (rmA fr lo) 0 0 nA ∧ (Cond.static y).before args s = true)
    (hn : As.length = nA) (hsz : ls.size = nL) (hst : st = As.reverse ++ rest) (hW : (rest.map fun v => v.category).sum ≤ 8) (hd : decode cc pc = .ok (.invokestatic idx, 3)) (hf : cells ≤ R.cells ∧ slots ≤ R.slots)
    (kk : ∀ (H : Heap) (locs : List Loc), wst E s.heap M' n' k' H locs → W p l e R s m args below meth c H locs cells slots Q (F0 m (pc + 3) ls rest)) : W p l e R s m args below meth c H locs cells slots Q (F0 m pc ls st) := by
  have hsub := aN_le (E := E) w.2.1
  refine va_callv (A0 := aN E s.heap.size) (A1 := aN E H.size) (va_runS (As := As) (rest := rest) K.1 (hM H.size) cw ⟨pN_blind, fun U hU hW => ⟨rfl, by rw [hU], by rw [hU]; exact w.1, va_K.moved hW.alike K.2.1⟩⟩ rfl hn hsz hst (lv_room hW) hd ⟨hf.1, hf.2⟩) w.2 (fun q _ h => hsub q h) hsub (fun u t H1 locs1 ht hvm hp hB hz hk hS => ?_)
  exact kk H1 locs1 ⟨by rw [← ht]; exact hB, hS⟩
theorem callsi (K : cX E p m c cc nL s args w0 own) (w : wst E s.heap M n k H locs) (hM : MI l y w1 fr lo E As M n k r M' n' k') (cw : CallB R s args own idx y bytes maxL ret (w1 :: wC) (rmA fr lo) 0 0 nA ∧ (Cond.static y).before args s = true)
    (hn : As.length = nA) (hsz : ls.size = nL) (hst : st = As.reverse ++ rest) (hW : (rest.map fun v => v.category).sum ≤ 8) (hd : decode cc pc = .ok (.invokestatic idx, 3)) (hf : cells ≤ R.cells ∧ slots ≤ R.slots)
    (kk : ∀ (H : Heap) (locs : List Loc), wst E s.heap M' n' k' H locs → W p l e R s m args below meth c H locs cells slots Q (F0 m (pc + 3) ls (.int r :: rest))) : W p l e R s m args below meth c H locs cells slots Q (F0 m pc ls st) := by
  have hsub := aN_le (E := E) w.2.1
  refine va_calli (A0 := aN E s.heap.size) (A1 := aN E H.size) (va_runS (As := As) (rest := rest) K.1 (hM H.size) cw ⟨pN_blind, fun U hU hW => ⟨rfl, by rw [hU], by rw [hU]; exact w.1, va_K.moved hW.alike K.2.1⟩⟩ rfl hn hsz hst (lv_room hW) hd ⟨hf.1, hf.2⟩) w.2 (fun q _ h => hsub q h) hsub (fun r' u t H1 locs1 ht hvm hp hB hz hk hS => ?_)
  subst hp
  exact kk H1 locs1 ⟨by rw [← ht]; exact hB, hS⟩
end CC
end
section
section LK
variable {p : Program} {l : Launch} {e : Env} {R : Room} {s : State} {m : MethodId} {args : Array Value} {below : List Frame} {meth : Method} {c : Code} {H H0 : Heap} {locs : List Loc} {cells slots : Nat} {Q : State → Prop} {pc nL : Nat} {ls : Array Slot} {rest : List Value} {cc : ByteArray} {w0 : Cond} {E : En} {M : Mt} {n k : Nat} {rm : Room}
theorem gf_X0_ranks (K : cX E p m c cc nL s args w0 RX0) (w : wst E H0 M n k H locs) (hd : decode cc pc = .ok (.getfield 9, 3)) (kk : W p l e R s m args below meth c H locs cells slots Q (F0 m (pc + 3) ls (.ref (ad E 11) :: rest))) : W p l e R s m args below meth c H locs cells slots Q (F0 m pc ls (.ref (ad E 10) :: rest)) :=
  va_get (D := E.1) (ci := 0) (v := .ref (ad E 11)) (C := RX0) (T := TX0) (N := 4) (ref := RX0) K.1.1 K.1.2.1 K.1.2.2.2.2 (fun w h => List.mem_cons_of_mem _ (in_X0 w h)) K.1.2.2.2.1 K.2.1 w.1 10 rfl rfl 0 (by decide) (K.1.2.2.2.2 _ (List.mem_cons_of_mem _ (List.mem_of_getElem? (i := 48) rfl))) (fun _ h9 => h9) rfl hd kk
theorem gf_X0_keys (K : cX E p m c cc nL s args w0 RX0) (w : wst E H0 M n k H locs) (hd : decode cc pc = .ok (.getfield 15, 3)) (kk : W p l e R s m args below meth c H locs cells slots Q (F0 m (pc + 3) ls (.ref (ad E 12) :: rest))) : W p l e R s m args below meth c H locs cells slots Q (F0 m pc ls (.ref (ad E 10) :: rest)) :=
  va_get (D := E.1) (ci := 0) (v := .ref (ad E 12)) (C := RX0) (T := TX0) (N := 4) (ref := RX0) K.1.1 K.1.2.1 K.1.2.2.2.2 (fun w h => List.mem_cons_of_mem _ (in_X0 w h)) K.1.2.2.2.1 K.2.1 w.1 10 rfl rfl 1 (by decide) (K.1.2.2.2.2 _ (List.mem_cons_of_mem _ (List.mem_of_getElem? (i := 49) rfl))) (fun _ h9 => h9) rfl hd kk
theorem gf_X0_numbers (K : cX E p m c cc nL s args w0 RX0) (w : wst E H0 M n k H locs) (hd : decode cc pc = .ok (.getfield 18, 3)) (kk : W p l e R s m args below meth c H locs cells slots Q (F0 m (pc + 3) ls (.ref (ad E 13) :: rest))) : W p l e R s m args below meth c H locs cells slots Q (F0 m pc ls (.ref (ad E 10) :: rest)) :=
  va_get (D := E.1) (ci := 0) (v := .ref (ad E 13)) (C := RX0) (T := TX0) (N := 4) (ref := RX0) K.1.1 K.1.2.1 K.1.2.2.2.2 (fun w h => List.mem_cons_of_mem _ (in_X0 w h)) K.1.2.2.2.1 K.2.1 w.1 10 rfl rfl 2 (by decide) (K.1.2.2.2.2 _ (List.mem_cons_of_mem _ (List.mem_of_getElem? (i := 50) rfl))) (fun _ h9 => h9) rfl hd kk
theorem gf_X0_size (K : cX E p m c cc nL s args w0 RX0) (w : wst E H0 M n k H locs) (hd : decode cc pc = .ok (.getfield 21, 3)) (kk : W p l e R s m args below meth c H locs cells slots Q (F0 m (pc + 3) ls (.int (nI k) :: rest))) : W p l e R s m args below meth c H locs cells slots Q (F0 m pc ls (.ref (ad E 10) :: rest)) :=
  va_get (D := E.1) (ci := 0) (v := .int (nI k)) (C := RX0) (T := TX0) (N := 4) (ref := RX0) K.1.1 K.1.2.1 K.1.2.2.2.2 (fun w h => List.mem_cons_of_mem _ (in_X0 w h)) K.1.2.2.2.1 K.2.1 w.1 10 rfl rfl 3 (by decide) (K.1.2.2.2.2 _ (List.mem_cons_of_mem _ (List.mem_of_getElem? (i := 51) rfl))) (fun _ h9 => h9) rfl hd kk
theorem pf_X0_size (K : cX E p m c cc nL s args w0 RX0) (w : wst E H0 M n k H locs) {v : Int32} {n' : Nat} (hv : v = nI n') (hd : decode cc pc = .ok (.putfield 21, 3)) (kk : ∀ (H : Heap) (locs : List Loc), wst E H0 M n n' H locs → W p l e R s m args below meth c H locs cells slots Q (F0 m (pc + 3) ls rest)) : W p l e R s m args below meth c H locs cells slots Q (F0 m pc ls (.int v :: .ref (ad E 10) :: rest)) := by
  subst hv
  exact va_put (ty := .int) (D := E.1) (ci := 0) (v := .int (nI n')) (C := RX0) (T := TX0) (N := 4) (ref := RX0) K.1.1 K.1.2.1 K.1.2.2.2.2 (fun w h => List.mem_cons_of_mem _ (in_X0 w h)) tyX0 tyX0_ok nmX0 K.1.2.2.2.1 K.2.1 w.1 K.2.2.D w.2 10 rfl rfl 3 (by decide) (K.1.2.2.2.2 _ (List.mem_cons_of_mem _ (List.mem_of_getElem? (i := 51) rfl))) (fun _ h9 => h9) rfl (by decide +kernel) rfl rfl (Nat.le_of_ble_eq_true rfl) hd (fun H locs hP _ hS => kk H locs ⟨hP, hS⟩)
theorem lk_X0_25 (K : cX E p m c cc nL s args w0 RX0) (hR : rm.frames + 1 ≤ R.frames ∧ 8 + (3 + 11) + rm.locals ≤ R.locals) : CallW R s args RX0 RX0 25 yX0_rise cX0_rise 3 none ((.code yX0_rise cX0_rise 3 none) :: wC) rm rm.cells rm.slots 0 :=
  cwV 0 K.1.2.2.2.2 (gL (List.mem_of_getElem? (i := 254) rfl) (at_in [252, 253, 18, 28] rfl)) rfl rfl rfl ⟨rfl, by decide, by decide, by decide +kernel⟩ hR
theorem lk_X0_28 (K : cX E p m c cc nL s args w0 RX0) (hR : rm.frames + 1 ≤ R.frames ∧ 8 + (6 + 11) + rm.locals ≤ R.locals) : CallW R s args RX0 RX0 28 yX0_swap cX0_swap 6 none ((.code yX0_swap cX0_swap 6 none) :: wC) rm rm.cells rm.slots 2 :=
  cwV 2 K.1.2.2.2.2 (gL (List.mem_of_getElem? (i := 260) rfl) (at_in [258, 259, 20, 28] rfl)) rfl rfl rfl ⟨rfl, by decide, by decide, by decide +kernel⟩ hR
theorem lk_X0_32 (K : cX E p m c cc nL s args w0 RX0) (hR : rm.frames + 1 ≤ R.frames ∧ 8 + (3 + 11) + rm.locals ≤ R.locals) : CallW R s args RX0 RX0 32 yX0_sink cX0_sink 3 none ((.code yX0_sink cX0_sink 3 none) :: wC) rm rm.cells rm.slots 0 :=
  cwV 0 K.1.2.2.2.2 (gL (List.mem_of_getElem? (i := 291) rfl) (at_in [289, 290, 22, 28] rfl)) rfl rfl rfl ⟨rfl, by decide, by decide, by decide +kernel⟩ hR
theorem lk_X0_35 (K : cX E p m c cc nL s args w0 RX0) (hR : rm.frames + 1 ≤ R.frames ∧ 8 + (3 + 11) + rm.locals ≤ R.locals) : CallW R s args RX0 RX0 35 yX0_comesBefore cX0_comesBefore 3 (some .boolean) ((.code yX0_comesBefore cX0_comesBefore 3 (some .boolean)) :: wC) rm rm.cells rm.slots 2 :=
  cwV 2 K.1.2.2.2.2 (gL (List.mem_of_getElem? (i := 257) rfl) (at_in [255, 256, 19, 28] rfl)) rfl rfl rfl ⟨rfl, by decide, by decide, by decide +kernel⟩ hR
theorem gf_X1_times (K : cX E p m c cc nL s args w0 RX1) (w : wst E H0 M n k H locs) (hd : decode cc pc = .ok (.getfield 9, 3)) (kk : W p l e R s m args below meth c H locs cells slots Q (F0 m (pc + 3) ls (.ref (ad E 1) :: rest))) : W p l e R s m args below meth c H locs cells slots Q (F0 m pc ls (.ref (ad E 0) :: rest)) :=
  va_get (D := E.1) (ci := 1) (v := .ref (ad E 1)) (C := RX1) (T := TX1) (N := 11) (ref := RX1) K.1.1 K.1.2.1 K.1.2.2.2.2 (fun w h => List.mem_cons_of_mem _ (in_X1 w h)) K.1.2.2.2.1 K.2.1 w.1 0 rfl rfl 1 (by decide) (K.1.2.2.2.2 _ (List.mem_cons_of_mem _ (List.mem_of_getElem? (i := 64) rfl))) (fun _ h9 => h9) rfl hd kk
theorem gf_X1_keys (K : cX E p m c cc nL s args w0 RX1) (w : wst E H0 M n k H locs) (hd : decode cc pc = .ok (.getfield 13, 3)) (kk : W p l e R s m args below meth c H locs cells slots Q (F0 m (pc + 3) ls (.ref (ad E 2) :: rest))) : W p l e R s m args below meth c H locs cells slots Q (F0 m pc ls (.ref (ad E 0) :: rest)) :=
  va_get (D := E.1) (ci := 1) (v := .ref (ad E 2)) (C := RX1) (T := TX1) (N := 11) (ref := RX1) K.1.1 K.1.2.1 K.1.2.2.2.2 (fun w h => List.mem_cons_of_mem _ (in_X1 w h)) K.1.2.2.2.1 K.2.1 w.1 0 rfl rfl 2 (by decide) (K.1.2.2.2.2 _ (List.mem_cons_of_mem _ (List.mem_of_getElem? (i := 65) rfl))) (fun _ h9 => h9) rfl hd kk
theorem gf_X1_generations (K : cX E p m c cc nL s args w0 RX1) (w : wst E H0 M n k H locs) (hd : decode cc pc = .ok (.getfield 16, 3)) (kk : W p l e R s m args below meth c H locs cells slots Q (F0 m (pc + 3) ls (.ref (ad E 3) :: rest))) : W p l e R s m args below meth c H locs cells slots Q (F0 m pc ls (.ref (ad E 0) :: rest)) :=
  va_get (D := E.1) (ci := 1) (v := .ref (ad E 3)) (C := RX1) (T := TX1) (N := 11) (ref := RX1) K.1.1 K.1.2.1 K.1.2.2.2.2 (fun w h => List.mem_cons_of_mem _ (in_X1 w h)) K.1.2.2.2.1 K.2.1 w.1 0 rfl rfl 3 (by decide) (K.1.2.2.2.2 _ (List.mem_cons_of_mem _ (List.mem_of_getElem? (i := 66) rfl))) (fun _ h9 => h9) rfl hd kk
theorem gf_X1_parentCounts (K : cX E p m c cc nL s args w0 RX1) (w : wst E H0 M n k H locs) (hd : decode cc pc = .ok (.getfield 19, 3)) (kk : W p l e R s m args below meth c H locs cells slots Q (F0 m (pc + 3) ls (.ref (ad E 4) :: rest))) : W p l e R s m args below meth c H locs cells slots Q (F0 m pc ls (.ref (ad E 0) :: rest)) :=
  va_get (D := E.1) (ci := 1) (v := .ref (ad E 4)) (C := RX1) (T := TX1) (N := 11) (ref := RX1) K.1.1 K.1.2.1 K.1.2.2.2.2 (fun w h => List.mem_cons_of_mem _ (in_X1 w h)) K.1.2.2.2.1 K.2.1 w.1 0 rfl rfl 4 (by decide) (K.1.2.2.2.2 _ (List.mem_cons_of_mem _ (List.mem_of_getElem? (i := 67) rfl))) (fun _ h9 => h9) rfl hd kk
theorem gf_X1_parents (K : cX E p m c cc nL s args w0 RX1) (w : wst E H0 M n k H locs) (hd : decode cc pc = .ok (.getfield 22, 3)) (kk : W p l e R s m args below meth c H locs cells slots Q (F0 m (pc + 3) ls (.ref (ad E 5) :: rest))) : W p l e R s m args below meth c H locs cells slots Q (F0 m pc ls (.ref (ad E 0) :: rest)) :=
  va_get (D := E.1) (ci := 1) (v := .ref (ad E 5)) (C := RX1) (T := TX1) (N := 11) (ref := RX1) K.1.1 K.1.2.1 K.1.2.2.2.2 (fun w h => List.mem_cons_of_mem _ (in_X1 w h)) K.1.2.2.2.1 K.2.1 w.1 0 rfl rfl 5 (by decide) (K.1.2.2.2.2 _ (List.mem_cons_of_mem _ (List.mem_of_getElem? (i := 68) rfl))) (fun _ h9 => h9) rfl hd kk
theorem gf_X1_isParent (K : cX E p m c cc nL s args w0 RX1) (w : wst E H0 M n k H locs) (hd : decode cc pc = .ok (.getfield 25, 3)) (kk : W p l e R s m args below meth c H locs cells slots Q (F0 m (pc + 3) ls (.ref (ad E 6) :: rest))) : W p l e R s m args below meth c H locs cells slots Q (F0 m pc ls (.ref (ad E 0) :: rest)) :=
  va_get (D := E.1) (ci := 1) (v := .ref (ad E 6)) (C := RX1) (T := TX1) (N := 11) (ref := RX1) K.1.1 K.1.2.1 K.1.2.2.2.2 (fun w h => List.mem_cons_of_mem _ (in_X1 w h)) K.1.2.2.2.1 K.2.1 w.1 0 rfl rfl 6 (by decide) (K.1.2.2.2.2 _ (List.mem_cons_of_mem _ (List.mem_of_getElem? (i := 69) rfl))) (fun _ h9 => h9) rfl hd kk
theorem gf_X1_tips (K : cX E p m c cc nL s args w0 RX1) (w : wst E H0 M n k H locs) (hd : decode cc pc = .ok (.getfield 29, 3)) (kk : W p l e R s m args below meth c H locs cells slots Q (F0 m (pc + 3) ls (.ref (ad E 7) :: rest))) : W p l e R s m args below meth c H locs cells slots Q (F0 m pc ls (.ref (ad E 0) :: rest)) :=
  va_get (D := E.1) (ci := 1) (v := .ref (ad E 7)) (C := RX1) (T := TX1) (N := 11) (ref := RX1) K.1.1 K.1.2.1 K.1.2.2.2.2 (fun w h => List.mem_cons_of_mem _ (in_X1 w h)) K.1.2.2.2.1 K.2.1 w.1 0 rfl rfl 7 (by decide) (K.1.2.2.2.2 _ (List.mem_cons_of_mem _ (List.mem_of_getElem? (i := 70) rfl))) (fun _ h9 => h9) rfl hd kk
theorem gf_X1_marks (K : cX E p m c cc nL s args w0 RX1) (w : wst E H0 M n k H locs) (hd : decode cc pc = .ok (.getfield 32, 3)) (kk : W p l e R s m args below meth c H locs cells slots Q (F0 m (pc + 3) ls (.ref (ad E 8) :: rest))) : W p l e R s m args below meth c H locs cells slots Q (F0 m pc ls (.ref (ad E 0) :: rest)) :=
  va_get (D := E.1) (ci := 1) (v := .ref (ad E 8)) (C := RX1) (T := TX1) (N := 11) (ref := RX1) K.1.1 K.1.2.1 K.1.2.2.2.2 (fun w h => List.mem_cons_of_mem _ (in_X1 w h)) K.1.2.2.2.1 K.2.1 w.1 0 rfl rfl 8 (by decide) (K.1.2.2.2.2 _ (List.mem_cons_of_mem _ (List.mem_of_getElem? (i := 71) rfl))) (fun _ h9 => h9) rfl hd kk
theorem gf_X1_untoldLinks (K : cX E p m c cc nL s args w0 RX1) (w : wst E H0 M n k H locs) (hd : decode cc pc = .ok (.getfield 35, 3)) (kk : W p l e R s m args below meth c H locs cells slots Q (F0 m (pc + 3) ls (.ref (ad E 9) :: rest))) : W p l e R s m args below meth c H locs cells slots Q (F0 m pc ls (.ref (ad E 0) :: rest)) :=
  va_get (D := E.1) (ci := 1) (v := .ref (ad E 9)) (C := RX1) (T := TX1) (N := 11) (ref := RX1) K.1.1 K.1.2.1 K.1.2.2.2.2 (fun w h => List.mem_cons_of_mem _ (in_X1 w h)) K.1.2.2.2.1 K.2.1 w.1 0 rfl rfl 9 (by decide) (K.1.2.2.2.2 _ (List.mem_cons_of_mem _ (List.mem_of_getElem? (i := 72) rfl))) (fun _ h9 => h9) rfl hd kk
theorem gf_X1_queue (K : cX E p m c cc nL s args w0 RX1) (w : wst E H0 M n k H locs) (hd : decode cc pc = .ok (.getfield 41, 3)) (kk : W p l e R s m args below meth c H locs cells slots Q (F0 m (pc + 3) ls (.ref (ad E 10) :: rest))) : W p l e R s m args below meth c H locs cells slots Q (F0 m pc ls (.ref (ad E 0) :: rest)) :=
  va_get (D := E.1) (ci := 1) (v := .ref (ad E 10)) (C := RX1) (T := TX1) (N := 11) (ref := RX1) K.1.1 K.1.2.1 K.1.2.2.2.2 (fun w h => List.mem_cons_of_mem _ (in_X1 w h)) K.1.2.2.2.1 K.2.1 w.1 0 rfl rfl 10 (by decide) (K.1.2.2.2.2 _ (List.mem_cons_of_mem _ (List.mem_of_getElem? (i := 73) rfl))) (fun _ h9 => h9) rfl hd kk
theorem lk_X1_45 (K : cX E p m c cc nL s args w0 RX1) (hR : rm.frames + 1 ≤ R.frames ∧ 8 + (2 + 11) + rm.locals ≤ R.locals) : CallW R s args RX1 RX1 45 yX1_checkParentOrNone cX1_checkParentOrNone 2 none ((.code yX1_checkParentOrNone cX1_checkParentOrNone 2 none) :: wC) rm rm.cells rm.slots 1 :=
  cwV 1 K.1.2.2.2.2 (gL (List.mem_of_getElem? (i := 141) rfl) (at_in [139, 140, 10, 27] rfl)) rfl rfl rfl ⟨rfl, by decide, by decide, by decide +kernel⟩ hR
theorem gf_X1_commits (K : cX E p m c cc nL s args w0 RX1) (w : wst E H0 M n k H locs) (hd : decode cc pc = .ok (.getfield 49, 3)) (kk : W p l e R s m args below meth c H locs cells slots Q (F0 m (pc + 3) ls (.int (nI n) :: rest))) : W p l e R s m args below meth c H locs cells slots Q (F0 m pc ls (.ref (ad E 0) :: rest)) :=
  va_get (D := E.1) (ci := 1) (v := .int (nI n)) (C := RX1) (T := TX1) (N := 11) (ref := RX1) K.1.1 K.1.2.1 K.1.2.2.2.2 (fun w h => List.mem_cons_of_mem _ (in_X1 w h)) K.1.2.2.2.1 K.2.1 w.1 0 rfl rfl 0 (by decide) (K.1.2.2.2.2 _ (List.mem_cons_of_mem _ (List.mem_of_getElem? (i := 63) rfl))) (fun _ h9 => h9) rfl hd kk
theorem pf_X1_commits (K : cX E p m c cc nL s args w0 RX1) (w : wst E H0 M n k H locs) {v : Int32} {n' : Nat} (hv : v = nI n') (hd : decode cc pc = .ok (.putfield 49, 3)) (kk : ∀ (H : Heap) (locs : List Loc), wst E H0 M n' k H locs → W p l e R s m args below meth c H locs cells slots Q (F0 m (pc + 3) ls rest)) : W p l e R s m args below meth c H locs cells slots Q (F0 m pc ls (.int v :: .ref (ad E 0) :: rest)) := by
  subst hv
  exact va_put (ty := .int) (D := E.1) (ci := 1) (v := .int (nI n')) (C := RX1) (T := TX1) (N := 11) (ref := RX1) K.1.1 K.1.2.1 K.1.2.2.2.2 (fun w h => List.mem_cons_of_mem _ (in_X1 w h)) tyX1 tyX1_ok nmX1 K.1.2.2.2.1 K.2.1 w.1 K.2.2.D w.2 0 rfl rfl 0 (by decide) (K.1.2.2.2.2 _ (List.mem_cons_of_mem _ (List.mem_of_getElem? (i := 63) rfl))) (fun _ h9 => h9) rfl (by decide +kernel) rfl rfl (Nat.le_of_ble_eq_true rfl) hd (fun H locs hP _ hS => kk H locs ⟨hP, hS⟩)
theorem lk_X1_60 (K : cX E p m c cc nL s args w0 RX1) (hR : rm.frames + 1 ≤ R.frames ∧ 8 + (3 + 11) + rm.locals ≤ R.locals) : CallW R s args RX1 RX1 60 yX1_linkUnlessNone cX1_linkUnlessNone 3 none ((.code yX1_linkUnlessNone cX1_linkUnlessNone 3 none) :: wC) rm rm.cells rm.slots 2 :=
  cwV 2 K.1.2.2.2.2 (gL (List.mem_of_getElem? (i := 216) rfl) (at_in [214, 215, 13, 27] rfl)) rfl rfl rfl ⟨rfl, by decide, by decide, by decide +kernel⟩ hR
theorem lk_X1_64 (K : cX E p m c cc nL s args w0 RX1) (hR : rm.frames + 1 ≤ R.frames ∧ 8 + (2 + 11) + rm.locals ≤ R.locals) : CallW R s args RX1 RX1 64 yX1_checkCommit cX1_checkCommit 2 none ((.code yX1_checkCommit cX1_checkCommit 2 none) :: wC) rm rm.cells rm.slots 1 :=
  cwV 1 K.1.2.2.2.2 (gL (List.mem_of_getElem? (i := 144) rfl) (at_in [142, 143, 11, 27] rfl)) rfl rfl rfl ⟨rfl, by decide, by decide, by decide +kernel⟩ hR
theorem lk_X1_74 (K : cX E p m c cc nL s args w0 RX1) (hR : rm.frames + 1 ≤ R.frames ∧ 8 + (3 + 11) + rm.locals ≤ R.locals) : CallW R s args RX1 RX1 74 yX1_link cX1_link 3 none ((.code yX1_link cX1_link 3 none) :: wC) rm rm.cells rm.slots 2 :=
  cwV 2 K.1.2.2.2.2 (gL (List.mem_of_getElem? (i := 219) rfl) (at_in [217, 218, 14, 27] rfl)) rfl rfl rfl ⟨rfl, by decide, by decide, by decide +kernel⟩ hR
theorem lk_X1_77 (K : cX E p m c cc nL s args w0 RX1) (hR : rm.frames + 1 ≤ R.frames ∧ 8 + (1 + 11) + rm.locals ≤ R.locals) : CallB R s args RX1 77 yX1_checkHolder cX1_checkHolder 1 none ((.code yX1_checkHolder cX1_checkHolder 1 none) :: wC) rm rm.cells rm.slots 1 ∧ (Cond.static yX1_checkHolder).before args s = true :=
  cwS 1 K.1.2.2.2.2 (gL (List.mem_of_getElem? (i := 228) rfl) (at_in [226, 227, 27] rfl)) rfl rfl rfl ⟨rfl, by decide, by decide, by decide +kernel⟩ hR
theorem lk_X1_80 (K : cX E p m c cc nL s args w0 RX1) (hR : rm.frames + 1 ≤ R.frames ∧ 8 + (1 + 11) + rm.locals ≤ R.locals) : CallB R s args RX1 80 yX1_sideOf cX1_sideOf 1 (some .int) ((.code yX1_sideOf cX1_sideOf 1 (some .int)) :: wC) rm rm.cells rm.slots 1 ∧ (Cond.static yX1_sideOf).before args s = true :=
  cwS 1 K.1.2.2.2.2 (gL (List.mem_of_getElem? (i := 105) rfl) (at_in [103, 104, 27] rfl)) rfl rfl rfl ⟨rfl, by decide, by decide, by decide +kernel⟩ hR
theorem lk_X1_84 (K : cX E p m c cc nL s args w0 RX1) (hR : rm.frames + 1 ≤ R.frames ∧ 8 + (2 + 11) + rm.locals ≤ R.locals) : CallW R s args RX1 RX1 84 yX1_markReachable cX1_markReachable 2 none ((.code yX1_markReachable cX1_markReachable 2 none) :: wC) rm rm.cells rm.slots 1 :=
  cwV 1 K.1.2.2.2.2 (gL (List.mem_of_getElem? (i := 234) rfl) (at_in [232, 233, 15, 27] rfl)) rfl rfl rfl ⟨rfl, by decide, by decide, by decide +kernel⟩ hR
theorem lk_X1_87 (K : cX E p m c cc nL s args w0 RX1) (hR : rm.frames + 1 ≤ R.frames ∧ 8 + (2 + 11) + rm.locals ≤ R.locals) : CallW R s args RX1 RX1 87 yX1_clearMarks cX1_clearMarks 2 none ((.code yX1_clearMarks cX1_clearMarks 2 none) :: wC) rm rm.cells rm.slots 0 :=
  cwV 0 K.1.2.2.2.2 (gL (List.mem_of_getElem? (i := 237) rfl) (at_in [235, 236, 16, 27] rfl)) rfl rfl rfl ⟨rfl, by decide, by decide, by decide +kernel⟩ hR
theorem lk_X1_90 (K : cX E p m c cc nL s args w0 RX1) (hR : rm.frames + 1 ≤ R.frames ∧ 8 + (4 + 11) + rm.locals ≤ R.locals) : CallW R s args RX1 RX1 90 yX1_spreadMarks cX1_spreadMarks 4 none ((.code yX1_spreadMarks cX1_spreadMarks 4 none) :: wC) rm rm.cells rm.slots 0 :=
  cwV 0 K.1.2.2.2.2 (gL (List.mem_of_getElem? (i := 123) rfl) (at_in [121, 122, 5, 27] rfl)) rfl rfl rfl ⟨rfl, by decide, by decide, by decide +kernel⟩ hR
theorem lk_X1_93 (K : cX E p m c cc nL s args w0 RX1) (hR : rm.frames + 1 ≤ R.frames ∧ 8 + (1 + 11) + rm.locals ≤ R.locals) : CallW R s args RX1 RX0 93 yX0_clear cX0_clear 1 none ((.code yX0_clear cX0_clear 1 none) :: wC) rm rm.cells rm.slots 0 :=
  cwV 0 K.1.2.2.2.2 (gL (List.mem_of_getElem? (i := 244) rfl) (at_in [241, 242, 243, 28] rfl)) rfl rfl rfl ⟨rfl, by decide, by decide, by decide +kernel⟩ hR
theorem lk_X1_96 (K : cX E p m c cc nL s args w0 RX1) (hR : rm.frames + 1 ≤ R.frames ∧ 8 + (2 + 11) + rm.locals ≤ R.locals) : CallW R s args RX1 RX1 96 yX1_queueInTheOrder cX1_queueInTheOrder 2 none ((.code yX1_queueInTheOrder cX1_queueInTheOrder 2 none) :: wC) rm rm.cells rm.slots 1 :=
  cwV 1 K.1.2.2.2.2 (gL (List.mem_of_getElem? (i := 247) rfl) (at_in [245, 246, 17, 27] rfl)) rfl rfl rfl ⟨rfl, by decide, by decide, by decide +kernel⟩ hR
theorem lk_X1_99 (K : cX E p m c cc nL s args w0 RX1) (hR : rm.frames + 1 ≤ R.frames ∧ 8 + (3 + 11) + rm.locals ≤ R.locals) : CallW R s args RX1 RX1 99 yX1_queuedAt cX1_queuedAt 3 (some .int) ((.code yX1_queuedAt cX1_queuedAt 3 (some .int)) :: wC) rm rm.cells rm.slots 1 :=
  cwV 1 K.1.2.2.2.2 (gL (List.mem_of_getElem? (i := 263) rfl) (at_in [261, 262, 21, 27] rfl)) rfl rfl rfl ⟨rfl, by decide, by decide, by decide +kernel⟩ hR
theorem lk_X1_102 (K : cX E p m c cc nL s args w0 RX1) (hR : rm.frames + 1 ≤ R.frames ∧ 8 + (3 + 11) + rm.locals ≤ R.locals) : CallW R s args RX1 RX1 102 yX1_markedCommits cX1_markedCommits 3 (some .int) ((.code yX1_markedCommits cX1_markedCommits 3 (some .int)) :: wC) rm rm.cells rm.slots 0 :=
  cwV 0 K.1.2.2.2.2 (gL (List.mem_of_getElem? (i := 297) rfl) (at_in [295, 296, 23, 27] rfl)) rfl rfl rfl ⟨rfl, by decide, by decide, by decide +kernel⟩ hR
theorem lk_X1_106 (K : cX E p m c cc nL s args w0 RX1) (hR : rm.frames + 1 ≤ R.frames ∧ 8 + (2 + 11) + rm.locals ≤ R.locals) : CallB R s args RX1 106 yX1_checkPlace cX1_checkPlace 2 none ((.code yX1_checkPlace cX1_checkPlace 2 none) :: wC) rm rm.cells rm.slots 2 ∧ (Cond.static yX1_checkPlace).before args s = true :=
  cwS 2 K.1.2.2.2.2 (gL (List.mem_of_getElem? (i := 270) rfl) (at_in [268, 269, 27] rfl)) rfl rfl rfl ⟨rfl, by decide, by decide, by decide +kernel⟩ hR
theorem lk_X1_109 (K : cX E p m c cc nL s args w0 RX1) (hR : rm.frames + 1 ≤ R.frames ∧ 8 + (4 + 11) + rm.locals ≤ R.locals) : CallW R s args RX1 RX1 109 yX1_toldAt cX1_toldAt 4 (some .int) ((.code yX1_toldAt cX1_toldAt 4 (some .int)) :: wC) rm rm.cells rm.slots 2 :=
  cwV 2 K.1.2.2.2.2 (gL (List.mem_of_getElem? (i := 300) rfl) (at_in [298, 299, 24, 27] rfl)) rfl rfl rfl ⟨rfl, by decide, by decide, by decide +kernel⟩ hR
theorem lk_X1_120 (K : cX E p m c cc nL s args w0 RX1) (hR : rm.frames + 1 ≤ R.frames ∧ 8 + (3 + 11) + rm.locals ≤ R.locals) : CallW R s args RX1 RX1 120 yX1_parentOf cX1_parentOf 3 (some .int) ((.code yX1_parentOf cX1_parentOf 3 (some .int)) :: wC) rm rm.cells rm.slots 2 :=
  cwV 2 K.1.2.2.2.2 (gL (List.mem_of_getElem? (i := 129) rfl) (at_in [127, 128, 7, 27] rfl)) rfl rfl rfl ⟨rfl, by decide, by decide, by decide +kernel⟩ hR
theorem lk_X1_123 (K : cX E p m c cc nL s args w0 RX1) (hR : rm.frames + 1 ≤ R.frames ∧ 8 + (2 + 11) + rm.locals ≤ R.locals) : CallW R s args RX1 RX1 123 yX1_markHeld cX1_markHeld 2 none ((.code yX1_markHeld cX1_markHeld 2 none) :: wC) rm rm.cells rm.slots 0 :=
  cwV 0 K.1.2.2.2.2 (gL (List.mem_of_getElem? (i := 120) rfl) (at_in [118, 119, 4, 27] rfl)) rfl rfl rfl ⟨rfl, by decide, by decide, by decide +kernel⟩ hR
theorem lk_X1_126 (K : cX E p m c cc nL s args w0 RX1) (hR : rm.frames + 1 ≤ R.frames ∧ 8 + (4 + 11) + rm.locals ≤ R.locals) : CallW R s args RX1 RX0 126 yX0_put cX0_put 4 none ((.code yX0_put cX0_put 4 none) :: wC) rm rm.cells rm.slots 3 :=
  cwV 3 K.1.2.2.2.2 (gL (List.mem_of_getElem? (i := 251) rfl) (at_in [248, 249, 250, 28] rfl)) rfl rfl rfl ⟨rfl, by decide, by decide, by decide +kernel⟩ hR
theorem lk_X1_137 (K : cX E p m c cc nL s args w0 RX1) (hR : rm.frames + 1 ≤ R.frames ∧ 8 + (4 + 11) + rm.locals ≤ R.locals) : CallW R s args RX1 RX1 137 yX1_tipsOf cX1_tipsOf 4 (some .int) ((.code yX1_tipsOf cX1_tipsOf 4 (some .int)) :: wC) rm rm.cells rm.slots 1 :=
  cwV 1 K.1.2.2.2.2 (gL (List.mem_of_getElem? (i := 102) rfl) (at_in [100, 101, 0, 27] rfl)) rfl rfl rfl ⟨rfl, by decide, by decide, by decide +kernel⟩ hR
theorem lk_X1_140 (K : cX E p m c cc nL s args w0 RX1) (hR : rm.frames + 1 ≤ R.frames ∧ 8 + (3 + 11) + rm.locals ≤ R.locals) : CallW R s args RX1 RX1 140 yX1_greatestGeneration cX1_greatestGeneration 3 (some .int) ((.code yX1_greatestGeneration cX1_greatestGeneration 3 (some .int)) :: wC) rm rm.cells rm.slots 0 :=
  cwV 0 K.1.2.2.2.2 (gL (List.mem_of_getElem? (i := 108) rfl) (at_in [106, 107, 1, 27] rfl)) rfl rfl rfl ⟨rfl, by decide, by decide, by decide +kernel⟩ hR
theorem lk_X1_143 (K : cX E p m c cc nL s args w0 RX1) (hR : rm.frames + 1 ≤ R.frames ∧ 8 + (3 + 11) + rm.locals ≤ R.locals) : CallW R s args RX1 RX1 143 yX1_childlessCommits cX1_childlessCommits 3 (some .int) ((.code yX1_childlessCommits cX1_childlessCommits 3 (some .int)) :: wC) rm rm.cells rm.slots 0 :=
  cwV 0 K.1.2.2.2.2 (gL (List.mem_of_getElem? (i := 114) rfl) (at_in [112, 113, 2, 27] rfl)) rfl rfl rfl ⟨rfl, by decide, by decide, by decide +kernel⟩ hR
theorem lk_X1_146 (K : cX E p m c cc nL s args w0 RX1) (hR : rm.frames + 1 ≤ R.frames ∧ 8 + (3 + 11) + rm.locals ≤ R.locals) : CallW R s args RX1 RX1 146 yX1_commonCommits cX1_commonCommits 3 (some .int) ((.code yX1_commonCommits cX1_commonCommits 3 (some .int)) :: wC) rm rm.cells rm.slots 0 :=
  cwV 0 K.1.2.2.2.2 (gL (List.mem_of_getElem? (i := 117) rfl) (at_in [115, 116, 3, 27] rfl)) rfl rfl rfl ⟨rfl, by decide, by decide, by decide +kernel⟩ hR
theorem lk_X1_149 (K : cX E p m c cc nL s args w0 RX1) (hR : rm.frames + 1 ≤ R.frames ∧ 8 + (3 + 11) + rm.locals ≤ R.locals) : CallW R s args RX1 RX1 149 yX1_misplacedCommits cX1_misplacedCommits 3 (some .int) ((.code yX1_misplacedCommits cX1_misplacedCommits 3 (some .int)) :: wC) rm rm.cells rm.slots 0 :=
  cwV 0 K.1.2.2.2.2 (gL (List.mem_of_getElem? (i := 132) rfl) (at_in [130, 131, 8, 27] rfl)) rfl rfl rfl ⟨rfl, by decide, by decide, by decide +kernel⟩ hR
theorem mmaxN (K : cX E p m c cc nL s args w0 RX1) (hR : 1 ≤ R.frames ∧ 24 ≤ R.locals) (hf : cells ≤ R.cells ∧ slots ≤ R.slots) (hW : (rest.map fun v => v.category).sum ≤ 8) (hsz : ls.size = nL) {x y : Int32} (hd : decode cc pc = .ok (.invokestatic 158, 3)) (kk : W p l e R s m args below meth c H locs cells slots Q (F0 m (pc + 3) ls (.int (if x < y then y else x) :: rest))) : W p l e R s m args below meth c H locs cells slots Q (F0 m pc ls (.int y :: .int x :: rest)) :=
  va_mmax K.1.1 K.1.2.1 (K.1.2.2.1.trans hsz.symm) K.1.2.2.2.1 (K.1.2.2.2.2 _ (List.mem_cons_of_mem _ (List.mem_of_getElem? (i := 109) rfl))) (K.1.2.2.2.2 _ (List.mem_cons_of_mem _ (List.mem_of_getElem? (i := 110) rfl))) (K.1.2.2.2.2 _ (List.mem_cons_of_mem _ (List.mem_of_getElem? (i := 34) rfl))) (K.1.2.2.2.2 _ (List.mem_cons_of_mem _ (List.mem_of_getElem? (i := 111) rfl))) hR.1 (by omega) hf.1 hf.2 hd kk
theorem lk_X1_163 (K : cX E p m c cc nL s args w0 RX1) (hR : rm.frames + 1 ≤ R.frames ∧ 8 + (2 + 11) + rm.locals ≤ R.locals) : CallW R s args RX1 RX1 163 yX1_isCommon cX1_isCommon 2 (some .boolean) ((.code yX1_isCommon cX1_isCommon 2 (some .boolean)) :: wC) rm rm.cells rm.slots 1 :=
  cwV 1 K.1.2.2.2.2 (gL (List.mem_of_getElem? (i := 126) rfl) (at_in [124, 125, 6, 27] rfl)) rfl rfl rfl ⟨rfl, by decide, by decide, by decide +kernel⟩ hR
theorem lk_X1_167 (K : cX E p m c cc nL s args w0 RX1) (hR : rm.frames + 1 ≤ R.frames ∧ 8 + (1 + 11) + rm.locals ≤ R.locals) : CallW R s args RX1 RX0 167 yX0_size cX0_size 1 (some .int) ((.code yX0_size cX0_size 1 (some .int)) :: wC) rm rm.cells rm.slots 0 :=
  cwV 0 K.1.2.2.2.2 (gL (List.mem_of_getElem? (i := 267) rfl) (at_in [264, 265, 266, 28] rfl)) rfl rfl rfl ⟨rfl, by decide, by decide, by decide +kernel⟩ hR
theorem lk_X1_170 (K : cX E p m c cc nL s args w0 RX1) (hR : rm.frames + 1 ≤ R.frames ∧ 8 + (2 + 11) + rm.locals ≤ R.locals) : CallW R s args RX1 RX0 170 yX0_take cX0_take 2 (some .int) ((.code yX0_take cX0_take 2 (some .int)) :: wC) rm rm.cells rm.slots 0 :=
  cwV 0 K.1.2.2.2.2 (gL (List.mem_of_getElem? (i := 288) rfl) (at_in [285, 286, 287, 28] rfl)) rfl rfl rfl ⟨rfl, by decide, by decide, by decide +kernel⟩ hR
theorem lk_X1_173 (K : cX E p m c cc nL s args w0 RX1) (hR : rm.frames + 1 ≤ R.frames ∧ 8 + (4 + 11) + rm.locals ≤ R.locals) : CallW R s args RX1 RX1 173 yX1_countUntoldLinks cX1_countUntoldLinks 4 none ((.code yX1_countUntoldLinks cX1_countUntoldLinks 4 none) :: wC) rm rm.cells rm.slots 0 :=
  cwV 0 K.1.2.2.2.2 (gL (List.mem_of_getElem? (i := 303) rfl) (at_in [301, 302, 25, 27] rfl)) rfl rfl rfl ⟨rfl, by decide, by decide, by decide +kernel⟩ hR
theorem lk_X1_176 (K : cX E p m c cc nL s args w0 RX1) (hR : rm.frames + 1 ≤ R.frames ∧ 8 + (4 + 11) + rm.locals ≤ R.locals) : CallW R s args RX1 RX1 176 yX1_tellNext cX1_tellNext 4 none ((.code yX1_tellNext cX1_tellNext 4 none) :: wC) rm rm.cells rm.slots 0 :=
  cwV 0 K.1.2.2.2.2 (gL (List.mem_of_getElem? (i := 306) rfl) (at_in [304, 305, 26, 27] rfl)) rfl rfl rfl ⟨rfl, by decide, by decide, by decide +kernel⟩ hR
theorem lk_X1_179 (K : cX E p m c cc nL s args w0 RX1) (hR : rm.frames + 1 ≤ R.frames ∧ 8 + (3 + 11) + rm.locals ≤ R.locals) : CallW R s args RX1 RX1 179 yX1_hasParentNotBelow cX1_hasParentNotBelow 3 (some .boolean) ((.code yX1_hasParentNotBelow cX1_hasParentNotBelow 3 (some .boolean)) :: wC) rm rm.cells rm.slots 1 :=
  cwV 1 K.1.2.2.2.2 (gL (List.mem_of_getElem? (i := 135) rfl) (at_in [133, 134, 9, 27] rfl)) rfl rfl rfl ⟨rfl, by decide, by decide, by decide +kernel⟩ hR
end LK
end
section
def oY (own : String) (ic : Nat) (X : String) (ix : Nat) (rx : ByteArray) (Y : String) (r : List String) : List Cond :=
  Bundle.throwableAtoms ++ Bundle.throwableSAtoms ++ (Bundle.passSAtoms X Y ix rx ++ Bundle.chainSAtoms Y r) ++
  [.methodLink own ic (Bundle.initS X), .instantiable X 6, .castable X X, .selects X Bundle.tFill0 Bundle.tFill0, .selects X Bundle.tFill Bundle.tFill,
   .lays X Bundle.tN "cause" "Ljava/lang/Throwable;", .lays X Bundle.tN "stackTrace" Bundle.steD, .lays X Bundle.tN "suppressedExceptions" Bundle.listD, .lays X Bundle.tN "detailMessage" "Ljava/lang/String;",
   .isRef (.static Bundle.tN "UNASSIGNED_STACK" Bundle.steD), .isRef (.static Bundle.tN "SUPPRESSED_SENTINEL" Bundle.listD),
   .fieldLink Bundle.tN 198 Bundle.tN "backtrace" "Ljava/lang/Object;", .lays Bundle.tN Bundle.tN "backtrace" "Ljava/lang/Object;", .lays X Bundle.tN "backtrace" "Ljava/lang/Object;"]
section NSA
variable {p : Program} {l : Launch} {e : Env} {R : Room} {s : State} {m₀ : MethodId} {args : Array Value} {below : List Frame} {meth : Method} {c : Code} {W : State} {locs : List Loc} {cells slots : Nat}
set_option maxHeartbeats 4000000 in
/-- a constructor with a text, whose first link bears any index; follows a proof of the library (BundleOwnThrow) -/
theorem ctorY (X : Stand p l e R s m₀ args below meth c W locs cells slots) (hexec : p.tables.exec = Jvm.exec) (htr : e.platform.stackTraces = false) {own cls Yc : String} {names : List String} {ic ix : Nat} {rx : ByteArray} (x0 : decode rx 0 = .ok (.aload_n 0, 1)) (x1 : decode rx 1 = .ok (.aload_n 1, 1)) (x2 : decode rx 2 = .ok (.invokespecial ix, 3)) (x5 : decode rx 5 = .ok (.return_, 1))
    (hown : s.vm.findClass own = some m₀.cls) (hcls : Bundle.fit cls = true) (hY : Bundle.fit Yc = true) (hnames : ∀ n ∈ names, Bundle.fit n = true)
    (h : ∀ a ∈ oY own ic cls ix rx Yc names, a.before args s = true)
    (hlocs : ∀ x ∈ locs, ∀ cell, s.heap[x.base]? = some cell → cell.vm.isStatics = false)
    {a : Addr} {cX : ClassId} {kX : Class} (hfoundX : s.vm.findClass cls = some cX) (hkX : s.vm.classes[cX]? = some kX) (hcell : W.heap[a]? = some (freshCell cX kX)) (hnew : s.heap.size ≤ a)
    {msg : Value} (hmsg : msg.isRef = true)
    {g : JFrame} (hg : g.method = m₀) (hsize : g.locals.size = c.maxLocals) (hlocked : g.locked = none) (hentered : g.entered = []) {rest : List Value} (hstack : g.stack = msg :: .ref a :: .ref a :: rest)
    (hd6 : decode c.code g.pc = .ok (.invokespecial ic, 3)) (hd9 : decode c.code (g.pc + 3) = .ok (.athrow, 1)) (hout : ∀ x ∈ c.exceptionTable.toList, covers x (g.pc + 3) = false)
    (hRframes : names.length + 4 < R.frames) (hRlocals : 2 * g.monitorRoom + ((Value.ref a :: rest).map fun v => v.category).sum + (13 * (names.length + 2) + 42) ≤ R.locals) (hlocks : meth.locks = false := by first | assumption | exact BodyLoose.notSynchronized (by assumption) | exact Body.notSynchronized (by assumption)) :
    ∃ U : State, Steps p.tables e below (W.setTop g) U ∧ U.status = .running ∧ Ended U below (.threw a) ∧ s.WarmedH U.vm ∧ s.sameButNew ({ U with vm := s.vm } : State) locs cells slots ∧
      ∃ ce, U.heap[a]? = some ce ∧ s.vm.findClass cls = some ce.cls ∧ ce.vm = .none := by
  have howns : e.platform.frameOwnsMonitors = true := by rw [X.admits.platform]
  have hfin : e.platform.finalization = false := by rw [X.admits.platform]
  have hpl : e.platform.magicAccessors = ({} : Platform).magicAccessors := by rw [X.admits.platform]
  have a' : ∀ x, x ∈ oY own ic cls ix rx Yc names → x.holds args s none s [] = true := fun x hx => h x hx
  obtain ⟨T, Z0, L, -, Y⟩ := ThrowableC.of_atoms (args := args) howns hfin hpl (fun x hx => h x (by simp [oY, hx]))
  obtain ⟨Z, M, LZ, LM, hnZ⟩ := Init0T.ofS_atoms (args := args) hpl L Y (fun x hx => h x (by simp [oY, hx]))
  obtain ⟨P1, L1, hP1m, hs1⟩ := PassC.ofS_atoms (args := args) (s := s) hpl (X := cls) (Y := Yc) (Bundle.fit_spec hcls).1 (Bundle.fit_spec hY).2 x0 x1 x2 x5 (fun x hx => h x (by simp only [oY, List.mem_append]; exact Or.inl (Or.inr (Or.inl hx))))
  obtain ⟨P2, Qs, hlen, L2, hL2, hm2, hsup2, hpass2⟩ := Bundle.chainS (args := args) hpl hnZ names Yc hY hnames (fun x hx => h x (by simp only [oY, List.mem_append]; exact Or.inl (Or.inr (Or.inr hx))))
  have hlink1 := Option.some.inj (hs1.symm.trans hm2)
  have hLall : ∀ P, P ∈ P1 :: P2 :: Qs → P.LinksS e.platform s := by
    intro P hP
    rcases List.mem_cons.mp hP with rfl | hP
    · exact L1
    · rcases List.mem_cons.mp hP with rfl | hP
      · exact L2
      · exact hL2 P hP
  have hfound : s.vm.findClass cls = some P1.m.cls := findClass_of_methodNamed hP1m
  cases Option.some.inj (hfoundX.symm.trans hfound)
  obtain ⟨c1, kX', hc1, hk, hord, -, -, hn6⟩ := Cond.instantiable_spec (a' (.instantiable cls 6) (by simp [oY]))
  cases Option.some.inj (hc1.symm.trans hfound)
  cases Option.some.inj (hkX.symm.trans hk)
  have hsel0 : selectMethod e.platform s.vm P1.m.cls T.fill0 = .method T.fill0 := by
    obtain ⟨c2, r2, m2, q1, q2, q3, q4, -⟩ := Cond.selects_spec (a' (.selects cls Bundle.tFill0 Bundle.tFill0) (by simp [oY]))
    cases Option.some.inj (q1.symm.trans hfound)
    cases Option.some.inj (q2.symm.trans (State.methodFound?_of_named Y.fill0 (by decide)))
    cases Option.some.inj (q3.symm.trans Y.fill0)
    rw [Launch.admits_selectMethod X.admits]; exact q4
  have hselF : selectMethod e.platform s.vm P1.m.cls T.fill = .method T.fill := by
    obtain ⟨c2, r2, m2, q1, q2, q3, q4, -⟩ := Cond.selects_spec (a' (.selects cls Bundle.tFill Bundle.tFill) (by simp [oY]))
    cases Option.some.inj (q1.symm.trans hfound)
    cases Option.some.inj (q2.symm.trans (State.methodFound?_of_named Y.fill (by decide)))
    cases Option.some.inj (q3.symm.trans Y.fill)
    rw [Launch.admits_selectMethod X.admits]; exact q4
  obtain ⟨cellS0, hcS0, hiss⟩ := Y.statics
  obtain ⟨u0, hu0⟩ := Cond.staticRefV Y.unassigned L.unassignedStatic L.statics hcS0 hiss (a' (.isRef (.static Bundle.tN "UNASSIGNED_STACK" Bundle.steD)) (by simp [oY]))
  obtain ⟨sen, hsen⟩ := Cond.staticRefV Y.sentinel L.sentinelStatic L.statics hcS0 hiss (a' (.isRef (.static Bundle.tN "SUPPRESSED_SENTINEL" Bundle.listD)) (by simp [oY]))
  obtain ⟨ci198, i198, fB, hk198, hg198, ha198, hsB, -, hnB, htB, hffB⟩ := Cond.ownField (t := .object "java/lang/Object") Y.found L.cls (by decide +kernel) (a' (.fieldLink Bundle.tN 198 Bundle.tN "backtrace" "Ljava/lang/Object;") (by simp [oY])) (a' (.lays Bundle.tN Bundle.tN "backtrace" "Ljava/lang/Object;") (by simp [oY])) e.platform hpl
  obtain ⟨cellS, hcS', heS, -, hkeep⟩ := X.same.2.2.2.2.2 T.aS cellS0 hcS0
  have hcellS : W.heap[T.aS]? = some cellS := hcS'
  have hout' : ∀ i, (⟨T.aS, i⟩ : Loc) ∉ locs := fun i hmem => by
    have := hlocs _ hmem cellS0 hcS0
    rw [hiss] at this; cases this
  have hknownS : cellS.vm ≠ .unknown := by
    rw [heS]; intro hu
    rw [show cellS0.vm = .unknown from hu] at hiss
    cases hiss
  have hneS : T.aS ≠ a := Nat.ne_of_lt (Nat.lt_of_lt_of_le (Array.getElem?_eq_some_iff.mp hcS0).1 hnew)
  obtain ⟨iM, hffM⟩ := Y.msg
  obtain ⟨tyC, dC, hdC, hdnC⟩ := Cond.laysAt hfound hk Y.cause (a' (.lays cls Bundle.tN "cause" "Ljava/lang/Throwable;") (by simp [oY]))
  obtain ⟨tyS, dS, hdS, hdnS⟩ := Cond.laysAt hfound hk Y.stack (a' (.lays cls Bundle.tN "stackTrace" Bundle.steD) (by simp [oY]))
  obtain ⟨tyP, dP, hdP, hdnP⟩ := Cond.laysAt hfound hk Y.supp (a' (.lays cls Bundle.tN "suppressedExceptions" Bundle.listD) (by simp [oY]))
  obtain ⟨tyM, dM, hdM, hdnM⟩ := Cond.laysAt hfound hk hffM (a' (.lays cls Bundle.tN "detailMessage" "Ljava/lang/String;") (by simp [oY]))
  obtain ⟨tyB, dB, hdB, hdnB⟩ := Cond.laysAt hfound hk hffB (a' (.lays cls Bundle.tN "backtrace" "Ljava/lang/Object;") (by simp [oY]))
  have bC := Cond.laysApart hdB hdC hdnB hdnC (by rw [hnB, Y.causeName]; decide)
  have bS := Cond.laysApart hdB hdS hdnB hdnS (by rw [hnB, Y.stackName]; decide)
  have bP := Cond.laysApart hdB hdP hdnB hdnP (by rw [hnB, Y.suppName]; decide)
  have hskip : SkipFacts T e.platform s (fun u => u) u0 ((preparedCellV T.toThrowableT (freshCell P1.m.cls kX) a u0 sen).withEntry W.cur) :=
    ⟨{ ci198 := ci198, i198 := i198, fBack := fB }, ⟨hk198, hg198, ha198, hsB⟩, by
      have := fresh_default (c := P1.m.cls) tyB
      rw [htB] at this
      simpa [preparedCellV, Cell.setSlot, Cell.withEntry, Array.getElem?_setIfInBounds, bC, bS, bP, bC.symm, bS.symm, bP.symm, defaultValue] using this, fun _ _ => rfl⟩
  obtain ⟨tm, methC, cdC, kC, vm₁, hnC, -, -, -, -, -, -, -, hW₁, st1⟩ := Steps.initColdS (tb := p.tables) (e := e) (below := below) (s := s) (U := W) X.here hexec X.warmed hpl hown (t := Bundle.initS cls) rfl rfl (Bundle.fit_spec hcls).2
    (a' (.methodLink own ic (Bundle.initS cls)) (by simp [oY])) (h (.instanceMethod (Bundle.initS cls)) (by simp [oY, Bundle.passSAtoms])) (bytes := rx) (maxL := 2) (h (.code (Bundle.initS cls) rx 2 none) (by simp [oY, Bundle.passSAtoms]))
    (f := g) hg (a := a) (msg := msg) (rest := .ref a :: rest) hstack hd6
  cases Option.some.inj (hnC.symm.trans hP1m)
  have X₁ := X.noted hW₁
  obtain ⟨vm₂, X₂, st2⟩ := X₁.ctorMessageOffV hexec (g := { g with stack := .ref a :: rest }) hg hsize T L Z LZ M LM (P1 :: P2 :: Qs)
    hLall ⟨hlink1, hsup2, hpass2⟩ (u0 := u0) (sen := sen) (self := a) hmsg (cell := freshCell P1.m.cls kX) (cellS := cellS)
    hcell (fun _ => by simp) (by simp) rfl rfl hsel0 hselF hcellS hneS hknownS (by rw [hkeep _ (hout' _)]; exact hu0) (by rw [hkeep _ (hout' _)]; exact hsen)
    (Takes.of_laid hk hord tyC (by rw [Y.causeType]; rfl)) (Takes.of_laid hk hord tyS (by rw [Y.stackType]; exact fits_refV_array _ u0)) (Takes.of_laid hk hord tyP (by rw [Y.suppType]; exact fits_refV_object _ sen))
    (Takes.of_laid hk hord tyM (by rw [Y.msgType]; exact fits_refV_object _ ⟨msg, hmsg⟩)) Y.objLocals hskip htr [] hd6
    (by simp only [List.length_cons, hlen]; omega) (by simp only [List.length_cons, hlen]; exact hRlocals)
  obtain ⟨hwalk, hrun, hended, hWU, hsame⟩ := X₂.athrowLeaves hexec (g := { g with stack := .ref a :: rest, pc := g.pc + 3 }) hg hlocked hentered hout (a := a) (rest := rest) rfl hd9
  obtain ⟨c3, c4, hc3, hc4, hasg⟩ := Cond.castable_spec (a' (.castable cls cls) (by simp [oY]))
  cases Option.some.inj (hc3.symm.trans hfound)
  cases Option.some.inj (hc4.symm.trans hfound)
  have hlt : a < ((W.setVm vm₁).setVm vm₂).heap.size := (Array.getElem?_eq_some_iff.mp hcell).1
  have hU := heapAt_setCell_self (s := (W.setVm vm₁).setVm vm₂) (plainBareV T.toThrowableT (freshCell P1.m.cls kX) a u0 sen msg) hlt
  refine ⟨_, st1 _ (fun acts => ?_), hrun, hended, hWU, hsame.weaken (fun y hy hlt' => ?_) (Nat.le_refl _) (Nat.le_refl _), _, hU, ?_⟩
  · rw [doInvoke_state]
    exact st2 _ hwalk
  · rcases List.mem_append.mp hy with h1 | h1
    · exact h1
    · exfalso
      have hb : y.base = a := by
        simp only [List.mem_cons, List.not_mem_nil, or_false] at h1
        rcases h1 with rfl | rfl | rfl | rfl | rfl <;> rfl
      rw [hb] at hlt'
      exact Nat.not_lt.mpr hnew hlt'
  · exact ⟨hfound, rfl⟩end NSA
section NSB
variable {p : Program} {l : Launch} {e : Env} {R : Room} {s : State} {m : MethodId} {args : Array Value} {below : List Frame} {meth : Method} {c : Code} {H : Heap} {locs : List Loc} {cells slots : Nat} {Q : State → Prop}
variable {mc ms : Nat} {free : Addr → Prop} {A0 A1 : Nat → Prop} {H0 : Heap} {a : Array Value} {ls : Array Slot} {st0 rest : List Value}
variable {Qc : Array Value → State → Outcome → State → Prop} {XC : String → State → State → Prop}
set_option maxHeartbeats 4000000 in
theorem vx_throwY {cc : ByteArray} {pc : Nat} (hexec : p.tables.exec = Jvm.exec) (hb : c.code = cc) (hl : l.stackTraces = false) {own cls text Yc : String} {names : List String} {ik is ic ix mc ms sa : Nat} {rx : ByteArray} (x0 : decode rx 0 = .ok (.aload_n 0, 1)) (x1 : decode rx 1 = .ok (.aload_n 1, 1)) (x2 : decode rx 2 = .ok (.invokespecial ix, 3)) (x5 : decode rx 5 = .ok (.return_, 1)) {A : Nat → Prop}
    (hown : s.vm.findClass own = some m.cls) (hcls : Bundle.fit cls = true) (hY : Bundle.fit Yc = true) (hnames : ∀ n ∈ names, Bundle.fit n = true)
    (hk : (Cond.classLink own ik cls).before args s = true) (hini : (Cond.initialized cls).before args s = true) (hstr : vk_R own is text sa s) (hat : ∀ w ∈ (oY own ic cls ix rx Yc names).filter vx_no, w.before args s = true)
    (hgood : ∀ w ∈ Cond.classLink own ik cls :: Cond.initialized cls :: (oY own ic cls ix rx Yc names).filter vx_no, vx_ot w = true)
    (hU : vx_Zq Bundle.tN "UNASSIGNED_STACK" Bundle.steD A s s.heap) (hN : vx_Zq Bundle.tN "SUPPRESSED_SENTINEL" Bundle.listD A s s.heap) (hS : va_S A s.heap H locs) (hsize : ls.size = c.maxLocals)
    (d0 : decode cc pc = .ok (.new ik, 3)) (d3 : decode cc (pc + 3) = .ok (.dup, 1)) (d4 : decode cc (pc + 4) = .ok (.ldc is, 2)) (d6 : decode cc (pc + 6) = .ok (.invokespecial ic, 3)) (d9 : decode cc (pc + 9) = .ok (.athrow, 1))
    (hout : ∀ x ∈ c.exceptionTable.toList, covers x (pc + 9) = false)
    (hRframes : names.length + 4 < R.frames) (hRlocals : (rest.map fun v => v.category).sum + (13 * (names.length + 2) + 43) ≤ R.locals) (hRcells : cells + 1 ≤ R.cells) (hRslots : slots + 6 ≤ R.slots) (hlocks : meth.locks = false)
    (hx : ∀ t : State, s.vm.Alike t.vm → H.size ≤ t.heap.size → (∀ q : Nat, q < H.size → t.heap[q]? = H[q]?) → XC cls s t)
    (hf : ∀ z ∈ locs, free z.base) (hc : cells + 1 ≤ mc) (hs : slots + 6 ≤ ms) :
    W p l e R s m args below meth c H locs cells slots (vx_MQ below Qc XC args s mc ms free) (F0 m pc ls rest) := by
  intro T hT X
  have htr : e.platform.stackTraces = false := (show e.platform.stackTraces = l.stackTraces by rw [X.admits.platform]).trans hl
  have Y := vx_rebase X (R' := { frames := R.frames, locals := R.locals, cells := 1, slots := 6 }) (Nat.le_refl _) (Nat.le_refl _) hRcells hRslots
  obtain ⟨s', hA⟩ : ∃ z, z = (T.setVm s.vm).setFrames (.invoking m args :: below) := ⟨_, rfl⟩
  rw [← hA] at Y
  have hvm : s'.vm = s.vm := by rw [hA]; rfl
  have hhp : s'.heap = H := by rw [hA]; exact hT
  have hW0 : s.WarmedH s'.vm := by rw [hvm]; exact State.WarmedH.refl s
  have hat' : ∀ w ∈ (oY own ic cls ix rx Yc names).filter vx_no, w.before args s' = true := fun w hw => vx_ot_at hW0 hvm.symm (hgood w (List.mem_cons_of_mem _ (List.mem_cons_of_mem _ hw))) (hat w hw)
  have hk' : (Cond.classLink own ik cls).before args s' = true := vx_ot_at hW0 hvm.symm (hgood _ List.mem_cons_self) hk
  have hini' : (Cond.initialized cls).before args s' = true := vx_ot_at hW0 hvm.symm (hgood _ (List.mem_cons_of_mem _ List.mem_cons_self)) hini
  have hU' : vx_Zq Bundle.tN "UNASSIGNED_STACK" Bundle.steD A s' s'.heap := by rw [hhp]; exact vx_Zq.moved hW0.alike (hU.kept hS.2.1)
  have hN' : vx_Zq Bundle.tN "SUPPRESSED_SENTINEL" Bundle.listD A s' s'.heap := by rw [hhp]; exact vx_Zq.moved hW0.alike (hN.kept hS.2.1)
  have h : ∀ w ∈ oY own ic cls ix rx Yc names, w.before args s' = true := vx_own hat' (vx_isRefq hU'.1) (vx_isRefq hN'.1) hU'.2.word hN'.2.word
  have hown' : s'.vm.findClass own = some m.cls := by rw [hvm]; exact hown
  have hins : (Cond.instantiable cls 6).before args s' = true := h _ (by simp [oY])
  obtain ⟨vm₁, cX, kX, hfX, hkX, -, -, X₁, st1⟩ := Y.newCold hexec (own := own) (C := cls) (index := ik) (n := 6) hown' hk' hins hini'
    (g := F0 m pc ls rest) rfl (by rw [hb]; exact d0) (Nat.le_refl _) (Nat.le_refl _)
  generalize hT1 : (T.setVm vm₁).pushCell { cls := cX, slots := kX.instanceTypes.map defaultValue, vm := .none } = T1 at X₁ st1
  have hcat : (Value.ref T.heap.size).category = 1 := rfl
  have hcellA : T1.heap[T.heap.size]? = some (freshCell cX kX) := by rw [← hT1]; exact State.heap_pushCell_size _ _
  have d3' : decode c.code (pc + 3) = .ok (.dup, 1) := by rw [hb]; exact d3
  have d4' : decode c.code (pc + 4) = .ok (.ldc is, 2) := by rw [hb]; exact d4
  have hstr' : vk_R own is text sa s' := vk_R.warm hW0 hstr
  obtain ⟨U, hsteps, hrun, hend, hW, hsame, ce, hce, hO, hOv⟩ := ctorY X₁ hexec htr (own := own) (cls := cls) (Yc := Yc) (names := names) (ic := ic) (ix := ix) x0 x1 x2 x5 hown' hcls hY hnames h (fun x hx => nomatch hx) hfX hkX hcellA (by rw [hhp, hT]; exact Nat.le_refl _) (msg := .ref sa) rfl
    (g := { method := m, pc := pc + 6, locals := ls, stack := .ref sa :: .ref T.heap.size :: .ref T.heap.size :: rest, locked := none }) rfl hsize rfl rfl (rest := rest) rfl
    (by rw [hb]; exact d6) (by rw [hb]; exact d9) hout hRframes (by simp only [List.map_cons, List.sum_cons, hcat]; omega) hlocks
  obtain ⟨f1, f2⟩ := vx_frame hsame
  rw [hhp] at f1 f2
  have hWs : s.WarmedH U.vm := State.WarmedH.trans hW0 hW
  have hcl : s.vm.findClass cls = some ce.cls := by
    have h9 := hO
    rw [hvm] at h9
    exact h9
  have hall : s.sameButNew ({ U with vm := s.vm } : State) locs mc ms := by
    subst hA
    obtain ⟨e1, e2⟩ := hsame
    rw [State.setFrames_setFrames] at e1
    have h2 : (T.setVm s.vm).sameButNew ({ U with vm := s.vm } : State) [] (0 + 1) (0 + 6) := ⟨e1, e2⟩
    have h3 := X.same.trans h2
    rw [List.append_nil] at h3
    exact h3.mono hc hs
  refine ⟨U, ?_, .threw T.heap.size, hrun, hend, Or.inr ⟨T.heap.size, rfl, cls, ce, locs, hx U hWs.alike f1 (fun q hq => f2 q hq (fun z hz => nomatch hz)), hce, hOv, hcl, hWs, hall, hf⟩⟩
  refine st1 _ ?_
  show Steps p.tables e below (T1.setTop { method := m, pc := pc + 3, locals := ls, stack := .ref T.heap.size :: rest, locked := none }) _
  jvm_step X₁.here [X₁.here.top, hexec, d3', Value.category]
  exact X₁.ldcString hexec (own := own) (text := text) (index := is) (a := sa) hown' hstr'.1 hstr'.2
    (g := { method := m, pc := pc + 4, locals := ls, stack := .ref T.heap.size :: .ref T.heap.size :: rest, locked := none }) rfl d4' _ hsteps
end NSB
end
section
/-! Methods that throw: the contract MT, its making, its calls. -/
def zN (E : En) (sz : Nat) (U : State) : Prop := vx_Zq Bundle.tN "UNASSIGNED_STACK" Bundle.steD (aN E sz) U U.heap ∧ vx_Zq Bundle.tN "SUPPRESSED_SENTINEL" Bundle.listD (aN E sz) U U.heap ∧ (∀ x ∈ strL, ∃ sa : Nat, vk_R RX1 x.1 x.2 sa U) ∧ (∀ X ∈ xL, va_Nw (.castable X X) U) ∧ ∀ x ∈ dL, va_Nw (.declares x) U
/-- what a throw of class X from RX1 asks of the words: by new ik, invokespecial ic, through the classes names -/
def xC (X : String) (ik ic : Nat) (names : List String) : Prop := X ∈ xL ∧ Bundle.fit X = true ∧ (∀ nm ∈ names, Bundle.fit nm = true) ∧ ∀ w ∈ Cond.classLink RX1 ik X :: Cond.initialized X :: vx_atS RX1 ic X names, (w ∈ wC ∨ w = .castable X X ∨ ∃ x ∈ dL, w = .declares x) ∧ vx_ot w = true
/-- a throw of class X from RX1, by new ik, invokespecial ic -/
def xT (X : String) (ik ic : Nat) : Prop := ∀ {p : Program} {l : Launch} {e : Env} {R : Room} {s : State} {m : MethodId} {args : Array Value} {below : List Frame} {meth : Method} {c : Code} {H : Heap} {locs : List Loc} {cells slots : Nat} {Qc : Array Value → State → Outcome → State → Prop} {XC : String → State → State → Prop} {mc ms : Nat} {free : Addr → Prop} {E : En} {cc : ByteArray} {pc : Nat} {ls : Array Slot} {rest : List Value} {x : Nat × String},
  p.tables.exec = Jvm.exec → c.code = cc → l.stackTraces = false → s.vm.findClass RX1 = some m.cls → (∀ w ∈ wC, w.before args s = true) → zN E s.heap.size s → va_S (aN E s.heap.size) s.heap H locs → ls.size = c.maxLocals → x ∈ strL →
  decode cc pc = .ok (.new ik, 3) → decode cc (pc + 3) = .ok (.dup, 1) → decode cc (pc + 4) = .ok (.ldc x.1, 2) → decode cc (pc + 6) = .ok (.invokespecial ic, 3) → decode cc (pc + 9) = .ok (.athrow, 1) →
  (∀ x ∈ c.exceptionTable.toList, False) → 5 < R.frames → (rest.map fun v => v.category).sum + 82 ≤ R.locals → cells + 1 ≤ R.cells → slots + 6 ≤ R.slots → meth.locks = false →
  (∀ t : State, s.vm.Alike t.vm → H.size ≤ t.heap.size → (∀ q : Nat, q < H.size → t.heap[q]? = H[q]?) → XC X s t) → (∀ z ∈ locs, free z.base) → cells + 1 ≤ mc → slots + 6 ≤ ms →
  W p l e R s m args below meth c H locs cells slots (vx_MQ below Qc XC args s mc ms free) (F0 m pc ls rest)
theorem xC.T {X : String} {ik ic : Nat} {names : List String} (hx : xC X ik ic names) (hn : names.length = 2) : xT X ik ic := by
  intro p l e R s m args below meth c H locs cells slots Qc XC mc ms free E cc pc ls rest x hexec hb hst hown hts hz hS hsize hs d0 d3 d4 d6 d9 hEx hfr hlo hc1 hs1 hlocks hxc hf hmc hms
  obtain ⟨sa, hsa⟩ := hz.2.2.1 x hs
  have hin : ∀ w ∈ Cond.classLink RX1 ik X :: Cond.initialized X :: vx_atS RX1 ic X names, w.before args s = true := fun w h => (hx.2.2.2 w h).1.elim (fun h1 => hts w h1) (fun h1 => h1.elim (fun h1 => by rw [h1]; exact va_Nw.use rfl (hz.2.2.2.1 X hx.1)) (fun h1 => by obtain ⟨x, hx1, hx2⟩ := h1; rw [hx2]; exact va_Nw.use rfl (hz.2.2.2.2 x hx1)))
  exact vx_throwS (A := aN E s.heap.size) hexec hb hst hown hx.2.1 hx.2.2.1 (hin _ List.mem_cons_self) (hin _ (List.mem_cons_of_mem _ List.mem_cons_self)) hsa (fun w h => hin w (List.mem_cons_of_mem _ (List.mem_cons_of_mem _ h))) (fun w h => (hx.2.2.2 w h).2) hz.1 hz.2.1 hS hsize d0 d3 d4 d6 d9 (fun x h => (hEx x h).elim) (by rw [hn]; exact hfr) (by rw [hn]; exact hlo) hc1 hs1 hlocks hxc hf hmc hms
/-- the same through a constructor whose first link has another place -/
def xY (X : String) (ik ic ix : Nat) (rx : ByteArray) (Yc : String) (names : List String) : Prop := X ∈ xL ∧ Bundle.fit X = true ∧ Bundle.fit Yc = true ∧ (∀ nm ∈ names, Bundle.fit nm = true) ∧ (decode rx 0 = .ok (.aload_n 0, 1) ∧ decode rx 1 = .ok (.aload_n 1, 1) ∧ decode rx 2 = .ok (.invokespecial ix, 3) ∧ decode rx 5 = .ok (.return_, 1)) ∧ ∀ w ∈ Cond.classLink RX1 ik X :: Cond.initialized X :: (oY RX1 ic X ix rx Yc names).filter vx_no, (w ∈ wC ∨ w = .castable X X ∨ ∃ x ∈ dL, w = .declares x) ∧ vx_ot w = true
theorem xY.T {X Yc : String} {ik ic ix : Nat} {rx : ByteArray} {names : List String} (hx : xY X ik ic ix rx Yc names) (hn : names.length = 1) : xT X ik ic := by
  intro p l e R s m args below meth c H locs cells slots Qc XC mc ms free E cc pc ls rest x hexec hb hst hown hts hz hS hsize hs d0 d3 d4 d6 d9 hEx hfr hlo hc1 hs1 hlocks hxc hf hmc hms
  obtain ⟨sa, hsa⟩ := hz.2.2.1 x hs
  obtain ⟨y1, y2, y3, y4, ⟨z0, z1, z2, z5⟩, y6⟩ := hx
  have hin : ∀ w ∈ Cond.classLink RX1 ik X :: Cond.initialized X :: (oY RX1 ic X ix rx Yc names).filter vx_no, w.before args s = true := fun w h => (y6 w h).1.elim (fun h1 => hts w h1) (fun h1 => h1.elim (fun h1 => by rw [h1]; exact va_Nw.use rfl (hz.2.2.2.1 X y1)) (fun h1 => by obtain ⟨x, hx1, hx2⟩ := h1; rw [hx2]; exact va_Nw.use rfl (hz.2.2.2.2 x hx1)))
  exact vx_throwY (A := aN E s.heap.size) hexec hb hst z0 z1 z2 z5 hown y2 y3 y4 (hin _ List.mem_cons_self) (hin _ (List.mem_cons_of_mem _ List.mem_cons_self)) hsa (fun w h => hin w (List.mem_cons_of_mem _ (List.mem_cons_of_mem _ h))) (fun w h => (y6 w h).2) hz.1 hz.2.1 hS hsize d0 d3 d4 d6 d9 (fun x h => (hEx x h).elim) (by rw [hn]; exact hfr) (by rw [hn]; exact hlo) hc1 hs1 hlocks hxc hf hmc hms
def MT (l : Launch) (y : MethodName) (w1 : Cond) (fr lo : Nat) (E : En) (av : List Value) (M : Mt) (n k : Nat) (X : String) (M' : Mt) (n' k' : Nat) : Prop := ∀ sz : Nat, vx_Met l y (w1 :: wC) (rmx fr lo)
  (va_Pc av (fun U => U.heap.size = sz ∧ va_P E.1 vcl (wN E M n k) U.heap ∧ va_K E.1 vcl (tyN E) U ∧ zN E sz U)) (va_Qv (fun _ : Unit => False) (fun _ _ => True) (aN E sz)) (vx_X (fun _ : Unit => True) (fun Ex _ t => Ex = X ∧ va_P E.1 vcl (wN E M' n' k') t.heap) (aN E sz)) 1 6 (aN E sz)
theorem zN.kept {E : En} {s U : State} {H : Heap} {locs : List Loc} (z : zN E s.heap.size s) (hS : va_S (aN E s.heap.size) s.heap H locs) (hU : U.heap = H) (hW : s.WarmedH U.vm) : zN E H.size U := by
  have hsub := aN_le (E := E) hS.1
  refine ⟨?_, ?_, fun x hx => ?_, fun X hX => (z.2.2.2.1 X hX).warmC hW, fun x hx => (z.2.2.2.2 x hx).warmD hW⟩
  · rw [hU]
    exact ((z.1.kept hS.2.1).moved hW.alike).narrow hsub
  · rw [hU]
    exact ((z.2.1.kept hS.2.1).moved hW.alike).narrow hsub
  · obtain ⟨sa, h⟩ := z.2.2.1 x hx
    exact ⟨sa, h.warm hW⟩
theorem pX_blind {E : En} {av : List Value} {sz : Nat} {M : Mt} {n k : Nat} : FrameBlind (va_Pc av (fun U => U.heap.size = sz ∧ va_P E.1 vcl (wN E M n k) U.heap ∧ va_K E.1 vcl (tyN E) U ∧ zN E sz U)) := by
  intro a U g mk q
  obtain ⟨q0, q1, qP, qK, z1, z2, z3, z4, z5⟩ := q
  exact ⟨q0, q1, qP, va_K.moved (u := U) (U := U.calling g mk a) (Vm.Alike.refl U.vm) qK, vx_Zq.moved (u := U) (U := U.calling g mk a) (Vm.Alike.refl U.vm) z1, vx_Zq.moved (u := U) (U := U.calling g mk a) (Vm.Alike.refl U.vm) z2, fun x hx => by obtain ⟨sa, h⟩ := z3 x hx; exact ⟨sa, vk_R.same (u := U) (U := U.calling g mk a) rfl h⟩, fun X hX => va_Nw.same (u := U) (U := U.calling g mk a) rfl rfl (z4 X hX), fun x hx => va_Nw.same (u := U) (U := U.calling g mk a) rfl rfl (z5 x hx)⟩
section CT
variable {l : Launch} {y : MethodName} {fr lo : Nat} {E : En} {av : List Value} {M M' : Mt} {n k n' k' : Nat} {X : String} {cc : ByteArray} {maxL : Nat} {own : String} {ret : Option FieldType}
theorem MT.of (hst : l.stackTraces = false) (dn : dN E) (hy : plainName RX1 = true) (ho : y.cls = RX1) (hav : (lg_sl av).length ≤ maxL)
    (body : ∀ (p : Program) (e : Env) (s : State) (m : MethodId) (args : Array Value) (below : List Frame) (meth : Method) (c : Code) (ls : Array Slot) (Q : State → Prop), cX E p m c cc maxL s args (.code y cc maxL ret) RX1 → zN E s.heap.size s → wst E s.heap M n k s.heap [] → lv_has ls maxL (lv_args 0 av) →
      (∀ {H : Heap} {locs : List Loc} {pc : Nat} {ls : Array Slot} {rest : List Value} {q : Addr} {ce : Cell}, wst E s.heap M' n' k' H locs → H[q]? = some ce → ce.vm = .none → s.vm.findClass X = some ce.cls → vx_W p l e (rmx fr lo) s m args below meth c H locs 1 6 Q (F0 m pc ls rest) q) →
      (∀ {H : Heap} {locs : List Loc} {pc : Nat} {ls : Array Slot} {rest : List Value} {ik ic : Nat} {x : Nat × String}, wst E s.heap M' n' k' H locs → xT X ik ic → x ∈ strL → ls.size = maxL → (rest.map fun v => v.category).sum ≤ 8 → 5 < fr → 90 ≤ lo →
        decode cc pc = .ok (.new ik, 3) → decode cc (pc + 3) = .ok (.dup, 1) → decode cc (pc + 4) = .ok (.ldc x.1, 2) → decode cc (pc + 6) = .ok (.invokespecial ic, 3) → decode cc (pc + 9) = .ok (.athrow, 1) →
        W p l e (rmx fr lo) s m args below meth c H locs 0 0 Q (F0 m pc ls rest)) →
      W p l e (rmx fr lo) s m args below meth c s.heap [] 0 0 Q (F0 m 0 ls [])) : MT l y (.code y cc maxL ret) fr lo E av M n k X M' n' k' := by
  intro sz
  refine vx_ofW (cc := cc) (maxL := maxL) (ret := ret) (by rw [ho]; exact hy) rfl ?_
  intro p e s m args below meth c s₁ B hml hEx hv
  obtain ⟨rfl, hsz, hP, hK, hz⟩ := hv
  subst hsz
  have hts := atoms_spec (ws := .code y cc maxL ret :: wC) B.pre
  have hown : s.vm.findClass RX1 = some m.cls := ho ▸ findClass_of_methodNamed B.named
  have hlocks := B.notSynchronized
  have hl := lv_entry av (n := maxL) hav
  rw [lg_entry_eq]
  generalize (lg_sl av ++ List.replicate (maxL - (lg_sl av).length) Slot.unset).toArray = ls at hl ⊢
  refine body p e s m _ below meth c ls _ ⟨⟨B.exec, B.bytes, hml, hown, hts⟩, hK, dn⟩ hz ⟨hP, va_S.rf⟩ hl (fun w hq hv hc => ?_) (fun {H locs pc ls rest ik ic x} w hx hs hsize hrest hfr hlo d0 d3 d4 d6 d9 => ?_)
  · exact vx_out (fun x h => (hEx x h).elim) hlocks hq hv hc (fun t ht hA => ⟨(), trivial, ⟨rfl, by rw [ht]; exact w.1⟩, w.2.F ht⟩) w.2.2.2 (Nat.le_refl _) (Nat.le_refl _)
  · refine hx B.exec B.bytes hst hown (fun w h => hts w (List.mem_cons_of_mem _ h)) hz w.2 (hsize.trans hml.symm) hs d0 d3 d4 d6 d9 hEx hfr ?_ (Nat.le_refl _) (Nat.le_refl _) hlocks ?_ w.2.2.2 (Nat.le_refl _) (Nat.le_refl _)
    · show (rest.map fun v => v.category).sum + 82 ≤ lo
      omega
    · intro t hA hsz hk
      refine ⟨(), trivial, ⟨rfl, fun i q hq => ?_⟩, Nat.le_trans w.2.1 hsz, fun q h1 h2 => ?_⟩
      · have h1 := w.1 i q hq
        exact h1.kept (hk q.1 h1.lt)
      · rw [hk q (Nat.lt_of_lt_of_le h1 w.2.1)]
        exact w.2.2.1 q h1 h2
end CT
section CCT
variable {p : Program} {l : Launch} {e : Env} {R : Room} {s : State} {m : MethodId} {args : Array Value} {below : List Frame} {meth : Method} {c : Code} {H : Heap} {locs : List Loc} {Q : State → Prop} {pc nL : Nat} {ls : Array Slot} {rest st : List Value} {cc : ByteArray} {w0 w1 : Cond} {own C : String} {E : En} {M M' : Mt} {n k n' k' : Nat}
variable {y : MethodName} {bytes : ByteArray} {maxL fr lo idx nA b : Nat} {As : List Value} {ret : Option FieldType} {X : String}
theorem callt (K : cX E p m c cc nL s args w0 own) (z : zN E s.heap.size s) (w : wst E s.heap M n k H locs) (hM : MT l y w1 fr lo E (.ref b :: As) M n k X M' n' k') (cw : CallW R s args own C idx y bytes maxL ret (w1 :: wC) (rmx fr lo) 1 6 nA)
    (hr : ∃ cell : Cell, H[b]? = some cell ∧ cell.vm.isStatics = false ∧ s.vm.findClass C = some cell.cls) (hn : As.length = nA) (hsz : ls.size = nL) (hst : st = As.reverse ++ .ref b :: rest) (hW : (rest.map fun v => v.category).sum ≤ 8) (hd : decode cc pc = .ok (.invokevirtual idx, 3)) (hf : 1 ≤ R.cells ∧ 6 ≤ R.slots)
    (out : ∀ {H : Heap} {locs : List Loc} {pc : Nat} {ls : Array Slot} {rest : List Value} {q : Addr} {ce : Cell}, wst E s.heap M' n' k' H locs → H[q]? = some ce → ce.vm = .none → s.vm.findClass X = some ce.cls → vx_W p l e R s m args below meth c H locs 1 6 Q (F0 m pc ls rest) q) : W p l e R s m args below meth c H locs 0 0 Q (F0 m pc ls st) := by
  have hsub := aN_le (E := E) w.2.1
  refine vx_callv (A0 := aN E s.heap.size) (A1 := aN E H.size) (AX := aN E H.size) (vx_runV (As := As) (rest := rest) K.1 (hM H.size) cw ⟨pX_blind, hr, fun U hU hW => ⟨rfl, by rw [hU], by rw [hU]; exact w.1, va_K.moved hW.alike K.2.1, z.kept w.2 hU hW⟩⟩ rfl hn hsz hst (lv_room hW) hd ⟨hf.1, hf.2⟩) w.2 (fun q _ h => hsub q h) hsub (fun q _ h => hsub q h) (fun Ex ce q9 u t H1 locs1 ht hvm hp hB hz hk hS h1 h2 h3 => ?_) (fun u t H1 locs1 ht hvm hp hB hz hk hS => hp.elim)
  obtain ⟨rfl, hP⟩ := hB
  exact out ⟨by rw [← ht]; exact hP, hS⟩ h1 h2 h3
theorem callst (K : cX E p m c cc nL s args w0 own) (z : zN E s.heap.size s) (w : wst E s.heap M n k H locs) (hM : MT l y w1 fr lo E As M n k X M' n' k') (cw : CallB R s args own idx y bytes maxL ret (w1 :: wC) (rmx fr lo) 1 6 nA ∧ (Cond.static y).before args s = true)
    (hn : As.length = nA) (hsz : ls.size = nL) (hst : st = As.reverse ++ rest) (hW : (rest.map fun v => v.category).sum ≤ 8) (hd : decode cc pc = .ok (.invokestatic idx, 3)) (hf : 1 ≤ R.cells ∧ 6 ≤ R.slots)
    (out : ∀ {H : Heap} {locs : List Loc} {pc : Nat} {ls : Array Slot} {rest : List Value} {q : Addr} {ce : Cell}, wst E s.heap M' n' k' H locs → H[q]? = some ce → ce.vm = .none → s.vm.findClass X = some ce.cls → vx_W p l e R s m args below meth c H locs 1 6 Q (F0 m pc ls rest) q) : W p l e R s m args below meth c H locs 0 0 Q (F0 m pc ls st) := by
  have hsub := aN_le (E := E) w.2.1
  refine vx_callv (A0 := aN E s.heap.size) (A1 := aN E H.size) (AX := aN E H.size) (vx_runS (As := As) (rest := rest) K.1 (hM H.size) cw ⟨pX_blind, fun U hU hW => ⟨rfl, by rw [hU], by rw [hU]; exact w.1, va_K.moved hW.alike K.2.1, z.kept w.2 hU hW⟩⟩ rfl hn hsz hst (lv_room hW) hd ⟨hf.1, hf.2⟩) w.2 (fun q _ h => hsub q h) hsub (fun q _ h => hsub q h) (fun Ex ce q9 u t H1 locs1 ht hvm hp hB hz hk hS h1 h2 h3 => ?_) (fun u t H1 locs1 ht hvm hp hB hz hk hS => hp.elim)
  obtain ⟨rfl, hP⟩ := hB
  exact out ⟨by rw [← ht]; exact hP, hS⟩ h1 h2 h3
end CCT
theorem xIAE : xT "java/lang/IllegalArgumentException" 67 71 := by
  refine xC.T (names := ["java/lang/RuntimeException", "java/lang/Exception"]) ⟨by decide, by decide +kernel, by decide +kernel, fun w h => ?_⟩ rfl
  have h1 := List.all_eq_true.mp (by decide +kernel : (Cond.classLink RX1 67 "java/lang/IllegalArgumentException" :: Cond.initialized "java/lang/IllegalArgumentException" :: vx_atS RX1 71 "java/lang/IllegalArgumentException" ["java/lang/RuntimeException", "java/lang/Exception"]).all (fun w => (decide (w ∈ wC) || (decide (w = .castable "java/lang/IllegalArgumentException" "java/lang/IllegalArgumentException") || dL.any (fun x => decide (w = .declares x)))) && vx_ot w) = true) w h
  simp only [Bool.and_eq_true, Bool.or_eq_true, decide_eq_true_eq, List.any_eq_true] at h1
  exact h1
theorem xISE : xT "java/lang/IllegalStateException" 53 57 := by
  refine xC.T (names := ["java/lang/RuntimeException", "java/lang/Exception"]) ⟨by decide, by decide +kernel, by decide +kernel, fun w h => ?_⟩ rfl
  have h1 := List.all_eq_true.mp (by decide +kernel : (Cond.classLink RX1 53 "java/lang/IllegalStateException" :: Cond.initialized "java/lang/IllegalStateException" :: vx_atS RX1 57 "java/lang/IllegalStateException" ["java/lang/RuntimeException", "java/lang/Exception"]).all (fun w => (decide (w ∈ wC) || (decide (w = .castable "java/lang/IllegalStateException" "java/lang/IllegalStateException") || dL.any (fun x => decide (w = .declares x)))) && vx_ot w) = true) w h
  simp only [Bool.and_eq_true, Bool.or_eq_true, decide_eq_true_eq, List.any_eq_true] at h1
  exact h1
theorem xNSE : xT "java/util/NoSuchElementException" 115 119 := by
  refine xY.T (ix := 13) (rx := prog_13_method_4_code) (Yc := "java/lang/RuntimeException") (names := ["java/lang/Exception"]) ⟨by decide, by decide +kernel, by decide +kernel, by decide +kernel, ⟨by decide +kernel, by decide +kernel, by decide +kernel, by decide +kernel⟩, fun w h => ?_⟩ rfl
  have h1 := List.all_eq_true.mp (by decide +kernel : (Cond.classLink RX1 115 "java/util/NoSuchElementException" :: Cond.initialized "java/util/NoSuchElementException" :: (oY RX1 119 "java/util/NoSuchElementException" 13 prog_13_method_4_code "java/lang/RuntimeException" ["java/lang/Exception"]).filter vx_no).all (fun w => (decide (w ∈ wC) || (decide (w = .castable "java/util/NoSuchElementException" "java/util/NoSuchElementException") || dL.any (fun x => decide (w = .declares x)))) && vx_ot w) = true) w h
  simp only [Bool.and_eq_true, Bool.or_eq_true, decide_eq_true_eq, List.any_eq_true] at h1
  exact h1
end
section
theorem bI_0 {b : Bool} (h : bI b = 0) : b = false := by
  cases b with
  | false => rfl
  | true => exact absurd h (by decide)
theorem bI_n {b : Bool} (h : ¬ bI b = 0) : b = true := by
  cases b with
  | false => exact absurd rfl h
  | true => rfl
theorem bI_z (b : Bool) : bI b = 0 ∨ bI b = 1 := by
  cases b with
  | false => exact Or.inl rfl
  | true => exact Or.inr rfl
theorem lt_nle {a b : Int32} (h : ¬ b ≤ a) : a < b := by
  simp only [Int32.lt_iff_toInt_lt, Int32.le_iff_toInt_le] at h ⊢
  omega
theorem nlt_le {a b : Int32} (h : b ≤ a) : ¬ a < b := by
  simp only [Int32.lt_iff_toInt_lt, Int32.le_iff_toInt_le] at h ⊢
  omega
theorem nI_pp {q : Nat} (h0 : 0 < q) (h : q < 2147483648) : (0 : Int32) < nI q := lt_nle (nI_nle h0 h)
theorem cb_a {M : Mt} {x y : Nat} (h : ¬ M 11 x = M 11 y) (h2 : ¬ M 11 y ≤ M 11 x) : nI 1 = bI (cbF M x y) := by
  rw [cbF, if_neg h, decide_eq_true (lt_nle h2)]; rfl
theorem cb_b {M : Mt} {x y : Nat} (h : ¬ M 11 x = M 11 y) (h2 : M 11 y ≤ M 11 x) : nI 0 = bI (cbF M x y) := by
  rw [cbF, if_neg h, decide_eq_false (nlt_le h2)]; rfl
theorem cb_c {M : Mt} {x y : Nat} (h : M 11 x = M 11 y) (h1 : ¬ M 12 x = M 12 y) (h2 : ¬ M 12 y ≤ M 12 x) : nI 1 = bI (cbF M x y) := by
  rw [cbF, if_pos h, if_neg h1, decide_eq_true (lt_nle h2)]; rfl
theorem cb_d {M : Mt} {x y : Nat} (h : M 11 x = M 11 y) (h1 : ¬ M 12 x = M 12 y) (h2 : M 12 y ≤ M 12 x) : nI 0 = bI (cbF M x y) := by
  rw [cbF, if_pos h, if_neg h1, decide_eq_false (nlt_le h2)]; rfl
theorem cb_e {M : Mt} {x y : Nat} (h : M 11 x = M 11 y) (h1 : M 12 x = M 12 y) (h2 : ¬ M 13 y ≤ M 13 x) : nI 1 = bI (cbF M x y) := by
  rw [cbF, if_pos h, if_pos h1, decide_eq_true (lt_nle h2)]; rfl
theorem cb_f {M : Mt} {x y : Nat} (h : M 11 x = M 11 y) (h1 : M 12 x = M 12 y) (h2 : M 13 y ≤ M 13 x) : nI 0 = bI (cbF M x y) := by
  rw [cbF, if_pos h, if_pos h1, decide_eq_false (nlt_le h2)]; rfl

set_option maxHeartbeats 4000000 in
set_option maxRecDepth 100000 in
theorem c_X0_clear {l : Launch} {E : En} {M : Mt} {n k : Nat} (dn : dN E) : MV l yX0_clear (.code yX0_clear cX0_clear 1 none) 0 0 E [.ref (ad E 10)] M n k  (M) (n) (0) := by
  refine MV.of dn (own := RX0) (by decide) rfl (Nat.le_of_ble_eq_true rfl) (fun p e s m args below meth c ls Q K w hl ret => ?_)
  have hx := K.1.1
  have hb := K.1.2.1
  have hR : 0 ≤ (rmA 0 0).frames ∧ 0 ≤ (rmA 0 0).locals := ⟨Nat.le_refl _, Nat.le_refl _⟩
  have hf : 0 ≤ (rmA 0 0).cells ∧ 0 ≤ (rmA 0 0).slots := ⟨Nat.le_refl _, Nat.le_refl _⟩
  have hl : lv_has ls 1 [(0, .ref (ad E 10))] := hl
  refine lv_aload_n hx hb dX0_clear_0 rfl (lv_at hl 0 rfl) ?_
  refine lv_iconst (v := nI 0) hx hb dX0_clear_1 (by decide) ?_
  refine pf_X0_size K w rfl dX0_clear_2 (fun H locs w => ?_)
  exact ret w dX0_clear_5

set_option maxHeartbeats 4000000 in
set_option maxRecDepth 100000 in
theorem c_X0_size {l : Launch} {E : En} {M : Mt} {n k : Nat} (dn : dN E) : MI l yX0_size (.code yX0_size cX0_size 1 (some .int)) 0 0 E [.ref (ad E 10)] M n k (nI k)  (M) (n) (k) := by
  refine MI.of dn (own := RX0) (by decide) rfl (Nat.le_of_ble_eq_true rfl) (fun p e s m args below meth c ls Q K w hl ret => ?_)
  have hx := K.1.1
  have hb := K.1.2.1
  have hR : 0 ≤ (rmA 0 0).frames ∧ 0 ≤ (rmA 0 0).locals := ⟨Nat.le_refl _, Nat.le_refl _⟩
  have hf : 0 ≤ (rmA 0 0).cells ∧ 0 ≤ (rmA 0 0).slots := ⟨Nat.le_refl _, Nat.le_refl _⟩
  have hl : lv_has ls 1 [(0, .ref (ad E 10))] := hl
  refine lv_aload_n hx hb dX0_size_0 rfl (lv_at hl 0 rfl) ?_
  refine gf_X0_size K w dX0_size_1 ?_
  exact ret w rfl dX0_size_4

set_option maxHeartbeats 4000000 in
set_option maxRecDepth 100000 in
theorem c_X0_comesBefore {l : Launch} {E : En} {M : Mt} {n k : Nat} (dn : dN E) {x y : Nat} (h1 : x < 2000) (h2 : y < 2000) : MI l yX0_comesBefore (.code yX0_comesBefore cX0_comesBefore 3 (some .boolean)) 0 0 E [.ref (ad E 10), .int (nI x), .int (nI y)] M n k (bI (cbF M x y))  (M) (n) (k) := by
  refine MI.ofZ dn (own := RX0) (by decide) rfl (Nat.le_of_ble_eq_true rfl) (bI_z _) (fun p e s m args below meth c ls Q K w hl ret => ?_)
  have hx := K.1.1
  have hb := K.1.2.1
  have hR : 0 ≤ (rmA 0 0).frames ∧ 0 ≤ (rmA 0 0).locals := ⟨Nat.le_refl _, Nat.le_refl _⟩
  have hf : 0 ≤ (rmA 0 0).cells ∧ 0 ≤ (rmA 0 0).slots := ⟨Nat.le_refl _, Nat.le_refl _⟩
  have hl : lv_has ls 3 [(0, .ref (ad E 10)), (1, .int (nI x)), (2, .int (nI y))] := hl
  refine lv_aload_n hx hb dX0_comesBefore_0 rfl (lv_at hl 0 rfl) ?_
  refine gf_X0_ranks K w dX0_comesBefore_1 ?_
  refine lv_iload_n hx hb dX0_comesBefore_4 rfl (lv_at hl 1 rfl) ?_
  refine ldN K w row11 (by omega) dX0_comesBefore_5 ?_
  refine lv_aload_n hx hb dX0_comesBefore_6 rfl (lv_at hl 0 rfl) ?_
  refine gf_X0_ranks K w dX0_comesBefore_7 ?_
  refine lv_iload_n hx hb dX0_comesBefore_10 rfl (lv_at hl 2 rfl) ?_
  refine ldN K w row11 (by omega) dX0_comesBefore_11 ?_
  refine lv_icmp_eq (tgt := 36) hx hb dX0_comesBefore_12 rfl (fun h12 => ?_) (fun h12 => ?_)
  · refine lv_aload_n hx hb dX0_comesBefore_36 rfl (lv_at hl 0 rfl) ?_
    refine gf_X0_keys K w dX0_comesBefore_37 ?_
    refine lv_iload_n hx hb dX0_comesBefore_40 rfl (lv_at hl 1 rfl) ?_
    refine ldN K w row12 (by omega) dX0_comesBefore_41 ?_
    refine lv_aload_n hx hb dX0_comesBefore_42 rfl (lv_at hl 0 rfl) ?_
    refine gf_X0_keys K w dX0_comesBefore_43 ?_
    refine lv_iload_n hx hb dX0_comesBefore_46 rfl (lv_at hl 2 rfl) ?_
    refine ldN K w row12 (by omega) dX0_comesBefore_47 ?_
    refine lv_icmp_eq (tgt := 72) hx hb dX0_comesBefore_48 rfl (fun h48 => ?_) (fun h48 => ?_)
    · refine lv_aload_n hx hb dX0_comesBefore_72 rfl (lv_at hl 0 rfl) ?_
      refine gf_X0_numbers K w dX0_comesBefore_73 ?_
      refine lv_iload_n hx hb dX0_comesBefore_76 rfl (lv_at hl 1 rfl) ?_
      refine ldN K w row13 (by omega) dX0_comesBefore_77 ?_
      refine lv_aload_n hx hb dX0_comesBefore_78 rfl (lv_at hl 0 rfl) ?_
      refine gf_X0_numbers K w dX0_comesBefore_79 ?_
      refine lv_iload_n hx hb dX0_comesBefore_82 rfl (lv_at hl 2 rfl) ?_
      refine ldN K w row13 (by omega) dX0_comesBefore_83 ?_
      refine lv_icmp_ge (tgt := 91) hx hb dX0_comesBefore_84 rfl (fun h84 => ?_) (fun h84 => ?_)
      · refine lv_iconst (v := nI 0) hx hb dX0_comesBefore_91 (by decide) ?_
        exact ret w (by first | exact cb_e h12 h48 h84 | exact cb_f h12 h48 h84) dX0_comesBefore_92
      · refine lv_iconst (v := nI 1) hx hb dX0_comesBefore_87 (by decide) ?_
        refine lv_goto (tgt := 92) hx hb dX0_comesBefore_88 rfl ?_
        exact ret w (by first | exact cb_e h12 h48 h84 | exact cb_f h12 h48 h84) dX0_comesBefore_92
    · refine lv_aload_n hx hb dX0_comesBefore_51 rfl (lv_at hl 0 rfl) ?_
      refine gf_X0_keys K w dX0_comesBefore_52 ?_
      refine lv_iload_n hx hb dX0_comesBefore_55 rfl (lv_at hl 1 rfl) ?_
      refine ldN K w row12 (by omega) dX0_comesBefore_56 ?_
      refine lv_aload_n hx hb dX0_comesBefore_57 rfl (lv_at hl 0 rfl) ?_
      refine gf_X0_keys K w dX0_comesBefore_58 ?_
      refine lv_iload_n hx hb dX0_comesBefore_61 rfl (lv_at hl 2 rfl) ?_
      refine ldN K w row12 (by omega) dX0_comesBefore_62 ?_
      refine lv_icmp_ge (tgt := 70) hx hb dX0_comesBefore_63 rfl (fun h63 => ?_) (fun h63 => ?_)
      · refine lv_iconst (v := nI 0) hx hb dX0_comesBefore_70 (by decide) ?_
        exact ret w (by first | exact cb_c h12 h48 h63 | exact cb_d h12 h48 h63) dX0_comesBefore_71
      · refine lv_iconst (v := nI 1) hx hb dX0_comesBefore_66 (by decide) ?_
        refine lv_goto (tgt := 71) hx hb dX0_comesBefore_67 rfl ?_
        exact ret w (by first | exact cb_c h12 h48 h63 | exact cb_d h12 h48 h63) dX0_comesBefore_71
  · refine lv_aload_n hx hb dX0_comesBefore_15 rfl (lv_at hl 0 rfl) ?_
    refine gf_X0_ranks K w dX0_comesBefore_16 ?_
    refine lv_iload_n hx hb dX0_comesBefore_19 rfl (lv_at hl 1 rfl) ?_
    refine ldN K w row11 (by omega) dX0_comesBefore_20 ?_
    refine lv_aload_n hx hb dX0_comesBefore_21 rfl (lv_at hl 0 rfl) ?_
    refine gf_X0_ranks K w dX0_comesBefore_22 ?_
    refine lv_iload_n hx hb dX0_comesBefore_25 rfl (lv_at hl 2 rfl) ?_
    refine ldN K w row11 (by omega) dX0_comesBefore_26 ?_
    refine lv_icmp_ge (tgt := 34) hx hb dX0_comesBefore_27 rfl (fun h27 => ?_) (fun h27 => ?_)
    · refine lv_iconst (v := nI 0) hx hb dX0_comesBefore_34 (by decide) ?_
      exact ret w (by first | exact cb_a h12 h27 | exact cb_b h12 h27) dX0_comesBefore_35
    · refine lv_iconst (v := nI 1) hx hb dX0_comesBefore_30 (by decide) ?_
      refine lv_goto (tgt := 35) hx hb dX0_comesBefore_31 rfl ?_
      exact ret w (by first | exact cb_a h12 h27 | exact cb_b h12 h27) dX0_comesBefore_35

set_option maxHeartbeats 4000000 in
set_option maxRecDepth 100000 in
theorem c_X0_swap {l : Launch} {E : En} {M : Mt} {n k : Nat} (dn : dN E) {x y : Nat} (h1 : x < 2000) (h2 : y < 2000) : MV l yX0_swap (.code yX0_swap cX0_swap 6 none) 0 0 E [.ref (ad E 10), .int (nI x), .int (nI y)] M n k  (swF M x y) (n) (k) := by
  refine MV.of dn (own := RX0) (by decide) rfl (Nat.le_of_ble_eq_true rfl) (fun p e s m args below meth c ls Q K w hl ret => ?_)
  have hx := K.1.1
  have hb := K.1.2.1
  have hR : 0 ≤ (rmA 0 0).frames ∧ 0 ≤ (rmA 0 0).locals := ⟨Nat.le_refl _, Nat.le_refl _⟩
  have hf : 0 ≤ (rmA 0 0).cells ∧ 0 ≤ (rmA 0 0).slots := ⟨Nat.le_refl _, Nat.le_refl _⟩
  have hl : lv_has ls 6 [(0, .ref (ad E 10)), (1, .int (nI x)), (2, .int (nI y))] := hl
  refine lv_aload_n hx hb dX0_swap_0 rfl (lv_at hl 0 rfl) ?_
  refine gf_X0_ranks K w dX0_swap_1 ?_
  refine lv_iload_n hx hb dX0_swap_4 rfl (lv_at hl 1 rfl) ?_
  refine ldN K w row11 (by omega) dX0_swap_5 ?_
  refine lv_istore_n (lv' := [(3, .int _), (0, .ref _), (1, .int _), (2, .int _)]) hx hb dX0_swap_6 rfl hl (by decide) rfl (fun ls hl => ?_)
  refine lv_aload_n hx hb dX0_swap_7 rfl (lv_at hl 1 rfl) ?_
  refine gf_X0_ranks K w dX0_swap_8 ?_
  refine lv_iload_n hx hb dX0_swap_11 rfl (lv_at hl 2 rfl) ?_
  refine lv_aload_n hx hb dX0_swap_12 rfl (lv_at hl 1 rfl) ?_
  refine gf_X0_ranks K w dX0_swap_13 ?_
  refine lv_iload_n hx hb dX0_swap_16 rfl (lv_at hl 3 rfl) ?_
  refine ldN K w row11 (by omega) dX0_swap_17 ?_
  refine stN K w row11 (by omega) dX0_swap_18 (fun H locs w => ?_)
  refine lv_aload_n hx hb dX0_swap_19 rfl (lv_at hl 1 rfl) ?_
  refine gf_X0_ranks K w dX0_swap_20 ?_
  refine lv_iload_n hx hb dX0_swap_23 rfl (lv_at hl 3 rfl) ?_
  refine lv_iload_n hx hb dX0_swap_24 rfl (lv_at hl 0 rfl) ?_
  refine stN K w row11 (by omega) dX0_swap_25 (fun H locs w => ?_)
  have w : wst E s.heap (va_up M 11 (sw1 (M 11) x y)) n k H locs := by rw [bx_uu] at w; exact w
  refine lv_aload_n hx hb dX0_swap_26 rfl (lv_at hl 1 rfl) ?_
  refine gf_X0_keys K w dX0_swap_27 ?_
  refine lv_iload_n hx hb dX0_swap_30 rfl (lv_at hl 2 rfl) ?_
  refine ldN K w row12 (by omega) dX0_swap_31 ?_
  refine lv_istore (lv' := [(4, .int _), (3, .int _), (0, .ref _), (1, .int _), (2, .int _)]) hx hb dX0_swap_32 hl (by decide) rfl (fun ls hl => ?_)
  refine lv_aload_n hx hb dX0_swap_34 rfl (lv_at hl 2 rfl) ?_
  refine gf_X0_keys K w dX0_swap_35 ?_
  refine lv_iload_n hx hb dX0_swap_38 rfl (lv_at hl 3 rfl) ?_
  refine lv_aload_n hx hb dX0_swap_39 rfl (lv_at hl 2 rfl) ?_
  refine gf_X0_keys K w dX0_swap_40 ?_
  refine lv_iload_n hx hb dX0_swap_43 rfl (lv_at hl 4 rfl) ?_
  refine ldN K w row12 (by omega) dX0_swap_44 ?_
  refine stN K w row12 (by omega) dX0_swap_45 (fun H locs w => ?_)
  refine lv_aload_n hx hb dX0_swap_46 rfl (lv_at hl 2 rfl) ?_
  refine gf_X0_keys K w dX0_swap_47 ?_
  refine lv_iload_n hx hb dX0_swap_50 rfl (lv_at hl 4 rfl) ?_
  refine lv_iload hx hb dX0_swap_51 (lv_at hl 0 rfl) ?_
  refine stN K w row12 (by omega) dX0_swap_53 (fun H locs w => ?_)
  have w : wst E s.heap (va_up (va_up M 11 (sw1 (M 11) x y)) 12 (sw1 (M 12) x y)) n k H locs := by rw [bx_uu] at w; exact w
  refine lv_aload_n hx hb dX0_swap_54 rfl (lv_at hl 2 rfl) ?_
  refine gf_X0_numbers K w dX0_swap_55 ?_
  refine lv_iload_n hx hb dX0_swap_58 rfl (lv_at hl 3 rfl) ?_
  refine ldN K w row13 (by omega) dX0_swap_59 ?_
  refine lv_istore (lv' := [(5, .int _), (4, .int _), (3, .int _), (0, .ref _), (1, .int _), (2, .int _)]) hx hb dX0_swap_60 hl (by decide) rfl (fun ls hl => ?_)
  refine lv_aload_n hx hb dX0_swap_62 rfl (lv_at hl 3 rfl) ?_
  refine gf_X0_numbers K w dX0_swap_63 ?_
  refine lv_iload_n hx hb dX0_swap_66 rfl (lv_at hl 4 rfl) ?_
  refine lv_aload_n hx hb dX0_swap_67 rfl (lv_at hl 3 rfl) ?_
  refine gf_X0_numbers K w dX0_swap_68 ?_
  refine lv_iload_n hx hb dX0_swap_71 rfl (lv_at hl 5 rfl) ?_
  refine ldN K w row13 (by omega) dX0_swap_72 ?_
  refine stN K w row13 (by omega) dX0_swap_73 (fun H locs w => ?_)
  refine lv_aload_n hx hb dX0_swap_74 rfl (lv_at hl 3 rfl) ?_
  refine gf_X0_numbers K w dX0_swap_75 ?_
  refine lv_iload_n hx hb dX0_swap_78 rfl (lv_at hl 5 rfl) ?_
  refine lv_iload hx hb dX0_swap_79 (lv_at hl 0 rfl) ?_
  refine stN K w row13 (by omega) dX0_swap_81 (fun H locs w => ?_)
  exact ret (by rw [bx_uu] at w; exact w) dX0_swap_82
end
section
section QL
variable {p : Program} {l : Launch} {e : Env} {R : Room} {s : State} {m : MethodId} {args : Array Value} {below : List Frame} {meth : Method} {c : Code} {H : Heap} {locs : List Loc} {cells slots : Nat} {Q : State → Prop} {ls : Array Slot} {w0 : Cond} {E : En} {M MF : Mt} {n k : Nat}
set_option maxHeartbeats 4000000 in
set_option maxRecDepth 100000 in
theorem lp_rise (K : cX E p m c cX0_rise 3 s args w0 RX0) (hR : 1 ≤ R.frames ∧ 25 ≤ R.locals) (hf : cells ≤ R.cells ∧ slots ≤ R.slots) (ret : ∀ {H : Heap} {locs : List Loc} {pc : Nat} {ls : Array Slot}, wst E s.heap MF n k H locs → decode cX0_rise pc = .ok (.return_, 1) → W p l e R s m args below meth c H locs cells slots Q (F0 m pc ls [])) : ∀ (f q : Nat) (M : Mt) (H : Heap) (locs : List Loc) (ls : Array Slot), q ≤ f → q < 2000 → riF f M q = MF → wst E s.heap M n k H locs → lv_has ls 3 [(1, .int (nI q)), (0, .ref (ad E 10))] → W p l e R s m args below meth c H locs cells slots Q (F0 m 7 ls []) := by
  have hx := K.1.1
  have hb := K.1.2.1
  intro f
  induction f with
  | zero =>
    intro q M H locs ls hq h2 hm w hl
    obtain rfl : q = 0 := by omega
    rw [riF_0] at hm
    refine lv_iload_n hx hb dX0_rise_7 rfl (lv_at hl 0 rfl) ?_
    refine lv_if_le (tgt := 42) hx hb dX0_rise_8 rfl (fun _ => ?_) (fun h9 => absurd (by decide : nI 0 ≤ 0) h9)
    exact ret (by rw [← hm]; exact w) dX0_rise_42
  | succ f ih =>
    intro q M H locs ls hq h2 hm w hl
    rcases Nat.eq_zero_or_pos q with h0 | h0
    · subst h0
      rw [riF_0] at hm
      refine lv_iload_n hx hb dX0_rise_7 rfl (lv_at hl 0 rfl) ?_
      refine lv_if_le (tgt := 42) hx hb dX0_rise_8 rfl (fun _ => ?_) (fun h9 => absurd (by decide : nI 0 ≤ 0) h9)
      exact ret (by rw [← hm]; exact w) dX0_rise_42
    · rw [riF_s h0] at hm
      refine lv_iload_n hx hb dX0_rise_7 rfl (lv_at hl 0 rfl) ?_
      refine lv_if_le (tgt := 42) hx hb dX0_rise_8 rfl (fun h9 => absurd h9 (nI_nle h0 (by omega))) (fun _ => ?_)
      refine lv_iload_n hx hb dX0_rise_11 rfl (lv_at hl 0 rfl) ?_
      refine lv_iconst (v := nI 1) hx hb dX0_rise_12 (by decide) ?_
      refine lv_isub hx hb dX0_rise_13 ?_
      refine topE (y := nI (q - 1)) (pk_sub (by omega)) ?_
      refine lv_iconst (v := nI 2) hx hb dX0_rise_14 (by decide) ?_
      refine lv_idiv hx hb dX0_rise_15 (by decide) ?_
      refine topE (y := nI ((q - 1) / 2)) (pk_div (by omega) (by decide) (by decide)) ?_
      refine lv_istore_n (lv' := [(2, .int _), (1, .int _), (0, .ref _)]) hx hb dX0_rise_16 rfl hl (by decide) rfl (fun ls hl => ?_)
      refine lv_aload_n hx hb dX0_rise_17 rfl (lv_at hl 2 rfl) ?_
      refine lv_iload_n hx hb dX0_rise_18 rfl (lv_at hl 0 rfl) ?_
      refine lv_iload_n hx hb dX0_rise_19 rfl (lv_at hl 1 rfl) ?_
      refine calli K w (c_X0_comesBefore K.2.2 (by omega) (by omega)) (lk_X0_35 K ⟨Nat.le_trans (Nat.le_of_ble_eq_true rfl) hR.1, Nat.le_trans (Nat.le_of_ble_eq_true rfl) hR.2⟩) (recv10 K w) rfl hl.1 rfl (Nat.le_of_ble_eq_true rfl) dX0_rise_20 hf (fun H locs w => ?_)
      refine lv_if_eq (tgt := 27) hx hb dX0_rise_23 rfl (fun h23 => ?_) (fun h23 => ?_)
      · rw [if_neg (by rw [bI_0 h23]; decide)] at hm
        refine lv_aload_n hx hb dX0_rise_27 rfl (lv_at hl 2 rfl) ?_
        refine lv_iload_n hx hb dX0_rise_28 rfl (lv_at hl 0 rfl) ?_
        refine lv_iload_n hx hb dX0_rise_29 rfl (lv_at hl 1 rfl) ?_
        refine callv K w (c_X0_swap K.2.2 (by omega) (by omega)) (lk_X0_28 K ⟨Nat.le_trans (Nat.le_of_ble_eq_true rfl) hR.1, Nat.le_trans (Nat.le_of_ble_eq_true rfl) hR.2⟩) (recv10 K w) rfl hl.1 rfl (Nat.le_of_ble_eq_true rfl) dX0_rise_30 hf (fun H locs w => ?_)
        refine lv_iload_n hx hb dX0_rise_33 rfl (lv_at hl 1 rfl) ?_
        refine lv_iconst (v := nI 1) hx hb dX0_rise_34 (by decide) ?_
        refine lv_isub hx hb dX0_rise_35 ?_
        refine topE (y := nI (q - 1)) (pk_sub (by omega)) ?_
        refine lv_iconst (v := nI 2) hx hb dX0_rise_36 (by decide) ?_
        refine lv_idiv hx hb dX0_rise_37 (by decide) ?_
        refine topE (y := nI ((q - 1) / 2)) (pk_div (by omega) (by decide) (by decide)) ?_
        refine lv_istore_n (lv' := [(1, .int _), (2, .int _), (0, .ref _)]) hx hb dX0_rise_38 rfl hl (by decide) rfl (fun ls hl => ?_)
        refine lv_goto (tgt := 7) hx hb dX0_rise_39 rfl ?_
        exact ih _ _ _ _ _ (by omega) (by omega) hm w (lv_sub hl [0, 2] rfl)
      · rw [if_pos (bI_n h23)] at hm
        exact ret (by rw [← hm]; exact w) dX0_rise_26

set_option maxHeartbeats 4000000 in
set_option maxRecDepth 100000 in
theorem lp_sink (K : cX E p m c cX0_sink 3 s args w0 RX0) (hR : 1 ≤ R.frames ∧ 25 ≤ R.locals) (hf : cells ≤ R.cells ∧ slots ≤ R.slots) (ret : ∀ {H : Heap} {locs : List Loc} {pc : Nat} {ls : Array Slot}, wst E s.heap MF n k H locs → decode cX0_sink pc = .ok (.return_, 1) → W p l e R s m args below meth c H locs cells slots Q (F0 m pc ls [])) (hk : k ≤ 2000) : ∀ (f q : Nat) (M : Mt) (H : Heap) (locs : List Loc) (ls : Array Slot), k ≤ q + f → q ≤ 2000 → siF f M k q = MF → wst E s.heap M n k H locs → lv_has ls 3 [(2, .int (nI (2 * q + 1))), (1, .int (nI q)), (0, .ref (ad E 10))] → W p l e R s m args below meth c H locs cells slots Q (F0 m 4 ls []) := by
  have hx := K.1.1
  have hb := K.1.2.1
  intro f
  induction f with
  | zero =>
    intro q M H locs ls hq h2 hm w hl
    rw [siF_e (by omega)] at hm
    refine lv_iload_n hx hb dX0_sink_4 rfl (lv_at hl 0 rfl) ?_
    refine lv_aload_n hx hb dX0_sink_5 rfl (lv_at hl 2 rfl) ?_
    refine gf_X0_size K w dX0_sink_6 ?_
    refine lv_icmp_ge (tgt := 63) hx hb dX0_sink_9 rfl (fun _ => ?_) (fun h9 => absurd (nI_le (by omega) (by omega)) h9)
    exact ret (by rw [← hm]; exact w) dX0_sink_63
  | succ f ih =>
    intro q M H locs ls hq h2 hm w hl
    by_cases h0 : 2 * q + 1 < k
    · rw [siF_s h0] at hm
      refine lv_iload_n hx hb dX0_sink_4 rfl (lv_at hl 0 rfl) ?_
      refine lv_aload_n hx hb dX0_sink_5 rfl (lv_at hl 2 rfl) ?_
      refine gf_X0_size K w dX0_sink_6 ?_
      refine lv_icmp_ge (tgt := 63) hx hb dX0_sink_9 rfl (fun h9 => absurd h9 (nI_ge (by omega) (by omega))) (fun _ => ?_)
      rcases (by by_cases h3 : 2 * q + 1 + 1 < k
                 · by_cases h4 : cbF M (2 * q + 1 + 1) (2 * q + 1) = true
                   · exact Or.inr (Or.inl ⟨h3, h4⟩)
                   · exact Or.inr (Or.inr ⟨h3, h4⟩)
                 · exact Or.inl h3 : ¬ 2 * q + 1 + 1 < k ∨ (2 * q + 1 + 1 < k ∧ cbF M (2 * q + 1 + 1) (2 * q + 1) = true) ∨ (2 * q + 1 + 1 < k ∧ ¬ cbF M (2 * q + 1 + 1) (2 * q + 1) = true)) with h3 | ⟨h3, h4⟩ | ⟨h3, h4⟩
      · refine lv_iload_n hx hb dX0_sink_12 rfl (lv_at hl 0 rfl) ?_
        refine lv_iconst (v := nI 1) hx hb dX0_sink_13 (by decide) ?_
        refine lv_iadd hx hb dX0_sink_14 ?_
        refine topE (y := nI (2 * q + 1 + 1)) (nI_add _ _) ?_
        refine lv_aload_n hx hb dX0_sink_15 rfl (lv_at hl 2 rfl) ?_
        refine gf_X0_size K w dX0_sink_16 ?_
        refine lv_icmp_ge (tgt := 36) hx hb dX0_sink_19 rfl (fun _ => ?_) (fun h9 => absurd (nI_le (by omega) (by omega)) h9)
        have hch : chF M k q = 2 * q + 1 := if_neg (fun h => h3 h.1)
        rw [hch] at hm
        refine lv_aload_n hx hb dX0_sink_36 rfl (lv_at hl 2 rfl) ?_
        refine lv_iload_n hx hb dX0_sink_37 rfl (lv_at hl 1 rfl) ?_
        refine lv_iload_n hx hb dX0_sink_38 rfl (lv_at hl 0 rfl) ?_
        refine calli K w (c_X0_comesBefore K.2.2 (by omega) (by omega)) (lk_X0_35 K ⟨Nat.le_trans (Nat.le_of_ble_eq_true rfl) hR.1, Nat.le_trans (Nat.le_of_ble_eq_true rfl) hR.2⟩) (recv10 K w) rfl hl.1 rfl (Nat.le_of_ble_eq_true rfl) dX0_sink_39 hf (fun H locs w => ?_)
        refine lv_if_eq (tgt := 46) hx hb dX0_sink_42 rfl (fun h42 => ?_) (fun h42 => ?_)
        · rw [if_neg (by rw [bI_0 h42]; decide)] at hm
          refine lv_aload_n hx hb dX0_sink_46 rfl (lv_at hl 2 rfl) ?_
          refine lv_iload_n hx hb dX0_sink_47 rfl (lv_at hl 1 rfl) ?_
          refine lv_iload_n hx hb dX0_sink_48 rfl (lv_at hl 0 rfl) ?_
          refine callv K w (c_X0_swap K.2.2 (by omega) (by omega)) (lk_X0_28 K ⟨Nat.le_trans (Nat.le_of_ble_eq_true rfl) hR.1, Nat.le_trans (Nat.le_of_ble_eq_true rfl) hR.2⟩) (recv10 K w) rfl hl.1 rfl (Nat.le_of_ble_eq_true rfl) dX0_sink_49 hf (fun H locs w => ?_)
          refine lv_iload_n hx hb dX0_sink_52 rfl (lv_at hl 0 rfl) ?_
          refine lv_istore_n (lv' := [(1, .int _), (2, .int _), (0, .ref _)]) hx hb dX0_sink_53 rfl hl (by decide) rfl (fun ls hl => ?_)
          refine lv_iconst (v := nI 2) hx hb dX0_sink_54 (by decide) ?_
          refine lv_iload_n hx hb dX0_sink_55 rfl (lv_at hl 0 rfl) ?_
          refine lv_imul hx hb dX0_sink_56 ?_
          refine topE (y := nI (2 * (2 * q + 1))) (pk_mul _ _) ?_
          refine lv_iconst (v := nI 1) hx hb dX0_sink_57 (by decide) ?_
          refine lv_iadd hx hb dX0_sink_58 ?_
          refine topE (y := nI (2 * (2 * q + 1) + 1)) (nI_add _ _) ?_
          refine lv_istore_n (lv' := [(2, .int _), (1, .int _), (0, .ref _)]) hx hb dX0_sink_59 rfl hl (by decide) rfl (fun ls hl => ?_)
          refine lv_goto (tgt := 4) hx hb dX0_sink_60 rfl ?_
          exact ih (2 * q + 1) _ _ _ _ (by omega) (by omega) hm w (lv_sub hl [0, 1, 2] rfl)
        · rw [if_pos (bI_n h42)] at hm
          exact ret (by rw [← hm]; exact w) dX0_sink_45
      · refine lv_iload_n hx hb dX0_sink_12 rfl (lv_at hl 0 rfl) ?_
        refine lv_iconst (v := nI 1) hx hb dX0_sink_13 (by decide) ?_
        refine lv_iadd hx hb dX0_sink_14 ?_
        refine topE (y := nI (2 * q + 1 + 1)) (nI_add _ _) ?_
        refine lv_aload_n hx hb dX0_sink_15 rfl (lv_at hl 2 rfl) ?_
        refine gf_X0_size K w dX0_sink_16 ?_
        refine lv_icmp_ge (tgt := 36) hx hb dX0_sink_19 rfl (fun h9 => absurd h9 (nI_ge (by omega) (by omega))) (fun _ => ?_)
        refine lv_aload_n hx hb dX0_sink_22 rfl (lv_at hl 2 rfl) ?_
        refine lv_iload_n hx hb dX0_sink_23 rfl (lv_at hl 0 rfl) ?_
        refine lv_iconst (v := nI 1) hx hb dX0_sink_24 (by decide) ?_
        refine lv_iadd hx hb dX0_sink_25 ?_
        refine topE (y := nI (2 * q + 1 + 1)) (nI_add _ _) ?_
        refine lv_iload_n hx hb dX0_sink_26 rfl (lv_at hl 0 rfl) ?_
        refine calli K w (c_X0_comesBefore K.2.2 (by omega) (by omega)) (lk_X0_35 K ⟨Nat.le_trans (Nat.le_of_ble_eq_true rfl) hR.1, Nat.le_trans (Nat.le_of_ble_eq_true rfl) hR.2⟩) (recv10 K w) rfl hl.1 rfl (Nat.le_of_ble_eq_true rfl) dX0_sink_27 hf (fun H locs w => ?_)
        refine lv_if_eq (tgt := 36) hx hb dX0_sink_30 rfl (fun h9 => absurd h9 (by rw [h4]; decide)) (fun _ => ?_)
        refine lv_iinc (k := 0) (v := nI (_ + 1)) (lv' := [(2, .int _), (1, .int _), (0, .ref _)]) hx hb dX0_sink_33 hl rfl (inc1 _) (by decide) rfl (fun ls hl => ?_)
        have hch : chF M k q = 2 * q + 1 + 1 := if_pos ⟨h3, h4⟩
        rw [hch] at hm
        refine lv_aload_n hx hb dX0_sink_36 rfl (lv_at hl 2 rfl) ?_
        refine lv_iload_n hx hb dX0_sink_37 rfl (lv_at hl 1 rfl) ?_
        refine lv_iload_n hx hb dX0_sink_38 rfl (lv_at hl 0 rfl) ?_
        refine calli K w (c_X0_comesBefore K.2.2 (by omega) (by omega)) (lk_X0_35 K ⟨Nat.le_trans (Nat.le_of_ble_eq_true rfl) hR.1, Nat.le_trans (Nat.le_of_ble_eq_true rfl) hR.2⟩) (recv10 K w) rfl hl.1 rfl (Nat.le_of_ble_eq_true rfl) dX0_sink_39 hf (fun H locs w => ?_)
        refine lv_if_eq (tgt := 46) hx hb dX0_sink_42 rfl (fun h42 => ?_) (fun h42 => ?_)
        · rw [if_neg (by rw [bI_0 h42]; decide)] at hm
          refine lv_aload_n hx hb dX0_sink_46 rfl (lv_at hl 2 rfl) ?_
          refine lv_iload_n hx hb dX0_sink_47 rfl (lv_at hl 1 rfl) ?_
          refine lv_iload_n hx hb dX0_sink_48 rfl (lv_at hl 0 rfl) ?_
          refine callv K w (c_X0_swap K.2.2 (by omega) (by omega)) (lk_X0_28 K ⟨Nat.le_trans (Nat.le_of_ble_eq_true rfl) hR.1, Nat.le_trans (Nat.le_of_ble_eq_true rfl) hR.2⟩) (recv10 K w) rfl hl.1 rfl (Nat.le_of_ble_eq_true rfl) dX0_sink_49 hf (fun H locs w => ?_)
          refine lv_iload_n hx hb dX0_sink_52 rfl (lv_at hl 0 rfl) ?_
          refine lv_istore_n (lv' := [(1, .int _), (2, .int _), (0, .ref _)]) hx hb dX0_sink_53 rfl hl (by decide) rfl (fun ls hl => ?_)
          refine lv_iconst (v := nI 2) hx hb dX0_sink_54 (by decide) ?_
          refine lv_iload_n hx hb dX0_sink_55 rfl (lv_at hl 0 rfl) ?_
          refine lv_imul hx hb dX0_sink_56 ?_
          refine topE (y := nI (2 * (2 * q + 1 + 1))) (pk_mul _ _) ?_
          refine lv_iconst (v := nI 1) hx hb dX0_sink_57 (by decide) ?_
          refine lv_iadd hx hb dX0_sink_58 ?_
          refine topE (y := nI (2 * (2 * q + 1 + 1) + 1)) (nI_add _ _) ?_
          refine lv_istore_n (lv' := [(2, .int _), (1, .int _), (0, .ref _)]) hx hb dX0_sink_59 rfl hl (by decide) rfl (fun ls hl => ?_)
          refine lv_goto (tgt := 4) hx hb dX0_sink_60 rfl ?_
          exact ih (2 * q + 1 + 1) _ _ _ _ (by omega) (by omega) hm w (lv_sub hl [0, 1, 2] rfl)
        · rw [if_pos (bI_n h42)] at hm
          exact ret (by rw [← hm]; exact w) dX0_sink_45
      · refine lv_iload_n hx hb dX0_sink_12 rfl (lv_at hl 0 rfl) ?_
        refine lv_iconst (v := nI 1) hx hb dX0_sink_13 (by decide) ?_
        refine lv_iadd hx hb dX0_sink_14 ?_
        refine topE (y := nI (2 * q + 1 + 1)) (nI_add _ _) ?_
        refine lv_aload_n hx hb dX0_sink_15 rfl (lv_at hl 2 rfl) ?_
        refine gf_X0_size K w dX0_sink_16 ?_
        refine lv_icmp_ge (tgt := 36) hx hb dX0_sink_19 rfl (fun h9 => absurd h9 (nI_ge (by omega) (by omega))) (fun _ => ?_)
        refine lv_aload_n hx hb dX0_sink_22 rfl (lv_at hl 2 rfl) ?_
        refine lv_iload_n hx hb dX0_sink_23 rfl (lv_at hl 0 rfl) ?_
        refine lv_iconst (v := nI 1) hx hb dX0_sink_24 (by decide) ?_
        refine lv_iadd hx hb dX0_sink_25 ?_
        refine topE (y := nI (2 * q + 1 + 1)) (nI_add _ _) ?_
        refine lv_iload_n hx hb dX0_sink_26 rfl (lv_at hl 0 rfl) ?_
        refine calli K w (c_X0_comesBefore K.2.2 (by omega) (by omega)) (lk_X0_35 K ⟨Nat.le_trans (Nat.le_of_ble_eq_true rfl) hR.1, Nat.le_trans (Nat.le_of_ble_eq_true rfl) hR.2⟩) (recv10 K w) rfl hl.1 rfl (Nat.le_of_ble_eq_true rfl) dX0_sink_27 hf (fun H locs w => ?_)
        refine lv_if_eq (tgt := 36) hx hb dX0_sink_30 rfl (fun _ => ?_) (fun h9 => absurd (by rw [Bool.not_eq_true _ |>.mp h4]; rfl) h9)
        have hch : chF M k q = 2 * q + 1 := if_neg (fun h => h4 h.2)
        rw [hch] at hm
        refine lv_aload_n hx hb dX0_sink_36 rfl (lv_at hl 2 rfl) ?_
        refine lv_iload_n hx hb dX0_sink_37 rfl (lv_at hl 1 rfl) ?_
        refine lv_iload_n hx hb dX0_sink_38 rfl (lv_at hl 0 rfl) ?_
        refine calli K w (c_X0_comesBefore K.2.2 (by omega) (by omega)) (lk_X0_35 K ⟨Nat.le_trans (Nat.le_of_ble_eq_true rfl) hR.1, Nat.le_trans (Nat.le_of_ble_eq_true rfl) hR.2⟩) (recv10 K w) rfl hl.1 rfl (Nat.le_of_ble_eq_true rfl) dX0_sink_39 hf (fun H locs w => ?_)
        refine lv_if_eq (tgt := 46) hx hb dX0_sink_42 rfl (fun h42 => ?_) (fun h42 => ?_)
        · rw [if_neg (by rw [bI_0 h42]; decide)] at hm
          refine lv_aload_n hx hb dX0_sink_46 rfl (lv_at hl 2 rfl) ?_
          refine lv_iload_n hx hb dX0_sink_47 rfl (lv_at hl 1 rfl) ?_
          refine lv_iload_n hx hb dX0_sink_48 rfl (lv_at hl 0 rfl) ?_
          refine callv K w (c_X0_swap K.2.2 (by omega) (by omega)) (lk_X0_28 K ⟨Nat.le_trans (Nat.le_of_ble_eq_true rfl) hR.1, Nat.le_trans (Nat.le_of_ble_eq_true rfl) hR.2⟩) (recv10 K w) rfl hl.1 rfl (Nat.le_of_ble_eq_true rfl) dX0_sink_49 hf (fun H locs w => ?_)
          refine lv_iload_n hx hb dX0_sink_52 rfl (lv_at hl 0 rfl) ?_
          refine lv_istore_n (lv' := [(1, .int _), (2, .int _), (0, .ref _)]) hx hb dX0_sink_53 rfl hl (by decide) rfl (fun ls hl => ?_)
          refine lv_iconst (v := nI 2) hx hb dX0_sink_54 (by decide) ?_
          refine lv_iload_n hx hb dX0_sink_55 rfl (lv_at hl 0 rfl) ?_
          refine lv_imul hx hb dX0_sink_56 ?_
          refine topE (y := nI (2 * (2 * q + 1))) (pk_mul _ _) ?_
          refine lv_iconst (v := nI 1) hx hb dX0_sink_57 (by decide) ?_
          refine lv_iadd hx hb dX0_sink_58 ?_
          refine topE (y := nI (2 * (2 * q + 1) + 1)) (nI_add _ _) ?_
          refine lv_istore_n (lv' := [(2, .int _), (1, .int _), (0, .ref _)]) hx hb dX0_sink_59 rfl hl (by decide) rfl (fun ls hl => ?_)
          refine lv_goto (tgt := 4) hx hb dX0_sink_60 rfl ?_
          exact ih (2 * q + 1) _ _ _ _ (by omega) (by omega) hm w (lv_sub hl [0, 1, 2] rfl)
        · rw [if_pos (bI_n h42)] at hm
          exact ret (by rw [← hm]; exact w) dX0_sink_45
    · rw [siF_e h0] at hm
      refine lv_iload_n hx hb dX0_sink_4 rfl (lv_at hl 0 rfl) ?_
      refine lv_aload_n hx hb dX0_sink_5 rfl (lv_at hl 2 rfl) ?_
      refine gf_X0_size K w dX0_sink_6 ?_
      refine lv_icmp_ge (tgt := 63) hx hb dX0_sink_9 rfl (fun _ => ?_) (fun h9 => absurd (nI_le (by omega) (by omega)) h9)
      exact ret (by rw [← hm]; exact w) dX0_sink_63
end QL
set_option maxHeartbeats 4000000 in
set_option maxRecDepth 100000 in
theorem c_X0_rise {l : Launch} {E : En} {M : Mt} {n : Nat} (dn : dN E) {q : Nat} (hq : q < 2000) : MV l yX0_rise (.code yX0_rise cX0_rise 3 none) 1 25 E [.ref (ad E 10)] M n (q + 1)  (riF q M q) (n) (q + 1) := by
  refine MV.of dn (own := RX0) (by decide) rfl (Nat.le_of_ble_eq_true rfl) (fun p e s m args below meth c ls Q K w hl ret => ?_)
  have hx := K.1.1
  have hb := K.1.2.1
  have hR : 1 ≤ (rmA 1 25).frames ∧ 25 ≤ (rmA 1 25).locals := ⟨Nat.le_refl _, Nat.le_refl _⟩
  have hf : 0 ≤ (rmA 1 25).cells ∧ 0 ≤ (rmA 1 25).slots := ⟨Nat.le_refl _, Nat.le_refl _⟩
  have hl : lv_has ls 3 [(0, .ref (ad E 10))] := hl
  refine lv_aload_n hx hb dX0_rise_0 rfl (lv_at hl 0 rfl) ?_
  refine gf_X0_size K w dX0_rise_1 ?_
  refine lv_iconst (v := nI 1) hx hb dX0_rise_4 (by decide) ?_
  refine lv_isub hx hb dX0_rise_5 ?_
  refine topE (y := nI q) (pk_sub (by omega)) ?_
  refine lv_istore_n (lv' := [(1, .int _), (0, .ref _)]) hx hb dX0_rise_6 rfl hl (by decide) rfl (fun ls hl => ?_)
  exact lp_rise K hR hf ret q q M _ _ _ (Nat.le_refl _) hq rfl w hl

set_option maxHeartbeats 4000000 in
set_option maxRecDepth 100000 in
theorem c_X0_sink {l : Launch} {E : En} {M : Mt} {n k : Nat} (dn : dN E) (hk : k ≤ 2000) : MV l yX0_sink (.code yX0_sink cX0_sink 3 none) 1 25 E [.ref (ad E 10)] M n k  (siF k M k 0) (n) (k) := by
  refine MV.of dn (own := RX0) (by decide) rfl (Nat.le_of_ble_eq_true rfl) (fun p e s m args below meth c ls Q K w hl ret => ?_)
  have hx := K.1.1
  have hb := K.1.2.1
  have hR : 1 ≤ (rmA 1 25).frames ∧ 25 ≤ (rmA 1 25).locals := ⟨Nat.le_refl _, Nat.le_refl _⟩
  have hf : 0 ≤ (rmA 1 25).cells ∧ 0 ≤ (rmA 1 25).slots := ⟨Nat.le_refl _, Nat.le_refl _⟩
  have hl : lv_has ls 3 [(0, .ref (ad E 10))] := hl
  refine lv_iconst (v := nI 0) hx hb dX0_sink_0 (by decide) ?_
  refine lv_istore_n (lv' := [(1, .int _), (0, .ref _)]) hx hb dX0_sink_1 rfl hl (by decide) rfl (fun ls hl => ?_)
  refine lv_iconst (v := nI 1) hx hb dX0_sink_2 (by decide) ?_
  refine lv_istore_n (lv' := [(2, .int _), (1, .int _), (0, .ref _)]) hx hb dX0_sink_3 rfl hl (by decide) rfl (fun ls hl => ?_)
  exact lp_sink K hR hf ret hk k 0 M _ _ _ (by omega) (by omega) rfl w hl

set_option maxHeartbeats 4000000 in
set_option maxRecDepth 100000 in
theorem c_X0_put_a {l : Launch} {E : En} {M : Mt} {n k : Nat} (dn : dN E) {r ky nm : Int32} (h0 : k < 2000) : MV l yX0_put (.code yX0_put cX0_put 4 none) 2 47 E [.ref (ad E 10), .int r, .int ky, .int nm] M n k  (riF k (ptF M k r ky nm) k) (n) (k + 1) := by
  refine MV.of dn (own := RX0) (by decide) rfl (Nat.le_of_ble_eq_true rfl) (fun p e s m args below meth c ls Q K w hl ret => ?_)
  have hx := K.1.1
  have hb := K.1.2.1
  have hR : 2 ≤ (rmA 2 47).frames ∧ 47 ≤ (rmA 2 47).locals := ⟨Nat.le_refl _, Nat.le_refl _⟩
  have hf : 0 ≤ (rmA 2 47).cells ∧ 0 ≤ (rmA 2 47).slots := ⟨Nat.le_refl _, Nat.le_refl _⟩
  have hl : lv_has ls 4 [(0, .ref (ad E 10)), (1, .int r), (2, .int ky), (3, .int nm)] := hl
  refine lv_aload_n hx hb dX0_put_0 rfl (lv_at hl 0 rfl) ?_
  refine gf_X0_size K w dX0_put_1 ?_
  refine lv_sipush (v := nI 2000) hx hb dX0_put_4 (by decide) ?_
  refine lv_icmp_lt (tgt := 11) hx hb dX0_put_7 rfl (fun _ => ?_) (fun h9 => absurd (nI_lt h0 (by decide)) h9)
  refine lv_aload_n hx hb dX0_put_11 rfl (lv_at hl 0 rfl) ?_
  refine gf_X0_ranks K w dX0_put_12 ?_
  refine lv_aload_n hx hb dX0_put_15 rfl (lv_at hl 0 rfl) ?_
  refine gf_X0_size K w dX0_put_16 ?_
  refine lv_iload_n hx hb dX0_put_19 rfl (lv_at hl 1 rfl) ?_
  refine stN K w row11 (by omega) dX0_put_20 (fun H locs w => ?_)
  refine lv_aload_n hx hb dX0_put_21 rfl (lv_at hl 0 rfl) ?_
  refine gf_X0_keys K w dX0_put_22 ?_
  refine lv_aload_n hx hb dX0_put_25 rfl (lv_at hl 0 rfl) ?_
  refine gf_X0_size K w dX0_put_26 ?_
  refine lv_iload_n hx hb dX0_put_29 rfl (lv_at hl 2 rfl) ?_
  refine stN K w row12 (by omega) dX0_put_30 (fun H locs w => ?_)
  refine lv_aload_n hx hb dX0_put_31 rfl (lv_at hl 0 rfl) ?_
  refine gf_X0_numbers K w dX0_put_32 ?_
  refine lv_aload_n hx hb dX0_put_35 rfl (lv_at hl 0 rfl) ?_
  refine gf_X0_size K w dX0_put_36 ?_
  refine lv_iload_n hx hb dX0_put_39 rfl (lv_at hl 3 rfl) ?_
  refine stN K w row13 (by omega) dX0_put_40 (fun H locs w => ?_)
  have w : wst E s.heap (ptF M k r ky nm) n k H locs := w
  refine lv_aload_n hx hb dX0_put_41 rfl (lv_at hl 0 rfl) ?_
  refine lv_dup hx hb dX0_put_42 rfl ?_
  refine gf_X0_size K w dX0_put_43 ?_
  refine lv_iconst (v := nI 1) hx hb dX0_put_46 (by decide) ?_
  refine lv_iadd hx hb dX0_put_47 ?_
  refine pf_X0_size K w (nI_add k 1) dX0_put_48 (fun H locs w => ?_)
  refine lv_aload_n hx hb dX0_put_51 rfl (lv_at hl 0 rfl) ?_
  refine callv K w (c_X0_rise dn h0) (lk_X0_25 K ⟨Nat.le_trans (Nat.le_of_ble_eq_true rfl) hR.1, Nat.le_trans (Nat.le_of_ble_eq_true rfl) hR.2⟩) (recv10 K w) rfl hl.1 rfl (Nat.le_of_ble_eq_true rfl) dX0_put_52 hf (fun H locs w => ?_)
  exact ret w dX0_put_55

set_option maxHeartbeats 4000000 in
set_option maxRecDepth 100000 in
theorem c_X0_put_b {l : Launch} {E : En} {M : Mt} {n k : Nat} (dn : dN E) {r ky nm : Int32} (h0 : 2000 ≤ k) (h1 : k < 2147483648) : MV l yX0_put (.code yX0_put cX0_put 4 none) 2 47 E [.ref (ad E 10), .int r, .int ky, .int nm] M n k  (M) (n) (k) := by
  refine MV.of dn (own := RX0) (by decide) rfl (Nat.le_of_ble_eq_true rfl) (fun p e s m args below meth c ls Q K w hl ret => ?_)
  have hx := K.1.1
  have hb := K.1.2.1
  have hR : 2 ≤ (rmA 2 47).frames ∧ 47 ≤ (rmA 2 47).locals := ⟨Nat.le_refl _, Nat.le_refl _⟩
  have hf : 0 ≤ (rmA 2 47).cells ∧ 0 ≤ (rmA 2 47).slots := ⟨Nat.le_refl _, Nat.le_refl _⟩
  have hl : lv_has ls 4 [(0, .ref (ad E 10)), (1, .int r), (2, .int ky), (3, .int nm)] := hl
  refine lv_aload_n hx hb dX0_put_0 rfl (lv_at hl 0 rfl) ?_
  refine gf_X0_size K w dX0_put_1 ?_
  refine lv_sipush (v := nI 2000) hx hb dX0_put_4 (by decide) ?_
  refine lv_icmp_lt (tgt := 11) hx hb dX0_put_7 rfl (fun h9 => absurd h9 (nI_nlt h0 h1)) (fun _ => ?_)
  exact ret w dX0_put_10

theorem c_X0_put {l : Launch} {E : En} {M : Mt} {n k : Nat} (dn : dN E) {r ky nm : Int32} (h1 : k < 2147483648) : MV l yX0_put (.code yX0_put cX0_put 4 none) 2 47 E [.ref (ad E 10), .int r, .int ky, .int nm] M n k (puF M k r ky nm) n (puK k) := by
  by_cases h : 2000 ≤ k
  · rw [puF, puK, if_pos h, if_pos h]
    exact c_X0_put_b dn h h1
  · rw [puF, puK, if_neg h, if_neg h]
    exact c_X0_put_a dn (by omega)

set_option maxHeartbeats 4000000 in
set_option maxRecDepth 100000 in
theorem c_X0_take_a {l : Launch} {E : En} {M : Mt} {n k : Nat} (dn : dN E) (h0 : k = 0) : MI l yX0_take (.code yX0_take cX0_take 2 (some .int)) 2 47 E [.ref (ad E 10)] M n k (-1)  (M) (n) (k) := by
  refine MI.of dn (own := RX0) (by decide) rfl (Nat.le_of_ble_eq_true rfl) (fun p e s m args below meth c ls Q K w hl ret => ?_)
  have hx := K.1.1
  have hb := K.1.2.1
  have hR : 2 ≤ (rmA 2 47).frames ∧ 47 ≤ (rmA 2 47).locals := ⟨Nat.le_refl _, Nat.le_refl _⟩
  have hf : 0 ≤ (rmA 2 47).cells ∧ 0 ≤ (rmA 2 47).slots := ⟨Nat.le_refl _, Nat.le_refl _⟩
  have hl : lv_has ls 2 [(0, .ref (ad E 10))] := hl
  refine lv_aload_n hx hb dX0_take_0 rfl (lv_at hl 0 rfl) ?_
  refine gf_X0_size K w dX0_take_1 ?_
  refine lv_if_gt (tgt := 9) hx hb dX0_take_4 rfl (fun h9 => absurd h9 (by rw [h0]; decide)) (fun _ => ?_)
  refine lv_iconst (v := -1) hx hb dX0_take_7 (by decide) ?_
  exact ret w rfl dX0_take_8

set_option maxHeartbeats 4000000 in
set_option maxRecDepth 100000 in
theorem c_X0_take_b {l : Launch} {E : En} {M : Mt} {n : Nat} (dn : dN E) {q : Nat} (hq : q < 2000) : MI l yX0_take (.code yX0_take cX0_take 2 (some .int)) 2 47 E [.ref (ad E 10)] M n (q + 1) (M 13 0)  (siF q (swF M 0 q) q 0) (n) (q) := by
  refine MI.of dn (own := RX0) (by decide) rfl (Nat.le_of_ble_eq_true rfl) (fun p e s m args below meth c ls Q K w hl ret => ?_)
  have hx := K.1.1
  have hb := K.1.2.1
  have hR : 2 ≤ (rmA 2 47).frames ∧ 47 ≤ (rmA 2 47).locals := ⟨Nat.le_refl _, Nat.le_refl _⟩
  have hf : 0 ≤ (rmA 2 47).cells ∧ 0 ≤ (rmA 2 47).slots := ⟨Nat.le_refl _, Nat.le_refl _⟩
  have hl : lv_has ls 2 [(0, .ref (ad E 10))] := hl
  refine lv_aload_n hx hb dX0_take_0 rfl (lv_at hl 0 rfl) ?_
  refine gf_X0_size K w dX0_take_1 ?_
  refine lv_if_gt (tgt := 9) hx hb dX0_take_4 rfl (fun _ => ?_) (fun h9 => absurd (nI_pp (by omega) (by omega)) h9)
  refine lv_aload_n hx hb dX0_take_9 rfl (lv_at hl 0 rfl) ?_
  refine gf_X0_numbers K w dX0_take_10 ?_
  refine lv_iconst (v := nI 0) hx hb dX0_take_13 (by decide) ?_
  refine ldN K w row13 (by omega) dX0_take_14 ?_
  refine lv_istore_n (lv' := [(1, .int _), (0, .ref _)]) hx hb dX0_take_15 rfl hl (by decide) rfl (fun ls hl => ?_)
  refine lv_aload_n hx hb dX0_take_16 rfl (lv_at hl 1 rfl) ?_
  refine lv_dup hx hb dX0_take_17 rfl ?_
  refine gf_X0_size K w dX0_take_18 ?_
  refine lv_iconst (v := nI 1) hx hb dX0_take_21 (by decide) ?_
  refine lv_isub hx hb dX0_take_22 ?_
  refine pf_X0_size K w (pk_sub (by omega)) dX0_take_23 (fun H locs w => ?_)
  refine lv_aload_n hx hb dX0_take_26 rfl (lv_at hl 1 rfl) ?_
  refine lv_iconst (v := nI 0) hx hb dX0_take_27 (by decide) ?_
  refine lv_aload_n hx hb dX0_take_28 rfl (lv_at hl 1 rfl) ?_
  refine gf_X0_size K w dX0_take_29 ?_
  refine callv K w (c_X0_swap dn (by omega) (by omega)) (lk_X0_28 K ⟨Nat.le_trans (Nat.le_of_ble_eq_true rfl) hR.1, Nat.le_trans (Nat.le_of_ble_eq_true rfl) hR.2⟩) (recv10 K w) rfl hl.1 rfl (Nat.le_of_ble_eq_true rfl) dX0_take_32 hf (fun H locs w => ?_)
  refine lv_aload_n hx hb dX0_take_35 rfl (lv_at hl 1 rfl) ?_
  refine callv K w (c_X0_sink dn (by omega)) (lk_X0_32 K ⟨Nat.le_trans (Nat.le_of_ble_eq_true rfl) hR.1, Nat.le_trans (Nat.le_of_ble_eq_true rfl) hR.2⟩) (recv10 K w) rfl hl.1 rfl (Nat.le_of_ble_eq_true rfl) dX0_take_36 hf (fun H locs w => ?_)
  refine lv_iload_n hx hb dX0_take_39 rfl (lv_at hl 0 rfl) ?_
  exact ret w rfl dX0_take_40

theorem c_X0_take {l : Launch} {E : En} {M : Mt} {n k : Nat} (dn : dN E) (hk : k ≤ 2000) : MI l yX0_take (.code yX0_take cX0_take 2 (some .int)) 2 47 E [.ref (ad E 10)] M n k (tkR M k) (tkF M k) n (k - 1) := by
  cases k with
  | zero => exact c_X0_take_a dn rfl
  | succ q => exact c_X0_take_b dn (by omega)
end
section
theorem ne_t {x y : Int32} (h : decide (¬ x = y) = true) : ¬ x = y := of_decide_eq_true h
theorem ne_f {x y : Int32} (h : ¬ decide (¬ x = y) = true) : x = y := Decidable.not_not.mp (fun h2 => h (decide_eq_true h2))
theorem eq_t {x y : Int32} (h : decide (x = y) = true) : x = y := of_decide_eq_true h
theorem eq_f {x y : Int32} (h : ¬ decide (x = y) = true) : ¬ x = y := fun h2 => h (decide_eq_true h2)
theorem decm (q : Nat) : nI q + Int32.ofInt (-1) = nI q - nI 1 := by
  rw [Int32.sub_eq_add_neg]; rfl
theorem okN.pc {M : Mt} {n c : Nat} (h : okN M n) (hc : c < n) : M 4 c = nI (pcn M c) := (h.2 c hc).2.1
theorem okN.le {M : Mt} {n c : Nat} (h : okN M n) (hc : c < n) : pcn M c ≤ 4 := (h.2 c hc).1
theorem okN.pr {M : Mt} {n c t : Nat} (h : okN M n) (hc : c < n) (ht : t < pcn M c) : M 5 (c * 4 + t) = nI (par M c t) := ((h.2 c hc).2.2 t ht).2
theorem okN.lt {M : Mt} {n c t : Nat} (h : okN M n) (hc : c < n) (ht : t < pcn M c) : par M c t < c := ((h.2 c hc).2.2 t ht).1
theorem okN.rows {M M' : Mt} {n : Nat} (h : okN M n) (h4 : M' 4 = M 4) (h5 : M' 5 = M 5) : okN M' n := by
  have e : ∀ c, pcn M' c = pcn M c := fun c => by rw [pcn, pcn, h4]
  have e2 : ∀ c t, par M' c t = par M c t := fun c t => by rw [par, par, h5]
  refine ⟨h.1, fun c hc => ?_⟩
  rw [e, h4, h5]
  refine ⟨(h.2 c hc).1, (h.2 c hc).2.1, fun t ht => ?_⟩
  rw [e2]
  exact (h.2 c hc).2.2 t ht

set_option maxHeartbeats 4000000 in
set_option maxRecDepth 100000 in
theorem c_X1_sideOf {l : Launch} {E : En} {M : Mt} {n k : Nat} (dn : dN E) {h : Nat} (hh : h < 2147483648) : MI l yX1_sideOf (.code yX1_sideOf cX1_sideOf 1 (some .int)) 0 0 E [.int (nI h)] M n k (sdF h)  (M) (n) (k) := by
  refine MI.of dn (own := RX1) (by decide) rfl (Nat.le_of_ble_eq_true rfl) (fun p e s m args below meth c ls Q K w hl ret => ?_)
  have hx := K.1.1
  have hb := K.1.2.1
  have hR : 0 ≤ (rmA 0 0).frames ∧ 0 ≤ (rmA 0 0).locals := ⟨Nat.le_refl _, Nat.le_refl _⟩
  have hf : 0 ≤ (rmA 0 0).cells ∧ 0 ≤ (rmA 0 0).slots := ⟨Nat.le_refl _, Nat.le_refl _⟩
  have hl : lv_has ls 1 [(0, .int (nI h))] := hl
  by_cases h0 : h = 0
  · subst h0
    refine lv_iload_n hx hb dX1_sideOf_0 rfl (lv_at hl 0 rfl) ?_
    refine lv_if_ne (tgt := 8) hx hb dX1_sideOf_1 rfl (fun h9 => absurd (by decide : nI 0 = 0) h9) (fun _ => ?_)
    refine lv_iconst (v := nI 1) hx hb dX1_sideOf_4 (by decide) ?_
    refine lv_goto (tgt := 9) hx hb dX1_sideOf_5 rfl ?_
    exact ret w rfl dX1_sideOf_9
  · refine lv_iload_n hx hb dX1_sideOf_0 rfl (lv_at hl 0 rfl) ?_
    refine lv_if_ne (tgt := 8) hx hb dX1_sideOf_1 rfl (fun _ => ?_) (fun h9 => absurd h9 (nI_ne0 (by omega) hh))
    refine lv_iconst (v := nI 2) hx hb dX1_sideOf_8 (by decide) ?_
    exact ret w (by rw [sdF, if_neg h0]) dX1_sideOf_9

set_option maxHeartbeats 4000000 in
set_option maxRecDepth 100000 in
theorem c_X1_parentOf {l : Launch} {E : En} {M : Mt} {n k : Nat} (dn : dN E) {q t : Nat} (hc : q * 4 + t < 8000) (hp : M 5 (q * 4 + t) = nI (par M q t)) : MI l yX1_parentOf (.code yX1_parentOf cX1_parentOf 3 (some .int)) 0 0 E [.ref (ad E 0), .int (nI q), .int (nI t)] M n k (nI (par M q t))  (M) (n) (k) := by
  refine MI.of dn (own := RX1) (by decide) rfl (Nat.le_of_ble_eq_true rfl) (fun p e s m args below meth c ls Q K w hl ret => ?_)
  have hx := K.1.1
  have hb := K.1.2.1
  have hR : 0 ≤ (rmA 0 0).frames ∧ 0 ≤ (rmA 0 0).locals := ⟨Nat.le_refl _, Nat.le_refl _⟩
  have hf : 0 ≤ (rmA 0 0).cells ∧ 0 ≤ (rmA 0 0).slots := ⟨Nat.le_refl _, Nat.le_refl _⟩
  have hl : lv_has ls 3 [(0, .ref (ad E 0)), (1, .int (nI q)), (2, .int (nI t))] := hl
  refine lv_aload_n hx hb dX1_parentOf_0 rfl (lv_at hl 0 rfl) ?_
  refine gf_X1_parents K w dX1_parentOf_1 ?_
  refine lv_iload_n hx hb dX1_parentOf_4 rfl (lv_at hl 1 rfl) ?_
  refine lv_iconst (v := nI 4) hx hb dX1_parentOf_5 (by decide) ?_
  refine lv_imul hx hb dX1_parentOf_6 ?_
  refine topE (y := nI (q * 4)) (pk_mul _ _) ?_
  refine lv_iload_n hx hb dX1_parentOf_7 rfl (lv_at hl 2 rfl) ?_
  refine lv_iadd hx hb dX1_parentOf_8 ?_
  refine topE (y := nI (q * 4 + t)) (nI_add _ _) ?_
  refine ldN K w row5 (by omega) dX1_parentOf_9 ?_
  exact ret w hp dX1_parentOf_10

set_option maxHeartbeats 4000000 in
set_option maxRecDepth 100000 in
theorem c_X1_isCommon {l : Launch} {E : En} {M : Mt} {n k : Nat} (dn : dN E) {q : Nat} (hc : q < 2000) : MI l yX1_isCommon (.code yX1_isCommon cX1_isCommon 2 (some .boolean)) 0 0 E [.ref (ad E 0), .int (nI q)] M n k (bI (cmF M q))  (M) (n) (k) := by
  refine MI.ofZ dn (own := RX1) (by decide) rfl (Nat.le_of_ble_eq_true rfl) (bI_z _) (fun p e s m args below meth c ls Q K w hl ret => ?_)
  have hx := K.1.1
  have hb := K.1.2.1
  have hR : 0 ≤ (rmA 0 0).frames ∧ 0 ≤ (rmA 0 0).locals := ⟨Nat.le_refl _, Nat.le_refl _⟩
  have hf : 0 ≤ (rmA 0 0).cells ∧ 0 ≤ (rmA 0 0).slots := ⟨Nat.le_refl _, Nat.le_refl _⟩
  have hl : lv_has ls 2 [(0, .ref (ad E 0)), (1, .int (nI q))] := hl
  refine lv_aload_n hx hb dX1_isCommon_0 rfl (lv_at hl 0 rfl) ?_
  refine gf_X1_marks K w dX1_isCommon_1 ?_
  refine lv_iload_n hx hb dX1_isCommon_4 rfl (lv_at hl 1 rfl) ?_
  refine ldN K w row8 (by omega) dX1_isCommon_5 ?_
  refine lv_iconst (v := nI 3) hx hb dX1_isCommon_6 (by decide) ?_
  refine lv_iand hx hb dX1_isCommon_7 ?_
  refine lv_iconst (v := nI 3) hx hb dX1_isCommon_8 (by decide) ?_
  refine lv_icmp_ne (tgt := 16) hx hb dX1_isCommon_9 rfl (fun h9 => ?_) (fun h9 => ?_)
  · refine lv_iconst (v := nI 0) hx hb dX1_isCommon_16 (by decide) ?_
    exact ret w (by first | (rw [cmF, decide_eq_true h9]; rfl) | (rw [cmF, decide_eq_false h9]; rfl)) dX1_isCommon_17
  · refine lv_iconst (v := nI 1) hx hb dX1_isCommon_12 (by decide) ?_
    refine lv_goto (tgt := 17) hx hb dX1_isCommon_13 rfl ?_
    exact ret w (by first | (rw [cmF, decide_eq_true h9]; rfl) | (rw [cmF, decide_eq_false h9]; rfl)) dX1_isCommon_17

section XA
variable {p : Program} {l : Launch} {e : Env} {R : Room} {s : State} {m : MethodId} {args : Array Value} {below : List Frame} {meth : Method} {c : Code} {H : Heap} {locs : List Loc} {cells slots : Nat} {Q : State → Prop} {ls : Array Slot} {w0 : Cond} {E : En} {M MF : Mt} {n k : Nat}
set_option maxHeartbeats 4000000 in
set_option maxRecDepth 100000 in
theorem lp_clear (K : cX E p m c cX1_clearMarks 2 s args w0 RX1) (hR : 0 ≤ R.frames ∧ 0 ≤ R.locals) (hf : cells ≤ R.cells ∧ slots ≤ R.slots) (ret : ∀ {H : Heap} {locs : List Loc} {pc : Nat} {ls : Array Slot}, wst E s.heap MF n k H locs → decode cX1_clearMarks pc = .ok (.return_, 1) → W p l e R s m args below meth c H locs cells slots Q (F0 m pc ls [])) (hn : n ≤ 2000) : ∀ (d i : Nat) (M : Mt) (H : Heap) (locs : List Loc) (ls : Array Slot), i + d = n → clF d i M = MF → wst E s.heap M n k H locs → lv_has ls 2 [(1, .int (nI i)), (0, .ref (ad E 0))] → W p l e R s m args below meth c H locs cells slots Q (F0 m 2 ls []) := by
  have hx := K.1.1
  have hb := K.1.2.1
  intro d
  induction d with
  | zero =>
    intro i M H locs ls hi hm w hl
    refine lv_iload_n hx hb dX1_clearMarks_2 rfl (lv_at hl 0 rfl) ?_
    refine lv_aload_n hx hb dX1_clearMarks_3 rfl (lv_at hl 1 rfl) ?_
    refine gf_X1_commits K w dX1_clearMarks_4 ?_
    refine lv_icmp_ge (tgt := 23) hx hb dX1_clearMarks_7 rfl (fun _ => ?_) (fun h9 => absurd (nI_le (by omega) (by omega)) h9)
    exact ret (by rw [← hm]; exact w) dX1_clearMarks_23
  | succ d ih =>
    intro i M H locs ls hi hm w hl
    refine lv_iload_n hx hb dX1_clearMarks_2 rfl (lv_at hl 0 rfl) ?_
    refine lv_aload_n hx hb dX1_clearMarks_3 rfl (lv_at hl 1 rfl) ?_
    refine gf_X1_commits K w dX1_clearMarks_4 ?_
    refine lv_icmp_ge (tgt := 23) hx hb dX1_clearMarks_7 rfl (fun h9 => absurd h9 (nI_ge (by omega) (by omega))) (fun _ => ?_)
    refine lv_aload_n hx hb dX1_clearMarks_10 rfl (lv_at hl 1 rfl) ?_
    refine gf_X1_marks K w dX1_clearMarks_11 ?_
    refine lv_iload_n hx hb dX1_clearMarks_14 rfl (lv_at hl 0 rfl) ?_
    refine lv_iconst (v := nI 0) hx hb dX1_clearMarks_15 (by decide) ?_
    refine stN K w row8 (by omega) dX1_clearMarks_16 (fun H locs w => ?_)
    refine lv_iinc (k := 0) (v := nI (_ + 1)) (lv' := [(1, .int _), (0, .ref _)]) hx hb dX1_clearMarks_17 hl rfl (inc1 _) (by decide) rfl (fun ls hl => ?_)
    refine lv_goto (tgt := 2) hx hb dX1_clearMarks_20 rfl ?_
    exact ih (i + 1) _ _ _ _ (by omega) hm w hl

set_option maxHeartbeats 4000000 in
set_option maxRecDepth 100000 in
theorem lp_held (K : cX E p m c cX1_markHeld 2 s args w0 RX1) (hR : 0 ≤ R.frames ∧ 0 ≤ R.locals) (hf : cells ≤ R.cells ∧ slots ≤ R.slots) (kk : ∀ (H : Heap) (locs : List Loc) (ls : Array Slot), wst E s.heap MF n k H locs → lv_has ls 2 [(0, .ref (ad E 0))] → W p l e R s m args below meth c H locs cells slots Q (F0 m 28 ls [])) (hn : n ≤ 2000) : ∀ (d i : Nat) (M : Mt) (H : Heap) (locs : List Loc) (ls : Array Slot), i + d = n → mhF d i M = MF → wst E s.heap M n k H locs → lv_has ls 2 [(1, .int (nI i)), (0, .ref (ad E 0))] → W p l e R s m args below meth c H locs cells slots Q (F0 m 2 ls []) := by
  have hx := K.1.1
  have hb := K.1.2.1
  intro d
  induction d with
  | zero =>
    intro i M H locs ls hi hm w hl
    refine lv_iload_n hx hb dX1_markHeld_2 rfl (lv_at hl 0 rfl) ?_
    refine lv_aload_n hx hb dX1_markHeld_3 rfl (lv_at hl 1 rfl) ?_
    refine gf_X1_commits K w dX1_markHeld_4 ?_
    refine lv_icmp_ge (tgt := 28) hx hb dX1_markHeld_7 rfl (fun _ => ?_) (fun h9 => absurd (nI_le (by omega) (by omega)) h9)
    exact kk _ _ _ (by rw [← hm]; exact w) (lv_sub hl [1] rfl)
  | succ d ih =>
    intro i M H locs ls hi hm w hl
    refine lv_iload_n hx hb dX1_markHeld_2 rfl (lv_at hl 0 rfl) ?_
    refine lv_aload_n hx hb dX1_markHeld_3 rfl (lv_at hl 1 rfl) ?_
    refine gf_X1_commits K w dX1_markHeld_4 ?_
    refine lv_icmp_ge (tgt := 28) hx hb dX1_markHeld_7 rfl (fun h9 => absurd h9 (nI_ge (by omega) (by omega))) (fun _ => ?_)
    refine lv_aload_n hx hb dX1_markHeld_10 rfl (lv_at hl 1 rfl) ?_
    refine gf_X1_marks K w dX1_markHeld_11 ?_
    refine lv_iload_n hx hb dX1_markHeld_14 rfl (lv_at hl 0 rfl) ?_
    refine lv_aload_n hx hb dX1_markHeld_15 rfl (lv_at hl 1 rfl) ?_
    refine gf_X1_tips K w dX1_markHeld_16 ?_
    refine lv_iload_n hx hb dX1_markHeld_19 rfl (lv_at hl 0 rfl) ?_
    refine ldN K w row7 (by omega) dX1_markHeld_20 ?_
    refine stN K w row8 (by omega) dX1_markHeld_21 (fun H locs w => ?_)
    refine lv_iinc (k := 0) (v := nI (_ + 1)) (lv' := [(1, .int _), (0, .ref _)]) hx hb dX1_markHeld_22 hl rfl (inc1 _) (by decide) rfl (fun ls hl => ?_)
    refine lv_goto (tgt := 2) hx hb dX1_markHeld_25 rfl ?_
    exact ih (i + 1) _ _ _ _ (by omega) hm w hl

set_option maxHeartbeats 4000000 in
set_option maxRecDepth 100000 in
theorem lp_spin (K : cX E p m c cX1_spreadMarks 4 s args w0 RX1) (hR : 1 ≤ R.frames ∧ 22 ≤ R.locals) (hf : cells ≤ R.cells ∧ slots ≤ R.slots) {h : Int32} {q j : Nat} (hq : q < n) (hn : n ≤ 2000) (kk : ∀ (H : Heap) (locs : List Loc) (ls : Array Slot), wst E s.heap MF n k H locs → lv_has ls 4 [(1, .int (nI q)), (0, .ref (ad E 0))] → W p l e R s m args below meth c H locs cells slots Q (F0 m 70 ls [])) : ∀ (d i : Nat) (M : Mt) (H : Heap) (locs : List Loc) (ls : Array Slot), i + d = j → okN M n → pcn M q = j → inF q h d i M = MF → wst E s.heap M n k H locs → lv_has ls 4 [(3, .int (nI i)), (2, .int h), (1, .int (nI q)), (0, .ref (ad E 0))] → W p l e R s m args below meth c H locs cells slots Q (F0 m 39 ls []) := by
  have hx := K.1.1
  have hb := K.1.2.1
  intro d
  induction d with
  | zero =>
    intro i M H locs ls hi ok hj hm w hl
    have h4 := ok.le hq
    refine lv_iload_n hx hb dX1_spreadMarks_39 rfl (lv_at hl 0 rfl) ?_
    refine lv_aload_n hx hb dX1_spreadMarks_40 rfl (lv_at hl 3 rfl) ?_
    refine gf_X1_parentCounts K w dX1_spreadMarks_41 ?_
    refine lv_iload_n hx hb dX1_spreadMarks_44 rfl (lv_at hl 2 rfl) ?_
    refine ldN K w row4 (by omega) dX1_spreadMarks_45 ?_
    refine topE (y := nI (pcn M q)) (ok.pc hq) ?_
    rw [hj]
    refine lv_icmp_ge (tgt := 70) hx hb dX1_spreadMarks_46 rfl (fun _ => ?_) (fun h9 => absurd (nI_le (by omega) (by omega)) h9)
    exact kk _ _ _ (by rw [← hm]; exact w) (lv_sub hl [2, 3] rfl)
  | succ d ih =>
    intro i M H locs ls hi ok hj hm w hl
    have h4 := ok.le hq
    have h5 := ok.lt hq (t := i) (by omega)
    refine lv_iload_n hx hb dX1_spreadMarks_39 rfl (lv_at hl 0 rfl) ?_
    refine lv_aload_n hx hb dX1_spreadMarks_40 rfl (lv_at hl 3 rfl) ?_
    refine gf_X1_parentCounts K w dX1_spreadMarks_41 ?_
    refine lv_iload_n hx hb dX1_spreadMarks_44 rfl (lv_at hl 2 rfl) ?_
    refine ldN K w row4 (by omega) dX1_spreadMarks_45 ?_
    refine topE (y := nI (pcn M q)) (ok.pc hq) ?_
    rw [hj]
    refine lv_icmp_ge (tgt := 70) hx hb dX1_spreadMarks_46 rfl (fun h9 => absurd h9 (nI_ge (by omega) (by omega))) (fun _ => ?_)
    refine lv_aload_n hx hb dX1_spreadMarks_49 rfl (lv_at hl 3 rfl) ?_
    refine gf_X1_marks K w dX1_spreadMarks_50 ?_
    refine lv_aload_n hx hb dX1_spreadMarks_53 rfl (lv_at hl 3 rfl) ?_
    refine lv_iload_n hx hb dX1_spreadMarks_54 rfl (lv_at hl 2 rfl) ?_
    refine lv_iload_n hx hb dX1_spreadMarks_55 rfl (lv_at hl 0 rfl) ?_
    refine calli K w (c_X1_parentOf K.2.2 (by omega) (ok.pr hq (by omega))) (lk_X1_120 K ⟨Nat.le_trans (Nat.le_of_ble_eq_true rfl) hR.1, Nat.le_trans (Nat.le_of_ble_eq_true rfl) hR.2⟩) (recv0 K w) rfl hl.1 rfl (Nat.le_of_ble_eq_true rfl) dX1_spreadMarks_56 hf (fun H locs w => ?_)
    refine lv_dup2_11 hx hb dX1_spreadMarks_59 rfl rfl ?_
    refine ldN K w row8 (by omega) dX1_spreadMarks_60 ?_
    refine lv_iload_n hx hb dX1_spreadMarks_61 rfl (lv_at hl 1 rfl) ?_
    refine lv_ior hx hb dX1_spreadMarks_62 ?_
    refine stN K w row8 (by omega) dX1_spreadMarks_63 (fun H locs w => ?_)
    refine lv_iinc (k := 0) (v := nI (_ + 1)) (lv' := [(3, .int _), (2, .int _), (1, .int _), (0, .ref _)]) hx hb dX1_spreadMarks_64 hl rfl (inc1 _) (by decide) rfl (fun ls hl => ?_)
    refine lv_goto (tgt := 39) hx hb dX1_spreadMarks_67 rfl ?_
    exact ih (i + 1) (va_up M 8 (upd (M 8) (par M q i) (M 8 (par M q i) ||| h))) _ _ _ (by omega) ok hj hm w (lv_sub hl [0, 1, 2, 3] rfl)

end XA
end
section
theorem inF_row {c : Nat} {h : Int32} {r : Nat} (hr : r ≠ 8) : ∀ {d t : Nat} {M : Mt}, inF c h d t M r = M r := by
  intro d
  induction d with
  | zero => intro t M; rfl
  | succ d ih => intro t M; rw [inF, ih, va_up_ne _ _ hr]
theorem spF_row {r : Nat} (hr : r ≠ 8) : ∀ {q : Nat} {M : Mt}, spF q M r = M r := by
  intro q
  induction q with
  | zero => intro M; rfl
  | succ q ih => intro M; rw [spF, ih, inF_row hr]
theorem clF_row {r : Nat} (hr : r ≠ 8) : ∀ {d i : Nat} {M : Mt}, clF d i M r = M r := by
  intro d
  induction d with
  | zero => intro i M; rfl
  | succ d ih => intro i M; rw [clF, ih, va_up_ne _ _ hr]
theorem mhF_row {r : Nat} (hr : r ≠ 8) : ∀ {d i : Nat} {M : Mt}, mhF d i M r = M r := by
  intro d
  induction d with
  | zero => intro i M; rfl
  | succ d ih => intro i M; rw [mhF, ih, va_up_ne _ _ hr]

section XB
variable {p : Program} {l : Launch} {e : Env} {R : Room} {s : State} {m : MethodId} {args : Array Value} {below : List Frame} {meth : Method} {c : Code} {H : Heap} {locs : List Loc} {cells slots : Nat} {Q : State → Prop} {ls : Array Slot} {w0 : Cond} {E : En} {M MF : Mt} {n k : Nat}
set_option maxHeartbeats 4000000 in
set_option maxRecDepth 100000 in
theorem lp_spread (K : cX E p m c cX1_spreadMarks 4 s args w0 RX1) (hR : 1 ≤ R.frames ∧ 22 ≤ R.locals) (hf : cells ≤ R.cells ∧ slots ≤ R.slots) (ret : ∀ {H : Heap} {locs : List Loc} {pc : Nat} {ls : Array Slot}, wst E s.heap MF n k H locs → decode cX1_spreadMarks pc = .ok (.return_, 1) → W p l e R s m args below meth c H locs cells slots Q (F0 m pc ls [])) : ∀ (q : Nat) (M : Mt) (H : Heap) (locs : List Loc) (ls : Array Slot), q ≤ n → okN M n → spF q M = MF → wst E s.heap M n k H locs → lv_has ls 4 [(1, .int (nI q - nI 1)), (0, .ref (ad E 0))] → W p l e R s m args below meth c H locs cells slots Q (F0 m 7 ls []) := by
  have hx := K.1.1
  have hb := K.1.2.1
  intro q
  induction q with
  | zero =>
    intro M H locs ls hq ok hm w hl
    refine lv_iload_n hx hb dX1_spreadMarks_7 rfl (lv_at hl 0 rfl) ?_
    refine lv_if_lt (tgt := 76) hx hb dX1_spreadMarks_8 rfl (fun _ => ?_) (fun h9 => absurd (by decide : nI 0 - nI 1 < 0) h9)
    exact ret (by rw [← hm]; exact w) dX1_spreadMarks_76
  | succ q ih =>
    intro M H locs ls hq ok hm w hl
    have hl : lv_has ls 4 [(1, .int (nI q)), (0, .ref (ad E 0))] := by
      rw [show nI (q + 1) - nI 1 = nI q from pk_sub (by omega)] at hl
      exact hl
    have hn := ok.1
    refine lv_iload_n hx hb dX1_spreadMarks_7 rfl (lv_at hl 0 rfl) ?_
    refine lv_if_lt (tgt := 76) hx hb dX1_spreadMarks_8 rfl (fun h9 => absurd h9 (nI_pos (by omega))) (fun _ => ?_)
    by_cases hc : cmF M q = true
    · refine lv_aload_n hx hb dX1_spreadMarks_11 rfl (lv_at hl 1 rfl) ?_
      refine lv_iload_n hx hb dX1_spreadMarks_12 rfl (lv_at hl 0 rfl) ?_
      refine calli K w (c_X1_isCommon K.2.2 (by omega)) (lk_X1_163 K ⟨Nat.le_trans (Nat.le_of_ble_eq_true rfl) hR.1, Nat.le_trans (Nat.le_of_ble_eq_true rfl) hR.2⟩) (recv0 K w) rfl hl.1 rfl (Nat.le_of_ble_eq_true rfl) dX1_spreadMarks_13 hf (fun H locs w => ?_)
      refine lv_if_eq (tgt := 30) hx hb dX1_spreadMarks_16 rfl (fun h9 => absurd h9 (by rw [hc]; decide)) (fun _ => ?_)
      refine lv_aload_n hx hb dX1_spreadMarks_19 rfl (lv_at hl 1 rfl) ?_
      refine gf_X1_marks K w dX1_spreadMarks_20 ?_
      refine lv_iload_n hx hb dX1_spreadMarks_23 rfl (lv_at hl 0 rfl) ?_
      refine ldN K w row8 (by omega) dX1_spreadMarks_24 ?_
      refine lv_iconst (v := nI 4) hx hb dX1_spreadMarks_25 (by decide) ?_
      refine lv_ior hx hb dX1_spreadMarks_26 ?_
      refine lv_goto (tgt := 36) hx hb dX1_spreadMarks_27 rfl ?_
      refine topE (y := hdF M q) (by rw [hdF, if_pos hc]) ?_
      refine lv_istore_n (lv' := [(2, .int _), (1, .int _), (0, .ref _)]) hx hb dX1_spreadMarks_36 rfl hl (by decide) rfl (fun ls hl => ?_)
      refine lv_iconst (v := nI 0) hx hb dX1_spreadMarks_37 (by decide) ?_
      refine lv_istore_n (lv' := [(3, .int _), (2, .int _), (1, .int _), (0, .ref _)]) hx hb dX1_spreadMarks_38 rfl hl (by decide) rfl (fun ls hl => ?_)
      refine lp_spin (j := pcn M q) K ⟨Nat.le_trans (Nat.le_of_ble_eq_true rfl) hR.1, Nat.le_trans (Nat.le_of_ble_eq_true rfl) hR.2⟩ hf (by omega) ok.1 (fun H locs ls w hl => ?_) (pcn M q) 0 M _ _ _ (by omega) ok rfl rfl w (lv_sub hl [0, 1, 2, 3] rfl)
      refine lv_iinc (k := 0) (v := nI q - nI 1) (lv' := [(1, .int _), (0, .ref _)]) hx hb dX1_spreadMarks_70 hl rfl (decm q) (by decide) rfl (fun ls hl => ?_)
      refine lv_goto (tgt := 7) hx hb dX1_spreadMarks_73 rfl ?_
      exact ih _ _ _ _ (by omega) (ok.rows (inF_row (by decide)) (inF_row (by decide))) hm w (lv_sub hl [0, 1] rfl)
    · refine lv_aload_n hx hb dX1_spreadMarks_11 rfl (lv_at hl 1 rfl) ?_
      refine lv_iload_n hx hb dX1_spreadMarks_12 rfl (lv_at hl 0 rfl) ?_
      refine calli K w (c_X1_isCommon K.2.2 (by omega)) (lk_X1_163 K ⟨Nat.le_trans (Nat.le_of_ble_eq_true rfl) hR.1, Nat.le_trans (Nat.le_of_ble_eq_true rfl) hR.2⟩) (recv0 K w) rfl hl.1 rfl (Nat.le_of_ble_eq_true rfl) dX1_spreadMarks_13 hf (fun H locs w => ?_)
      refine lv_if_eq (tgt := 30) hx hb dX1_spreadMarks_16 rfl (fun _ => ?_) (fun h9 => absurd (by rw [Bool.not_eq_true _ |>.mp hc]; rfl) h9)
      refine lv_aload_n hx hb dX1_spreadMarks_30 rfl (lv_at hl 1 rfl) ?_
      refine gf_X1_marks K w dX1_spreadMarks_31 ?_
      refine lv_iload_n hx hb dX1_spreadMarks_34 rfl (lv_at hl 0 rfl) ?_
      refine ldN K w row8 (by omega) dX1_spreadMarks_35 ?_
      refine topE (y := hdF M q) (by rw [hdF, if_neg hc]) ?_
      refine lv_istore_n (lv' := [(2, .int _), (1, .int _), (0, .ref _)]) hx hb dX1_spreadMarks_36 rfl hl (by decide) rfl (fun ls hl => ?_)
      refine lv_iconst (v := nI 0) hx hb dX1_spreadMarks_37 (by decide) ?_
      refine lv_istore_n (lv' := [(3, .int _), (2, .int _), (1, .int _), (0, .ref _)]) hx hb dX1_spreadMarks_38 rfl hl (by decide) rfl (fun ls hl => ?_)
      refine lp_spin (j := pcn M q) K ⟨Nat.le_trans (Nat.le_of_ble_eq_true rfl) hR.1, Nat.le_trans (Nat.le_of_ble_eq_true rfl) hR.2⟩ hf (by omega) ok.1 (fun H locs ls w hl => ?_) (pcn M q) 0 M _ _ _ (by omega) ok rfl rfl w (lv_sub hl [0, 1, 2, 3] rfl)
      refine lv_iinc (k := 0) (v := nI q - nI 1) (lv' := [(1, .int _), (0, .ref _)]) hx hb dX1_spreadMarks_70 hl rfl (decm q) (by decide) rfl (fun ls hl => ?_)
      refine lv_goto (tgt := 7) hx hb dX1_spreadMarks_73 rfl ?_
      exact ih _ _ _ _ (by omega) (ok.rows (inF_row (by decide)) (inF_row (by decide))) hm w (lv_sub hl [0, 1] rfl)

end XB
set_option maxHeartbeats 4000000 in
set_option maxRecDepth 100000 in
theorem c_X1_clearMarks {l : Launch} {E : En} {M : Mt} {n k : Nat} (dn : dN E) (hn : n ≤ 2000) : MV l yX1_clearMarks (.code yX1_clearMarks cX1_clearMarks 2 none) 0 0 E [.ref (ad E 0)] M n k  (clF n 0 M) (n) (k) := by
  refine MV.of dn (own := RX1) (by decide) rfl (Nat.le_of_ble_eq_true rfl) (fun p e s m args below meth c ls Q K w hl ret => ?_)
  have hx := K.1.1
  have hb := K.1.2.1
  have hR : 0 ≤ (rmA 0 0).frames ∧ 0 ≤ (rmA 0 0).locals := ⟨Nat.le_refl _, Nat.le_refl _⟩
  have hf : 0 ≤ (rmA 0 0).cells ∧ 0 ≤ (rmA 0 0).slots := ⟨Nat.le_refl _, Nat.le_refl _⟩
  have hl : lv_has ls 2 [(0, .ref (ad E 0))] := hl
  refine lv_iconst (v := nI 0) hx hb dX1_clearMarks_0 (by decide) ?_
  refine lv_istore_n (lv' := [(1, .int _), (0, .ref _)]) hx hb dX1_clearMarks_1 rfl hl (by decide) rfl (fun ls hl => ?_)
  exact lp_clear K hR hf ret hn n 0 M _ _ _ (by omega) rfl w hl

set_option maxHeartbeats 4000000 in
set_option maxRecDepth 100000 in
theorem c_X1_spreadMarks {l : Launch} {E : En} {M : Mt} {n k : Nat} (dn : dN E) (ok : okN M n) : MV l yX1_spreadMarks (.code yX1_spreadMarks cX1_spreadMarks 4 none) 1 22 E [.ref (ad E 0)] M n k  (spF n M) (n) (k) := by
  refine MV.of dn (own := RX1) (by decide) rfl (Nat.le_of_ble_eq_true rfl) (fun p e s m args below meth c ls Q K w hl ret => ?_)
  have hx := K.1.1
  have hb := K.1.2.1
  have hR : 1 ≤ (rmA 1 22).frames ∧ 22 ≤ (rmA 1 22).locals := ⟨Nat.le_refl _, Nat.le_refl _⟩
  have hf : 0 ≤ (rmA 1 22).cells ∧ 0 ≤ (rmA 1 22).slots := ⟨Nat.le_refl _, Nat.le_refl _⟩
  have hl : lv_has ls 4 [(0, .ref (ad E 0))] := hl
  refine lv_aload_n hx hb dX1_spreadMarks_0 rfl (lv_at hl 0 rfl) ?_
  refine gf_X1_commits K w dX1_spreadMarks_1 ?_
  refine lv_iconst (v := nI 1) hx hb dX1_spreadMarks_4 (by decide) ?_
  refine lv_isub hx hb dX1_spreadMarks_5 ?_
  refine lv_istore_n (lv' := [(1, .int _), (0, .ref _)]) hx hb dX1_spreadMarks_6 rfl hl (by decide) rfl (fun ls hl => ?_)
  exact lp_spread K hR hf ret n M _ _ _ (Nat.le_refl _) ok rfl w hl

set_option maxHeartbeats 4000000 in
set_option maxRecDepth 100000 in
theorem c_X1_markReachable {l : Launch} {E : En} {M : Mt} {n k : Nat} (dn : dN E) {q : Nat} (hq : q < n) (ok : okN M n) : MV l yX1_markReachable (.code yX1_markReachable cX1_markReachable 2 none) 2 45 E [.ref (ad E 0), .int (nI q)] M n k  (mrF M n q) (n) (k) := by
  refine MV.of dn (own := RX1) (by decide) rfl (Nat.le_of_ble_eq_true rfl) (fun p e s m args below meth c ls Q K w hl ret => ?_)
  have hx := K.1.1
  have hb := K.1.2.1
  have hR : 2 ≤ (rmA 2 45).frames ∧ 45 ≤ (rmA 2 45).locals := ⟨Nat.le_refl _, Nat.le_refl _⟩
  have hf : 0 ≤ (rmA 2 45).cells ∧ 0 ≤ (rmA 2 45).slots := ⟨Nat.le_refl _, Nat.le_refl _⟩
  have hl : lv_has ls 2 [(0, .ref (ad E 0)), (1, .int (nI q))] := hl
  have hn := ok.1
  refine lv_aload_n hx hb dX1_markReachable_0 rfl (lv_at hl 0 rfl) ?_
  refine callv K w (c_X1_clearMarks dn ok.1) (lk_X1_87 K ⟨Nat.le_trans (Nat.le_of_ble_eq_true rfl) hR.1, Nat.le_trans (Nat.le_of_ble_eq_true rfl) hR.2⟩) (recv0 K w) rfl hl.1 rfl (Nat.le_of_ble_eq_true rfl) dX1_markReachable_1 hf (fun H locs w => ?_)
  refine lv_aload_n hx hb dX1_markReachable_4 rfl (lv_at hl 0 rfl) ?_
  refine gf_X1_marks K w dX1_markReachable_5 ?_
  refine lv_iload_n hx hb dX1_markReachable_8 rfl (lv_at hl 1 rfl) ?_
  refine lv_iconst (v := nI 1) hx hb dX1_markReachable_9 (by decide) ?_
  refine stN K w row8 (by omega) dX1_markReachable_10 (fun H locs w => ?_)
  refine lv_aload_n hx hb dX1_markReachable_11 rfl (lv_at hl 0 rfl) ?_
  refine callv K w (c_X1_spreadMarks dn (ok.rows (clF_row (by decide)) (clF_row (by decide)))) (lk_X1_90 K ⟨Nat.le_trans (Nat.le_of_ble_eq_true rfl) hR.1, Nat.le_trans (Nat.le_of_ble_eq_true rfl) hR.2⟩) (recv0 K w) rfl hl.1 rfl (Nat.le_of_ble_eq_true rfl) dX1_markReachable_12 hf (fun H locs w => ?_)
  exact ret w dX1_markReachable_15

set_option maxHeartbeats 4000000 in
set_option maxRecDepth 100000 in
theorem c_X1_markHeld {l : Launch} {E : En} {M : Mt} {n k : Nat} (dn : dN E) (ok : okN M n) : MV l yX1_markHeld (.code yX1_markHeld cX1_markHeld 2 none) 2 45 E [.ref (ad E 0)] M n k  (hlF M n) (n) (k) := by
  refine MV.of dn (own := RX1) (by decide) rfl (Nat.le_of_ble_eq_true rfl) (fun p e s m args below meth c ls Q K w hl ret => ?_)
  have hx := K.1.1
  have hb := K.1.2.1
  have hR : 2 ≤ (rmA 2 45).frames ∧ 45 ≤ (rmA 2 45).locals := ⟨Nat.le_refl _, Nat.le_refl _⟩
  have hf : 0 ≤ (rmA 2 45).cells ∧ 0 ≤ (rmA 2 45).slots := ⟨Nat.le_refl _, Nat.le_refl _⟩
  have hl : lv_has ls 2 [(0, .ref (ad E 0))] := hl
  refine lv_iconst (v := nI 0) hx hb dX1_markHeld_0 (by decide) ?_
  refine lv_istore_n (lv' := [(1, .int _), (0, .ref _)]) hx hb dX1_markHeld_1 rfl hl (by decide) rfl (fun ls hl => ?_)
  refine lp_held K ⟨Nat.le_trans (Nat.le_of_ble_eq_true rfl) hR.1, Nat.le_trans (Nat.le_of_ble_eq_true rfl) hR.2⟩ hf (fun H locs ls w hl => ?_) ok.1 n 0 M _ _ _ (by omega) rfl w hl
  refine lv_aload_n hx hb dX1_markHeld_28 rfl (lv_at hl 0 rfl) ?_
  refine callv K w (c_X1_spreadMarks dn (ok.rows (mhF_row (by decide)) (mhF_row (by decide)))) (lk_X1_90 K ⟨Nat.le_trans (Nat.le_of_ble_eq_true rfl) hR.1, Nat.le_trans (Nat.le_of_ble_eq_true rfl) hR.2⟩) (recv0 K w) rfl hl.1 rfl (Nat.le_of_ble_eq_true rfl) dX1_markHeld_29 hf (fun H locs w => ?_)
  exact ret w dX1_markHeld_32
end
section
section XC
variable {p : Program} {l : Launch} {e : Env} {R : Room} {s : State} {m : MethodId} {args : Array Value} {below : List Frame} {meth : Method} {c : Code} {H : Heap} {locs : List Loc} {cells slots : Nat} {Q : State → Prop} {ls : Array Slot} {w0 : Cond} {E : En} {M MF : Mt} {n k : Nat}
set_option maxHeartbeats 4000000 in
set_option maxRecDepth 100000 in
theorem lp_marked (K : cX E p m c cX1_markedCommits 3 s args w0 RX1) (hR : 0 ≤ R.frames ∧ 0 ≤ R.locals) (hf : cells ≤ R.cells ∧ slots ≤ R.slots) {r : Nat} (hn : n ≤ 2000) (ret : ∀ {H : Heap} {locs : List Loc} {pc : Nat} {ls : Array Slot} {v : Int32}, wst E s.heap M n k H locs → v = nI r → decode cX1_markedCommits pc = .ok (.ireturn, 1) → W p l e R s m args below meth c H locs cells slots Q (F0 m pc ls [.int v])) : ∀ (d i : Nat) (a : Nat) (H : Heap) (locs : List Loc) (ls : Array Slot), i + d = n → cnF (fun j => decide (¬ M 8 j = 0)) d i a = r → wst E s.heap M n k H locs → lv_has ls 3 [(2, .int (nI i)), (1, .int (nI a)), (0, .ref (ad E 0))] → W p l e R s m args below meth c H locs cells slots Q (F0 m 4 ls []) := by
  have hx := K.1.1
  have hb := K.1.2.1
  intro d
  induction d with
  | zero =>
    intro i a H locs ls hi hm w hl
    refine lv_iload_n hx hb dX1_markedCommits_4 rfl (lv_at hl 0 rfl) ?_
    refine lv_aload_n hx hb dX1_markedCommits_5 rfl (lv_at hl 2 rfl) ?_
    refine gf_X1_commits K w dX1_markedCommits_6 ?_
    refine lv_icmp_ge (tgt := 30) hx hb dX1_markedCommits_9 rfl (fun _ => ?_) (fun h9 => absurd (nI_le (by omega) (by omega)) h9)
    refine lv_iload_n hx hb dX1_markedCommits_30 rfl (lv_at hl 1 rfl) ?_
    exact ret w (by rw [← hm]; rfl) dX1_markedCommits_31
  | succ d ih =>
    intro i a H locs ls hi hm w hl
    refine lv_iload_n hx hb dX1_markedCommits_4 rfl (lv_at hl 0 rfl) ?_
    refine lv_aload_n hx hb dX1_markedCommits_5 rfl (lv_at hl 2 rfl) ?_
    refine gf_X1_commits K w dX1_markedCommits_6 ?_
    refine lv_icmp_ge (tgt := 30) hx hb dX1_markedCommits_9 rfl (fun h9 => absurd h9 (nI_ge (by omega) (by omega))) (fun _ => ?_)
    by_cases hc : decide (¬ M 8 i = 0) = true
    · rw [cnF, if_pos hc] at hm
      refine lv_aload_n hx hb dX1_markedCommits_12 rfl (lv_at hl 2 rfl) ?_
      refine gf_X1_marks K w dX1_markedCommits_13 ?_
      refine lv_iload_n hx hb dX1_markedCommits_16 rfl (lv_at hl 0 rfl) ?_
      refine ldN K w row8 (by omega) dX1_markedCommits_17 ?_
      refine lv_if_eq (tgt := 24) hx hb dX1_markedCommits_18 rfl (fun h9 => absurd h9 (ne_t hc)) (fun _ => ?_)
      refine lv_iinc (k := 1) (v := nI (_ + 1)) (lv' := [(1, .int _), (2, .int _), (0, .ref _)]) hx hb dX1_markedCommits_21 hl rfl (inc1 _) (by decide) rfl (fun ls hl => ?_)
      refine lv_iinc (k := 1) (v := nI (_ + 1)) (lv' := [(2, .int _), (1, .int _), (0, .ref _)]) hx hb dX1_markedCommits_24 hl rfl (inc1 _) (by decide) rfl (fun ls hl => ?_)
      refine lv_goto (tgt := 4) hx hb dX1_markedCommits_27 rfl ?_
      exact ih (i + 1) _ _ _ _ (by omega) hm w (lv_sub hl [0, 1, 2] rfl)
    · rw [cnF, if_neg hc] at hm
      refine lv_aload_n hx hb dX1_markedCommits_12 rfl (lv_at hl 2 rfl) ?_
      refine gf_X1_marks K w dX1_markedCommits_13 ?_
      refine lv_iload_n hx hb dX1_markedCommits_16 rfl (lv_at hl 0 rfl) ?_
      refine ldN K w row8 (by omega) dX1_markedCommits_17 ?_
      refine lv_if_eq (tgt := 24) hx hb dX1_markedCommits_18 rfl (fun _ => ?_) (fun h9 => absurd (ne_f hc) h9)
      refine lv_iinc (k := 0) (v := nI (_ + 1)) (lv' := [(2, .int _), (1, .int _), (0, .ref _)]) hx hb dX1_markedCommits_24 hl rfl (inc1 _) (by decide) rfl (fun ls hl => ?_)
      refine lv_goto (tgt := 4) hx hb dX1_markedCommits_27 rfl ?_
      exact ih (i + 1) _ _ _ _ (by omega) hm w (lv_sub hl [0, 1, 2] rfl)

set_option maxHeartbeats 4000000 in
set_option maxRecDepth 100000 in
theorem lp_childless (K : cX E p m c cX1_childlessCommits 3 s args w0 RX1) (hR : 0 ≤ R.frames ∧ 0 ≤ R.locals) (hf : cells ≤ R.cells ∧ slots ≤ R.slots) {r : Nat} (hn : n ≤ 2000) (ret : ∀ {H : Heap} {locs : List Loc} {pc : Nat} {ls : Array Slot} {v : Int32}, wst E s.heap M n k H locs → v = nI r → decode cX1_childlessCommits pc = .ok (.ireturn, 1) → W p l e R s m args below meth c H locs cells slots Q (F0 m pc ls [.int v])) : ∀ (d i : Nat) (a : Nat) (H : Heap) (locs : List Loc) (ls : Array Slot), i + d = n → cnF (fun j => decide (M 6 j = 0)) d i a = r → wst E s.heap M n k H locs → lv_has ls 3 [(2, .int (nI i)), (1, .int (nI a)), (0, .ref (ad E 0))] → W p l e R s m args below meth c H locs cells slots Q (F0 m 4 ls []) := by
  have hx := K.1.1
  have hb := K.1.2.1
  intro d
  induction d with
  | zero =>
    intro i a H locs ls hi hm w hl
    refine lv_iload_n hx hb dX1_childlessCommits_4 rfl (lv_at hl 0 rfl) ?_
    refine lv_aload_n hx hb dX1_childlessCommits_5 rfl (lv_at hl 2 rfl) ?_
    refine gf_X1_commits K w dX1_childlessCommits_6 ?_
    refine lv_icmp_ge (tgt := 30) hx hb dX1_childlessCommits_9 rfl (fun _ => ?_) (fun h9 => absurd (nI_le (by omega) (by omega)) h9)
    refine lv_iload_n hx hb dX1_childlessCommits_30 rfl (lv_at hl 1 rfl) ?_
    exact ret w (by rw [← hm]; rfl) dX1_childlessCommits_31
  | succ d ih =>
    intro i a H locs ls hi hm w hl
    refine lv_iload_n hx hb dX1_childlessCommits_4 rfl (lv_at hl 0 rfl) ?_
    refine lv_aload_n hx hb dX1_childlessCommits_5 rfl (lv_at hl 2 rfl) ?_
    refine gf_X1_commits K w dX1_childlessCommits_6 ?_
    refine lv_icmp_ge (tgt := 30) hx hb dX1_childlessCommits_9 rfl (fun h9 => absurd h9 (nI_ge (by omega) (by omega))) (fun _ => ?_)
    by_cases hc : decide (M 6 i = 0) = true
    · rw [cnF, if_pos hc] at hm
      refine lv_aload_n hx hb dX1_childlessCommits_12 rfl (lv_at hl 2 rfl) ?_
      refine gf_X1_isParent K w dX1_childlessCommits_13 ?_
      refine lv_iload_n hx hb dX1_childlessCommits_16 rfl (lv_at hl 0 rfl) ?_
      refine ldZ K w (by omega) dX1_childlessCommits_17 ?_
      refine lv_if_ne (tgt := 24) hx hb dX1_childlessCommits_18 rfl (fun h9 => absurd (eq_t hc) h9) (fun _ => ?_)
      refine lv_iinc (k := 1) (v := nI (_ + 1)) (lv' := [(1, .int _), (2, .int _), (0, .ref _)]) hx hb dX1_childlessCommits_21 hl rfl (inc1 _) (by decide) rfl (fun ls hl => ?_)
      refine lv_iinc (k := 1) (v := nI (_ + 1)) (lv' := [(2, .int _), (1, .int _), (0, .ref _)]) hx hb dX1_childlessCommits_24 hl rfl (inc1 _) (by decide) rfl (fun ls hl => ?_)
      refine lv_goto (tgt := 4) hx hb dX1_childlessCommits_27 rfl ?_
      exact ih (i + 1) _ _ _ _ (by omega) hm w (lv_sub hl [0, 1, 2] rfl)
    · rw [cnF, if_neg hc] at hm
      refine lv_aload_n hx hb dX1_childlessCommits_12 rfl (lv_at hl 2 rfl) ?_
      refine gf_X1_isParent K w dX1_childlessCommits_13 ?_
      refine lv_iload_n hx hb dX1_childlessCommits_16 rfl (lv_at hl 0 rfl) ?_
      refine ldZ K w (by omega) dX1_childlessCommits_17 ?_
      refine lv_if_ne (tgt := 24) hx hb dX1_childlessCommits_18 rfl (fun _ => ?_) (fun h9 => absurd h9 (eq_f hc))
      refine lv_iinc (k := 0) (v := nI (_ + 1)) (lv' := [(2, .int _), (1, .int _), (0, .ref _)]) hx hb dX1_childlessCommits_24 hl rfl (inc1 _) (by decide) rfl (fun ls hl => ?_)
      refine lv_goto (tgt := 4) hx hb dX1_childlessCommits_27 rfl ?_
      exact ih (i + 1) _ _ _ _ (by omega) hm w (lv_sub hl [0, 1, 2] rfl)

set_option maxHeartbeats 4000000 in
set_option maxRecDepth 100000 in
theorem lp_common (K : cX E p m c cX1_commonCommits 3 s args w0 RX1) (hR : 1 ≤ R.frames ∧ 21 ≤ R.locals) (hf : cells ≤ R.cells ∧ slots ≤ R.slots) {r : Nat} (hn : n ≤ 2000) (ret : ∀ {H : Heap} {locs : List Loc} {pc : Nat} {ls : Array Slot} {v : Int32}, wst E s.heap M n k H locs → v = nI r → decode cX1_commonCommits pc = .ok (.ireturn, 1) → W p l e R s m args below meth c H locs cells slots Q (F0 m pc ls [.int v])) : ∀ (d i : Nat) (a : Nat) (H : Heap) (locs : List Loc) (ls : Array Slot), i + d = n → cnF (fun j => cmF M j) d i a = r → wst E s.heap M n k H locs → lv_has ls 3 [(2, .int (nI i)), (1, .int (nI a)), (0, .ref (ad E 0))] → W p l e R s m args below meth c H locs cells slots Q (F0 m 8 ls []) := by
  have hx := K.1.1
  have hb := K.1.2.1
  intro d
  induction d with
  | zero =>
    intro i a H locs ls hi hm w hl
    refine lv_iload_n hx hb dX1_commonCommits_8 rfl (lv_at hl 0 rfl) ?_
    refine lv_aload_n hx hb dX1_commonCommits_9 rfl (lv_at hl 2 rfl) ?_
    refine gf_X1_commits K w dX1_commonCommits_10 ?_
    refine lv_icmp_ge (tgt := 33) hx hb dX1_commonCommits_13 rfl (fun _ => ?_) (fun h9 => absurd (nI_le (by omega) (by omega)) h9)
    refine lv_iload_n hx hb dX1_commonCommits_33 rfl (lv_at hl 1 rfl) ?_
    exact ret w (by rw [← hm]; rfl) dX1_commonCommits_34
  | succ d ih =>
    intro i a H locs ls hi hm w hl
    refine lv_iload_n hx hb dX1_commonCommits_8 rfl (lv_at hl 0 rfl) ?_
    refine lv_aload_n hx hb dX1_commonCommits_9 rfl (lv_at hl 2 rfl) ?_
    refine gf_X1_commits K w dX1_commonCommits_10 ?_
    refine lv_icmp_ge (tgt := 33) hx hb dX1_commonCommits_13 rfl (fun h9 => absurd h9 (nI_ge (by omega) (by omega))) (fun _ => ?_)
    by_cases hc : cmF M i = true
    · rw [cnF, if_pos hc] at hm
      refine lv_aload_n hx hb dX1_commonCommits_16 rfl (lv_at hl 2 rfl) ?_
      refine lv_iload_n hx hb dX1_commonCommits_17 rfl (lv_at hl 0 rfl) ?_
      refine calli K w (c_X1_isCommon K.2.2 (by omega)) (lk_X1_163 K ⟨Nat.le_trans (Nat.le_of_ble_eq_true rfl) hR.1, Nat.le_trans (Nat.le_of_ble_eq_true rfl) hR.2⟩) (recv0 K w) rfl hl.1 rfl (Nat.le_of_ble_eq_true rfl) dX1_commonCommits_18 hf (fun H locs w => ?_)
      refine lv_if_eq (tgt := 27) hx hb dX1_commonCommits_21 rfl (fun h9 => absurd h9 (by rw [hc]; decide)) (fun _ => ?_)
      refine lv_iinc (k := 1) (v := nI (_ + 1)) (lv' := [(1, .int _), (2, .int _), (0, .ref _)]) hx hb dX1_commonCommits_24 hl rfl (inc1 _) (by decide) rfl (fun ls hl => ?_)
      refine lv_iinc (k := 1) (v := nI (_ + 1)) (lv' := [(2, .int _), (1, .int _), (0, .ref _)]) hx hb dX1_commonCommits_27 hl rfl (inc1 _) (by decide) rfl (fun ls hl => ?_)
      refine lv_goto (tgt := 8) hx hb dX1_commonCommits_30 rfl ?_
      exact ih (i + 1) _ _ _ _ (by omega) hm w (lv_sub hl [0, 1, 2] rfl)
    · rw [cnF, if_neg hc] at hm
      refine lv_aload_n hx hb dX1_commonCommits_16 rfl (lv_at hl 2 rfl) ?_
      refine lv_iload_n hx hb dX1_commonCommits_17 rfl (lv_at hl 0 rfl) ?_
      refine calli K w (c_X1_isCommon K.2.2 (by omega)) (lk_X1_163 K ⟨Nat.le_trans (Nat.le_of_ble_eq_true rfl) hR.1, Nat.le_trans (Nat.le_of_ble_eq_true rfl) hR.2⟩) (recv0 K w) rfl hl.1 rfl (Nat.le_of_ble_eq_true rfl) dX1_commonCommits_18 hf (fun H locs w => ?_)
      refine lv_if_eq (tgt := 27) hx hb dX1_commonCommits_21 rfl (fun _ => ?_) (fun h9 => absurd (by rw [Bool.not_eq_true _ |>.mp hc]; rfl) h9)
      refine lv_iinc (k := 0) (v := nI (_ + 1)) (lv' := [(2, .int _), (1, .int _), (0, .ref _)]) hx hb dX1_commonCommits_27 hl rfl (inc1 _) (by decide) rfl (fun ls hl => ?_)
      refine lv_goto (tgt := 8) hx hb dX1_commonCommits_30 rfl ?_
      exact ih (i + 1) _ _ _ _ (by omega) hm w (lv_sub hl [0, 1, 2] rfl)

set_option maxHeartbeats 4000000 in
set_option maxRecDepth 100000 in
theorem lp_tips (K : cX E p m c cX1_tipsOf 4 s args w0 RX1) (hR : 1 ≤ R.frames ∧ 20 ≤ R.locals) (hf : cells ≤ R.cells ∧ slots ≤ R.slots) {r h : Nat} (hh : h < 2147483648) (hn : n ≤ 2000) (ret : ∀ {H : Heap} {locs : List Loc} {pc : Nat} {ls : Array Slot} {v : Int32}, wst E s.heap M n k H locs → v = nI r → decode cX1_tipsOf pc = .ok (.ireturn, 1) → W p l e R s m args below meth c H locs cells slots Q (F0 m pc ls [.int v])) : ∀ (d i : Nat) (a : Nat) (H : Heap) (locs : List Loc) (ls : Array Slot), i + d = n → cnF (fun j => decide (¬ M 7 j &&& sdF h = 0)) d i a = r → wst E s.heap M n k H locs → lv_has ls 4 [(3, .int (nI i)), (2, .int (nI a)), (1, .int (nI h)), (0, .ref (ad E 0))] → W p l e R s m args below meth c H locs cells slots Q (F0 m 4 ls []) := by
  have hx := K.1.1
  have hb := K.1.2.1
  intro d
  induction d with
  | zero =>
    intro i a H locs ls hi hm w hl
    refine lv_iload_n hx hb dX1_tipsOf_4 rfl (lv_at hl 0 rfl) ?_
    refine lv_aload_n hx hb dX1_tipsOf_5 rfl (lv_at hl 3 rfl) ?_
    refine gf_X1_commits K w dX1_tipsOf_6 ?_
    refine lv_icmp_ge (tgt := 35) hx hb dX1_tipsOf_9 rfl (fun _ => ?_) (fun h9 => absurd (nI_le (by omega) (by omega)) h9)
    refine lv_iload_n hx hb dX1_tipsOf_35 rfl (lv_at hl 1 rfl) ?_
    exact ret w (by rw [← hm]; rfl) dX1_tipsOf_36
  | succ d ih =>
    intro i a H locs ls hi hm w hl
    refine lv_iload_n hx hb dX1_tipsOf_4 rfl (lv_at hl 0 rfl) ?_
    refine lv_aload_n hx hb dX1_tipsOf_5 rfl (lv_at hl 3 rfl) ?_
    refine gf_X1_commits K w dX1_tipsOf_6 ?_
    refine lv_icmp_ge (tgt := 35) hx hb dX1_tipsOf_9 rfl (fun h9 => absurd h9 (nI_ge (by omega) (by omega))) (fun _ => ?_)
    by_cases hc : decide (¬ M 7 i &&& sdF h = 0) = true
    · rw [cnF, if_pos hc] at hm
      refine lv_aload_n hx hb dX1_tipsOf_12 rfl (lv_at hl 3 rfl) ?_
      refine gf_X1_tips K w dX1_tipsOf_13 ?_
      refine lv_iload_n hx hb dX1_tipsOf_16 rfl (lv_at hl 0 rfl) ?_
      refine ldN K w row7 (by omega) dX1_tipsOf_17 ?_
      refine lv_iload_n hx hb dX1_tipsOf_18 rfl (lv_at hl 2 rfl) ?_
      refine callsi K w (c_X1_sideOf K.2.2 hh) (lk_X1_80 K ⟨Nat.le_trans (Nat.le_of_ble_eq_true rfl) hR.1, Nat.le_trans (Nat.le_of_ble_eq_true rfl) hR.2⟩) rfl hl.1 rfl (Nat.le_of_ble_eq_true rfl) dX1_tipsOf_19 hf (fun H locs w => ?_)
      refine lv_iand hx hb dX1_tipsOf_22 ?_
      refine lv_if_eq (tgt := 29) hx hb dX1_tipsOf_23 rfl (fun h9 => absurd h9 (ne_t hc)) (fun _ => ?_)
      refine lv_iinc (k := 1) (v := nI (_ + 1)) (lv' := [(2, .int _), (3, .int _), (1, .int _), (0, .ref _)]) hx hb dX1_tipsOf_26 hl rfl (inc1 _) (by decide) rfl (fun ls hl => ?_)
      refine lv_iinc (k := 1) (v := nI (_ + 1)) (lv' := [(3, .int _), (2, .int _), (1, .int _), (0, .ref _)]) hx hb dX1_tipsOf_29 hl rfl (inc1 _) (by decide) rfl (fun ls hl => ?_)
      refine lv_goto (tgt := 4) hx hb dX1_tipsOf_32 rfl ?_
      exact ih (i + 1) _ _ _ _ (by omega) hm w (lv_sub hl [0, 1, 2, 3] rfl)
    · rw [cnF, if_neg hc] at hm
      refine lv_aload_n hx hb dX1_tipsOf_12 rfl (lv_at hl 3 rfl) ?_
      refine gf_X1_tips K w dX1_tipsOf_13 ?_
      refine lv_iload_n hx hb dX1_tipsOf_16 rfl (lv_at hl 0 rfl) ?_
      refine ldN K w row7 (by omega) dX1_tipsOf_17 ?_
      refine lv_iload_n hx hb dX1_tipsOf_18 rfl (lv_at hl 2 rfl) ?_
      refine callsi K w (c_X1_sideOf K.2.2 hh) (lk_X1_80 K ⟨Nat.le_trans (Nat.le_of_ble_eq_true rfl) hR.1, Nat.le_trans (Nat.le_of_ble_eq_true rfl) hR.2⟩) rfl hl.1 rfl (Nat.le_of_ble_eq_true rfl) dX1_tipsOf_19 hf (fun H locs w => ?_)
      refine lv_iand hx hb dX1_tipsOf_22 ?_
      refine lv_if_eq (tgt := 29) hx hb dX1_tipsOf_23 rfl (fun _ => ?_) (fun h9 => absurd (ne_f hc) h9)
      refine lv_iinc (k := 0) (v := nI (_ + 1)) (lv' := [(3, .int _), (2, .int _), (1, .int _), (0, .ref _)]) hx hb dX1_tipsOf_29 hl rfl (inc1 _) (by decide) rfl (fun ls hl => ?_)
      refine lv_goto (tgt := 4) hx hb dX1_tipsOf_32 rfl ?_
      exact ih (i + 1) _ _ _ _ (by omega) hm w (lv_sub hl [0, 1, 2, 3] rfl)

set_option maxHeartbeats 4000000 in
set_option maxRecDepth 100000 in
theorem lp_great (K : cX E p m c cX1_greatestGeneration 3 s args w0 RX1) (hR : 1 ≤ R.frames ∧ 24 ≤ R.locals) (hf : cells ≤ R.cells ∧ slots ≤ R.slots) {r : Int32} (hn : n ≤ 2000) (ret : ∀ {H : Heap} {locs : List Loc} {pc : Nat} {ls : Array Slot} {v : Int32}, wst E s.heap M n k H locs → v = r → decode cX1_greatestGeneration pc = .ok (.ireturn, 1) → W p l e R s m args below meth c H locs cells slots Q (F0 m pc ls [.int v])) : ∀ (d i : Nat) (a : Int32) (H : Heap) (locs : List Loc) (ls : Array Slot), i + d = n → ggF (M 3) d i a = r → wst E s.heap M n k H locs → lv_has ls 3 [(2, .int (nI i)), (1, .int a), (0, .ref (ad E 0))] → W p l e R s m args below meth c H locs cells slots Q (F0 m 4 ls []) := by
  have hx := K.1.1
  have hb := K.1.2.1
  intro d
  induction d with
  | zero =>
    intro i a H locs ls hi hm w hl
    refine lv_iload_n hx hb dX1_greatestGeneration_4 rfl (lv_at hl 0 rfl) ?_
    refine lv_aload_n hx hb dX1_greatestGeneration_5 rfl (lv_at hl 2 rfl) ?_
    refine gf_X1_commits K w dX1_greatestGeneration_6 ?_
    refine lv_icmp_ge (tgt := 29) hx hb dX1_greatestGeneration_9 rfl (fun _ => ?_) (fun h9 => absurd (nI_le (by omega) (by omega)) h9)
    refine lv_iload_n hx hb dX1_greatestGeneration_29 rfl (lv_at hl 1 rfl) ?_
    exact ret w (by rw [← hm]; rfl) dX1_greatestGeneration_30
  | succ d ih =>
    intro i a H locs ls hi hm w hl
    refine lv_iload_n hx hb dX1_greatestGeneration_4 rfl (lv_at hl 0 rfl) ?_
    refine lv_aload_n hx hb dX1_greatestGeneration_5 rfl (lv_at hl 2 rfl) ?_
    refine gf_X1_commits K w dX1_greatestGeneration_6 ?_
    refine lv_icmp_ge (tgt := 29) hx hb dX1_greatestGeneration_9 rfl (fun h9 => absurd h9 (nI_ge (by omega) (by omega))) (fun _ => ?_)
    refine lv_iload_n hx hb dX1_greatestGeneration_12 rfl (lv_at hl 1 rfl) ?_
    refine lv_aload_n hx hb dX1_greatestGeneration_13 rfl (lv_at hl 2 rfl) ?_
    refine gf_X1_generations K w dX1_greatestGeneration_14 ?_
    refine lv_iload_n hx hb dX1_greatestGeneration_17 rfl (lv_at hl 0 rfl) ?_
    refine ldN K w row3 (by omega) dX1_greatestGeneration_18 ?_
    refine mmaxN K ⟨Nat.le_trans (Nat.le_of_ble_eq_true rfl) hR.1, Nat.le_trans (Nat.le_of_ble_eq_true rfl) hR.2⟩ hf (Nat.le_of_ble_eq_true rfl) hl.1 dX1_greatestGeneration_19 ?_
    refine lv_istore_n (lv' := [(1, .int _), (2, .int _), (0, .ref _)]) hx hb dX1_greatestGeneration_22 rfl hl (by decide) rfl (fun ls hl => ?_)
    refine lv_iinc (k := 1) (v := nI (_ + 1)) (lv' := [(2, .int _), (1, .int _), (0, .ref _)]) hx hb dX1_greatestGeneration_23 hl rfl (inc1 _) (by decide) rfl (fun ls hl => ?_)
    refine lv_goto (tgt := 4) hx hb dX1_greatestGeneration_26 rfl ?_
    exact ih (i + 1) _ _ _ _ (by omega) hm w (lv_sub hl [0, 1, 2] rfl)

set_option maxHeartbeats 4000000 in
set_option maxRecDepth 100000 in
theorem lp_hpn (K : cX E p m c cX1_hasParentNotBelow 3 s args w0 RX1) (hR : 1 ≤ R.frames ∧ 22 ≤ R.locals) (hf : cells ≤ R.cells ∧ slots ≤ R.slots) {q j : Nat} (hq : q < n) (ok : okN M n) (hj : pcn M q = j) (ret : ∀ {H : Heap} {locs : List Loc} {pc : Nat} {ls : Array Slot} {v : Int32}, wst E s.heap M n k H locs → v = nI 0 → decode cX1_hasParentNotBelow pc = .ok (.ireturn, 1) → W p l e R s m args below meth c H locs cells slots Q (F0 m pc ls [.int v])) : ∀ (d i : Nat) (H : Heap) (locs : List Loc) (ls : Array Slot), i + d = j → wst E s.heap M n k H locs → lv_has ls 3 [(2, .int (nI i)), (1, .int (nI q)), (0, .ref (ad E 0))] → W p l e R s m args below meth c H locs cells slots Q (F0 m 2 ls []) := by
  have hx := K.1.1
  have hb := K.1.2.1
  intro d
  induction d with
  | zero =>
    intro i H locs ls hi w hl
    have h4 := ok.le hq
    have hn := ok.1
    refine lv_iload_n hx hb dX1_hasParentNotBelow_2 rfl (lv_at hl 0 rfl) ?_
    refine lv_aload_n hx hb dX1_hasParentNotBelow_3 rfl (lv_at hl 2 rfl) ?_
    refine gf_X1_parentCounts K w dX1_hasParentNotBelow_4 ?_
    refine lv_iload_n hx hb dX1_hasParentNotBelow_7 rfl (lv_at hl 1 rfl) ?_
    refine ldN K w row4 (by omega) dX1_hasParentNotBelow_8 ?_
    refine topE (y := nI (pcn M q)) (ok.pc hq) ?_
    rw [hj]
    refine lv_icmp_ge (tgt := 30) hx hb dX1_hasParentNotBelow_9 rfl (fun _ => ?_) (fun h9 => absurd (nI_le (by omega) (by omega)) h9)
    refine lv_iconst (v := nI 0) hx hb dX1_hasParentNotBelow_30 (by decide) ?_
    exact ret w rfl dX1_hasParentNotBelow_31
  | succ d ih =>
    intro i H locs ls hi w hl
    have h4 := ok.le hq
    have hn := ok.1
    have h5 := ok.lt hq (t := i) (by omega)
    refine lv_iload_n hx hb dX1_hasParentNotBelow_2 rfl (lv_at hl 0 rfl) ?_
    refine lv_aload_n hx hb dX1_hasParentNotBelow_3 rfl (lv_at hl 2 rfl) ?_
    refine gf_X1_parentCounts K w dX1_hasParentNotBelow_4 ?_
    refine lv_iload_n hx hb dX1_hasParentNotBelow_7 rfl (lv_at hl 1 rfl) ?_
    refine ldN K w row4 (by omega) dX1_hasParentNotBelow_8 ?_
    refine topE (y := nI (pcn M q)) (ok.pc hq) ?_
    rw [hj]
    refine lv_icmp_ge (tgt := 30) hx hb dX1_hasParentNotBelow_9 rfl (fun h9 => absurd h9 (nI_ge (by omega) (by omega))) (fun _ => ?_)
    refine lv_aload_n hx hb dX1_hasParentNotBelow_12 rfl (lv_at hl 2 rfl) ?_
    refine lv_iload_n hx hb dX1_hasParentNotBelow_13 rfl (lv_at hl 1 rfl) ?_
    refine lv_iload_n hx hb dX1_hasParentNotBelow_14 rfl (lv_at hl 0 rfl) ?_
    refine calli K w (c_X1_parentOf K.2.2 (by omega) (ok.pr hq (by omega))) (lk_X1_120 K ⟨Nat.le_trans (Nat.le_of_ble_eq_true rfl) hR.1, Nat.le_trans (Nat.le_of_ble_eq_true rfl) hR.2⟩) (recv0 K w) rfl hl.1 rfl (Nat.le_of_ble_eq_true rfl) dX1_hasParentNotBelow_15 hf (fun H locs w => ?_)
    refine lv_iload_n hx hb dX1_hasParentNotBelow_18 rfl (lv_at hl 1 rfl) ?_
    refine lv_icmp_lt (tgt := 24) hx hb dX1_hasParentNotBelow_19 rfl (fun _ => ?_) (fun h9 => absurd (nI_lt h5 (by omega)) h9)
    refine lv_iinc (k := 0) (v := nI (_ + 1)) (lv' := [(2, .int _), (1, .int _), (0, .ref _)]) hx hb dX1_hasParentNotBelow_24 hl rfl (inc1 _) (by decide) rfl (fun ls hl => ?_)
    refine lv_goto (tgt := 2) hx hb dX1_hasParentNotBelow_27 rfl ?_
    exact ih (i + 1) _ _ _ (by omega) w (lv_sub hl [0, 1, 2] rfl)

end XC
set_option maxHeartbeats 4000000 in
set_option maxRecDepth 100000 in
theorem c_X1_markedCommits {l : Launch} {E : En} {M : Mt} {n k : Nat} (dn : dN E) (hn : n ≤ 2000) : MI l yX1_markedCommits (.code yX1_markedCommits cX1_markedCommits 3 (some .int)) 0 0 E [.ref (ad E 0)] M n k (nI (cnF (fun j => decide (¬ M 8 j = 0)) n 0 0))  (M) (n) (k) := by
  refine MI.of dn (own := RX1) (by decide) rfl (Nat.le_of_ble_eq_true rfl) (fun p e s m args below meth c ls Q K w hl ret => ?_)
  have hx := K.1.1
  have hb := K.1.2.1
  have hR : 0 ≤ (rmA 0 0).frames ∧ 0 ≤ (rmA 0 0).locals := ⟨Nat.le_refl _, Nat.le_refl _⟩
  have hf : 0 ≤ (rmA 0 0).cells ∧ 0 ≤ (rmA 0 0).slots := ⟨Nat.le_refl _, Nat.le_refl _⟩
  have hl : lv_has ls 3 [(0, .ref (ad E 0))] := hl
  refine lv_iconst (v := nI 0) hx hb dX1_markedCommits_0 (by decide) ?_
  refine lv_istore_n (lv' := [(1, .int _), (0, .ref _)]) hx hb dX1_markedCommits_1 rfl hl (by decide) rfl (fun ls hl => ?_)
  refine lv_iconst (v := nI 0) hx hb dX1_markedCommits_2 (by decide) ?_
  refine lv_istore_n (lv' := [(2, .int _), (1, .int _), (0, .ref _)]) hx hb dX1_markedCommits_3 rfl hl (by decide) rfl (fun ls hl => ?_)
  exact lp_marked K hR hf hn ret n 0 0 _ _ _ (by omega) rfl w hl

set_option maxHeartbeats 4000000 in
set_option maxRecDepth 100000 in
theorem c_X1_childlessCommits {l : Launch} {E : En} {M : Mt} {n k : Nat} (dn : dN E) (hn : n ≤ 2000) : MI l yX1_childlessCommits (.code yX1_childlessCommits cX1_childlessCommits 3 (some .int)) 0 0 E [.ref (ad E 0)] M n k (nI (cnF (fun j => decide (M 6 j = 0)) n 0 0))  (M) (n) (k) := by
  refine MI.of dn (own := RX1) (by decide) rfl (Nat.le_of_ble_eq_true rfl) (fun p e s m args below meth c ls Q K w hl ret => ?_)
  have hx := K.1.1
  have hb := K.1.2.1
  have hR : 0 ≤ (rmA 0 0).frames ∧ 0 ≤ (rmA 0 0).locals := ⟨Nat.le_refl _, Nat.le_refl _⟩
  have hf : 0 ≤ (rmA 0 0).cells ∧ 0 ≤ (rmA 0 0).slots := ⟨Nat.le_refl _, Nat.le_refl _⟩
  have hl : lv_has ls 3 [(0, .ref (ad E 0))] := hl
  refine lv_iconst (v := nI 0) hx hb dX1_childlessCommits_0 (by decide) ?_
  refine lv_istore_n (lv' := [(1, .int _), (0, .ref _)]) hx hb dX1_childlessCommits_1 rfl hl (by decide) rfl (fun ls hl => ?_)
  refine lv_iconst (v := nI 0) hx hb dX1_childlessCommits_2 (by decide) ?_
  refine lv_istore_n (lv' := [(2, .int _), (1, .int _), (0, .ref _)]) hx hb dX1_childlessCommits_3 rfl hl (by decide) rfl (fun ls hl => ?_)
  exact lp_childless K hR hf hn ret n 0 0 _ _ _ (by omega) rfl w hl

set_option maxHeartbeats 4000000 in
set_option maxRecDepth 100000 in
theorem c_X1_commonCommits {l : Launch} {E : En} {M : Mt} {n k : Nat} (dn : dN E) (ok : okN M n) : MI l yX1_commonCommits (.code yX1_commonCommits cX1_commonCommits 3 (some .int)) 3 66 E [.ref (ad E 0)] M n k (nI (cnF (fun j => cmF (hlF M n) j) n 0 0))  (hlF M n) (n) (k) := by
  refine MI.of dn (own := RX1) (by decide) rfl (Nat.le_of_ble_eq_true rfl) (fun p e s m args below meth c ls Q K w hl ret => ?_)
  have hx := K.1.1
  have hb := K.1.2.1
  have hR : 3 ≤ (rmA 3 66).frames ∧ 66 ≤ (rmA 3 66).locals := ⟨Nat.le_refl _, Nat.le_refl _⟩
  have hf : 0 ≤ (rmA 3 66).cells ∧ 0 ≤ (rmA 3 66).slots := ⟨Nat.le_refl _, Nat.le_refl _⟩
  have hl : lv_has ls 3 [(0, .ref (ad E 0))] := hl
  refine lv_aload_n hx hb dX1_commonCommits_0 rfl (lv_at hl 0 rfl) ?_
  refine callv K w (c_X1_markHeld dn ok) (lk_X1_123 K ⟨Nat.le_trans (Nat.le_of_ble_eq_true rfl) hR.1, Nat.le_trans (Nat.le_of_ble_eq_true rfl) hR.2⟩) (recv0 K w) rfl hl.1 rfl (Nat.le_of_ble_eq_true rfl) dX1_commonCommits_1 hf (fun H locs w => ?_)
  refine lv_iconst (v := nI 0) hx hb dX1_commonCommits_4 (by decide) ?_
  refine lv_istore_n (lv' := [(1, .int _), (0, .ref _)]) hx hb dX1_commonCommits_5 rfl hl (by decide) rfl (fun ls hl => ?_)
  refine lv_iconst (v := nI 0) hx hb dX1_commonCommits_6 (by decide) ?_
  refine lv_istore_n (lv' := [(2, .int _), (1, .int _), (0, .ref _)]) hx hb dX1_commonCommits_7 rfl hl (by decide) rfl (fun ls hl => ?_)
  exact lp_common K ⟨Nat.le_trans (Nat.le_of_ble_eq_true rfl) hR.1, Nat.le_trans (Nat.le_of_ble_eq_true rfl) hR.2⟩ hf ok.1 ret n 0 0 _ _ _ (by omega) rfl w hl

set_option maxHeartbeats 4000000 in
set_option maxRecDepth 100000 in
theorem c_X1_tipsOf {l : Launch} {E : En} {M : Mt} {n k : Nat} (dn : dN E) {h : Nat} (hh : h < 2147483648) (hn : n ≤ 2000) : MI l yX1_tipsOf (.code yX1_tipsOf cX1_tipsOf 4 (some .int)) 1 20 E [.ref (ad E 0), .int (nI h)] M n k (nI (cnF (fun j => decide (¬ M 7 j &&& sdF h = 0)) n 0 0))  (M) (n) (k) := by
  refine MI.of dn (own := RX1) (by decide) rfl (Nat.le_of_ble_eq_true rfl) (fun p e s m args below meth c ls Q K w hl ret => ?_)
  have hx := K.1.1
  have hb := K.1.2.1
  have hR : 1 ≤ (rmA 1 20).frames ∧ 20 ≤ (rmA 1 20).locals := ⟨Nat.le_refl _, Nat.le_refl _⟩
  have hf : 0 ≤ (rmA 1 20).cells ∧ 0 ≤ (rmA 1 20).slots := ⟨Nat.le_refl _, Nat.le_refl _⟩
  have hl : lv_has ls 4 [(0, .ref (ad E 0)), (1, .int (nI h))] := hl
  refine lv_iconst (v := nI 0) hx hb dX1_tipsOf_0 (by decide) ?_
  refine lv_istore_n (lv' := [(2, .int _), (0, .ref _), (1, .int _)]) hx hb dX1_tipsOf_1 rfl hl (by decide) rfl (fun ls hl => ?_)
  refine lv_iconst (v := nI 0) hx hb dX1_tipsOf_2 (by decide) ?_
  refine lv_istore_n (lv' := [(3, .int _), (2, .int _), (0, .ref _), (1, .int _)]) hx hb dX1_tipsOf_3 rfl hl (by decide) rfl (fun ls hl => ?_)
  exact lp_tips K hR hf hh hn ret n 0 0 _ _ _ (by omega) rfl w (lv_sub hl [0, 1, 3, 2] rfl)

set_option maxHeartbeats 4000000 in
set_option maxRecDepth 100000 in
theorem c_X1_greatestGeneration {l : Launch} {E : En} {M : Mt} {n k : Nat} (dn : dN E) (hn : n ≤ 2000) : MI l yX1_greatestGeneration (.code yX1_greatestGeneration cX1_greatestGeneration 3 (some .int)) 1 24 E [.ref (ad E 0)] M n k (ggF (M 3) n 0 (nI 0))  (M) (n) (k) := by
  refine MI.of dn (own := RX1) (by decide) rfl (Nat.le_of_ble_eq_true rfl) (fun p e s m args below meth c ls Q K w hl ret => ?_)
  have hx := K.1.1
  have hb := K.1.2.1
  have hR : 1 ≤ (rmA 1 24).frames ∧ 24 ≤ (rmA 1 24).locals := ⟨Nat.le_refl _, Nat.le_refl _⟩
  have hf : 0 ≤ (rmA 1 24).cells ∧ 0 ≤ (rmA 1 24).slots := ⟨Nat.le_refl _, Nat.le_refl _⟩
  have hl : lv_has ls 3 [(0, .ref (ad E 0))] := hl
  refine lv_iconst (v := nI 0) hx hb dX1_greatestGeneration_0 (by decide) ?_
  refine lv_istore_n (lv' := [(1, .int _), (0, .ref _)]) hx hb dX1_greatestGeneration_1 rfl hl (by decide) rfl (fun ls hl => ?_)
  refine lv_iconst (v := nI 0) hx hb dX1_greatestGeneration_2 (by decide) ?_
  refine lv_istore_n (lv' := [(2, .int _), (1, .int _), (0, .ref _)]) hx hb dX1_greatestGeneration_3 rfl hl (by decide) rfl (fun ls hl => ?_)
  exact lp_great K hR hf hn ret n 0 _ _ _ _ (by omega) rfl w hl

set_option maxHeartbeats 4000000 in
set_option maxRecDepth 100000 in
theorem c_X1_hasParentNotBelow {l : Launch} {E : En} {M : Mt} {n k : Nat} (dn : dN E) {q : Nat} (hq : q < n) (ok : okN M n) : MI l yX1_hasParentNotBelow (.code yX1_hasParentNotBelow cX1_hasParentNotBelow 3 (some .boolean)) 1 22 E [.ref (ad E 0), .int (nI q)] M n k (nI 0)  (M) (n) (k) := by
  refine MI.ofZ dn (own := RX1) (by decide) rfl (Nat.le_of_ble_eq_true rfl) (Or.inl rfl) (fun p e s m args below meth c ls Q K w hl ret => ?_)
  have hx := K.1.1
  have hb := K.1.2.1
  have hR : 1 ≤ (rmA 1 22).frames ∧ 22 ≤ (rmA 1 22).locals := ⟨Nat.le_refl _, Nat.le_refl _⟩
  have hf : 0 ≤ (rmA 1 22).cells ∧ 0 ≤ (rmA 1 22).slots := ⟨Nat.le_refl _, Nat.le_refl _⟩
  have hl : lv_has ls 3 [(0, .ref (ad E 0)), (1, .int (nI q))] := hl
  refine lv_iconst (v := nI 0) hx hb dX1_hasParentNotBelow_0 (by decide) ?_
  refine lv_istore_n (lv' := [(2, .int _), (0, .ref _), (1, .int _)]) hx hb dX1_hasParentNotBelow_1 rfl hl (by decide) rfl (fun ls hl => ?_)
  exact lp_hpn K hR hf hq ok rfl ret (pcn M q) 0 _ _ _ (by omega) w (lv_sub hl [0, 2, 1] rfl)

section XD
variable {p : Program} {l : Launch} {e : Env} {R : Room} {s : State} {m : MethodId} {args : Array Value} {below : List Frame} {meth : Method} {c : Code} {H : Heap} {locs : List Loc} {cells slots : Nat} {Q : State → Prop} {ls : Array Slot} {w0 : Cond} {E : En} {M MF : Mt} {n k : Nat}
set_option maxHeartbeats 4000000 in
set_option maxRecDepth 100000 in
theorem lp_mis (K : cX E p m c cX1_misplacedCommits 3 s args w0 RX1) (hR : 2 ≤ R.frames ∧ 44 ≤ R.locals) (hf : cells ≤ R.cells ∧ slots ≤ R.slots) (ok : okN M n) (ret : ∀ {H : Heap} {locs : List Loc} {pc : Nat} {ls : Array Slot} {v : Int32}, wst E s.heap M n k H locs → v = nI 0 → decode cX1_misplacedCommits pc = .ok (.ireturn, 1) → W p l e R s m args below meth c H locs cells slots Q (F0 m pc ls [.int v])) : ∀ (d i : Nat) (H : Heap) (locs : List Loc) (ls : Array Slot), i + d = n → wst E s.heap M n k H locs → lv_has ls 3 [(2, .int (nI i)), (1, .int (nI 0)), (0, .ref (ad E 0))] → W p l e R s m args below meth c H locs cells slots Q (F0 m 4 ls []) := by
  have hx := K.1.1
  have hb := K.1.2.1
  intro d
  induction d with
  | zero =>
    intro i H locs ls hi w hl
    have hn := ok.1
    refine lv_iload_n hx hb dX1_misplacedCommits_4 rfl (lv_at hl 0 rfl) ?_
    refine lv_aload_n hx hb dX1_misplacedCommits_5 rfl (lv_at hl 2 rfl) ?_
    refine gf_X1_commits K w dX1_misplacedCommits_6 ?_
    refine lv_icmp_ge (tgt := 29) hx hb dX1_misplacedCommits_9 rfl (fun _ => ?_) (fun h9 => absurd (nI_le (by omega) (by omega)) h9)
    refine lv_iload_n hx hb dX1_misplacedCommits_29 rfl (lv_at hl 1 rfl) ?_
    exact ret w rfl dX1_misplacedCommits_30
  | succ d ih =>
    intro i H locs ls hi w hl
    have hn := ok.1
    refine lv_iload_n hx hb dX1_misplacedCommits_4 rfl (lv_at hl 0 rfl) ?_
    refine lv_aload_n hx hb dX1_misplacedCommits_5 rfl (lv_at hl 2 rfl) ?_
    refine gf_X1_commits K w dX1_misplacedCommits_6 ?_
    refine lv_icmp_ge (tgt := 29) hx hb dX1_misplacedCommits_9 rfl (fun h9 => absurd h9 (nI_ge (by omega) (by omega))) (fun _ => ?_)
    refine lv_aload_n hx hb dX1_misplacedCommits_12 rfl (lv_at hl 2 rfl) ?_
    refine lv_iload_n hx hb dX1_misplacedCommits_13 rfl (lv_at hl 0 rfl) ?_
    refine calli K w (c_X1_hasParentNotBelow K.2.2 (by omega) ok) (lk_X1_179 K ⟨Nat.le_trans (Nat.le_of_ble_eq_true rfl) hR.1, Nat.le_trans (Nat.le_of_ble_eq_true rfl) hR.2⟩) (recv0 K w) rfl hl.1 rfl (Nat.le_of_ble_eq_true rfl) dX1_misplacedCommits_14 hf (fun H locs w => ?_)
    refine lv_if_eq (tgt := 23) hx hb dX1_misplacedCommits_17 rfl (fun _ => ?_) (fun h9 => absurd (rfl : nI 0 = 0) h9)
    refine lv_iinc (k := 0) (v := nI (_ + 1)) (lv' := [(2, .int _), (1, .int _), (0, .ref _)]) hx hb dX1_misplacedCommits_23 hl rfl (inc1 _) (by decide) rfl (fun ls hl => ?_)
    refine lv_goto (tgt := 4) hx hb dX1_misplacedCommits_26 rfl ?_
    exact ih (i + 1) _ _ _ (by omega) w (lv_sub hl [0, 1, 2] rfl)

end XD
set_option maxHeartbeats 4000000 in
set_option maxRecDepth 100000 in
theorem c_X1_misplacedCommits {l : Launch} {E : En} {M : Mt} {n k : Nat} (dn : dN E) (ok : okN M n) : MI l yX1_misplacedCommits (.code yX1_misplacedCommits cX1_misplacedCommits 3 (some .int)) 2 44 E [.ref (ad E 0)] M n k (nI 0)  (M) (n) (k) := by
  refine MI.of dn (own := RX1) (by decide) rfl (Nat.le_of_ble_eq_true rfl) (fun p e s m args below meth c ls Q K w hl ret => ?_)
  have hx := K.1.1
  have hb := K.1.2.1
  have hR : 2 ≤ (rmA 2 44).frames ∧ 44 ≤ (rmA 2 44).locals := ⟨Nat.le_refl _, Nat.le_refl _⟩
  have hf : 0 ≤ (rmA 2 44).cells ∧ 0 ≤ (rmA 2 44).slots := ⟨Nat.le_refl _, Nat.le_refl _⟩
  have hl : lv_has ls 3 [(0, .ref (ad E 0))] := hl
  refine lv_iconst (v := nI 0) hx hb dX1_misplacedCommits_0 (by decide) ?_
  refine lv_istore_n (lv' := [(1, .int _), (0, .ref _)]) hx hb dX1_misplacedCommits_1 rfl hl (by decide) rfl (fun ls hl => ?_)
  refine lv_iconst (v := nI 0) hx hb dX1_misplacedCommits_2 (by decide) ?_
  refine lv_istore_n (lv' := [(2, .int _), (1, .int _), (0, .ref _)]) hx hb dX1_misplacedCommits_3 rfl hl (by decide) rfl (fun ls hl => ?_)
  exact lp_mis K hR hf ok ret n 0 _ _ _ (by omega) w hl
end
section
set_option maxHeartbeats 4000000 in
set_option maxRecDepth 100000 in
theorem c_X1_link {l : Launch} {E : En} {M : Mt} {n k : Nat} (dn : dN E) {q u : Nat} (hq : q < 2000) (hu : u < 2000) (hj : M 4 q = nI (pcn M q)) (h4 : pcn M q < 4) : MV l yX1_link (.code yX1_link cX1_link 3 none) 1 24 E [.ref (ad E 0), .int (nI q), .int (nI u)] M n k  (lkF M q u) (n) (k) := by
  refine MV.of dn (own := RX1) (by decide) rfl (Nat.le_of_ble_eq_true rfl) (fun p e s m args below meth c ls Q K w hl ret => ?_)
  have hx := K.1.1
  have hb := K.1.2.1
  have hR : 1 ≤ (rmA 1 24).frames ∧ 24 ≤ (rmA 1 24).locals := ⟨Nat.le_refl _, Nat.le_refl _⟩
  have hf : 0 ≤ (rmA 1 24).cells ∧ 0 ≤ (rmA 1 24).slots := ⟨Nat.le_refl _, Nat.le_refl _⟩
  have hl : lv_has ls 3 [(0, .ref (ad E 0)), (1, .int (nI q)), (2, .int (nI u))] := hl
  refine lv_aload_n hx hb dX1_link_0 rfl (lv_at hl 0 rfl) ?_
  refine gf_X1_parents K w dX1_link_1 ?_
  refine lv_iload_n hx hb dX1_link_4 rfl (lv_at hl 1 rfl) ?_
  refine lv_iconst (v := nI 4) hx hb dX1_link_5 (by decide) ?_
  refine lv_imul hx hb dX1_link_6 ?_
  refine topE (y := nI (q * 4)) (pk_mul _ _) ?_
  refine lv_aload_n hx hb dX1_link_7 rfl (lv_at hl 0 rfl) ?_
  refine gf_X1_parentCounts K w dX1_link_8 ?_
  refine lv_iload_n hx hb dX1_link_11 rfl (lv_at hl 1 rfl) ?_
  refine ldN K w row4 (by omega) dX1_link_12 ?_
  refine topE (y := nI (pcn M q)) hj ?_
  refine lv_iadd hx hb dX1_link_13 ?_
  refine topE (y := nI (q * 4 + pcn M q)) (nI_add _ _) ?_
  refine lv_iload_n hx hb dX1_link_14 rfl (lv_at hl 2 rfl) ?_
  refine stN K w row5 (by omega) dX1_link_15 (fun H locs w => ?_)
  refine lv_aload_n hx hb dX1_link_16 rfl (lv_at hl 0 rfl) ?_
  refine gf_X1_parentCounts K w dX1_link_17 ?_
  refine lv_iload_n hx hb dX1_link_20 rfl (lv_at hl 1 rfl) ?_
  refine lv_dup2_11 hx hb dX1_link_21 rfl rfl ?_
  refine ldN K w row4 (by omega) dX1_link_22 ?_
  refine lv_iconst (v := nI 1) hx hb dX1_link_23 (by decide) ?_
  refine lv_iadd hx hb dX1_link_24 ?_
  refine stN K w row4 (by omega) dX1_link_25 (fun H locs w => ?_)
  refine lv_aload_n hx hb dX1_link_26 rfl (lv_at hl 0 rfl) ?_
  refine gf_X1_isParent K w dX1_link_27 ?_
  refine lv_iload_n hx hb dX1_link_30 rfl (lv_at hl 2 rfl) ?_
  refine lv_iconst (v := nI 1) hx hb dX1_link_31 (by decide) ?_
  refine stZ K w (by omega) (by decide) dX1_link_32 (fun H locs w => ?_)
  refine lv_aload_n hx hb dX1_link_33 rfl (lv_at hl 0 rfl) ?_
  refine gf_X1_generations K w dX1_link_34 ?_
  refine lv_iload_n hx hb dX1_link_37 rfl (lv_at hl 1 rfl) ?_
  refine lv_aload_n hx hb dX1_link_38 rfl (lv_at hl 0 rfl) ?_
  refine gf_X1_generations K w dX1_link_39 ?_
  refine lv_iload_n hx hb dX1_link_42 rfl (lv_at hl 1 rfl) ?_
  refine ldN K w row3 (by omega) dX1_link_43 ?_
  refine lv_aload_n hx hb dX1_link_44 rfl (lv_at hl 0 rfl) ?_
  refine gf_X1_generations K w dX1_link_45 ?_
  refine lv_iload_n hx hb dX1_link_48 rfl (lv_at hl 2 rfl) ?_
  refine ldN K w row3 (by omega) dX1_link_49 ?_
  refine lv_iconst (v := nI 1) hx hb dX1_link_50 (by decide) ?_
  refine lv_iadd hx hb dX1_link_51 ?_
  refine mmaxN K ⟨Nat.le_trans (Nat.le_of_ble_eq_true rfl) hR.1, Nat.le_trans (Nat.le_of_ble_eq_true rfl) hR.2⟩ hf (Nat.le_of_ble_eq_true rfl) hl.1 dX1_link_52 ?_
  refine stN K w row3 (by omega) dX1_link_55 (fun H locs w => ?_)
  exact ret w dX1_link_56

theorem nI_nm1 {u : Nat} (h : u < 2147483648) : ¬ nI u = -1 := fun e => nI_pos h (e ▸ (by decide : (-1 : Int32) < 0))
set_option maxHeartbeats 4000000 in
set_option maxRecDepth 100000 in
theorem c_X1_linkUnlessNone_a {l : Launch} {E : En} {M : Mt} {n k : Nat} (dn : dN E) {q : Nat} : MV l yX1_linkUnlessNone (.code yX1_linkUnlessNone cX1_linkUnlessNone 3 none) 2 46 E [.ref (ad E 0), .int (nI q), .int (-1)] M n k  (M) (n) (k) := by
  refine MV.of dn (own := RX1) (by decide) rfl (Nat.le_of_ble_eq_true rfl) (fun p e s m args below meth c ls Q K w hl ret => ?_)
  have hx := K.1.1
  have hb := K.1.2.1
  have hR : 2 ≤ (rmA 2 46).frames ∧ 46 ≤ (rmA 2 46).locals := ⟨Nat.le_refl _, Nat.le_refl _⟩
  have hf : 0 ≤ (rmA 2 46).cells ∧ 0 ≤ (rmA 2 46).slots := ⟨Nat.le_refl _, Nat.le_refl _⟩
  have hl : lv_has ls 3 [(0, .ref (ad E 0)), (1, .int (nI q)), (2, .int (-1))] := hl
  refine lv_iload_n hx hb dX1_linkUnlessNone_0 rfl (lv_at hl 2 rfl) ?_
  refine lv_iconst (v := -1) hx hb dX1_linkUnlessNone_1 (by decide) ?_
  refine lv_icmp_eq (tgt := 11) hx hb dX1_linkUnlessNone_2 rfl (fun _ => ?_) (fun h9 => absurd (rfl : (-1 : Int32) = -1) h9)
  exact ret w dX1_linkUnlessNone_11

set_option maxHeartbeats 4000000 in
set_option maxRecDepth 100000 in
theorem c_X1_linkUnlessNone_b {l : Launch} {E : En} {M : Mt} {n k : Nat} (dn : dN E) {q u : Nat} (hq : q < 2000) (hu : u < 2000) (hj : M 4 q = nI (pcn M q)) (h4 : pcn M q < 4) : MV l yX1_linkUnlessNone (.code yX1_linkUnlessNone cX1_linkUnlessNone 3 none) 2 46 E [.ref (ad E 0), .int (nI q), .int (nI u)] M n k  (lkF M q u) (n) (k) := by
  refine MV.of dn (own := RX1) (by decide) rfl (Nat.le_of_ble_eq_true rfl) (fun p e s m args below meth c ls Q K w hl ret => ?_)
  have hx := K.1.1
  have hb := K.1.2.1
  have hR : 2 ≤ (rmA 2 46).frames ∧ 46 ≤ (rmA 2 46).locals := ⟨Nat.le_refl _, Nat.le_refl _⟩
  have hf : 0 ≤ (rmA 2 46).cells ∧ 0 ≤ (rmA 2 46).slots := ⟨Nat.le_refl _, Nat.le_refl _⟩
  have hl : lv_has ls 3 [(0, .ref (ad E 0)), (1, .int (nI q)), (2, .int (nI u))] := hl
  refine lv_iload_n hx hb dX1_linkUnlessNone_0 rfl (lv_at hl 2 rfl) ?_
  refine lv_iconst (v := -1) hx hb dX1_linkUnlessNone_1 (by decide) ?_
  refine lv_icmp_eq (tgt := 11) hx hb dX1_linkUnlessNone_2 rfl (fun h9 => absurd h9 (nI_nm1 (by omega))) (fun _ => ?_)
  refine lv_aload_n hx hb dX1_linkUnlessNone_5 rfl (lv_at hl 0 rfl) ?_
  refine lv_iload_n hx hb dX1_linkUnlessNone_6 rfl (lv_at hl 1 rfl) ?_
  refine lv_iload_n hx hb dX1_linkUnlessNone_7 rfl (lv_at hl 2 rfl) ?_
  refine callv K w (c_X1_link dn hq hu hj h4) (lk_X1_74 K ⟨Nat.le_trans (Nat.le_of_ble_eq_true rfl) hR.1, Nat.le_trans (Nat.le_of_ble_eq_true rfl) hR.2⟩) (recv0 K w) rfl hl.1 rfl (Nat.le_of_ble_eq_true rfl) dX1_linkUnlessNone_8 hf (fun H locs w => ?_)
  exact ret w dX1_linkUnlessNone_11

set_option maxHeartbeats 4000000 in
set_option maxRecDepth 100000 in
theorem c_X1_checkCommit {l : Launch} {E : En} {M : Mt} {n k : Nat} (dn : dN E) {q : Nat} (hq : q < n) (hn : n ≤ 2000) : MV l yX1_checkCommit (.code yX1_checkCommit cX1_checkCommit 2 none) 0 0 E [.ref (ad E 0), .int (nI q)] M n k  (M) (n) (k) := by
  refine MV.of dn (own := RX1) (by decide) rfl (Nat.le_of_ble_eq_true rfl) (fun p e s m args below meth c ls Q K w hl ret => ?_)
  have hx := K.1.1
  have hb := K.1.2.1
  have hR : 0 ≤ (rmA 0 0).frames ∧ 0 ≤ (rmA 0 0).locals := ⟨Nat.le_refl _, Nat.le_refl _⟩
  have hf : 0 ≤ (rmA 0 0).cells ∧ 0 ≤ (rmA 0 0).slots := ⟨Nat.le_refl _, Nat.le_refl _⟩
  have hl : lv_has ls 2 [(0, .ref (ad E 0)), (1, .int (nI q))] := hl
  refine lv_iload_n hx hb dX1_checkCommit_0 rfl (lv_at hl 1 rfl) ?_
  refine lv_if_lt (tgt := 12) hx hb dX1_checkCommit_1 rfl (fun h9 => absurd h9 (nI_pos (by omega))) (fun _ => ?_)
  refine lv_iload_n hx hb dX1_checkCommit_4 rfl (lv_at hl 1 rfl) ?_
  refine lv_aload_n hx hb dX1_checkCommit_5 rfl (lv_at hl 0 rfl) ?_
  refine gf_X1_commits K w dX1_checkCommit_6 ?_
  refine lv_icmp_lt (tgt := 22) hx hb dX1_checkCommit_9 rfl (fun _ => ?_) (fun h9 => absurd (nI_lt hq (by omega)) h9)
  exact ret w dX1_checkCommit_22

set_option maxHeartbeats 4000000 in
set_option maxRecDepth 100000 in
theorem c_X1_checkParentOrNone_a {l : Launch} {E : En} {M : Mt} {n k : Nat} (dn : dN E) : MV l yX1_checkParentOrNone (.code yX1_checkParentOrNone cX1_checkParentOrNone 2 none) 1 21 E [.ref (ad E 0), .int (-1)] M n k  (M) (n) (k) := by
  refine MV.of dn (own := RX1) (by decide) rfl (Nat.le_of_ble_eq_true rfl) (fun p e s m args below meth c ls Q K w hl ret => ?_)
  have hx := K.1.1
  have hb := K.1.2.1
  have hR : 1 ≤ (rmA 1 21).frames ∧ 21 ≤ (rmA 1 21).locals := ⟨Nat.le_refl _, Nat.le_refl _⟩
  have hf : 0 ≤ (rmA 1 21).cells ∧ 0 ≤ (rmA 1 21).slots := ⟨Nat.le_refl _, Nat.le_refl _⟩
  have hl : lv_has ls 2 [(0, .ref (ad E 0)), (1, .int (-1))] := hl
  refine lv_iload_n hx hb dX1_checkParentOrNone_0 rfl (lv_at hl 1 rfl) ?_
  refine lv_iconst (v := -1) hx hb dX1_checkParentOrNone_1 (by decide) ?_
  refine lv_icmp_eq (tgt := 10) hx hb dX1_checkParentOrNone_2 rfl (fun _ => ?_) (fun h9 => absurd (rfl : (-1 : Int32) = -1) h9)
  exact ret w dX1_checkParentOrNone_10

set_option maxHeartbeats 4000000 in
set_option maxRecDepth 100000 in
theorem c_X1_checkParentOrNone_b {l : Launch} {E : En} {M : Mt} {n k : Nat} (dn : dN E) {q : Nat} (hq : q < n) (hn : n ≤ 2000) : MV l yX1_checkParentOrNone (.code yX1_checkParentOrNone cX1_checkParentOrNone 2 none) 1 21 E [.ref (ad E 0), .int (nI q)] M n k  (M) (n) (k) := by
  refine MV.of dn (own := RX1) (by decide) rfl (Nat.le_of_ble_eq_true rfl) (fun p e s m args below meth c ls Q K w hl ret => ?_)
  have hx := K.1.1
  have hb := K.1.2.1
  have hR : 1 ≤ (rmA 1 21).frames ∧ 21 ≤ (rmA 1 21).locals := ⟨Nat.le_refl _, Nat.le_refl _⟩
  have hf : 0 ≤ (rmA 1 21).cells ∧ 0 ≤ (rmA 1 21).slots := ⟨Nat.le_refl _, Nat.le_refl _⟩
  have hl : lv_has ls 2 [(0, .ref (ad E 0)), (1, .int (nI q))] := hl
  refine lv_iload_n hx hb dX1_checkParentOrNone_0 rfl (lv_at hl 1 rfl) ?_
  refine lv_iconst (v := -1) hx hb dX1_checkParentOrNone_1 (by decide) ?_
  refine lv_icmp_eq (tgt := 10) hx hb dX1_checkParentOrNone_2 rfl (fun h9 => absurd h9 (nI_nm1 (by omega))) (fun _ => ?_)
  refine lv_aload_n hx hb dX1_checkParentOrNone_5 rfl (lv_at hl 0 rfl) ?_
  refine lv_iload_n hx hb dX1_checkParentOrNone_6 rfl (lv_at hl 1 rfl) ?_
  refine callv K w (c_X1_checkCommit dn hq hn) (lk_X1_64 K ⟨Nat.le_trans (Nat.le_of_ble_eq_true rfl) hR.1, Nat.le_trans (Nat.le_of_ble_eq_true rfl) hR.2⟩) (recv0 K w) rfl hl.1 rfl (Nat.le_of_ble_eq_true rfl) dX1_checkParentOrNone_7 hf (fun H locs w => ?_)
  exact ret w dX1_checkParentOrNone_10

set_option maxHeartbeats 4000000 in
set_option maxRecDepth 100000 in
theorem c_X1_checkHolder {l : Launch} {E : En} {M : Mt} {n k : Nat} (dn : dN E) {h : Nat} (hh : h < 2) : MV l yX1_checkHolder (.code yX1_checkHolder cX1_checkHolder 1 none) 0 0 E [.int (nI h)] M n k  (M) (n) (k) := by
  refine MV.of dn (own := RX1) (by decide) rfl (Nat.le_of_ble_eq_true rfl) (fun p e s m args below meth c ls Q K w hl ret => ?_)
  have hx := K.1.1
  have hb := K.1.2.1
  have hR : 0 ≤ (rmA 0 0).frames ∧ 0 ≤ (rmA 0 0).locals := ⟨Nat.le_refl _, Nat.le_refl _⟩
  have hf : 0 ≤ (rmA 0 0).cells ∧ 0 ≤ (rmA 0 0).slots := ⟨Nat.le_refl _, Nat.le_refl _⟩
  have hl : lv_has ls 1 [(0, .int (nI h))] := hl
  refine lv_iload_n hx hb dX1_checkHolder_0 rfl (lv_at hl 0 rfl) ?_
  refine lv_if_lt (tgt := 9) hx hb dX1_checkHolder_1 rfl (fun h9 => absurd h9 (nI_pos (by omega))) (fun _ => ?_)
  refine lv_iload_n hx hb dX1_checkHolder_4 rfl (lv_at hl 0 rfl) ?_
  refine lv_iconst (v := nI 2) hx hb dX1_checkHolder_5 (by decide) ?_
  refine lv_icmp_lt (tgt := 19) hx hb dX1_checkHolder_6 rfl (fun _ => ?_) (fun h9 => absurd (nI_lt hh (by decide)) h9)
  exact ret w dX1_checkHolder_19

set_option maxHeartbeats 4000000 in
set_option maxRecDepth 100000 in
theorem c_X1_checkPlace {l : Launch} {E : En} {M : Mt} {n k : Nat} (dn : dN E) {i j : Nat} (hi : i < j) (hj : j < 2147483648) : MV l yX1_checkPlace (.code yX1_checkPlace cX1_checkPlace 2 none) 0 0 E [.int (nI i), .int (nI j)] M n k  (M) (n) (k) := by
  refine MV.of dn (own := RX1) (by decide) rfl (Nat.le_of_ble_eq_true rfl) (fun p e s m args below meth c ls Q K w hl ret => ?_)
  have hx := K.1.1
  have hb := K.1.2.1
  have hR : 0 ≤ (rmA 0 0).frames ∧ 0 ≤ (rmA 0 0).locals := ⟨Nat.le_refl _, Nat.le_refl _⟩
  have hf : 0 ≤ (rmA 0 0).cells ∧ 0 ≤ (rmA 0 0).slots := ⟨Nat.le_refl _, Nat.le_refl _⟩
  have hl : lv_has ls 2 [(0, .int (nI i)), (1, .int (nI j))] := hl
  refine lv_iload_n hx hb dX1_checkPlace_0 rfl (lv_at hl 0 rfl) ?_
  refine lv_if_lt (tgt := 9) hx hb dX1_checkPlace_1 rfl (fun h9 => absurd h9 (nI_pos (by omega))) (fun _ => ?_)
  refine lv_iload_n hx hb dX1_checkPlace_4 rfl (lv_at hl 0 rfl) ?_
  refine lv_iload_n hx hb dX1_checkPlace_5 rfl (lv_at hl 1 rfl) ?_
  refine lv_icmp_lt (tgt := 19) hx hb dX1_checkPlace_6 rfl (fun _ => ?_) (fun h9 => absurd (nI_lt hi hj) h9)
  exact ret w dX1_checkPlace_19
end
section
theorem nlt_or {x y : Int32} (h0 : ¬ x < 0) (h : x < 0 ∨ y ≤ x) : ¬ x < y := nlt_le (h.elim (fun h1 => absurd h1 h0) id)
/-- a parent that is let in, or none -/
def oI (o : Option Nat) : Int32 := match o with
  | none => -1
  | some u => nI u
def oB (o : Option Nat) (n : Nat) : Prop := ∀ u, o = some u → u < n

set_option maxHeartbeats 4000000 in
set_option maxRecDepth 100000 in
theorem t_X1_checkCommit {l : Launch} {E : En} {M : Mt} {n k : Nat} (hst : l.stackTraces = false) (dn : dN E) {x : Int32} (hx0 : x < 0 ∨ nI n ≤ x) : MT l yX1_checkCommit (.code yX1_checkCommit cX1_checkCommit 2 none) 6 90 E [.ref (ad E 0), .int x] M n k "java/lang/IllegalArgumentException" (M) (n) (k) := by
  refine MT.of hst dn (by decide) rfl (Nat.le_of_ble_eq_true rfl) (fun p e s m args below meth c ls Q K z w hl out thr => ?_)
  have hx := K.1.1
  have hb := K.1.2.1
  have hR : 6 ≤ (rmx 6 90).frames ∧ 90 ≤ (rmx 6 90).locals := ⟨Nat.le_refl _, Nat.le_refl _⟩
  have hf : 0 ≤ (rmx 6 90).cells ∧ 0 ≤ (rmx 6 90).slots := ⟨Nat.zero_le _, Nat.zero_le _⟩
  have hl : lv_has ls 2 [(0, .ref (ad E 0)), (1, .int x)] := hl
  by_cases h0 : x < 0
  · refine lv_iload_n hx hb dX1_checkCommit_0 rfl (lv_at hl 1 rfl) ?_
    refine lv_if_lt (tgt := 12) hx hb dX1_checkCommit_1 rfl (fun _ => ?_) (fun h9 => absurd h0 h9)
    exact thr w xIAE (List.mem_of_getElem? (i := 6) rfl) hl.1 (Nat.le_of_ble_eq_true rfl) (by decide) (by decide) dX1_checkCommit_12 dX1_checkCommit_15 dX1_checkCommit_16 dX1_checkCommit_18 dX1_checkCommit_21
  · refine lv_iload_n hx hb dX1_checkCommit_0 rfl (lv_at hl 1 rfl) ?_
    refine lv_if_lt (tgt := 12) hx hb dX1_checkCommit_1 rfl (fun h9 => absurd h9 h0) (fun _ => ?_)
    refine lv_iload_n hx hb dX1_checkCommit_4 rfl (lv_at hl 1 rfl) ?_
    refine lv_aload_n hx hb dX1_checkCommit_5 rfl (lv_at hl 0 rfl) ?_
    refine gf_X1_commits K w dX1_checkCommit_6 ?_
    refine lv_icmp_lt (tgt := 22) hx hb dX1_checkCommit_9 rfl (fun h9 => absurd h9 (nlt_or h0 hx0)) (fun _ => ?_)
    exact thr w xIAE (List.mem_of_getElem? (i := 6) rfl) hl.1 (Nat.le_of_ble_eq_true rfl) (by decide) (by decide) dX1_checkCommit_12 dX1_checkCommit_15 dX1_checkCommit_16 dX1_checkCommit_18 dX1_checkCommit_21

set_option maxHeartbeats 4000000 in
set_option maxRecDepth 100000 in
theorem t_X1_checkParentOrNone {l : Launch} {E : En} {M : Mt} {n k : Nat} (hst : l.stackTraces = false) (dn : dN E) {x : Int32} (hx1 : ¬ x = -1) (hx0 : x < 0 ∨ nI n ≤ x) : MT l yX1_checkParentOrNone (.code yX1_checkParentOrNone cX1_checkParentOrNone 2 none) 7 111 E [.ref (ad E 0), .int x] M n k "java/lang/IllegalArgumentException" (M) (n) (k) := by
  refine MT.of hst dn (by decide) rfl (Nat.le_of_ble_eq_true rfl) (fun p e s m args below meth c ls Q K z w hl out thr => ?_)
  have hx := K.1.1
  have hb := K.1.2.1
  have hR : 7 ≤ (rmx 7 111).frames ∧ 111 ≤ (rmx 7 111).locals := ⟨Nat.le_refl _, Nat.le_refl _⟩
  have hf : 0 ≤ (rmx 7 111).cells ∧ 0 ≤ (rmx 7 111).slots := ⟨Nat.zero_le _, Nat.zero_le _⟩
  have hl : lv_has ls 2 [(0, .ref (ad E 0)), (1, .int x)] := hl
  refine lv_iload_n hx hb dX1_checkParentOrNone_0 rfl (lv_at hl 1 rfl) ?_
  refine lv_iconst (v := -1) hx hb dX1_checkParentOrNone_1 (by decide) ?_
  refine lv_icmp_eq (tgt := 10) hx hb dX1_checkParentOrNone_2 rfl (fun h9 => absurd h9 hx1) (fun _ => ?_)
  refine lv_aload_n hx hb dX1_checkParentOrNone_5 rfl (lv_at hl 0 rfl) ?_
  refine lv_iload_n hx hb dX1_checkParentOrNone_6 rfl (lv_at hl 1 rfl) ?_
  exact callt K z w (t_X1_checkCommit hst dn hx0) (lk_X1_64 K ⟨Nat.le_trans (Nat.le_of_ble_eq_true rfl) hR.1, Nat.le_trans (Nat.le_of_ble_eq_true rfl) hR.2⟩) (recv0 K w) rfl hl.1 rfl (Nat.le_of_ble_eq_true rfl) dX1_checkParentOrNone_7 ⟨Nat.le_of_ble_eq_true rfl, Nat.le_of_ble_eq_true rfl⟩ out

set_option maxHeartbeats 4000000 in
set_option maxRecDepth 100000 in
theorem t_X1_checkHolder {l : Launch} {E : En} {M : Mt} {n k : Nat} (hst : l.stackTraces = false) (dn : dN E) {x : Int32} (hx0 : x < 0 ∨ nI 2 ≤ x) : MT l yX1_checkHolder (.code yX1_checkHolder cX1_checkHolder 1 none) 6 90 E [.int x] M n k "java/lang/IllegalArgumentException" (M) (n) (k) := by
  refine MT.of hst dn (by decide) rfl (Nat.le_of_ble_eq_true rfl) (fun p e s m args below meth c ls Q K z w hl out thr => ?_)
  have hx := K.1.1
  have hb := K.1.2.1
  have hR : 6 ≤ (rmx 6 90).frames ∧ 90 ≤ (rmx 6 90).locals := ⟨Nat.le_refl _, Nat.le_refl _⟩
  have hf : 0 ≤ (rmx 6 90).cells ∧ 0 ≤ (rmx 6 90).slots := ⟨Nat.zero_le _, Nat.zero_le _⟩
  have hl : lv_has ls 1 [(0, .int x)] := hl
  by_cases h0 : x < 0
  · refine lv_iload_n hx hb dX1_checkHolder_0 rfl (lv_at hl 0 rfl) ?_
    refine lv_if_lt (tgt := 9) hx hb dX1_checkHolder_1 rfl (fun _ => ?_) (fun h9 => absurd h0 h9)
    exact thr w xIAE (List.mem_of_getElem? (i := 7) rfl) hl.1 (Nat.le_of_ble_eq_true rfl) (by decide) (by decide) dX1_checkHolder_9 dX1_checkHolder_12 dX1_checkHolder_13 dX1_checkHolder_15 dX1_checkHolder_18
  · refine lv_iload_n hx hb dX1_checkHolder_0 rfl (lv_at hl 0 rfl) ?_
    refine lv_if_lt (tgt := 9) hx hb dX1_checkHolder_1 rfl (fun h9 => absurd h9 h0) (fun _ => ?_)
    refine lv_iload_n hx hb dX1_checkHolder_4 rfl (lv_at hl 0 rfl) ?_
    refine lv_iconst (v := nI 2) hx hb dX1_checkHolder_5 (by decide) ?_
    refine lv_icmp_lt (tgt := 19) hx hb dX1_checkHolder_6 rfl (fun h9 => absurd h9 (nlt_or h0 hx0)) (fun _ => ?_)
    exact thr w xIAE (List.mem_of_getElem? (i := 7) rfl) hl.1 (Nat.le_of_ble_eq_true rfl) (by decide) (by decide) dX1_checkHolder_9 dX1_checkHolder_12 dX1_checkHolder_13 dX1_checkHolder_15 dX1_checkHolder_18

set_option maxHeartbeats 4000000 in
set_option maxRecDepth 100000 in
theorem t_X1_checkPlace {l : Launch} {E : En} {M : Mt} {n k : Nat} (hst : l.stackTraces = false) (dn : dN E) {x y : Int32} (hx0 : x < 0 ∨ y ≤ x) : MT l yX1_checkPlace (.code yX1_checkPlace cX1_checkPlace 2 none) 6 90 E [.int x, .int y] M n k "java/util/NoSuchElementException" (M) (n) (k) := by
  refine MT.of hst dn (by decide) rfl (Nat.le_of_ble_eq_true rfl) (fun p e s m args below meth c ls Q K z w hl out thr => ?_)
  have hx := K.1.1
  have hb := K.1.2.1
  have hR : 6 ≤ (rmx 6 90).frames ∧ 90 ≤ (rmx 6 90).locals := ⟨Nat.le_refl _, Nat.le_refl _⟩
  have hf : 0 ≤ (rmx 6 90).cells ∧ 0 ≤ (rmx 6 90).slots := ⟨Nat.zero_le _, Nat.zero_le _⟩
  have hl : lv_has ls 2 [(0, .int x), (1, .int y)] := hl
  by_cases h0 : x < 0
  · refine lv_iload_n hx hb dX1_checkPlace_0 rfl (lv_at hl 0 rfl) ?_
    refine lv_if_lt (tgt := 9) hx hb dX1_checkPlace_1 rfl (fun _ => ?_) (fun h9 => absurd h0 h9)
    exact thr w xNSE (List.mem_of_getElem? (i := 8) rfl) hl.1 (Nat.le_of_ble_eq_true rfl) (by decide) (by decide) dX1_checkPlace_9 dX1_checkPlace_12 dX1_checkPlace_13 dX1_checkPlace_15 dX1_checkPlace_18
  · refine lv_iload_n hx hb dX1_checkPlace_0 rfl (lv_at hl 0 rfl) ?_
    refine lv_if_lt (tgt := 9) hx hb dX1_checkPlace_1 rfl (fun h9 => absurd h9 h0) (fun _ => ?_)
    refine lv_iload_n hx hb dX1_checkPlace_4 rfl (lv_at hl 0 rfl) ?_
    refine lv_iload_n hx hb dX1_checkPlace_5 rfl (lv_at hl 1 rfl) ?_
    refine lv_icmp_lt (tgt := 19) hx hb dX1_checkPlace_6 rfl (fun h9 => absurd h9 (nlt_or h0 hx0)) (fun _ => ?_)
    exact thr w xNSE (List.mem_of_getElem? (i := 8) rfl) hl.1 (Nat.le_of_ble_eq_true rfl) (by decide) (by decide) dX1_checkPlace_9 dX1_checkPlace_12 dX1_checkPlace_13 dX1_checkPlace_15 dX1_checkPlace_18

theorem c_X1_checkParentOrNone {l : Launch} {E : En} {M : Mt} {n k : Nat} (dn : dN E) {o : Option Nat} (ho : oB o n) (hn : n ≤ 2000) : MV l yX1_checkParentOrNone (.code yX1_checkParentOrNone cX1_checkParentOrNone 2 none) 1 21 E [.ref (ad E 0), .int (oI o)] M n k M n k := by
  cases o with
  | none => exact c_X1_checkParentOrNone_a dn
  | some u => exact c_X1_checkParentOrNone_b dn (ho u rfl) hn
def lkO (M : Mt) (q : Nat) (o : Option Nat) : Mt := match o with
  | none => M
  | some u => lkF M q u

theorem c_X1_linkUnlessNone {l : Launch} {E : En} {M : Mt} {n k : Nat} (dn : dN E) {q : Nat} {o : Option Nat} (ho : oB o 2000) (hq : q < 2000) (hj : M 4 q = nI (pcn M q)) (h4 : pcn M q < 4) : MV l yX1_linkUnlessNone (.code yX1_linkUnlessNone cX1_linkUnlessNone 3 none) 2 46 E [.ref (ad E 0), .int (nI q), .int (oI o)] M n k (lkO M q o) n k := by
  cases o with
  | none => exact c_X1_linkUnlessNone_a dn
  | some u => exact c_X1_linkUnlessNone_b dn hq (ho u rfl) hj h4
theorem pcn_lk {M : Mt} {q u : Nat} (hj : M 4 q = nI (pcn M q)) (h4 : pcn M q < 4) : lkF M q u 4 q = nI (pcn M q + 1) ∧ pcn (lkF M q u) q = pcn M q + 1 := by
  have e : lkF M q u 4 q = nI (pcn M q + 1) := by
    show upd (M 4) q (M 4 q + nI 1) q = _
    rw [pk_us, hj, nI_add]
  refine ⟨e, ?_⟩
  rw [pcn, e]
  exact nI_clamp (by omega)
theorem pcn_lkO {M : Mt} {q j : Nat} {o : Option Nat} (hj : M 4 q = nI (pcn M q)) (hb : pcn M q ≤ j) (h4 : j < 4) : lkO M q o 4 q = nI (pcn (lkO M q o) q) ∧ pcn (lkO M q o) q ≤ j + 1 := by
  cases o with
  | none => exact ⟨hj, Nat.le_succ_of_le hb⟩
  | some u =>
    obtain ⟨e1, e2⟩ := pcn_lk (u := u) hj (by omega)
    refine ⟨by rw [show lkO M q (some u) = lkF M q u from rfl, e2]; exact e1, ?_⟩
    rw [show lkO M q (some u) = lkF M q u from rfl, e2]
    omega
end
section
theorem bn_t {x y : Int32} (h : ¬ x = y) : nI 1 = bI (decide (¬ x = y)) := by rw [decide_eq_true h]; rfl
theorem bn_f {x y : Int32} (h : x = y) : nI 0 = bI (decide (¬ x = y)) := by rw [decide_eq_false (fun h2 => h2 h)]; rfl
def ad0 (M : Mt) (n : Nat) (ti ky : Int32) : Mt := va_up (va_up (va_up M 1 (upd (M 1) n ti)) 2 (upd (M 2) n ky)) 3 (upd (M 3) n (nI 1))
def adF (M : Mt) (n : Nat) (ti ky : Int32) (a b d : Option Nat) : Mt := lkO (lkO (lkO (ad0 M n ti ky) n a) n b) n d

set_option maxHeartbeats 4000000 in
set_option maxRecDepth 100000 in
theorem c_X1_add {l : Launch} {E : En} {M : Mt} {n k : Nat} (dn : dN E) {ti ky : Int32} {a b d : Option Nat} (ha : oB a n) (hb0 : oB b n) (hd : oB d n) (hn : n < 2000) (h4 : M 4 n = nI 0) : MI l yX1_add (.code yX1_add cX1_add 7 (some .int)) 3 68 E [.ref (ad E 0), .int ti, .int ky, .int (oI a), .int (oI b), .int (oI d)] M n k (nI n)  (adF M n ti ky a b d) (n + 1) (k) := by
  refine MI.of dn (own := RX1) (by decide) rfl (Nat.le_of_ble_eq_true rfl) (fun p e s m args below meth c ls Q K w hl ret => ?_)
  have hx := K.1.1
  have hb := K.1.2.1
  have hR : 3 ≤ (rmA 3 68).frames ∧ 68 ≤ (rmA 3 68).locals := ⟨Nat.le_refl _, Nat.le_refl _⟩
  have hf : 0 ≤ (rmA 3 68).cells ∧ 0 ≤ (rmA 3 68).slots := ⟨Nat.le_refl _, Nat.le_refl _⟩
  have hl : lv_has ls 7 [(0, .ref (ad E 0)), (1, .int ti), (2, .int ky), (3, .int (oI a)), (4, .int (oI b)), (5, .int (oI d))] := hl
  have up : ∀ {o : Option Nat}, oB o n → oB o 2000 := fun ho u hu => Nat.lt_trans (ho u hu) hn
  have e : pcn (ad0 M n ti ky) n = 0 := by rw [pcn, show ad0 M n ti ky 4 n = nI 0 from h4]; rfl
  have e0 : ad0 M n ti ky 4 n = nI (pcn (ad0 M n ti ky) n) := by rw [e]; exact h4
  have e1 := pcn_lkO (o := a) e0 (Nat.le_of_eq e) (by decide)
  have e2 := pcn_lkO (o := b) e1.1 e1.2 (by decide)
  refine lv_aload_n hx hb dX1_add_0 rfl (lv_at hl 0 rfl) ?_
  refine lv_iload_n hx hb dX1_add_1 rfl (lv_at hl 3 rfl) ?_
  refine callv K w (c_X1_checkParentOrNone dn ha (by omega)) (lk_X1_45 K ⟨Nat.le_trans (Nat.le_of_ble_eq_true rfl) hR.1, Nat.le_trans (Nat.le_of_ble_eq_true rfl) hR.2⟩) (recv0 K w) rfl hl.1 rfl (Nat.le_of_ble_eq_true rfl) dX1_add_2 hf (fun H locs w => ?_)
  refine lv_aload_n hx hb dX1_add_5 rfl (lv_at hl 0 rfl) ?_
  refine lv_iload hx hb dX1_add_6 (lv_at hl 4 rfl) ?_
  refine callv K w (c_X1_checkParentOrNone dn hb0 (by omega)) (lk_X1_45 K ⟨Nat.le_trans (Nat.le_of_ble_eq_true rfl) hR.1, Nat.le_trans (Nat.le_of_ble_eq_true rfl) hR.2⟩) (recv0 K w) rfl hl.1 rfl (Nat.le_of_ble_eq_true rfl) dX1_add_8 hf (fun H locs w => ?_)
  refine lv_aload_n hx hb dX1_add_11 rfl (lv_at hl 0 rfl) ?_
  refine lv_iload hx hb dX1_add_12 (lv_at hl 5 rfl) ?_
  refine callv K w (c_X1_checkParentOrNone dn hd (by omega)) (lk_X1_45 K ⟨Nat.le_trans (Nat.le_of_ble_eq_true rfl) hR.1, Nat.le_trans (Nat.le_of_ble_eq_true rfl) hR.2⟩) (recv0 K w) rfl hl.1 rfl (Nat.le_of_ble_eq_true rfl) dX1_add_14 hf (fun H locs w => ?_)
  refine lv_aload_n hx hb dX1_add_17 rfl (lv_at hl 0 rfl) ?_
  refine gf_X1_commits K w dX1_add_18 ?_
  refine lv_sipush (v := nI 2000) hx hb dX1_add_21 (by decide) ?_
  refine lv_icmp_lt (tgt := 37) hx hb dX1_add_24 rfl (fun _ => ?_) (fun h9 => absurd (nI_lt hn (by decide)) h9)
  refine lv_aload_n hx hb dX1_add_37 rfl (lv_at hl 0 rfl) ?_
  refine gf_X1_commits K w dX1_add_38 ?_
  refine lv_istore (lv' := [(6, .int _), (0, .ref _), (1, .int _), (2, .int _), (3, .int _), (4, .int _), (5, .int _)]) hx hb dX1_add_41 hl (by decide) rfl (fun ls hl => ?_)
  refine lv_aload_n hx hb dX1_add_43 rfl (lv_at hl 1 rfl) ?_
  refine lv_dup hx hb dX1_add_44 rfl ?_
  refine gf_X1_commits K w dX1_add_45 ?_
  refine lv_iconst (v := nI 1) hx hb dX1_add_48 (by decide) ?_
  refine lv_iadd hx hb dX1_add_49 ?_
  refine pf_X1_commits K w (nI_add n 1) dX1_add_50 (fun H locs w => ?_)
  refine lv_aload_n hx hb dX1_add_53 rfl (lv_at hl 1 rfl) ?_
  refine gf_X1_times K w dX1_add_54 ?_
  refine lv_iload hx hb dX1_add_57 (lv_at hl 0 rfl) ?_
  refine lv_iload_n hx hb dX1_add_59 rfl (lv_at hl 2 rfl) ?_
  refine stN K w row1 (by omega) dX1_add_60 (fun H locs w => ?_)
  refine lv_aload_n hx hb dX1_add_61 rfl (lv_at hl 1 rfl) ?_
  refine gf_X1_keys K w dX1_add_62 ?_
  refine lv_iload hx hb dX1_add_65 (lv_at hl 0 rfl) ?_
  refine lv_iload_n hx hb dX1_add_67 rfl (lv_at hl 3 rfl) ?_
  refine stN K w row2 (by omega) dX1_add_68 (fun H locs w => ?_)
  refine lv_aload_n hx hb dX1_add_69 rfl (lv_at hl 1 rfl) ?_
  refine gf_X1_generations K w dX1_add_70 ?_
  refine lv_iload hx hb dX1_add_73 (lv_at hl 0 rfl) ?_
  refine lv_iconst (v := nI 1) hx hb dX1_add_75 (by decide) ?_
  refine stN K w row3 (by omega) dX1_add_76 (fun H locs w => ?_)
  have w : wst E s.heap (ad0 M n ti ky) (n + 1) k H locs := w
  refine lv_aload_n hx hb dX1_add_77 rfl (lv_at hl 1 rfl) ?_
  refine lv_iload hx hb dX1_add_78 (lv_at hl 0 rfl) ?_
  refine lv_iload_n hx hb dX1_add_80 rfl (lv_at hl 4 rfl) ?_
  refine callv K w (c_X1_linkUnlessNone dn (up ha) hn e0 (by omega)) (lk_X1_60 K ⟨Nat.le_trans (Nat.le_of_ble_eq_true rfl) hR.1, Nat.le_trans (Nat.le_of_ble_eq_true rfl) hR.2⟩) (recv0 K w) rfl hl.1 rfl (Nat.le_of_ble_eq_true rfl) dX1_add_81 hf (fun H locs w => ?_)
  refine lv_aload_n hx hb dX1_add_84 rfl (lv_at hl 1 rfl) ?_
  refine lv_iload hx hb dX1_add_85 (lv_at hl 0 rfl) ?_
  refine lv_iload hx hb dX1_add_87 (lv_at hl 5 rfl) ?_
  refine callv K w (c_X1_linkUnlessNone dn (up hb0) hn e1.1 (by omega)) (lk_X1_60 K ⟨Nat.le_trans (Nat.le_of_ble_eq_true rfl) hR.1, Nat.le_trans (Nat.le_of_ble_eq_true rfl) hR.2⟩) (recv0 K w) rfl hl.1 rfl (Nat.le_of_ble_eq_true rfl) dX1_add_89 hf (fun H locs w => ?_)
  refine lv_aload_n hx hb dX1_add_92 rfl (lv_at hl 1 rfl) ?_
  refine lv_iload hx hb dX1_add_93 (lv_at hl 0 rfl) ?_
  refine lv_iload hx hb dX1_add_95 (lv_at hl 6 rfl) ?_
  refine callv K w (c_X1_linkUnlessNone dn (up hd) hn e2.1 (by omega)) (lk_X1_60 K ⟨Nat.le_trans (Nat.le_of_ble_eq_true rfl) hR.1, Nat.le_trans (Nat.le_of_ble_eq_true rfl) hR.2⟩) (recv0 K w) rfl hl.1 rfl (Nat.le_of_ble_eq_true rfl) dX1_add_97 hf (fun H locs w => ?_)
  refine lv_iload hx hb dX1_add_100 (lv_at hl 0 rfl) ?_
  exact ret w rfl dX1_add_102

set_option maxHeartbeats 4000000 in
set_option maxRecDepth 100000 in
theorem c_X1_under {l : Launch} {E : En} {M : Mt} {n k : Nat} (dn : dN E) {q u : Nat} (hq : q < n) (hu : u < q) (hn : n ≤ 2000) (h6 : M 6 q = 0) (hj : M 4 q = nI (pcn M q)) (h4 : pcn M q < 4) : MI l yX1_under (.code yX1_under cX1_under 3 (some .int)) 2 46 E [.ref (ad E 0), .int (nI q), .int (nI u)] M n k (lkF M q u 4 q)  (lkF M q u) (n) (k) := by
  refine MI.of dn (own := RX1) (by decide) rfl (Nat.le_of_ble_eq_true rfl) (fun p e s m args below meth c ls Q K w hl ret => ?_)
  have hx := K.1.1
  have hb := K.1.2.1
  have hR : 2 ≤ (rmA 2 46).frames ∧ 46 ≤ (rmA 2 46).locals := ⟨Nat.le_refl _, Nat.le_refl _⟩
  have hf : 0 ≤ (rmA 2 46).cells ∧ 0 ≤ (rmA 2 46).slots := ⟨Nat.le_refl _, Nat.le_refl _⟩
  have hl : lv_has ls 3 [(0, .ref (ad E 0)), (1, .int (nI q)), (2, .int (nI u))] := hl
  refine lv_aload_n hx hb dX1_under_0 rfl (lv_at hl 0 rfl) ?_
  refine lv_iload_n hx hb dX1_under_1 rfl (lv_at hl 1 rfl) ?_
  refine callv K w (c_X1_checkCommit dn hq hn) (lk_X1_64 K ⟨Nat.le_trans (Nat.le_of_ble_eq_true rfl) hR.1, Nat.le_trans (Nat.le_of_ble_eq_true rfl) hR.2⟩) (recv0 K w) rfl hl.1 rfl (Nat.le_of_ble_eq_true rfl) dX1_under_2 hf (fun H locs w => ?_)
  refine lv_iload_n hx hb dX1_under_5 rfl (lv_at hl 2 rfl) ?_
  refine lv_if_lt (tgt := 14) hx hb dX1_under_6 rfl (fun h9 => absurd h9 (nI_pos (by omega))) (fun _ => ?_)
  refine lv_iload_n hx hb dX1_under_9 rfl (lv_at hl 2 rfl) ?_
  refine lv_iload_n hx hb dX1_under_10 rfl (lv_at hl 1 rfl) ?_
  refine lv_icmp_lt (tgt := 24) hx hb dX1_under_11 rfl (fun _ => ?_) (fun h9 => absurd (nI_lt hu (by omega)) h9)
  refine lv_aload_n hx hb dX1_under_24 rfl (lv_at hl 0 rfl) ?_
  refine gf_X1_isParent K w dX1_under_25 ?_
  refine lv_iload_n hx hb dX1_under_28 rfl (lv_at hl 1 rfl) ?_
  refine ldZ K w (by omega) dX1_under_29 ?_
  refine lv_if_ne (tgt := 43) hx hb dX1_under_30 rfl (fun h9 => absurd h6 h9) (fun _ => ?_)
  refine lv_aload_n hx hb dX1_under_33 rfl (lv_at hl 0 rfl) ?_
  refine gf_X1_parentCounts K w dX1_under_34 ?_
  refine lv_iload_n hx hb dX1_under_37 rfl (lv_at hl 1 rfl) ?_
  refine ldN K w row4 (by omega) dX1_under_38 ?_
  refine topE (y := nI (pcn M q)) hj ?_
  refine lv_iconst (v := nI 4) hx hb dX1_under_39 (by decide) ?_
  refine lv_icmp_lt (tgt := 53) hx hb dX1_under_40 rfl (fun _ => ?_) (fun h9 => absurd (nI_lt h4 (by decide)) h9)
  refine lv_aload_n hx hb dX1_under_53 rfl (lv_at hl 0 rfl) ?_
  refine lv_iload_n hx hb dX1_under_54 rfl (lv_at hl 1 rfl) ?_
  refine lv_iload_n hx hb dX1_under_55 rfl (lv_at hl 2 rfl) ?_
  refine callv K w (c_X1_link dn (by omega) (by omega) hj h4) (lk_X1_74 K ⟨Nat.le_trans (Nat.le_of_ble_eq_true rfl) hR.1, Nat.le_trans (Nat.le_of_ble_eq_true rfl) hR.2⟩) (recv0 K w) rfl hl.1 rfl (Nat.le_of_ble_eq_true rfl) dX1_under_56 hf (fun H locs w => ?_)
  refine lv_aload_n hx hb dX1_under_59 rfl (lv_at hl 0 rfl) ?_
  refine gf_X1_parentCounts K w dX1_under_60 ?_
  refine lv_iload_n hx hb dX1_under_63 rfl (lv_at hl 1 rfl) ?_
  refine ldN K w row4 (by omega) dX1_under_64 ?_
  exact ret w rfl dX1_under_65

set_option maxHeartbeats 4000000 in
set_option maxRecDepth 100000 in
theorem c_X1_tip_1 {l : Launch} {E : En} {M : Mt} {n k : Nat} (dn : dN E) {h q : Nat} (hh : h < 2) (hq : q < n) (hn : n ≤ 2000) : MV l yX1_tip (.code yX1_tip cX1_tip 4 none) 1 21 E [.ref (ad E 0), .int (nI h), .int (nI q), .int 1] M n k  (va_up M 7 (upd (M 7) q (M 7 q ||| sdF h))) (n) (k) := by
  refine MV.of dn (own := RX1) (by decide) rfl (Nat.le_of_ble_eq_true rfl) (fun p e s m args below meth c ls Q K w hl ret => ?_)
  have hx := K.1.1
  have hb := K.1.2.1
  have hR : 1 ≤ (rmA 1 21).frames ∧ 21 ≤ (rmA 1 21).locals := ⟨Nat.le_refl _, Nat.le_refl _⟩
  have hf : 0 ≤ (rmA 1 21).cells ∧ 0 ≤ (rmA 1 21).slots := ⟨Nat.le_refl _, Nat.le_refl _⟩
  have hl : lv_has ls 4 [(0, .ref (ad E 0)), (1, .int (nI h)), (2, .int (nI q)), (3, .int 1)] := hl
  refine lv_iload_n hx hb dX1_tip_0 rfl (lv_at hl 1 rfl) ?_
  refine callsv K w (c_X1_checkHolder dn hh) (lk_X1_77 K ⟨Nat.le_trans (Nat.le_of_ble_eq_true rfl) hR.1, Nat.le_trans (Nat.le_of_ble_eq_true rfl) hR.2⟩) rfl hl.1 rfl (Nat.le_of_ble_eq_true rfl) dX1_tip_1 hf (fun H locs w => ?_)
  refine lv_aload_n hx hb dX1_tip_4 rfl (lv_at hl 0 rfl) ?_
  refine lv_iload_n hx hb dX1_tip_5 rfl (lv_at hl 2 rfl) ?_
  refine callv K w (c_X1_checkCommit dn hq hn) (lk_X1_64 K ⟨Nat.le_trans (Nat.le_of_ble_eq_true rfl) hR.1, Nat.le_trans (Nat.le_of_ble_eq_true rfl) hR.2⟩) (recv0 K w) rfl hl.1 rfl (Nat.le_of_ble_eq_true rfl) dX1_tip_6 hf (fun H locs w => ?_)
  refine lv_aload_n hx hb dX1_tip_9 rfl (lv_at hl 0 rfl) ?_
  refine gf_X1_tips K w dX1_tip_10 ?_
  refine lv_iload_n hx hb dX1_tip_13 rfl (lv_at hl 2 rfl) ?_
  refine lv_iload_n hx hb dX1_tip_14 rfl (lv_at hl 3 rfl) ?_
  refine lv_if_eq (tgt := 32) hx hb dX1_tip_15 rfl (fun h9 => absurd h9 (by decide : ¬ (1 : Int32) = 0)) (fun _ => ?_)
  refine lv_aload_n hx hb dX1_tip_18 rfl (lv_at hl 0 rfl) ?_
  refine gf_X1_tips K w dX1_tip_19 ?_
  refine lv_iload_n hx hb dX1_tip_22 rfl (lv_at hl 2 rfl) ?_
  refine ldN K w row7 (by omega) dX1_tip_23 ?_
  refine lv_iload_n hx hb dX1_tip_24 rfl (lv_at hl 1 rfl) ?_
  refine callsi K w (c_X1_sideOf dn (by omega)) (lk_X1_80 K ⟨Nat.le_trans (Nat.le_of_ble_eq_true rfl) hR.1, Nat.le_trans (Nat.le_of_ble_eq_true rfl) hR.2⟩) rfl hl.1 rfl (Nat.le_of_ble_eq_true rfl) dX1_tip_25 hf (fun H locs w => ?_)
  refine lv_ior hx hb dX1_tip_28 ?_
  refine lv_goto (tgt := 45) hx hb dX1_tip_29 rfl ?_
  refine stN K w row7 (by omega) dX1_tip_45 (fun H locs w => ?_)
  exact ret w dX1_tip_46
set_option maxHeartbeats 4000000 in
set_option maxRecDepth 100000 in
theorem c_X1_tip_0 {l : Launch} {E : En} {M : Mt} {n k : Nat} (dn : dN E) {h q : Nat} (hh : h < 2) (hq : q < n) (hn : n ≤ 2000) : MV l yX1_tip (.code yX1_tip cX1_tip 4 none) 1 21 E [.ref (ad E 0), .int (nI h), .int (nI q), .int 0] M n k  (va_up M 7 (upd (M 7) q (M 7 q &&& (sdF h ^^^ (-1))))) (n) (k) := by
  refine MV.of dn (own := RX1) (by decide) rfl (Nat.le_of_ble_eq_true rfl) (fun p e s m args below meth c ls Q K w hl ret => ?_)
  have hx := K.1.1
  have hb := K.1.2.1
  have hR : 1 ≤ (rmA 1 21).frames ∧ 21 ≤ (rmA 1 21).locals := ⟨Nat.le_refl _, Nat.le_refl _⟩
  have hf : 0 ≤ (rmA 1 21).cells ∧ 0 ≤ (rmA 1 21).slots := ⟨Nat.le_refl _, Nat.le_refl _⟩
  have hl : lv_has ls 4 [(0, .ref (ad E 0)), (1, .int (nI h)), (2, .int (nI q)), (3, .int 0)] := hl
  refine lv_iload_n hx hb dX1_tip_0 rfl (lv_at hl 1 rfl) ?_
  refine callsv K w (c_X1_checkHolder dn hh) (lk_X1_77 K ⟨Nat.le_trans (Nat.le_of_ble_eq_true rfl) hR.1, Nat.le_trans (Nat.le_of_ble_eq_true rfl) hR.2⟩) rfl hl.1 rfl (Nat.le_of_ble_eq_true rfl) dX1_tip_1 hf (fun H locs w => ?_)
  refine lv_aload_n hx hb dX1_tip_4 rfl (lv_at hl 0 rfl) ?_
  refine lv_iload_n hx hb dX1_tip_5 rfl (lv_at hl 2 rfl) ?_
  refine callv K w (c_X1_checkCommit dn hq hn) (lk_X1_64 K ⟨Nat.le_trans (Nat.le_of_ble_eq_true rfl) hR.1, Nat.le_trans (Nat.le_of_ble_eq_true rfl) hR.2⟩) (recv0 K w) rfl hl.1 rfl (Nat.le_of_ble_eq_true rfl) dX1_tip_6 hf (fun H locs w => ?_)
  refine lv_aload_n hx hb dX1_tip_9 rfl (lv_at hl 0 rfl) ?_
  refine gf_X1_tips K w dX1_tip_10 ?_
  refine lv_iload_n hx hb dX1_tip_13 rfl (lv_at hl 2 rfl) ?_
  refine lv_iload_n hx hb dX1_tip_14 rfl (lv_at hl 3 rfl) ?_
  refine lv_if_eq (tgt := 32) hx hb dX1_tip_15 rfl (fun _ => ?_) (fun h9 => absurd (rfl : (0 : Int32) = 0) h9)
  refine lv_aload_n hx hb dX1_tip_32 rfl (lv_at hl 0 rfl) ?_
  refine gf_X1_tips K w dX1_tip_33 ?_
  refine lv_iload_n hx hb dX1_tip_36 rfl (lv_at hl 2 rfl) ?_
  refine ldN K w row7 (by omega) dX1_tip_37 ?_
  refine lv_iload_n hx hb dX1_tip_38 rfl (lv_at hl 1 rfl) ?_
  refine callsi K w (c_X1_sideOf dn (by omega)) (lk_X1_80 K ⟨Nat.le_trans (Nat.le_of_ble_eq_true rfl) hR.1, Nat.le_trans (Nat.le_of_ble_eq_true rfl) hR.2⟩) rfl hl.1 rfl (Nat.le_of_ble_eq_true rfl) dX1_tip_39 hf (fun H locs w => ?_)
  refine lv_iconst (v := -1) hx hb dX1_tip_42 (by decide) ?_
  refine lv_ixor hx hb dX1_tip_43 ?_
  refine lv_iand hx hb dX1_tip_44 ?_
  refine stN K w row7 (by omega) dX1_tip_45 (fun H locs w => ?_)
  exact ret w dX1_tip_46

set_option maxHeartbeats 4000000 in
set_option maxRecDepth 100000 in
theorem c_X1_reaches {l : Launch} {E : En} {M : Mt} {n k : Nat} (dn : dN E) {b a : Nat} (hb0 : b < n) (ha : a < n) (ok : okN M n) : MI l yX1_reaches (.code yX1_reaches cX1_reaches 3 (some .boolean)) 3 66 E [.ref (ad E 0), .int (nI b), .int (nI a)] M n k (bI (decide (¬ mrF M n b 8 a = 0)))  (mrF M n b) (n) (k) := by
  refine MI.ofZ dn (own := RX1) (by decide) rfl (Nat.le_of_ble_eq_true rfl) (bI_z _) (fun p e s m args below meth c ls Q K w hl ret => ?_)
  have hx := K.1.1
  have hb := K.1.2.1
  have hR : 3 ≤ (rmA 3 66).frames ∧ 66 ≤ (rmA 3 66).locals := ⟨Nat.le_refl _, Nat.le_refl _⟩
  have hf : 0 ≤ (rmA 3 66).cells ∧ 0 ≤ (rmA 3 66).slots := ⟨Nat.le_refl _, Nat.le_refl _⟩
  have hl : lv_has ls 3 [(0, .ref (ad E 0)), (1, .int (nI b)), (2, .int (nI a))] := hl
  have hn := ok.1
  refine lv_aload_n hx hb dX1_reaches_0 rfl (lv_at hl 0 rfl) ?_
  refine lv_iload_n hx hb dX1_reaches_1 rfl (lv_at hl 1 rfl) ?_
  refine callv K w (c_X1_checkCommit dn hb0 ok.1) (lk_X1_64 K ⟨Nat.le_trans (Nat.le_of_ble_eq_true rfl) hR.1, Nat.le_trans (Nat.le_of_ble_eq_true rfl) hR.2⟩) (recv0 K w) rfl hl.1 rfl (Nat.le_of_ble_eq_true rfl) dX1_reaches_2 hf (fun H locs w => ?_)
  refine lv_aload_n hx hb dX1_reaches_5 rfl (lv_at hl 0 rfl) ?_
  refine lv_iload_n hx hb dX1_reaches_6 rfl (lv_at hl 2 rfl) ?_
  refine callv K w (c_X1_checkCommit dn ha ok.1) (lk_X1_64 K ⟨Nat.le_trans (Nat.le_of_ble_eq_true rfl) hR.1, Nat.le_trans (Nat.le_of_ble_eq_true rfl) hR.2⟩) (recv0 K w) rfl hl.1 rfl (Nat.le_of_ble_eq_true rfl) dX1_reaches_7 hf (fun H locs w => ?_)
  refine lv_aload_n hx hb dX1_reaches_10 rfl (lv_at hl 0 rfl) ?_
  refine lv_iload_n hx hb dX1_reaches_11 rfl (lv_at hl 1 rfl) ?_
  refine callv K w (c_X1_markReachable dn hb0 ok) (lk_X1_84 K ⟨Nat.le_trans (Nat.le_of_ble_eq_true rfl) hR.1, Nat.le_trans (Nat.le_of_ble_eq_true rfl) hR.2⟩) (recv0 K w) rfl hl.1 rfl (Nat.le_of_ble_eq_true rfl) dX1_reaches_12 hf (fun H locs w => ?_)
  refine lv_aload_n hx hb dX1_reaches_15 rfl (lv_at hl 0 rfl) ?_
  refine gf_X1_marks K w dX1_reaches_16 ?_
  refine lv_iload_n hx hb dX1_reaches_19 rfl (lv_at hl 2 rfl) ?_
  refine ldN K w row8 (by omega) dX1_reaches_20 ?_
  refine lv_if_eq (tgt := 28) hx hb dX1_reaches_21 rfl (fun h21 => ?_) (fun h21 => ?_)
  · refine lv_iconst (v := nI 0) hx hb dX1_reaches_28 (by decide) ?_
    exact ret w (by first | exact bn_t h21 | exact bn_f h21) dX1_reaches_29
  · refine lv_iconst (v := nI 1) hx hb dX1_reaches_24 (by decide) ?_
    refine lv_goto (tgt := 29) hx hb dX1_reaches_25 rfl ?_
    exact ret w (by first | exact bn_t h21 | exact bn_f h21) dX1_reaches_29
end
section
theorem swF_row {M : Mt} {x y r : Nat} (h1 : r ≠ 11) (h2 : r ≠ 12) (h3 : r ≠ 13) : swF M x y r = M r := by
  rw [swF, va_up_ne _ _ h3, va_up_ne _ _ h2, va_up_ne _ _ h1]
theorem riF_row {r : Nat} (h1 : r ≠ 11) (h2 : r ≠ 12) (h3 : r ≠ 13) : ∀ {f p : Nat} {M : Mt}, riF f M p r = M r := by
  intro f
  induction f with
  | zero => intro p M; rfl
  | succ f ih =>
    intro p M
    rw [riF]
    split
    · rfl
    · split
      · rfl
      · rw [ih, swF_row h1 h2 h3]
theorem siF_row {r : Nat} (h1 : r ≠ 11) (h2 : r ≠ 12) (h3 : r ≠ 13) : ∀ {f k p : Nat} {M : Mt}, siF f M k p r = M r := by
  intro f
  induction f with
  | zero => intro k p M; rfl
  | succ f ih =>
    intro k p M
    rw [siF]
    split
    · split
      · rfl
      · rw [ih, swF_row h1 h2 h3]
    · rfl
theorem ptF_row {M : Mt} {k r : Nat} {a b d : Int32} (h1 : r ≠ 11) (h2 : r ≠ 12) (h3 : r ≠ 13) : ptF M k a b d r = M r := by
  rw [ptF, va_up_ne _ _ h3, va_up_ne _ _ h2, va_up_ne _ _ h1]
theorem puF_row {M : Mt} {k r : Nat} {a b d : Int32} (h1 : r ≠ 11) (h2 : r ≠ 12) (h3 : r ≠ 13) : puF M k a b d r = M r := by
  rw [puF]
  split
  · rfl
  · rw [riF_row h1 h2 h3, ptF_row h1 h2 h3]
theorem tkF_row {M : Mt} {k r : Nat} (h1 : r ≠ 11) (h2 : r ≠ 12) (h3 : r ≠ 13) : tkF M k r = M r := by
  rw [tkF]
  split
  · rfl
  · rw [siF_row h1 h2 h3, swF_row h1 h2 h3]
theorem qoF_row {M : Mt} {k c r : Nat} (h1 : r ≠ 11) (h2 : r ≠ 12) (h3 : r ≠ 13) : qoF M k c r = M r := puF_row h1 h2 h3
theorem puK_le {k : Nat} (h : k ≤ 2000) : puK k ≤ 2000 := by
  rw [puK]
  split <;> omega
/-- what the queue holds are commits -/
def qN (M : Mt) (n k : Nat) : Prop := ∀ i, i < k → ∃ c, c < n ∧ M 13 i = nI c
theorem sw1_at {f : Nat → Int32} {x y i : Nat} : ∃ j, (j = i ∨ j = x ∨ j = y) ∧ sw1 f x y i = f j := by
  by_cases hy : i = y
  · exact ⟨x, Or.inr (Or.inl rfl), by rw [sw1, hy, pk_us]⟩
  · by_cases hx : i = x
    · exact ⟨y, Or.inr (Or.inr rfl), by rw [sw1, pk_un hy, hx, pk_us]⟩
    · exact ⟨i, Or.inl rfl, by rw [sw1, pk_un hy, pk_un hx]⟩
theorem swF_13 {M : Mt} {x y : Nat} : swF M x y 13 = sw1 (M 13) x y := rfl
theorem qN.sw {M : Mt} {n k x y : Nat} (h : qN M n k) (hx : x < k) (hy : y < k) : qN (swF M x y) n k := by
  intro i hi
  obtain ⟨j, hj, e⟩ := sw1_at (f := M 13) (x := x) (y := y) (i := i)
  rw [swF_13, e]
  exact h j (by rcases hj with h | h | h <;> omega)
theorem qN.ri {n k : Nat} : ∀ {f p : Nat} {M : Mt}, qN M n k → p < k → qN (riF f M p) n k := by
  intro f
  induction f with
  | zero => intro p M h _; exact h
  | succ f ih =>
    intro p M h hp
    rw [riF]
    split
    · exact h
    · split
      · exact h
      · exact ih (h.sw (by omega) hp) (by omega)
theorem chF_lt {M : Mt} {k p : Nat} (h : 2 * p + 1 < k) : chF M k p < k := by
  rw [chF]
  split <;> omega
theorem qN.si {n k : Nat} : ∀ {f p : Nat} {M : Mt}, qN M n k → qN (siF f M k p) n k := by
  intro f
  induction f with
  | zero => intro p M h; exact h
  | succ f ih =>
    intro p M h
    rw [siF]
    split
    · rename_i h1
      split
      · exact h
      · exact ih (h.sw (by omega) (chF_lt h1))
    · exact h
theorem qN.pt {M : Mt} {n k c : Nat} {a b : Int32} (h : qN M n k) (hc : c < n) : qN (ptF M k a b (nI c)) n (k + 1) := by
  intro i hi
  have e : ptF M k a b (nI c) 13 = upd (M 13) k (nI c) := rfl
  rw [e]
  by_cases hk : i = k
  · exact ⟨c, hc, by rw [hk, pk_us]⟩
  · rw [pk_un hk]
    exact h i (by omega)
theorem qN.pu {M : Mt} {n k c : Nat} {a b : Int32} (h : qN M n k) (hc : c < n) : qN (puF M k a b (nI c)) n (puK k) := by
  rw [puF, puK]
  split
  · exact h
  · exact (h.pt hc).ri (by omega)
theorem qN.tk {M : Mt} {n k : Nat} (h : qN M n k) : qN (tkF M k) n (k - 1) := by
  rw [tkF]
  split
  · exact fun i hi => h i (by omega)
  · exact qN.si (fun i hi => h.sw (x := 0) (y := k - 1) (by omega) (by omega) i (by omega))
theorem qN.up9 {M : Mt} {n k : Nat} {g : Nat → Int32} (h : qN M n k) : qN (va_up M 9 g) n k := h
theorem tlF_inv {n c : Nat} (hc : c < n) : ∀ {d t : Nat} {u : Mt × Nat}, okN u.1 n → t + d = pcn u.1 c → u.2 ≤ 2000 → qN u.1 n u.2 → okN (tlF c d t u).1 n ∧ (tlF c d t u).2 ≤ 2000 ∧ qN (tlF c d t u).1 n (tlF c d t u).2 := by
  intro d
  induction d with
  | zero => intro t u ok _ hk hq; exact ⟨ok, hk, hq⟩
  | succ d ih =>
    intro t u ok ht hk hq
    have hp : par u.1 c t < n := Nat.lt_trans (ok.lt hc (by omega)) hc
    rw [tlF]
    dsimp only
    split
    · exact ih (okN.rows (M := u.1) ok (qoF_row (by decide) (by decide) (by decide)) (qoF_row (by decide) (by decide) (by decide))) (by show t + 1 + d = ix (qoF _ u.2 (par u.1 c t) 4 c); rw [qoF_row (by decide) (by decide) (by decide)]; show t + 1 + d = pcn u.1 c; omega) (puK_le hk) (hq.up9.pu hp)
    · exact ih ok (by show t + 1 + d = pcn u.1 c; omega) hk hq
theorem tk0 {M : Mt} {n k : Nat} (hn : n ≤ 2000) (hq : qN M n k) (hk : 0 < k) : tkR M k = nI (ix (tkR M k)) ∧ ix (tkR M k) < n := by
  obtain ⟨c, hc, e⟩ := hq 0 hk
  rw [tkR, if_neg (by omega), e]
  rw [show ix (nI c) = c from nI_clamp (by omega)]
  exact ⟨rfl, hc⟩
theorem tnF_inv {n : Nat} {u : Mt × Nat} (ok : okN u.1 n) (h0 : 0 < u.2) (hk : u.2 ≤ 2000) (hq : qN u.1 n u.2) : okN (tnF u).1 n ∧ (tnF u).2 ≤ 2000 ∧ qN (tnF u).1 n (tnF u).2 :=
  tlF_inv (tk0 ok.1 hq h0).2 (ok.rows (tkF_row (by decide) (by decide) (by decide)) (tkF_row (by decide) (by decide) (by decide))) (Nat.zero_add _) (Nat.le_trans (Nat.sub_le _ _) hk) hq.tk
theorem taF_inv {n : Nat} : ∀ {i : Nat} {u : Mt × Nat}, okN u.1 n → u.2 ≤ 2000 → qN u.1 n u.2 → okN (taF i u).1 n ∧ (taF i u).2 ≤ 2000 ∧ qN (taF i u).1 n (taF i u).2 := by
  intro i
  induction i with
  | zero => intro u ok hk hq; exact ⟨ok, hk, hq⟩
  | succ i ih =>
    intro u ok hk hq
    rw [taF]
    split
    · rename_i h0
      obtain ⟨a, b, d⟩ := tnF_inv ok h0 hk hq
      exact ih a b d
    · exact ⟨ok, hk, hq⟩
theorem u1F_row {r : Nat} (hr : r ≠ 9) : ∀ {d i : Nat} {M : Mt}, u1F d i M r = M r := by
  intro d
  induction d with
  | zero => intro i M; rfl
  | succ d ih => intro i M; rw [u1F, ih, va_up_ne _ _ hr]
theorem u2F_row {c r : Nat} (hr : r ≠ 9) : ∀ {d t : Nat} {M : Mt}, u2F c d t M r = M r := by
  intro d
  induction d with
  | zero => intro t M; rfl
  | succ d ih => intro t M; rw [u2F, ih, va_up_ne _ _ hr]
theorem u3F_row {r : Nat} (hr : r ≠ 9) : ∀ {d i : Nat} {M : Mt}, u3F d i M r = M r := by
  intro d
  induction d with
  | zero => intro i M; rfl
  | succ d ih => intro i M; rw [u3F, ih, u2F_row hr]
theorem cuF_row {M : Mt} {n r : Nat} (hr : r ≠ 9) : cuF M n r = M r := by rw [cuF, u3F_row hr, u1F_row hr]
end
section
theorem qaF_le {M : Mt} {k j : Nat} (hk : k ≤ 2000) : (qaF j (M, k)).2 ≤ 2000 := by
  induction j generalizing M k with
  | zero => exact hk
  | succ j ih => exact ih (by omega)
section QA
variable {p : Program} {l : Launch} {e : Env} {R : Room} {s : State} {m : MethodId} {args : Array Value} {below : List Frame} {meth : Method} {c : Code} {H : Heap} {locs : List Loc} {cells slots : Nat} {Q : State → Prop} {ls : Array Slot} {w0 : Cond} {E : En} {M MF : Mt} {UF : Mt × Nat} {n k : Nat}
set_option maxHeartbeats 4000000 in
set_option maxRecDepth 100000 in
theorem lp_u1 (K : cX E p m c cX1_countUntoldLinks 4 s args w0 RX1) (hR : 0 ≤ R.frames ∧ 0 ≤ R.locals) (hf : cells ≤ R.cells ∧ slots ≤ R.slots) (kk : ∀ (H : Heap) (locs : List Loc) (ls : Array Slot), wst E s.heap MF n k H locs → lv_has ls 4 [(0, .ref (ad E 0))] → W p l e R s m args below meth c H locs cells slots Q (F0 m 23 ls [])) (hn : n ≤ 2000) : ∀ (d i : Nat) (M : Mt) (H : Heap) (locs : List Loc) (ls : Array Slot), i + d = n → u1F d i M = MF → wst E s.heap M n k H locs → lv_has ls 4 [(1, .int (nI i)), (0, .ref (ad E 0))] → W p l e R s m args below meth c H locs cells slots Q (F0 m 2 ls []) := by
  have hx := K.1.1
  have hb := K.1.2.1
  intro d
  induction d with
  | zero =>
    intro i M H locs ls hi hm w hl
    refine lv_iload_n hx hb dX1_countUntoldLinks_2 rfl (lv_at hl 0 rfl) ?_
    refine lv_aload_n hx hb dX1_countUntoldLinks_3 rfl (lv_at hl 1 rfl) ?_
    refine gf_X1_commits K w dX1_countUntoldLinks_4 ?_
    refine lv_icmp_ge (tgt := 23) hx hb dX1_countUntoldLinks_7 rfl (fun _ => ?_) (fun h9 => absurd (nI_le (by omega) (by omega)) h9)
    exact kk _ _ _ (by rw [← hm]; exact w) (lv_sub hl [1] rfl)
  | succ d ih =>
    intro i M H locs ls hi hm w hl
    refine lv_iload_n hx hb dX1_countUntoldLinks_2 rfl (lv_at hl 0 rfl) ?_
    refine lv_aload_n hx hb dX1_countUntoldLinks_3 rfl (lv_at hl 1 rfl) ?_
    refine gf_X1_commits K w dX1_countUntoldLinks_4 ?_
    refine lv_icmp_ge (tgt := 23) hx hb dX1_countUntoldLinks_7 rfl (fun h9 => absurd h9 (nI_ge (by omega) (by omega))) (fun _ => ?_)
    refine lv_aload_n hx hb dX1_countUntoldLinks_10 rfl (lv_at hl 1 rfl) ?_
    refine gf_X1_untoldLinks K w dX1_countUntoldLinks_11 ?_
    refine lv_iload_n hx hb dX1_countUntoldLinks_14 rfl (lv_at hl 0 rfl) ?_
    refine lv_iconst (v := nI 0) hx hb dX1_countUntoldLinks_15 (by decide) ?_
    refine stN K w row9 (by omega) dX1_countUntoldLinks_16 (fun H locs w => ?_)
    refine lv_iinc (k := 0) (v := nI (_ + 1)) (lv' := [(1, .int _), (0, .ref _)]) hx hb dX1_countUntoldLinks_17 hl rfl (inc1 _) (by decide) rfl (fun ls hl => ?_)
    refine lv_goto (tgt := 2) hx hb dX1_countUntoldLinks_20 rfl ?_
    exact ih (i + 1) _ _ _ _ (by omega) hm w (lv_sub hl [0, 1] rfl)

set_option maxHeartbeats 4000000 in
set_option maxRecDepth 100000 in
theorem lp_u2 (K : cX E p m c cX1_countUntoldLinks 4 s args w0 RX1) (hR : 1 ≤ R.frames ∧ 22 ≤ R.locals) (hf : cells ≤ R.cells ∧ slots ≤ R.slots) {q j : Nat} (hq : q < n) (hn : n ≤ 2000) (kk : ∀ (H : Heap) (locs : List Loc) (ls : Array Slot), wst E s.heap MF n k H locs → lv_has ls 4 [(1, .int (nI q)), (0, .ref (ad E 0))] → W p l e R s m args below meth c H locs cells slots Q (F0 m 81 ls [])) : ∀ (d i : Nat) (M : Mt) (H : Heap) (locs : List Loc) (ls : Array Slot), i + d = j → okN M n → j ≤ pcn M q → u2F q d i M = MF → wst E s.heap M n k H locs → lv_has ls 4 [(3, .int (nI i)), (2, .int (nI j)), (1, .int (nI q)), (0, .ref (ad E 0))] → W p l e R s m args below meth c H locs cells slots Q (F0 m 55 ls []) := by
  have hx := K.1.1
  have hb := K.1.2.1
  intro d
  induction d with
  | zero =>
    intro i M H locs ls hi ok hj hm w hl
    have h4 := ok.le hq
    refine lv_iload_n hx hb dX1_countUntoldLinks_55 rfl (lv_at hl 0 rfl) ?_
    refine lv_iload_n hx hb dX1_countUntoldLinks_56 rfl (lv_at hl 1 rfl) ?_
    refine lv_icmp_ge (tgt := 81) hx hb dX1_countUntoldLinks_57 rfl (fun _ => ?_) (fun h9 => absurd (nI_le (by omega) (by omega)) h9)
    exact kk _ _ _ (by rw [← hm]; exact w) (lv_sub hl [2, 3] rfl)
  | succ d ih =>
    intro i M H locs ls hi ok hj hm w hl
    have h4 := ok.le hq
    have h5 := ok.lt hq (t := i) (by omega)
    refine lv_iload_n hx hb dX1_countUntoldLinks_55 rfl (lv_at hl 0 rfl) ?_
    refine lv_iload_n hx hb dX1_countUntoldLinks_56 rfl (lv_at hl 1 rfl) ?_
    refine lv_icmp_ge (tgt := 81) hx hb dX1_countUntoldLinks_57 rfl (fun h9 => absurd h9 (nI_ge (by omega) (by omega))) (fun _ => ?_)
    refine lv_aload_n hx hb dX1_countUntoldLinks_60 rfl (lv_at hl 3 rfl) ?_
    refine gf_X1_untoldLinks K w dX1_countUntoldLinks_61 ?_
    refine lv_aload_n hx hb dX1_countUntoldLinks_64 rfl (lv_at hl 3 rfl) ?_
    refine lv_iload_n hx hb dX1_countUntoldLinks_65 rfl (lv_at hl 2 rfl) ?_
    refine lv_iload_n hx hb dX1_countUntoldLinks_66 rfl (lv_at hl 0 rfl) ?_
    refine calli K w (c_X1_parentOf K.2.2 (by omega) (ok.pr hq (by omega))) (lk_X1_120 K ⟨Nat.le_trans (Nat.le_of_ble_eq_true rfl) hR.1, Nat.le_trans (Nat.le_of_ble_eq_true rfl) hR.2⟩) (recv0 K w) rfl hl.1 rfl (Nat.le_of_ble_eq_true rfl) dX1_countUntoldLinks_67 hf (fun H locs w => ?_)
    refine lv_dup2_11 hx hb dX1_countUntoldLinks_70 rfl rfl ?_
    refine ldN K w row9 (by omega) dX1_countUntoldLinks_71 ?_
    refine lv_iconst (v := nI 1) hx hb dX1_countUntoldLinks_72 (by decide) ?_
    refine lv_iadd hx hb dX1_countUntoldLinks_73 ?_
    refine stN K w row9 (by omega) dX1_countUntoldLinks_74 (fun H locs w => ?_)
    refine lv_iinc (k := 0) (v := nI (_ + 1)) (lv' := [(3, .int _), (2, .int _), (1, .int _), (0, .ref _)]) hx hb dX1_countUntoldLinks_75 hl rfl (inc1 _) (by decide) rfl (fun ls hl => ?_)
    refine lv_goto (tgt := 55) hx hb dX1_countUntoldLinks_78 rfl ?_
    exact ih (i + 1) (va_up M 9 (upd (M 9) (par M q i) (M 9 (par M q i) + nI 1))) _ _ _ (by omega) ok hj hm w (lv_sub hl [0, 1, 2, 3] rfl)

set_option maxHeartbeats 4000000 in
set_option maxRecDepth 100000 in
theorem lp_u3 (K : cX E p m c cX1_countUntoldLinks 4 s args w0 RX1) (hR : 1 ≤ R.frames ∧ 22 ≤ R.locals) (hf : cells ≤ R.cells ∧ slots ≤ R.slots) (ret : ∀ {H : Heap} {locs : List Loc} {pc : Nat} {ls : Array Slot}, wst E s.heap MF n k H locs → decode cX1_countUntoldLinks pc = .ok (.return_, 1) → W p l e R s m args below meth c H locs cells slots Q (F0 m pc ls [])) : ∀ (d i : Nat) (M : Mt) (H : Heap) (locs : List Loc) (ls : Array Slot), i + d = n → okN M n → u3F d i M = MF → wst E s.heap M n k H locs → lv_has ls 4 [(1, .int (nI i)), (0, .ref (ad E 0))] → W p l e R s m args below meth c H locs cells slots Q (F0 m 25 ls []) := by
  have hx := K.1.1
  have hb := K.1.2.1
  intro d
  induction d with
  | zero =>
    intro i M H locs ls hi ok hm w hl
    have hn := ok.1
    refine lv_iload_n hx hb dX1_countUntoldLinks_25 rfl (lv_at hl 0 rfl) ?_
    refine lv_aload_n hx hb dX1_countUntoldLinks_26 rfl (lv_at hl 1 rfl) ?_
    refine gf_X1_commits K w dX1_countUntoldLinks_27 ?_
    refine lv_icmp_ge (tgt := 87) hx hb dX1_countUntoldLinks_30 rfl (fun _ => ?_) (fun h9 => absurd (nI_le (by omega) (by omega)) h9)
    exact ret (by rw [← hm]; exact w) dX1_countUntoldLinks_87
  | succ d ih =>
    intro i M H locs ls hi ok hm w hl
    have hn := ok.1
    refine lv_iload_n hx hb dX1_countUntoldLinks_25 rfl (lv_at hl 0 rfl) ?_
    refine lv_aload_n hx hb dX1_countUntoldLinks_26 rfl (lv_at hl 1 rfl) ?_
    refine gf_X1_commits K w dX1_countUntoldLinks_27 ?_
    refine lv_icmp_ge (tgt := 87) hx hb dX1_countUntoldLinks_30 rfl (fun h9 => absurd h9 (nI_ge (by omega) (by omega))) (fun _ => ?_)
    have h4 := ok.le (c := i) (by omega)
    by_cases h8 : M 8 i = 0
    · rw [u3F, if_pos h8] at hm
      refine lv_aload_n hx hb dX1_countUntoldLinks_33 rfl (lv_at hl 1 rfl) ?_
      refine gf_X1_marks K w dX1_countUntoldLinks_34 ?_
      refine lv_iload_n hx hb dX1_countUntoldLinks_37 rfl (lv_at hl 0 rfl) ?_
      refine ldN K w row8 (by omega) dX1_countUntoldLinks_38 ?_
      refine lv_if_ne (tgt := 46) hx hb dX1_countUntoldLinks_39 rfl (fun h9 => absurd h8 h9) (fun _ => ?_)
      refine lv_iconst (v := nI 0) hx hb dX1_countUntoldLinks_42 (by decide) ?_
      refine lv_goto (tgt := 52) hx hb dX1_countUntoldLinks_43 rfl ?_
      refine lv_istore_n (lv' := [(2, .int _), (1, .int _), (0, .ref _)]) hx hb dX1_countUntoldLinks_52 rfl hl (by decide) rfl (fun ls hl => ?_)
      refine lv_iconst (v := nI 0) hx hb dX1_countUntoldLinks_53 (by decide) ?_
      refine lv_istore_n (lv' := [(3, .int _), (2, .int _), (1, .int _), (0, .ref _)]) hx hb dX1_countUntoldLinks_54 rfl hl (by decide) rfl (fun ls hl => ?_)
      refine lp_u2 (j := 0) K ⟨Nat.le_trans (Nat.le_of_ble_eq_true rfl) hR.1, Nat.le_trans (Nat.le_of_ble_eq_true rfl) hR.2⟩ hf (by omega) ok.1 (fun H locs ls w hl => ?_) (0) 0 M _ _ _ (by omega) ok (Nat.zero_le _) rfl w (lv_sub hl [0, 1, 2, 3] rfl)
      refine lv_iinc (k := 0) (v := nI (_ + 1)) (lv' := [(1, .int _), (0, .ref _)]) hx hb dX1_countUntoldLinks_81 hl rfl (inc1 _) (by decide) rfl (fun ls hl => ?_)
      refine lv_goto (tgt := 25) hx hb dX1_countUntoldLinks_84 rfl ?_
      exact ih (i + 1) _ _ _ _ (by omega) (ok.rows (u2F_row (by decide)) (u2F_row (by decide))) hm w (lv_sub hl [0, 1] rfl)
    · rw [u3F, if_neg h8] at hm
      refine lv_aload_n hx hb dX1_countUntoldLinks_33 rfl (lv_at hl 1 rfl) ?_
      refine gf_X1_marks K w dX1_countUntoldLinks_34 ?_
      refine lv_iload_n hx hb dX1_countUntoldLinks_37 rfl (lv_at hl 0 rfl) ?_
      refine ldN K w row8 (by omega) dX1_countUntoldLinks_38 ?_
      refine lv_if_ne (tgt := 46) hx hb dX1_countUntoldLinks_39 rfl (fun _ => ?_) (fun h9 => absurd h9 h8)
      refine lv_aload_n hx hb dX1_countUntoldLinks_46 rfl (lv_at hl 1 rfl) ?_
      refine gf_X1_parentCounts K w dX1_countUntoldLinks_47 ?_
      refine lv_iload_n hx hb dX1_countUntoldLinks_50 rfl (lv_at hl 0 rfl) ?_
      refine ldN K w row4 (by omega) dX1_countUntoldLinks_51 ?_
      refine topE (y := nI (pcn M i)) (ok.pc (by omega)) ?_
      refine lv_istore_n (lv' := [(2, .int _), (1, .int _), (0, .ref _)]) hx hb dX1_countUntoldLinks_52 rfl hl (by decide) rfl (fun ls hl => ?_)
      refine lv_iconst (v := nI 0) hx hb dX1_countUntoldLinks_53 (by decide) ?_
      refine lv_istore_n (lv' := [(3, .int _), (2, .int _), (1, .int _), (0, .ref _)]) hx hb dX1_countUntoldLinks_54 rfl hl (by decide) rfl (fun ls hl => ?_)
      refine lp_u2 (j := pcn M i) K ⟨Nat.le_trans (Nat.le_of_ble_eq_true rfl) hR.1, Nat.le_trans (Nat.le_of_ble_eq_true rfl) hR.2⟩ hf (by omega) ok.1 (fun H locs ls w hl => ?_) (pcn M i) 0 M _ _ _ (by omega) ok (Nat.le_refl _) rfl w (lv_sub hl [0, 1, 2, 3] rfl)
      refine lv_iinc (k := 0) (v := nI (_ + 1)) (lv' := [(1, .int _), (0, .ref _)]) hx hb dX1_countUntoldLinks_81 hl rfl (inc1 _) (by decide) rfl (fun ls hl => ?_)
      refine lv_goto (tgt := 25) hx hb dX1_countUntoldLinks_84 rfl ?_
      exact ih (i + 1) _ _ _ _ (by omega) (ok.rows (u2F_row (by decide)) (u2F_row (by decide))) hm w (lv_sub hl [0, 1] rfl)

set_option maxHeartbeats 4000000 in
set_option maxRecDepth 100000 in
theorem lp_qa (K : cX E p m c cX1_queuedAt 3 s args w0 RX1) (hR : 3 ≤ R.frames ∧ 68 ≤ R.locals) (hf : cells ≤ R.cells ∧ slots ≤ R.slots) {j : Nat} (hj : j < 2147483648) (kk : ∀ (H : Heap) (locs : List Loc) (ls : Array Slot), wst E s.heap UF.1 n UF.2 H locs → lv_has ls 3 [(0, .ref (ad E 0))] → W p l e R s m args below meth c H locs cells slots Q (F0 m 45 ls [])) : ∀ (d i : Nat) (M : Mt) (k : Nat) (H : Heap) (locs : List Loc) (ls : Array Slot), i + d = j → k ≤ 2000 → qaF d (M, k) = UF → wst E s.heap M n k H locs → lv_has ls 3 [(2, .int (nI i)), (1, .int (nI j)), (0, .ref (ad E 0))] → W p l e R s m args below meth c H locs cells slots Q (F0 m 26 ls []) := by
  have hx := K.1.1
  have hb := K.1.2.1
  intro d
  induction d with
  | zero =>
    intro i M k H locs ls hi hk hm w hl
    refine lv_iload_n hx hb dX1_queuedAt_26 rfl (lv_at hl 0 rfl) ?_
    refine lv_iload_n hx hb dX1_queuedAt_27 rfl (lv_at hl 1 rfl) ?_
    refine lv_icmp_ge (tgt := 45) hx hb dX1_queuedAt_28 rfl (fun _ => ?_) (fun h9 => absurd (nI_le (by omega) (by omega)) h9)
    exact kk _ _ _ (by rw [← hm]; exact w) (lv_sub hl [2] rfl)
  | succ d ih =>
    intro i M k H locs ls hi hk hm w hl
    refine lv_iload_n hx hb dX1_queuedAt_26 rfl (lv_at hl 0 rfl) ?_
    refine lv_iload_n hx hb dX1_queuedAt_27 rfl (lv_at hl 1 rfl) ?_
    refine lv_icmp_ge (tgt := 45) hx hb dX1_queuedAt_28 rfl (fun h9 => absurd h9 (nI_ge (by omega) (by omega))) (fun _ => ?_)
    refine lv_aload_n hx hb dX1_queuedAt_31 rfl (lv_at hl 2 rfl) ?_
    refine gf_X1_queue K w dX1_queuedAt_32 ?_
    refine calli K w (c_X0_take K.2.2 hk) (lk_X1_170 K ⟨Nat.le_trans (Nat.le_of_ble_eq_true rfl) hR.1, Nat.le_trans (Nat.le_of_ble_eq_true rfl) hR.2⟩) (recv10 K w) rfl hl.1 rfl (Nat.le_of_ble_eq_true rfl) dX1_queuedAt_35 hf (fun H locs w => ?_)
    refine lv_pop hx hb dX1_queuedAt_38 rfl ?_
    refine lv_iinc (k := 0) (v := nI (_ + 1)) (lv' := [(2, .int _), (1, .int _), (0, .ref _)]) hx hb dX1_queuedAt_39 hl rfl (inc1 _) (by decide) rfl (fun ls hl => ?_)
    refine lv_goto (tgt := 26) hx hb dX1_queuedAt_42 rfl ?_
    exact ih (i + 1) _ _ _ _ _ (by omega) (by omega) hm w (lv_sub hl [0, 1, 2] rfl)

end QA
set_option maxHeartbeats 4000000 in
set_option maxRecDepth 100000 in
theorem c_X1_countUntoldLinks {l : Launch} {E : En} {M : Mt} {n k : Nat} (dn : dN E) (ok : okN M n) : MV l yX1_countUntoldLinks (.code yX1_countUntoldLinks cX1_countUntoldLinks 4 none) 1 22 E [.ref (ad E 0)] M n k  (cuF M n) (n) (k) := by
  refine MV.of dn (own := RX1) (by decide) rfl (Nat.le_of_ble_eq_true rfl) (fun p e s m args below meth c ls Q K w hl ret => ?_)
  have hx := K.1.1
  have hb := K.1.2.1
  have hR : 1 ≤ (rmA 1 22).frames ∧ 22 ≤ (rmA 1 22).locals := ⟨Nat.le_refl _, Nat.le_refl _⟩
  have hf : 0 ≤ (rmA 1 22).cells ∧ 0 ≤ (rmA 1 22).slots := ⟨Nat.le_refl _, Nat.le_refl _⟩
  have hl : lv_has ls 4 [(0, .ref (ad E 0))] := hl
  refine lv_iconst (v := nI 0) hx hb dX1_countUntoldLinks_0 (by decide) ?_
  refine lv_istore_n (lv' := [(1, .int _), (0, .ref _)]) hx hb dX1_countUntoldLinks_1 rfl hl (by decide) rfl (fun ls hl => ?_)
  refine lp_u1 K ⟨Nat.le_trans (Nat.le_of_ble_eq_true rfl) hR.1, Nat.le_trans (Nat.le_of_ble_eq_true rfl) hR.2⟩ hf (fun H locs ls w hl => ?_) ok.1 n 0 M _ _ _ (by omega) rfl w hl
  refine lv_iconst (v := nI 0) hx hb dX1_countUntoldLinks_23 (by decide) ?_
  refine lv_istore_n (lv' := [(1, .int _), (0, .ref _)]) hx hb dX1_countUntoldLinks_24 rfl hl (by decide) rfl (fun ls hl => ?_)
  exact lp_u3 K hR hf ret n 0 _ _ _ _ (by omega) (ok.rows (u1F_row (by decide)) (u1F_row (by decide))) rfl w hl

set_option maxHeartbeats 4000000 in
set_option maxRecDepth 100000 in
theorem c_X1_queueInTheOrder {l : Launch} {E : En} {M : Mt} {n k : Nat} (dn : dN E) {q : Nat} (hq : q < 2000) (hk : k ≤ 2000) : MV l yX1_queueInTheOrder (.code yX1_queueInTheOrder cX1_queueInTheOrder 2 none) 3 70 E [.ref (ad E 0), .int (nI q)] M n k  (qoF M k q) (n) (puK k) := by
  refine MV.of dn (own := RX1) (by decide) rfl (Nat.le_of_ble_eq_true rfl) (fun p e s m args below meth c ls Q K w hl ret => ?_)
  have hx := K.1.1
  have hb := K.1.2.1
  have hR : 3 ≤ (rmA 3 70).frames ∧ 70 ≤ (rmA 3 70).locals := ⟨Nat.le_refl _, Nat.le_refl _⟩
  have hf : 0 ≤ (rmA 3 70).cells ∧ 0 ≤ (rmA 3 70).slots := ⟨Nat.le_refl _, Nat.le_refl _⟩
  have hl : lv_has ls 2 [(0, .ref (ad E 0)), (1, .int (nI q))] := hl
  refine lv_aload_n hx hb dX1_queueInTheOrder_0 rfl (lv_at hl 0 rfl) ?_
  refine gf_X1_queue K w dX1_queueInTheOrder_1 ?_
  refine lv_aload_n hx hb dX1_queueInTheOrder_4 rfl (lv_at hl 0 rfl) ?_
  refine gf_X1_times K w dX1_queueInTheOrder_5 ?_
  refine lv_iload_n hx hb dX1_queueInTheOrder_8 rfl (lv_at hl 1 rfl) ?_
  refine ldN K w row1 (by omega) dX1_queueInTheOrder_9 ?_
  refine lv_iconst (v := -1) hx hb dX1_queueInTheOrder_10 (by decide) ?_
  refine lv_ixor hx hb dX1_queueInTheOrder_11 ?_
  refine lv_aload_n hx hb dX1_queueInTheOrder_12 rfl (lv_at hl 0 rfl) ?_
  refine gf_X1_keys K w dX1_queueInTheOrder_13 ?_
  refine lv_iload_n hx hb dX1_queueInTheOrder_16 rfl (lv_at hl 1 rfl) ?_
  refine ldN K w row2 (by omega) dX1_queueInTheOrder_17 ?_
  refine lv_iload_n hx hb dX1_queueInTheOrder_18 rfl (lv_at hl 1 rfl) ?_
  refine callv K w (c_X0_put dn (by omega)) (lk_X1_126 K ⟨Nat.le_trans (Nat.le_of_ble_eq_true rfl) hR.1, Nat.le_trans (Nat.le_of_ble_eq_true rfl) hR.2⟩) (recv10 K w) rfl hl.1 rfl (Nat.le_of_ble_eq_true rfl) dX1_queueInTheOrder_19 hf (fun H locs w => ?_)
  exact ret w dX1_queueInTheOrder_22

set_option maxHeartbeats 4000000 in
set_option maxRecDepth 100000 in
theorem c_X1_queuedAt_a {l : Launch} {E : En} {M : Mt} {n k : Nat} (dn : dN E) : MI l yX1_queuedAt (.code yX1_queuedAt cX1_queuedAt 3 (some .int)) 3 68 E [.ref (ad E 0), .int (-1)] M n k (nI k)  (M) (n) (k) := by
  refine MI.of dn (own := RX1) (by decide) rfl (Nat.le_of_ble_eq_true rfl) (fun p e s m args below meth c ls Q K w hl ret => ?_)
  have hx := K.1.1
  have hb := K.1.2.1
  have hR : 3 ≤ (rmA 3 68).frames ∧ 68 ≤ (rmA 3 68).locals := ⟨Nat.le_refl _, Nat.le_refl _⟩
  have hf : 0 ≤ (rmA 3 68).cells ∧ 0 ≤ (rmA 3 68).slots := ⟨Nat.le_refl _, Nat.le_refl _⟩
  have hl : lv_has ls 3 [(0, .ref (ad E 0)), (1, .int (-1))] := hl
  refine lv_iload_n hx hb dX1_queuedAt_0 rfl (lv_at hl 1 rfl) ?_
  refine lv_iconst (v := -1) hx hb dX1_queuedAt_1 (by decide) ?_
  refine lv_icmp_ne (tgt := 13) hx hb dX1_queuedAt_2 rfl (fun h9 => absurd (rfl : (-1 : Int32) = -1) h9) (fun _ => ?_)
  refine lv_aload_n hx hb dX1_queuedAt_5 rfl (lv_at hl 0 rfl) ?_
  refine gf_X1_queue K w dX1_queuedAt_6 ?_
  refine calli K w (c_X0_size dn) (lk_X1_167 K ⟨Nat.le_trans (Nat.le_of_ble_eq_true rfl) hR.1, Nat.le_trans (Nat.le_of_ble_eq_true rfl) hR.2⟩) (recv10 K w) rfl hl.1 rfl (Nat.le_of_ble_eq_true rfl) dX1_queuedAt_9 hf (fun H locs w => ?_)
  exact ret w rfl dX1_queuedAt_12

set_option maxHeartbeats 4000000 in
set_option maxRecDepth 100000 in
theorem c_X1_queuedAt_b {l : Launch} {E : En} {M : Mt} {n k : Nat} (dn : dN E) {j : Nat} (hj : j < k) (hk : k ≤ 2000) : MI l yX1_queuedAt (.code yX1_queuedAt cX1_queuedAt 3 (some .int)) 3 68 E [.ref (ad E 0), .int (nI j)] M n k (tkR (qaF j (M, k)).1 (qaF j (M, k)).2)  (tkF (qaF j (M, k)).1 (qaF j (M, k)).2) (n) ((qaF j (M, k)).2 - 1) := by
  refine MI.of dn (own := RX1) (by decide) rfl (Nat.le_of_ble_eq_true rfl) (fun p e s m args below meth c ls Q K w hl ret => ?_)
  have hx := K.1.1
  have hb := K.1.2.1
  have hR : 3 ≤ (rmA 3 68).frames ∧ 68 ≤ (rmA 3 68).locals := ⟨Nat.le_refl _, Nat.le_refl _⟩
  have hf : 0 ≤ (rmA 3 68).cells ∧ 0 ≤ (rmA 3 68).slots := ⟨Nat.le_refl _, Nat.le_refl _⟩
  have hl : lv_has ls 3 [(0, .ref (ad E 0)), (1, .int (nI j))] := hl
  refine lv_iload_n hx hb dX1_queuedAt_0 rfl (lv_at hl 1 rfl) ?_
  refine lv_iconst (v := -1) hx hb dX1_queuedAt_1 (by decide) ?_
  refine lv_icmp_ne (tgt := 13) hx hb dX1_queuedAt_2 rfl (fun _ => ?_) (fun h9 => absurd h9 (nI_nm1 (by omega)))
  refine lv_iload_n hx hb dX1_queuedAt_13 rfl (lv_at hl 1 rfl) ?_
  refine lv_aload_n hx hb dX1_queuedAt_14 rfl (lv_at hl 0 rfl) ?_
  refine gf_X1_queue K w dX1_queuedAt_15 ?_
  refine calli K w (c_X0_size dn) (lk_X1_167 K ⟨Nat.le_trans (Nat.le_of_ble_eq_true rfl) hR.1, Nat.le_trans (Nat.le_of_ble_eq_true rfl) hR.2⟩) (recv10 K w) rfl hl.1 rfl (Nat.le_of_ble_eq_true rfl) dX1_queuedAt_18 hf (fun H locs w => ?_)
  refine callsv K w (c_X1_checkPlace dn hj (by omega)) (lk_X1_106 K ⟨Nat.le_trans (Nat.le_of_ble_eq_true rfl) hR.1, Nat.le_trans (Nat.le_of_ble_eq_true rfl) hR.2⟩) rfl hl.1 rfl (Nat.le_of_ble_eq_true rfl) dX1_queuedAt_21 hf (fun H locs w => ?_)
  refine lv_iconst (v := nI 0) hx hb dX1_queuedAt_24 (by decide) ?_
  refine lv_istore_n (lv' := [(2, .int _), (0, .ref _), (1, .int _)]) hx hb dX1_queuedAt_25 rfl hl (by decide) rfl (fun ls hl => ?_)
  refine lp_qa (j := j) K ⟨Nat.le_trans (Nat.le_of_ble_eq_true rfl) hR.1, Nat.le_trans (Nat.le_of_ble_eq_true rfl) hR.2⟩ hf (by omega) (fun H locs ls w hl => ?_) j 0 M k _ _ _ (by omega) hk rfl w (lv_sub hl [0, 2, 1] rfl)
  refine lv_aload_n hx hb dX1_queuedAt_45 rfl (lv_at hl 0 rfl) ?_
  refine gf_X1_queue K w dX1_queuedAt_46 ?_
  refine calli K w (c_X0_take dn (qaF_le hk)) (lk_X1_170 K ⟨Nat.le_trans (Nat.le_of_ble_eq_true rfl) hR.1, Nat.le_trans (Nat.le_of_ble_eq_true rfl) hR.2⟩) (recv10 K w) rfl hl.1 rfl (Nat.le_of_ble_eq_true rfl) dX1_queuedAt_49 hf (fun H locs w => ?_)
  exact ret w rfl dX1_queuedAt_52
end
section
section RA
variable {p : Program} {l : Launch} {e : Env} {R : Room} {s : State} {m : MethodId} {args : Array Value} {below : List Frame} {meth : Method} {c : Code} {H : Heap} {locs : List Loc} {cells slots : Nat} {Q : State → Prop} {ls : Array Slot} {w0 : Cond} {E : En} {M MF : Mt} {UF : Mt × Nat} {n k : Nat}
set_option maxHeartbeats 4000000 in
set_option maxRecDepth 100000 in
theorem lp_tl (K : cX E p m c cX1_tellNext 4 s args w0 RX1) (hR : 4 ≤ R.frames ∧ 91 ≤ R.locals) (hf : cells ≤ R.cells ∧ slots ≤ R.slots) {q j : Nat} (hq : q < n) (ret : ∀ {H : Heap} {locs : List Loc} {pc : Nat} {ls : Array Slot}, wst E s.heap UF.1 n UF.2 H locs → decode cX1_tellNext pc = .ok (.return_, 1) → W p l e R s m args below meth c H locs cells slots Q (F0 m pc ls [])) : ∀ (d i : Nat) (M : Mt) (k : Nat) (H : Heap) (locs : List Loc) (ls : Array Slot), i + d = j → k ≤ 2000 → okN M n → pcn M q = j → tlF q d i (M, k) = UF → wst E s.heap M n k H locs → lv_has ls 4 [(2, .int (nI i)), (1, .int (nI q)), (0, .ref (ad E 0))] → W p l e R s m args below meth c H locs cells slots Q (F0 m 10 ls []) := by
  have hx := K.1.1
  have hb := K.1.2.1
  intro d
  induction d with
  | zero =>
    intro i M k H locs ls hi hk ok hj hm w hl
    have h4 := ok.le hq
    have hn := ok.1
    refine lv_iload_n hx hb dX1_tellNext_10 rfl (lv_at hl 0 rfl) ?_
    refine lv_aload_n hx hb dX1_tellNext_11 rfl (lv_at hl 2 rfl) ?_
    refine gf_X1_parentCounts K w dX1_tellNext_12 ?_
    refine lv_iload_n hx hb dX1_tellNext_15 rfl (lv_at hl 1 rfl) ?_
    refine ldN K w row4 (by omega) dX1_tellNext_16 ?_
    refine topE (y := nI (pcn M q)) (ok.pc hq) ?_
    rw [hj]
    refine lv_icmp_ge (tgt := 57) hx hb dX1_tellNext_17 rfl (fun _ => ?_) (fun h9 => absurd (nI_le (by omega) (by omega)) h9)
    exact ret (by rw [← hm]; exact w) dX1_tellNext_57
  | succ d ih =>
    intro i M k H locs ls hi hk ok hj hm w hl
    have h4 := ok.le hq
    have hn := ok.1
    have h5 := ok.lt hq (t := i) (by omega)
    refine lv_iload_n hx hb dX1_tellNext_10 rfl (lv_at hl 0 rfl) ?_
    refine lv_aload_n hx hb dX1_tellNext_11 rfl (lv_at hl 2 rfl) ?_
    refine gf_X1_parentCounts K w dX1_tellNext_12 ?_
    refine lv_iload_n hx hb dX1_tellNext_15 rfl (lv_at hl 1 rfl) ?_
    refine ldN K w row4 (by omega) dX1_tellNext_16 ?_
    refine topE (y := nI (pcn M q)) (ok.pc hq) ?_
    rw [hj]
    refine lv_icmp_ge (tgt := 57) hx hb dX1_tellNext_17 rfl (fun h9 => absurd h9 (nI_ge (by omega) (by omega))) (fun _ => ?_)
    refine lv_aload_n hx hb dX1_tellNext_20 rfl (lv_at hl 2 rfl) ?_
    refine lv_iload_n hx hb dX1_tellNext_21 rfl (lv_at hl 1 rfl) ?_
    refine lv_iload_n hx hb dX1_tellNext_22 rfl (lv_at hl 0 rfl) ?_
    refine calli K w (c_X1_parentOf K.2.2 (by omega) (ok.pr hq (by omega))) (lk_X1_120 K ⟨Nat.le_trans (Nat.le_of_ble_eq_true rfl) hR.1, Nat.le_trans (Nat.le_of_ble_eq_true rfl) hR.2⟩) (recv0 K w) rfl hl.1 rfl (Nat.le_of_ble_eq_true rfl) dX1_tellNext_23 hf (fun H locs w => ?_)
    refine lv_istore_n (lv' := [(3, .int _), (2, .int _), (1, .int _), (0, .ref _)]) hx hb dX1_tellNext_26 rfl hl (by decide) rfl (fun ls hl => ?_)
    have hm : tlF q d (i + 1) (if (va_up M 9 (upd (M 9) (par M q i) (M 9 (par M q i) - nI 1))) 9 (par M q i) = 0 then (qoF (va_up M 9 (upd (M 9) (par M q i) (M 9 (par M q i) - nI 1))) k (par M q i), puK k) else ((va_up M 9 (upd (M 9) (par M q i) (M 9 (par M q i) - nI 1))), k)) = UF := hm
    by_cases hz9 : (va_up M 9 (upd (M 9) (par M q i) (M 9 (par M q i) - nI 1))) 9 (par M q i) = 0
    · rw [if_pos hz9] at hm
      refine lv_aload_n hx hb dX1_tellNext_27 rfl (lv_at hl 3 rfl) ?_
      refine gf_X1_untoldLinks K w dX1_tellNext_28 ?_
      refine lv_iload_n hx hb dX1_tellNext_31 rfl (lv_at hl 0 rfl) ?_
      refine lv_dup2_11 hx hb dX1_tellNext_32 rfl rfl ?_
      refine ldN K w row9 (by omega) dX1_tellNext_33 ?_
      refine lv_iconst (v := nI 1) hx hb dX1_tellNext_34 (by decide) ?_
      refine lv_isub hx hb dX1_tellNext_35 ?_
      refine stN K w row9 (by omega) dX1_tellNext_36 (fun H locs w => ?_)
      refine lv_aload_n hx hb dX1_tellNext_37 rfl (lv_at hl 3 rfl) ?_
      refine gf_X1_untoldLinks K w dX1_tellNext_38 ?_
      refine lv_iload_n hx hb dX1_tellNext_41 rfl (lv_at hl 0 rfl) ?_
      refine ldN K w row9 (by omega) dX1_tellNext_42 ?_
      refine lv_if_ne (tgt := 51) hx hb dX1_tellNext_43 rfl (fun h9 => absurd hz9 h9) (fun _ => ?_)
      refine lv_aload_n hx hb dX1_tellNext_46 rfl (lv_at hl 3 rfl) ?_
      refine lv_iload_n hx hb dX1_tellNext_47 rfl (lv_at hl 0 rfl) ?_
      refine callv K w (c_X1_queueInTheOrder K.2.2 (by omega) hk) (lk_X1_96 K ⟨Nat.le_trans (Nat.le_of_ble_eq_true rfl) hR.1, Nat.le_trans (Nat.le_of_ble_eq_true rfl) hR.2⟩) (recv0 K w) rfl hl.1 rfl (Nat.le_of_ble_eq_true rfl) dX1_tellNext_48 hf (fun H locs w => ?_)
      refine lv_iinc (k := 1) (v := nI (_ + 1)) (lv' := [(2, .int _), (3, .int _), (1, .int _), (0, .ref _)]) hx hb dX1_tellNext_51 hl rfl (inc1 _) (by decide) rfl (fun ls hl => ?_)
      refine lv_goto (tgt := 10) hx hb dX1_tellNext_54 rfl ?_
      exact ih (i + 1) (qoF (va_up M 9 (upd (M 9) (par M q i) (M 9 (par M q i) - nI 1))) k (par M q i)) (puK k) _ _ _ (by omega) (puK_le hk) (okN.rows (M := M) ok (qoF_row (by decide) (by decide) (by decide)) (qoF_row (by decide) (by decide) (by decide))) (by rw [← hj, pcn, qoF_row (by decide) (by decide) (by decide)]; rfl) hm w (lv_sub hl [0, 2, 3] rfl)
    · rw [if_neg hz9] at hm
      refine lv_aload_n hx hb dX1_tellNext_27 rfl (lv_at hl 3 rfl) ?_
      refine gf_X1_untoldLinks K w dX1_tellNext_28 ?_
      refine lv_iload_n hx hb dX1_tellNext_31 rfl (lv_at hl 0 rfl) ?_
      refine lv_dup2_11 hx hb dX1_tellNext_32 rfl rfl ?_
      refine ldN K w row9 (by omega) dX1_tellNext_33 ?_
      refine lv_iconst (v := nI 1) hx hb dX1_tellNext_34 (by decide) ?_
      refine lv_isub hx hb dX1_tellNext_35 ?_
      refine stN K w row9 (by omega) dX1_tellNext_36 (fun H locs w => ?_)
      refine lv_aload_n hx hb dX1_tellNext_37 rfl (lv_at hl 3 rfl) ?_
      refine gf_X1_untoldLinks K w dX1_tellNext_38 ?_
      refine lv_iload_n hx hb dX1_tellNext_41 rfl (lv_at hl 0 rfl) ?_
      refine ldN K w row9 (by omega) dX1_tellNext_42 ?_
      refine lv_if_ne (tgt := 51) hx hb dX1_tellNext_43 rfl (fun _ => ?_) (fun h9 => absurd h9 hz9)
      refine lv_iinc (k := 1) (v := nI (_ + 1)) (lv' := [(2, .int _), (3, .int _), (1, .int _), (0, .ref _)]) hx hb dX1_tellNext_51 hl rfl (inc1 _) (by decide) rfl (fun ls hl => ?_)
      refine lv_goto (tgt := 10) hx hb dX1_tellNext_54 rfl ?_
      exact ih (i + 1) (va_up M 9 (upd (M 9) (par M q i) (M 9 (par M q i) - nI 1))) k _ _ _ (by omega) hk ok hj hm w (lv_sub hl [0, 2, 3] rfl)

end RA
set_option maxHeartbeats 4000000 in
set_option maxRecDepth 100000 in
theorem c_X1_tellNext {l : Launch} {E : En} {M : Mt} {n k : Nat} (dn : dN E) (ok : okN M n) (h0 : 0 < k) (hk : k ≤ 2000) (hq : qN M n k) : MV l yX1_tellNext (.code yX1_tellNext cX1_tellNext 4 none) 4 91 E [.ref (ad E 0)] M n k  ((tnF (M, k)).1) (n) ((tnF (M, k)).2) := by
  refine MV.of dn (own := RX1) (by decide) rfl (Nat.le_of_ble_eq_true rfl) (fun p e s m args below meth c ls Q K w hl ret => ?_)
  have hx := K.1.1
  have hb := K.1.2.1
  have hR : 4 ≤ (rmA 4 91).frames ∧ 91 ≤ (rmA 4 91).locals := ⟨Nat.le_refl _, Nat.le_refl _⟩
  have hf : 0 ≤ (rmA 4 91).cells ∧ 0 ≤ (rmA 4 91).slots := ⟨Nat.le_refl _, Nat.le_refl _⟩
  have hl : lv_has ls 4 [(0, .ref (ad E 0))] := hl
  refine lv_aload_n hx hb dX1_tellNext_0 rfl (lv_at hl 0 rfl) ?_
  refine gf_X1_queue K w dX1_tellNext_1 ?_
  refine calli K w (c_X0_take dn hk) (lk_X1_170 K ⟨Nat.le_trans (Nat.le_of_ble_eq_true rfl) hR.1, Nat.le_trans (Nat.le_of_ble_eq_true rfl) hR.2⟩) (recv10 K w) rfl hl.1 rfl (Nat.le_of_ble_eq_true rfl) dX1_tellNext_4 hf (fun H locs w => ?_)
  refine topE (y := nI (ix (tkR M k))) (tk0 ok.1 hq h0).1 ?_
  refine lv_istore_n (lv' := [(1, .int _), (0, .ref _)]) hx hb dX1_tellNext_7 rfl hl (by decide) rfl (fun ls hl => ?_)
  refine lv_iconst (v := nI 0) hx hb dX1_tellNext_8 (by decide) ?_
  refine lv_istore_n (lv' := [(2, .int _), (1, .int _), (0, .ref _)]) hx hb dX1_tellNext_9 rfl hl (by decide) rfl (fun ls hl => ?_)
  exact lp_tl K ⟨Nat.le_trans (Nat.le_of_ble_eq_true rfl) hR.1, Nat.le_trans (Nat.le_of_ble_eq_true rfl) hR.2⟩ hf (tk0 ok.1 hq h0).2 ret _ 0 _ _ _ _ _ (Nat.zero_add _) (by omega) (ok.rows (tkF_row (by decide) (by decide) (by decide)) (tkF_row (by decide) (by decide) (by decide))) rfl rfl w (lv_sub hl [0, 1, 2] rfl)

section RB
variable {p : Program} {l : Launch} {e : Env} {R : Room} {s : State} {m : MethodId} {args : Array Value} {below : List Frame} {meth : Method} {c : Code} {H : Heap} {locs : List Loc} {cells slots : Nat} {Q : State → Prop} {ls : Array Slot} {w0 : Cond} {E : En} {M MF : Mt} {UF : Mt × Nat} {n k : Nat}
set_option maxHeartbeats 4000000 in
set_option maxRecDepth 100000 in
theorem lp_ta (K : cX E p m c cX1_toldAt 4 s args w0 RX1) (hR : 5 ≤ R.frames ∧ 114 ≤ R.locals) (hf : cells ≤ R.cells ∧ slots ≤ R.slots) {j : Nat} (hj : j < 2147483648) (kk : ∀ (H : Heap) (locs : List Loc) (ls : Array Slot), wst E s.heap UF.1 n UF.2 H locs → lv_has ls 4 [(0, .ref (ad E 0))] → W p l e R s m args below meth c H locs cells slots Q (F0 m 43 ls [])) : ∀ (d i : Nat) (M : Mt) (k : Nat) (H : Heap) (locs : List Loc) (ls : Array Slot), i + d = j → k ≤ 2000 → okN M n → qN M n k → taF d (M, k) = UF → wst E s.heap M n k H locs → lv_has ls 4 [(3, .int (nI i)), (2, .int (nI j)), (0, .ref (ad E 0))] → W p l e R s m args below meth c H locs cells slots Q (F0 m 18 ls []) := by
  have hx := K.1.1
  have hb := K.1.2.1
  intro d
  induction d with
  | zero =>
    intro i M k H locs ls hi hk ok hq hm w hl
    refine lv_iload_n hx hb dX1_toldAt_18 rfl (lv_at hl 0 rfl) ?_
    refine lv_iload_n hx hb dX1_toldAt_19 rfl (lv_at hl 1 rfl) ?_
    refine lv_icmp_ge (tgt := 43) hx hb dX1_toldAt_20 rfl (fun _ => ?_) (fun h9 => absurd (nI_le (by omega) (by omega)) h9)
    exact kk _ _ _ (by rw [← hm]; exact w) (lv_sub hl [2] rfl)
  | succ d ih =>
    intro i M k H locs ls hi hk ok hq hm w hl
    refine lv_iload_n hx hb dX1_toldAt_18 rfl (lv_at hl 0 rfl) ?_
    refine lv_iload_n hx hb dX1_toldAt_19 rfl (lv_at hl 1 rfl) ?_
    refine lv_icmp_ge (tgt := 43) hx hb dX1_toldAt_20 rfl (fun h9 => absurd h9 (nI_ge (by omega) (by omega))) (fun _ => ?_)
    by_cases h0 : 0 < k
    · rw [taF, if_pos h0] at hm
      refine lv_aload_n hx hb dX1_toldAt_23 rfl (lv_at hl 2 rfl) ?_
      refine gf_X1_queue K w dX1_toldAt_24 ?_
      refine calli K w (c_X0_size K.2.2) (lk_X1_167 K ⟨Nat.le_trans (Nat.le_of_ble_eq_true rfl) hR.1, Nat.le_trans (Nat.le_of_ble_eq_true rfl) hR.2⟩) (recv10 K w) rfl hl.1 rfl (Nat.le_of_ble_eq_true rfl) dX1_toldAt_27 hf (fun H locs w => ?_)
      refine lv_if_le (tgt := 43) hx hb dX1_toldAt_30 rfl (fun h9 => absurd h9 (nI_nle h0 (by omega))) (fun _ => ?_)
      refine lv_aload_n hx hb dX1_toldAt_33 rfl (lv_at hl 2 rfl) ?_
      refine callv K w (c_X1_tellNext K.2.2 ok h0 hk hq) (lk_X1_176 K ⟨Nat.le_trans (Nat.le_of_ble_eq_true rfl) hR.1, Nat.le_trans (Nat.le_of_ble_eq_true rfl) hR.2⟩) (recv0 K w) rfl hl.1 rfl (Nat.le_of_ble_eq_true rfl) dX1_toldAt_34 hf (fun H locs w => ?_)
      refine lv_iinc (k := 0) (v := nI (_ + 1)) (lv' := [(3, .int _), (2, .int _), (0, .ref _)]) hx hb dX1_toldAt_37 hl rfl (inc1 _) (by decide) rfl (fun ls hl => ?_)
      refine lv_goto (tgt := 18) hx hb dX1_toldAt_40 rfl ?_
      exact ih (i + 1) _ _ _ _ _ (by omega) (tnF_inv ok h0 hk hq).2.1 (tnF_inv ok h0 hk hq).1 (tnF_inv ok h0 hk hq).2.2 hm w (lv_sub hl [0, 1, 2] rfl)
    · rw [taF, if_neg h0] at hm
      refine lv_aload_n hx hb dX1_toldAt_23 rfl (lv_at hl 2 rfl) ?_
      refine gf_X1_queue K w dX1_toldAt_24 ?_
      refine calli K w (c_X0_size K.2.2) (lk_X1_167 K ⟨Nat.le_trans (Nat.le_of_ble_eq_true rfl) hR.1, Nat.le_trans (Nat.le_of_ble_eq_true rfl) hR.2⟩) (recv10 K w) rfl hl.1 rfl (Nat.le_of_ble_eq_true rfl) dX1_toldAt_27 hf (fun H locs w => ?_)
      refine lv_if_le (tgt := 43) hx hb dX1_toldAt_30 rfl (fun _ => ?_) (fun h9 => absurd (by rw [Nat.eq_zero_of_not_pos h0]; decide) h9)
      exact kk _ _ _ (by rw [← hm]; exact w) (lv_sub hl [2] rfl)

end RB
def tl0 (M : Mt) (n c : Nat) : Mt × Nat := (qoF (cuF M n) 0 c, puK 0)
theorem tl0_inv {M : Mt} {n c : Nat} (ok : okN M n) (hc : c < n) : okN (tl0 M n c).1 n ∧ (tl0 M n c).2 ≤ 2000 ∧ qN (tl0 M n c).1 n (tl0 M n c).2 :=
  ⟨(ok.rows (M' := cuF M n) (cuF_row (by decide)) (cuF_row (by decide))).rows (show qoF (cuF M n) 0 c 4 = cuF M n 4 from qoF_row (by decide) (by decide) (by decide)) (show qoF (cuF M n) 0 c 5 = cuF M n 5 from qoF_row (by decide) (by decide) (by decide)), by show puK 0 ≤ 2000; decide, qN.pu (fun i hi => absurd hi (Nat.not_lt_zero i)) hc⟩

set_option maxHeartbeats 4000000 in
set_option maxRecDepth 100000 in
theorem c_X1_toldAt {l : Launch} {E : En} {M : Mt} {n k : Nat} (dn : dN E) {q j : Nat} (hq : q < n) (hj : j < 2147483648) (ok : okN M n) : MI l yX1_toldAt (.code yX1_toldAt cX1_toldAt 4 (some .int)) 5 114 E [.ref (ad E 0), .int (nI q), .int (nI j)] M n k (tkR (taF j (tl0 M n q)).1 (taF j (tl0 M n q)).2)  (tkF (taF j (tl0 M n q)).1 (taF j (tl0 M n q)).2) (n) ((taF j (tl0 M n q)).2 - 1) := by
  refine MI.of dn (own := RX1) (by decide) rfl (Nat.le_of_ble_eq_true rfl) (fun p e s m args below meth c ls Q K w hl ret => ?_)
  have hx := K.1.1
  have hb := K.1.2.1
  have hR : 5 ≤ (rmA 5 114).frames ∧ 114 ≤ (rmA 5 114).locals := ⟨Nat.le_refl _, Nat.le_refl _⟩
  have hf : 0 ≤ (rmA 5 114).cells ∧ 0 ≤ (rmA 5 114).slots := ⟨Nat.le_refl _, Nat.le_refl _⟩
  have hl : lv_has ls 4 [(0, .ref (ad E 0)), (1, .int (nI q)), (2, .int (nI j))] := hl
  have hn := ok.1
  refine lv_aload_n hx hb dX1_toldAt_0 rfl (lv_at hl 0 rfl) ?_
  refine callv K w (c_X1_countUntoldLinks dn ok) (lk_X1_173 K ⟨Nat.le_trans (Nat.le_of_ble_eq_true rfl) hR.1, Nat.le_trans (Nat.le_of_ble_eq_true rfl) hR.2⟩) (recv0 K w) rfl hl.1 rfl (Nat.le_of_ble_eq_true rfl) dX1_toldAt_1 hf (fun H locs w => ?_)
  refine lv_aload_n hx hb dX1_toldAt_4 rfl (lv_at hl 0 rfl) ?_
  refine gf_X1_queue K w dX1_toldAt_5 ?_
  refine callv K w (c_X0_clear dn) (lk_X1_93 K ⟨Nat.le_trans (Nat.le_of_ble_eq_true rfl) hR.1, Nat.le_trans (Nat.le_of_ble_eq_true rfl) hR.2⟩) (recv10 K w) rfl hl.1 rfl (Nat.le_of_ble_eq_true rfl) dX1_toldAt_8 hf (fun H locs w => ?_)
  refine lv_aload_n hx hb dX1_toldAt_11 rfl (lv_at hl 0 rfl) ?_
  refine lv_iload_n hx hb dX1_toldAt_12 rfl (lv_at hl 1 rfl) ?_
  refine callv K w (c_X1_queueInTheOrder dn (by omega) (by decide)) (lk_X1_96 K ⟨Nat.le_trans (Nat.le_of_ble_eq_true rfl) hR.1, Nat.le_trans (Nat.le_of_ble_eq_true rfl) hR.2⟩) (recv0 K w) rfl hl.1 rfl (Nat.le_of_ble_eq_true rfl) dX1_toldAt_13 hf (fun H locs w => ?_)
  refine lv_iconst (v := nI 0) hx hb dX1_toldAt_16 (by decide) ?_
  refine lv_istore_n (lv' := [(3, .int _), (0, .ref _), (1, .int _), (2, .int _)]) hx hb dX1_toldAt_17 rfl hl (by decide) rfl (fun ls hl => ?_)
  refine lp_ta K ⟨Nat.le_trans (Nat.le_of_ble_eq_true rfl) hR.1, Nat.le_trans (Nat.le_of_ble_eq_true rfl) hR.2⟩ hf hj (fun H locs ls w hl => ?_) j 0 _ _ _ _ _ (by omega) (tl0_inv ok hq).2.1 (tl0_inv ok hq).1 (tl0_inv ok hq).2.2 rfl w (lv_sub hl [0, 3, 1] rfl)
  refine lv_aload_n hx hb dX1_toldAt_43 rfl (lv_at hl 0 rfl) ?_
  refine gf_X1_queue K w dX1_toldAt_44 ?_
  refine calli K w (c_X0_take dn (taF_inv (tl0_inv ok hq).1 (tl0_inv ok hq).2.1 (tl0_inv ok hq).2.2).2.1) (lk_X1_170 K ⟨Nat.le_trans (Nat.le_of_ble_eq_true rfl) hR.1, Nat.le_trans (Nat.le_of_ble_eq_true rfl) hR.2⟩) (recv10 K w) rfl hl.1 rfl (Nat.le_of_ble_eq_true rfl) dX1_toldAt_47 hf (fun H locs w => ?_)
  exact ret w rfl dX1_toldAt_50
end
section
theorem bsF_le : ∀ {d i : Nat} {u : Mt × Nat}, u.2 ≤ 2000 → (bsF d i u).2 ≤ 2000 := by
  intro d
  induction d with
  | zero => intro i u h; exact h
  | succ d ih =>
    intro i u h
    rw [bsF]
    split
    · exact ih (puK_le h)
    · exact ih h
theorem seF_le {h : Nat} : ∀ {d i : Nat} {u : Mt × Nat}, u.2 ≤ 2000 → (seF h d i u).2 ≤ 2000 := by
  intro d
  induction d with
  | zero => intro i u hu; exact hu
  | succ d ih =>
    intro i u hu
    rw [seF]
    split
    · exact ih (puK_le hu)
    · exact ih hu
/-- the marks of base(a, b, ..) -/
def bmF (M : Mt) (n a b : Nat) : Mt := spF n (va_up (va_up (clF n 0 M) 8 (upd (clF n 0 M 8) a (clF n 0 M 8 a ||| nI 1))) 8 (upd (va_up (clF n 0 M) 8 (upd (clF n 0 M 8) a (clF n 0 M 8 a ||| nI 1)) 8) b (va_up (clF n 0 M) 8 (upd (clF n 0 M 8) a (clF n 0 M 8 a ||| nI 1)) 8 b ||| nI 2)))
def baU (M : Mt) (n a b : Nat) : Mt × Nat := bsF n 0 (bmF M n a b, 0)
def snU (M : Mt) (n h : Nat) : Mt × Nat := seF h n 0 (hlF M n, 0)
section RC
variable {p : Program} {l : Launch} {e : Env} {R : Room} {s : State} {m : MethodId} {args : Array Value} {below : List Frame} {meth : Method} {c : Code} {H : Heap} {locs : List Loc} {cells slots : Nat} {Q : State → Prop} {ls : Array Slot} {w0 : Cond} {E : En} {M MF : Mt} {UF : Mt × Nat} {n k : Nat}
set_option maxHeartbeats 4000000 in
set_option maxRecDepth 100000 in
theorem lp_base (K : cX E p m c cX1_base 5 s args w0 RX1) (hR : 4 ≤ R.frames ∧ 91 ≤ R.locals) (hf : cells ≤ R.cells ∧ slots ≤ R.slots) {x : Int32} (hn : n ≤ 2000) (kk : ∀ (H : Heap) (locs : List Loc) (ls : Array Slot), wst E s.heap UF.1 n UF.2 H locs → lv_has ls 5 [(3, .int x), (0, .ref (ad E 0))] → W p l e R s m args below meth c H locs cells slots Q (F0 m 80 ls [])) : ∀ (d i : Nat) (M : Mt) (k : Nat) (H : Heap) (locs : List Loc) (ls : Array Slot), i + d = n → k ≤ 2000 → bsF d i (M, k) = UF → wst E s.heap M n k H locs → lv_has ls 5 [(4, .int (nI i)), (3, .int x), (0, .ref (ad E 0))] → W p l e R s m args below meth c H locs cells slots Q (F0 m 48 ls []) := by
  have hx := K.1.1
  have hb := K.1.2.1
  intro d
  induction d with
  | zero =>
    intro i M k H locs ls hi hk hm w hl
    refine lv_iload hx hb dX1_base_48 (lv_at hl 0 rfl) ?_
    refine lv_aload_n hx hb dX1_base_50 rfl (lv_at hl 2 rfl) ?_
    refine gf_X1_commits K w dX1_base_51 ?_
    refine lv_icmp_ge (tgt := 80) hx hb dX1_base_54 rfl (fun _ => ?_) (fun h9 => absurd (nI_le (by omega) (by omega)) h9)
    exact kk _ _ _ (by rw [← hm]; exact w) (lv_sub hl [1, 2] rfl)
  | succ d ih =>
    intro i M k H locs ls hi hk hm w hl
    refine lv_iload hx hb dX1_base_48 (lv_at hl 0 rfl) ?_
    refine lv_aload_n hx hb dX1_base_50 rfl (lv_at hl 2 rfl) ?_
    refine gf_X1_commits K w dX1_base_51 ?_
    refine lv_icmp_ge (tgt := 80) hx hb dX1_base_54 rfl (fun h9 => absurd h9 (nI_ge (by omega) (by omega))) (fun _ => ?_)
    by_cases h8 : M 8 i = nI 3
    · rw [bsF, if_pos h8] at hm
      refine lv_aload_n hx hb dX1_base_57 rfl (lv_at hl 2 rfl) ?_
      refine gf_X1_marks K w dX1_base_58 ?_
      refine lv_iload hx hb dX1_base_61 (lv_at hl 0 rfl) ?_
      refine ldN K w row8 (by omega) dX1_base_63 ?_
      refine lv_iconst (v := nI 3) hx hb dX1_base_64 (by decide) ?_
      refine lv_icmp_ne (tgt := 74) hx hb dX1_base_65 rfl (fun h9 => absurd h8 h9) (fun _ => ?_)
      refine lv_aload_n hx hb dX1_base_68 rfl (lv_at hl 2 rfl) ?_
      refine lv_iload hx hb dX1_base_69 (lv_at hl 0 rfl) ?_
      refine callv K w (c_X1_queueInTheOrder K.2.2 (by omega) hk) (lk_X1_96 K ⟨Nat.le_trans (Nat.le_of_ble_eq_true rfl) hR.1, Nat.le_trans (Nat.le_of_ble_eq_true rfl) hR.2⟩) (recv0 K w) rfl hl.1 rfl (Nat.le_of_ble_eq_true rfl) dX1_base_71 hf (fun H locs w => ?_)
      refine lv_iinc (k := 0) (v := nI (_ + 1)) (lv' := [(4, .int _), (3, .int _), (0, .ref _)]) hx hb dX1_base_74 hl rfl (inc1 _) (by decide) rfl (fun ls hl => ?_)
      refine lv_goto (tgt := 48) hx hb dX1_base_77 rfl ?_
      exact ih (i + 1) _ _ _ _ _ (by omega) (puK_le hk) hm w (lv_sub hl [0, 1, 2] rfl)
    · rw [bsF, if_neg h8] at hm
      refine lv_aload_n hx hb dX1_base_57 rfl (lv_at hl 2 rfl) ?_
      refine gf_X1_marks K w dX1_base_58 ?_
      refine lv_iload hx hb dX1_base_61 (lv_at hl 0 rfl) ?_
      refine ldN K w row8 (by omega) dX1_base_63 ?_
      refine lv_iconst (v := nI 3) hx hb dX1_base_64 (by decide) ?_
      refine lv_icmp_ne (tgt := 74) hx hb dX1_base_65 rfl (fun _ => ?_) (fun h9 => absurd h9 h8)
      refine lv_iinc (k := 0) (v := nI (_ + 1)) (lv' := [(4, .int _), (3, .int _), (0, .ref _)]) hx hb dX1_base_74 hl rfl (inc1 _) (by decide) rfl (fun ls hl => ?_)
      refine lv_goto (tgt := 48) hx hb dX1_base_77 rfl ?_
      exact ih (i + 1) _ _ _ _ _ (by omega) hk hm w (lv_sub hl [0, 1, 2] rfl)

set_option maxHeartbeats 4000000 in
set_option maxRecDepth 100000 in
theorem lp_sent (K : cX E p m c cX1_sent 4 s args w0 RX1) (hR : 3 ≤ R.frames ∧ 70 ≤ R.locals) (hf : cells ≤ R.cells ∧ slots ≤ R.slots) {x : Int32} {h : Nat} (hh : h < 2147483648) (hn : n ≤ 2000) (kk : ∀ (H : Heap) (locs : List Loc) (ls : Array Slot), wst E s.heap UF.1 n UF.2 H locs → lv_has ls 4 [(2, .int x), (0, .ref (ad E 0))] → W p l e R s m args below meth c H locs cells slots Q (F0 m 64 ls [])) : ∀ (d i : Nat) (M : Mt) (k : Nat) (H : Heap) (locs : List Loc) (ls : Array Slot), i + d = n → k ≤ 2000 → seF h d i (M, k) = UF → wst E s.heap M n k H locs → lv_has ls 4 [(3, .int (nI i)), (2, .int x), (1, .int (nI h)), (0, .ref (ad E 0))] → W p l e R s m args below meth c H locs cells slots Q (F0 m 17 ls []) := by
  have hx := K.1.1
  have hb := K.1.2.1
  intro d
  induction d with
  | zero =>
    intro i M k H locs ls hi hk hm w hl
    refine lv_iload_n hx hb dX1_sent_17 rfl (lv_at hl 0 rfl) ?_
    refine lv_aload_n hx hb dX1_sent_18 rfl (lv_at hl 3 rfl) ?_
    refine gf_X1_commits K w dX1_sent_19 ?_
    refine lv_icmp_ge (tgt := 64) hx hb dX1_sent_22 rfl (fun _ => ?_) (fun h9 => absurd (nI_le (by omega) (by omega)) h9)
    exact kk _ _ _ (by rw [← hm]; exact w) (lv_sub hl [1, 3] rfl)
  | succ d ih =>
    intro i M k H locs ls hi hk hm w hl
    refine lv_iload_n hx hb dX1_sent_17 rfl (lv_at hl 0 rfl) ?_
    refine lv_aload_n hx hb dX1_sent_18 rfl (lv_at hl 3 rfl) ?_
    refine gf_X1_commits K w dX1_sent_19 ?_
    refine lv_icmp_ge (tgt := 64) hx hb dX1_sent_22 rfl (fun h9 => absurd h9 (nI_ge (by omega) (by omega))) (fun _ => ?_)
    by_cases h8 : M 8 i = sdF h
    · rw [seF, if_pos h8] at hm
      refine lv_aload_n hx hb dX1_sent_25 rfl (lv_at hl 3 rfl) ?_
      refine gf_X1_marks K w dX1_sent_26 ?_
      refine lv_iload_n hx hb dX1_sent_29 rfl (lv_at hl 0 rfl) ?_
      refine ldN K w row8 (by omega) dX1_sent_30 ?_
      refine lv_iload_n hx hb dX1_sent_31 rfl (lv_at hl 2 rfl) ?_
      refine callsi K w (c_X1_sideOf K.2.2 hh) (lk_X1_80 K ⟨Nat.le_trans (Nat.le_of_ble_eq_true rfl) hR.1, Nat.le_trans (Nat.le_of_ble_eq_true rfl) hR.2⟩) rfl hl.1 rfl (Nat.le_of_ble_eq_true rfl) dX1_sent_32 hf (fun H locs w => ?_)
      refine lv_icmp_ne (tgt := 58) hx hb dX1_sent_35 rfl (fun h9 => absurd h8 h9) (fun _ => ?_)
      refine lv_aload_n hx hb dX1_sent_38 rfl (lv_at hl 3 rfl) ?_
      refine gf_X1_queue K w dX1_sent_39 ?_
      refine lv_aload_n hx hb dX1_sent_42 rfl (lv_at hl 3 rfl) ?_
      refine gf_X1_generations K w dX1_sent_43 ?_
      refine lv_iload_n hx hb dX1_sent_46 rfl (lv_at hl 0 rfl) ?_
      refine ldN K w row3 (by omega) dX1_sent_47 ?_
      refine lv_aload_n hx hb dX1_sent_48 rfl (lv_at hl 3 rfl) ?_
      refine gf_X1_keys K w dX1_sent_49 ?_
      refine lv_iload_n hx hb dX1_sent_52 rfl (lv_at hl 0 rfl) ?_
      refine ldN K w row2 (by omega) dX1_sent_53 ?_
      refine lv_iload_n hx hb dX1_sent_54 rfl (lv_at hl 0 rfl) ?_
      refine callv K w (c_X0_put K.2.2 (by omega)) (lk_X1_126 K ⟨Nat.le_trans (Nat.le_of_ble_eq_true rfl) hR.1, Nat.le_trans (Nat.le_of_ble_eq_true rfl) hR.2⟩) (recv10 K w) rfl hl.1 rfl (Nat.le_of_ble_eq_true rfl) dX1_sent_55 hf (fun H locs w => ?_)
      refine lv_iinc (k := 0) (v := nI (_ + 1)) (lv' := [(3, .int _), (2, .int _), (1, .int _), (0, .ref _)]) hx hb dX1_sent_58 hl rfl (inc1 _) (by decide) rfl (fun ls hl => ?_)
      refine lv_goto (tgt := 17) hx hb dX1_sent_61 rfl ?_
      exact ih (i + 1) _ _ _ _ _ (by omega) (puK_le hk) hm w (lv_sub hl [0, 1, 2, 3] rfl)
    · rw [seF, if_neg h8] at hm
      refine lv_aload_n hx hb dX1_sent_25 rfl (lv_at hl 3 rfl) ?_
      refine gf_X1_marks K w dX1_sent_26 ?_
      refine lv_iload_n hx hb dX1_sent_29 rfl (lv_at hl 0 rfl) ?_
      refine ldN K w row8 (by omega) dX1_sent_30 ?_
      refine lv_iload_n hx hb dX1_sent_31 rfl (lv_at hl 2 rfl) ?_
      refine callsi K w (c_X1_sideOf K.2.2 hh) (lk_X1_80 K ⟨Nat.le_trans (Nat.le_of_ble_eq_true rfl) hR.1, Nat.le_trans (Nat.le_of_ble_eq_true rfl) hR.2⟩) rfl hl.1 rfl (Nat.le_of_ble_eq_true rfl) dX1_sent_32 hf (fun H locs w => ?_)
      refine lv_icmp_ne (tgt := 58) hx hb dX1_sent_35 rfl (fun _ => ?_) (fun h9 => absurd h9 h8)
      refine lv_iinc (k := 0) (v := nI (_ + 1)) (lv' := [(3, .int _), (2, .int _), (1, .int _), (0, .ref _)]) hx hb dX1_sent_58 hl rfl (inc1 _) (by decide) rfl (fun ls hl => ?_)
      refine lv_goto (tgt := 17) hx hb dX1_sent_61 rfl ?_
      exact ih (i + 1) _ _ _ _ _ (by omega) hk hm w (lv_sub hl [0, 1, 2, 3] rfl)

end RC
set_option maxHeartbeats 4000000 in
set_option maxRecDepth 100000 in
theorem c_X1_base_a {l : Launch} {E : En} {M : Mt} {n k : Nat} (dn : dN E) {a b : Nat} (ha : a < n) (hb0 : b < n) (ok : okN M n) : MI l yX1_base (.code yX1_base cX1_base 5 (some .int)) 4 91 E [.ref (ad E 0), .int (nI a), .int (nI b), .int (-1)] M n k (nI (baU M n a b).2)  ((baU M n a b).1) (n) ((baU M n a b).2) := by
  refine MI.of dn (own := RX1) (by decide) rfl (Nat.le_of_ble_eq_true rfl) (fun p e s m args below meth c ls Q K w hl ret => ?_)
  have hx := K.1.1
  have hb := K.1.2.1
  have hR : 4 ≤ (rmA 4 91).frames ∧ 91 ≤ (rmA 4 91).locals := ⟨Nat.le_refl _, Nat.le_refl _⟩
  have hf : 0 ≤ (rmA 4 91).cells ∧ 0 ≤ (rmA 4 91).slots := ⟨Nat.le_refl _, Nat.le_refl _⟩
  have hl : lv_has ls 5 [(0, .ref (ad E 0)), (1, .int (nI a)), (2, .int (nI b)), (3, .int (-1))] := hl
  have hn := ok.1
  refine lv_aload_n hx hb dX1_base_0 rfl (lv_at hl 0 rfl) ?_
  refine lv_iload_n hx hb dX1_base_1 rfl (lv_at hl 1 rfl) ?_
  refine callv K w (c_X1_checkCommit dn ha ok.1) (lk_X1_64 K ⟨Nat.le_trans (Nat.le_of_ble_eq_true rfl) hR.1, Nat.le_trans (Nat.le_of_ble_eq_true rfl) hR.2⟩) (recv0 K w) rfl hl.1 rfl (Nat.le_of_ble_eq_true rfl) dX1_base_2 hf (fun H locs w => ?_)
  refine lv_aload_n hx hb dX1_base_5 rfl (lv_at hl 0 rfl) ?_
  refine lv_iload_n hx hb dX1_base_6 rfl (lv_at hl 2 rfl) ?_
  refine callv K w (c_X1_checkCommit dn hb0 ok.1) (lk_X1_64 K ⟨Nat.le_trans (Nat.le_of_ble_eq_true rfl) hR.1, Nat.le_trans (Nat.le_of_ble_eq_true rfl) hR.2⟩) (recv0 K w) rfl hl.1 rfl (Nat.le_of_ble_eq_true rfl) dX1_base_7 hf (fun H locs w => ?_)
  refine lv_aload_n hx hb dX1_base_10 rfl (lv_at hl 0 rfl) ?_
  refine callv K w (c_X1_clearMarks dn ok.1) (lk_X1_87 K ⟨Nat.le_trans (Nat.le_of_ble_eq_true rfl) hR.1, Nat.le_trans (Nat.le_of_ble_eq_true rfl) hR.2⟩) (recv0 K w) rfl hl.1 rfl (Nat.le_of_ble_eq_true rfl) dX1_base_11 hf (fun H locs w => ?_)
  refine lv_aload_n hx hb dX1_base_14 rfl (lv_at hl 0 rfl) ?_
  refine gf_X1_marks K w dX1_base_15 ?_
  refine lv_iload_n hx hb dX1_base_18 rfl (lv_at hl 1 rfl) ?_
  refine lv_dup2_11 hx hb dX1_base_19 rfl rfl ?_
  refine ldN K w row8 (by omega) dX1_base_20 ?_
  refine lv_iconst (v := nI 1) hx hb dX1_base_21 (by decide) ?_
  refine lv_ior hx hb dX1_base_22 ?_
  refine stN K w row8 (by omega) dX1_base_23 (fun H locs w => ?_)
  refine lv_aload_n hx hb dX1_base_24 rfl (lv_at hl 0 rfl) ?_
  refine gf_X1_marks K w dX1_base_25 ?_
  refine lv_iload_n hx hb dX1_base_28 rfl (lv_at hl 2 rfl) ?_
  refine lv_dup2_11 hx hb dX1_base_29 rfl rfl ?_
  refine ldN K w row8 (by omega) dX1_base_30 ?_
  refine lv_iconst (v := nI 2) hx hb dX1_base_31 (by decide) ?_
  refine lv_ior hx hb dX1_base_32 ?_
  refine stN K w row8 (by omega) dX1_base_33 (fun H locs w => ?_)
  refine lv_aload_n hx hb dX1_base_34 rfl (lv_at hl 0 rfl) ?_
  refine callv K w (c_X1_spreadMarks dn (ok.rows (clF_row (by decide)) (clF_row (by decide)))) (lk_X1_90 K ⟨Nat.le_trans (Nat.le_of_ble_eq_true rfl) hR.1, Nat.le_trans (Nat.le_of_ble_eq_true rfl) hR.2⟩) (recv0 K w) rfl hl.1 rfl (Nat.le_of_ble_eq_true rfl) dX1_base_35 hf (fun H locs w => ?_)
  refine lv_aload_n hx hb dX1_base_38 rfl (lv_at hl 0 rfl) ?_
  refine gf_X1_queue K w dX1_base_39 ?_
  refine callv K w (c_X0_clear dn) (lk_X1_93 K ⟨Nat.le_trans (Nat.le_of_ble_eq_true rfl) hR.1, Nat.le_trans (Nat.le_of_ble_eq_true rfl) hR.2⟩) (recv10 K w) rfl hl.1 rfl (Nat.le_of_ble_eq_true rfl) dX1_base_42 hf (fun H locs w => ?_)
  refine lv_iconst (v := nI 0) hx hb dX1_base_45 (by decide) ?_
  refine lv_istore (lv' := [(4, .int _), (0, .ref _), (1, .int _), (2, .int _), (3, .int _)]) hx hb dX1_base_46 hl (by decide) rfl (fun ls hl => ?_)
  refine lp_base K ⟨Nat.le_trans (Nat.le_of_ble_eq_true rfl) hR.1, Nat.le_trans (Nat.le_of_ble_eq_true rfl) hR.2⟩ hf ok.1 (fun H locs ls w hl => ?_) n 0 (bmF M n a b) 0 _ _ _ (by omega) (by decide) rfl w (lv_sub hl [0, 4, 1] rfl)
  refine lv_aload_n hx hb dX1_base_80 rfl (lv_at hl 1 rfl) ?_
  refine lv_iload_n hx hb dX1_base_81 rfl (lv_at hl 0 rfl) ?_
  refine calli K w (c_X1_queuedAt_a dn) (lk_X1_99 K ⟨Nat.le_trans (Nat.le_of_ble_eq_true rfl) hR.1, Nat.le_trans (Nat.le_of_ble_eq_true rfl) hR.2⟩) (recv0 K w) rfl hl.1 rfl (Nat.le_of_ble_eq_true rfl) dX1_base_82 hf (fun H locs w => ?_)
  exact ret w rfl dX1_base_85

set_option maxHeartbeats 4000000 in
set_option maxRecDepth 100000 in
theorem c_X1_base_b {l : Launch} {E : En} {M : Mt} {n k : Nat} (dn : dN E) {a b j : Nat} (ha : a < n) (hb0 : b < n) (ok : okN M n) (hj : j < (baU M n a b).2) : MI l yX1_base (.code yX1_base cX1_base 5 (some .int)) 4 91 E [.ref (ad E 0), .int (nI a), .int (nI b), .int (nI j)] M n k (tkR (qaF j (baU M n a b)).1 (qaF j (baU M n a b)).2)  (tkF (qaF j (baU M n a b)).1 (qaF j (baU M n a b)).2) (n) ((qaF j (baU M n a b)).2 - 1) := by
  refine MI.of dn (own := RX1) (by decide) rfl (Nat.le_of_ble_eq_true rfl) (fun p e s m args below meth c ls Q K w hl ret => ?_)
  have hx := K.1.1
  have hb := K.1.2.1
  have hR : 4 ≤ (rmA 4 91).frames ∧ 91 ≤ (rmA 4 91).locals := ⟨Nat.le_refl _, Nat.le_refl _⟩
  have hf : 0 ≤ (rmA 4 91).cells ∧ 0 ≤ (rmA 4 91).slots := ⟨Nat.le_refl _, Nat.le_refl _⟩
  have hl : lv_has ls 5 [(0, .ref (ad E 0)), (1, .int (nI a)), (2, .int (nI b)), (3, .int (nI j))] := hl
  have hn := ok.1
  refine lv_aload_n hx hb dX1_base_0 rfl (lv_at hl 0 rfl) ?_
  refine lv_iload_n hx hb dX1_base_1 rfl (lv_at hl 1 rfl) ?_
  refine callv K w (c_X1_checkCommit dn ha ok.1) (lk_X1_64 K ⟨Nat.le_trans (Nat.le_of_ble_eq_true rfl) hR.1, Nat.le_trans (Nat.le_of_ble_eq_true rfl) hR.2⟩) (recv0 K w) rfl hl.1 rfl (Nat.le_of_ble_eq_true rfl) dX1_base_2 hf (fun H locs w => ?_)
  refine lv_aload_n hx hb dX1_base_5 rfl (lv_at hl 0 rfl) ?_
  refine lv_iload_n hx hb dX1_base_6 rfl (lv_at hl 2 rfl) ?_
  refine callv K w (c_X1_checkCommit dn hb0 ok.1) (lk_X1_64 K ⟨Nat.le_trans (Nat.le_of_ble_eq_true rfl) hR.1, Nat.le_trans (Nat.le_of_ble_eq_true rfl) hR.2⟩) (recv0 K w) rfl hl.1 rfl (Nat.le_of_ble_eq_true rfl) dX1_base_7 hf (fun H locs w => ?_)
  refine lv_aload_n hx hb dX1_base_10 rfl (lv_at hl 0 rfl) ?_
  refine callv K w (c_X1_clearMarks dn ok.1) (lk_X1_87 K ⟨Nat.le_trans (Nat.le_of_ble_eq_true rfl) hR.1, Nat.le_trans (Nat.le_of_ble_eq_true rfl) hR.2⟩) (recv0 K w) rfl hl.1 rfl (Nat.le_of_ble_eq_true rfl) dX1_base_11 hf (fun H locs w => ?_)
  refine lv_aload_n hx hb dX1_base_14 rfl (lv_at hl 0 rfl) ?_
  refine gf_X1_marks K w dX1_base_15 ?_
  refine lv_iload_n hx hb dX1_base_18 rfl (lv_at hl 1 rfl) ?_
  refine lv_dup2_11 hx hb dX1_base_19 rfl rfl ?_
  refine ldN K w row8 (by omega) dX1_base_20 ?_
  refine lv_iconst (v := nI 1) hx hb dX1_base_21 (by decide) ?_
  refine lv_ior hx hb dX1_base_22 ?_
  refine stN K w row8 (by omega) dX1_base_23 (fun H locs w => ?_)
  refine lv_aload_n hx hb dX1_base_24 rfl (lv_at hl 0 rfl) ?_
  refine gf_X1_marks K w dX1_base_25 ?_
  refine lv_iload_n hx hb dX1_base_28 rfl (lv_at hl 2 rfl) ?_
  refine lv_dup2_11 hx hb dX1_base_29 rfl rfl ?_
  refine ldN K w row8 (by omega) dX1_base_30 ?_
  refine lv_iconst (v := nI 2) hx hb dX1_base_31 (by decide) ?_
  refine lv_ior hx hb dX1_base_32 ?_
  refine stN K w row8 (by omega) dX1_base_33 (fun H locs w => ?_)
  refine lv_aload_n hx hb dX1_base_34 rfl (lv_at hl 0 rfl) ?_
  refine callv K w (c_X1_spreadMarks dn (ok.rows (clF_row (by decide)) (clF_row (by decide)))) (lk_X1_90 K ⟨Nat.le_trans (Nat.le_of_ble_eq_true rfl) hR.1, Nat.le_trans (Nat.le_of_ble_eq_true rfl) hR.2⟩) (recv0 K w) rfl hl.1 rfl (Nat.le_of_ble_eq_true rfl) dX1_base_35 hf (fun H locs w => ?_)
  refine lv_aload_n hx hb dX1_base_38 rfl (lv_at hl 0 rfl) ?_
  refine gf_X1_queue K w dX1_base_39 ?_
  refine callv K w (c_X0_clear dn) (lk_X1_93 K ⟨Nat.le_trans (Nat.le_of_ble_eq_true rfl) hR.1, Nat.le_trans (Nat.le_of_ble_eq_true rfl) hR.2⟩) (recv10 K w) rfl hl.1 rfl (Nat.le_of_ble_eq_true rfl) dX1_base_42 hf (fun H locs w => ?_)
  refine lv_iconst (v := nI 0) hx hb dX1_base_45 (by decide) ?_
  refine lv_istore (lv' := [(4, .int _), (0, .ref _), (1, .int _), (2, .int _), (3, .int _)]) hx hb dX1_base_46 hl (by decide) rfl (fun ls hl => ?_)
  refine lp_base K ⟨Nat.le_trans (Nat.le_of_ble_eq_true rfl) hR.1, Nat.le_trans (Nat.le_of_ble_eq_true rfl) hR.2⟩ hf ok.1 (fun H locs ls w hl => ?_) n 0 (bmF M n a b) 0 _ _ _ (by omega) (by decide) rfl w (lv_sub hl [0, 4, 1] rfl)
  refine lv_aload_n hx hb dX1_base_80 rfl (lv_at hl 1 rfl) ?_
  refine lv_iload_n hx hb dX1_base_81 rfl (lv_at hl 0 rfl) ?_
  refine calli K w (c_X1_queuedAt_b dn hj (bsF_le (Nat.zero_le _))) (lk_X1_99 K ⟨Nat.le_trans (Nat.le_of_ble_eq_true rfl) hR.1, Nat.le_trans (Nat.le_of_ble_eq_true rfl) hR.2⟩) (recv0 K w) rfl hl.1 rfl (Nat.le_of_ble_eq_true rfl) dX1_base_82 hf (fun H locs w => ?_)
  exact ret w rfl dX1_base_85

set_option maxHeartbeats 4000000 in
set_option maxRecDepth 100000 in
theorem c_X1_sent_a {l : Launch} {E : En} {M : Mt} {n k : Nat} (dn : dN E) {h : Nat} (hh : h < 2) (ok : okN M n) : MI l yX1_sent (.code yX1_sent cX1_sent 4 (some .int)) 4 90 E [.ref (ad E 0), .int (nI h), .int (-1)] M n k (nI (snU M n h).2)  ((snU M n h).1) (n) ((snU M n h).2) := by
  refine MI.of dn (own := RX1) (by decide) rfl (Nat.le_of_ble_eq_true rfl) (fun p e s m args below meth c ls Q K w hl ret => ?_)
  have hx := K.1.1
  have hb := K.1.2.1
  have hR : 4 ≤ (rmA 4 90).frames ∧ 90 ≤ (rmA 4 90).locals := ⟨Nat.le_refl _, Nat.le_refl _⟩
  have hf : 0 ≤ (rmA 4 90).cells ∧ 0 ≤ (rmA 4 90).slots := ⟨Nat.le_refl _, Nat.le_refl _⟩
  have hl : lv_has ls 4 [(0, .ref (ad E 0)), (1, .int (nI h)), (2, .int (-1))] := hl
  have hn := ok.1
  refine lv_iload_n hx hb dX1_sent_0 rfl (lv_at hl 1 rfl) ?_
  refine callsv K w (c_X1_checkHolder dn hh) (lk_X1_77 K ⟨Nat.le_trans (Nat.le_of_ble_eq_true rfl) hR.1, Nat.le_trans (Nat.le_of_ble_eq_true rfl) hR.2⟩) rfl hl.1 rfl (Nat.le_of_ble_eq_true rfl) dX1_sent_1 hf (fun H locs w => ?_)
  refine lv_aload_n hx hb dX1_sent_4 rfl (lv_at hl 0 rfl) ?_
  refine callv K w (c_X1_markHeld dn ok) (lk_X1_123 K ⟨Nat.le_trans (Nat.le_of_ble_eq_true rfl) hR.1, Nat.le_trans (Nat.le_of_ble_eq_true rfl) hR.2⟩) (recv0 K w) rfl hl.1 rfl (Nat.le_of_ble_eq_true rfl) dX1_sent_5 hf (fun H locs w => ?_)
  refine lv_aload_n hx hb dX1_sent_8 rfl (lv_at hl 0 rfl) ?_
  refine gf_X1_queue K w dX1_sent_9 ?_
  refine callv K w (c_X0_clear dn) (lk_X1_93 K ⟨Nat.le_trans (Nat.le_of_ble_eq_true rfl) hR.1, Nat.le_trans (Nat.le_of_ble_eq_true rfl) hR.2⟩) (recv10 K w) rfl hl.1 rfl (Nat.le_of_ble_eq_true rfl) dX1_sent_12 hf (fun H locs w => ?_)
  refine lv_iconst (v := nI 0) hx hb dX1_sent_15 (by decide) ?_
  refine lv_istore_n (lv' := [(3, .int _), (0, .ref _), (1, .int _), (2, .int _)]) hx hb dX1_sent_16 rfl hl (by decide) rfl (fun ls hl => ?_)
  refine lp_sent K ⟨Nat.le_trans (Nat.le_of_ble_eq_true rfl) hR.1, Nat.le_trans (Nat.le_of_ble_eq_true rfl) hR.2⟩ hf (by omega) ok.1 (fun H locs ls w hl => ?_) n 0 (hlF M n) 0 _ _ _ (by omega) (by decide) rfl w (lv_sub hl [0, 3, 2, 1] rfl)
  refine lv_aload_n hx hb dX1_sent_64 rfl (lv_at hl 1 rfl) ?_
  refine lv_iload_n hx hb dX1_sent_65 rfl (lv_at hl 0 rfl) ?_
  refine calli K w (c_X1_queuedAt_a dn) (lk_X1_99 K ⟨Nat.le_trans (Nat.le_of_ble_eq_true rfl) hR.1, Nat.le_trans (Nat.le_of_ble_eq_true rfl) hR.2⟩) (recv0 K w) rfl hl.1 rfl (Nat.le_of_ble_eq_true rfl) dX1_sent_66 hf (fun H locs w => ?_)
  exact ret w rfl dX1_sent_69

set_option maxHeartbeats 4000000 in
set_option maxRecDepth 100000 in
theorem c_X1_sent_b {l : Launch} {E : En} {M : Mt} {n k : Nat} (dn : dN E) {h j : Nat} (hh : h < 2) (ok : okN M n) (hj : j < (snU M n h).2) : MI l yX1_sent (.code yX1_sent cX1_sent 4 (some .int)) 4 90 E [.ref (ad E 0), .int (nI h), .int (nI j)] M n k (tkR (qaF j (snU M n h)).1 (qaF j (snU M n h)).2)  (tkF (qaF j (snU M n h)).1 (qaF j (snU M n h)).2) (n) ((qaF j (snU M n h)).2 - 1) := by
  refine MI.of dn (own := RX1) (by decide) rfl (Nat.le_of_ble_eq_true rfl) (fun p e s m args below meth c ls Q K w hl ret => ?_)
  have hx := K.1.1
  have hb := K.1.2.1
  have hR : 4 ≤ (rmA 4 90).frames ∧ 90 ≤ (rmA 4 90).locals := ⟨Nat.le_refl _, Nat.le_refl _⟩
  have hf : 0 ≤ (rmA 4 90).cells ∧ 0 ≤ (rmA 4 90).slots := ⟨Nat.le_refl _, Nat.le_refl _⟩
  have hl : lv_has ls 4 [(0, .ref (ad E 0)), (1, .int (nI h)), (2, .int (nI j))] := hl
  have hn := ok.1
  refine lv_iload_n hx hb dX1_sent_0 rfl (lv_at hl 1 rfl) ?_
  refine callsv K w (c_X1_checkHolder dn hh) (lk_X1_77 K ⟨Nat.le_trans (Nat.le_of_ble_eq_true rfl) hR.1, Nat.le_trans (Nat.le_of_ble_eq_true rfl) hR.2⟩) rfl hl.1 rfl (Nat.le_of_ble_eq_true rfl) dX1_sent_1 hf (fun H locs w => ?_)
  refine lv_aload_n hx hb dX1_sent_4 rfl (lv_at hl 0 rfl) ?_
  refine callv K w (c_X1_markHeld dn ok) (lk_X1_123 K ⟨Nat.le_trans (Nat.le_of_ble_eq_true rfl) hR.1, Nat.le_trans (Nat.le_of_ble_eq_true rfl) hR.2⟩) (recv0 K w) rfl hl.1 rfl (Nat.le_of_ble_eq_true rfl) dX1_sent_5 hf (fun H locs w => ?_)
  refine lv_aload_n hx hb dX1_sent_8 rfl (lv_at hl 0 rfl) ?_
  refine gf_X1_queue K w dX1_sent_9 ?_
  refine callv K w (c_X0_clear dn) (lk_X1_93 K ⟨Nat.le_trans (Nat.le_of_ble_eq_true rfl) hR.1, Nat.le_trans (Nat.le_of_ble_eq_true rfl) hR.2⟩) (recv10 K w) rfl hl.1 rfl (Nat.le_of_ble_eq_true rfl) dX1_sent_12 hf (fun H locs w => ?_)
  refine lv_iconst (v := nI 0) hx hb dX1_sent_15 (by decide) ?_
  refine lv_istore_n (lv' := [(3, .int _), (0, .ref _), (1, .int _), (2, .int _)]) hx hb dX1_sent_16 rfl hl (by decide) rfl (fun ls hl => ?_)
  refine lp_sent K ⟨Nat.le_trans (Nat.le_of_ble_eq_true rfl) hR.1, Nat.le_trans (Nat.le_of_ble_eq_true rfl) hR.2⟩ hf (by omega) ok.1 (fun H locs ls w hl => ?_) n 0 (hlF M n) 0 _ _ _ (by omega) (by decide) rfl w (lv_sub hl [0, 3, 2, 1] rfl)
  refine lv_aload_n hx hb dX1_sent_64 rfl (lv_at hl 1 rfl) ?_
  refine lv_iload_n hx hb dX1_sent_65 rfl (lv_at hl 0 rfl) ?_
  refine calli K w (c_X1_queuedAt_b dn hj (seF_le (Nat.zero_le _))) (lk_X1_99 K ⟨Nat.le_trans (Nat.le_of_ble_eq_true rfl) hR.1, Nat.le_trans (Nat.le_of_ble_eq_true rfl) hR.2⟩) (recv0 K w) rfl hl.1 rfl (Nat.le_of_ble_eq_true rfl) dX1_sent_66 hf (fun H locs w => ?_)
  exact ret w rfl dX1_sent_69

set_option maxHeartbeats 4000000 in
set_option maxRecDepth 100000 in
theorem c_X1_log_a {l : Launch} {E : En} {M : Mt} {n k : Nat} (dn : dN E) {q : Nat} (hq : q < n) (ok : okN M n) : MI l yX1_log (.code yX1_log cX1_log 4 (some .int)) 6 137 E [.ref (ad E 0), .int (nI q), .int (-1)] M n k (nI (cnF (fun j => decide (¬ mrF M n q 8 j = 0)) n 0 0))  (mrF M n q) (n) (k) := by
  refine MI.of dn (own := RX1) (by decide) rfl (Nat.le_of_ble_eq_true rfl) (fun p e s m args below meth c ls Q K w hl ret => ?_)
  have hx := K.1.1
  have hb := K.1.2.1
  have hR : 6 ≤ (rmA 6 137).frames ∧ 137 ≤ (rmA 6 137).locals := ⟨Nat.le_refl _, Nat.le_refl _⟩
  have hf : 0 ≤ (rmA 6 137).cells ∧ 0 ≤ (rmA 6 137).slots := ⟨Nat.le_refl _, Nat.le_refl _⟩
  have hl : lv_has ls 4 [(0, .ref (ad E 0)), (1, .int (nI q)), (2, .int (-1))] := hl
  refine lv_aload_n hx hb dX1_log_0 rfl (lv_at hl 0 rfl) ?_
  refine lv_iload_n hx hb dX1_log_1 rfl (lv_at hl 1 rfl) ?_
  refine callv K w (c_X1_checkCommit dn hq ok.1) (lk_X1_64 K ⟨Nat.le_trans (Nat.le_of_ble_eq_true rfl) hR.1, Nat.le_trans (Nat.le_of_ble_eq_true rfl) hR.2⟩) (recv0 K w) rfl hl.1 rfl (Nat.le_of_ble_eq_true rfl) dX1_log_2 hf (fun H locs w => ?_)
  refine lv_aload_n hx hb dX1_log_5 rfl (lv_at hl 0 rfl) ?_
  refine lv_iload_n hx hb dX1_log_6 rfl (lv_at hl 1 rfl) ?_
  refine callv K w (c_X1_markReachable dn hq ok) (lk_X1_84 K ⟨Nat.le_trans (Nat.le_of_ble_eq_true rfl) hR.1, Nat.le_trans (Nat.le_of_ble_eq_true rfl) hR.2⟩) (recv0 K w) rfl hl.1 rfl (Nat.le_of_ble_eq_true rfl) dX1_log_7 hf (fun H locs w => ?_)
  refine lv_aload_n hx hb dX1_log_10 rfl (lv_at hl 0 rfl) ?_
  refine calli K w (c_X1_markedCommits dn ok.1) (lk_X1_102 K ⟨Nat.le_trans (Nat.le_of_ble_eq_true rfl) hR.1, Nat.le_trans (Nat.le_of_ble_eq_true rfl) hR.2⟩) (recv0 K w) rfl hl.1 rfl (Nat.le_of_ble_eq_true rfl) dX1_log_11 hf (fun H locs w => ?_)
  refine lv_istore_n (lv' := [(3, .int _), (0, .ref _), (1, .int _), (2, .int _)]) hx hb dX1_log_14 rfl hl (by decide) rfl (fun ls hl => ?_)
  refine lv_iload_n hx hb dX1_log_15 rfl (lv_at hl 3 rfl) ?_
  refine lv_iconst (v := -1) hx hb dX1_log_16 (by decide) ?_
  refine lv_icmp_ne (tgt := 22) hx hb dX1_log_17 rfl (fun h9 => absurd (rfl : (-1 : Int32) = -1) h9) (fun _ => ?_)
  refine lv_iload_n hx hb dX1_log_20 rfl (lv_at hl 0 rfl) ?_
  exact ret w rfl dX1_log_21

set_option maxHeartbeats 4000000 in
set_option maxRecDepth 100000 in
theorem c_X1_log_b {l : Launch} {E : En} {M : Mt} {n k : Nat} (dn : dN E) {q j : Nat} (hq : q < n) (ok : okN M n) (hj : j < cnF (fun i => decide (¬ mrF M n q 8 i = 0)) n 0 0) (hj2 : cnF (fun i => decide (¬ mrF M n q 8 i = 0)) n 0 0 < 2147483648) : MI l yX1_log (.code yX1_log cX1_log 4 (some .int)) 6 137 E [.ref (ad E 0), .int (nI q), .int (nI j)] M n k (tkR (taF j (tl0 (mrF M n q) n q)).1 (taF j (tl0 (mrF M n q) n q)).2)  (tkF (taF j (tl0 (mrF M n q) n q)).1 (taF j (tl0 (mrF M n q) n q)).2) (n) ((taF j (tl0 (mrF M n q) n q)).2 - 1) := by
  refine MI.of dn (own := RX1) (by decide) rfl (Nat.le_of_ble_eq_true rfl) (fun p e s m args below meth c ls Q K w hl ret => ?_)
  have hx := K.1.1
  have hb := K.1.2.1
  have hR : 6 ≤ (rmA 6 137).frames ∧ 137 ≤ (rmA 6 137).locals := ⟨Nat.le_refl _, Nat.le_refl _⟩
  have hf : 0 ≤ (rmA 6 137).cells ∧ 0 ≤ (rmA 6 137).slots := ⟨Nat.le_refl _, Nat.le_refl _⟩
  have hl : lv_has ls 4 [(0, .ref (ad E 0)), (1, .int (nI q)), (2, .int (nI j))] := hl
  refine lv_aload_n hx hb dX1_log_0 rfl (lv_at hl 0 rfl) ?_
  refine lv_iload_n hx hb dX1_log_1 rfl (lv_at hl 1 rfl) ?_
  refine callv K w (c_X1_checkCommit dn hq ok.1) (lk_X1_64 K ⟨Nat.le_trans (Nat.le_of_ble_eq_true rfl) hR.1, Nat.le_trans (Nat.le_of_ble_eq_true rfl) hR.2⟩) (recv0 K w) rfl hl.1 rfl (Nat.le_of_ble_eq_true rfl) dX1_log_2 hf (fun H locs w => ?_)
  refine lv_aload_n hx hb dX1_log_5 rfl (lv_at hl 0 rfl) ?_
  refine lv_iload_n hx hb dX1_log_6 rfl (lv_at hl 1 rfl) ?_
  refine callv K w (c_X1_markReachable dn hq ok) (lk_X1_84 K ⟨Nat.le_trans (Nat.le_of_ble_eq_true rfl) hR.1, Nat.le_trans (Nat.le_of_ble_eq_true rfl) hR.2⟩) (recv0 K w) rfl hl.1 rfl (Nat.le_of_ble_eq_true rfl) dX1_log_7 hf (fun H locs w => ?_)
  refine lv_aload_n hx hb dX1_log_10 rfl (lv_at hl 0 rfl) ?_
  refine calli K w (c_X1_markedCommits dn ok.1) (lk_X1_102 K ⟨Nat.le_trans (Nat.le_of_ble_eq_true rfl) hR.1, Nat.le_trans (Nat.le_of_ble_eq_true rfl) hR.2⟩) (recv0 K w) rfl hl.1 rfl (Nat.le_of_ble_eq_true rfl) dX1_log_11 hf (fun H locs w => ?_)
  refine lv_istore_n (lv' := [(3, .int _), (0, .ref _), (1, .int _), (2, .int _)]) hx hb dX1_log_14 rfl hl (by decide) rfl (fun ls hl => ?_)
  refine lv_iload_n hx hb dX1_log_15 rfl (lv_at hl 3 rfl) ?_
  refine lv_iconst (v := -1) hx hb dX1_log_16 (by decide) ?_
  refine lv_icmp_ne (tgt := 22) hx hb dX1_log_17 rfl (fun _ => ?_) (fun h9 => absurd h9 (nI_nm1 (by omega)))
  refine lv_iload_n hx hb dX1_log_22 rfl (lv_at hl 3 rfl) ?_
  refine lv_iload_n hx hb dX1_log_23 rfl (lv_at hl 0 rfl) ?_
  refine callsv K w (c_X1_checkPlace dn hj hj2) (lk_X1_106 K ⟨Nat.le_trans (Nat.le_of_ble_eq_true rfl) hR.1, Nat.le_trans (Nat.le_of_ble_eq_true rfl) hR.2⟩) rfl hl.1 rfl (Nat.le_of_ble_eq_true rfl) dX1_log_24 hf (fun H locs w => ?_)
  refine lv_aload_n hx hb dX1_log_27 rfl (lv_at hl 1 rfl) ?_
  refine lv_iload_n hx hb dX1_log_28 rfl (lv_at hl 2 rfl) ?_
  refine lv_iload_n hx hb dX1_log_29 rfl (lv_at hl 3 rfl) ?_
  refine calli K w (c_X1_toldAt dn hq (by omega) (ok.rows (M' := mrF M n q) (spF_row (by decide) |>.trans (clF_row (by decide))) (spF_row (by decide) |>.trans (clF_row (by decide))))) (lk_X1_109 K ⟨Nat.le_trans (Nat.le_of_ble_eq_true rfl) hR.1, Nat.le_trans (Nat.le_of_ble_eq_true rfl) hR.2⟩) (recv0 K w) rfl hl.1 rfl (Nat.le_of_ble_eq_true rfl) dX1_log_30 hf (fun H locs w => ?_)
  exact ret w rfl dX1_log_33
end
section
/-- the line of first parents -/
def bkF (M : Mt) : Nat → Nat → Option Nat
  | 0, c => some c
  | t + 1, c => if pcn M c = 0 then none else bkF M t (par M c 0)
section SA
variable {p : Program} {l : Launch} {e : Env} {R : Room} {s : State} {m : MethodId} {args : Array Value} {below : List Frame} {meth : Method} {c : Code} {H : Heap} {locs : List Loc} {cells slots : Nat} {Q : State → Prop} {ls : Array Slot} {w0 : Cond} {E : En} {M MF : Mt} {n k : Nat}
set_option maxHeartbeats 4000000 in
set_option maxRecDepth 100000 in
theorem lp_back (K : cX E p m c cX1_back 5 s args w0 RX1) (hR : 1 ≤ R.frames ∧ 22 ≤ R.locals) (hf : cells ≤ R.cells ∧ slots ≤ R.slots) {j r : Nat} (hj : j < 2147483648) (ok : okN M n) (ret : ∀ {H : Heap} {locs : List Loc} {pc : Nat} {ls : Array Slot} {v : Int32}, wst E s.heap M n k H locs → v = nI r → decode cX1_back pc = .ok (.ireturn, 1) → W p l e R s m args below meth c H locs cells slots Q (F0 m pc ls [.int v])) : ∀ (d i : Nat) (q : Nat) (H : Heap) (locs : List Loc) (ls : Array Slot), i + d = j → q < n → bkF M d q = some r → wst E s.heap M n k H locs → lv_has ls 5 [(4, .int (nI i)), (3, .int (nI q)), (2, .int (nI j)), (0, .ref (ad E 0))] → W p l e R s m args below meth c H locs cells slots Q (F0 m 24 ls []) := by
  have hx := K.1.1
  have hb := K.1.2.1
  intro d
  induction d with
  | zero =>
    intro i q H locs ls hi hq hm w hl
    have h4 := ok.le hq
    have hn := ok.1
    refine lv_iload hx hb dX1_back_24 (lv_at hl 0 rfl) ?_
    refine lv_iload_n hx hb dX1_back_26 rfl (lv_at hl 2 rfl) ?_
    refine lv_icmp_ge (tgt := 62) hx hb dX1_back_27 rfl (fun _ => ?_) (fun h9 => absurd (nI_le (by omega) (by omega)) h9)
    refine lv_iload_n hx hb dX1_back_62 rfl (lv_at hl 1 rfl) ?_
    exact ret w (by cases hm; rfl) dX1_back_63
  | succ d ih =>
    intro i q H locs ls hi hq hm w hl
    have h4 := ok.le hq
    have hn := ok.1
    by_cases h0 : pcn M q = 0
    · rw [bkF, if_pos h0] at hm; cases hm
    rw [bkF, if_neg h0] at hm
    have h5 := ok.lt hq (t := 0) (by omega)
    refine lv_iload hx hb dX1_back_24 (lv_at hl 0 rfl) ?_
    refine lv_iload_n hx hb dX1_back_26 rfl (lv_at hl 2 rfl) ?_
    refine lv_icmp_ge (tgt := 62) hx hb dX1_back_27 rfl (fun h9 => absurd h9 (nI_ge (by omega) (by omega))) (fun _ => ?_)
    refine lv_aload_n hx hb dX1_back_30 rfl (lv_at hl 3 rfl) ?_
    refine gf_X1_parentCounts K w dX1_back_31 ?_
    refine lv_iload_n hx hb dX1_back_34 rfl (lv_at hl 1 rfl) ?_
    refine ldN K w row4 (by omega) dX1_back_35 ?_
    refine topE (y := nI (pcn M q)) (ok.pc hq) ?_
    refine lv_if_ne (tgt := 49) hx hb dX1_back_36 rfl (fun _ => ?_) (fun h9 => absurd h9 (nI_ne0 (by omega) (by omega)))
    refine lv_aload_n hx hb dX1_back_49 rfl (lv_at hl 3 rfl) ?_
    refine lv_iload_n hx hb dX1_back_50 rfl (lv_at hl 1 rfl) ?_
    refine lv_iconst (v := nI 0) hx hb dX1_back_51 (by decide) ?_
    refine calli K w (c_X1_parentOf K.2.2 (by omega) (ok.pr hq (by omega))) (lk_X1_120 K ⟨Nat.le_trans (Nat.le_of_ble_eq_true rfl) hR.1, Nat.le_trans (Nat.le_of_ble_eq_true rfl) hR.2⟩) (recv0 K w) rfl hl.1 rfl (Nat.le_of_ble_eq_true rfl) dX1_back_52 hf (fun H locs w => ?_)
    refine lv_istore_n (lv' := [(3, .int _), (4, .int _), (2, .int _), (0, .ref _)]) hx hb dX1_back_55 rfl hl (by decide) rfl (fun ls hl => ?_)
    refine lv_iinc (k := 1) (v := nI (_ + 1)) (lv' := [(4, .int _), (3, .int _), (2, .int _), (0, .ref _)]) hx hb dX1_back_56 hl rfl (inc1 _) (by decide) rfl (fun ls hl => ?_)
    refine lv_goto (tgt := 24) hx hb dX1_back_59 rfl ?_
    exact ih (i + 1) _ _ _ _ (by omega) (by omega) hm w (lv_sub hl [0, 1, 2, 3] rfl)

set_option maxHeartbeats 4000000 in
set_option maxRecDepth 100000 in
theorem lp_backt (K : cX E p m c cX1_back 5 s args w0 RX1) (hR : 1 ≤ R.frames ∧ 22 ≤ R.locals) (hf : cells ≤ R.cells ∧ slots ≤ R.slots) {j : Nat} (hj : j < 2147483648) (ok : okN M n) (thr : ∀ {H : Heap} {locs : List Loc} {pc : Nat} {ls : Array Slot} {rest : List Value} {ik ic : Nat} {x : Nat × String}, wst E s.heap M n k H locs → xT "java/util/NoSuchElementException" ik ic → x ∈ strL → ls.size = 5 → (rest.map fun v => v.category).sum ≤ 8 → 5 < 7 → 90 ≤ 111 → decode cX1_back pc = .ok (.new ik, 3) → decode cX1_back (pc + 3) = .ok (.dup, 1) → decode cX1_back (pc + 4) = .ok (.ldc x.1, 2) → decode cX1_back (pc + 6) = .ok (.invokespecial ic, 3) → decode cX1_back (pc + 9) = .ok (.athrow, 1) → W p l e R s m args below meth c H locs cells slots Q (F0 m pc ls rest)) : ∀ (d i q : Nat) (H : Heap) (locs : List Loc) (ls : Array Slot), i + d = j → q < n → bkF M d q = none → wst E s.heap M n k H locs → lv_has ls 5 [(4, .int (nI i)), (3, .int (nI q)), (2, .int (nI j)), (0, .ref (ad E 0))] → W p l e R s m args below meth c H locs cells slots Q (F0 m 24 ls []) := by
  have hx := K.1.1
  have hb := K.1.2.1
  intro d
  induction d with
  | zero =>
    intro i q H locs ls hi hq hm w hl
    cases hm
  | succ d ih =>
    intro i q H locs ls hi hq hm w hl
    have h4 := ok.le hq
    have hn := ok.1
    by_cases h0 : pcn M q = 0
    · refine lv_iload hx hb dX1_back_24 (lv_at hl 0 rfl) ?_
      refine lv_iload_n hx hb dX1_back_26 rfl (lv_at hl 2 rfl) ?_
      refine lv_icmp_ge (tgt := 62) hx hb dX1_back_27 rfl (fun h9 => absurd h9 (nI_ge (by omega) (by omega))) (fun _ => ?_)
      refine lv_aload_n hx hb dX1_back_30 rfl (lv_at hl 3 rfl) ?_
      refine gf_X1_parentCounts K w dX1_back_31 ?_
      refine lv_iload_n hx hb dX1_back_34 rfl (lv_at hl 1 rfl) ?_
      refine ldN K w row4 (by omega) dX1_back_35 ?_
      refine topE (y := nI (pcn M q)) (ok.pc hq) ?_
      refine lv_if_ne (tgt := 49) hx hb dX1_back_36 rfl (fun h9 => absurd (by rw [h0]; rfl) h9) (fun _ => ?_)
      exact thr w xNSE (List.mem_of_getElem? (i := 4) rfl) hl.1 (Nat.le_of_ble_eq_true rfl) (by decide) (by decide) dX1_back_39 dX1_back_42 dX1_back_43 dX1_back_45 dX1_back_48
    · rw [bkF, if_neg h0] at hm
      have h5 := ok.lt hq (t := 0) (by omega)
      refine lv_iload hx hb dX1_back_24 (lv_at hl 0 rfl) ?_
      refine lv_iload_n hx hb dX1_back_26 rfl (lv_at hl 2 rfl) ?_
      refine lv_icmp_ge (tgt := 62) hx hb dX1_back_27 rfl (fun h9 => absurd h9 (nI_ge (by omega) (by omega))) (fun _ => ?_)
      refine lv_aload_n hx hb dX1_back_30 rfl (lv_at hl 3 rfl) ?_
      refine gf_X1_parentCounts K w dX1_back_31 ?_
      refine lv_iload_n hx hb dX1_back_34 rfl (lv_at hl 1 rfl) ?_
      refine ldN K w row4 (by omega) dX1_back_35 ?_
      refine topE (y := nI (pcn M q)) (ok.pc hq) ?_
      refine lv_if_ne (tgt := 49) hx hb dX1_back_36 rfl (fun _ => ?_) (fun h9 => absurd h9 (nI_ne0 (by omega) (by omega)))
      refine lv_aload_n hx hb dX1_back_49 rfl (lv_at hl 3 rfl) ?_
      refine lv_iload_n hx hb dX1_back_50 rfl (lv_at hl 1 rfl) ?_
      refine lv_iconst (v := nI 0) hx hb dX1_back_51 (by decide) ?_
      refine calli K w (c_X1_parentOf K.2.2 (by omega) (ok.pr hq (by omega))) (lk_X1_120 K ⟨Nat.le_trans (Nat.le_of_ble_eq_true rfl) hR.1, Nat.le_trans (Nat.le_of_ble_eq_true rfl) hR.2⟩) (recv0 K w) rfl hl.1 rfl (Nat.le_of_ble_eq_true rfl) dX1_back_52 hf (fun H locs w => ?_)
      refine lv_istore_n (lv' := [(3, .int _), (4, .int _), (2, .int _), (0, .ref _)]) hx hb dX1_back_55 rfl hl (by decide) rfl (fun ls hl => ?_)
      refine lv_iinc (k := 1) (v := nI (_ + 1)) (lv' := [(4, .int _), (3, .int _), (2, .int _), (0, .ref _)]) hx hb dX1_back_56 hl rfl (inc1 _) (by decide) rfl (fun ls hl => ?_)
      refine lv_goto (tgt := 24) hx hb dX1_back_59 rfl ?_
      exact ih (i + 1) _ _ _ _ (by omega) (by omega) hm w (lv_sub hl [0, 1, 2, 3] rfl)

end SA
set_option maxHeartbeats 4000000 in
set_option maxRecDepth 100000 in
theorem c_X1_back {l : Launch} {E : En} {M : Mt} {n k : Nat} (dn : dN E) {q j r : Nat} (hq : q < n) (hj : j < 2147483648) (ok : okN M n) (hm : bkF M j q = some r) : MI l yX1_back (.code yX1_back cX1_back 5 (some .int)) 1 22 E [.ref (ad E 0), .int (nI q), .int (nI j)] M n k (nI r)  (M) (n) (k) := by
  refine MI.of dn (own := RX1) (by decide) rfl (Nat.le_of_ble_eq_true rfl) (fun p e s m args below meth c ls Q K w hl ret => ?_)
  have hx := K.1.1
  have hb := K.1.2.1
  have hR : 1 ≤ (rmA 1 22).frames ∧ 22 ≤ (rmA 1 22).locals := ⟨Nat.le_refl _, Nat.le_refl _⟩
  have hf : 0 ≤ (rmA 1 22).cells ∧ 0 ≤ (rmA 1 22).slots := ⟨Nat.le_refl _, Nat.le_refl _⟩
  have hl : lv_has ls 5 [(0, .ref (ad E 0)), (1, .int (nI q)), (2, .int (nI j))] := hl
  refine lv_aload_n hx hb dX1_back_0 rfl (lv_at hl 0 rfl) ?_
  refine lv_iload_n hx hb dX1_back_1 rfl (lv_at hl 1 rfl) ?_
  refine callv K w (c_X1_checkCommit dn hq ok.1) (lk_X1_64 K ⟨Nat.le_trans (Nat.le_of_ble_eq_true rfl) hR.1, Nat.le_trans (Nat.le_of_ble_eq_true rfl) hR.2⟩) (recv0 K w) rfl hl.1 rfl (Nat.le_of_ble_eq_true rfl) dX1_back_2 hf (fun H locs w => ?_)
  refine lv_iload_n hx hb dX1_back_5 rfl (lv_at hl 2 rfl) ?_
  refine lv_if_ge (tgt := 19) hx hb dX1_back_6 rfl (fun _ => ?_) (fun h9 => absurd (nI_pos' hj) h9)
  refine lv_iload_n hx hb dX1_back_19 rfl (lv_at hl 1 rfl) ?_
  refine lv_istore_n (lv' := [(3, .int _), (0, .ref _), (1, .int _), (2, .int _)]) hx hb dX1_back_20 rfl hl (by decide) rfl (fun ls hl => ?_)
  refine lv_iconst (v := nI 0) hx hb dX1_back_21 (by decide) ?_
  refine lv_istore (lv' := [(4, .int _), (3, .int _), (0, .ref _), (1, .int _), (2, .int _)]) hx hb dX1_back_22 hl (by decide) rfl (fun ls hl => ?_)
  exact lp_back K ⟨Nat.le_trans (Nat.le_of_ble_eq_true rfl) hR.1, Nat.le_trans (Nat.le_of_ble_eq_true rfl) hR.2⟩ hf hj ok ret j 0 q _ _ _ (by omega) hq hm w (lv_sub hl [0, 1, 4, 2] rfl)

set_option maxHeartbeats 4000000 in
set_option maxRecDepth 100000 in
theorem t_X1_back_a {l : Launch} {E : En} {M : Mt} {n k : Nat} (hst : l.stackTraces = false) (dn : dN E) {x y : Int32} (hx0 : x < 0 ∨ nI n ≤ x) : MT l yX1_back (.code yX1_back cX1_back 5 (some .int)) 7 111 E [.ref (ad E 0), .int x, .int y] M n k "java/lang/IllegalArgumentException" (M) (n) (k) := by
  refine MT.of hst dn (by decide) rfl (Nat.le_of_ble_eq_true rfl) (fun p e s m args below meth c ls Q K z w hl out thr => ?_)
  have hx := K.1.1
  have hb := K.1.2.1
  have hR : 7 ≤ (rmx 7 111).frames ∧ 111 ≤ (rmx 7 111).locals := ⟨Nat.le_refl _, Nat.le_refl _⟩
  have hf : 0 ≤ (rmx 7 111).cells ∧ 0 ≤ (rmx 7 111).slots := ⟨Nat.zero_le _, Nat.zero_le _⟩
  have hl : lv_has ls 5 [(0, .ref (ad E 0)), (1, .int x), (2, .int y)] := hl
  refine lv_aload_n hx hb dX1_back_0 rfl (lv_at hl 0 rfl) ?_
  refine lv_iload_n hx hb dX1_back_1 rfl (lv_at hl 1 rfl) ?_
  exact callt K z w (t_X1_checkCommit hst dn hx0) (lk_X1_64 K ⟨Nat.le_trans (Nat.le_of_ble_eq_true rfl) hR.1, Nat.le_trans (Nat.le_of_ble_eq_true rfl) hR.2⟩) (recv0 K w) rfl hl.1 rfl (Nat.le_of_ble_eq_true rfl) dX1_back_2 ⟨Nat.le_of_ble_eq_true rfl, Nat.le_of_ble_eq_true rfl⟩ out

set_option maxHeartbeats 4000000 in
set_option maxRecDepth 100000 in
theorem t_X1_back_b {l : Launch} {E : En} {M : Mt} {n k : Nat} (hst : l.stackTraces = false) (dn : dN E) {q : Nat} {y : Int32} (hq : q < n) (hn : n ≤ 2000) (hy : y < 0) : MT l yX1_back (.code yX1_back cX1_back 5 (some .int)) 7 111 E [.ref (ad E 0), .int (nI q), .int y] M n k "java/lang/IllegalArgumentException" (M) (n) (k) := by
  refine MT.of hst dn (by decide) rfl (Nat.le_of_ble_eq_true rfl) (fun p e s m args below meth c ls Q K z w hl out thr => ?_)
  have hx := K.1.1
  have hb := K.1.2.1
  have hR : 7 ≤ (rmx 7 111).frames ∧ 111 ≤ (rmx 7 111).locals := ⟨Nat.le_refl _, Nat.le_refl _⟩
  have hf : 0 ≤ (rmx 7 111).cells ∧ 0 ≤ (rmx 7 111).slots := ⟨Nat.zero_le _, Nat.zero_le _⟩
  have hl : lv_has ls 5 [(0, .ref (ad E 0)), (1, .int (nI q)), (2, .int y)] := hl
  refine lv_aload_n hx hb dX1_back_0 rfl (lv_at hl 0 rfl) ?_
  refine lv_iload_n hx hb dX1_back_1 rfl (lv_at hl 1 rfl) ?_
  refine callv K w (c_X1_checkCommit dn hq hn) (lk_X1_64 K ⟨Nat.le_trans (Nat.le_of_ble_eq_true rfl) hR.1, Nat.le_trans (Nat.le_of_ble_eq_true rfl) hR.2⟩) (recv0 K w) rfl hl.1 rfl (Nat.le_of_ble_eq_true rfl) dX1_back_2 hf (fun H locs w => ?_)
  refine lv_iload_n hx hb dX1_back_5 rfl (lv_at hl 2 rfl) ?_
  refine lv_if_ge (tgt := 19) hx hb dX1_back_6 rfl (fun h9 => absurd h9 (fun h => nlt_le h hy)) (fun _ => ?_)
  exact thr w xIAE (List.mem_of_getElem? (i := 3) rfl) hl.1 (Nat.le_of_ble_eq_true rfl) (by decide) (by decide) dX1_back_9 dX1_back_12 dX1_back_13 dX1_back_15 dX1_back_18

set_option maxHeartbeats 4000000 in
set_option maxRecDepth 100000 in
theorem t_X1_back_c {l : Launch} {E : En} {M : Mt} {n k : Nat} (hst : l.stackTraces = false) (dn : dN E) {q j : Nat} (hq : q < n) (hj : j < 2147483648) (ok : okN M n) (hm : bkF M j q = none) : MT l yX1_back (.code yX1_back cX1_back 5 (some .int)) 7 111 E [.ref (ad E 0), .int (nI q), .int (nI j)] M n k "java/util/NoSuchElementException" (M) (n) (k) := by
  refine MT.of hst dn (by decide) rfl (Nat.le_of_ble_eq_true rfl) (fun p e s m args below meth c ls Q K z w hl out thr => ?_)
  have hx := K.1.1
  have hb := K.1.2.1
  have hR : 7 ≤ (rmx 7 111).frames ∧ 111 ≤ (rmx 7 111).locals := ⟨Nat.le_refl _, Nat.le_refl _⟩
  have hf : 0 ≤ (rmx 7 111).cells ∧ 0 ≤ (rmx 7 111).slots := ⟨Nat.zero_le _, Nat.zero_le _⟩
  have hl : lv_has ls 5 [(0, .ref (ad E 0)), (1, .int (nI q)), (2, .int (nI j))] := hl
  refine lv_aload_n hx hb dX1_back_0 rfl (lv_at hl 0 rfl) ?_
  refine lv_iload_n hx hb dX1_back_1 rfl (lv_at hl 1 rfl) ?_
  refine callv K w (c_X1_checkCommit dn hq ok.1) (lk_X1_64 K ⟨Nat.le_trans (Nat.le_of_ble_eq_true rfl) hR.1, Nat.le_trans (Nat.le_of_ble_eq_true rfl) hR.2⟩) (recv0 K w) rfl hl.1 rfl (Nat.le_of_ble_eq_true rfl) dX1_back_2 hf (fun H locs w => ?_)
  refine lv_iload_n hx hb dX1_back_5 rfl (lv_at hl 2 rfl) ?_
  refine lv_if_ge (tgt := 19) hx hb dX1_back_6 rfl (fun _ => ?_) (fun h9 => absurd (nI_pos' hj) h9)
  refine lv_iload_n hx hb dX1_back_19 rfl (lv_at hl 1 rfl) ?_
  refine lv_istore_n (lv' := [(3, .int _), (0, .ref _), (1, .int _), (2, .int _)]) hx hb dX1_back_20 rfl hl (by decide) rfl (fun ls hl => ?_)
  refine lv_iconst (v := nI 0) hx hb dX1_back_21 (by decide) ?_
  refine lv_istore (lv' := [(4, .int _), (3, .int _), (0, .ref _), (1, .int _), (2, .int _)]) hx hb dX1_back_22 hl (by decide) rfl (fun ls hl => ?_)
  exact lp_backt K ⟨Nat.le_trans (Nat.le_of_ble_eq_true rfl) hR.1, Nat.le_trans (Nat.le_of_ble_eq_true rfl) hR.2⟩ hf hj ok thr j 0 q _ _ _ (by omega) hq hm w (lv_sub hl [0, 1, 4, 2] rfl)
end
section
set_option maxHeartbeats 4000000 in
set_option maxRecDepth 100000 in
theorem t_X1_add_a {l : Launch} {E : En} {M : Mt} {n k : Nat} (hst : l.stackTraces = false) (dn : dN E) {ti ky x y v : Int32} (h1 : ¬ x = -1) (h2 : x < 0 ∨ nI n ≤ x) : MT l yX1_add (.code yX1_add cX1_add 7 (some .int)) 8 132 E [.ref (ad E 0), .int ti, .int ky, .int x, .int y, .int v] M n k "java/lang/IllegalArgumentException" (M) (n) (k) := by
  refine MT.of hst dn (by decide) rfl (Nat.le_of_ble_eq_true rfl) (fun p e s m args below meth c ls Q K z w hl out thr => ?_)
  have hx := K.1.1
  have hb := K.1.2.1
  have hR : 8 ≤ (rmx 8 132).frames ∧ 132 ≤ (rmx 8 132).locals := ⟨Nat.le_refl _, Nat.le_refl _⟩
  have hf : 0 ≤ (rmx 8 132).cells ∧ 0 ≤ (rmx 8 132).slots := ⟨Nat.zero_le _, Nat.zero_le _⟩
  have hl : lv_has ls 7 [(0, .ref (ad E 0)), (1, .int ti), (2, .int ky), (3, .int x), (4, .int y), (5, .int v)] := hl
  refine lv_aload_n hx hb dX1_add_0 rfl (lv_at hl 0 rfl) ?_
  refine lv_iload_n hx hb dX1_add_1 rfl (lv_at hl 3 rfl) ?_
  exact callt K z w (t_X1_checkParentOrNone hst dn h1 h2) (lk_X1_45 K ⟨Nat.le_trans (Nat.le_of_ble_eq_true rfl) hR.1, Nat.le_trans (Nat.le_of_ble_eq_true rfl) hR.2⟩) (recv0 K w) rfl hl.1 rfl (Nat.le_of_ble_eq_true rfl) dX1_add_2 ⟨Nat.le_of_ble_eq_true rfl, Nat.le_of_ble_eq_true rfl⟩ out

set_option maxHeartbeats 4000000 in
set_option maxRecDepth 100000 in
theorem t_X1_add_b {l : Launch} {E : En} {M : Mt} {n k : Nat} (hst : l.stackTraces = false) (dn : dN E) {ti ky y v : Int32} {a : Option Nat} (ha : oB a n) (hn : n ≤ 2000) (h1 : ¬ y = -1) (h2 : y < 0 ∨ nI n ≤ y) : MT l yX1_add (.code yX1_add cX1_add 7 (some .int)) 8 132 E [.ref (ad E 0), .int ti, .int ky, .int (oI a), .int y, .int v] M n k "java/lang/IllegalArgumentException" (M) (n) (k) := by
  refine MT.of hst dn (by decide) rfl (Nat.le_of_ble_eq_true rfl) (fun p e s m args below meth c ls Q K z w hl out thr => ?_)
  have hx := K.1.1
  have hb := K.1.2.1
  have hR : 8 ≤ (rmx 8 132).frames ∧ 132 ≤ (rmx 8 132).locals := ⟨Nat.le_refl _, Nat.le_refl _⟩
  have hf : 0 ≤ (rmx 8 132).cells ∧ 0 ≤ (rmx 8 132).slots := ⟨Nat.zero_le _, Nat.zero_le _⟩
  have hl : lv_has ls 7 [(0, .ref (ad E 0)), (1, .int ti), (2, .int ky), (3, .int (oI a)), (4, .int y), (5, .int v)] := hl
  refine lv_aload_n hx hb dX1_add_0 rfl (lv_at hl 0 rfl) ?_
  refine lv_iload_n hx hb dX1_add_1 rfl (lv_at hl 3 rfl) ?_
  refine callv K w (c_X1_checkParentOrNone dn ha (by omega)) (lk_X1_45 K ⟨Nat.le_trans (Nat.le_of_ble_eq_true rfl) hR.1, Nat.le_trans (Nat.le_of_ble_eq_true rfl) hR.2⟩) (recv0 K w) rfl hl.1 rfl (Nat.le_of_ble_eq_true rfl) dX1_add_2 hf (fun H locs w => ?_)
  refine lv_aload_n hx hb dX1_add_5 rfl (lv_at hl 0 rfl) ?_
  refine lv_iload hx hb dX1_add_6 (lv_at hl 4 rfl) ?_
  exact callt K z w (t_X1_checkParentOrNone hst dn h1 h2) (lk_X1_45 K ⟨Nat.le_trans (Nat.le_of_ble_eq_true rfl) hR.1, Nat.le_trans (Nat.le_of_ble_eq_true rfl) hR.2⟩) (recv0 K w) rfl hl.1 rfl (Nat.le_of_ble_eq_true rfl) dX1_add_8 ⟨Nat.le_of_ble_eq_true rfl, Nat.le_of_ble_eq_true rfl⟩ out

set_option maxHeartbeats 4000000 in
set_option maxRecDepth 100000 in
theorem t_X1_add_c {l : Launch} {E : En} {M : Mt} {n k : Nat} (hst : l.stackTraces = false) (dn : dN E) {ti ky v : Int32} {a b : Option Nat} (ha : oB a n) (hb0 : oB b n) (hn : n ≤ 2000) (h1 : ¬ v = -1) (h2 : v < 0 ∨ nI n ≤ v) : MT l yX1_add (.code yX1_add cX1_add 7 (some .int)) 8 132 E [.ref (ad E 0), .int ti, .int ky, .int (oI a), .int (oI b), .int v] M n k "java/lang/IllegalArgumentException" (M) (n) (k) := by
  refine MT.of hst dn (by decide) rfl (Nat.le_of_ble_eq_true rfl) (fun p e s m args below meth c ls Q K z w hl out thr => ?_)
  have hx := K.1.1
  have hb := K.1.2.1
  have hR : 8 ≤ (rmx 8 132).frames ∧ 132 ≤ (rmx 8 132).locals := ⟨Nat.le_refl _, Nat.le_refl _⟩
  have hf : 0 ≤ (rmx 8 132).cells ∧ 0 ≤ (rmx 8 132).slots := ⟨Nat.zero_le _, Nat.zero_le _⟩
  have hl : lv_has ls 7 [(0, .ref (ad E 0)), (1, .int ti), (2, .int ky), (3, .int (oI a)), (4, .int (oI b)), (5, .int v)] := hl
  refine lv_aload_n hx hb dX1_add_0 rfl (lv_at hl 0 rfl) ?_
  refine lv_iload_n hx hb dX1_add_1 rfl (lv_at hl 3 rfl) ?_
  refine callv K w (c_X1_checkParentOrNone dn ha (by omega)) (lk_X1_45 K ⟨Nat.le_trans (Nat.le_of_ble_eq_true rfl) hR.1, Nat.le_trans (Nat.le_of_ble_eq_true rfl) hR.2⟩) (recv0 K w) rfl hl.1 rfl (Nat.le_of_ble_eq_true rfl) dX1_add_2 hf (fun H locs w => ?_)
  refine lv_aload_n hx hb dX1_add_5 rfl (lv_at hl 0 rfl) ?_
  refine lv_iload hx hb dX1_add_6 (lv_at hl 4 rfl) ?_
  refine callv K w (c_X1_checkParentOrNone dn hb0 (by omega)) (lk_X1_45 K ⟨Nat.le_trans (Nat.le_of_ble_eq_true rfl) hR.1, Nat.le_trans (Nat.le_of_ble_eq_true rfl) hR.2⟩) (recv0 K w) rfl hl.1 rfl (Nat.le_of_ble_eq_true rfl) dX1_add_8 hf (fun H locs w => ?_)
  refine lv_aload_n hx hb dX1_add_11 rfl (lv_at hl 0 rfl) ?_
  refine lv_iload hx hb dX1_add_12 (lv_at hl 5 rfl) ?_
  exact callt K z w (t_X1_checkParentOrNone hst dn h1 h2) (lk_X1_45 K ⟨Nat.le_trans (Nat.le_of_ble_eq_true rfl) hR.1, Nat.le_trans (Nat.le_of_ble_eq_true rfl) hR.2⟩) (recv0 K w) rfl hl.1 rfl (Nat.le_of_ble_eq_true rfl) dX1_add_14 ⟨Nat.le_of_ble_eq_true rfl, Nat.le_of_ble_eq_true rfl⟩ out

set_option maxHeartbeats 4000000 in
set_option maxRecDepth 100000 in
theorem t_X1_under_a {l : Launch} {E : En} {M : Mt} {n k : Nat} (hst : l.stackTraces = false) (dn : dN E) {x y : Int32} (h2 : x < 0 ∨ nI n ≤ x) : MT l yX1_under (.code yX1_under cX1_under 3 (some .int)) 7 111 E [.ref (ad E 0), .int x, .int y] M n k "java/lang/IllegalArgumentException" (M) (n) (k) := by
  refine MT.of hst dn (by decide) rfl (Nat.le_of_ble_eq_true rfl) (fun p e s m args below meth c ls Q K z w hl out thr => ?_)
  have hx := K.1.1
  have hb := K.1.2.1
  have hR : 7 ≤ (rmx 7 111).frames ∧ 111 ≤ (rmx 7 111).locals := ⟨Nat.le_refl _, Nat.le_refl _⟩
  have hf : 0 ≤ (rmx 7 111).cells ∧ 0 ≤ (rmx 7 111).slots := ⟨Nat.zero_le _, Nat.zero_le _⟩
  have hl : lv_has ls 3 [(0, .ref (ad E 0)), (1, .int x), (2, .int y)] := hl
  refine lv_aload_n hx hb dX1_under_0 rfl (lv_at hl 0 rfl) ?_
  refine lv_iload_n hx hb dX1_under_1 rfl (lv_at hl 1 rfl) ?_
  exact callt K z w (t_X1_checkCommit hst dn h2) (lk_X1_64 K ⟨Nat.le_trans (Nat.le_of_ble_eq_true rfl) hR.1, Nat.le_trans (Nat.le_of_ble_eq_true rfl) hR.2⟩) (recv0 K w) rfl hl.1 rfl (Nat.le_of_ble_eq_true rfl) dX1_under_2 ⟨Nat.le_of_ble_eq_true rfl, Nat.le_of_ble_eq_true rfl⟩ out

set_option maxHeartbeats 4000000 in
set_option maxRecDepth 100000 in
theorem t_X1_under_b {l : Launch} {E : En} {M : Mt} {n k : Nat} (hst : l.stackTraces = false) (dn : dN E) {q : Nat} {y : Int32} (hq : q < n) (hn : n ≤ 2000) (hx0 : y < 0 ∨ nI q ≤ y) : MT l yX1_under (.code yX1_under cX1_under 3 (some .int)) 7 111 E [.ref (ad E 0), .int (nI q), .int y] M n k "java/lang/IllegalArgumentException" (M) (n) (k) := by
  refine MT.of hst dn (by decide) rfl (Nat.le_of_ble_eq_true rfl) (fun p e s m args below meth c ls Q K z w hl out thr => ?_)
  have hx := K.1.1
  have hb := K.1.2.1
  have hR : 7 ≤ (rmx 7 111).frames ∧ 111 ≤ (rmx 7 111).locals := ⟨Nat.le_refl _, Nat.le_refl _⟩
  have hf : 0 ≤ (rmx 7 111).cells ∧ 0 ≤ (rmx 7 111).slots := ⟨Nat.zero_le _, Nat.zero_le _⟩
  have hl : lv_has ls 3 [(0, .ref (ad E 0)), (1, .int (nI q)), (2, .int y)] := hl
  by_cases h0 : y < 0
  · refine lv_aload_n hx hb dX1_under_0 rfl (lv_at hl 0 rfl) ?_
    refine lv_iload_n hx hb dX1_under_1 rfl (lv_at hl 1 rfl) ?_
    refine callv K w (c_X1_checkCommit dn hq hn) (lk_X1_64 K ⟨Nat.le_trans (Nat.le_of_ble_eq_true rfl) hR.1, Nat.le_trans (Nat.le_of_ble_eq_true rfl) hR.2⟩) (recv0 K w) rfl hl.1 rfl (Nat.le_of_ble_eq_true rfl) dX1_under_2 hf (fun H locs w => ?_)
    refine lv_iload_n hx hb dX1_under_5 rfl (lv_at hl 2 rfl) ?_
    refine lv_if_lt (tgt := 14) hx hb dX1_under_6 rfl (fun _ => ?_) (fun h9 => absurd h0 h9)
    exact thr w xIAE (List.mem_of_getElem? (i := 1) rfl) hl.1 (Nat.le_of_ble_eq_true rfl) (by decide) (by decide) dX1_under_14 dX1_under_17 dX1_under_18 dX1_under_20 dX1_under_23
  · refine lv_aload_n hx hb dX1_under_0 rfl (lv_at hl 0 rfl) ?_
    refine lv_iload_n hx hb dX1_under_1 rfl (lv_at hl 1 rfl) ?_
    refine callv K w (c_X1_checkCommit dn hq hn) (lk_X1_64 K ⟨Nat.le_trans (Nat.le_of_ble_eq_true rfl) hR.1, Nat.le_trans (Nat.le_of_ble_eq_true rfl) hR.2⟩) (recv0 K w) rfl hl.1 rfl (Nat.le_of_ble_eq_true rfl) dX1_under_2 hf (fun H locs w => ?_)
    refine lv_iload_n hx hb dX1_under_5 rfl (lv_at hl 2 rfl) ?_
    refine lv_if_lt (tgt := 14) hx hb dX1_under_6 rfl (fun h9 => absurd h9 h0) (fun _ => ?_)
    refine lv_iload_n hx hb dX1_under_9 rfl (lv_at hl 2 rfl) ?_
    refine lv_iload_n hx hb dX1_under_10 rfl (lv_at hl 1 rfl) ?_
    refine lv_icmp_lt (tgt := 24) hx hb dX1_under_11 rfl (fun h9 => absurd h9 (nlt_or h0 hx0)) (fun _ => ?_)
    exact thr w xIAE (List.mem_of_getElem? (i := 1) rfl) hl.1 (Nat.le_of_ble_eq_true rfl) (by decide) (by decide) dX1_under_14 dX1_under_17 dX1_under_18 dX1_under_20 dX1_under_23

set_option maxHeartbeats 4000000 in
set_option maxRecDepth 100000 in
theorem t_X1_under_c {l : Launch} {E : En} {M : Mt} {n k : Nat} (hst : l.stackTraces = false) (dn : dN E) {q u : Nat} (hq : q < n) (hn : n ≤ 2000) (hu : u < q) (h6 : ¬ M 6 q = 0 ∨ nI 4 ≤ M 4 q) : MT l yX1_under (.code yX1_under cX1_under 3 (some .int)) 7 111 E [.ref (ad E 0), .int (nI q), .int (nI u)] M n k "java/lang/IllegalStateException" (M) (n) (k) := by
  refine MT.of hst dn (by decide) rfl (Nat.le_of_ble_eq_true rfl) (fun p e s m args below meth c ls Q K z w hl out thr => ?_)
  have hx := K.1.1
  have hb := K.1.2.1
  have hR : 7 ≤ (rmx 7 111).frames ∧ 111 ≤ (rmx 7 111).locals := ⟨Nat.le_refl _, Nat.le_refl _⟩
  have hf : 0 ≤ (rmx 7 111).cells ∧ 0 ≤ (rmx 7 111).slots := ⟨Nat.zero_le _, Nat.zero_le _⟩
  have hl : lv_has ls 3 [(0, .ref (ad E 0)), (1, .int (nI q)), (2, .int (nI u))] := hl
  by_cases h0 : M 6 q = 0
  · refine lv_aload_n hx hb dX1_under_0 rfl (lv_at hl 0 rfl) ?_
    refine lv_iload_n hx hb dX1_under_1 rfl (lv_at hl 1 rfl) ?_
    refine callv K w (c_X1_checkCommit dn hq hn) (lk_X1_64 K ⟨Nat.le_trans (Nat.le_of_ble_eq_true rfl) hR.1, Nat.le_trans (Nat.le_of_ble_eq_true rfl) hR.2⟩) (recv0 K w) rfl hl.1 rfl (Nat.le_of_ble_eq_true rfl) dX1_under_2 hf (fun H locs w => ?_)
    refine lv_iload_n hx hb dX1_under_5 rfl (lv_at hl 2 rfl) ?_
    refine lv_if_lt (tgt := 14) hx hb dX1_under_6 rfl (fun h9 => absurd h9 (nI_pos (by omega))) (fun _ => ?_)
    refine lv_iload_n hx hb dX1_under_9 rfl (lv_at hl 2 rfl) ?_
    refine lv_iload_n hx hb dX1_under_10 rfl (lv_at hl 1 rfl) ?_
    refine lv_icmp_lt (tgt := 24) hx hb dX1_under_11 rfl (fun _ => ?_) (fun h9 => absurd (nI_lt hu (by omega)) h9)
    refine lv_aload_n hx hb dX1_under_24 rfl (lv_at hl 0 rfl) ?_
    refine gf_X1_isParent K w dX1_under_25 ?_
    refine lv_iload_n hx hb dX1_under_28 rfl (lv_at hl 1 rfl) ?_
    refine ldZ K w (by omega) dX1_under_29 ?_
    refine lv_if_ne (tgt := 43) hx hb dX1_under_30 rfl (fun h9 => absurd h0 h9) (fun _ => ?_)
    refine lv_aload_n hx hb dX1_under_33 rfl (lv_at hl 0 rfl) ?_
    refine gf_X1_parentCounts K w dX1_under_34 ?_
    refine lv_iload_n hx hb dX1_under_37 rfl (lv_at hl 1 rfl) ?_
    refine ldN K w row4 (by omega) dX1_under_38 ?_
    refine lv_iconst (v := nI 4) hx hb dX1_under_39 (by decide) ?_
    refine lv_icmp_lt (tgt := 53) hx hb dX1_under_40 rfl (fun h9 => absurd h9 (nlt_le (h6.elim (fun h => absurd h0 h) id))) (fun _ => ?_)
    exact thr w xISE (List.mem_of_getElem? (i := 2) rfl) hl.1 (Nat.le_of_ble_eq_true rfl) (by decide) (by decide) dX1_under_43 dX1_under_46 dX1_under_47 dX1_under_49 dX1_under_52
  · refine lv_aload_n hx hb dX1_under_0 rfl (lv_at hl 0 rfl) ?_
    refine lv_iload_n hx hb dX1_under_1 rfl (lv_at hl 1 rfl) ?_
    refine callv K w (c_X1_checkCommit dn hq hn) (lk_X1_64 K ⟨Nat.le_trans (Nat.le_of_ble_eq_true rfl) hR.1, Nat.le_trans (Nat.le_of_ble_eq_true rfl) hR.2⟩) (recv0 K w) rfl hl.1 rfl (Nat.le_of_ble_eq_true rfl) dX1_under_2 hf (fun H locs w => ?_)
    refine lv_iload_n hx hb dX1_under_5 rfl (lv_at hl 2 rfl) ?_
    refine lv_if_lt (tgt := 14) hx hb dX1_under_6 rfl (fun h9 => absurd h9 (nI_pos (by omega))) (fun _ => ?_)
    refine lv_iload_n hx hb dX1_under_9 rfl (lv_at hl 2 rfl) ?_
    refine lv_iload_n hx hb dX1_under_10 rfl (lv_at hl 1 rfl) ?_
    refine lv_icmp_lt (tgt := 24) hx hb dX1_under_11 rfl (fun _ => ?_) (fun h9 => absurd (nI_lt hu (by omega)) h9)
    refine lv_aload_n hx hb dX1_under_24 rfl (lv_at hl 0 rfl) ?_
    refine gf_X1_isParent K w dX1_under_25 ?_
    refine lv_iload_n hx hb dX1_under_28 rfl (lv_at hl 1 rfl) ?_
    refine ldZ K w (by omega) dX1_under_29 ?_
    refine lv_if_ne (tgt := 43) hx hb dX1_under_30 rfl (fun _ => ?_) (fun h9 => absurd h9 h0)
    exact thr w xISE (List.mem_of_getElem? (i := 2) rfl) hl.1 (Nat.le_of_ble_eq_true rfl) (by decide) (by decide) dX1_under_43 dX1_under_46 dX1_under_47 dX1_under_49 dX1_under_52

set_option maxHeartbeats 4000000 in
set_option maxRecDepth 100000 in
theorem t_X1_tip_a {l : Launch} {E : En} {M : Mt} {n k : Nat} (hst : l.stackTraces = false) (dn : dN E) {x y v : Int32} (h2 : x < 0 ∨ nI 2 ≤ x) : MT l yX1_tip (.code yX1_tip cX1_tip 4 none) 7 111 E [.ref (ad E 0), .int x, .int y, .int v] M n k "java/lang/IllegalArgumentException" (M) (n) (k) := by
  refine MT.of hst dn (by decide) rfl (Nat.le_of_ble_eq_true rfl) (fun p e s m args below meth c ls Q K z w hl out thr => ?_)
  have hx := K.1.1
  have hb := K.1.2.1
  have hR : 7 ≤ (rmx 7 111).frames ∧ 111 ≤ (rmx 7 111).locals := ⟨Nat.le_refl _, Nat.le_refl _⟩
  have hf : 0 ≤ (rmx 7 111).cells ∧ 0 ≤ (rmx 7 111).slots := ⟨Nat.zero_le _, Nat.zero_le _⟩
  have hl : lv_has ls 4 [(0, .ref (ad E 0)), (1, .int x), (2, .int y), (3, .int v)] := hl
  refine lv_iload_n hx hb dX1_tip_0 rfl (lv_at hl 1 rfl) ?_
  exact callst K z w (t_X1_checkHolder hst dn h2) (lk_X1_77 K ⟨Nat.le_trans (Nat.le_of_ble_eq_true rfl) hR.1, Nat.le_trans (Nat.le_of_ble_eq_true rfl) hR.2⟩) rfl hl.1 rfl (Nat.le_of_ble_eq_true rfl) dX1_tip_1 ⟨Nat.le_of_ble_eq_true rfl, Nat.le_of_ble_eq_true rfl⟩ out

set_option maxHeartbeats 4000000 in
set_option maxRecDepth 100000 in
theorem t_X1_tip_b {l : Launch} {E : En} {M : Mt} {n k : Nat} (hst : l.stackTraces = false) (dn : dN E) {h : Nat} {y v : Int32} (hh : h < 2) (h2 : y < 0 ∨ nI n ≤ y) : MT l yX1_tip (.code yX1_tip cX1_tip 4 none) 7 111 E [.ref (ad E 0), .int (nI h), .int y, .int v] M n k "java/lang/IllegalArgumentException" (M) (n) (k) := by
  refine MT.of hst dn (by decide) rfl (Nat.le_of_ble_eq_true rfl) (fun p e s m args below meth c ls Q K z w hl out thr => ?_)
  have hx := K.1.1
  have hb := K.1.2.1
  have hR : 7 ≤ (rmx 7 111).frames ∧ 111 ≤ (rmx 7 111).locals := ⟨Nat.le_refl _, Nat.le_refl _⟩
  have hf : 0 ≤ (rmx 7 111).cells ∧ 0 ≤ (rmx 7 111).slots := ⟨Nat.zero_le _, Nat.zero_le _⟩
  have hl : lv_has ls 4 [(0, .ref (ad E 0)), (1, .int (nI h)), (2, .int y), (3, .int v)] := hl
  refine lv_iload_n hx hb dX1_tip_0 rfl (lv_at hl 1 rfl) ?_
  refine callsv K w (c_X1_checkHolder dn hh) (lk_X1_77 K ⟨Nat.le_trans (Nat.le_of_ble_eq_true rfl) hR.1, Nat.le_trans (Nat.le_of_ble_eq_true rfl) hR.2⟩) rfl hl.1 rfl (Nat.le_of_ble_eq_true rfl) dX1_tip_1 hf (fun H locs w => ?_)
  refine lv_aload_n hx hb dX1_tip_4 rfl (lv_at hl 0 rfl) ?_
  refine lv_iload_n hx hb dX1_tip_5 rfl (lv_at hl 2 rfl) ?_
  exact callt K z w (t_X1_checkCommit hst dn h2) (lk_X1_64 K ⟨Nat.le_trans (Nat.le_of_ble_eq_true rfl) hR.1, Nat.le_trans (Nat.le_of_ble_eq_true rfl) hR.2⟩) (recv0 K w) rfl hl.1 rfl (Nat.le_of_ble_eq_true rfl) dX1_tip_6 ⟨Nat.le_of_ble_eq_true rfl, Nat.le_of_ble_eq_true rfl⟩ out

set_option maxHeartbeats 4000000 in
set_option maxRecDepth 100000 in
theorem t_X1_reaches_a {l : Launch} {E : En} {M : Mt} {n k : Nat} (hst : l.stackTraces = false) (dn : dN E) {x y : Int32} (h2 : x < 0 ∨ nI n ≤ x) : MT l yX1_reaches (.code yX1_reaches cX1_reaches 3 (some .boolean)) 7 111 E [.ref (ad E 0), .int x, .int y] M n k "java/lang/IllegalArgumentException" (M) (n) (k) := by
  refine MT.of hst dn (by decide) rfl (Nat.le_of_ble_eq_true rfl) (fun p e s m args below meth c ls Q K z w hl out thr => ?_)
  have hx := K.1.1
  have hb := K.1.2.1
  have hR : 7 ≤ (rmx 7 111).frames ∧ 111 ≤ (rmx 7 111).locals := ⟨Nat.le_refl _, Nat.le_refl _⟩
  have hf : 0 ≤ (rmx 7 111).cells ∧ 0 ≤ (rmx 7 111).slots := ⟨Nat.zero_le _, Nat.zero_le _⟩
  have hl : lv_has ls 3 [(0, .ref (ad E 0)), (1, .int x), (2, .int y)] := hl
  refine lv_aload_n hx hb dX1_reaches_0 rfl (lv_at hl 0 rfl) ?_
  refine lv_iload_n hx hb dX1_reaches_1 rfl (lv_at hl 1 rfl) ?_
  exact callt K z w (t_X1_checkCommit hst dn h2) (lk_X1_64 K ⟨Nat.le_trans (Nat.le_of_ble_eq_true rfl) hR.1, Nat.le_trans (Nat.le_of_ble_eq_true rfl) hR.2⟩) (recv0 K w) rfl hl.1 rfl (Nat.le_of_ble_eq_true rfl) dX1_reaches_2 ⟨Nat.le_of_ble_eq_true rfl, Nat.le_of_ble_eq_true rfl⟩ out

set_option maxHeartbeats 4000000 in
set_option maxRecDepth 100000 in
theorem t_X1_reaches_b {l : Launch} {E : En} {M : Mt} {n k : Nat} (hst : l.stackTraces = false) (dn : dN E) {q : Nat} {y : Int32} (hq : q < n) (hn : n ≤ 2000) (h2 : y < 0 ∨ nI n ≤ y) : MT l yX1_reaches (.code yX1_reaches cX1_reaches 3 (some .boolean)) 7 111 E [.ref (ad E 0), .int (nI q), .int y] M n k "java/lang/IllegalArgumentException" (M) (n) (k) := by
  refine MT.of hst dn (by decide) rfl (Nat.le_of_ble_eq_true rfl) (fun p e s m args below meth c ls Q K z w hl out thr => ?_)
  have hx := K.1.1
  have hb := K.1.2.1
  have hR : 7 ≤ (rmx 7 111).frames ∧ 111 ≤ (rmx 7 111).locals := ⟨Nat.le_refl _, Nat.le_refl _⟩
  have hf : 0 ≤ (rmx 7 111).cells ∧ 0 ≤ (rmx 7 111).slots := ⟨Nat.zero_le _, Nat.zero_le _⟩
  have hl : lv_has ls 3 [(0, .ref (ad E 0)), (1, .int (nI q)), (2, .int y)] := hl
  refine lv_aload_n hx hb dX1_reaches_0 rfl (lv_at hl 0 rfl) ?_
  refine lv_iload_n hx hb dX1_reaches_1 rfl (lv_at hl 1 rfl) ?_
  refine callv K w (c_X1_checkCommit dn hq hn) (lk_X1_64 K ⟨Nat.le_trans (Nat.le_of_ble_eq_true rfl) hR.1, Nat.le_trans (Nat.le_of_ble_eq_true rfl) hR.2⟩) (recv0 K w) rfl hl.1 rfl (Nat.le_of_ble_eq_true rfl) dX1_reaches_2 hf (fun H locs w => ?_)
  refine lv_aload_n hx hb dX1_reaches_5 rfl (lv_at hl 0 rfl) ?_
  refine lv_iload_n hx hb dX1_reaches_6 rfl (lv_at hl 2 rfl) ?_
  exact callt K z w (t_X1_checkCommit hst dn h2) (lk_X1_64 K ⟨Nat.le_trans (Nat.le_of_ble_eq_true rfl) hR.1, Nat.le_trans (Nat.le_of_ble_eq_true rfl) hR.2⟩) (recv0 K w) rfl hl.1 rfl (Nat.le_of_ble_eq_true rfl) dX1_reaches_7 ⟨Nat.le_of_ble_eq_true rfl, Nat.le_of_ble_eq_true rfl⟩ out

set_option maxHeartbeats 4000000 in
set_option maxRecDepth 100000 in
theorem t_X1_told_a {l : Launch} {E : En} {M : Mt} {n k : Nat} (hst : l.stackTraces = false) (dn : dN E) {x y : Int32} (h2 : x < 0 ∨ nI n ≤ x) : MT l yX1_told (.code yX1_told cX1_told 3 (some .int)) 7 111 E [.ref (ad E 0), .int x, .int y] M n k "java/lang/IllegalArgumentException" (M) (n) (k) := by
  refine MT.of hst dn (by decide) rfl (Nat.le_of_ble_eq_true rfl) (fun p e s m args below meth c ls Q K z w hl out thr => ?_)
  have hx := K.1.1
  have hb := K.1.2.1
  have hR : 7 ≤ (rmx 7 111).frames ∧ 111 ≤ (rmx 7 111).locals := ⟨Nat.le_refl _, Nat.le_refl _⟩
  have hf : 0 ≤ (rmx 7 111).cells ∧ 0 ≤ (rmx 7 111).slots := ⟨Nat.zero_le _, Nat.zero_le _⟩
  have hl : lv_has ls 3 [(0, .ref (ad E 0)), (1, .int x), (2, .int y)] := hl
  refine lv_aload_n hx hb dX1_told_0 rfl (lv_at hl 0 rfl) ?_
  refine lv_iload_n hx hb dX1_told_1 rfl (lv_at hl 1 rfl) ?_
  exact callt K z w (t_X1_checkCommit hst dn h2) (lk_X1_64 K ⟨Nat.le_trans (Nat.le_of_ble_eq_true rfl) hR.1, Nat.le_trans (Nat.le_of_ble_eq_true rfl) hR.2⟩) (recv0 K w) rfl hl.1 rfl (Nat.le_of_ble_eq_true rfl) dX1_told_2 ⟨Nat.le_of_ble_eq_true rfl, Nat.le_of_ble_eq_true rfl⟩ out

set_option maxHeartbeats 4000000 in
set_option maxRecDepth 100000 in
theorem t_X1_told_b {l : Launch} {E : En} {M : Mt} {n k : Nat} (hst : l.stackTraces = false) (dn : dN E) {q : Nat} {y : Int32} (hq : q < n) (hn : n ≤ 2000) (hy : y.toInt < 0 ∨ 4 < y.toInt) : MT l yX1_told (.code yX1_told cX1_told 3 (some .int)) 7 111 E [.ref (ad E 0), .int (nI q), .int y] M n k "java/lang/IllegalArgumentException" (M) (n) (k) := by
  refine MT.of hst dn (by decide) rfl (Nat.le_of_ble_eq_true rfl) (fun p e s m args below meth c ls Q K z w hl out thr => ?_)
  have hx := K.1.1
  have hb := K.1.2.1
  have hR : 7 ≤ (rmx 7 111).frames ∧ 111 ≤ (rmx 7 111).locals := ⟨Nat.le_refl _, Nat.le_refl _⟩
  have hf : 0 ≤ (rmx 7 111).cells ∧ 0 ≤ (rmx 7 111).slots := ⟨Nat.zero_le _, Nat.zero_le _⟩
  have hl : lv_has ls 3 [(0, .ref (ad E 0)), (1, .int (nI q)), (2, .int y)] := hl
  refine lv_aload_n hx hb dX1_told_0 rfl (lv_at hl 0 rfl) ?_
  refine lv_iload_n hx hb dX1_told_1 rfl (lv_at hl 1 rfl) ?_
  refine callv K w (c_X1_checkCommit dn hq hn) (lk_X1_64 K ⟨Nat.le_trans (Nat.le_of_ble_eq_true rfl) hR.1, Nat.le_trans (Nat.le_of_ble_eq_true rfl) hR.2⟩) (recv0 K w) rfl hl.1 rfl (Nat.le_of_ble_eq_true rfl) dX1_told_2 hf (fun H locs w => ?_)
  refine lv_iload_n hx hb dX1_told_5 rfl (lv_at hl 2 rfl) ?_
  refine lv_tableOut (tgt := 78) hx hb dX1_told_6 hy rfl ?_
  exact thr w xIAE (List.mem_of_getElem? (i := 5) rfl) hl.1 (Nat.le_of_ble_eq_true rfl) (by decide) (by decide) dX1_told_78 dX1_told_81 dX1_told_82 dX1_told_84 dX1_told_87
end
section
set_option maxHeartbeats 4000000 in
set_option maxRecDepth 100000 in
theorem t_X1_queuedAt {l : Launch} {E : En} {M : Mt} {n k : Nat} (hst : l.stackTraces = false) (dn : dN E) {x : Int32} (h1 : ¬ x = -1) (h2 : x < 0 ∨ nI k ≤ x) : MT l yX1_queuedAt (.code yX1_queuedAt cX1_queuedAt 3 (some .int)) 7 111 E [.ref (ad E 0), .int x] M n k "java/util/NoSuchElementException" (M) (n) (k) := by
  refine MT.of hst dn (by decide) rfl (Nat.le_of_ble_eq_true rfl) (fun p e s m args below meth c ls Q K z w hl out thr => ?_)
  have hx := K.1.1
  have hb := K.1.2.1
  have hR : 7 ≤ (rmx 7 111).frames ∧ 111 ≤ (rmx 7 111).locals := ⟨Nat.le_refl _, Nat.le_refl _⟩
  have hf : 0 ≤ (rmx 7 111).cells ∧ 0 ≤ (rmx 7 111).slots := ⟨Nat.zero_le _, Nat.zero_le _⟩
  have hl : lv_has ls 3 [(0, .ref (ad E 0)), (1, .int x)] := hl
  refine lv_iload_n hx hb dX1_queuedAt_0 rfl (lv_at hl 1 rfl) ?_
  refine lv_iconst (v := -1) hx hb dX1_queuedAt_1 (by decide) ?_
  refine lv_icmp_ne (tgt := 13) hx hb dX1_queuedAt_2 rfl (fun _ => ?_) (fun h9 => absurd h9 h1)
  refine lv_iload_n hx hb dX1_queuedAt_13 rfl (lv_at hl 1 rfl) ?_
  refine lv_aload_n hx hb dX1_queuedAt_14 rfl (lv_at hl 0 rfl) ?_
  refine gf_X1_queue K w dX1_queuedAt_15 ?_
  refine calli K w (c_X0_size dn) (lk_X1_167 K ⟨Nat.le_trans (Nat.le_of_ble_eq_true rfl) hR.1, Nat.le_trans (Nat.le_of_ble_eq_true rfl) hR.2⟩) (recv10 K w) rfl hl.1 rfl (Nat.le_of_ble_eq_true rfl) dX1_queuedAt_18 hf (fun H locs w => ?_)
  exact callst K z w (t_X1_checkPlace hst dn h2) (lk_X1_106 K ⟨Nat.le_trans (Nat.le_of_ble_eq_true rfl) hR.1, Nat.le_trans (Nat.le_of_ble_eq_true rfl) hR.2⟩) rfl hl.1 rfl (Nat.le_of_ble_eq_true rfl) dX1_queuedAt_21 ⟨Nat.le_of_ble_eq_true rfl, Nat.le_of_ble_eq_true rfl⟩ out

set_option maxHeartbeats 4000000 in
set_option maxRecDepth 100000 in
theorem t_X1_base_a {l : Launch} {E : En} {M : Mt} {n k : Nat} (hst : l.stackTraces = false) (dn : dN E) {x y v : Int32} (h2 : x < 0 ∨ nI n ≤ x) : MT l yX1_base (.code yX1_base cX1_base 5 (some .int)) 8 133 E [.ref (ad E 0), .int x, .int y, .int v] M n k "java/lang/IllegalArgumentException" (M) (n) (k) := by
  refine MT.of hst dn (by decide) rfl (Nat.le_of_ble_eq_true rfl) (fun p e s m args below meth c ls Q K z w hl out thr => ?_)
  have hx := K.1.1
  have hb := K.1.2.1
  have hR : 8 ≤ (rmx 8 133).frames ∧ 133 ≤ (rmx 8 133).locals := ⟨Nat.le_refl _, Nat.le_refl _⟩
  have hf : 0 ≤ (rmx 8 133).cells ∧ 0 ≤ (rmx 8 133).slots := ⟨Nat.zero_le _, Nat.zero_le _⟩
  have hl : lv_has ls 5 [(0, .ref (ad E 0)), (1, .int x), (2, .int y), (3, .int v)] := hl
  refine lv_aload_n hx hb dX1_base_0 rfl (lv_at hl 0 rfl) ?_
  refine lv_iload_n hx hb dX1_base_1 rfl (lv_at hl 1 rfl) ?_
  exact callt K z w (t_X1_checkCommit hst dn h2) (lk_X1_64 K ⟨Nat.le_trans (Nat.le_of_ble_eq_true rfl) hR.1, Nat.le_trans (Nat.le_of_ble_eq_true rfl) hR.2⟩) (recv0 K w) rfl hl.1 rfl (Nat.le_of_ble_eq_true rfl) dX1_base_2 ⟨Nat.le_of_ble_eq_true rfl, Nat.le_of_ble_eq_true rfl⟩ out

set_option maxHeartbeats 4000000 in
set_option maxRecDepth 100000 in
theorem t_X1_base_b {l : Launch} {E : En} {M : Mt} {n k : Nat} (hst : l.stackTraces = false) (dn : dN E) {a : Nat} {y v : Int32} (ha : a < n) (ok : okN M n) (h2 : y < 0 ∨ nI n ≤ y) : MT l yX1_base (.code yX1_base cX1_base 5 (some .int)) 8 133 E [.ref (ad E 0), .int (nI a), .int y, .int v] M n k "java/lang/IllegalArgumentException" (M) (n) (k) := by
  refine MT.of hst dn (by decide) rfl (Nat.le_of_ble_eq_true rfl) (fun p e s m args below meth c ls Q K z w hl out thr => ?_)
  have hx := K.1.1
  have hb := K.1.2.1
  have hR : 8 ≤ (rmx 8 133).frames ∧ 133 ≤ (rmx 8 133).locals := ⟨Nat.le_refl _, Nat.le_refl _⟩
  have hf : 0 ≤ (rmx 8 133).cells ∧ 0 ≤ (rmx 8 133).slots := ⟨Nat.zero_le _, Nat.zero_le _⟩
  have hl : lv_has ls 5 [(0, .ref (ad E 0)), (1, .int (nI a)), (2, .int y), (3, .int v)] := hl
  refine lv_aload_n hx hb dX1_base_0 rfl (lv_at hl 0 rfl) ?_
  refine lv_iload_n hx hb dX1_base_1 rfl (lv_at hl 1 rfl) ?_
  refine callv K w (c_X1_checkCommit dn ha ok.1) (lk_X1_64 K ⟨Nat.le_trans (Nat.le_of_ble_eq_true rfl) hR.1, Nat.le_trans (Nat.le_of_ble_eq_true rfl) hR.2⟩) (recv0 K w) rfl hl.1 rfl (Nat.le_of_ble_eq_true rfl) dX1_base_2 hf (fun H locs w => ?_)
  refine lv_aload_n hx hb dX1_base_5 rfl (lv_at hl 0 rfl) ?_
  refine lv_iload_n hx hb dX1_base_6 rfl (lv_at hl 2 rfl) ?_
  exact callt K z w (t_X1_checkCommit hst dn h2) (lk_X1_64 K ⟨Nat.le_trans (Nat.le_of_ble_eq_true rfl) hR.1, Nat.le_trans (Nat.le_of_ble_eq_true rfl) hR.2⟩) (recv0 K w) rfl hl.1 rfl (Nat.le_of_ble_eq_true rfl) dX1_base_7 ⟨Nat.le_of_ble_eq_true rfl, Nat.le_of_ble_eq_true rfl⟩ out

set_option maxHeartbeats 4000000 in
set_option maxRecDepth 100000 in
theorem t_X1_base_c {l : Launch} {E : En} {M : Mt} {n k : Nat} (hst : l.stackTraces = false) (dn : dN E) {a b : Nat} {v : Int32} (ha : a < n) (hb0 : b < n) (ok : okN M n) (h1 : ¬ v = -1) (h2 : v < 0 ∨ nI (baU M n a b).2 ≤ v) : MT l yX1_base (.code yX1_base cX1_base 5 (some .int)) 8 133 E [.ref (ad E 0), .int (nI a), .int (nI b), .int v] M n k "java/util/NoSuchElementException" ((baU M n a b).1) (n) ((baU M n a b).2) := by
  refine MT.of hst dn (by decide) rfl (Nat.le_of_ble_eq_true rfl) (fun p e s m args below meth c ls Q K z w hl out thr => ?_)
  have hx := K.1.1
  have hb := K.1.2.1
  have hR : 8 ≤ (rmx 8 133).frames ∧ 133 ≤ (rmx 8 133).locals := ⟨Nat.le_refl _, Nat.le_refl _⟩
  have hf : 0 ≤ (rmx 8 133).cells ∧ 0 ≤ (rmx 8 133).slots := ⟨Nat.zero_le _, Nat.zero_le _⟩
  have hl : lv_has ls 5 [(0, .ref (ad E 0)), (1, .int (nI a)), (2, .int (nI b)), (3, .int v)] := hl
  have hn := ok.1
  refine lv_aload_n hx hb dX1_base_0 rfl (lv_at hl 0 rfl) ?_
  refine lv_iload_n hx hb dX1_base_1 rfl (lv_at hl 1 rfl) ?_
  refine callv K w (c_X1_checkCommit dn ha ok.1) (lk_X1_64 K ⟨Nat.le_trans (Nat.le_of_ble_eq_true rfl) hR.1, Nat.le_trans (Nat.le_of_ble_eq_true rfl) hR.2⟩) (recv0 K w) rfl hl.1 rfl (Nat.le_of_ble_eq_true rfl) dX1_base_2 hf (fun H locs w => ?_)
  refine lv_aload_n hx hb dX1_base_5 rfl (lv_at hl 0 rfl) ?_
  refine lv_iload_n hx hb dX1_base_6 rfl (lv_at hl 2 rfl) ?_
  refine callv K w (c_X1_checkCommit dn hb0 ok.1) (lk_X1_64 K ⟨Nat.le_trans (Nat.le_of_ble_eq_true rfl) hR.1, Nat.le_trans (Nat.le_of_ble_eq_true rfl) hR.2⟩) (recv0 K w) rfl hl.1 rfl (Nat.le_of_ble_eq_true rfl) dX1_base_7 hf (fun H locs w => ?_)
  refine lv_aload_n hx hb dX1_base_10 rfl (lv_at hl 0 rfl) ?_
  refine callv K w (c_X1_clearMarks dn ok.1) (lk_X1_87 K ⟨Nat.le_trans (Nat.le_of_ble_eq_true rfl) hR.1, Nat.le_trans (Nat.le_of_ble_eq_true rfl) hR.2⟩) (recv0 K w) rfl hl.1 rfl (Nat.le_of_ble_eq_true rfl) dX1_base_11 hf (fun H locs w => ?_)
  refine lv_aload_n hx hb dX1_base_14 rfl (lv_at hl 0 rfl) ?_
  refine gf_X1_marks K w dX1_base_15 ?_
  refine lv_iload_n hx hb dX1_base_18 rfl (lv_at hl 1 rfl) ?_
  refine lv_dup2_11 hx hb dX1_base_19 rfl rfl ?_
  refine ldN K w row8 (by omega) dX1_base_20 ?_
  refine lv_iconst (v := nI 1) hx hb dX1_base_21 (by decide) ?_
  refine lv_ior hx hb dX1_base_22 ?_
  refine stN K w row8 (by omega) dX1_base_23 (fun H locs w => ?_)
  refine lv_aload_n hx hb dX1_base_24 rfl (lv_at hl 0 rfl) ?_
  refine gf_X1_marks K w dX1_base_25 ?_
  refine lv_iload_n hx hb dX1_base_28 rfl (lv_at hl 2 rfl) ?_
  refine lv_dup2_11 hx hb dX1_base_29 rfl rfl ?_
  refine ldN K w row8 (by omega) dX1_base_30 ?_
  refine lv_iconst (v := nI 2) hx hb dX1_base_31 (by decide) ?_
  refine lv_ior hx hb dX1_base_32 ?_
  refine stN K w row8 (by omega) dX1_base_33 (fun H locs w => ?_)
  refine lv_aload_n hx hb dX1_base_34 rfl (lv_at hl 0 rfl) ?_
  refine callv K w (c_X1_spreadMarks dn (ok.rows (clF_row (by decide)) (clF_row (by decide)))) (lk_X1_90 K ⟨Nat.le_trans (Nat.le_of_ble_eq_true rfl) hR.1, Nat.le_trans (Nat.le_of_ble_eq_true rfl) hR.2⟩) (recv0 K w) rfl hl.1 rfl (Nat.le_of_ble_eq_true rfl) dX1_base_35 hf (fun H locs w => ?_)
  refine lv_aload_n hx hb dX1_base_38 rfl (lv_at hl 0 rfl) ?_
  refine gf_X1_queue K w dX1_base_39 ?_
  refine callv K w (c_X0_clear dn) (lk_X1_93 K ⟨Nat.le_trans (Nat.le_of_ble_eq_true rfl) hR.1, Nat.le_trans (Nat.le_of_ble_eq_true rfl) hR.2⟩) (recv10 K w) rfl hl.1 rfl (Nat.le_of_ble_eq_true rfl) dX1_base_42 hf (fun H locs w => ?_)
  refine lv_iconst (v := nI 0) hx hb dX1_base_45 (by decide) ?_
  refine lv_istore (lv' := [(4, .int _), (0, .ref _), (1, .int _), (2, .int _), (3, .int _)]) hx hb dX1_base_46 hl (by decide) rfl (fun ls hl => ?_)
  refine lp_base K ⟨Nat.le_trans (Nat.le_of_ble_eq_true rfl) hR.1, Nat.le_trans (Nat.le_of_ble_eq_true rfl) hR.2⟩ hf ok.1 (fun H locs ls w hl => ?_) n 0 (bmF M n a b) 0 _ _ _ (by omega) (by decide) rfl w (lv_sub hl [0, 4, 1] rfl)
  refine lv_aload_n hx hb dX1_base_80 rfl (lv_at hl 1 rfl) ?_
  refine lv_iload_n hx hb dX1_base_81 rfl (lv_at hl 0 rfl) ?_
  exact callt K z w (t_X1_queuedAt hst dn h1 h2) (lk_X1_99 K ⟨Nat.le_trans (Nat.le_of_ble_eq_true rfl) hR.1, Nat.le_trans (Nat.le_of_ble_eq_true rfl) hR.2⟩) (recv0 K w) rfl hl.1 rfl (Nat.le_of_ble_eq_true rfl) dX1_base_82 ⟨Nat.le_of_ble_eq_true rfl, Nat.le_of_ble_eq_true rfl⟩ out

set_option maxHeartbeats 4000000 in
set_option maxRecDepth 100000 in
theorem t_X1_sent_a {l : Launch} {E : En} {M : Mt} {n k : Nat} (hst : l.stackTraces = false) (dn : dN E) {x v : Int32} (h2 : x < 0 ∨ nI 2 ≤ x) : MT l yX1_sent (.code yX1_sent cX1_sent 4 (some .int)) 8 133 E [.ref (ad E 0), .int x, .int v] M n k "java/lang/IllegalArgumentException" (M) (n) (k) := by
  refine MT.of hst dn (by decide) rfl (Nat.le_of_ble_eq_true rfl) (fun p e s m args below meth c ls Q K z w hl out thr => ?_)
  have hx := K.1.1
  have hb := K.1.2.1
  have hR : 8 ≤ (rmx 8 133).frames ∧ 133 ≤ (rmx 8 133).locals := ⟨Nat.le_refl _, Nat.le_refl _⟩
  have hf : 0 ≤ (rmx 8 133).cells ∧ 0 ≤ (rmx 8 133).slots := ⟨Nat.zero_le _, Nat.zero_le _⟩
  have hl : lv_has ls 4 [(0, .ref (ad E 0)), (1, .int x), (2, .int v)] := hl
  refine lv_iload_n hx hb dX1_sent_0 rfl (lv_at hl 1 rfl) ?_
  exact callst K z w (t_X1_checkHolder hst dn h2) (lk_X1_77 K ⟨Nat.le_trans (Nat.le_of_ble_eq_true rfl) hR.1, Nat.le_trans (Nat.le_of_ble_eq_true rfl) hR.2⟩) rfl hl.1 rfl (Nat.le_of_ble_eq_true rfl) dX1_sent_1 ⟨Nat.le_of_ble_eq_true rfl, Nat.le_of_ble_eq_true rfl⟩ out

set_option maxHeartbeats 4000000 in
set_option maxRecDepth 100000 in
theorem t_X1_sent_b {l : Launch} {E : En} {M : Mt} {n k : Nat} (hst : l.stackTraces = false) (dn : dN E) {h : Nat} {v : Int32} (hh : h < 2) (ok : okN M n) (h1 : ¬ v = -1) (h2 : v < 0 ∨ nI (snU M n h).2 ≤ v) : MT l yX1_sent (.code yX1_sent cX1_sent 4 (some .int)) 8 133 E [.ref (ad E 0), .int (nI h), .int v] M n k "java/util/NoSuchElementException" ((snU M n h).1) (n) ((snU M n h).2) := by
  refine MT.of hst dn (by decide) rfl (Nat.le_of_ble_eq_true rfl) (fun p e s m args below meth c ls Q K z w hl out thr => ?_)
  have hx := K.1.1
  have hb := K.1.2.1
  have hR : 8 ≤ (rmx 8 133).frames ∧ 133 ≤ (rmx 8 133).locals := ⟨Nat.le_refl _, Nat.le_refl _⟩
  have hf : 0 ≤ (rmx 8 133).cells ∧ 0 ≤ (rmx 8 133).slots := ⟨Nat.zero_le _, Nat.zero_le _⟩
  have hl : lv_has ls 4 [(0, .ref (ad E 0)), (1, .int (nI h)), (2, .int v)] := hl
  have hn := ok.1
  refine lv_iload_n hx hb dX1_sent_0 rfl (lv_at hl 1 rfl) ?_
  refine callsv K w (c_X1_checkHolder dn hh) (lk_X1_77 K ⟨Nat.le_trans (Nat.le_of_ble_eq_true rfl) hR.1, Nat.le_trans (Nat.le_of_ble_eq_true rfl) hR.2⟩) rfl hl.1 rfl (Nat.le_of_ble_eq_true rfl) dX1_sent_1 hf (fun H locs w => ?_)
  refine lv_aload_n hx hb dX1_sent_4 rfl (lv_at hl 0 rfl) ?_
  refine callv K w (c_X1_markHeld dn ok) (lk_X1_123 K ⟨Nat.le_trans (Nat.le_of_ble_eq_true rfl) hR.1, Nat.le_trans (Nat.le_of_ble_eq_true rfl) hR.2⟩) (recv0 K w) rfl hl.1 rfl (Nat.le_of_ble_eq_true rfl) dX1_sent_5 hf (fun H locs w => ?_)
  refine lv_aload_n hx hb dX1_sent_8 rfl (lv_at hl 0 rfl) ?_
  refine gf_X1_queue K w dX1_sent_9 ?_
  refine callv K w (c_X0_clear dn) (lk_X1_93 K ⟨Nat.le_trans (Nat.le_of_ble_eq_true rfl) hR.1, Nat.le_trans (Nat.le_of_ble_eq_true rfl) hR.2⟩) (recv10 K w) rfl hl.1 rfl (Nat.le_of_ble_eq_true rfl) dX1_sent_12 hf (fun H locs w => ?_)
  refine lv_iconst (v := nI 0) hx hb dX1_sent_15 (by decide) ?_
  refine lv_istore_n (lv' := [(3, .int _), (0, .ref _), (1, .int _), (2, .int _)]) hx hb dX1_sent_16 rfl hl (by decide) rfl (fun ls hl => ?_)
  refine lp_sent K ⟨Nat.le_trans (Nat.le_of_ble_eq_true rfl) hR.1, Nat.le_trans (Nat.le_of_ble_eq_true rfl) hR.2⟩ hf (by omega) ok.1 (fun H locs ls w hl => ?_) n 0 (hlF M n) 0 _ _ _ (by omega) (by decide) rfl w (lv_sub hl [0, 3, 2, 1] rfl)
  refine lv_aload_n hx hb dX1_sent_64 rfl (lv_at hl 1 rfl) ?_
  refine lv_iload_n hx hb dX1_sent_65 rfl (lv_at hl 0 rfl) ?_
  exact callt K z w (t_X1_queuedAt hst dn h1 h2) (lk_X1_99 K ⟨Nat.le_trans (Nat.le_of_ble_eq_true rfl) hR.1, Nat.le_trans (Nat.le_of_ble_eq_true rfl) hR.2⟩) (recv0 K w) rfl hl.1 rfl (Nat.le_of_ble_eq_true rfl) dX1_sent_66 ⟨Nat.le_of_ble_eq_true rfl, Nat.le_of_ble_eq_true rfl⟩ out

set_option maxHeartbeats 4000000 in
set_option maxRecDepth 100000 in
theorem t_X1_log_a {l : Launch} {E : En} {M : Mt} {n k : Nat} (hst : l.stackTraces = false) (dn : dN E) {x v : Int32} (h2 : x < 0 ∨ nI n ≤ x) : MT l yX1_log (.code yX1_log cX1_log 4 (some .int)) 7 111 E [.ref (ad E 0), .int x, .int v] M n k "java/lang/IllegalArgumentException" (M) (n) (k) := by
  refine MT.of hst dn (by decide) rfl (Nat.le_of_ble_eq_true rfl) (fun p e s m args below meth c ls Q K z w hl out thr => ?_)
  have hx := K.1.1
  have hb := K.1.2.1
  have hR : 7 ≤ (rmx 7 111).frames ∧ 111 ≤ (rmx 7 111).locals := ⟨Nat.le_refl _, Nat.le_refl _⟩
  have hf : 0 ≤ (rmx 7 111).cells ∧ 0 ≤ (rmx 7 111).slots := ⟨Nat.zero_le _, Nat.zero_le _⟩
  have hl : lv_has ls 4 [(0, .ref (ad E 0)), (1, .int x), (2, .int v)] := hl
  refine lv_aload_n hx hb dX1_log_0 rfl (lv_at hl 0 rfl) ?_
  refine lv_iload_n hx hb dX1_log_1 rfl (lv_at hl 1 rfl) ?_
  exact callt K z w (t_X1_checkCommit hst dn h2) (lk_X1_64 K ⟨Nat.le_trans (Nat.le_of_ble_eq_true rfl) hR.1, Nat.le_trans (Nat.le_of_ble_eq_true rfl) hR.2⟩) (recv0 K w) rfl hl.1 rfl (Nat.le_of_ble_eq_true rfl) dX1_log_2 ⟨Nat.le_of_ble_eq_true rfl, Nat.le_of_ble_eq_true rfl⟩ out

set_option maxHeartbeats 4000000 in
set_option maxRecDepth 100000 in
theorem t_X1_log_b {l : Launch} {E : En} {M : Mt} {n k : Nat} (hst : l.stackTraces = false) (dn : dN E) {q : Nat} {v : Int32} (hq : q < n) (ok : okN M n) (h1 : ¬ v = -1) (h2 : v < 0 ∨ nI (cnF (fun i => decide (¬ mrF M n q 8 i = 0)) n 0 0) ≤ v) : MT l yX1_log (.code yX1_log cX1_log 4 (some .int)) 7 111 E [.ref (ad E 0), .int (nI q), .int v] M n k "java/util/NoSuchElementException" (mrF M n q) (n) (k) := by
  refine MT.of hst dn (by decide) rfl (Nat.le_of_ble_eq_true rfl) (fun p e s m args below meth c ls Q K z w hl out thr => ?_)
  have hx := K.1.1
  have hb := K.1.2.1
  have hR : 7 ≤ (rmx 7 111).frames ∧ 111 ≤ (rmx 7 111).locals := ⟨Nat.le_refl _, Nat.le_refl _⟩
  have hf : 0 ≤ (rmx 7 111).cells ∧ 0 ≤ (rmx 7 111).slots := ⟨Nat.zero_le _, Nat.zero_le _⟩
  have hl : lv_has ls 4 [(0, .ref (ad E 0)), (1, .int (nI q)), (2, .int v)] := hl
  refine lv_aload_n hx hb dX1_log_0 rfl (lv_at hl 0 rfl) ?_
  refine lv_iload_n hx hb dX1_log_1 rfl (lv_at hl 1 rfl) ?_
  refine callv K w (c_X1_checkCommit dn hq ok.1) (lk_X1_64 K ⟨Nat.le_trans (Nat.le_of_ble_eq_true rfl) hR.1, Nat.le_trans (Nat.le_of_ble_eq_true rfl) hR.2⟩) (recv0 K w) rfl hl.1 rfl (Nat.le_of_ble_eq_true rfl) dX1_log_2 hf (fun H locs w => ?_)
  refine lv_aload_n hx hb dX1_log_5 rfl (lv_at hl 0 rfl) ?_
  refine lv_iload_n hx hb dX1_log_6 rfl (lv_at hl 1 rfl) ?_
  refine callv K w (c_X1_markReachable dn hq ok) (lk_X1_84 K ⟨Nat.le_trans (Nat.le_of_ble_eq_true rfl) hR.1, Nat.le_trans (Nat.le_of_ble_eq_true rfl) hR.2⟩) (recv0 K w) rfl hl.1 rfl (Nat.le_of_ble_eq_true rfl) dX1_log_7 hf (fun H locs w => ?_)
  refine lv_aload_n hx hb dX1_log_10 rfl (lv_at hl 0 rfl) ?_
  refine calli K w (c_X1_markedCommits dn ok.1) (lk_X1_102 K ⟨Nat.le_trans (Nat.le_of_ble_eq_true rfl) hR.1, Nat.le_trans (Nat.le_of_ble_eq_true rfl) hR.2⟩) (recv0 K w) rfl hl.1 rfl (Nat.le_of_ble_eq_true rfl) dX1_log_11 hf (fun H locs w => ?_)
  refine lv_istore_n (lv' := [(3, .int _), (0, .ref _), (1, .int _), (2, .int _)]) hx hb dX1_log_14 rfl hl (by decide) rfl (fun ls hl => ?_)
  refine lv_iload_n hx hb dX1_log_15 rfl (lv_at hl 3 rfl) ?_
  refine lv_iconst (v := -1) hx hb dX1_log_16 (by decide) ?_
  refine lv_icmp_ne (tgt := 22) hx hb dX1_log_17 rfl (fun _ => ?_) (fun h9 => absurd h9 h1)
  refine lv_iload_n hx hb dX1_log_22 rfl (lv_at hl 3 rfl) ?_
  refine lv_iload_n hx hb dX1_log_23 rfl (lv_at hl 0 rfl) ?_
  exact callst K z w (t_X1_checkPlace hst dn h2) (lk_X1_106 K ⟨Nat.le_trans (Nat.le_of_ble_eq_true rfl) hR.1, Nat.le_trans (Nat.le_of_ble_eq_true rfl) hR.2⟩) rfl hl.1 rfl (Nat.le_of_ble_eq_true rfl) dX1_log_24 ⟨Nat.le_of_ble_eq_true rfl, Nat.le_of_ble_eq_true rfl⟩ out
end
section
set_option maxHeartbeats 4000000 in
set_option maxRecDepth 100000 in
theorem c_X1_told_0 {l : Launch} {E : En} {M : Mt} {n k : Nat} (dn : dN E) {q : Nat} (hq : q < n) (hn : n ≤ 2000) : MI l yX1_told (.code yX1_told cX1_told 3 (some .int)) 1 21 E [.ref (ad E 0), .int (nI q), .int (nI 0)] M n k (M 1 q)  (M) (n) (k) := by
  refine MI.of dn (own := RX1) (by decide) rfl (Nat.le_of_ble_eq_true rfl) (fun p e s m args below meth c ls Q K w hl ret => ?_)
  have hx := K.1.1
  have hb := K.1.2.1
  have hR : 1 ≤ (rmA 1 21).frames ∧ 21 ≤ (rmA 1 21).locals := ⟨Nat.le_refl _, Nat.le_refl _⟩
  have hf : 0 ≤ (rmA 1 21).cells ∧ 0 ≤ (rmA 1 21).slots := ⟨Nat.le_refl _, Nat.le_refl _⟩
  have hl : lv_has ls 3 [(0, .ref (ad E 0)), (1, .int (nI q)), (2, .int (nI 0))] := hl
  refine lv_aload_n hx hb dX1_told_0 rfl (lv_at hl 0 rfl) ?_
  refine lv_iload_n hx hb dX1_told_1 rfl (lv_at hl 1 rfl) ?_
  refine callv K w (c_X1_checkCommit dn hq hn) (lk_X1_64 K ⟨Nat.le_trans (Nat.le_of_ble_eq_true rfl) hR.1, Nat.le_trans (Nat.le_of_ble_eq_true rfl) hR.2⟩) (recv0 K w) rfl hl.1 rfl (Nat.le_of_ble_eq_true rfl) dX1_told_2 hf (fun H locs w => ?_)
  refine lv_iload_n hx hb dX1_told_5 rfl (lv_at hl 2 rfl) ?_
  refine lv_tableIn (off := 34) (tgt := 40) hx hb dX1_told_6 (by decide) (by decide) (by decide) rfl ?_
  refine lv_aload_n hx hb dX1_told_40 rfl (lv_at hl 0 rfl) ?_
  refine gf_X1_times K w dX1_told_41 ?_
  refine lv_iload_n hx hb dX1_told_44 rfl (lv_at hl 1 rfl) ?_
  refine ldN K w row1 (by omega) dX1_told_45 ?_
  exact ret w rfl dX1_told_46

set_option maxHeartbeats 4000000 in
set_option maxRecDepth 100000 in
theorem c_X1_told_1 {l : Launch} {E : En} {M : Mt} {n k : Nat} (dn : dN E) {q : Nat} (hq : q < n) (hn : n ≤ 2000) : MI l yX1_told (.code yX1_told cX1_told 3 (some .int)) 1 21 E [.ref (ad E 0), .int (nI q), .int (nI 1)] M n k (M 2 q)  (M) (n) (k) := by
  refine MI.of dn (own := RX1) (by decide) rfl (Nat.le_of_ble_eq_true rfl) (fun p e s m args below meth c ls Q K w hl ret => ?_)
  have hx := K.1.1
  have hb := K.1.2.1
  have hR : 1 ≤ (rmA 1 21).frames ∧ 21 ≤ (rmA 1 21).locals := ⟨Nat.le_refl _, Nat.le_refl _⟩
  have hf : 0 ≤ (rmA 1 21).cells ∧ 0 ≤ (rmA 1 21).slots := ⟨Nat.le_refl _, Nat.le_refl _⟩
  have hl : lv_has ls 3 [(0, .ref (ad E 0)), (1, .int (nI q)), (2, .int (nI 1))] := hl
  refine lv_aload_n hx hb dX1_told_0 rfl (lv_at hl 0 rfl) ?_
  refine lv_iload_n hx hb dX1_told_1 rfl (lv_at hl 1 rfl) ?_
  refine callv K w (c_X1_checkCommit dn hq hn) (lk_X1_64 K ⟨Nat.le_trans (Nat.le_of_ble_eq_true rfl) hR.1, Nat.le_trans (Nat.le_of_ble_eq_true rfl) hR.2⟩) (recv0 K w) rfl hl.1 rfl (Nat.le_of_ble_eq_true rfl) dX1_told_2 hf (fun H locs w => ?_)
  refine lv_iload_n hx hb dX1_told_5 rfl (lv_at hl 2 rfl) ?_
  refine lv_tableIn (off := 41) (tgt := 47) hx hb dX1_told_6 (by decide) (by decide) (by decide) rfl ?_
  refine lv_aload_n hx hb dX1_told_47 rfl (lv_at hl 0 rfl) ?_
  refine gf_X1_keys K w dX1_told_48 ?_
  refine lv_iload_n hx hb dX1_told_51 rfl (lv_at hl 1 rfl) ?_
  refine ldN K w row2 (by omega) dX1_told_52 ?_
  exact ret w rfl dX1_told_53

set_option maxHeartbeats 4000000 in
set_option maxRecDepth 100000 in
theorem c_X1_told_2 {l : Launch} {E : En} {M : Mt} {n k : Nat} (dn : dN E) {q : Nat} (hq : q < n) (hn : n ≤ 2000) : MI l yX1_told (.code yX1_told cX1_told 3 (some .int)) 1 21 E [.ref (ad E 0), .int (nI q), .int (nI 2)] M n k (M 4 q)  (M) (n) (k) := by
  refine MI.of dn (own := RX1) (by decide) rfl (Nat.le_of_ble_eq_true rfl) (fun p e s m args below meth c ls Q K w hl ret => ?_)
  have hx := K.1.1
  have hb := K.1.2.1
  have hR : 1 ≤ (rmA 1 21).frames ∧ 21 ≤ (rmA 1 21).locals := ⟨Nat.le_refl _, Nat.le_refl _⟩
  have hf : 0 ≤ (rmA 1 21).cells ∧ 0 ≤ (rmA 1 21).slots := ⟨Nat.le_refl _, Nat.le_refl _⟩
  have hl : lv_has ls 3 [(0, .ref (ad E 0)), (1, .int (nI q)), (2, .int (nI 2))] := hl
  refine lv_aload_n hx hb dX1_told_0 rfl (lv_at hl 0 rfl) ?_
  refine lv_iload_n hx hb dX1_told_1 rfl (lv_at hl 1 rfl) ?_
  refine callv K w (c_X1_checkCommit dn hq hn) (lk_X1_64 K ⟨Nat.le_trans (Nat.le_of_ble_eq_true rfl) hR.1, Nat.le_trans (Nat.le_of_ble_eq_true rfl) hR.2⟩) (recv0 K w) rfl hl.1 rfl (Nat.le_of_ble_eq_true rfl) dX1_told_2 hf (fun H locs w => ?_)
  refine lv_iload_n hx hb dX1_told_5 rfl (lv_at hl 2 rfl) ?_
  refine lv_tableIn (off := 48) (tgt := 54) hx hb dX1_told_6 (by decide) (by decide) (by decide) rfl ?_
  refine lv_aload_n hx hb dX1_told_54 rfl (lv_at hl 0 rfl) ?_
  refine gf_X1_parentCounts K w dX1_told_55 ?_
  refine lv_iload_n hx hb dX1_told_58 rfl (lv_at hl 1 rfl) ?_
  refine ldN K w row4 (by omega) dX1_told_59 ?_
  exact ret w rfl dX1_told_60

set_option maxHeartbeats 4000000 in
set_option maxRecDepth 100000 in
theorem c_X1_told_3 {l : Launch} {E : En} {M : Mt} {n k : Nat} (dn : dN E) {q : Nat} (hq : q < n) (hn : n ≤ 2000) : MI l yX1_told (.code yX1_told cX1_told 3 (some .int)) 1 21 E [.ref (ad E 0), .int (nI q), .int (nI 3)] M n k (M 3 q)  (M) (n) (k) := by
  refine MI.of dn (own := RX1) (by decide) rfl (Nat.le_of_ble_eq_true rfl) (fun p e s m args below meth c ls Q K w hl ret => ?_)
  have hx := K.1.1
  have hb := K.1.2.1
  have hR : 1 ≤ (rmA 1 21).frames ∧ 21 ≤ (rmA 1 21).locals := ⟨Nat.le_refl _, Nat.le_refl _⟩
  have hf : 0 ≤ (rmA 1 21).cells ∧ 0 ≤ (rmA 1 21).slots := ⟨Nat.le_refl _, Nat.le_refl _⟩
  have hl : lv_has ls 3 [(0, .ref (ad E 0)), (1, .int (nI q)), (2, .int (nI 3))] := hl
  refine lv_aload_n hx hb dX1_told_0 rfl (lv_at hl 0 rfl) ?_
  refine lv_iload_n hx hb dX1_told_1 rfl (lv_at hl 1 rfl) ?_
  refine callv K w (c_X1_checkCommit dn hq hn) (lk_X1_64 K ⟨Nat.le_trans (Nat.le_of_ble_eq_true rfl) hR.1, Nat.le_trans (Nat.le_of_ble_eq_true rfl) hR.2⟩) (recv0 K w) rfl hl.1 rfl (Nat.le_of_ble_eq_true rfl) dX1_told_2 hf (fun H locs w => ?_)
  refine lv_iload_n hx hb dX1_told_5 rfl (lv_at hl 2 rfl) ?_
  refine lv_tableIn (off := 55) (tgt := 61) hx hb dX1_told_6 (by decide) (by decide) (by decide) rfl ?_
  refine lv_aload_n hx hb dX1_told_61 rfl (lv_at hl 0 rfl) ?_
  refine gf_X1_generations K w dX1_told_62 ?_
  refine lv_iload_n hx hb dX1_told_65 rfl (lv_at hl 1 rfl) ?_
  refine ldN K w row3 (by omega) dX1_told_66 ?_
  exact ret w rfl dX1_told_67

set_option maxHeartbeats 4000000 in
set_option maxRecDepth 100000 in
theorem c_X1_count_0 {l : Launch} {E : En} {M : Mt} {n k : Nat} (dn : dN E) (ok : okN M n) : MI l yX1_count (.code yX1_count cX1_count 2 (some .int)) 4 88 E [.ref (ad E 0), .int (nI 0)] M n k (nI n)  (M) (n) (k) := by
  refine MI.of dn (own := RX1) (by decide) rfl (Nat.le_of_ble_eq_true rfl) (fun p e s m args below meth c ls Q K w hl ret => ?_)
  have hx := K.1.1
  have hb := K.1.2.1
  have hR : 4 ≤ (rmA 4 88).frames ∧ 88 ≤ (rmA 4 88).locals := ⟨Nat.le_refl _, Nat.le_refl _⟩
  have hf : 0 ≤ (rmA 4 88).cells ∧ 0 ≤ (rmA 4 88).slots := ⟨Nat.le_refl _, Nat.le_refl _⟩
  have hl : lv_has ls 2 [(0, .ref (ad E 0)), (1, .int (nI 0))] := hl
  refine lv_iload_n hx hb dX1_count_0 rfl (lv_at hl 1 rfl) ?_
  refine lv_tableIn (off := 43) (tgt := 44) hx hb dX1_count_1 (by decide) (by decide) (by decide) rfl ?_
  refine lv_aload_n hx hb dX1_count_44 rfl (lv_at hl 0 rfl) ?_
  refine gf_X1_commits K w dX1_count_45 ?_
  exact ret w rfl dX1_count_48

set_option maxHeartbeats 4000000 in
set_option maxRecDepth 100000 in
theorem c_X1_count_1 {l : Launch} {E : En} {M : Mt} {n k : Nat} (dn : dN E) (ok : okN M n) : MI l yX1_count (.code yX1_count cX1_count 2 (some .int)) 4 88 E [.ref (ad E 0), .int (nI 1)] M n k (nI (cnF (fun j => decide (¬ M 7 j &&& sdF 0 = 0)) n 0 0))  (M) (n) (k) := by
  refine MI.of dn (own := RX1) (by decide) rfl (Nat.le_of_ble_eq_true rfl) (fun p e s m args below meth c ls Q K w hl ret => ?_)
  have hx := K.1.1
  have hb := K.1.2.1
  have hR : 4 ≤ (rmA 4 88).frames ∧ 88 ≤ (rmA 4 88).locals := ⟨Nat.le_refl _, Nat.le_refl _⟩
  have hf : 0 ≤ (rmA 4 88).cells ∧ 0 ≤ (rmA 4 88).slots := ⟨Nat.le_refl _, Nat.le_refl _⟩
  have hl : lv_has ls 2 [(0, .ref (ad E 0)), (1, .int (nI 1))] := hl
  refine lv_iload_n hx hb dX1_count_0 rfl (lv_at hl 1 rfl) ?_
  refine lv_tableIn (off := 48) (tgt := 49) hx hb dX1_count_1 (by decide) (by decide) (by decide) rfl ?_
  refine lv_aload_n hx hb dX1_count_49 rfl (lv_at hl 0 rfl) ?_
  refine lv_iconst (v := nI 0) hx hb dX1_count_50 (by decide) ?_
  refine calli K w (c_X1_tipsOf dn (by decide) ok.1) (lk_X1_137 K ⟨Nat.le_trans (Nat.le_of_ble_eq_true rfl) hR.1, Nat.le_trans (Nat.le_of_ble_eq_true rfl) hR.2⟩) (recv0 K w) rfl hl.1 rfl (Nat.le_of_ble_eq_true rfl) dX1_count_51 hf (fun H locs w => ?_)
  exact ret w rfl dX1_count_54

set_option maxHeartbeats 4000000 in
set_option maxRecDepth 100000 in
theorem c_X1_count_2 {l : Launch} {E : En} {M : Mt} {n k : Nat} (dn : dN E) (ok : okN M n) : MI l yX1_count (.code yX1_count cX1_count 2 (some .int)) 4 88 E [.ref (ad E 0), .int (nI 2)] M n k (nI (cnF (fun j => decide (¬ M 7 j &&& sdF 1 = 0)) n 0 0))  (M) (n) (k) := by
  refine MI.of dn (own := RX1) (by decide) rfl (Nat.le_of_ble_eq_true rfl) (fun p e s m args below meth c ls Q K w hl ret => ?_)
  have hx := K.1.1
  have hb := K.1.2.1
  have hR : 4 ≤ (rmA 4 88).frames ∧ 88 ≤ (rmA 4 88).locals := ⟨Nat.le_refl _, Nat.le_refl _⟩
  have hf : 0 ≤ (rmA 4 88).cells ∧ 0 ≤ (rmA 4 88).slots := ⟨Nat.le_refl _, Nat.le_refl _⟩
  have hl : lv_has ls 2 [(0, .ref (ad E 0)), (1, .int (nI 2))] := hl
  refine lv_iload_n hx hb dX1_count_0 rfl (lv_at hl 1 rfl) ?_
  refine lv_tableIn (off := 54) (tgt := 55) hx hb dX1_count_1 (by decide) (by decide) (by decide) rfl ?_
  refine lv_aload_n hx hb dX1_count_55 rfl (lv_at hl 0 rfl) ?_
  refine lv_iconst (v := nI 1) hx hb dX1_count_56 (by decide) ?_
  refine calli K w (c_X1_tipsOf dn (by decide) ok.1) (lk_X1_137 K ⟨Nat.le_trans (Nat.le_of_ble_eq_true rfl) hR.1, Nat.le_trans (Nat.le_of_ble_eq_true rfl) hR.2⟩) (recv0 K w) rfl hl.1 rfl (Nat.le_of_ble_eq_true rfl) dX1_count_57 hf (fun H locs w => ?_)
  exact ret w rfl dX1_count_60

set_option maxHeartbeats 4000000 in
set_option maxRecDepth 100000 in
theorem c_X1_count_3 {l : Launch} {E : En} {M : Mt} {n k : Nat} (dn : dN E) (ok : okN M n) : MI l yX1_count (.code yX1_count cX1_count 2 (some .int)) 4 88 E [.ref (ad E 0), .int (nI 3)] M n k (ggF (M 3) n 0 (nI 0))  (M) (n) (k) := by
  refine MI.of dn (own := RX1) (by decide) rfl (Nat.le_of_ble_eq_true rfl) (fun p e s m args below meth c ls Q K w hl ret => ?_)
  have hx := K.1.1
  have hb := K.1.2.1
  have hR : 4 ≤ (rmA 4 88).frames ∧ 88 ≤ (rmA 4 88).locals := ⟨Nat.le_refl _, Nat.le_refl _⟩
  have hf : 0 ≤ (rmA 4 88).cells ∧ 0 ≤ (rmA 4 88).slots := ⟨Nat.le_refl _, Nat.le_refl _⟩
  have hl : lv_has ls 2 [(0, .ref (ad E 0)), (1, .int (nI 3))] := hl
  refine lv_iload_n hx hb dX1_count_0 rfl (lv_at hl 1 rfl) ?_
  refine lv_tableIn (off := 60) (tgt := 61) hx hb dX1_count_1 (by decide) (by decide) (by decide) rfl ?_
  refine lv_aload_n hx hb dX1_count_61 rfl (lv_at hl 0 rfl) ?_
  refine calli K w (c_X1_greatestGeneration dn ok.1) (lk_X1_140 K ⟨Nat.le_trans (Nat.le_of_ble_eq_true rfl) hR.1, Nat.le_trans (Nat.le_of_ble_eq_true rfl) hR.2⟩) (recv0 K w) rfl hl.1 rfl (Nat.le_of_ble_eq_true rfl) dX1_count_62 hf (fun H locs w => ?_)
  exact ret w rfl dX1_count_65

set_option maxHeartbeats 4000000 in
set_option maxRecDepth 100000 in
theorem c_X1_count_4 {l : Launch} {E : En} {M : Mt} {n k : Nat} (dn : dN E) (ok : okN M n) : MI l yX1_count (.code yX1_count cX1_count 2 (some .int)) 4 88 E [.ref (ad E 0), .int (nI 4)] M n k (nI (cnF (fun j => decide (M 6 j = 0)) n 0 0))  (M) (n) (k) := by
  refine MI.of dn (own := RX1) (by decide) rfl (Nat.le_of_ble_eq_true rfl) (fun p e s m args below meth c ls Q K w hl ret => ?_)
  have hx := K.1.1
  have hb := K.1.2.1
  have hR : 4 ≤ (rmA 4 88).frames ∧ 88 ≤ (rmA 4 88).locals := ⟨Nat.le_refl _, Nat.le_refl _⟩
  have hf : 0 ≤ (rmA 4 88).cells ∧ 0 ≤ (rmA 4 88).slots := ⟨Nat.le_refl _, Nat.le_refl _⟩
  have hl : lv_has ls 2 [(0, .ref (ad E 0)), (1, .int (nI 4))] := hl
  refine lv_iload_n hx hb dX1_count_0 rfl (lv_at hl 1 rfl) ?_
  refine lv_tableIn (off := 65) (tgt := 66) hx hb dX1_count_1 (by decide) (by decide) (by decide) rfl ?_
  refine lv_aload_n hx hb dX1_count_66 rfl (lv_at hl 0 rfl) ?_
  refine calli K w (c_X1_childlessCommits dn ok.1) (lk_X1_143 K ⟨Nat.le_trans (Nat.le_of_ble_eq_true rfl) hR.1, Nat.le_trans (Nat.le_of_ble_eq_true rfl) hR.2⟩) (recv0 K w) rfl hl.1 rfl (Nat.le_of_ble_eq_true rfl) dX1_count_67 hf (fun H locs w => ?_)
  exact ret w rfl dX1_count_70

set_option maxHeartbeats 4000000 in
set_option maxRecDepth 100000 in
theorem c_X1_count_5 {l : Launch} {E : En} {M : Mt} {n k : Nat} (dn : dN E) (ok : okN M n) : MI l yX1_count (.code yX1_count cX1_count 2 (some .int)) 4 88 E [.ref (ad E 0), .int (nI 5)] M n k (nI (cnF (fun j => cmF (hlF M n) j) n 0 0))  (hlF M n) (n) (k) := by
  refine MI.of dn (own := RX1) (by decide) rfl (Nat.le_of_ble_eq_true rfl) (fun p e s m args below meth c ls Q K w hl ret => ?_)
  have hx := K.1.1
  have hb := K.1.2.1
  have hR : 4 ≤ (rmA 4 88).frames ∧ 88 ≤ (rmA 4 88).locals := ⟨Nat.le_refl _, Nat.le_refl _⟩
  have hf : 0 ≤ (rmA 4 88).cells ∧ 0 ≤ (rmA 4 88).slots := ⟨Nat.le_refl _, Nat.le_refl _⟩
  have hl : lv_has ls 2 [(0, .ref (ad E 0)), (1, .int (nI 5))] := hl
  refine lv_iload_n hx hb dX1_count_0 rfl (lv_at hl 1 rfl) ?_
  refine lv_tableIn (off := 70) (tgt := 71) hx hb dX1_count_1 (by decide) (by decide) (by decide) rfl ?_
  refine lv_aload_n hx hb dX1_count_71 rfl (lv_at hl 0 rfl) ?_
  refine calli K w (c_X1_commonCommits dn ok) (lk_X1_146 K ⟨Nat.le_trans (Nat.le_of_ble_eq_true rfl) hR.1, Nat.le_trans (Nat.le_of_ble_eq_true rfl) hR.2⟩) (recv0 K w) rfl hl.1 rfl (Nat.le_of_ble_eq_true rfl) dX1_count_72 hf (fun H locs w => ?_)
  exact ret w rfl dX1_count_75

set_option maxHeartbeats 4000000 in
set_option maxRecDepth 100000 in
theorem c_X1_count_6 {l : Launch} {E : En} {M : Mt} {n k : Nat} (dn : dN E) (ok : okN M n) : MI l yX1_count (.code yX1_count cX1_count 2 (some .int)) 4 88 E [.ref (ad E 0), .int (nI 6)] M n k (nI 0)  (M) (n) (k) := by
  refine MI.of dn (own := RX1) (by decide) rfl (Nat.le_of_ble_eq_true rfl) (fun p e s m args below meth c ls Q K w hl ret => ?_)
  have hx := K.1.1
  have hb := K.1.2.1
  have hR : 4 ≤ (rmA 4 88).frames ∧ 88 ≤ (rmA 4 88).locals := ⟨Nat.le_refl _, Nat.le_refl _⟩
  have hf : 0 ≤ (rmA 4 88).cells ∧ 0 ≤ (rmA 4 88).slots := ⟨Nat.le_refl _, Nat.le_refl _⟩
  have hl : lv_has ls 2 [(0, .ref (ad E 0)), (1, .int (nI 6))] := hl
  refine lv_iload_n hx hb dX1_count_0 rfl (lv_at hl 1 rfl) ?_
  refine lv_tableIn (off := 75) (tgt := 76) hx hb dX1_count_1 (by decide) (by decide) (by decide) rfl ?_
  refine lv_aload_n hx hb dX1_count_76 rfl (lv_at hl 0 rfl) ?_
  refine calli K w (c_X1_misplacedCommits dn ok) (lk_X1_149 K ⟨Nat.le_trans (Nat.le_of_ble_eq_true rfl) hR.1, Nat.le_trans (Nat.le_of_ble_eq_true rfl) hR.2⟩) (recv0 K w) rfl hl.1 rfl (Nat.le_of_ble_eq_true rfl) dX1_count_77 hf (fun H locs w => ?_)
  exact ret w rfl dX1_count_80

set_option maxHeartbeats 4000000 in
set_option maxRecDepth 100000 in
theorem c_X1_count_o {l : Launch} {E : En} {M : Mt} {n k : Nat} (dn : dN E) {x : Int32} (hx0 : x.toInt < 0 ∨ 6 < x.toInt) : MI l yX1_count (.code yX1_count cX1_count 2 (some .int)) 4 88 E [.ref (ad E 0), .int x] M n k (-1)  (M) (n) (k) := by
  refine MI.of dn (own := RX1) (by decide) rfl (Nat.le_of_ble_eq_true rfl) (fun p e s m args below meth c ls Q K w hl ret => ?_)
  have hx := K.1.1
  have hb := K.1.2.1
  have hR : 4 ≤ (rmA 4 88).frames ∧ 88 ≤ (rmA 4 88).locals := ⟨Nat.le_refl _, Nat.le_refl _⟩
  have hf : 0 ≤ (rmA 4 88).cells ∧ 0 ≤ (rmA 4 88).slots := ⟨Nat.le_refl _, Nat.le_refl _⟩
  have hl : lv_has ls 2 [(0, .ref (ad E 0)), (1, .int x)] := hl
  refine lv_iload_n hx hb dX1_count_0 rfl (lv_at hl 1 rfl) ?_
  refine lv_tableOut (tgt := 81) hx hb dX1_count_1 hx0 rfl ?_
  refine lv_iconst (v := -1) hx hb dX1_count_81 (by decide) ?_
  exact ret w rfl dX1_count_82
end
section
/-! The heap: put adds, take removes the least. Positions compare by cbF. -/
def sg (x y i : Nat) : Nat := if i = y then x else if i = x then y else i
theorem sw1_sg (f : Nat → Int32) (x y i : Nat) : sw1 f x y i = f (sg x y i) := by
  rw [sg]
  by_cases hy : i = y
  · rw [if_pos hy, sw1, hy, pk_us]
  · rw [if_neg hy]
    by_cases hx : i = x
    · rw [if_pos hx, sw1, pk_un hy, hx, pk_us]
    · rw [if_neg hx, sw1, pk_un hy, pk_un hx]
theorem swF_11 {M : Mt} {x y : Nat} : swF M x y 11 = sw1 (M 11) x y := rfl
theorem swF_12 {M : Mt} {x y : Nat} : swF M x y 12 = sw1 (M 12) x y := rfl
theorem cb_sw {M : Mt} {x y i j : Nat} : cbF (swF M x y) i j = cbF M (sg x y i) (sg x y j) := by
  rw [cbF, cbF, swF_11, swF_12, swF_13]
  simp only [sw1_sg]
theorem i32_lt_trans {a b d : Int32} (h : a < b) (h2 : b < d) : a < d := by
  simp only [Int32.lt_iff_toInt_lt] at h h2 ⊢
  omega
theorem i32_lt_irr {a : Int32} : ¬ a < a := by
  simp only [Int32.lt_iff_toInt_lt]
  omega
theorem i32_tri {a b : Int32} (h : ¬ a = b) (h2 : ¬ a < b) : b < a := by
  have h3 : ¬ a.toInt = b.toInt := fun e => h (Int32.toInt_inj.mp e)
  simp only [Int32.lt_iff_toInt_lt] at h2 ⊢
  omega
/-- x comes before y -/
def cB (M : Mt) (x y : Nat) : Prop := M 11 x < M 11 y ∨ (M 11 x = M 11 y ∧ (M 12 x < M 12 y ∨ (M 12 x = M 12 y ∧ M 13 x < M 13 y)))
theorem cb_iff {M : Mt} {x y : Nat} : cbF M x y = true ↔ cB M x y := by
  rw [cbF, cB]
  by_cases h1 : M 11 x = M 11 y
  · rw [if_pos h1]
    by_cases h2 : M 12 x = M 12 y
    · rw [if_pos h2, decide_eq_true_iff]
      constructor
      · exact fun h => Or.inr ⟨h1, Or.inr ⟨h2, h⟩⟩
      · rintro (h | ⟨-, h | ⟨-, h⟩⟩)
        · exact absurd (h1 ▸ h) i32_lt_irr
        · exact absurd (h2 ▸ h) i32_lt_irr
        · exact h
    · rw [if_neg h2, decide_eq_true_iff]
      constructor
      · exact fun h => Or.inr ⟨h1, Or.inl h⟩
      · rintro (h | ⟨-, h | ⟨h, -⟩⟩)
        · exact absurd (h1 ▸ h) i32_lt_irr
        · exact h
        · exact absurd h h2
  · rw [if_neg h1, decide_eq_true_iff]
    constructor
    · exact Or.inl
    · rintro (h | ⟨h, -⟩)
      · exact h
      · exact absurd h h1
theorem cB.trans {M : Mt} {x y z : Nat} (h : cB M x y) (h2 : cB M y z) : cB M x z := by
  rcases h with h | ⟨e, h⟩
  · rcases h2 with g | ⟨e2, g⟩
    · exact Or.inl (i32_lt_trans h g)
    · exact Or.inl (e2 ▸ h)
  · rcases h2 with g | ⟨e2, g⟩
    · exact Or.inl (e ▸ g)
    · refine Or.inr ⟨e.trans e2, ?_⟩
      rcases h with h | ⟨e3, h⟩
      · rcases g with g | ⟨e4, g⟩
        · exact Or.inl (i32_lt_trans h g)
        · exact Or.inl (e4 ▸ h)
      · rcases g with g | ⟨e4, g⟩
        · exact Or.inl (e3 ▸ g)
        · exact Or.inr ⟨e3.trans e4, i32_lt_trans h g⟩
theorem cB.irr {M : Mt} {x : Nat} : ¬ cB M x x := by
  rintro (h | ⟨-, h | ⟨-, h⟩⟩) <;> exact i32_lt_irr h
theorem cB.tot {M : Mt} {x y : Nat} (hne : ¬ M 13 x = M 13 y) (h : ¬ cB M x y) : cB M y x := by
  by_cases h1 : M 11 x = M 11 y
  · refine Or.inr ⟨h1.symm, ?_⟩
    by_cases h2 : M 12 x = M 12 y
    · exact Or.inr ⟨h2.symm, i32_tri hne (fun h3 => h (Or.inr ⟨h1, Or.inr ⟨h2, h3⟩⟩))⟩
    · exact Or.inl (i32_tri h2 (fun h3 => h (Or.inr ⟨h1, Or.inl h3⟩)))
  · exact Or.inl (i32_tri h1 (fun h3 => h (Or.inl h3)))
theorem cB_sw {M : Mt} {x y i j : Nat} : cB (swF M x y) i j ↔ cB M (sg x y i) (sg x y j) := by rw [← cb_iff, ← cb_iff, cb_sw]
/-- no two of the first k bear one number -/
def inj13 (M : Mt) (k : Nat) : Prop := ∀ i j, i < k → j < k → M 13 i = M 13 j → i = j
theorem sg_lt {x y i k : Nat} (hx : x < k) (hy : y < k) (hi : i < k) : sg x y i < k := by
  rw [sg]; split
  · exact hx
  · split
    · exact hy
    · exact hi
theorem sg_sg {x y i : Nat} : sg x y (sg x y i) = i := by
  simp only [sg]
  by_cases h1 : i = y
  · subst h1
    by_cases h2 : x = i <;> simp [h2]
  · by_cases h2 : i = x
    · subst h2; simp [h1]
    · simp [h1, h2]
theorem sg_inj {x y i j : Nat} (h : sg x y i = sg x y j) : i = j := by rw [← sg_sg (x := x) (y := y) (i := i), h, sg_sg]
theorem inj13.sw {M : Mt} {k x y : Nat} (h : inj13 M k) (hx : x < k) (hy : y < k) : inj13 (swF M x y) k := by
  intro i j hi hj e
  rw [swF_13, sw1_sg, sw1_sg] at e
  exact sg_inj (h _ _ (sg_lt hx hy hi) (sg_lt hx hy hj) e)
/-- the places above -/
abbrev up2 (i : Nat) : Nat := (i - 1) / 2
/-- a heap of k -/
def hpN (M : Mt) (k : Nat) : Prop := ∀ i, 0 < i → i < k → ¬ cB M i (up2 i)
/-- a heap but for place p, which may be too small for what is above -/
def hpU (M : Mt) (k p : Nat) : Prop := (∀ i, 0 < i → i < k → i ≠ p → ¬ cB M i (up2 i)) ∧ ∀ i, 0 < i → i < k → up2 i = p → 0 < p → ¬ cB M i (up2 p)
/-- a heap but for place p, which may be too great for what is below -/
def hpD (M : Mt) (k p : Nat) : Prop := (∀ i, 0 < i → i < k → up2 i ≠ p → ¬ cB M i (up2 i)) ∧ ∀ i, 0 < i → i < k → up2 i = p → 0 < p → ¬ cB M i (up2 p)
theorem sg_a {x y : Nat} : sg x y y = x := if_pos rfl
theorem sg_b {x y : Nat} (h : x ≠ y) : sg x y x = y := by rw [sg, if_neg h, if_pos rfl]
theorem sg_c {x y i : Nat} (h1 : i ≠ y) (h2 : i ≠ x) : sg x y i = i := by rw [sg, if_neg h1, if_neg h2]
theorem cB.asym {M : Mt} {x y : Nat} (h : cB M x y) : ¬ cB M y x := fun h2 => cB.irr (h.trans h2)
theorem inj13.tot {M : Mt} {k x y : Nat} (hi : inj13 M k) (hx : x < k) (hy : y < k) (hne : x ≠ y) (h : ¬ cB M x y) : cB M y x := cB.tot (fun e => hne (hi x y hx hy e)) h
theorem hpU.step {M : Mt} {k p : Nat} (hi : inj13 M k) (hp : p < k) (h0 : 0 < p) (h : hpU M k p) (hc : cB M p (up2 p)) : hpU (swF M (up2 p) p) k (up2 p) := by
  have hap : up2 p < p := by show (p - 1) / 2 < p; omega
  have hne : up2 p ≠ p := Nat.ne_of_lt hap
  refine ⟨fun i h1 h2 h3 h4 => ?_, fun i h1 h2 h3 h5 h4 => ?_⟩
  · rw [cB_sw] at h4
    by_cases e1 : i = p
    · subst e1
      rw [sg_a, sg_b hne] at h4
      exact hc.asym h4
    · rw [sg_c e1 h3] at h4
      by_cases e2 : up2 i = p
      · rw [e2, sg_a] at h4
        exact h.2 i h1 h2 e2 h0 h4
      · by_cases e3 : up2 i = up2 p
        · rw [e3, sg_b hne] at h4
          exact h.1 i h1 h2 e1 (by rw [e3]; exact h4.trans hc)
        · rw [sg_c e2 e3] at h4
          exact h.1 i h1 h2 e1 h4
  · rw [cB_sw] at h4
    have hua : up2 (up2 p) < up2 p := by show (up2 p - 1) / 2 < up2 p; omega
    have hia : up2 i < i := by show (i - 1) / 2 < i; omega
    rw [sg_c (i := up2 (up2 p)) (by omega) (by omega)] at h4
    by_cases e1 : i = p
    · subst e1
      rw [sg_a] at h4
      exact h.1 (up2 i) h5 (by omega) hne h4
    · rw [sg_c e1 (by omega)] at h4
      have h6 : ¬ cB M i (up2 i) := h.1 i h1 h2 e1
      have h7 : cB M (up2 i) i := hi.tot h2 (by omega) (by omega) h6
      rw [h3] at h7
      exact h.1 (up2 p) h5 (by omega) hne (h7.trans h4)
/-- the first k are the same, in another order -/
def pmN (M M' : Mt) (k : Nat) : Prop := ∃ s t : Nat → Nat, (∀ i, i < k → s i < k ∧ t i < k ∧ t (s i) = i ∧ s (t i) = i) ∧ ∀ i, i < k → M' 11 i = M 11 (s i) ∧ M' 12 i = M 12 (s i) ∧ M' 13 i = M 13 (s i)
theorem pmN.rf {M : Mt} {k : Nat} : pmN M M k := ⟨id, id, fun _ h => ⟨h, h, rfl, rfl⟩, fun _ _ => ⟨rfl, rfl, rfl⟩⟩
theorem pmN.sw {M M' : Mt} {k x y : Nat} (h : pmN (swF M x y) M' k) (hx : x < k) (hy : y < k) : pmN M M' k := by
  obtain ⟨s, t, h1, h2⟩ := h
  refine ⟨fun i => sg x y (s i), fun i => t (sg x y i), fun i hi => ?_, fun i hi => ?_⟩
  · obtain ⟨a, b, d, e⟩ := h1 i hi
    obtain ⟨a', b', d', e'⟩ := h1 (sg x y i) (sg_lt hx hy hi)
    exact ⟨sg_lt hx hy a, b', by show t (sg x y (sg x y (s i))) = i; rw [sg_sg]; exact d, by show sg x y (s (t (sg x y i))) = i; rw [e', sg_sg]⟩
  · obtain ⟨a, b, d⟩ := h2 i hi
    exact ⟨by rw [a, swF_11, sw1_sg], by rw [b, swF_12, sw1_sg], by rw [d, swF_13, sw1_sg]⟩
theorem rise_ok {k : Nat} : ∀ {f p : Nat} {M : Mt}, p ≤ f → p < k → inj13 M k → hpU M k p → hpN (riF f M p) k ∧ pmN M (riF f M p) k := by
  intro f
  induction f with
  | zero =>
    intro p M hp hk hi h
    obtain rfl : p = 0 := by omega
    exact ⟨fun i h1 h2 => h.1 i h1 h2 (by omega), pmN.rf⟩
  | succ f ih =>
    intro p M hp hk hi h
    by_cases h0 : p = 0
    · subst h0
      rw [riF_0]
      exact ⟨fun i h1 h2 => h.1 i h1 h2 (by omega), pmN.rf⟩
    · rw [riF_s (by omega)]
      by_cases hc : cbF M ((p - 1) / 2) p = true
      · rw [if_pos hc]
        refine ⟨fun i h1 h2 h3 => ?_, pmN.rf⟩
        by_cases e : i = p
        · subst e
          exact (cb_iff.mp hc).asym h3
        · exact h.1 i h1 h2 e h3
      · rw [if_neg hc]
        have hap : up2 p < p := by show (p - 1) / 2 < p; omega
        have hal : up2 p < k := Nat.lt_trans hap hk
        have h2 : cB M p (up2 p) := hi.tot hal hk (Nat.ne_of_lt hap) (fun h => hc (cb_iff.mpr h))
        obtain ⟨a, b⟩ := ih (p := up2 p) (by omega) hal (hi.sw hal hk) (hpU.step hi hk (by omega) h h2)
        exact ⟨a, b.sw hal hk⟩
theorem ch_spec {M : Mt} {k p : Nat} (h : 2 * p + 1 < k) : chF M k p < k ∧ up2 (chF M k p) = p ∧ p < chF M k p ∧ ∀ i, 0 < i → i < k → up2 i = p → i ≠ chF M k p → ¬ cB M i (chF M k p) := by
  rw [chF]
  by_cases h2 : 2 * p + 1 + 1 < k ∧ cbF M (2 * p + 1 + 1) (2 * p + 1) = true
  · rw [if_pos h2]
    refine ⟨h2.1, by show (2 * p + 1 + 1 - 1) / 2 = p; omega, by omega, fun i h3 h4 h5 h6 h7 => ?_⟩
    obtain rfl : i = 2 * p + 1 := by
      have : (i - 1) / 2 = p := h5
      omega
    exact (cb_iff.mp h2.2).asym h7
  · rw [if_neg h2]
    refine ⟨h, by show (2 * p + 1 - 1) / 2 = p; omega, by omega, fun i h3 h4 h5 h6 h7 => ?_⟩
    obtain rfl : i = 2 * p + 1 + 1 := by
      have : (i - 1) / 2 = p := h5
      omega
    exact h2 ⟨h4, cb_iff.mpr h7⟩
theorem hpD.step {M : Mt} {k p : Nat} (hk : 2 * p + 1 < k) (h : hpD M k p) (hc : cB M (chF M k p) p) : hpD (swF M p (chF M k p)) k (chF M k p) := by
  obtain ⟨c1, c2, c3, c4⟩ := ch_spec (M := M) hk
  generalize chF M k p = ch at *
  have hne : p ≠ ch := Nat.ne_of_lt c3
  refine ⟨fun i h1 h2 h3 h4 => ?_, fun i h1 h2 h3 h5 h4 => ?_⟩
  · rw [cB_sw] at h4
    by_cases e1 : i = ch
    · subst e1
      rw [sg_a, c2, sg_b hne] at h4
      exact hc.asym h4
    · by_cases e2 : i = p
      · subst e2
        have : up2 i < i := by show (i - 1) / 2 < i; omega
        rw [sg_b hne, sg_c (i := up2 i) (by omega) (by omega)] at h4
        exact h.2 ch (by omega) c1 c2 h1 h4
      · rw [sg_c e1 e2] at h4
        by_cases e3 : up2 i = p
        · rw [e3, sg_b hne] at h4
          exact c4 i h1 h2 e3 e1 h4
        · rw [sg_c h3 e3] at h4
          exact h.1 i h1 h2 e3 h4
  · rw [cB_sw, c2, sg_b hne] at h4
    have : up2 i < i := by show (i - 1) / 2 < i; omega
    rw [sg_c (i := i) (by omega) (by omega)] at h4
    exact h.1 i h1 h2 (by omega) (by rw [h3]; exact h4)
theorem sink_ok {k : Nat} : ∀ {f p : Nat} {M : Mt}, k ≤ p + f → inj13 M k → hpD M k p → hpN (siF f M k p) k ∧ pmN M (siF f M k p) k := by
  intro f
  induction f with
  | zero =>
    intro p M hp hi h
    exact ⟨fun i h1 h2 => h.1 i h1 h2 (by show (i - 1) / 2 ≠ p; omega), pmN.rf⟩
  | succ f ih =>
    intro p M hp hi h
    by_cases hk : 2 * p + 1 < k
    · rw [siF_s hk]
      obtain ⟨c1, c2, c3, c4⟩ := ch_spec (M := M) hk
      by_cases hc : cbF M p (chF M k p) = true
      · rw [if_pos hc]
        refine ⟨fun i h1 h2 h3 => ?_, pmN.rf⟩
        by_cases e : up2 i = p
        · by_cases e2 : i = chF M k p
          · rw [e, e2] at h3
            exact (cb_iff.mp hc).asym h3
          · rw [e] at h3
            exact c4 i h1 h2 e e2 (h3.trans (cb_iff.mp hc))
        · exact h.1 i h1 h2 e h3
      · rw [if_neg hc]
        have h2 : cB M (chF M k p) p := hi.tot (by omega) c1 (by omega) (fun h => hc (cb_iff.mpr h))
        obtain ⟨a, b⟩ := ih (p := chF M k p) (by omega) (hi.sw (by omega) c1) (hpD.step hk h h2)
        exact ⟨a, b.sw (by omega) c1⟩
    · rw [siF_e hk]
      exact ⟨fun i h1 h2 => h.1 i h1 h2 (by show (i - 1) / 2 ≠ p; omega), pmN.rf⟩
theorem hpN.root {M : Mt} {k : Nat} (hi : inj13 M k) (h : hpN M k) : ∀ i, i < k → ¬ cB M i 0 := by
  intro i
  induction i using Nat.strongRecOn with
  | ind i ih =>
    intro hk h3
    by_cases h0 : i = 0
    · subst h0
      exact cB.irr h3
    · have hu : up2 i < i := by show (i - 1) / 2 < i; omega
      have h4 := hi.tot hk (by omega) (by omega) (h i (by omega) hk)
      exact ih (up2 i) hu (by omega) (h4.trans h3)
end
section
/-! The queue as a set of commits S, with a rank and a key for each. -/
/-- c comes before d -/
def lC (rk ky : Nat → Int32) (c d : Nat) : Prop := rk c < rk d ∨ (rk c = rk d ∧ (ky c < ky d ∨ (ky c = ky d ∧ c < d)))
def qS (rk ky : Nat → Int32) (S : Nat → Prop) (M : Mt) (k : Nat) : Prop := (∀ i, i < k → ∃ c, c < 2000 ∧ S c ∧ M 13 i = nI c ∧ M 11 i = rk c ∧ M 12 i = ky c) ∧ (∀ c, S c → c < 2000 ∧ ∃ i, i < k ∧ M 13 i = nI c) ∧ inj13 M k ∧ hpN M k
theorem nI_inj {a b : Nat} (ha : a < 2000) (hb : b < 2000) (h : nI a = nI b) : a = b := (nI_eq (by omega) (by omega)).mp h
theorem pmN.inj {M M' : Mt} {k : Nat} (h : pmN M M' k) (hi : inj13 M k) : inj13 M' k := by
  obtain ⟨s, t, h1, h2⟩ := h
  intro i j hik hjk e
  rw [(h2 i hik).2.2, (h2 j hjk).2.2] at e
  have e2 := hi _ _ (h1 i hik).1 (h1 j hjk).1 e
  rw [← (h1 i hik).2.2.1, e2, (h1 j hjk).2.2.1]
theorem qS.pm {rk ky : Nat → Int32} {S : Nat → Prop} {M M' : Mt} {k : Nat} (h1 : ∀ i, i < k → ∃ c, c < 2000 ∧ S c ∧ M 13 i = nI c ∧ M 11 i = rk c ∧ M 12 i = ky c) (h2 : ∀ c, S c → c < 2000 ∧ ∃ i, i < k ∧ M 13 i = nI c) (h3 : inj13 M k) (hp : pmN M M' k) (h4 : hpN M' k) : qS rk ky S M' k := by
  refine ⟨fun i hi => ?_, fun c hc => ?_, hp.inj h3, h4⟩
  · obtain ⟨s, t, g1, g2⟩ := hp
    obtain ⟨c, a1, a2, a3, a4, a5⟩ := h1 (s i) (g1 i hi).1
    exact ⟨c, a1, a2, by rw [(g2 i hi).2.2]; exact a3, by rw [(g2 i hi).1]; exact a4, by rw [(g2 i hi).2.1]; exact a5⟩
  · obtain ⟨s, t, g1, g2⟩ := hp
    obtain ⟨hc2, i, hi, e⟩ := h2 c hc
    exact ⟨hc2, t i, (g1 i hi).2.1, by rw [(g2 (t i) (g1 i hi).2.1).2.2, (g1 i hi).2.2.2]; exact e⟩
theorem qS.put {rk ky : Nat → Int32} {S : Nat → Prop} {M : Mt} {k c : Nat} (h : qS rk ky S M k) (hk : k < 2000) (hc : c < 2000) (hn : ¬ S c) : qS rk ky (fun x => S x ∨ x = c) (puF M k (rk c) (ky c) (nI c)) (puK k) := by
  obtain ⟨h1, h2, h3, h4⟩ := h
  rw [puF, puK, if_neg (by omega), if_neg (by omega)]
  have e11 : ∀ i, i ≠ k → ptF M k (rk c) (ky c) (nI c) 11 i = M 11 i := fun i hi => by show upd (M 11) k (rk c) i = _; rw [pk_un hi]
  have e12 : ∀ i, i ≠ k → ptF M k (rk c) (ky c) (nI c) 12 i = M 12 i := fun i hi => by show upd (M 12) k (ky c) i = _; rw [pk_un hi]
  have e13 : ∀ i, i ≠ k → ptF M k (rk c) (ky c) (nI c) 13 i = M 13 i := fun i hi => by show upd (M 13) k (nI c) i = _; rw [pk_un hi]
  have k11 : ptF M k (rk c) (ky c) (nI c) 11 k = rk c := by show upd (M 11) k (rk c) k = _; rw [pk_us]
  have k12 : ptF M k (rk c) (ky c) (nI c) 12 k = ky c := by show upd (M 12) k (ky c) k = _; rw [pk_us]
  have k13 : ptF M k (rk c) (ky c) (nI c) 13 k = nI c := by show upd (M 13) k (nI c) k = _; rw [pk_us]
  generalize ptF M k (rk c) (ky c) (nI c) = P at *
  have hB : ∀ i j, i ≠ k → j ≠ k → cB P i j → cB M i j := by
    intro i j hi hj hh
    rw [cB, e11 i hi, e11 j hj, e12 i hi, e12 j hj, e13 i hi, e13 j hj] at hh
    exact hh
  have hinj : inj13 P (k + 1) := by
    intro i j hi hj e
    by_cases ei : i = k
    · by_cases ej : j = k
      · omega
      · rw [ei, k13, e13 j ej] at e
        obtain ⟨d, d1, d2, d3, -, -⟩ := h1 j (by omega)
        rw [d3] at e
        exact absurd (nI_inj hc d1 e ▸ d2) hn
    · by_cases ej : j = k
      · rw [ej, k13, e13 i ei] at e
        obtain ⟨d, d1, d2, d3, -, -⟩ := h1 i (by omega)
        rw [d3] at e
        exact absurd (nI_inj d1 hc e ▸ d2) hn
      · rw [e13 i ei, e13 j ej] at e
        exact h3 i j (by omega) (by omega) e
  have hU : hpU P (k + 1) k := by
    refine ⟨fun i a1 a2 a3 a4 => ?_, fun i a1 a2 a3 a4 a5 => ?_⟩
    · have : up2 i < i := by show (i - 1) / 2 < i; omega
      exact h4 i a1 (by omega) (hB i (up2 i) a3 (by omega) a4)
    · have : (i - 1) / 2 = k := a3
      omega
  obtain ⟨r1, r2⟩ := rise_ok (f := k) (p := k) (Nat.le_refl _) (by omega) hinj hU
  refine qS.pm (fun i hi => ?_) (fun x hx => ?_) hinj r2 r1
  · by_cases ei : i = k
    · exact ⟨c, hc, Or.inr rfl, by rw [ei]; exact k13, by rw [ei]; exact k11, by rw [ei]; exact k12⟩
    · obtain ⟨d, d1, d2, d3, d4, d5⟩ := h1 i (by omega)
      exact ⟨d, d1, Or.inl d2, by rw [e13 i ei]; exact d3, by rw [e11 i ei]; exact d4, by rw [e12 i ei]; exact d5⟩
  · rcases hx with hx | hx
    · obtain ⟨hx2, i, hi, e⟩ := h2 x hx
      exact ⟨hx2, i, by omega, by rw [e13 i (by omega)]; exact e⟩
    · exact ⟨by omega, k, by omega, by rw [hx]; exact k13⟩
theorem qS.take {rk ky : Nat → Int32} {S : Nat → Prop} {M : Mt} {k : Nat} (h : qS rk ky S M k) (hk : 0 < k) : ∃ c, c < 2000 ∧ S c ∧ tkR M k = nI c ∧ (∀ d, S d → ¬ lC rk ky d c) ∧ qS rk ky (fun x => S x ∧ x ≠ c) (tkF M k) (k - 1) := by
  obtain ⟨h1, h2, h3, h4⟩ := h
  obtain ⟨c, c1, c2, c3, c4, c5⟩ := h1 0 hk
  refine ⟨c, c1, c2, by rw [tkR, if_neg (by omega)]; exact c3, fun d hd hl => ?_, ?_⟩
  · obtain ⟨hd2, i, hi, e⟩ := h2 d hd
    obtain ⟨d', d1, d2, d3, d4, d5⟩ := h1 i hi
    obtain rfl : d = d' := nI_inj hd2 d1 (e.symm.trans d3)
    refine h4.root h3 i hi ?_
    rw [cB, d3, d4, d5, c3, c4, c5]
    rcases hl with g | ⟨g, g2 | ⟨g2, g3⟩⟩
    · exact Or.inl g
    · exact Or.inr ⟨g, Or.inl g2⟩
    · exact Or.inr ⟨g, Or.inr ⟨g2, nI_lt g3 (by omega)⟩⟩
  · rw [tkF, if_neg (by omega)]
    have hP : ∀ i, swF M 0 (k - 1) 11 i = M 11 (sg 0 (k - 1) i) ∧ swF M 0 (k - 1) 12 i = M 12 (sg 0 (k - 1) i) ∧ swF M 0 (k - 1) 13 i = M 13 (sg 0 (k - 1) i) := fun i => ⟨by rw [swF_11, sw1_sg], by rw [swF_12, sw1_sg], by rw [swF_13, sw1_sg]⟩
    have hinj : inj13 (swF M 0 (k - 1)) (k - 1) := fun i j hi hj e => h3.sw (x := 0) (y := k - 1) hk (by omega) i j (by omega) (by omega) e
    have hsg : ∀ i, i < k - 1 → sg 0 (k - 1) i < k ∧ sg 0 (k - 1) i ≠ 0 := by
      intro i hi
      by_cases h0 : i = 0
      · subst h0
        rw [sg_b (by omega)]
        omega
      · rw [sg_c (by omega) h0]
        omega
    have hD : hpD (swF M 0 (k - 1)) (k - 1) 0 := by
      refine ⟨fun i a1 a2 a3 a4 => ?_, fun i a1 a2 a3 a4 => absurd a4 (Nat.lt_irrefl 0)⟩
      have : up2 i < i := by show (i - 1) / 2 < i; omega
      rw [cB_sw, sg_c (i := i) (by omega) (by omega), sg_c (i := up2 i) (by omega) a3] at a4
      exact h4 i a1 (by omega) a4
    obtain ⟨r1, r2⟩ := sink_ok (f := k - 1) (p := 0) (by omega) hinj hD
    refine qS.pm (fun i hi => ?_) (fun x hx => ?_) hinj r2 r1
    · obtain ⟨g1, g2⟩ := hsg i hi
      obtain ⟨d, d1, d2, d3, d4, d5⟩ := h1 _ g1
      refine ⟨d, d1, ⟨d2, fun e => ?_⟩, by rw [(hP i).2.2]; exact d3, by rw [(hP i).1]; exact d4, by rw [(hP i).2.1]; exact d5⟩
      exact g2 (h3 _ _ g1 hk (by rw [d3, c3, e]))
    · obtain ⟨hx1, hx2⟩ := hx
      obtain ⟨x2, i, hi, e⟩ := h2 x hx1
      have hi0 : i ≠ 0 := fun h0 => hx2 (nI_inj x2 c1 (by rw [← e, h0]; exact c3))
      refine ⟨x2, sg 0 (k - 1) i, ?_, by rw [(hP _).2.2, sg_sg]; exact e⟩
      by_cases hl : i = k - 1
      · rw [hl, sg_a]
        omega
      · rw [sg_c hl hi0]
        omega
end
section
/-! The sweep: what is reachable. -/
/-- a way of t links from x down to c -/
def pth (M : Mt) : Nat → Nat → Nat → Prop
  | 0, x, c => x = c
  | t + 1, x, c => ∃ s, s < pcn M x ∧ pth M t (par M x s) c
def RC (M : Mt) (x c : Nat) : Prop := ∃ t, pth M t x c
theorem pth_snoc {M : Mt} {c s : Nat} (hs : s < pcn M c) : ∀ {t x : Nat}, pth M t x c → pth M (t + 1) x (par M c s) := by
  intro t
  induction t with
  | zero =>
    intro x h
    obtain rfl : x = c := h
    exact ⟨s, hs, rfl⟩
  | succ t ih =>
    intro x h
    obtain ⟨a, ha, h2⟩ := h
    exact ⟨a, ha, ih h2⟩
theorem pth_le {M : Mt} {n : Nat} (ok : okN M n) : ∀ {t x c : Nat}, x < n → pth M t x c → c + t ≤ x := by
  intro t
  induction t with
  | zero =>
    intro x c _ h
    obtain rfl : x = c := h
    omega
  | succ t ih =>
    intro x c hx h
    obtain ⟨a, ha, h2⟩ := h
    have := ok.lt hx ha
    have := ih (by omega) h2
    omega
theorem inF_keep {q : Nat} {h : Int32} {c : Nat} : ∀ {d t : Nat} {M : Mt}, (∀ s, s < t + d → par M q s ≠ c) → inF q h d t M 8 c = M 8 c := by
  intro d
  induction d with
  | zero => intro t M _; rfl
  | succ d ih =>
    intro t M hs
    rw [inF, ih (M := va_up M 8 (upd (M 8) (par M q t) (M 8 (par M q t) ||| h))) (t := t + 1) (fun s h1 => hs s (by omega)), va_up_self, pk_un (fun e => hs t (by omega) e.symm)]
section SW
variable {B : Int32 → Prop}
theorem inF_bit (hor : ∀ x y : Int32, B (x ||| y) ↔ B x ∨ B y) {q : Nat} {h : Int32} : ∀ {d t : Nat} {M : Mt} (c : Nat), B (inF q h d t M 8 c) ↔ B (M 8 c) ∨ (B h ∧ ∃ s, t ≤ s ∧ s < t + d ∧ par M q s = c) := by
  intro d
  induction d with
  | zero =>
    intro t M c
    constructor
    · exact Or.inl
    · rintro (h1 | ⟨-, s, h1, h2, -⟩)
      · exact h1
      · omega
  | succ d ih =>
    intro t M c
    rw [inF, ih]
    have e : B (va_up M 8 (upd (M 8) (par M q t) (M 8 (par M q t) ||| h)) 8 c) ↔ B (M 8 c) ∨ (B h ∧ par M q t = c) := by
      rw [va_up_self]
      by_cases hc : c = par M q t
      · subst hc
        rw [pk_us, hor]
        constructor
        · rintro (a | a)
          · exact Or.inl a
          · exact Or.inr ⟨a, rfl⟩
        · rintro (a | ⟨a, -⟩)
          · exact Or.inl a
          · exact Or.inr a
      · rw [pk_un hc]
        constructor
        · exact Or.inl
        · rintro (a | ⟨-, a⟩)
          · exact a
          · exact absurd a.symm hc
    rw [e]
    constructor
    · rintro ((a | ⟨a, b⟩) | ⟨a, s, h1, h2, h3⟩)
      · exact Or.inl a
      · exact Or.inr ⟨a, t, Nat.le_refl _, by omega, b⟩
      · exact Or.inr ⟨a, s, by omega, by omega, h3⟩
    · rintro (a | ⟨a, s, h1, h2, h3⟩)
      · exact Or.inl (Or.inl a)
      · by_cases hs : s = t
        · subst hs
          exact Or.inl (Or.inr ⟨a, h3⟩)
        · exact Or.inr ⟨a, s, by omega, by omega, h3⟩
/-- one sweep: B of a commit is its own, or handed down by G of a child -/
theorem spF_bit (hor : ∀ x y : Int32, B (x ||| y) ↔ B x ∨ B y) {G : Int32 → Prop} (hhd : ∀ (M : Mt) (c : Nat), B (hdF M c) ↔ G (M 8 c)) {n : Nat} : ∀ {q : Nat} {M : Mt}, q ≤ n → okN M n → (∀ c, q ≤ c → spF q M 8 c = M 8 c) ∧ ∀ c, B (spF q M 8 c) ↔ B (M 8 c) ∨ ∃ y, y < q ∧ G (spF q M 8 y) ∧ ∃ s, s < pcn M y ∧ par M y s = c := by
  intro q
  induction q with
  | zero =>
    intro M _ ok
    refine ⟨fun c _ => rfl, fun c => ⟨Or.inl, ?_⟩⟩
    rintro (a | ⟨y, h, -⟩)
    · exact a
    · exact absurd h (Nat.not_lt_zero y)
  | succ q ih =>
    intro M hq ok
    have ok1 : okN (inF q (hdF M q) (pcn M q) 0 M) n := ok.rows (inF_row (by decide)) (inF_row (by decide))
    have e4 : ∀ y, pcn (inF q (hdF M q) (pcn M q) 0 M) y = pcn M y := fun y => by show ix (inF q (hdF M q) (pcn M q) 0 M 4 y) = ix (M 4 y); rw [inF_row (by decide)]
    have e5 : ∀ y s, par (inF q (hdF M q) (pcn M q) 0 M) y s = par M y s := fun y s => by show ix (inF q (hdF M q) (pcn M q) 0 M 5 (y * 4 + s)) = ix (M 5 (y * 4 + s)); rw [inF_row (by decide)]
    obtain ⟨i1, i2⟩ := ih (M := inF q (hdF M q) (pcn M q) 0 M) (by omega) ok1
    have hself : ∀ c, q ≤ c → inF q (hdF M q) (pcn M q) 0 M 8 c = M 8 c := by
      intro c hc
      exact inF_keep (fun s hs => by have := ok.lt (c := q) (by omega) (t := s) (by omega); omega)
    refine ⟨fun c hc => ?_, fun c => ?_⟩
    · rw [spF, i1 c (by omega), hself c (by omega)]
    · rw [spF]
      have eq : spF q (inF q (hdF M q) (pcn M q) 0 M) 8 q = M 8 q := by rw [i1 q (Nat.le_refl _), hself q (Nat.le_refl _)]
      rw [i2 c, inF_bit hor, hhd]
      constructor
      · rintro ((a | ⟨a, s, h1, h2, h3⟩) | ⟨y, h1, h2, s, h3, h4⟩)
        · exact Or.inl a
        · exact Or.inr ⟨q, by omega, by rw [eq]; exact a, s, by omega, h3⟩
        · exact Or.inr ⟨y, by omega, h2, s, by rw [e4] at h3; exact h3, by rw [e5] at h4; exact h4⟩
      · rintro (a | ⟨y, h1, h2, s, h3, h4⟩)
        · exact Or.inl (Or.inl a)
        · by_cases hy : y = q
          · subst hy
            rw [eq] at h2
            exact Or.inl (Or.inr ⟨h2, s, Nat.zero_le _, by omega, h4⟩)
          · exact Or.inr ⟨y, by omega, h2, s, by rw [e4]; exact h3, by rw [e5]; exact h4⟩
theorem spF_reach (hor : ∀ x y : Int32, B (x ||| y) ↔ B x ∨ B y) (hhd : ∀ (M : Mt) (c : Nat), B (hdF M c) ↔ B (M 8 c)) {n : Nat} {M : Mt} (ok : okN M n) {c : Nat} (hc : c < n) : B (spF n M 8 c) ↔ ∃ x, x < n ∧ B (M 8 x) ∧ RC M x c := by
  have hs := (spF_bit hor hhd (Nat.le_refl n) ok).2
  constructor
  · have key : ∀ d c, c < n → n - c ≤ d → B (spF n M 8 c) → ∃ x, x < n ∧ B (M 8 x) ∧ RC M x c := by
      intro d
      induction d with
      | zero => intro c h1 h2; omega
      | succ d ih =>
        intro c h1 h2 h3
        rcases (hs c).mp h3 with h4 | ⟨y, h4, h5, s, h6, h7⟩
        · exact ⟨c, h1, h4, 0, rfl⟩
        · have := ok.lt h4 h6
          obtain ⟨x, x1, x2, t, x3⟩ := ih y h4 (by omega) h5
          exact ⟨x, x1, x2, t + 1, by rw [← h7]; exact pth_snoc h6 x3⟩
    exact key n c hc (by omega)
  · rintro ⟨x, h1, h2, t, h3⟩
    have key : ∀ t x, x < n → B (spF n M 8 x) → pth M t x c → B (spF n M 8 c) := by
      intro t
      induction t with
      | zero =>
        intro x _ h h'
        obtain rfl : x = c := h'
        exact h
      | succ t ih =>
        intro x hx h h'
        obtain ⟨s, h4, h5⟩ := h'
        have := ok.lt hx h4
        exact ih (par M x s) (by omega) ((hs _).mpr (Or.inr ⟨x, hx, h, s, h4, rfl⟩)) h5
    exact key t x h1 ((hs x).mpr (Or.inl h2)) h3
end SW
end
section
theorem dX2_init_0 : decode cX2_init 0 = .ok (.aload_n 0, 1) := by decide +kernel
theorem dX2_init_1 : decode cX2_init 1 = .ok (.invokespecial 1, 3) := by decide +kernel
theorem dX2_init_4 : decode cX2_init 4 = .ok (.aload_n 0, 1) := by decide +kernel
theorem dX2_init_5 : decode cX2_init 5 = .ok (.sipush 2000, 3) := by decide +kernel
theorem dX2_init_8 : decode cX2_init 8 = .ok (.newarray .int, 2) := by decide +kernel
theorem dX2_init_10 : decode cX2_init 10 = .ok (.putfield 7, 3) := by decide +kernel
theorem dX2_init_13 : decode cX2_init 13 = .ok (.aload_n 0, 1) := by decide +kernel
theorem dX2_init_14 : decode cX2_init 14 = .ok (.sipush 2000, 3) := by decide +kernel
theorem dX2_init_17 : decode cX2_init 17 = .ok (.newarray .int, 2) := by decide +kernel
theorem dX2_init_19 : decode cX2_init 19 = .ok (.putfield 13, 3) := by decide +kernel
theorem dX2_init_22 : decode cX2_init 22 = .ok (.aload_n 0, 1) := by decide +kernel
theorem dX2_init_23 : decode cX2_init 23 = .ok (.sipush 2000, 3) := by decide +kernel
theorem dX2_init_26 : decode cX2_init 26 = .ok (.newarray .int, 2) := by decide +kernel
theorem dX2_init_28 : decode cX2_init 28 = .ok (.putfield 16, 3) := by decide +kernel
theorem dX2_init_31 : decode cX2_init 31 = .ok (.aload_n 0, 1) := by decide +kernel
theorem dX2_init_32 : decode cX2_init 32 = .ok (.sipush 8000, 3) := by decide +kernel
theorem dX2_init_35 : decode cX2_init 35 = .ok (.newarray .int, 2) := by decide +kernel
theorem dX2_init_37 : decode cX2_init 37 = .ok (.putfield 19, 3) := by decide +kernel
theorem dX2_init_40 : decode cX2_init 40 = .ok (.aload_n 0, 1) := by decide +kernel
theorem dX2_init_41 : decode cX2_init 41 = .ok (.sipush 2000, 3) := by decide +kernel
theorem dX2_init_44 : decode cX2_init 44 = .ok (.newarray .int, 2) := by decide +kernel
theorem dX2_init_46 : decode cX2_init 46 = .ok (.putfield 22, 3) := by decide +kernel
theorem dX2_init_49 : decode cX2_init 49 = .ok (.aload_n 0, 1) := by decide +kernel
theorem dX2_init_50 : decode cX2_init 50 = .ok (.sipush 4000, 3) := by decide +kernel
theorem dX2_init_53 : decode cX2_init 53 = .ok (.newarray .boolean, 2) := by decide +kernel
theorem dX2_init_55 : decode cX2_init 55 = .ok (.putfield 25, 3) := by decide +kernel
theorem dX2_init_58 : decode cX2_init 58 = .ok (.aload_n 0, 1) := by decide +kernel
theorem dX2_init_59 : decode cX2_init 59 = .ok (.sipush 2000, 3) := by decide +kernel
theorem dX2_init_62 : decode cX2_init 62 = .ok (.newarray .boolean, 2) := by decide +kernel
theorem dX2_init_64 : decode cX2_init 64 = .ok (.putfield 29, 3) := by decide +kernel
theorem dX2_init_67 : decode cX2_init 67 = .ok (.aload_n 0, 1) := by decide +kernel
theorem dX2_init_68 : decode cX2_init 68 = .ok (.sipush 2000, 3) := by decide +kernel
theorem dX2_init_71 : decode cX2_init 71 = .ok (.newarray .boolean, 2) := by decide +kernel
theorem dX2_init_73 : decode cX2_init 73 = .ok (.putfield 32, 3) := by decide +kernel
theorem dX2_init_76 : decode cX2_init 76 = .ok (.aload_n 0, 1) := by decide +kernel
theorem dX2_init_77 : decode cX2_init 77 = .ok (.sipush 2000, 3) := by decide +kernel
theorem dX2_init_80 : decode cX2_init 80 = .ok (.newarray .boolean, 2) := by decide +kernel
theorem dX2_init_82 : decode cX2_init 82 = .ok (.putfield 35, 3) := by decide +kernel
theorem dX2_init_85 : decode cX2_init 85 = .ok (.return_, 1) := by decide +kernel
theorem dX2_thrown_0 : decode cX2_thrown 0 = .ok (.aload_n 0, 1) := by decide +kernel
theorem dX2_thrown_1 : decode cX2_thrown 1 = .ok (.getfield 38, 3) := by decide +kernel
theorem dX2_thrown_4 : decode cX2_thrown 4 = .ok (.ireturn, 1) := by decide +kernel
theorem dX2_add_0 : decode cX2_add 0 = .ok (.aload_n 0, 1) := by decide +kernel
theorem dX2_add_1 : decode cX2_add 1 = .ok (.iconst 0, 1) := by decide +kernel
theorem dX2_add_2 : decode cX2_add 2 = .ok (.putfield 38, 3) := by decide +kernel
theorem dX2_add_5 : decode cX2_add 5 = .ok (.iload_n 3, 1) := by decide +kernel
theorem dX2_add_6 : decode cX2_add 6 = .ok (.iconst (-1), 1) := by decide +kernel
theorem dX2_add_7 : decode cX2_add 7 = .ok (.if_icmp .lt 41, 3) := by decide +kernel
theorem dX2_add_10 : decode cX2_add 10 = .ok (.iload_n 3, 1) := by decide +kernel
theorem dX2_add_11 : decode cX2_add 11 = .ok (.aload_n 0, 1) := by decide +kernel
theorem dX2_add_12 : decode cX2_add 12 = .ok (.getfield 42, 3) := by decide +kernel
theorem dX2_add_15 : decode cX2_add 15 = .ok (.if_icmp .ge 33, 3) := by decide +kernel
theorem dX2_add_18 : decode cX2_add 18 = .ok (.iload 4, 2) := by decide +kernel
theorem dX2_add_20 : decode cX2_add 20 = .ok (.iconst (-1), 1) := by decide +kernel
theorem dX2_add_21 : decode cX2_add 21 = .ok (.if_icmp .lt 27, 3) := by decide +kernel
theorem dX2_add_24 : decode cX2_add 24 = .ok (.iload 4, 2) := by decide +kernel
theorem dX2_add_26 : decode cX2_add 26 = .ok (.aload_n 0, 1) := by decide +kernel
theorem dX2_add_27 : decode cX2_add 27 = .ok (.getfield 42, 3) := by decide +kernel
theorem dX2_add_30 : decode cX2_add 30 = .ok (.if_icmp .ge 18, 3) := by decide +kernel
theorem dX2_add_33 : decode cX2_add 33 = .ok (.iload 5, 2) := by decide +kernel
theorem dX2_add_35 : decode cX2_add 35 = .ok (.iconst (-1), 1) := by decide +kernel
theorem dX2_add_36 : decode cX2_add 36 = .ok (.if_icmp .lt 12, 3) := by decide +kernel
theorem dX2_add_39 : decode cX2_add 39 = .ok (.iload 5, 2) := by decide +kernel
theorem dX2_add_41 : decode cX2_add 41 = .ok (.aload_n 0, 1) := by decide +kernel
theorem dX2_add_42 : decode cX2_add 42 = .ok (.getfield 42, 3) := by decide +kernel
theorem dX2_add_45 : decode cX2_add 45 = .ok (.if_icmp .lt 9, 3) := by decide +kernel
theorem dX2_add_48 : decode cX2_add 48 = .ok (.aload_n 0, 1) := by decide +kernel
theorem dX2_add_49 : decode cX2_add 49 = .ok (.iconst 1, 1) := by decide +kernel
theorem dX2_add_50 : decode cX2_add 50 = .ok (.invokevirtual 45, 3) := by decide +kernel
theorem dX2_add_53 : decode cX2_add 53 = .ok (.ireturn, 1) := by decide +kernel
theorem dX2_add_54 : decode cX2_add 54 = .ok (.aload_n 0, 1) := by decide +kernel
theorem dX2_add_55 : decode cX2_add 55 = .ok (.getfield 42, 3) := by decide +kernel
theorem dX2_add_58 : decode cX2_add 58 = .ok (.sipush 2000, 3) := by decide +kernel
theorem dX2_add_61 : decode cX2_add 61 = .ok (.if_icmp .ne 9, 3) := by decide +kernel
theorem dX2_add_64 : decode cX2_add 64 = .ok (.aload_n 0, 1) := by decide +kernel
theorem dX2_add_65 : decode cX2_add 65 = .ok (.iconst 2, 1) := by decide +kernel
theorem dX2_add_66 : decode cX2_add 66 = .ok (.invokevirtual 45, 3) := by decide +kernel
theorem dX2_add_69 : decode cX2_add 69 = .ok (.ireturn, 1) := by decide +kernel
theorem dX2_add_70 : decode cX2_add 70 = .ok (.aload_n 0, 1) := by decide +kernel
theorem dX2_add_71 : decode cX2_add 71 = .ok (.getfield 7, 3) := by decide +kernel
theorem dX2_add_74 : decode cX2_add 74 = .ok (.aload_n 0, 1) := by decide +kernel
theorem dX2_add_75 : decode cX2_add 75 = .ok (.getfield 42, 3) := by decide +kernel
theorem dX2_add_78 : decode cX2_add 78 = .ok (.iload_n 1, 1) := by decide +kernel
theorem dX2_add_79 : decode cX2_add 79 = .ok (.iastore, 1) := by decide +kernel
theorem dX2_add_80 : decode cX2_add 80 = .ok (.aload_n 0, 1) := by decide +kernel
theorem dX2_add_81 : decode cX2_add 81 = .ok (.getfield 13, 3) := by decide +kernel
theorem dX2_add_84 : decode cX2_add 84 = .ok (.aload_n 0, 1) := by decide +kernel
theorem dX2_add_85 : decode cX2_add 85 = .ok (.getfield 42, 3) := by decide +kernel
theorem dX2_add_88 : decode cX2_add 88 = .ok (.iload_n 2, 1) := by decide +kernel
theorem dX2_add_89 : decode cX2_add 89 = .ok (.iastore, 1) := by decide +kernel
theorem dX2_add_90 : decode cX2_add 90 = .ok (.aload_n 0, 1) := by decide +kernel
theorem dX2_add_91 : decode cX2_add 91 = .ok (.getfield 16, 3) := by decide +kernel
theorem dX2_add_94 : decode cX2_add 94 = .ok (.aload_n 0, 1) := by decide +kernel
theorem dX2_add_95 : decode cX2_add 95 = .ok (.getfield 42, 3) := by decide +kernel
theorem dX2_add_98 : decode cX2_add 98 = .ok (.iconst 0, 1) := by decide +kernel
theorem dX2_add_99 : decode cX2_add 99 = .ok (.iastore, 1) := by decide +kernel
theorem dX2_add_100 : decode cX2_add 100 = .ok (.aload_n 0, 1) := by decide +kernel
theorem dX2_add_101 : decode cX2_add 101 = .ok (.aload_n 0, 1) := by decide +kernel
theorem dX2_add_102 : decode cX2_add 102 = .ok (.getfield 42, 3) := by decide +kernel
theorem dX2_add_105 : decode cX2_add 105 = .ok (.iload_n 3, 1) := by decide +kernel
theorem dX2_add_106 : decode cX2_add 106 = .ok (.invokevirtual 49, 3) := by decide +kernel
theorem dX2_add_109 : decode cX2_add 109 = .ok (.aload_n 0, 1) := by decide +kernel
theorem dX2_add_110 : decode cX2_add 110 = .ok (.aload_n 0, 1) := by decide +kernel
theorem dX2_add_111 : decode cX2_add 111 = .ok (.getfield 42, 3) := by decide +kernel
theorem dX2_add_114 : decode cX2_add 114 = .ok (.iload 4, 2) := by decide +kernel
theorem dX2_add_116 : decode cX2_add 116 = .ok (.invokevirtual 49, 3) := by decide +kernel
theorem dX2_add_119 : decode cX2_add 119 = .ok (.aload_n 0, 1) := by decide +kernel
theorem dX2_add_120 : decode cX2_add 120 = .ok (.aload_n 0, 1) := by decide +kernel
theorem dX2_add_121 : decode cX2_add 121 = .ok (.getfield 42, 3) := by decide +kernel
theorem dX2_add_124 : decode cX2_add 124 = .ok (.iload 5, 2) := by decide +kernel
theorem dX2_add_126 : decode cX2_add 126 = .ok (.invokevirtual 49, 3) := by decide +kernel
theorem dX2_add_129 : decode cX2_add 129 = .ok (.aload_n 0, 1) := by decide +kernel
theorem dX2_add_130 : decode cX2_add 130 = .ok (.dup, 1) := by decide +kernel
theorem dX2_add_131 : decode cX2_add 131 = .ok (.getfield 42, 3) := by decide +kernel
theorem dX2_add_134 : decode cX2_add 134 = .ok (.iconst 1, 1) := by decide +kernel
theorem dX2_add_135 : decode cX2_add 135 = .ok (.iadd, 1) := by decide +kernel
theorem dX2_add_136 : decode cX2_add 136 = .ok (.putfield 42, 3) := by decide +kernel
theorem dX2_add_139 : decode cX2_add 139 = .ok (.aload_n 0, 1) := by decide +kernel
theorem dX2_add_140 : decode cX2_add 140 = .ok (.getfield 42, 3) := by decide +kernel
theorem dX2_add_143 : decode cX2_add 143 = .ok (.iconst 1, 1) := by decide +kernel
theorem dX2_add_144 : decode cX2_add 144 = .ok (.isub, 1) := by decide +kernel
theorem dX2_add_145 : decode cX2_add 145 = .ok (.ireturn, 1) := by decide +kernel
theorem dX2_refuse_0 : decode cX2_refuse 0 = .ok (.aload_n 0, 1) := by decide +kernel
theorem dX2_refuse_1 : decode cX2_refuse 1 = .ok (.iload_n 1, 1) := by decide +kernel
theorem dX2_refuse_2 : decode cX2_refuse 2 = .ok (.putfield 38, 3) := by decide +kernel
theorem dX2_refuse_5 : decode cX2_refuse 5 = .ok (.iconst 0, 1) := by decide +kernel
theorem dX2_refuse_6 : decode cX2_refuse 6 = .ok (.ireturn, 1) := by decide +kernel
theorem dX2_join_0 : decode cX2_join 0 = .ok (.iload_n 2, 1) := by decide +kernel
theorem dX2_join_1 : decode cX2_join 1 = .ok (.ifCond .ge 4, 3) := by decide +kernel
theorem dX2_join_4 : decode cX2_join 4 = .ok (.return_, 1) := by decide +kernel
theorem dX2_join_5 : decode cX2_join 5 = .ok (.aload_n 0, 1) := by decide +kernel
theorem dX2_join_6 : decode cX2_join 6 = .ok (.getfield 19, 3) := by decide +kernel
theorem dX2_join_9 : decode cX2_join 9 = .ok (.iload_n 1, 1) := by decide +kernel
theorem dX2_join_10 : decode cX2_join 10 = .ok (.iconst 4, 1) := by decide +kernel
theorem dX2_join_11 : decode cX2_join 11 = .ok (.imul, 1) := by decide +kernel
theorem dX2_join_12 : decode cX2_join 12 = .ok (.aload_n 0, 1) := by decide +kernel
theorem dX2_join_13 : decode cX2_join 13 = .ok (.getfield 16, 3) := by decide +kernel
theorem dX2_join_16 : decode cX2_join 16 = .ok (.iload_n 1, 1) := by decide +kernel
theorem dX2_join_17 : decode cX2_join 17 = .ok (.iaload, 1) := by decide +kernel
theorem dX2_join_18 : decode cX2_join 18 = .ok (.iadd, 1) := by decide +kernel
theorem dX2_join_19 : decode cX2_join 19 = .ok (.iload_n 2, 1) := by decide +kernel
theorem dX2_join_20 : decode cX2_join 20 = .ok (.iastore, 1) := by decide +kernel
theorem dX2_join_21 : decode cX2_join 21 = .ok (.aload_n 0, 1) := by decide +kernel
theorem dX2_join_22 : decode cX2_join 22 = .ok (.getfield 16, 3) := by decide +kernel
theorem dX2_join_25 : decode cX2_join 25 = .ok (.iload_n 1, 1) := by decide +kernel
theorem dX2_join_26 : decode cX2_join 26 = .ok (.dup2, 1) := by decide +kernel
theorem dX2_join_27 : decode cX2_join 27 = .ok (.iaload, 1) := by decide +kernel
theorem dX2_join_28 : decode cX2_join 28 = .ok (.iconst 1, 1) := by decide +kernel
theorem dX2_join_29 : decode cX2_join 29 = .ok (.iadd, 1) := by decide +kernel
theorem dX2_join_30 : decode cX2_join 30 = .ok (.iastore, 1) := by decide +kernel
end
section
theorem dX2_join_31 : decode cX2_join 31 = .ok (.return_, 1) := by decide +kernel
theorem dX2_under_0 : decode cX2_under 0 = .ok (.aload_n 0, 1) := by decide +kernel
theorem dX2_under_1 : decode cX2_under 1 = .ok (.iconst 0, 1) := by decide +kernel
theorem dX2_under_2 : decode cX2_under 2 = .ok (.putfield 38, 3) := by decide +kernel
theorem dX2_under_5 : decode cX2_under 5 = .ok (.aload_n 0, 1) := by decide +kernel
theorem dX2_under_6 : decode cX2_under 6 = .ok (.iload_n 1, 1) := by decide +kernel
theorem dX2_under_7 : decode cX2_under 7 = .ok (.invokevirtual 57, 3) := by decide +kernel
theorem dX2_under_10 : decode cX2_under 10 = .ok (.ifCond .eq 12, 3) := by decide +kernel
theorem dX2_under_13 : decode cX2_under 13 = .ok (.iload_n 2, 1) := by decide +kernel
theorem dX2_under_14 : decode cX2_under 14 = .ok (.ifCond .lt 8, 3) := by decide +kernel
theorem dX2_under_17 : decode cX2_under 17 = .ok (.iload_n 2, 1) := by decide +kernel
theorem dX2_under_18 : decode cX2_under 18 = .ok (.iload_n 1, 1) := by decide +kernel
theorem dX2_under_19 : decode cX2_under 19 = .ok (.if_icmp .lt 9, 3) := by decide +kernel
theorem dX2_under_22 : decode cX2_under 22 = .ok (.aload_n 0, 1) := by decide +kernel
theorem dX2_under_23 : decode cX2_under 23 = .ok (.iconst 1, 1) := by decide +kernel
theorem dX2_under_24 : decode cX2_under 24 = .ok (.invokevirtual 45, 3) := by decide +kernel
theorem dX2_under_27 : decode cX2_under 27 = .ok (.ireturn, 1) := by decide +kernel
theorem dX2_under_28 : decode cX2_under 28 = .ok (.aload_n 0, 1) := by decide +kernel
theorem dX2_under_29 : decode cX2_under 29 = .ok (.iload_n 1, 1) := by decide +kernel
theorem dX2_under_30 : decode cX2_under 30 = .ok (.invokevirtual 61, 3) := by decide +kernel
theorem dX2_under_33 : decode cX2_under 33 = .ok (.ifCond .ne 13, 3) := by decide +kernel
theorem dX2_under_36 : decode cX2_under 36 = .ok (.aload_n 0, 1) := by decide +kernel
theorem dX2_under_37 : decode cX2_under 37 = .ok (.getfield 16, 3) := by decide +kernel
theorem dX2_under_40 : decode cX2_under 40 = .ok (.iload_n 1, 1) := by decide +kernel
theorem dX2_under_41 : decode cX2_under 41 = .ok (.iaload, 1) := by decide +kernel
theorem dX2_under_42 : decode cX2_under 42 = .ok (.iconst 4, 1) := by decide +kernel
theorem dX2_under_43 : decode cX2_under 43 = .ok (.if_icmp .ne 9, 3) := by decide +kernel
theorem dX2_under_46 : decode cX2_under 46 = .ok (.aload_n 0, 1) := by decide +kernel
theorem dX2_under_47 : decode cX2_under 47 = .ok (.iconst 2, 1) := by decide +kernel
theorem dX2_under_48 : decode cX2_under 48 = .ok (.invokevirtual 45, 3) := by decide +kernel
theorem dX2_under_51 : decode cX2_under 51 = .ok (.ireturn, 1) := by decide +kernel
theorem dX2_under_52 : decode cX2_under 52 = .ok (.aload_n 0, 1) := by decide +kernel
theorem dX2_under_53 : decode cX2_under 53 = .ok (.iload_n 1, 1) := by decide +kernel
theorem dX2_under_54 : decode cX2_under 54 = .ok (.iload_n 2, 1) := by decide +kernel
theorem dX2_under_55 : decode cX2_under 55 = .ok (.invokevirtual 49, 3) := by decide +kernel
theorem dX2_under_58 : decode cX2_under 58 = .ok (.aload_n 0, 1) := by decide +kernel
theorem dX2_under_59 : decode cX2_under 59 = .ok (.getfield 16, 3) := by decide +kernel
theorem dX2_under_62 : decode cX2_under 62 = .ok (.iload_n 1, 1) := by decide +kernel
theorem dX2_under_63 : decode cX2_under 63 = .ok (.iaload, 1) := by decide +kernel
theorem dX2_under_64 : decode cX2_under 64 = .ok (.ireturn, 1) := by decide +kernel
theorem dX2_there_0 : decode cX2_there 0 = .ok (.iload_n 1, 1) := by decide +kernel
theorem dX2_there_1 : decode cX2_there 1 = .ok (.ifCond .lt 15, 3) := by decide +kernel
theorem dX2_there_4 : decode cX2_there 4 = .ok (.iload_n 1, 1) := by decide +kernel
theorem dX2_there_5 : decode cX2_there 5 = .ok (.aload_n 0, 1) := by decide +kernel
theorem dX2_there_6 : decode cX2_there 6 = .ok (.getfield 42, 3) := by decide +kernel
theorem dX2_there_9 : decode cX2_there 9 = .ok (.if_icmp .ge 7, 3) := by decide +kernel
theorem dX2_there_12 : decode cX2_there 12 = .ok (.iconst 1, 1) := by decide +kernel
theorem dX2_there_13 : decode cX2_there 13 = .ok (.goto 4, 3) := by decide +kernel
theorem dX2_there_16 : decode cX2_there 16 = .ok (.iconst 0, 1) := by decide +kernel
theorem dX2_there_17 : decode cX2_there 17 = .ok (.ireturn, 1) := by decide +kernel
theorem dX2_isAnyParent_0 : decode cX2_isAnyParent 0 = .ok (.iconst 0, 1) := by decide +kernel
theorem dX2_isAnyParent_1 : decode cX2_isAnyParent 1 = .ok (.istore_n 2, 1) := by decide +kernel
theorem dX2_isAnyParent_2 : decode cX2_isAnyParent 2 = .ok (.iload_n 2, 1) := by decide +kernel
theorem dX2_isAnyParent_3 : decode cX2_isAnyParent 3 = .ok (.aload_n 0, 1) := by decide +kernel
theorem dX2_isAnyParent_4 : decode cX2_isAnyParent 4 = .ok (.getfield 42, 3) := by decide +kernel
theorem dX2_isAnyParent_7 : decode cX2_isAnyParent 7 = .ok (.if_icmp .ge 20, 3) := by decide +kernel
theorem dX2_isAnyParent_10 : decode cX2_isAnyParent 10 = .ok (.aload_n 0, 1) := by decide +kernel
theorem dX2_isAnyParent_11 : decode cX2_isAnyParent 11 = .ok (.iload_n 1, 1) := by decide +kernel
theorem dX2_isAnyParent_12 : decode cX2_isAnyParent 12 = .ok (.iload_n 2, 1) := by decide +kernel
theorem dX2_isAnyParent_13 : decode cX2_isAnyParent 13 = .ok (.invokevirtual 53, 3) := by decide +kernel
theorem dX2_isAnyParent_16 : decode cX2_isAnyParent 16 = .ok (.ifCond .eq 5, 3) := by decide +kernel
theorem dX2_isAnyParent_19 : decode cX2_isAnyParent 19 = .ok (.iconst 1, 1) := by decide +kernel
theorem dX2_isAnyParent_20 : decode cX2_isAnyParent 20 = .ok (.ireturn, 1) := by decide +kernel
theorem dX2_isAnyParent_21 : decode cX2_isAnyParent 21 = .ok (.iinc 2 1, 3) := by decide +kernel
theorem dX2_isAnyParent_24 : decode cX2_isAnyParent 24 = .ok (.goto (-22), 3) := by decide +kernel
theorem dX2_isAnyParent_27 : decode cX2_isAnyParent 27 = .ok (.iconst 0, 1) := by decide +kernel
theorem dX2_isAnyParent_28 : decode cX2_isAnyParent 28 = .ok (.ireturn, 1) := by decide +kernel
theorem dX2_isParent_0 : decode cX2_isParent 0 = .ok (.iconst 0, 1) := by decide +kernel
theorem dX2_isParent_1 : decode cX2_isParent 1 = .ok (.istore_n 3, 1) := by decide +kernel
theorem dX2_isParent_2 : decode cX2_isParent 2 = .ok (.iload_n 3, 1) := by decide +kernel
theorem dX2_isParent_3 : decode cX2_isParent 3 = .ok (.aload_n 0, 1) := by decide +kernel
theorem dX2_isParent_4 : decode cX2_isParent 4 = .ok (.getfield 16, 3) := by decide +kernel
theorem dX2_isParent_7 : decode cX2_isParent 7 = .ok (.iload_n 2, 1) := by decide +kernel
theorem dX2_isParent_8 : decode cX2_isParent 8 = .ok (.iaload, 1) := by decide +kernel
theorem dX2_isParent_9 : decode cX2_isParent 9 = .ok (.if_icmp .ge 25, 3) := by decide +kernel
theorem dX2_isParent_12 : decode cX2_isParent 12 = .ok (.aload_n 0, 1) := by decide +kernel
theorem dX2_isParent_13 : decode cX2_isParent 13 = .ok (.getfield 19, 3) := by decide +kernel
theorem dX2_isParent_16 : decode cX2_isParent 16 = .ok (.iload_n 2, 1) := by decide +kernel
theorem dX2_isParent_17 : decode cX2_isParent 17 = .ok (.iconst 4, 1) := by decide +kernel
theorem dX2_isParent_18 : decode cX2_isParent 18 = .ok (.imul, 1) := by decide +kernel
theorem dX2_isParent_19 : decode cX2_isParent 19 = .ok (.iload_n 3, 1) := by decide +kernel
theorem dX2_isParent_20 : decode cX2_isParent 20 = .ok (.iadd, 1) := by decide +kernel
theorem dX2_isParent_21 : decode cX2_isParent 21 = .ok (.iaload, 1) := by decide +kernel
theorem dX2_isParent_22 : decode cX2_isParent 22 = .ok (.iload_n 1, 1) := by decide +kernel
theorem dX2_isParent_23 : decode cX2_isParent 23 = .ok (.if_icmp .ne 5, 3) := by decide +kernel
theorem dX2_isParent_26 : decode cX2_isParent 26 = .ok (.iconst 1, 1) := by decide +kernel
theorem dX2_isParent_27 : decode cX2_isParent 27 = .ok (.ireturn, 1) := by decide +kernel
theorem dX2_isParent_28 : decode cX2_isParent 28 = .ok (.iinc 3 1, 3) := by decide +kernel
theorem dX2_isParent_31 : decode cX2_isParent 31 = .ok (.goto (-29), 3) := by decide +kernel
theorem dX2_isParent_34 : decode cX2_isParent 34 = .ok (.iconst 0, 1) := by decide +kernel
theorem dX2_isParent_35 : decode cX2_isParent 35 = .ok (.ireturn, 1) := by decide +kernel
theorem dX2_tip_0 : decode cX2_tip 0 = .ok (.aload_n 0, 1) := by decide +kernel
theorem dX2_tip_1 : decode cX2_tip 1 = .ok (.iconst 0, 1) := by decide +kernel
theorem dX2_tip_2 : decode cX2_tip 2 = .ok (.putfield 38, 3) := by decide +kernel
theorem dX2_tip_5 : decode cX2_tip 5 = .ok (.iload_n 1, 1) := by decide +kernel
theorem dX2_tip_6 : decode cX2_tip 6 = .ok (.ifCond .lt 16, 3) := by decide +kernel
theorem dX2_tip_9 : decode cX2_tip 9 = .ok (.iload_n 1, 1) := by decide +kernel
theorem dX2_tip_10 : decode cX2_tip 10 = .ok (.iconst 1, 1) := by decide +kernel
theorem dX2_tip_11 : decode cX2_tip 11 = .ok (.if_icmp .gt 11, 3) := by decide +kernel
theorem dX2_tip_14 : decode cX2_tip 14 = .ok (.aload_n 0, 1) := by decide +kernel
theorem dX2_tip_15 : decode cX2_tip 15 = .ok (.iload_n 2, 1) := by decide +kernel
theorem dX2_tip_16 : decode cX2_tip 16 = .ok (.invokevirtual 57, 3) := by decide +kernel
theorem dX2_tip_19 : decode cX2_tip 19 = .ok (.ifCond .ne 11, 3) := by decide +kernel
theorem dX2_tip_22 : decode cX2_tip 22 = .ok (.aload_n 0, 1) := by decide +kernel
theorem dX2_tip_23 : decode cX2_tip 23 = .ok (.iconst 1, 1) := by decide +kernel
theorem dX2_tip_24 : decode cX2_tip 24 = .ok (.putfield 38, 3) := by decide +kernel
theorem dX2_tip_27 : decode cX2_tip 27 = .ok (.goto 16, 3) := by decide +kernel
theorem dX2_tip_30 : decode cX2_tip 30 = .ok (.aload_n 0, 1) := by decide +kernel
theorem dX2_tip_31 : decode cX2_tip 31 = .ok (.getfield 25, 3) := by decide +kernel
theorem dX2_tip_34 : decode cX2_tip 34 = .ok (.iload_n 1, 1) := by decide +kernel
theorem dX2_tip_35 : decode cX2_tip 35 = .ok (.sipush 2000, 3) := by decide +kernel
theorem dX2_tip_38 : decode cX2_tip 38 = .ok (.imul, 1) := by decide +kernel
theorem dX2_tip_39 : decode cX2_tip 39 = .ok (.iload_n 2, 1) := by decide +kernel
theorem dX2_tip_40 : decode cX2_tip 40 = .ok (.iadd, 1) := by decide +kernel
theorem dX2_tip_41 : decode cX2_tip 41 = .ok (.iload_n 3, 1) := by decide +kernel
theorem dX2_tip_42 : decode cX2_tip 42 = .ok (.bastore, 1) := by decide +kernel
theorem dX2_tip_43 : decode cX2_tip 43 = .ok (.return_, 1) := by decide +kernel
theorem dX2_reaches_0 : decode cX2_reaches 0 = .ok (.aload_n 0, 1) := by decide +kernel
theorem dX2_reaches_1 : decode cX2_reaches 1 = .ok (.iconst 0, 1) := by decide +kernel
theorem dX2_reaches_2 : decode cX2_reaches 2 = .ok (.putfield 38, 3) := by decide +kernel
theorem dX2_reaches_5 : decode cX2_reaches 5 = .ok (.aload_n 0, 1) := by decide +kernel
theorem dX2_reaches_6 : decode cX2_reaches 6 = .ok (.iload_n 1, 1) := by decide +kernel
theorem dX2_reaches_7 : decode cX2_reaches 7 = .ok (.invokevirtual 57, 3) := by decide +kernel
theorem dX2_reaches_10 : decode cX2_reaches 10 = .ok (.ifCond .eq 11, 3) := by decide +kernel
theorem dX2_reaches_13 : decode cX2_reaches 13 = .ok (.aload_n 0, 1) := by decide +kernel
theorem dX2_reaches_14 : decode cX2_reaches 14 = .ok (.iload_n 2, 1) := by decide +kernel
theorem dX2_reaches_15 : decode cX2_reaches 15 = .ok (.invokevirtual 57, 3) := by decide +kernel
theorem dX2_reaches_18 : decode cX2_reaches 18 = .ok (.ifCond .ne 10, 3) := by decide +kernel
theorem dX2_reaches_21 : decode cX2_reaches 21 = .ok (.aload_n 0, 1) := by decide +kernel
theorem dX2_reaches_22 : decode cX2_reaches 22 = .ok (.iconst 1, 1) := by decide +kernel
theorem dX2_reaches_23 : decode cX2_reaches 23 = .ok (.putfield 38, 3) := by decide +kernel
theorem dX2_reaches_26 : decode cX2_reaches 26 = .ok (.iconst 0, 1) := by decide +kernel
theorem dX2_reaches_27 : decode cX2_reaches 27 = .ok (.ireturn, 1) := by decide +kernel
theorem dX2_reaches_28 : decode cX2_reaches 28 = .ok (.aload_n 0, 1) := by decide +kernel
theorem dX2_reaches_29 : decode cX2_reaches 29 = .ok (.iload_n 1, 1) := by decide +kernel
theorem dX2_reaches_30 : decode cX2_reaches 30 = .ok (.aload_n 0, 1) := by decide +kernel
theorem dX2_reaches_31 : decode cX2_reaches 31 = .ok (.getfield 29, 3) := by decide +kernel
theorem dX2_reaches_34 : decode cX2_reaches 34 = .ok (.invokevirtual 68, 3) := by decide +kernel
theorem dX2_reaches_37 : decode cX2_reaches 37 = .ok (.aload_n 0, 1) := by decide +kernel
theorem dX2_reaches_38 : decode cX2_reaches 38 = .ok (.getfield 29, 3) := by decide +kernel
theorem dX2_reaches_41 : decode cX2_reaches 41 = .ok (.iload_n 2, 1) := by decide +kernel
theorem dX2_reaches_42 : decode cX2_reaches 42 = .ok (.baload, 1) := by decide +kernel
theorem dX2_reaches_43 : decode cX2_reaches 43 = .ok (.ireturn, 1) := by decide +kernel
theorem dX2_from_0 : decode cX2_from 0 = .ok (.iconst 0, 1) := by decide +kernel
theorem dX2_from_1 : decode cX2_from 1 = .ok (.istore_n 3, 1) := by decide +kernel
theorem dX2_from_2 : decode cX2_from 2 = .ok (.iload_n 3, 1) := by decide +kernel
theorem dX2_from_3 : decode cX2_from 3 = .ok (.sipush 2000, 3) := by decide +kernel
theorem dX2_from_6 : decode cX2_from 6 = .ok (.if_icmp .ge 22, 3) := by decide +kernel
theorem dX2_from_9 : decode cX2_from 9 = .ok (.aload_n 2, 1) := by decide +kernel
theorem dX2_from_10 : decode cX2_from 10 = .ok (.iload_n 3, 1) := by decide +kernel
end
section
theorem dX2_from_11 : decode cX2_from 11 = .ok (.iload_n 3, 1) := by decide +kernel
theorem dX2_from_12 : decode cX2_from 12 = .ok (.iload_n 1, 1) := by decide +kernel
theorem dX2_from_13 : decode cX2_from 13 = .ok (.if_icmp .ne 7, 3) := by decide +kernel
theorem dX2_from_16 : decode cX2_from 16 = .ok (.iconst 1, 1) := by decide +kernel
theorem dX2_from_17 : decode cX2_from 17 = .ok (.goto 4, 3) := by decide +kernel
theorem dX2_from_20 : decode cX2_from 20 = .ok (.iconst 0, 1) := by decide +kernel
theorem dX2_from_21 : decode cX2_from 21 = .ok (.bastore, 1) := by decide +kernel
theorem dX2_from_22 : decode cX2_from 22 = .ok (.iinc 3 1, 3) := by decide +kernel
theorem dX2_from_25 : decode cX2_from 25 = .ok (.goto (-23), 3) := by decide +kernel
theorem dX2_from_28 : decode cX2_from 28 = .ok (.aload_n 0, 1) := by decide +kernel
theorem dX2_from_29 : decode cX2_from 29 = .ok (.aload_n 2, 1) := by decide +kernel
theorem dX2_from_30 : decode cX2_from 30 = .ok (.invokevirtual 64, 3) := by decide +kernel
theorem dX2_from_33 : decode cX2_from 33 = .ok (.return_, 1) := by decide +kernel
theorem dX2_close_0 : decode cX2_close 0 = .ok (.aload_n 0, 1) := by decide +kernel
theorem dX2_close_1 : decode cX2_close 1 = .ok (.getfield 42, 3) := by decide +kernel
theorem dX2_close_4 : decode cX2_close 4 = .ok (.iconst 1, 1) := by decide +kernel
theorem dX2_close_5 : decode cX2_close 5 = .ok (.isub, 1) := by decide +kernel
theorem dX2_close_6 : decode cX2_close 6 = .ok (.istore_n 2, 1) := by decide +kernel
theorem dX2_close_7 : decode cX2_close 7 = .ok (.iload_n 2, 1) := by decide +kernel
theorem dX2_close_8 : decode cX2_close 8 = .ok (.ifCond .lt 46, 3) := by decide +kernel
theorem dX2_close_11 : decode cX2_close 11 = .ok (.iconst 0, 1) := by decide +kernel
theorem dX2_close_12 : decode cX2_close 12 = .ok (.istore_n 3, 1) := by decide +kernel
theorem dX2_close_13 : decode cX2_close 13 = .ok (.iload_n 3, 1) := by decide +kernel
theorem dX2_close_14 : decode cX2_close 14 = .ok (.aload_n 0, 1) := by decide +kernel
theorem dX2_close_15 : decode cX2_close 15 = .ok (.getfield 16, 3) := by decide +kernel
theorem dX2_close_18 : decode cX2_close 18 = .ok (.iload_n 2, 1) := by decide +kernel
theorem dX2_close_19 : decode cX2_close 19 = .ok (.iaload, 1) := by decide +kernel
theorem dX2_close_20 : decode cX2_close 20 = .ok (.if_icmp .ge 28, 3) := by decide +kernel
theorem dX2_close_23 : decode cX2_close 23 = .ok (.aload_n 1, 1) := by decide +kernel
theorem dX2_close_24 : decode cX2_close 24 = .ok (.iload_n 2, 1) := by decide +kernel
theorem dX2_close_25 : decode cX2_close 25 = .ok (.baload, 1) := by decide +kernel
theorem dX2_close_26 : decode cX2_close 26 = .ok (.ifCond .eq 22, 3) := by decide +kernel
theorem dX2_close_29 : decode cX2_close 29 = .ok (.aload_n 1, 1) := by decide +kernel
theorem dX2_close_30 : decode cX2_close 30 = .ok (.aload_n 0, 1) := by decide +kernel
theorem dX2_close_31 : decode cX2_close 31 = .ok (.getfield 19, 3) := by decide +kernel
theorem dX2_close_34 : decode cX2_close 34 = .ok (.iload_n 2, 1) := by decide +kernel
theorem dX2_close_35 : decode cX2_close 35 = .ok (.iconst 4, 1) := by decide +kernel
theorem dX2_close_36 : decode cX2_close 36 = .ok (.imul, 1) := by decide +kernel
theorem dX2_close_37 : decode cX2_close 37 = .ok (.iload_n 3, 1) := by decide +kernel
theorem dX2_close_38 : decode cX2_close 38 = .ok (.iadd, 1) := by decide +kernel
theorem dX2_close_39 : decode cX2_close 39 = .ok (.iaload, 1) := by decide +kernel
theorem dX2_close_40 : decode cX2_close 40 = .ok (.iconst 1, 1) := by decide +kernel
theorem dX2_close_41 : decode cX2_close 41 = .ok (.bastore, 1) := by decide +kernel
theorem dX2_close_42 : decode cX2_close 42 = .ok (.iinc 3 1, 3) := by decide +kernel
theorem dX2_close_45 : decode cX2_close 45 = .ok (.goto (-32), 3) := by decide +kernel
theorem dX2_close_48 : decode cX2_close 48 = .ok (.iinc 2 (-1), 3) := by decide +kernel
theorem dX2_close_51 : decode cX2_close 51 = .ok (.goto (-44), 3) := by decide +kernel
theorem dX2_close_54 : decode cX2_close 54 = .ok (.return_, 1) := by decide +kernel
theorem dX2_base_0 : decode cX2_base 0 = .ok (.aload_n 0, 1) := by decide +kernel
theorem dX2_base_1 : decode cX2_base 1 = .ok (.iconst 0, 1) := by decide +kernel
theorem dX2_base_2 : decode cX2_base 2 = .ok (.putfield 38, 3) := by decide +kernel
theorem dX2_base_5 : decode cX2_base 5 = .ok (.aload_n 0, 1) := by decide +kernel
theorem dX2_base_6 : decode cX2_base 6 = .ok (.iload_n 1, 1) := by decide +kernel
theorem dX2_base_7 : decode cX2_base 7 = .ok (.invokevirtual 57, 3) := by decide +kernel
theorem dX2_base_10 : decode cX2_base 10 = .ok (.ifCond .eq 11, 3) := by decide +kernel
theorem dX2_base_13 : decode cX2_base 13 = .ok (.aload_n 0, 1) := by decide +kernel
theorem dX2_base_14 : decode cX2_base 14 = .ok (.iload_n 2, 1) := by decide +kernel
theorem dX2_base_15 : decode cX2_base 15 = .ok (.invokevirtual 57, 3) := by decide +kernel
theorem dX2_base_18 : decode cX2_base 18 = .ok (.ifCond .ne 9, 3) := by decide +kernel
theorem dX2_base_21 : decode cX2_base 21 = .ok (.aload_n 0, 1) := by decide +kernel
theorem dX2_base_22 : decode cX2_base 22 = .ok (.iconst 1, 1) := by decide +kernel
theorem dX2_base_23 : decode cX2_base 23 = .ok (.invokevirtual 45, 3) := by decide +kernel
theorem dX2_base_26 : decode cX2_base 26 = .ok (.ireturn, 1) := by decide +kernel
theorem dX2_base_27 : decode cX2_base 27 = .ok (.aload_n 0, 1) := by decide +kernel
theorem dX2_base_28 : decode cX2_base 28 = .ok (.iload_n 1, 1) := by decide +kernel
theorem dX2_base_29 : decode cX2_base 29 = .ok (.aload_n 0, 1) := by decide +kernel
theorem dX2_base_30 : decode cX2_base 30 = .ok (.getfield 29, 3) := by decide +kernel
theorem dX2_base_33 : decode cX2_base 33 = .ok (.invokevirtual 68, 3) := by decide +kernel
theorem dX2_base_36 : decode cX2_base 36 = .ok (.aload_n 0, 1) := by decide +kernel
theorem dX2_base_37 : decode cX2_base 37 = .ok (.iload_n 2, 1) := by decide +kernel
theorem dX2_base_38 : decode cX2_base 38 = .ok (.aload_n 0, 1) := by decide +kernel
theorem dX2_base_39 : decode cX2_base 39 = .ok (.getfield 32, 3) := by decide +kernel
theorem dX2_base_42 : decode cX2_base 42 = .ok (.invokevirtual 68, 3) := by decide +kernel
theorem dX2_base_45 : decode cX2_base 45 = .ok (.iconst 0, 1) := by decide +kernel
theorem dX2_base_46 : decode cX2_base 46 = .ok (.istore 4, 2) := by decide +kernel
theorem dX2_base_48 : decode cX2_base 48 = .ok (.iload 4, 2) := by decide +kernel
theorem dX2_base_50 : decode cX2_base 50 = .ok (.aload_n 0, 1) := by decide +kernel
theorem dX2_base_51 : decode cX2_base 51 = .ok (.getfield 42, 3) := by decide +kernel
theorem dX2_base_54 : decode cX2_base 54 = .ok (.if_icmp .ge 63, 3) := by decide +kernel
theorem dX2_base_57 : decode cX2_base 57 = .ok (.aload_n 0, 1) := by decide +kernel
theorem dX2_base_58 : decode cX2_base 58 = .ok (.getfield 29, 3) := by decide +kernel
theorem dX2_base_61 : decode cX2_base 61 = .ok (.iload 4, 2) := by decide +kernel
theorem dX2_base_63 : decode cX2_base 63 = .ok (.aload_n 0, 1) := by decide +kernel
theorem dX2_base_64 : decode cX2_base 64 = .ok (.getfield 29, 3) := by decide +kernel
theorem dX2_base_67 : decode cX2_base 67 = .ok (.iload 4, 2) := by decide +kernel
theorem dX2_base_69 : decode cX2_base 69 = .ok (.baload, 1) := by decide +kernel
theorem dX2_base_70 : decode cX2_base 70 = .ok (.ifCond .eq 17, 3) := by decide +kernel
theorem dX2_base_73 : decode cX2_base 73 = .ok (.aload_n 0, 1) := by decide +kernel
theorem dX2_base_74 : decode cX2_base 74 = .ok (.getfield 32, 3) := by decide +kernel
theorem dX2_base_77 : decode cX2_base 77 = .ok (.iload 4, 2) := by decide +kernel
theorem dX2_base_79 : decode cX2_base 79 = .ok (.baload, 1) := by decide +kernel
theorem dX2_base_80 : decode cX2_base 80 = .ok (.ifCond .eq 7, 3) := by decide +kernel
theorem dX2_base_83 : decode cX2_base 83 = .ok (.iconst 1, 1) := by decide +kernel
theorem dX2_base_84 : decode cX2_base 84 = .ok (.goto 4, 3) := by decide +kernel
theorem dX2_base_87 : decode cX2_base 87 = .ok (.iconst 0, 1) := by decide +kernel
theorem dX2_base_88 : decode cX2_base 88 = .ok (.bastore, 1) := by decide +kernel
theorem dX2_base_89 : decode cX2_base 89 = .ok (.aload_n 0, 1) := by decide +kernel
theorem dX2_base_90 : decode cX2_base 90 = .ok (.getfield 35, 3) := by decide +kernel
theorem dX2_base_93 : decode cX2_base 93 = .ok (.iload 4, 2) := by decide +kernel
theorem dX2_base_95 : decode cX2_base 95 = .ok (.aload_n 0, 1) := by decide +kernel
theorem dX2_base_96 : decode cX2_base 96 = .ok (.getfield 29, 3) := by decide +kernel
theorem dX2_base_99 : decode cX2_base 99 = .ok (.iload 4, 2) := by decide +kernel
theorem dX2_base_101 : decode cX2_base 101 = .ok (.baload, 1) := by decide +kernel
theorem dX2_base_102 : decode cX2_base 102 = .ok (.bastore, 1) := by decide +kernel
theorem dX2_base_103 : decode cX2_base 103 = .ok (.aload_n 0, 1) := by decide +kernel
theorem dX2_base_104 : decode cX2_base 104 = .ok (.getfield 32, 3) := by decide +kernel
theorem dX2_base_107 : decode cX2_base 107 = .ok (.iload 4, 2) := by decide +kernel
theorem dX2_base_109 : decode cX2_base 109 = .ok (.iconst 0, 1) := by decide +kernel
theorem dX2_base_110 : decode cX2_base 110 = .ok (.bastore, 1) := by decide +kernel
theorem dX2_base_111 : decode cX2_base 111 = .ok (.iinc 4 1, 3) := by decide +kernel
theorem dX2_base_114 : decode cX2_base 114 = .ok (.goto (-66), 3) := by decide +kernel
theorem dX2_base_117 : decode cX2_base 117 = .ok (.iconst 0, 1) := by decide +kernel
theorem dX2_base_118 : decode cX2_base 118 = .ok (.istore 4, 2) := by decide +kernel
theorem dX2_base_120 : decode cX2_base 120 = .ok (.iload 4, 2) := by decide +kernel
theorem dX2_base_122 : decode cX2_base 122 = .ok (.aload_n 0, 1) := by decide +kernel
theorem dX2_base_123 : decode cX2_base 123 = .ok (.getfield 42, 3) := by decide +kernel
theorem dX2_base_126 : decode cX2_base 126 = .ok (.if_icmp .ge 58, 3) := by decide +kernel
theorem dX2_base_129 : decode cX2_base 129 = .ok (.iconst 0, 1) := by decide +kernel
theorem dX2_base_130 : decode cX2_base 130 = .ok (.istore 5, 2) := by decide +kernel
theorem dX2_base_132 : decode cX2_base 132 = .ok (.iload 5, 2) := by decide +kernel
theorem dX2_base_134 : decode cX2_base 134 = .ok (.aload_n 0, 1) := by decide +kernel
theorem dX2_base_135 : decode cX2_base 135 = .ok (.getfield 16, 3) := by decide +kernel
theorem dX2_base_138 : decode cX2_base 138 = .ok (.iload 4, 2) := by decide +kernel
theorem dX2_base_140 : decode cX2_base 140 = .ok (.iaload, 1) := by decide +kernel
theorem dX2_base_141 : decode cX2_base 141 = .ok (.if_icmp .ge 37, 3) := by decide +kernel
theorem dX2_base_144 : decode cX2_base 144 = .ok (.aload_n 0, 1) := by decide +kernel
theorem dX2_base_145 : decode cX2_base 145 = .ok (.getfield 29, 3) := by decide +kernel
theorem dX2_base_148 : decode cX2_base 148 = .ok (.iload 4, 2) := by decide +kernel
theorem dX2_base_150 : decode cX2_base 150 = .ok (.baload, 1) := by decide +kernel
theorem dX2_base_151 : decode cX2_base 151 = .ok (.ifCond .eq 27, 3) := by decide +kernel
theorem dX2_base_154 : decode cX2_base 154 = .ok (.aload_n 0, 1) := by decide +kernel
theorem dX2_base_155 : decode cX2_base 155 = .ok (.getfield 32, 3) := by decide +kernel
theorem dX2_base_158 : decode cX2_base 158 = .ok (.aload_n 0, 1) := by decide +kernel
theorem dX2_base_159 : decode cX2_base 159 = .ok (.getfield 19, 3) := by decide +kernel
theorem dX2_base_162 : decode cX2_base 162 = .ok (.iload 4, 2) := by decide +kernel
theorem dX2_base_164 : decode cX2_base 164 = .ok (.iconst 4, 1) := by decide +kernel
theorem dX2_base_165 : decode cX2_base 165 = .ok (.imul, 1) := by decide +kernel
theorem dX2_base_166 : decode cX2_base 166 = .ok (.iload 5, 2) := by decide +kernel
theorem dX2_base_168 : decode cX2_base 168 = .ok (.iadd, 1) := by decide +kernel
theorem dX2_base_169 : decode cX2_base 169 = .ok (.iaload, 1) := by decide +kernel
theorem dX2_base_170 : decode cX2_base 170 = .ok (.iconst 1, 1) := by decide +kernel
theorem dX2_base_171 : decode cX2_base 171 = .ok (.bastore, 1) := by decide +kernel
theorem dX2_base_172 : decode cX2_base 172 = .ok (.iinc 5 1, 3) := by decide +kernel
theorem dX2_base_175 : decode cX2_base 175 = .ok (.goto (-43), 3) := by decide +kernel
theorem dX2_base_178 : decode cX2_base 178 = .ok (.iinc 4 1, 3) := by decide +kernel
theorem dX2_base_181 : decode cX2_base 181 = .ok (.goto (-61), 3) := by decide +kernel
theorem dX2_base_184 : decode cX2_base 184 = .ok (.aload_n 0, 1) := by decide +kernel
theorem dX2_base_185 : decode cX2_base 185 = .ok (.aload_n 0, 1) := by decide +kernel
theorem dX2_base_186 : decode cX2_base 186 = .ok (.getfield 32, 3) := by decide +kernel
theorem dX2_base_189 : decode cX2_base 189 = .ok (.invokevirtual 64, 3) := by decide +kernel
end
section
theorem dX2_base_192 : decode cX2_base 192 = .ok (.iconst 0, 1) := by decide +kernel
theorem dX2_base_193 : decode cX2_base 193 = .ok (.istore 4, 2) := by decide +kernel
theorem dX2_base_195 : decode cX2_base 195 = .ok (.iload 4, 2) := by decide +kernel
theorem dX2_base_197 : decode cX2_base 197 = .ok (.aload_n 0, 1) := by decide +kernel
theorem dX2_base_198 : decode cX2_base 198 = .ok (.getfield 42, 3) := by decide +kernel
theorem dX2_base_201 : decode cX2_base 201 = .ok (.if_icmp .ge 27, 3) := by decide +kernel
theorem dX2_base_204 : decode cX2_base 204 = .ok (.aload_n 0, 1) := by decide +kernel
theorem dX2_base_205 : decode cX2_base 205 = .ok (.getfield 32, 3) := by decide +kernel
theorem dX2_base_208 : decode cX2_base 208 = .ok (.iload 4, 2) := by decide +kernel
theorem dX2_base_210 : decode cX2_base 210 = .ok (.baload, 1) := by decide +kernel
theorem dX2_base_211 : decode cX2_base 211 = .ok (.ifCond .eq 11, 3) := by decide +kernel
theorem dX2_base_214 : decode cX2_base 214 = .ok (.aload_n 0, 1) := by decide +kernel
theorem dX2_base_215 : decode cX2_base 215 = .ok (.getfield 35, 3) := by decide +kernel
theorem dX2_base_218 : decode cX2_base 218 = .ok (.iload 4, 2) := by decide +kernel
theorem dX2_base_220 : decode cX2_base 220 = .ok (.iconst 0, 1) := by decide +kernel
theorem dX2_base_221 : decode cX2_base 221 = .ok (.bastore, 1) := by decide +kernel
theorem dX2_base_222 : decode cX2_base 222 = .ok (.iinc 4 1, 3) := by decide +kernel
theorem dX2_base_225 : decode cX2_base 225 = .ok (.goto (-30), 3) := by decide +kernel
theorem dX2_base_228 : decode cX2_base 228 = .ok (.aload_n 0, 1) := by decide +kernel
theorem dX2_base_229 : decode cX2_base 229 = .ok (.invokevirtual 78, 3) := by decide +kernel
theorem dX2_base_232 : decode cX2_base 232 = .ok (.aload_n 0, 1) := by decide +kernel
theorem dX2_base_233 : decode cX2_base 233 = .ok (.iload_n 3, 1) := by decide +kernel
theorem dX2_base_234 : decode cX2_base 234 = .ok (.invokevirtual 81, 3) := by decide +kernel
theorem dX2_base_237 : decode cX2_base 237 = .ok (.ireturn, 1) := by decide +kernel
theorem dX2_order_0 : decode cX2_order 0 = .ok (.aload_n 0, 1) := by decide +kernel
theorem dX2_order_1 : decode cX2_order 1 = .ok (.iconst 0, 1) := by decide +kernel
theorem dX2_order_2 : decode cX2_order 2 = .ok (.putfield 72, 3) := by decide +kernel
theorem dX2_order_5 : decode cX2_order 5 = .ok (.iconst 0, 1) := by decide +kernel
theorem dX2_order_6 : decode cX2_order 6 = .ok (.istore_n 1, 1) := by decide +kernel
theorem dX2_order_7 : decode cX2_order 7 = .ok (.iload_n 1, 1) := by decide +kernel
theorem dX2_order_8 : decode cX2_order 8 = .ok (.aload_n 0, 1) := by decide +kernel
theorem dX2_order_9 : decode cX2_order 9 = .ok (.getfield 42, 3) := by decide +kernel
theorem dX2_order_12 : decode cX2_order 12 = .ok (.if_icmp .ge 83, 3) := by decide +kernel
theorem dX2_order_15 : decode cX2_order 15 = .ok (.iconst (-1), 1) := by decide +kernel
theorem dX2_order_16 : decode cX2_order 16 = .ok (.istore_n 2, 1) := by decide +kernel
theorem dX2_order_17 : decode cX2_order 17 = .ok (.iconst 0, 1) := by decide +kernel
theorem dX2_order_18 : decode cX2_order 18 = .ok (.istore_n 3, 1) := by decide +kernel
theorem dX2_order_19 : decode cX2_order 19 = .ok (.iload_n 3, 1) := by decide +kernel
theorem dX2_order_20 : decode cX2_order 20 = .ok (.aload_n 0, 1) := by decide +kernel
theorem dX2_order_21 : decode cX2_order 21 = .ok (.getfield 42, 3) := by decide +kernel
theorem dX2_order_24 : decode cX2_order 24 = .ok (.if_icmp .ge 33, 3) := by decide +kernel
theorem dX2_order_27 : decode cX2_order 27 = .ok (.aload_n 0, 1) := by decide +kernel
theorem dX2_order_28 : decode cX2_order 28 = .ok (.getfield 35, 3) := by decide +kernel
theorem dX2_order_31 : decode cX2_order 31 = .ok (.iload_n 3, 1) := by decide +kernel
theorem dX2_order_32 : decode cX2_order 32 = .ok (.baload, 1) := by decide +kernel
theorem dX2_order_33 : decode cX2_order 33 = .ok (.ifCond .eq 18, 3) := by decide +kernel
theorem dX2_order_36 : decode cX2_order 36 = .ok (.iload_n 2, 1) := by decide +kernel
theorem dX2_order_37 : decode cX2_order 37 = .ok (.ifCond .lt 12, 3) := by decide +kernel
theorem dX2_order_40 : decode cX2_order 40 = .ok (.aload_n 0, 1) := by decide +kernel
theorem dX2_order_41 : decode cX2_order 41 = .ok (.iload_n 3, 1) := by decide +kernel
theorem dX2_order_42 : decode cX2_order 42 = .ok (.iload_n 2, 1) := by decide +kernel
theorem dX2_order_43 : decode cX2_order 43 = .ok (.invokevirtual 75, 3) := by decide +kernel
theorem dX2_order_46 : decode cX2_order 46 = .ok (.ifCond .eq 5, 3) := by decide +kernel
theorem dX2_order_49 : decode cX2_order 49 = .ok (.iload_n 3, 1) := by decide +kernel
theorem dX2_order_50 : decode cX2_order 50 = .ok (.istore_n 2, 1) := by decide +kernel
theorem dX2_order_51 : decode cX2_order 51 = .ok (.iinc 3 1, 3) := by decide +kernel
theorem dX2_order_54 : decode cX2_order 54 = .ok (.goto (-35), 3) := by decide +kernel
theorem dX2_order_57 : decode cX2_order 57 = .ok (.iload_n 2, 1) := by decide +kernel
theorem dX2_order_58 : decode cX2_order 58 = .ok (.ifCond .ge 4, 3) := by decide +kernel
theorem dX2_order_61 : decode cX2_order 61 = .ok (.return_, 1) := by decide +kernel
theorem dX2_order_62 : decode cX2_order 62 = .ok (.aload_n 0, 1) := by decide +kernel
theorem dX2_order_63 : decode cX2_order 63 = .ok (.getfield 35, 3) := by decide +kernel
theorem dX2_order_66 : decode cX2_order 66 = .ok (.iload_n 2, 1) := by decide +kernel
theorem dX2_order_67 : decode cX2_order 67 = .ok (.iconst 0, 1) := by decide +kernel
theorem dX2_order_68 : decode cX2_order 68 = .ok (.bastore, 1) := by decide +kernel
theorem dX2_order_69 : decode cX2_order 69 = .ok (.aload_n 0, 1) := by decide +kernel
theorem dX2_order_70 : decode cX2_order 70 = .ok (.getfield 22, 3) := by decide +kernel
theorem dX2_order_73 : decode cX2_order 73 = .ok (.aload_n 0, 1) := by decide +kernel
theorem dX2_order_74 : decode cX2_order 74 = .ok (.getfield 72, 3) := by decide +kernel
theorem dX2_order_77 : decode cX2_order 77 = .ok (.iload_n 2, 1) := by decide +kernel
theorem dX2_order_78 : decode cX2_order 78 = .ok (.iastore, 1) := by decide +kernel
theorem dX2_order_79 : decode cX2_order 79 = .ok (.aload_n 0, 1) := by decide +kernel
theorem dX2_order_80 : decode cX2_order 80 = .ok (.dup, 1) := by decide +kernel
theorem dX2_order_81 : decode cX2_order 81 = .ok (.getfield 72, 3) := by decide +kernel
theorem dX2_order_84 : decode cX2_order 84 = .ok (.iconst 1, 1) := by decide +kernel
theorem dX2_order_85 : decode cX2_order 85 = .ok (.iadd, 1) := by decide +kernel
theorem dX2_order_86 : decode cX2_order 86 = .ok (.putfield 72, 3) := by decide +kernel
theorem dX2_order_89 : decode cX2_order 89 = .ok (.iinc 1 1, 3) := by decide +kernel
theorem dX2_order_92 : decode cX2_order 92 = .ok (.goto (-85), 3) := by decide +kernel
theorem dX2_order_95 : decode cX2_order 95 = .ok (.return_, 1) := by decide +kernel
theorem dX2_before_0 : decode cX2_before 0 = .ok (.aload_n 0, 1) := by decide +kernel
theorem dX2_before_1 : decode cX2_before 1 = .ok (.getfield 7, 3) := by decide +kernel
theorem dX2_before_4 : decode cX2_before 4 = .ok (.iload_n 1, 1) := by decide +kernel
theorem dX2_before_5 : decode cX2_before 5 = .ok (.iaload, 1) := by decide +kernel
theorem dX2_before_6 : decode cX2_before 6 = .ok (.aload_n 0, 1) := by decide +kernel
theorem dX2_before_7 : decode cX2_before 7 = .ok (.getfield 7, 3) := by decide +kernel
theorem dX2_before_10 : decode cX2_before 10 = .ok (.iload_n 2, 1) := by decide +kernel
theorem dX2_before_11 : decode cX2_before 11 = .ok (.iaload, 1) := by decide +kernel
theorem dX2_before_12 : decode cX2_before 12 = .ok (.if_icmp .eq 24, 3) := by decide +kernel
theorem dX2_before_15 : decode cX2_before 15 = .ok (.aload_n 0, 1) := by decide +kernel
theorem dX2_before_16 : decode cX2_before 16 = .ok (.getfield 7, 3) := by decide +kernel
theorem dX2_before_19 : decode cX2_before 19 = .ok (.iload_n 1, 1) := by decide +kernel
theorem dX2_before_20 : decode cX2_before 20 = .ok (.iaload, 1) := by decide +kernel
theorem dX2_before_21 : decode cX2_before 21 = .ok (.aload_n 0, 1) := by decide +kernel
theorem dX2_before_22 : decode cX2_before 22 = .ok (.getfield 7, 3) := by decide +kernel
theorem dX2_before_25 : decode cX2_before 25 = .ok (.iload_n 2, 1) := by decide +kernel
theorem dX2_before_26 : decode cX2_before 26 = .ok (.iaload, 1) := by decide +kernel
theorem dX2_before_27 : decode cX2_before 27 = .ok (.if_icmp .le 7, 3) := by decide +kernel
theorem dX2_before_30 : decode cX2_before 30 = .ok (.iconst 1, 1) := by decide +kernel
theorem dX2_before_31 : decode cX2_before 31 = .ok (.goto 4, 3) := by decide +kernel
theorem dX2_before_34 : decode cX2_before 34 = .ok (.iconst 0, 1) := by decide +kernel
theorem dX2_before_35 : decode cX2_before 35 = .ok (.ireturn, 1) := by decide +kernel
theorem dX2_before_36 : decode cX2_before 36 = .ok (.aload_n 0, 1) := by decide +kernel
theorem dX2_before_37 : decode cX2_before 37 = .ok (.getfield 13, 3) := by decide +kernel
theorem dX2_before_40 : decode cX2_before 40 = .ok (.iload_n 1, 1) := by decide +kernel
theorem dX2_before_41 : decode cX2_before 41 = .ok (.iaload, 1) := by decide +kernel
theorem dX2_before_42 : decode cX2_before 42 = .ok (.aload_n 0, 1) := by decide +kernel
theorem dX2_before_43 : decode cX2_before 43 = .ok (.getfield 13, 3) := by decide +kernel
theorem dX2_before_46 : decode cX2_before 46 = .ok (.iload_n 2, 1) := by decide +kernel
theorem dX2_before_47 : decode cX2_before 47 = .ok (.iaload, 1) := by decide +kernel
theorem dX2_before_48 : decode cX2_before 48 = .ok (.if_icmp .eq 26, 3) := by decide +kernel
theorem dX2_before_51 : decode cX2_before 51 = .ok (.aload_n 0, 1) := by decide +kernel
theorem dX2_before_52 : decode cX2_before 52 = .ok (.getfield 13, 3) := by decide +kernel
theorem dX2_before_55 : decode cX2_before 55 = .ok (.iload_n 1, 1) := by decide +kernel
theorem dX2_before_56 : decode cX2_before 56 = .ok (.iaload, 1) := by decide +kernel
theorem dX2_before_57 : decode cX2_before 57 = .ok (.aload_n 0, 1) := by decide +kernel
theorem dX2_before_58 : decode cX2_before 58 = .ok (.getfield 13, 3) := by decide +kernel
theorem dX2_before_61 : decode cX2_before 61 = .ok (.iload_n 2, 1) := by decide +kernel
theorem dX2_before_62 : decode cX2_before 62 = .ok (.iaload, 1) := by decide +kernel
theorem dX2_before_63 : decode cX2_before 63 = .ok (.if_icmp .ge 7, 3) := by decide +kernel
theorem dX2_before_66 : decode cX2_before 66 = .ok (.iconst 1, 1) := by decide +kernel
theorem dX2_before_67 : decode cX2_before 67 = .ok (.goto 17, 3) := by decide +kernel
theorem dX2_before_70 : decode cX2_before 70 = .ok (.iconst 0, 1) := by decide +kernel
theorem dX2_before_71 : decode cX2_before 71 = .ok (.goto 13, 3) := by decide +kernel
theorem dX2_before_74 : decode cX2_before 74 = .ok (.iload_n 1, 1) := by decide +kernel
theorem dX2_before_75 : decode cX2_before 75 = .ok (.iload_n 2, 1) := by decide +kernel
theorem dX2_before_76 : decode cX2_before 76 = .ok (.if_icmp .ge 7, 3) := by decide +kernel
theorem dX2_before_79 : decode cX2_before 79 = .ok (.iconst 1, 1) := by decide +kernel
theorem dX2_before_80 : decode cX2_before 80 = .ok (.goto 4, 3) := by decide +kernel
theorem dX2_before_83 : decode cX2_before 83 = .ok (.iconst 0, 1) := by decide +kernel
theorem dX2_before_84 : decode cX2_before 84 = .ok (.ireturn, 1) := by decide +kernel
theorem dX2_pick_0 : decode cX2_pick 0 = .ok (.iload_n 1, 1) := by decide +kernel
theorem dX2_pick_1 : decode cX2_pick 1 = .ok (.iconst (-1), 1) := by decide +kernel
theorem dX2_pick_2 : decode cX2_pick 2 = .ok (.if_icmp .ne 8, 3) := by decide +kernel
theorem dX2_pick_5 : decode cX2_pick 5 = .ok (.aload_n 0, 1) := by decide +kernel
theorem dX2_pick_6 : decode cX2_pick 6 = .ok (.getfield 72, 3) := by decide +kernel
theorem dX2_pick_9 : decode cX2_pick 9 = .ok (.ireturn, 1) := by decide +kernel
theorem dX2_pick_10 : decode cX2_pick 10 = .ok (.iload_n 1, 1) := by decide +kernel
theorem dX2_pick_11 : decode cX2_pick 11 = .ok (.ifCond .lt 11, 3) := by decide +kernel
theorem dX2_pick_14 : decode cX2_pick 14 = .ok (.iload_n 1, 1) := by decide +kernel
theorem dX2_pick_15 : decode cX2_pick 15 = .ok (.aload_n 0, 1) := by decide +kernel
theorem dX2_pick_16 : decode cX2_pick 16 = .ok (.getfield 72, 3) := by decide +kernel
theorem dX2_pick_19 : decode cX2_pick 19 = .ok (.if_icmp .lt 11, 3) := by decide +kernel
theorem dX2_pick_22 : decode cX2_pick 22 = .ok (.aload_n 0, 1) := by decide +kernel
theorem dX2_pick_23 : decode cX2_pick 23 = .ok (.iconst 2, 1) := by decide +kernel
theorem dX2_pick_24 : decode cX2_pick 24 = .ok (.invokevirtual 45, 3) := by decide +kernel
theorem dX2_pick_27 : decode cX2_pick 27 = .ok (.goto 9, 3) := by decide +kernel
theorem dX2_pick_30 : decode cX2_pick 30 = .ok (.aload_n 0, 1) := by decide +kernel
theorem dX2_pick_31 : decode cX2_pick 31 = .ok (.getfield 22, 3) := by decide +kernel
theorem dX2_pick_34 : decode cX2_pick 34 = .ok (.iload_n 1, 1) := by decide +kernel
end
section
theorem dX2_pick_35 : decode cX2_pick 35 = .ok (.iaload, 1) := by decide +kernel
theorem dX2_pick_36 : decode cX2_pick 36 = .ok (.ireturn, 1) := by decide +kernel
theorem dX2_log_0 : decode cX2_log 0 = .ok (.aload_n 0, 1) := by decide +kernel
theorem dX2_log_1 : decode cX2_log 1 = .ok (.iconst 0, 1) := by decide +kernel
theorem dX2_log_2 : decode cX2_log 2 = .ok (.putfield 38, 3) := by decide +kernel
theorem dX2_log_5 : decode cX2_log 5 = .ok (.aload_n 0, 1) := by decide +kernel
theorem dX2_log_6 : decode cX2_log 6 = .ok (.iload_n 1, 1) := by decide +kernel
theorem dX2_log_7 : decode cX2_log 7 = .ok (.invokevirtual 57, 3) := by decide +kernel
theorem dX2_log_10 : decode cX2_log 10 = .ok (.ifCond .ne 9, 3) := by decide +kernel
theorem dX2_log_13 : decode cX2_log 13 = .ok (.aload_n 0, 1) := by decide +kernel
theorem dX2_log_14 : decode cX2_log 14 = .ok (.iconst 1, 1) := by decide +kernel
theorem dX2_log_15 : decode cX2_log 15 = .ok (.invokevirtual 45, 3) := by decide +kernel
theorem dX2_log_18 : decode cX2_log 18 = .ok (.ireturn, 1) := by decide +kernel
theorem dX2_log_19 : decode cX2_log 19 = .ok (.aload_n 0, 1) := by decide +kernel
theorem dX2_log_20 : decode cX2_log 20 = .ok (.iload_n 1, 1) := by decide +kernel
theorem dX2_log_21 : decode cX2_log 21 = .ok (.aload_n 0, 1) := by decide +kernel
theorem dX2_log_22 : decode cX2_log 22 = .ok (.getfield 35, 3) := by decide +kernel
theorem dX2_log_25 : decode cX2_log 25 = .ok (.invokevirtual 68, 3) := by decide +kernel
theorem dX2_log_28 : decode cX2_log 28 = .ok (.aload_n 0, 1) := by decide +kernel
theorem dX2_log_29 : decode cX2_log 29 = .ok (.iconst 0, 1) := by decide +kernel
theorem dX2_log_30 : decode cX2_log 30 = .ok (.putfield 72, 3) := by decide +kernel
theorem dX2_log_33 : decode cX2_log 33 = .ok (.iconst (-1), 1) := by decide +kernel
theorem dX2_log_34 : decode cX2_log 34 = .ok (.istore_n 3, 1) := by decide +kernel
theorem dX2_log_35 : decode cX2_log 35 = .ok (.iconst 0, 1) := by decide +kernel
theorem dX2_log_36 : decode cX2_log 36 = .ok (.istore 4, 2) := by decide +kernel
theorem dX2_log_38 : decode cX2_log 38 = .ok (.iload 4, 2) := by decide +kernel
theorem dX2_log_40 : decode cX2_log 40 = .ok (.aload_n 0, 1) := by decide +kernel
theorem dX2_log_41 : decode cX2_log 41 = .ok (.getfield 42, 3) := by decide +kernel
theorem dX2_log_44 : decode cX2_log 44 = .ok (.if_icmp .ge 45, 3) := by decide +kernel
theorem dX2_log_47 : decode cX2_log 47 = .ok (.aload_n 0, 1) := by decide +kernel
theorem dX2_log_48 : decode cX2_log 48 = .ok (.getfield 35, 3) := by decide +kernel
theorem dX2_log_51 : decode cX2_log 51 = .ok (.iload 4, 2) := by decide +kernel
theorem dX2_log_53 : decode cX2_log 53 = .ok (.baload, 1) := by decide +kernel
theorem dX2_log_54 : decode cX2_log 54 = .ok (.ifCond .eq 29, 3) := by decide +kernel
theorem dX2_log_57 : decode cX2_log 57 = .ok (.iload_n 3, 1) := by decide +kernel
theorem dX2_log_58 : decode cX2_log 58 = .ok (.ifCond .lt 13, 3) := by decide +kernel
theorem dX2_log_61 : decode cX2_log 61 = .ok (.aload_n 0, 1) := by decide +kernel
theorem dX2_log_62 : decode cX2_log 62 = .ok (.iload 4, 2) := by decide +kernel
theorem dX2_log_64 : decode cX2_log 64 = .ok (.iload_n 3, 1) := by decide +kernel
theorem dX2_log_65 : decode cX2_log 65 = .ok (.invokevirtual 75, 3) := by decide +kernel
theorem dX2_log_68 : decode cX2_log 68 = .ok (.ifCond .eq 15, 3) := by decide +kernel
theorem dX2_log_71 : decode cX2_log 71 = .ok (.aload_n 0, 1) := by decide +kernel
theorem dX2_log_72 : decode cX2_log 72 = .ok (.iload 4, 2) := by decide +kernel
theorem dX2_log_74 : decode cX2_log 74 = .ok (.invokevirtual 84, 3) := by decide +kernel
theorem dX2_log_77 : decode cX2_log 77 = .ok (.ifCond .eq 6, 3) := by decide +kernel
theorem dX2_log_80 : decode cX2_log 80 = .ok (.iload 4, 2) := by decide +kernel
theorem dX2_log_82 : decode cX2_log 82 = .ok (.istore_n 3, 1) := by decide +kernel
theorem dX2_log_83 : decode cX2_log 83 = .ok (.iinc 4 1, 3) := by decide +kernel
theorem dX2_log_86 : decode cX2_log 86 = .ok (.goto (-48), 3) := by decide +kernel
theorem dX2_log_89 : decode cX2_log 89 = .ok (.iload_n 3, 1) := by decide +kernel
theorem dX2_log_90 : decode cX2_log 90 = .ok (.ifCond .ge 9, 3) := by decide +kernel
theorem dX2_log_93 : decode cX2_log 93 = .ok (.aload_n 0, 1) := by decide +kernel
theorem dX2_log_94 : decode cX2_log 94 = .ok (.iload_n 2, 1) := by decide +kernel
theorem dX2_log_95 : decode cX2_log 95 = .ok (.invokevirtual 81, 3) := by decide +kernel
theorem dX2_log_98 : decode cX2_log 98 = .ok (.ireturn, 1) := by decide +kernel
theorem dX2_log_99 : decode cX2_log 99 = .ok (.aload_n 0, 1) := by decide +kernel
theorem dX2_log_100 : decode cX2_log 100 = .ok (.getfield 35, 3) := by decide +kernel
theorem dX2_log_103 : decode cX2_log 103 = .ok (.iload_n 3, 1) := by decide +kernel
theorem dX2_log_104 : decode cX2_log 104 = .ok (.iconst 0, 1) := by decide +kernel
theorem dX2_log_105 : decode cX2_log 105 = .ok (.bastore, 1) := by decide +kernel
theorem dX2_log_106 : decode cX2_log 106 = .ok (.aload_n 0, 1) := by decide +kernel
theorem dX2_log_107 : decode cX2_log 107 = .ok (.getfield 22, 3) := by decide +kernel
theorem dX2_log_110 : decode cX2_log 110 = .ok (.aload_n 0, 1) := by decide +kernel
theorem dX2_log_111 : decode cX2_log 111 = .ok (.getfield 72, 3) := by decide +kernel
theorem dX2_log_114 : decode cX2_log 114 = .ok (.iload_n 3, 1) := by decide +kernel
theorem dX2_log_115 : decode cX2_log 115 = .ok (.iastore, 1) := by decide +kernel
theorem dX2_log_116 : decode cX2_log 116 = .ok (.aload_n 0, 1) := by decide +kernel
theorem dX2_log_117 : decode cX2_log 117 = .ok (.dup, 1) := by decide +kernel
theorem dX2_log_118 : decode cX2_log 118 = .ok (.getfield 72, 3) := by decide +kernel
theorem dX2_log_121 : decode cX2_log 121 = .ok (.iconst 1, 1) := by decide +kernel
theorem dX2_log_122 : decode cX2_log 122 = .ok (.iadd, 1) := by decide +kernel
theorem dX2_log_123 : decode cX2_log 123 = .ok (.putfield 72, 3) := by decide +kernel
theorem dX2_log_126 : decode cX2_log 126 = .ok (.goto (-93), 3) := by decide +kernel
theorem dX2_free_0 : decode cX2_free 0 = .ok (.iconst 0, 1) := by decide +kernel
theorem dX2_free_1 : decode cX2_free 1 = .ok (.istore_n 2, 1) := by decide +kernel
theorem dX2_free_2 : decode cX2_free 2 = .ok (.iload_n 2, 1) := by decide +kernel
theorem dX2_free_3 : decode cX2_free 3 = .ok (.aload_n 0, 1) := by decide +kernel
theorem dX2_free_4 : decode cX2_free 4 = .ok (.getfield 42, 3) := by decide +kernel
theorem dX2_free_7 : decode cX2_free 7 = .ok (.if_icmp .ge 34, 3) := by decide +kernel
theorem dX2_free_10 : decode cX2_free 10 = .ok (.aload_n 0, 1) := by decide +kernel
theorem dX2_free_11 : decode cX2_free 11 = .ok (.getfield 35, 3) := by decide +kernel
theorem dX2_free_14 : decode cX2_free 14 = .ok (.iload_n 2, 1) := by decide +kernel
theorem dX2_free_15 : decode cX2_free 15 = .ok (.baload, 1) := by decide +kernel
theorem dX2_free_16 : decode cX2_free 16 = .ok (.ifCond .eq 19, 3) := by decide +kernel
theorem dX2_free_19 : decode cX2_free 19 = .ok (.iload_n 2, 1) := by decide +kernel
theorem dX2_free_20 : decode cX2_free 20 = .ok (.iload_n 1, 1) := by decide +kernel
theorem dX2_free_21 : decode cX2_free 21 = .ok (.if_icmp .eq 14, 3) := by decide +kernel
theorem dX2_free_24 : decode cX2_free 24 = .ok (.aload_n 0, 1) := by decide +kernel
theorem dX2_free_25 : decode cX2_free 25 = .ok (.iload_n 1, 1) := by decide +kernel
theorem dX2_free_26 : decode cX2_free 26 = .ok (.iload_n 2, 1) := by decide +kernel
theorem dX2_free_27 : decode cX2_free 27 = .ok (.invokevirtual 53, 3) := by decide +kernel
theorem dX2_free_30 : decode cX2_free 30 = .ok (.ifCond .eq 5, 3) := by decide +kernel
theorem dX2_free_33 : decode cX2_free 33 = .ok (.iconst 0, 1) := by decide +kernel
theorem dX2_free_34 : decode cX2_free 34 = .ok (.ireturn, 1) := by decide +kernel
theorem dX2_free_35 : decode cX2_free 35 = .ok (.iinc 2 1, 3) := by decide +kernel
theorem dX2_free_38 : decode cX2_free 38 = .ok (.goto (-36), 3) := by decide +kernel
theorem dX2_free_41 : decode cX2_free 41 = .ok (.iconst 1, 1) := by decide +kernel
theorem dX2_free_42 : decode cX2_free 42 = .ok (.ireturn, 1) := by decide +kernel
theorem dX2_back_0 : decode cX2_back 0 = .ok (.aload_n 0, 1) := by decide +kernel
theorem dX2_back_1 : decode cX2_back 1 = .ok (.iconst 0, 1) := by decide +kernel
theorem dX2_back_2 : decode cX2_back 2 = .ok (.putfield 38, 3) := by decide +kernel
theorem dX2_back_5 : decode cX2_back 5 = .ok (.aload_n 0, 1) := by decide +kernel
theorem dX2_back_6 : decode cX2_back 6 = .ok (.iload_n 1, 1) := by decide +kernel
theorem dX2_back_7 : decode cX2_back 7 = .ok (.invokevirtual 57, 3) := by decide +kernel
theorem dX2_back_10 : decode cX2_back 10 = .ok (.ifCond .eq 7, 3) := by decide +kernel
theorem dX2_back_13 : decode cX2_back 13 = .ok (.iload_n 2, 1) := by decide +kernel
theorem dX2_back_14 : decode cX2_back 14 = .ok (.ifCond .ge 9, 3) := by decide +kernel
theorem dX2_back_17 : decode cX2_back 17 = .ok (.aload_n 0, 1) := by decide +kernel
theorem dX2_back_18 : decode cX2_back 18 = .ok (.iconst 1, 1) := by decide +kernel
theorem dX2_back_19 : decode cX2_back 19 = .ok (.invokevirtual 45, 3) := by decide +kernel
theorem dX2_back_22 : decode cX2_back 22 = .ok (.ireturn, 1) := by decide +kernel
theorem dX2_back_23 : decode cX2_back 23 = .ok (.iload_n 1, 1) := by decide +kernel
theorem dX2_back_24 : decode cX2_back 24 = .ok (.istore_n 3, 1) := by decide +kernel
theorem dX2_back_25 : decode cX2_back 25 = .ok (.iconst 0, 1) := by decide +kernel
theorem dX2_back_26 : decode cX2_back 26 = .ok (.istore 4, 2) := by decide +kernel
theorem dX2_back_28 : decode cX2_back 28 = .ok (.iload 4, 2) := by decide +kernel
theorem dX2_back_30 : decode cX2_back 30 = .ok (.iload_n 2, 1) := by decide +kernel
theorem dX2_back_31 : decode cX2_back 31 = .ok (.if_icmp .ge 33, 3) := by decide +kernel
theorem dX2_back_34 : decode cX2_back 34 = .ok (.aload_n 0, 1) := by decide +kernel
theorem dX2_back_35 : decode cX2_back 35 = .ok (.getfield 16, 3) := by decide +kernel
theorem dX2_back_38 : decode cX2_back 38 = .ok (.iload_n 3, 1) := by decide +kernel
theorem dX2_back_39 : decode cX2_back 39 = .ok (.iaload, 1) := by decide +kernel
theorem dX2_back_40 : decode cX2_back 40 = .ok (.ifCond .ne 9, 3) := by decide +kernel
theorem dX2_back_43 : decode cX2_back 43 = .ok (.aload_n 0, 1) := by decide +kernel
theorem dX2_back_44 : decode cX2_back 44 = .ok (.iconst 2, 1) := by decide +kernel
theorem dX2_back_45 : decode cX2_back 45 = .ok (.invokevirtual 45, 3) := by decide +kernel
theorem dX2_back_48 : decode cX2_back 48 = .ok (.ireturn, 1) := by decide +kernel
theorem dX2_back_49 : decode cX2_back 49 = .ok (.aload_n 0, 1) := by decide +kernel
theorem dX2_back_50 : decode cX2_back 50 = .ok (.getfield 19, 3) := by decide +kernel
theorem dX2_back_53 : decode cX2_back 53 = .ok (.iload_n 3, 1) := by decide +kernel
theorem dX2_back_54 : decode cX2_back 54 = .ok (.iconst 4, 1) := by decide +kernel
theorem dX2_back_55 : decode cX2_back 55 = .ok (.imul, 1) := by decide +kernel
theorem dX2_back_56 : decode cX2_back 56 = .ok (.iaload, 1) := by decide +kernel
theorem dX2_back_57 : decode cX2_back 57 = .ok (.istore_n 3, 1) := by decide +kernel
theorem dX2_back_58 : decode cX2_back 58 = .ok (.iinc 4 1, 3) := by decide +kernel
theorem dX2_back_61 : decode cX2_back 61 = .ok (.goto (-33), 3) := by decide +kernel
theorem dX2_back_64 : decode cX2_back 64 = .ok (.iload_n 3, 1) := by decide +kernel
theorem dX2_back_65 : decode cX2_back 65 = .ok (.ireturn, 1) := by decide +kernel
theorem dX2_sent_0 : decode cX2_sent 0 = .ok (.aload_n 0, 1) := by decide +kernel
theorem dX2_sent_1 : decode cX2_sent 1 = .ok (.iconst 0, 1) := by decide +kernel
theorem dX2_sent_2 : decode cX2_sent 2 = .ok (.putfield 38, 3) := by decide +kernel
theorem dX2_sent_5 : decode cX2_sent 5 = .ok (.iload_n 1, 1) := by decide +kernel
theorem dX2_sent_6 : decode cX2_sent 6 = .ok (.ifCond .lt 8, 3) := by decide +kernel
theorem dX2_sent_9 : decode cX2_sent 9 = .ok (.iload_n 1, 1) := by decide +kernel
theorem dX2_sent_10 : decode cX2_sent 10 = .ok (.iconst 1, 1) := by decide +kernel
theorem dX2_sent_11 : decode cX2_sent 11 = .ok (.if_icmp .le 9, 3) := by decide +kernel
theorem dX2_sent_14 : decode cX2_sent 14 = .ok (.aload_n 0, 1) := by decide +kernel
theorem dX2_sent_15 : decode cX2_sent 15 = .ok (.iconst 1, 1) := by decide +kernel
theorem dX2_sent_16 : decode cX2_sent 16 = .ok (.invokevirtual 45, 3) := by decide +kernel
theorem dX2_sent_19 : decode cX2_sent 19 = .ok (.ireturn, 1) := by decide +kernel
end
section
theorem dX2_sent_20 : decode cX2_sent 20 = .ok (.aload_n 0, 1) := by decide +kernel
theorem dX2_sent_21 : decode cX2_sent 21 = .ok (.iload_n 1, 1) := by decide +kernel
theorem dX2_sent_22 : decode cX2_sent 22 = .ok (.aload_n 0, 1) := by decide +kernel
theorem dX2_sent_23 : decode cX2_sent 23 = .ok (.getfield 29, 3) := by decide +kernel
theorem dX2_sent_26 : decode cX2_sent 26 = .ok (.invokevirtual 87, 3) := by decide +kernel
theorem dX2_sent_29 : decode cX2_sent 29 = .ok (.aload_n 0, 1) := by decide +kernel
theorem dX2_sent_30 : decode cX2_sent 30 = .ok (.iconst 1, 1) := by decide +kernel
theorem dX2_sent_31 : decode cX2_sent 31 = .ok (.iload_n 1, 1) := by decide +kernel
theorem dX2_sent_32 : decode cX2_sent 32 = .ok (.isub, 1) := by decide +kernel
theorem dX2_sent_33 : decode cX2_sent 33 = .ok (.aload_n 0, 1) := by decide +kernel
theorem dX2_sent_34 : decode cX2_sent 34 = .ok (.getfield 32, 3) := by decide +kernel
theorem dX2_sent_37 : decode cX2_sent 37 = .ok (.invokevirtual 87, 3) := by decide +kernel
theorem dX2_sent_40 : decode cX2_sent 40 = .ok (.iconst 0, 1) := by decide +kernel
theorem dX2_sent_41 : decode cX2_sent 41 = .ok (.istore_n 3, 1) := by decide +kernel
theorem dX2_sent_42 : decode cX2_sent 42 = .ok (.iconst 0, 1) := by decide +kernel
theorem dX2_sent_43 : decode cX2_sent 43 = .ok (.istore 4, 2) := by decide +kernel
theorem dX2_sent_45 : decode cX2_sent 45 = .ok (.iload 4, 2) := by decide +kernel
theorem dX2_sent_47 : decode cX2_sent 47 = .ok (.aload_n 0, 1) := by decide +kernel
theorem dX2_sent_48 : decode cX2_sent 48 = .ok (.getfield 42, 3) := by decide +kernel
theorem dX2_sent_51 : decode cX2_sent 51 = .ok (.if_icmp .ge 54, 3) := by decide +kernel
theorem dX2_sent_54 : decode cX2_sent 54 = .ok (.aload_n 0, 1) := by decide +kernel
theorem dX2_sent_55 : decode cX2_sent 55 = .ok (.getfield 35, 3) := by decide +kernel
theorem dX2_sent_58 : decode cX2_sent 58 = .ok (.iload 4, 2) := by decide +kernel
theorem dX2_sent_60 : decode cX2_sent 60 = .ok (.aload_n 0, 1) := by decide +kernel
theorem dX2_sent_61 : decode cX2_sent 61 = .ok (.getfield 29, 3) := by decide +kernel
theorem dX2_sent_64 : decode cX2_sent 64 = .ok (.iload 4, 2) := by decide +kernel
theorem dX2_sent_66 : decode cX2_sent 66 = .ok (.baload, 1) := by decide +kernel
theorem dX2_sent_67 : decode cX2_sent 67 = .ok (.ifCond .eq 17, 3) := by decide +kernel
theorem dX2_sent_70 : decode cX2_sent 70 = .ok (.aload_n 0, 1) := by decide +kernel
theorem dX2_sent_71 : decode cX2_sent 71 = .ok (.getfield 32, 3) := by decide +kernel
theorem dX2_sent_74 : decode cX2_sent 74 = .ok (.iload 4, 2) := by decide +kernel
theorem dX2_sent_76 : decode cX2_sent 76 = .ok (.baload, 1) := by decide +kernel
theorem dX2_sent_77 : decode cX2_sent 77 = .ok (.ifCond .ne 7, 3) := by decide +kernel
theorem dX2_sent_80 : decode cX2_sent 80 = .ok (.iconst 1, 1) := by decide +kernel
theorem dX2_sent_81 : decode cX2_sent 81 = .ok (.goto 4, 3) := by decide +kernel
theorem dX2_sent_84 : decode cX2_sent 84 = .ok (.iconst 0, 1) := by decide +kernel
theorem dX2_sent_85 : decode cX2_sent 85 = .ok (.bastore, 1) := by decide +kernel
theorem dX2_sent_86 : decode cX2_sent 86 = .ok (.aload_n 0, 1) := by decide +kernel
theorem dX2_sent_87 : decode cX2_sent 87 = .ok (.getfield 35, 3) := by decide +kernel
theorem dX2_sent_90 : decode cX2_sent 90 = .ok (.iload 4, 2) := by decide +kernel
theorem dX2_sent_92 : decode cX2_sent 92 = .ok (.baload, 1) := by decide +kernel
theorem dX2_sent_93 : decode cX2_sent 93 = .ok (.ifCond .eq 6, 3) := by decide +kernel
theorem dX2_sent_96 : decode cX2_sent 96 = .ok (.iinc 3 1, 3) := by decide +kernel
theorem dX2_sent_99 : decode cX2_sent 99 = .ok (.iinc 4 1, 3) := by decide +kernel
theorem dX2_sent_102 : decode cX2_sent 102 = .ok (.goto (-57), 3) := by decide +kernel
theorem dX2_sent_105 : decode cX2_sent 105 = .ok (.iload_n 2, 1) := by decide +kernel
theorem dX2_sent_106 : decode cX2_sent 106 = .ok (.iconst (-1), 1) := by decide +kernel
theorem dX2_sent_107 : decode cX2_sent 107 = .ok (.if_icmp .ne 5, 3) := by decide +kernel
theorem dX2_sent_110 : decode cX2_sent 110 = .ok (.iload_n 3, 1) := by decide +kernel
theorem dX2_sent_111 : decode cX2_sent 111 = .ok (.ireturn, 1) := by decide +kernel
theorem dX2_sent_112 : decode cX2_sent 112 = .ok (.iload_n 2, 1) := by decide +kernel
theorem dX2_sent_113 : decode cX2_sent 113 = .ok (.ifCond .lt 8, 3) := by decide +kernel
theorem dX2_sent_116 : decode cX2_sent 116 = .ok (.iload_n 2, 1) := by decide +kernel
theorem dX2_sent_117 : decode cX2_sent 117 = .ok (.iload_n 3, 1) := by decide +kernel
theorem dX2_sent_118 : decode cX2_sent 118 = .ok (.if_icmp .lt 9, 3) := by decide +kernel
theorem dX2_sent_121 : decode cX2_sent 121 = .ok (.aload_n 0, 1) := by decide +kernel
theorem dX2_sent_122 : decode cX2_sent 122 = .ok (.iconst 2, 1) := by decide +kernel
theorem dX2_sent_123 : decode cX2_sent 123 = .ok (.invokevirtual 45, 3) := by decide +kernel
theorem dX2_sent_126 : decode cX2_sent 126 = .ok (.ireturn, 1) := by decide +kernel
theorem dX2_sent_127 : decode cX2_sent 127 = .ok (.aload_n 0, 1) := by decide +kernel
theorem dX2_sent_128 : decode cX2_sent 128 = .ok (.aload_n 0, 1) := by decide +kernel
theorem dX2_sent_129 : decode cX2_sent 129 = .ok (.getfield 42, 3) := by decide +kernel
theorem dX2_sent_132 : decode cX2_sent 132 = .ok (.iconst 1, 1) := by decide +kernel
theorem dX2_sent_133 : decode cX2_sent 133 = .ok (.isub, 1) := by decide +kernel
theorem dX2_sent_134 : decode cX2_sent 134 = .ok (.invokevirtual 90, 3) := by decide +kernel
theorem dX2_sent_137 : decode cX2_sent 137 = .ok (.istore 4, 2) := by decide +kernel
theorem dX2_sent_139 : decode cX2_sent 139 = .ok (.iconst 0, 1) := by decide +kernel
theorem dX2_sent_140 : decode cX2_sent 140 = .ok (.istore 5, 2) := by decide +kernel
theorem dX2_sent_142 : decode cX2_sent 142 = .ok (.iload 5, 2) := by decide +kernel
theorem dX2_sent_144 : decode cX2_sent 144 = .ok (.iload_n 2, 1) := by decide +kernel
theorem dX2_sent_145 : decode cX2_sent 145 = .ok (.if_icmp .gt 108, 3) := by decide +kernel
theorem dX2_sent_148 : decode cX2_sent 148 = .ok (.iconst (-1), 1) := by decide +kernel
theorem dX2_sent_149 : decode cX2_sent 149 = .ok (.istore 4, 2) := by decide +kernel
theorem dX2_sent_151 : decode cX2_sent 151 = .ok (.iconst 0, 1) := by decide +kernel
theorem dX2_sent_152 : decode cX2_sent 152 = .ok (.istore 6, 2) := by decide +kernel
theorem dX2_sent_154 : decode cX2_sent 154 = .ok (.iload 6, 2) := by decide +kernel
theorem dX2_sent_156 : decode cX2_sent 156 = .ok (.aload_n 0, 1) := by decide +kernel
theorem dX2_sent_157 : decode cX2_sent 157 = .ok (.getfield 42, 3) := by decide +kernel
theorem dX2_sent_160 : decode cX2_sent 160 = .ok (.if_icmp .ge 79, 3) := by decide +kernel
theorem dX2_sent_163 : decode cX2_sent 163 = .ok (.aload_n 0, 1) := by decide +kernel
theorem dX2_sent_164 : decode cX2_sent 164 = .ok (.getfield 35, 3) := by decide +kernel
theorem dX2_sent_167 : decode cX2_sent 167 = .ok (.iload 6, 2) := by decide +kernel
theorem dX2_sent_169 : decode cX2_sent 169 = .ok (.baload, 1) := by decide +kernel
theorem dX2_sent_170 : decode cX2_sent 170 = .ok (.ifCond .eq 63, 3) := by decide +kernel
theorem dX2_sent_173 : decode cX2_sent 173 = .ok (.iload 4, 2) := by decide +kernel
theorem dX2_sent_175 : decode cX2_sent 175 = .ok (.ifCond .lt 54, 3) := by decide +kernel
theorem dX2_sent_178 : decode cX2_sent 178 = .ok (.aload_n 0, 1) := by decide +kernel
theorem dX2_sent_179 : decode cX2_sent 179 = .ok (.getfield 22, 3) := by decide +kernel
theorem dX2_sent_182 : decode cX2_sent 182 = .ok (.iload 6, 2) := by decide +kernel
theorem dX2_sent_184 : decode cX2_sent 184 = .ok (.iaload, 1) := by decide +kernel
theorem dX2_sent_185 : decode cX2_sent 185 = .ok (.aload_n 0, 1) := by decide +kernel
theorem dX2_sent_186 : decode cX2_sent 186 = .ok (.getfield 22, 3) := by decide +kernel
theorem dX2_sent_189 : decode cX2_sent 189 = .ok (.iload 4, 2) := by decide +kernel
theorem dX2_sent_191 : decode cX2_sent 191 = .ok (.iaload, 1) := by decide +kernel
theorem dX2_sent_192 : decode cX2_sent 192 = .ok (.if_icmp .lt 37, 3) := by decide +kernel
theorem dX2_sent_195 : decode cX2_sent 195 = .ok (.aload_n 0, 1) := by decide +kernel
theorem dX2_sent_196 : decode cX2_sent 196 = .ok (.getfield 22, 3) := by decide +kernel
theorem dX2_sent_199 : decode cX2_sent 199 = .ok (.iload 6, 2) := by decide +kernel
theorem dX2_sent_201 : decode cX2_sent 201 = .ok (.iaload, 1) := by decide +kernel
theorem dX2_sent_202 : decode cX2_sent 202 = .ok (.aload_n 0, 1) := by decide +kernel
theorem dX2_sent_203 : decode cX2_sent 203 = .ok (.getfield 22, 3) := by decide +kernel
theorem dX2_sent_206 : decode cX2_sent 206 = .ok (.iload 4, 2) := by decide +kernel
theorem dX2_sent_208 : decode cX2_sent 208 = .ok (.iaload, 1) := by decide +kernel
theorem dX2_sent_209 : decode cX2_sent 209 = .ok (.if_icmp .ne 24, 3) := by decide +kernel
theorem dX2_sent_212 : decode cX2_sent 212 = .ok (.aload_n 0, 1) := by decide +kernel
theorem dX2_sent_213 : decode cX2_sent 213 = .ok (.getfield 13, 3) := by decide +kernel
theorem dX2_sent_216 : decode cX2_sent 216 = .ok (.iload 6, 2) := by decide +kernel
theorem dX2_sent_218 : decode cX2_sent 218 = .ok (.iaload, 1) := by decide +kernel
theorem dX2_sent_219 : decode cX2_sent 219 = .ok (.aload_n 0, 1) := by decide +kernel
theorem dX2_sent_220 : decode cX2_sent 220 = .ok (.getfield 13, 3) := by decide +kernel
theorem dX2_sent_223 : decode cX2_sent 223 = .ok (.iload 4, 2) := by decide +kernel
theorem dX2_sent_225 : decode cX2_sent 225 = .ok (.iaload, 1) := by decide +kernel
theorem dX2_sent_226 : decode cX2_sent 226 = .ok (.if_icmp .ge 7, 3) := by decide +kernel
theorem dX2_sent_229 : decode cX2_sent 229 = .ok (.iload 6, 2) := by decide +kernel
theorem dX2_sent_231 : decode cX2_sent 231 = .ok (.istore 4, 2) := by decide +kernel
theorem dX2_sent_233 : decode cX2_sent 233 = .ok (.iinc 6 1, 3) := by decide +kernel
theorem dX2_sent_236 : decode cX2_sent 236 = .ok (.goto (-82), 3) := by decide +kernel
theorem dX2_sent_239 : decode cX2_sent 239 = .ok (.aload_n 0, 1) := by decide +kernel
theorem dX2_sent_240 : decode cX2_sent 240 = .ok (.getfield 35, 3) := by decide +kernel
theorem dX2_sent_243 : decode cX2_sent 243 = .ok (.iload 4, 2) := by decide +kernel
theorem dX2_sent_245 : decode cX2_sent 245 = .ok (.iconst 0, 1) := by decide +kernel
theorem dX2_sent_246 : decode cX2_sent 246 = .ok (.bastore, 1) := by decide +kernel
theorem dX2_sent_247 : decode cX2_sent 247 = .ok (.iinc 5 1, 3) := by decide +kernel
theorem dX2_sent_250 : decode cX2_sent 250 = .ok (.goto (-108), 3) := by decide +kernel
theorem dX2_sent_253 : decode cX2_sent 253 = .ok (.iload 4, 2) := by decide +kernel
theorem dX2_sent_255 : decode cX2_sent 255 = .ok (.ireturn, 1) := by decide +kernel
theorem dX2_held_0 : decode cX2_held 0 = .ok (.iconst 0, 1) := by decide +kernel
theorem dX2_held_1 : decode cX2_held 1 = .ok (.istore_n 3, 1) := by decide +kernel
theorem dX2_held_2 : decode cX2_held 2 = .ok (.iload_n 3, 1) := by decide +kernel
theorem dX2_held_3 : decode cX2_held 3 = .ok (.sipush 2000, 3) := by decide +kernel
theorem dX2_held_6 : decode cX2_held 6 = .ok (.if_icmp .ge 24, 3) := by decide +kernel
theorem dX2_held_9 : decode cX2_held 9 = .ok (.aload_n 2, 1) := by decide +kernel
theorem dX2_held_10 : decode cX2_held 10 = .ok (.iload_n 3, 1) := by decide +kernel
theorem dX2_held_11 : decode cX2_held 11 = .ok (.aload_n 0, 1) := by decide +kernel
theorem dX2_held_12 : decode cX2_held 12 = .ok (.getfield 25, 3) := by decide +kernel
theorem dX2_held_15 : decode cX2_held 15 = .ok (.iload_n 1, 1) := by decide +kernel
theorem dX2_held_16 : decode cX2_held 16 = .ok (.sipush 2000, 3) := by decide +kernel
theorem dX2_held_19 : decode cX2_held 19 = .ok (.imul, 1) := by decide +kernel
theorem dX2_held_20 : decode cX2_held 20 = .ok (.iload_n 3, 1) := by decide +kernel
theorem dX2_held_21 : decode cX2_held 21 = .ok (.iadd, 1) := by decide +kernel
theorem dX2_held_22 : decode cX2_held 22 = .ok (.baload, 1) := by decide +kernel
theorem dX2_held_23 : decode cX2_held 23 = .ok (.bastore, 1) := by decide +kernel
theorem dX2_held_24 : decode cX2_held 24 = .ok (.iinc 3 1, 3) := by decide +kernel
theorem dX2_held_27 : decode cX2_held 27 = .ok (.goto (-25), 3) := by decide +kernel
theorem dX2_held_30 : decode cX2_held 30 = .ok (.aload_n 0, 1) := by decide +kernel
theorem dX2_held_31 : decode cX2_held 31 = .ok (.aload_n 2, 1) := by decide +kernel
theorem dX2_held_32 : decode cX2_held 32 = .ok (.invokevirtual 64, 3) := by decide +kernel
theorem dX2_held_35 : decode cX2_held 35 = .ok (.return_, 1) := by decide +kernel
theorem dX2_generation_0 : decode cX2_generation 0 = .ok (.iconst 0, 1) := by decide +kernel
theorem dX2_generation_1 : decode cX2_generation 1 = .ok (.istore_n 2, 1) := by decide +kernel
end
section
theorem dX2_generation_2 : decode cX2_generation 2 = .ok (.iload_n 2, 1) := by decide +kernel
theorem dX2_generation_3 : decode cX2_generation 3 = .ok (.iload_n 1, 1) := by decide +kernel
theorem dX2_generation_4 : decode cX2_generation 4 = .ok (.if_icmp .gt 81, 3) := by decide +kernel
theorem dX2_generation_7 : decode cX2_generation 7 = .ok (.aload_n 0, 1) := by decide +kernel
theorem dX2_generation_8 : decode cX2_generation 8 = .ok (.getfield 22, 3) := by decide +kernel
theorem dX2_generation_11 : decode cX2_generation 11 = .ok (.iload_n 2, 1) := by decide +kernel
theorem dX2_generation_12 : decode cX2_generation 12 = .ok (.iconst 1, 1) := by decide +kernel
theorem dX2_generation_13 : decode cX2_generation 13 = .ok (.iastore, 1) := by decide +kernel
theorem dX2_generation_14 : decode cX2_generation 14 = .ok (.iconst 0, 1) := by decide +kernel
theorem dX2_generation_15 : decode cX2_generation 15 = .ok (.istore_n 3, 1) := by decide +kernel
theorem dX2_generation_16 : decode cX2_generation 16 = .ok (.iload_n 3, 1) := by decide +kernel
theorem dX2_generation_17 : decode cX2_generation 17 = .ok (.aload_n 0, 1) := by decide +kernel
theorem dX2_generation_18 : decode cX2_generation 18 = .ok (.getfield 16, 3) := by decide +kernel
theorem dX2_generation_21 : decode cX2_generation 21 = .ok (.iload_n 2, 1) := by decide +kernel
theorem dX2_generation_22 : decode cX2_generation 22 = .ok (.iaload, 1) := by decide +kernel
theorem dX2_generation_23 : decode cX2_generation 23 = .ok (.if_icmp .ge 56, 3) := by decide +kernel
theorem dX2_generation_26 : decode cX2_generation 26 = .ok (.aload_n 0, 1) := by decide +kernel
theorem dX2_generation_27 : decode cX2_generation 27 = .ok (.getfield 22, 3) := by decide +kernel
theorem dX2_generation_30 : decode cX2_generation 30 = .ok (.aload_n 0, 1) := by decide +kernel
theorem dX2_generation_31 : decode cX2_generation 31 = .ok (.getfield 19, 3) := by decide +kernel
theorem dX2_generation_34 : decode cX2_generation 34 = .ok (.iload_n 2, 1) := by decide +kernel
theorem dX2_generation_35 : decode cX2_generation 35 = .ok (.iconst 4, 1) := by decide +kernel
theorem dX2_generation_36 : decode cX2_generation 36 = .ok (.imul, 1) := by decide +kernel
theorem dX2_generation_37 : decode cX2_generation 37 = .ok (.iload_n 3, 1) := by decide +kernel
theorem dX2_generation_38 : decode cX2_generation 38 = .ok (.iadd, 1) := by decide +kernel
theorem dX2_generation_39 : decode cX2_generation 39 = .ok (.iaload, 1) := by decide +kernel
theorem dX2_generation_40 : decode cX2_generation 40 = .ok (.iaload, 1) := by decide +kernel
theorem dX2_generation_41 : decode cX2_generation 41 = .ok (.aload_n 0, 1) := by decide +kernel
theorem dX2_generation_42 : decode cX2_generation 42 = .ok (.getfield 22, 3) := by decide +kernel
theorem dX2_generation_45 : decode cX2_generation 45 = .ok (.iload_n 2, 1) := by decide +kernel
theorem dX2_generation_46 : decode cX2_generation 46 = .ok (.iaload, 1) := by decide +kernel
theorem dX2_generation_47 : decode cX2_generation 47 = .ok (.if_icmp .lt 26, 3) := by decide +kernel
theorem dX2_generation_50 : decode cX2_generation 50 = .ok (.aload_n 0, 1) := by decide +kernel
theorem dX2_generation_51 : decode cX2_generation 51 = .ok (.getfield 22, 3) := by decide +kernel
theorem dX2_generation_54 : decode cX2_generation 54 = .ok (.iload_n 2, 1) := by decide +kernel
theorem dX2_generation_55 : decode cX2_generation 55 = .ok (.aload_n 0, 1) := by decide +kernel
theorem dX2_generation_56 : decode cX2_generation 56 = .ok (.getfield 22, 3) := by decide +kernel
theorem dX2_generation_59 : decode cX2_generation 59 = .ok (.aload_n 0, 1) := by decide +kernel
theorem dX2_generation_60 : decode cX2_generation 60 = .ok (.getfield 19, 3) := by decide +kernel
theorem dX2_generation_63 : decode cX2_generation 63 = .ok (.iload_n 2, 1) := by decide +kernel
theorem dX2_generation_64 : decode cX2_generation 64 = .ok (.iconst 4, 1) := by decide +kernel
theorem dX2_generation_65 : decode cX2_generation 65 = .ok (.imul, 1) := by decide +kernel
theorem dX2_generation_66 : decode cX2_generation 66 = .ok (.iload_n 3, 1) := by decide +kernel
theorem dX2_generation_67 : decode cX2_generation 67 = .ok (.iadd, 1) := by decide +kernel
theorem dX2_generation_68 : decode cX2_generation 68 = .ok (.iaload, 1) := by decide +kernel
theorem dX2_generation_69 : decode cX2_generation 69 = .ok (.iaload, 1) := by decide +kernel
theorem dX2_generation_70 : decode cX2_generation 70 = .ok (.iconst 1, 1) := by decide +kernel
theorem dX2_generation_71 : decode cX2_generation 71 = .ok (.iadd, 1) := by decide +kernel
theorem dX2_generation_72 : decode cX2_generation 72 = .ok (.iastore, 1) := by decide +kernel
theorem dX2_generation_73 : decode cX2_generation 73 = .ok (.iinc 3 1, 3) := by decide +kernel
theorem dX2_generation_76 : decode cX2_generation 76 = .ok (.goto (-60), 3) := by decide +kernel
theorem dX2_generation_79 : decode cX2_generation 79 = .ok (.iinc 2 1, 3) := by decide +kernel
theorem dX2_generation_82 : decode cX2_generation 82 = .ok (.goto (-80), 3) := by decide +kernel
theorem dX2_generation_85 : decode cX2_generation 85 = .ok (.aload_n 0, 1) := by decide +kernel
theorem dX2_generation_86 : decode cX2_generation 86 = .ok (.getfield 22, 3) := by decide +kernel
theorem dX2_generation_89 : decode cX2_generation 89 = .ok (.iload_n 1, 1) := by decide +kernel
theorem dX2_generation_90 : decode cX2_generation 90 = .ok (.iaload, 1) := by decide +kernel
theorem dX2_generation_91 : decode cX2_generation 91 = .ok (.ireturn, 1) := by decide +kernel
theorem dX2_told_0 : decode cX2_told 0 = .ok (.aload_n 0, 1) := by decide +kernel
theorem dX2_told_1 : decode cX2_told 1 = .ok (.iconst 0, 1) := by decide +kernel
theorem dX2_told_2 : decode cX2_told 2 = .ok (.putfield 38, 3) := by decide +kernel
theorem dX2_told_5 : decode cX2_told 5 = .ok (.aload_n 0, 1) := by decide +kernel
theorem dX2_told_6 : decode cX2_told 6 = .ok (.iload_n 1, 1) := by decide +kernel
theorem dX2_told_7 : decode cX2_told 7 = .ok (.invokevirtual 57, 3) := by decide +kernel
theorem dX2_told_10 : decode cX2_told 10 = .ok (.ifCond .eq 12, 3) := by decide +kernel
theorem dX2_told_13 : decode cX2_told 13 = .ok (.iload_n 2, 1) := by decide +kernel
theorem dX2_told_14 : decode cX2_told 14 = .ok (.ifCond .lt 8, 3) := by decide +kernel
theorem dX2_told_17 : decode cX2_told 17 = .ok (.iload_n 2, 1) := by decide +kernel
theorem dX2_told_18 : decode cX2_told 18 = .ok (.iconst 4, 1) := by decide +kernel
theorem dX2_told_19 : decode cX2_told 19 = .ok (.if_icmp .le 9, 3) := by decide +kernel
theorem dX2_told_22 : decode cX2_told 22 = .ok (.aload_n 0, 1) := by decide +kernel
theorem dX2_told_23 : decode cX2_told 23 = .ok (.iconst 1, 1) := by decide +kernel
theorem dX2_told_24 : decode cX2_told 24 = .ok (.invokevirtual 45, 3) := by decide +kernel
theorem dX2_told_27 : decode cX2_told 27 = .ok (.ireturn, 1) := by decide +kernel
theorem dX2_told_28 : decode cX2_told 28 = .ok (.iload_n 2, 1) := by decide +kernel
theorem dX2_told_29 : decode cX2_told 29 = .ok (.tableswitch 58 0 3 #[31, 38, 45, 52], 31) := by decide +kernel
theorem dX2_told_60 : decode cX2_told 60 = .ok (.aload_n 0, 1) := by decide +kernel
theorem dX2_told_61 : decode cX2_told 61 = .ok (.getfield 7, 3) := by decide +kernel
theorem dX2_told_64 : decode cX2_told 64 = .ok (.iload_n 1, 1) := by decide +kernel
theorem dX2_told_65 : decode cX2_told 65 = .ok (.iaload, 1) := by decide +kernel
theorem dX2_told_66 : decode cX2_told 66 = .ok (.ireturn, 1) := by decide +kernel
theorem dX2_told_67 : decode cX2_told 67 = .ok (.aload_n 0, 1) := by decide +kernel
theorem dX2_told_68 : decode cX2_told 68 = .ok (.getfield 13, 3) := by decide +kernel
theorem dX2_told_71 : decode cX2_told 71 = .ok (.iload_n 1, 1) := by decide +kernel
theorem dX2_told_72 : decode cX2_told 72 = .ok (.iaload, 1) := by decide +kernel
theorem dX2_told_73 : decode cX2_told 73 = .ok (.ireturn, 1) := by decide +kernel
theorem dX2_told_74 : decode cX2_told 74 = .ok (.aload_n 0, 1) := by decide +kernel
theorem dX2_told_75 : decode cX2_told 75 = .ok (.getfield 16, 3) := by decide +kernel
theorem dX2_told_78 : decode cX2_told 78 = .ok (.iload_n 1, 1) := by decide +kernel
theorem dX2_told_79 : decode cX2_told 79 = .ok (.iaload, 1) := by decide +kernel
theorem dX2_told_80 : decode cX2_told 80 = .ok (.ireturn, 1) := by decide +kernel
theorem dX2_told_81 : decode cX2_told 81 = .ok (.aload_n 0, 1) := by decide +kernel
theorem dX2_told_82 : decode cX2_told 82 = .ok (.iload_n 1, 1) := by decide +kernel
theorem dX2_told_83 : decode cX2_told 83 = .ok (.invokevirtual 90, 3) := by decide +kernel
theorem dX2_told_86 : decode cX2_told 86 = .ok (.ireturn, 1) := by decide +kernel
theorem dX2_told_87 : decode cX2_told 87 = .ok (.aload_n 0, 1) := by decide +kernel
theorem dX2_told_88 : decode cX2_told 88 = .ok (.getfield 25, 3) := by decide +kernel
theorem dX2_told_91 : decode cX2_told 91 = .ok (.iload_n 1, 1) := by decide +kernel
theorem dX2_told_92 : decode cX2_told 92 = .ok (.baload, 1) := by decide +kernel
theorem dX2_told_93 : decode cX2_told 93 = .ok (.ifCond .eq 7, 3) := by decide +kernel
theorem dX2_told_96 : decode cX2_told 96 = .ok (.iconst 1, 1) := by decide +kernel
theorem dX2_told_97 : decode cX2_told 97 = .ok (.goto 4, 3) := by decide +kernel
theorem dX2_told_100 : decode cX2_told 100 = .ok (.iconst 0, 1) := by decide +kernel
theorem dX2_told_101 : decode cX2_told 101 = .ok (.aload_n 0, 1) := by decide +kernel
theorem dX2_told_102 : decode cX2_told 102 = .ok (.getfield 25, 3) := by decide +kernel
theorem dX2_told_105 : decode cX2_told 105 = .ok (.sipush 2000, 3) := by decide +kernel
theorem dX2_told_108 : decode cX2_told 108 = .ok (.iload_n 1, 1) := by decide +kernel
theorem dX2_told_109 : decode cX2_told 109 = .ok (.iadd, 1) := by decide +kernel
theorem dX2_told_110 : decode cX2_told 110 = .ok (.baload, 1) := by decide +kernel
theorem dX2_told_111 : decode cX2_told 111 = .ok (.ifCond .eq 7, 3) := by decide +kernel
theorem dX2_told_114 : decode cX2_told 114 = .ok (.iconst 1, 1) := by decide +kernel
theorem dX2_told_115 : decode cX2_told 115 = .ok (.goto 4, 3) := by decide +kernel
theorem dX2_told_118 : decode cX2_told 118 = .ok (.iconst 0, 1) := by decide +kernel
theorem dX2_told_119 : decode cX2_told 119 = .ok (.iadd, 1) := by decide +kernel
theorem dX2_told_120 : decode cX2_told 120 = .ok (.ireturn, 1) := by decide +kernel
theorem dX2_count_0 : decode cX2_count 0 = .ok (.aload_n 0, 1) := by decide +kernel
theorem dX2_count_1 : decode cX2_count 1 = .ok (.iconst 0, 1) := by decide +kernel
theorem dX2_count_2 : decode cX2_count 2 = .ok (.putfield 38, 3) := by decide +kernel
theorem dX2_count_5 : decode cX2_count 5 = .ok (.aload_n 0, 1) := by decide +kernel
theorem dX2_count_6 : decode cX2_count 6 = .ok (.iconst 0, 1) := by decide +kernel
theorem dX2_count_7 : decode cX2_count 7 = .ok (.aload_n 0, 1) := by decide +kernel
theorem dX2_count_8 : decode cX2_count 8 = .ok (.getfield 29, 3) := by decide +kernel
theorem dX2_count_11 : decode cX2_count 11 = .ok (.invokevirtual 87, 3) := by decide +kernel
theorem dX2_count_14 : decode cX2_count 14 = .ok (.aload_n 0, 1) := by decide +kernel
theorem dX2_count_15 : decode cX2_count 15 = .ok (.iconst 1, 1) := by decide +kernel
theorem dX2_count_16 : decode cX2_count 16 = .ok (.aload_n 0, 1) := by decide +kernel
theorem dX2_count_17 : decode cX2_count 17 = .ok (.getfield 32, 3) := by decide +kernel
theorem dX2_count_20 : decode cX2_count 20 = .ok (.invokevirtual 87, 3) := by decide +kernel
theorem dX2_count_23 : decode cX2_count 23 = .ok (.iconst 0, 1) := by decide +kernel
theorem dX2_count_24 : decode cX2_count 24 = .ok (.istore_n 2, 1) := by decide +kernel
theorem dX2_count_25 : decode cX2_count 25 = .ok (.iconst 0, 1) := by decide +kernel
theorem dX2_count_26 : decode cX2_count 26 = .ok (.istore_n 3, 1) := by decide +kernel
theorem dX2_count_27 : decode cX2_count 27 = .ok (.iconst 0, 1) := by decide +kernel
theorem dX2_count_28 : decode cX2_count 28 = .ok (.istore 4, 2) := by decide +kernel
theorem dX2_count_30 : decode cX2_count 30 = .ok (.iload 4, 2) := by decide +kernel
theorem dX2_count_32 : decode cX2_count 32 = .ok (.aload_n 0, 1) := by decide +kernel
theorem dX2_count_33 : decode cX2_count 33 = .ok (.getfield 42, 3) := by decide +kernel
theorem dX2_count_36 : decode cX2_count 36 = .ok (.if_icmp .ge 165, 3) := by decide +kernel
theorem dX2_count_39 : decode cX2_count 39 = .ok (.iload_n 1, 1) := by decide +kernel
theorem dX2_count_40 : decode cX2_count 40 = .ok (.iconst 1, 1) := by decide +kernel
theorem dX2_count_41 : decode cX2_count 41 = .ok (.if_icmp .ne 13, 3) := by decide +kernel
theorem dX2_count_44 : decode cX2_count 44 = .ok (.aload_n 0, 1) := by decide +kernel
theorem dX2_count_45 : decode cX2_count 45 = .ok (.getfield 25, 3) := by decide +kernel
theorem dX2_count_48 : decode cX2_count 48 = .ok (.iload 4, 2) := by decide +kernel
theorem dX2_count_50 : decode cX2_count 50 = .ok (.baload, 1) := by decide +kernel
theorem dX2_count_51 : decode cX2_count 51 = .ok (.ifCond .ne 61, 3) := by decide +kernel
theorem dX2_count_54 : decode cX2_count 54 = .ok (.iload_n 1, 1) := by decide +kernel
theorem dX2_count_55 : decode cX2_count 55 = .ok (.iconst 2, 1) := by decide +kernel
theorem dX2_count_56 : decode cX2_count 56 = .ok (.if_icmp .ne 17, 3) := by decide +kernel
theorem dX2_count_59 : decode cX2_count 59 = .ok (.aload_n 0, 1) := by decide +kernel
end
section
theorem dX2_count_60 : decode cX2_count 60 = .ok (.getfield 25, 3) := by decide +kernel
theorem dX2_count_63 : decode cX2_count 63 = .ok (.sipush 2000, 3) := by decide +kernel
theorem dX2_count_66 : decode cX2_count 66 = .ok (.iload 4, 2) := by decide +kernel
theorem dX2_count_68 : decode cX2_count 68 = .ok (.iadd, 1) := by decide +kernel
theorem dX2_count_69 : decode cX2_count 69 = .ok (.baload, 1) := by decide +kernel
theorem dX2_count_70 : decode cX2_count 70 = .ok (.ifCond .ne 42, 3) := by decide +kernel
theorem dX2_count_73 : decode cX2_count 73 = .ok (.iload_n 1, 1) := by decide +kernel
theorem dX2_count_74 : decode cX2_count 74 = .ok (.iconst 4, 1) := by decide +kernel
theorem dX2_count_75 : decode cX2_count 75 = .ok (.if_icmp .ne 12, 3) := by decide +kernel
theorem dX2_count_78 : decode cX2_count 78 = .ok (.aload_n 0, 1) := by decide +kernel
theorem dX2_count_79 : decode cX2_count 79 = .ok (.iload 4, 2) := by decide +kernel
theorem dX2_count_81 : decode cX2_count 81 = .ok (.invokevirtual 61, 3) := by decide +kernel
theorem dX2_count_84 : decode cX2_count 84 = .ok (.ifCond .eq 28, 3) := by decide +kernel
theorem dX2_count_87 : decode cX2_count 87 = .ok (.iload_n 1, 1) := by decide +kernel
theorem dX2_count_88 : decode cX2_count 88 = .ok (.iconst 5, 1) := by decide +kernel
theorem dX2_count_89 : decode cX2_count 89 = .ok (.if_icmp .ne 26, 3) := by decide +kernel
theorem dX2_count_92 : decode cX2_count 92 = .ok (.aload_n 0, 1) := by decide +kernel
theorem dX2_count_93 : decode cX2_count 93 = .ok (.getfield 29, 3) := by decide +kernel
theorem dX2_count_96 : decode cX2_count 96 = .ok (.iload 4, 2) := by decide +kernel
theorem dX2_count_98 : decode cX2_count 98 = .ok (.baload, 1) := by decide +kernel
theorem dX2_count_99 : decode cX2_count 99 = .ok (.ifCond .eq 16, 3) := by decide +kernel
theorem dX2_count_102 : decode cX2_count 102 = .ok (.aload_n 0, 1) := by decide +kernel
theorem dX2_count_103 : decode cX2_count 103 = .ok (.getfield 32, 3) := by decide +kernel
theorem dX2_count_106 : decode cX2_count 106 = .ok (.iload 4, 2) := by decide +kernel
theorem dX2_count_108 : decode cX2_count 108 = .ok (.baload, 1) := by decide +kernel
theorem dX2_count_109 : decode cX2_count 109 = .ok (.ifCond .eq 6, 3) := by decide +kernel
theorem dX2_count_112 : decode cX2_count 112 = .ok (.iinc 2 1, 3) := by decide +kernel
theorem dX2_count_115 : decode cX2_count 115 = .ok (.iload_n 1, 1) := by decide +kernel
theorem dX2_count_116 : decode cX2_count 116 = .ok (.iconst 3, 1) := by decide +kernel
theorem dX2_count_117 : decode cX2_count 117 = .ok (.if_icmp .ne 20, 3) := by decide +kernel
theorem dX2_count_120 : decode cX2_count 120 = .ok (.aload_n 0, 1) := by decide +kernel
theorem dX2_count_121 : decode cX2_count 121 = .ok (.iload 4, 2) := by decide +kernel
theorem dX2_count_123 : decode cX2_count 123 = .ok (.invokevirtual 90, 3) := by decide +kernel
theorem dX2_count_126 : decode cX2_count 126 = .ok (.iload_n 3, 1) := by decide +kernel
theorem dX2_count_127 : decode cX2_count 127 = .ok (.if_icmp .le 10, 3) := by decide +kernel
theorem dX2_count_130 : decode cX2_count 130 = .ok (.aload_n 0, 1) := by decide +kernel
theorem dX2_count_131 : decode cX2_count 131 = .ok (.iload 4, 2) := by decide +kernel
theorem dX2_count_133 : decode cX2_count 133 = .ok (.invokevirtual 90, 3) := by decide +kernel
theorem dX2_count_136 : decode cX2_count 136 = .ok (.istore_n 3, 1) := by decide +kernel
theorem dX2_count_137 : decode cX2_count 137 = .ok (.iconst 0, 1) := by decide +kernel
theorem dX2_count_138 : decode cX2_count 138 = .ok (.istore 5, 2) := by decide +kernel
theorem dX2_count_140 : decode cX2_count 140 = .ok (.iconst 0, 1) := by decide +kernel
theorem dX2_count_141 : decode cX2_count 141 = .ok (.istore 6, 2) := by decide +kernel
theorem dX2_count_143 : decode cX2_count 143 = .ok (.iload 6, 2) := by decide +kernel
theorem dX2_count_145 : decode cX2_count 145 = .ok (.aload_n 0, 1) := by decide +kernel
theorem dX2_count_146 : decode cX2_count 146 = .ok (.getfield 16, 3) := by decide +kernel
theorem dX2_count_149 : decode cX2_count 149 = .ok (.iload 4, 2) := by decide +kernel
theorem dX2_count_151 : decode cX2_count 151 = .ok (.iaload, 1) := by decide +kernel
theorem dX2_count_152 : decode cX2_count 152 = .ok (.if_icmp .ge 29, 3) := by decide +kernel
theorem dX2_count_155 : decode cX2_count 155 = .ok (.aload_n 0, 1) := by decide +kernel
theorem dX2_count_156 : decode cX2_count 156 = .ok (.getfield 19, 3) := by decide +kernel
theorem dX2_count_159 : decode cX2_count 159 = .ok (.iload 4, 2) := by decide +kernel
theorem dX2_count_161 : decode cX2_count 161 = .ok (.iconst 4, 1) := by decide +kernel
theorem dX2_count_162 : decode cX2_count 162 = .ok (.imul, 1) := by decide +kernel
theorem dX2_count_163 : decode cX2_count 163 = .ok (.iload 6, 2) := by decide +kernel
theorem dX2_count_165 : decode cX2_count 165 = .ok (.iadd, 1) := by decide +kernel
theorem dX2_count_166 : decode cX2_count 166 = .ok (.iaload, 1) := by decide +kernel
theorem dX2_count_167 : decode cX2_count 167 = .ok (.iload 4, 2) := by decide +kernel
theorem dX2_count_169 : decode cX2_count 169 = .ok (.if_icmp .lt 6, 3) := by decide +kernel
theorem dX2_count_172 : decode cX2_count 172 = .ok (.iconst 1, 1) := by decide +kernel
theorem dX2_count_173 : decode cX2_count 173 = .ok (.istore 5, 2) := by decide +kernel
theorem dX2_count_175 : decode cX2_count 175 = .ok (.iinc 6 1, 3) := by decide +kernel
theorem dX2_count_178 : decode cX2_count 178 = .ok (.goto (-35), 3) := by decide +kernel
theorem dX2_count_181 : decode cX2_count 181 = .ok (.iload_n 1, 1) := by decide +kernel
theorem dX2_count_182 : decode cX2_count 182 = .ok (.bipush 6, 2) := by decide +kernel
theorem dX2_count_184 : decode cX2_count 184 = .ok (.if_icmp .ne 11, 3) := by decide +kernel
theorem dX2_count_187 : decode cX2_count 187 = .ok (.iload 5, 2) := by decide +kernel
theorem dX2_count_189 : decode cX2_count 189 = .ok (.ifCond .eq 6, 3) := by decide +kernel
theorem dX2_count_192 : decode cX2_count 192 = .ok (.iinc 2 1, 3) := by decide +kernel
theorem dX2_count_195 : decode cX2_count 195 = .ok (.iinc 4 1, 3) := by decide +kernel
theorem dX2_count_198 : decode cX2_count 198 = .ok (.goto (-168), 3) := by decide +kernel
theorem dX2_count_201 : decode cX2_count 201 = .ok (.iload_n 1, 1) := by decide +kernel
theorem dX2_count_202 : decode cX2_count 202 = .ok (.ifCond .ne 8, 3) := by decide +kernel
theorem dX2_count_205 : decode cX2_count 205 = .ok (.aload_n 0, 1) := by decide +kernel
theorem dX2_count_206 : decode cX2_count 206 = .ok (.getfield 42, 3) := by decide +kernel
theorem dX2_count_209 : decode cX2_count 209 = .ok (.ireturn, 1) := by decide +kernel
theorem dX2_count_210 : decode cX2_count 210 = .ok (.iload_n 1, 1) := by decide +kernel
theorem dX2_count_211 : decode cX2_count 211 = .ok (.iconst 3, 1) := by decide +kernel
theorem dX2_count_212 : decode cX2_count 212 = .ok (.if_icmp .ne 7, 3) := by decide +kernel
theorem dX2_count_215 : decode cX2_count 215 = .ok (.iload_n 3, 1) := by decide +kernel
theorem dX2_count_216 : decode cX2_count 216 = .ok (.goto 18, 3) := by decide +kernel
theorem dX2_count_219 : decode cX2_count 219 = .ok (.iload_n 1, 1) := by decide +kernel
theorem dX2_count_220 : decode cX2_count 220 = .ok (.ifCond .le 13, 3) := by decide +kernel
theorem dX2_count_223 : decode cX2_count 223 = .ok (.iload_n 1, 1) := by decide +kernel
theorem dX2_count_224 : decode cX2_count 224 = .ok (.bipush 7, 2) := by decide +kernel
theorem dX2_count_226 : decode cX2_count 226 = .ok (.if_icmp .ge 7, 3) := by decide +kernel
theorem dX2_count_229 : decode cX2_count 229 = .ok (.iload_n 2, 1) := by decide +kernel
theorem dX2_count_230 : decode cX2_count 230 = .ok (.goto 4, 3) := by decide +kernel
theorem dX2_count_233 : decode cX2_count 233 = .ok (.iconst (-1), 1) := by decide +kernel
theorem dX2_count_234 : decode cX2_count 234 = .ok (.ireturn, 1) := by decide +kernel
end
section
def wR : List Cond := [(Jvm.Cond.selects "AncestryNetModel" ({ cls := "AncestryNetModel", name := "refuse", desc := "(I)I" } : Jvm.MethodName) ({ cls := "AncestryNetModel", name := "refuse", desc := "(I)I" } : Jvm.MethodName)),
  (Jvm.Cond.selects "AncestryNetModel" ({ cls := "AncestryNetModel", name := "join", desc := "(II)V" } : Jvm.MethodName) ({ cls := "AncestryNetModel", name := "join", desc := "(II)V" } : Jvm.MethodName)),
  (Jvm.Cond.selects "AncestryNetModel" ({ cls := "AncestryNetModel", name := "there", desc := "(I)Z" } : Jvm.MethodName) ({ cls := "AncestryNetModel", name := "there", desc := "(I)Z" } : Jvm.MethodName)),
  (Jvm.Cond.selects "AncestryNetModel" ({ cls := "AncestryNetModel", name := "isAnyParent", desc := "(I)Z" } : Jvm.MethodName) ({ cls := "AncestryNetModel", name := "isAnyParent", desc := "(I)Z" } : Jvm.MethodName)),
  (Jvm.Cond.selects "AncestryNetModel" ({ cls := "AncestryNetModel", name := "isParent", desc := "(II)Z" } : Jvm.MethodName) ({ cls := "AncestryNetModel", name := "isParent", desc := "(II)Z" } : Jvm.MethodName)),
  (Jvm.Cond.selects "AncestryNetModel" ({ cls := "AncestryNetModel", name := "from", desc := "(I[Z)V" } : Jvm.MethodName) ({ cls := "AncestryNetModel", name := "from", desc := "(I[Z)V" } : Jvm.MethodName)),
  (Jvm.Cond.selects "AncestryNetModel" ({ cls := "AncestryNetModel", name := "close", desc := "([Z)V" } : Jvm.MethodName) ({ cls := "AncestryNetModel", name := "close", desc := "([Z)V" } : Jvm.MethodName)),
  (Jvm.Cond.selects "AncestryNetModel" ({ cls := "AncestryNetModel", name := "order", desc := "()V" } : Jvm.MethodName) ({ cls := "AncestryNetModel", name := "order", desc := "()V" } : Jvm.MethodName)),
  (Jvm.Cond.selects "AncestryNetModel" ({ cls := "AncestryNetModel", name := "before", desc := "(II)Z" } : Jvm.MethodName) ({ cls := "AncestryNetModel", name := "before", desc := "(II)Z" } : Jvm.MethodName)),
  (Jvm.Cond.selects "AncestryNetModel" ({ cls := "AncestryNetModel", name := "pick", desc := "(I)I" } : Jvm.MethodName) ({ cls := "AncestryNetModel", name := "pick", desc := "(I)I" } : Jvm.MethodName)),
  (Jvm.Cond.selects "AncestryNetModel" ({ cls := "AncestryNetModel", name := "free", desc := "(I)Z" } : Jvm.MethodName) ({ cls := "AncestryNetModel", name := "free", desc := "(I)Z" } : Jvm.MethodName)),
  (Jvm.Cond.selects "AncestryNetModel" ({ cls := "AncestryNetModel", name := "held", desc := "(I[Z)V" } : Jvm.MethodName) ({ cls := "AncestryNetModel", name := "held", desc := "(I[Z)V" } : Jvm.MethodName)),
  (Jvm.Cond.selects "AncestryNetModel" ({ cls := "AncestryNetModel", name := "generation", desc := "(I)I" } : Jvm.MethodName) ({ cls := "AncestryNetModel", name := "generation", desc := "(I)I" } : Jvm.MethodName)),
  (Jvm.Cond.initialized "AncestryNetModel"),
  (Jvm.Cond.initialized "java/lang/Math"),
  (Jvm.Cond.instanceMethod ({ cls := "java/lang/Object", name := "<init>", desc := "()V" } : Jvm.MethodName)),
  (Jvm.Cond.code ({ cls := "java/lang/Object", name := "<init>", desc := "()V" } : Jvm.MethodName) object_method_1_code (1 : Nat) (Option.none : Option Jvm.ClassFile.FieldType)),
  (Jvm.Cond.arrayClass Jvm.ClassFile.FieldType.int),
  (Jvm.Cond.arrayClass Jvm.ClassFile.FieldType.boolean),
  (Jvm.Cond.static ({ cls := "java/lang/Math", name := "max", desc := "(II)I" } : Jvm.MethodName)),
  (Jvm.Cond.code ({ cls := "java/lang/Math", name := "max", desc := "(II)I" } : Jvm.MethodName) prog_9_method_65_code (2 : Nat) (Option.some Jvm.ClassFile.FieldType.int)),
  (Jvm.Cond.arrayClass Jvm.ClassFile.FieldType.byte),
  (Jvm.Cond.instantiable "AncestryNetModel" (12 : Nat)),
  (Jvm.Cond.instanceMethod ({ cls := "AncestryNetModel", name := "<init>", desc := "()V" } : Jvm.MethodName)),
  (Jvm.Cond.code ({ cls := "AncestryNetModel", name := "<init>", desc := "()V" } : Jvm.MethodName) prog_4_method_1_code (1 : Nat) (Option.none : Option Jvm.ClassFile.FieldType)),
  (Jvm.Cond.methodLink "AncestryNetModel" (1 : Nat) ({ cls := "java/lang/Object", name := "<init>", desc := "()V" } : Jvm.MethodName)),
  (Jvm.Cond.fieldLink "AncestryNetModel" (7 : Nat) "AncestryNetModel" "time" "[I"),
  (Jvm.Cond.fieldLink "AncestryNetModel" (13 : Nat) "AncestryNetModel" "key" "[I"),
  (Jvm.Cond.fieldLink "AncestryNetModel" (16 : Nat) "AncestryNetModel" "many" "[I"),
  (Jvm.Cond.fieldLink "AncestryNetModel" (19 : Nat) "AncestryNetModel" "parent" "[I"),
  (Jvm.Cond.fieldLink "AncestryNetModel" (22 : Nat) "AncestryNetModel" "row" "[I"),
  (Jvm.Cond.fieldLink "AncestryNetModel" (25 : Nat) "AncestryNetModel" "tips" "[Z"),
  (Jvm.Cond.fieldLink "AncestryNetModel" (29 : Nat) "AncestryNetModel" "one" "[Z"),
  (Jvm.Cond.fieldLink "AncestryNetModel" (32 : Nat) "AncestryNetModel" "other" "[Z"),
  (Jvm.Cond.fieldLink "AncestryNetModel" (35 : Nat) "AncestryNetModel" "left" "[Z"),
  (Jvm.Cond.fieldLink "AncestryNetModel" (42 : Nat) "AncestryNetModel" "size" "I"),
  (Jvm.Cond.fieldLink "AncestryNetModel" (38 : Nat) "AncestryNetModel" "thrown" "I"),
  (Jvm.Cond.fieldLink "AncestryNetModel" (72 : Nat) "AncestryNetModel" "found" "I"),
  (Jvm.Cond.laysFinal "AncestryNetModel" "AncestryNetModel" "time" "[I"),
  (Jvm.Cond.soleField "AncestryNetModel" "time"),
  (Jvm.Cond.laysFinal "AncestryNetModel" "AncestryNetModel" "key" "[I"),
  (Jvm.Cond.soleField "AncestryNetModel" "key"),
  (Jvm.Cond.laysFinal "AncestryNetModel" "AncestryNetModel" "many" "[I"),
  (Jvm.Cond.soleField "AncestryNetModel" "many"),
  (Jvm.Cond.laysFinal "AncestryNetModel" "AncestryNetModel" "parent" "[I"),
  (Jvm.Cond.soleField "AncestryNetModel" "parent"),
  (Jvm.Cond.laysFinal "AncestryNetModel" "AncestryNetModel" "row" "[I"),
  (Jvm.Cond.soleField "AncestryNetModel" "row"),
  (Jvm.Cond.laysFinal "AncestryNetModel" "AncestryNetModel" "tips" "[Z"),
  (Jvm.Cond.soleField "AncestryNetModel" "tips"),
  (Jvm.Cond.laysFinal "AncestryNetModel" "AncestryNetModel" "one" "[Z"),
  (Jvm.Cond.soleField "AncestryNetModel" "one"),
  (Jvm.Cond.laysFinal "AncestryNetModel" "AncestryNetModel" "other" "[Z"),
  (Jvm.Cond.soleField "AncestryNetModel" "other"),
  (Jvm.Cond.laysFinal "AncestryNetModel" "AncestryNetModel" "left" "[Z"),
  (Jvm.Cond.soleField "AncestryNetModel" "left"),
  (Jvm.Cond.lays "AncestryNetModel" "AncestryNetModel" "size" "I"),
  (Jvm.Cond.soleField "AncestryNetModel" "size"),
  (Jvm.Cond.lays "AncestryNetModel" "AncestryNetModel" "thrown" "I"),
  (Jvm.Cond.soleField "AncestryNetModel" "thrown"),
  (Jvm.Cond.lays "AncestryNetModel" "AncestryNetModel" "found" "I"),
  (Jvm.Cond.soleField "AncestryNetModel" "found"),
  (Jvm.Cond.superclass "AncestryNetModel" "java/lang/Object"),
  (Jvm.Cond.instanceMethod ({ cls := "AncestryNetModel", name := "thrown", desc := "()I" } : Jvm.MethodName)),
  (Jvm.Cond.selects "AncestryNetModel" ({ cls := "AncestryNetModel", name := "thrown", desc := "()I" } : Jvm.MethodName) ({ cls := "AncestryNetModel", name := "thrown", desc := "()I" } : Jvm.MethodName)),
  (Jvm.Cond.code ({ cls := "AncestryNetModel", name := "thrown", desc := "()I" } : Jvm.MethodName) prog_4_method_2_code (1 : Nat) (Option.some Jvm.ClassFile.FieldType.int)),
  (Jvm.Cond.instanceMethod ({ cls := "AncestryNetModel", name := "add", desc := "(IIIII)I" } : Jvm.MethodName)),
  (Jvm.Cond.selects "AncestryNetModel" ({ cls := "AncestryNetModel", name := "add", desc := "(IIIII)I" } : Jvm.MethodName) ({ cls := "AncestryNetModel", name := "add", desc := "(IIIII)I" } : Jvm.MethodName)),
  (Jvm.Cond.code ({ cls := "AncestryNetModel", name := "add", desc := "(IIIII)I" } : Jvm.MethodName) prog_4_method_5_code (6 : Nat) (Option.some Jvm.ClassFile.FieldType.int)),
  (Jvm.Cond.methodLink "AncestryNetModel" (45 : Nat) ({ cls := "AncestryNetModel", name := "refuse", desc := "(I)I" } : Jvm.MethodName)),
  (Jvm.Cond.instanceMethod ({ cls := "AncestryNetModel", name := "refuse", desc := "(I)I" } : Jvm.MethodName)),
  (Jvm.Cond.code ({ cls := "AncestryNetModel", name := "refuse", desc := "(I)I" } : Jvm.MethodName) prog_4_method_3_code (2 : Nat) (Option.some Jvm.ClassFile.FieldType.int)),
  (Jvm.Cond.methodLink "AncestryNetModel" (49 : Nat) ({ cls := "AncestryNetModel", name := "join", desc := "(II)V" } : Jvm.MethodName)),
  (Jvm.Cond.instanceMethod ({ cls := "AncestryNetModel", name := "join", desc := "(II)V" } : Jvm.MethodName)),
  (Jvm.Cond.code ({ cls := "AncestryNetModel", name := "join", desc := "(II)V" } : Jvm.MethodName) prog_4_method_6_code (3 : Nat) (Option.none : Option Jvm.ClassFile.FieldType)),
  (Jvm.Cond.instanceMethod ({ cls := "AncestryNetModel", name := "under", desc := "(II)I" } : Jvm.MethodName)),
  (Jvm.Cond.selects "AncestryNetModel" ({ cls := "AncestryNetModel", name := "under", desc := "(II)I" } : Jvm.MethodName) ({ cls := "AncestryNetModel", name := "under", desc := "(II)I" } : Jvm.MethodName)),
  (Jvm.Cond.code ({ cls := "AncestryNetModel", name := "under", desc := "(II)I" } : Jvm.MethodName) prog_4_method_9_code (3 : Nat) (Option.some Jvm.ClassFile.FieldType.int)),
  (Jvm.Cond.methodLink "AncestryNetModel" (57 : Nat) ({ cls := "AncestryNetModel", name := "there", desc := "(I)Z" } : Jvm.MethodName)),
  (Jvm.Cond.instanceMethod ({ cls := "AncestryNetModel", name := "there", desc := "(I)Z" } : Jvm.MethodName)),
  (Jvm.Cond.code ({ cls := "AncestryNetModel", name := "there", desc := "(I)Z" } : Jvm.MethodName) prog_4_method_4_code (2 : Nat) (Option.some Jvm.ClassFile.FieldType.boolean)),
  (Jvm.Cond.methodLink "AncestryNetModel" (61 : Nat) ({ cls := "AncestryNetModel", name := "isAnyParent", desc := "(I)Z" } : Jvm.MethodName)),
  (Jvm.Cond.instanceMethod ({ cls := "AncestryNetModel", name := "isAnyParent", desc := "(I)Z" } : Jvm.MethodName)),
  (Jvm.Cond.code ({ cls := "AncestryNetModel", name := "isAnyParent", desc := "(I)Z" } : Jvm.MethodName) prog_4_method_8_code (3 : Nat) (Option.some Jvm.ClassFile.FieldType.boolean)),
  (Jvm.Cond.methodLink "AncestryNetModel" (53 : Nat) ({ cls := "AncestryNetModel", name := "isParent", desc := "(II)Z" } : Jvm.MethodName)),
  (Jvm.Cond.instanceMethod ({ cls := "AncestryNetModel", name := "isParent", desc := "(II)Z" } : Jvm.MethodName)),
  (Jvm.Cond.code ({ cls := "AncestryNetModel", name := "isParent", desc := "(II)Z" } : Jvm.MethodName) prog_4_method_7_code (4 : Nat) (Option.some Jvm.ClassFile.FieldType.boolean)),
  (Jvm.Cond.instanceMethod ({ cls := "AncestryNetModel", name := "tip", desc := "(IIZ)V" } : Jvm.MethodName)),
  (Jvm.Cond.selects "AncestryNetModel" ({ cls := "AncestryNetModel", name := "tip", desc := "(IIZ)V" } : Jvm.MethodName) ({ cls := "AncestryNetModel", name := "tip", desc := "(IIZ)V" } : Jvm.MethodName)),
  (Jvm.Cond.code ({ cls := "AncestryNetModel", name := "tip", desc := "(IIZ)V" } : Jvm.MethodName) prog_4_method_10_code (4 : Nat) (Option.none : Option Jvm.ClassFile.FieldType)),
  (Jvm.Cond.instanceMethod ({ cls := "AncestryNetModel", name := "reaches", desc := "(II)Z" } : Jvm.MethodName)),
  (Jvm.Cond.selects "AncestryNetModel" ({ cls := "AncestryNetModel", name := "reaches", desc := "(II)Z" } : Jvm.MethodName) ({ cls := "AncestryNetModel", name := "reaches", desc := "(II)Z" } : Jvm.MethodName)),
  (Jvm.Cond.code ({ cls := "AncestryNetModel", name := "reaches", desc := "(II)Z" } : Jvm.MethodName) prog_4_method_13_code (3 : Nat) (Option.some Jvm.ClassFile.FieldType.boolean)),
  (Jvm.Cond.methodLink "AncestryNetModel" (68 : Nat) ({ cls := "AncestryNetModel", name := "from", desc := "(I[Z)V" } : Jvm.MethodName)),
  (Jvm.Cond.instanceMethod ({ cls := "AncestryNetModel", name := "from", desc := "(I[Z)V" } : Jvm.MethodName)),
  (Jvm.Cond.code ({ cls := "AncestryNetModel", name := "from", desc := "(I[Z)V" } : Jvm.MethodName) prog_4_method_12_code (4 : Nat) (Option.none : Option Jvm.ClassFile.FieldType)),
  (Jvm.Cond.methodLink "AncestryNetModel" (64 : Nat) ({ cls := "AncestryNetModel", name := "close", desc := "([Z)V" } : Jvm.MethodName)),
  (Jvm.Cond.instanceMethod ({ cls := "AncestryNetModel", name := "close", desc := "([Z)V" } : Jvm.MethodName)),
  (Jvm.Cond.code ({ cls := "AncestryNetModel", name := "close", desc := "([Z)V" } : Jvm.MethodName) prog_4_method_11_code (4 : Nat) (Option.none : Option Jvm.ClassFile.FieldType)),
  (Jvm.Cond.instanceMethod ({ cls := "AncestryNetModel", name := "base", desc := "(III)I" } : Jvm.MethodName)),
  (Jvm.Cond.selects "AncestryNetModel" ({ cls := "AncestryNetModel", name := "base", desc := "(III)I" } : Jvm.MethodName) ({ cls := "AncestryNetModel", name := "base", desc := "(III)I" } : Jvm.MethodName)),
  (Jvm.Cond.code ({ cls := "AncestryNetModel", name := "base", desc := "(III)I" } : Jvm.MethodName) prog_4_method_17_code (6 : Nat) (Option.some Jvm.ClassFile.FieldType.int)),
  (Jvm.Cond.methodLink "AncestryNetModel" (78 : Nat) ({ cls := "AncestryNetModel", name := "order", desc := "()V" } : Jvm.MethodName)),
  (Jvm.Cond.instanceMethod ({ cls := "AncestryNetModel", name := "order", desc := "()V" } : Jvm.MethodName)),
  (Jvm.Cond.code ({ cls := "AncestryNetModel", name := "order", desc := "()V" } : Jvm.MethodName) prog_4_method_15_code (4 : Nat) (Option.none : Option Jvm.ClassFile.FieldType)),
  (Jvm.Cond.methodLink "AncestryNetModel" (75 : Nat) ({ cls := "AncestryNetModel", name := "before", desc := "(II)Z" } : Jvm.MethodName)),
  (Jvm.Cond.instanceMethod ({ cls := "AncestryNetModel", name := "before", desc := "(II)Z" } : Jvm.MethodName)),
  (Jvm.Cond.code ({ cls := "AncestryNetModel", name := "before", desc := "(II)Z" } : Jvm.MethodName) prog_4_method_14_code (3 : Nat) (Option.some Jvm.ClassFile.FieldType.boolean)),
  (Jvm.Cond.methodLink "AncestryNetModel" (81 : Nat) ({ cls := "AncestryNetModel", name := "pick", desc := "(I)I" } : Jvm.MethodName)),
  (Jvm.Cond.instanceMethod ({ cls := "AncestryNetModel", name := "pick", desc := "(I)I" } : Jvm.MethodName)),
  (Jvm.Cond.code ({ cls := "AncestryNetModel", name := "pick", desc := "(I)I" } : Jvm.MethodName) prog_4_method_16_code (2 : Nat) (Option.some Jvm.ClassFile.FieldType.int)),
  (Jvm.Cond.instanceMethod ({ cls := "AncestryNetModel", name := "log", desc := "(II)I" } : Jvm.MethodName)),
  (Jvm.Cond.selects "AncestryNetModel" ({ cls := "AncestryNetModel", name := "log", desc := "(II)I" } : Jvm.MethodName) ({ cls := "AncestryNetModel", name := "log", desc := "(II)I" } : Jvm.MethodName)),
  (Jvm.Cond.code ({ cls := "AncestryNetModel", name := "log", desc := "(II)I" } : Jvm.MethodName) prog_4_method_19_code (5 : Nat) (Option.some Jvm.ClassFile.FieldType.int)),
  (Jvm.Cond.methodLink "AncestryNetModel" (84 : Nat) ({ cls := "AncestryNetModel", name := "free", desc := "(I)Z" } : Jvm.MethodName)),
  (Jvm.Cond.instanceMethod ({ cls := "AncestryNetModel", name := "free", desc := "(I)Z" } : Jvm.MethodName)),
  (Jvm.Cond.code ({ cls := "AncestryNetModel", name := "free", desc := "(I)Z" } : Jvm.MethodName) prog_4_method_18_code (3 : Nat) (Option.some Jvm.ClassFile.FieldType.boolean)),
  (Jvm.Cond.instanceMethod ({ cls := "AncestryNetModel", name := "back", desc := "(II)I" } : Jvm.MethodName)),
  (Jvm.Cond.selects "AncestryNetModel" ({ cls := "AncestryNetModel", name := "back", desc := "(II)I" } : Jvm.MethodName) ({ cls := "AncestryNetModel", name := "back", desc := "(II)I" } : Jvm.MethodName)),
  (Jvm.Cond.code ({ cls := "AncestryNetModel", name := "back", desc := "(II)I" } : Jvm.MethodName) prog_4_method_20_code (5 : Nat) (Option.some Jvm.ClassFile.FieldType.int)),
  (Jvm.Cond.instanceMethod ({ cls := "AncestryNetModel", name := "sent", desc := "(II)I" } : Jvm.MethodName)),
  (Jvm.Cond.selects "AncestryNetModel" ({ cls := "AncestryNetModel", name := "sent", desc := "(II)I" } : Jvm.MethodName) ({ cls := "AncestryNetModel", name := "sent", desc := "(II)I" } : Jvm.MethodName)),
  (Jvm.Cond.code ({ cls := "AncestryNetModel", name := "sent", desc := "(II)I" } : Jvm.MethodName) prog_4_method_23_code (7 : Nat) (Option.some Jvm.ClassFile.FieldType.int)),
  (Jvm.Cond.methodLink "AncestryNetModel" (87 : Nat) ({ cls := "AncestryNetModel", name := "held", desc := "(I[Z)V" } : Jvm.MethodName)),
  (Jvm.Cond.instanceMethod ({ cls := "AncestryNetModel", name := "held", desc := "(I[Z)V" } : Jvm.MethodName)),
  (Jvm.Cond.code ({ cls := "AncestryNetModel", name := "held", desc := "(I[Z)V" } : Jvm.MethodName) prog_4_method_22_code (4 : Nat) (Option.none : Option Jvm.ClassFile.FieldType)),
  (Jvm.Cond.methodLink "AncestryNetModel" (90 : Nat) ({ cls := "AncestryNetModel", name := "generation", desc := "(I)I" } : Jvm.MethodName)),
  (Jvm.Cond.instanceMethod ({ cls := "AncestryNetModel", name := "generation", desc := "(I)I" } : Jvm.MethodName)),
  (Jvm.Cond.code ({ cls := "AncestryNetModel", name := "generation", desc := "(I)I" } : Jvm.MethodName) prog_4_method_21_code (4 : Nat) (Option.some Jvm.ClassFile.FieldType.int)),
  (Jvm.Cond.instanceMethod ({ cls := "AncestryNetModel", name := "told", desc := "(II)I" } : Jvm.MethodName)),
  (Jvm.Cond.selects "AncestryNetModel" ({ cls := "AncestryNetModel", name := "told", desc := "(II)I" } : Jvm.MethodName) ({ cls := "AncestryNetModel", name := "told", desc := "(II)I" } : Jvm.MethodName)),
  (Jvm.Cond.code ({ cls := "AncestryNetModel", name := "told", desc := "(II)I" } : Jvm.MethodName) prog_4_method_24_code (3 : Nat) (Option.some Jvm.ClassFile.FieldType.int)),
  (Jvm.Cond.instanceMethod ({ cls := "AncestryNetModel", name := "count", desc := "(I)I" } : Jvm.MethodName)),
  (Jvm.Cond.selects "AncestryNetModel" ({ cls := "AncestryNetModel", name := "count", desc := "(I)I" } : Jvm.MethodName) ({ cls := "AncestryNetModel", name := "count", desc := "(I)I" } : Jvm.MethodName)),
  (Jvm.Cond.code ({ cls := "AncestryNetModel", name := "count", desc := "(I)I" } : Jvm.MethodName) prog_4_method_25_code (7 : Nat) (Option.some Jvm.ClassFile.FieldType.int)),
  (Jvm.Cond.arrayClass Jvm.ClassFile.FieldType.long)]
theorem wR_all : wR.all goodWord = true := by decide +kernel
theorem wR_good {w : Cond} (h : w ∈ wR) : (w.onTables && w.keeps) = true ∨ ∃ ty, w = .arrayClass ty := good_of_word (List.all_eq_true.mp wR_all w h)
theorem at_in2 {L : List Cond} (ps : List Nat) (h : ps.map (fun i => wR[i]?) = L.map some) : ∀ w ∈ L, w ∈ wR := by
  intro w hw
  have h1 : some w ∈ ps.map (fun i => wR[i]?) := by rw [h]; exact List.mem_map.mpr ⟨w, hw, rfl⟩
  obtain ⟨i, -, hi⟩ := List.mem_map.mp h1
  exact List.mem_of_getElem? hi
theorem gL2 {w0 w1 : Cond} {L : List Cond} (h1 : w1 ∈ wR) (hl : ∀ w ∈ L, w ∈ wR) : GoodIn (w0 :: wR) (L ++ (w1 :: wR)) := by
  intro w h
  rcases List.mem_append.mp h with h | h
  · exact ⟨List.mem_cons_of_mem _ (hl w h), wR_good (hl w h)⟩
  · rcases List.mem_cons.mp h with rfl | h
    · exact ⟨List.mem_cons_of_mem _ h1, wR_good h1⟩
    · exact ⟨List.mem_cons_of_mem _ h, wR_good h⟩
theorem in_X2 : ∀ w ∈ u_ws RX2 TY2 12, w ∈ wR := at_in2 [38, 40, 42, 44, 46, 48, 50, 52, 54, 56, 58, 60] rfl
end
section
/-! The reference's world: one list of ten cells; rows 4 and 5 as the other's: how many parents, which. -/
def vN (E : En) (M : Mt) (z t f : Nat) : va_W := [
  (ad E 0, .inr (2, [.ref (ad E 1), .ref (ad E 2), .ref (ad E 4), .ref (ad E 5), .ref (ad E 3), .ref (ad E 6), .ref (ad E 7), .ref (ad E 8), .ref (ad E 9), .int (nI z), .int (nI t), .int (nI f)])),
  (ad E 1, .inl (E.2.1, 2000, .inl (M 1))), (ad E 2, .inl (E.2.1, 2000, .inl (M 2))), (ad E 3, .inl (E.2.1, 2000, .inl (M 3))), (ad E 4, .inl (E.2.1, 2000, .inl (M 4))),
  (ad E 5, .inl (E.2.1, 8000, .inl (M 5))), (ad E 6, .inl (E.2.2.1, 4000, .inl (M 6))), (ad E 7, .inl (E.2.2.1, 2000, .inl (M 7))), (ad E 8, .inl (E.2.2.1, 2000, .inl (M 8))), (ad E 9, .inl (E.2.2.1, 2000, .inl (M 9)))]
def dM (E : En) : Prop := ∀ i j, i < 10 → j < 10 → ad E i = ad E j → i = j
def aM (E : En) (sz : Nat) : Nat → Prop := fun q => (∃ i, i < 10 ∧ q = ad E i) ∨ sz ≤ q
theorem vN_addr {E : En} {M : Mt} {z t f i : Nat} {q : Nat × va_E} (h : (vN E M z t f)[i]? = some q) : i < 10 ∧ q.1 = ad E i := by
  have h2 : ((vN E M z t f).map Prod.fst)[i]? = some q.1 := by rw [List.getElem?_map, h]; rfl
  have h3 : (vN E M z t f).map Prod.fst = (List.range 10).map (ad E) := rfl
  rw [h3, List.getElem?_map] at h2
  by_cases hi : i < 10
  · rw [List.getElem?_range hi] at h2
    exact ⟨hi, (Option.some.inj h2).symm⟩
  · rw [List.getElem?_eq_none (by rw [List.length_range]; omega)] at h2
    cases h2
theorem dM.D {E : En} (h : dM E) {M : Mt} {z t f sz : Nat} : va_D (aM E sz) (vN E M z t f) := by
  refine ⟨fun i j p q hi hj e => ?_, fun i q hi => ?_⟩
  · obtain ⟨a1, a2⟩ := vN_addr hi
    obtain ⟨b1, b2⟩ := vN_addr hj
    exact h i j a1 b1 (by rw [← a2, ← b2]; exact e)
  · obtain ⟨a1, a2⟩ := vN_addr hi
    exact Or.inl ⟨i, a1, a2⟩
theorem aM_le {E : En} {a b : Nat} (h : a ≤ b) : ∀ q, aM E b q → aM E a q := fun _ hq => hq.elim Or.inl (fun h2 => Or.inr (Nat.le_trans h h2))
def vst (E : En) (H0 : Heap) (M : Mt) (z t f : Nat) (H : Heap) (locs : List Loc) : Prop := va_P E.1 vcl (vN E M z t f) H ∧ va_S (aM E H0.size) H0 H locs
def cY (E : En) (p : Program) (m : MethodId) (c : Code) (cc : ByteArray) (nL : Nat) (s : State) (args : Array Value) (w0 : Cond) (own : String) : Prop := CallFix p m c cc nL s args (w0 :: wR) own ∧ va_K E.1 vcl (tyN E) s ∧ dM E
def rwI (q L : Nat) : Prop := L < 2 ^ 31 ∧ ∀ (E : En) (M : Mt) (z t f : Nat), (vN E M z t f)[q]? = some (ad E q, .inl (E.2.1, L, .inl (M q))) ∧ ∀ g : Nat → Int32, (vN E M z t f).set q (ad E q, .inl (E.2.1, L, .inl g)) = vN E (va_up M q g) z t f
def rwB (q L : Nat) : Prop := L < 2 ^ 31 ∧ ∀ (E : En) (M : Mt) (z t f : Nat), (vN E M z t f)[q]? = some (ad E q, .inl (E.2.2.1, L, .inl (M q))) ∧ ∀ g : Nat → Int32, (vN E M z t f).set q (ad E q, .inl (E.2.2.1, L, .inl g)) = vN E (va_up M q g) z t f
theorem rwI1 : rwI 1 2000 := ⟨by decide, fun _ _ _ _ _ => ⟨rfl, fun _ => rfl⟩⟩
theorem rwI2 : rwI 2 2000 := ⟨by decide, fun _ _ _ _ _ => ⟨rfl, fun _ => rfl⟩⟩
theorem rwI3 : rwI 3 2000 := ⟨by decide, fun _ _ _ _ _ => ⟨rfl, fun _ => rfl⟩⟩
theorem rwI4 : rwI 4 2000 := ⟨by decide, fun _ _ _ _ _ => ⟨rfl, fun _ => rfl⟩⟩
theorem rwI5 : rwI 5 8000 := ⟨by decide, fun _ _ _ _ _ => ⟨rfl, fun _ => rfl⟩⟩
theorem rwB6 : rwB 6 4000 := ⟨by decide, fun _ _ _ _ _ => ⟨rfl, fun _ => rfl⟩⟩
theorem rwB7 : rwB 7 2000 := ⟨by decide, fun _ _ _ _ _ => ⟨rfl, fun _ => rfl⟩⟩
theorem rwB8 : rwB 8 2000 := ⟨by decide, fun _ _ _ _ _ => ⟨rfl, fun _ => rfl⟩⟩
theorem rwB9 : rwB 9 2000 := ⟨by decide, fun _ _ _ _ _ => ⟨rfl, fun _ => rfl⟩⟩
theorem nar01 {x : Int32} (h : x = nI 0 ∨ x = nI 1) : vp_nar .boolean x = x := by
  rcases h with h | h <;> rw [h] <;> rfl
section CR2
variable {p : Program} {l : Launch} {e : Env} {R : Room} {s : State} {m : MethodId} {args : Array Value} {below : List Frame} {meth : Method} {c : Code} {H H0 : Heap} {locs : List Loc} {cells slots : Nat} {Q : State → Prop} {pc nL : Nat} {ls : Array Slot} {rest : List Value} {cc : ByteArray} {w0 : Cond} {own : String} {E : En} {M : Mt} {z t f : Nat}
theorem ldI2 (K : cY E p m c cc nL s args w0 own) (w : vst E H0 M z t f H locs) {q L : Nat} (hq : rwI q L) {j : Nat} (hj : j < L) (hd : decode cc pc = .ok (.iaload, 1))
    (kk : W p l e R s m args below meth c H locs cells slots Q (F0 m (pc + 1) ls (.int (M q j) :: rest))) : W p l e R s m args below meth c H locs cells slots Q (F0 m pc ls (.int (nI j) :: .ref (ad E q) :: rest)) := by
  refine va_iald K.1.1 K.1.2.1 K.2.1 w.1 q 0 (hq.2 E M z t f).1 rfl (vp_in_nI hj hq.1) hd ?_
  rw [nI_clamp (Nat.lt_trans hj hq.1)]
  exact kk
theorem stI2 (K : cY E p m c cc nL s args w0 own) (w : vst E H0 M z t f H locs) {q L : Nat} (hq : rwI q L) {j : Nat} {x : Int32} (hj : j < L) (hd : decode cc pc = .ok (.iastore, 1))
    (kk : ∀ (H : Heap) (locs : List Loc), vst E H0 (va_up M q (upd (M q) j x)) z t f H locs → W p l e R s m args below meth c H locs cells slots Q (F0 m (pc + 1) ls rest)) : W p l e R s m args below meth c H locs cells slots Q (F0 m pc ls (.int x :: .int (nI j) :: .ref (ad E q) :: rest)) := by
  refine va_iast K.1.1 K.1.2.1 K.2.1 w.1 K.2.2.D w.2 q 0 (hq.2 E M z t f).1 rfl (vp_in_nI hj hq.1) hd (fun H1 locs1 hP _ hS => kk H1 locs1 ⟨?_, hS⟩)
  rw [nI_clamp (Nat.lt_trans hj hq.1), (hq.2 E M z t f).2] at hP
  exact hP
theorem ldB2 (K : cY E p m c cc nL s args w0 own) (w : vst E H0 M z t f H locs) {q L : Nat} (hq : rwB q L) {j : Nat} (hj : j < L) (hd : decode cc pc = .ok (.baload, 1))
    (kk : W p l e R s m args below meth c H locs cells slots Q (F0 m (pc + 1) ls (.int (M q j) :: rest))) : W p l e R s m args below meth c H locs cells slots Q (F0 m pc ls (.int (nI j) :: .ref (ad E q) :: rest)) := by
  refine va_zald K.1.1 K.1.2.1 K.2.1 w.1 q 1 (hq.2 E M z t f).1 rfl (vp_in_nI hj hq.1) hd ?_
  rw [nI_clamp (Nat.lt_trans hj hq.1)]
  exact kk
theorem stB2 (K : cY E p m c cc nL s args w0 own) (w : vst E H0 M z t f H locs) {q L : Nat} (hq : rwB q L) {j : Nat} {x : Int32} (hj : j < L) (hx : vp_nar .boolean x = x) (hd : decode cc pc = .ok (.bastore, 1))
    (kk : ∀ (H : Heap) (locs : List Loc), vst E H0 (va_up M q (upd (M q) j x)) z t f H locs → W p l e R s m args below meth c H locs cells slots Q (F0 m (pc + 1) ls rest)) : W p l e R s m args below meth c H locs cells slots Q (F0 m pc ls (.int x :: .int (nI j) :: .ref (ad E q) :: rest)) := by
  refine va_zast K.1.1 K.1.2.1 K.2.1 w.1 K.2.2.D w.2 q 1 (hq.2 E M z t f).1 rfl (vp_in_nI hj hq.1) hd (fun H1 locs1 hP _ hS => kk H1 locs1 ⟨?_, hS⟩)
  rw [nI_clamp (Nat.lt_trans hj hq.1), hx, (hq.2 E M z t f).2] at hP
  exact hP
theorem recvM (K : cY E p m c cc nL s args w0 own) (w : vst E H0 M z t f H locs) : ∃ cell : Cell, H[ad E 0]? = some cell ∧ cell.vm.isStatics = false ∧ s.vm.findClass RX2 = some cell.cls := va_recv (ci := 2) (q0 := 0) K.2.1 w.1 rfl rfl
end CR2
/-- a contract without an answer: rows, commits, queue before and behind -/
def MV2 (l : Launch) (y : MethodName) (w1 : Cond) (fr lo : Nat) (E : En) (av : List Value) (M : Mt) (z t f : Nat) (M' : Mt) (z' t' f' : Nat) : Prop := ∀ sz : Nat, Met l y (w1 :: wR) (rmA fr lo)
  (va_Pc av (fun U => U.heap.size = sz ∧ va_P E.1 vcl (vN E M z t f) U.heap ∧ va_K E.1 vcl (tyN E) U)) (va_Qv (fun _ : Unit => True) (fun _ u9 => va_P E.1 vcl (vN E M' z' t' f') u9.heap) (aM E sz)) 0 0 (aM E sz)
def MI2 (l : Launch) (y : MethodName) (w1 : Cond) (fr lo : Nat) (E : En) (av : List Value) (M : Mt) (z t f : Nat) (r : Int32) (M' : Mt) (z' t' f' : Nat) : Prop := ∀ sz : Nat, Met l y (w1 :: wR) (rmA fr lo)
  (va_Pc av (fun U => U.heap.size = sz ∧ va_P E.1 vcl (vN E M z t f) U.heap ∧ va_K E.1 vcl (tyN E) U)) (va_Qi (fun r' (_ : Unit) => r' = r) (fun _ u9 => va_P E.1 vcl (vN E M' z' t' f') u9.heap) (aM E sz)) 0 0 (aM E sz)
theorem pM_blind {E : En} {av : List Value} {sz : Nat} {M : Mt} {z t f : Nat} : FrameBlind (va_Pc av (fun U => U.heap.size = sz ∧ va_P E.1 vcl (vN E M z t f) U.heap ∧ va_K E.1 vcl (tyN E) U)) := by
  intro a U g mk q
  obtain ⟨q0, q1, qP, qK⟩ := q
  exact ⟨q0, q1, qP, va_K.moved (u := U) (U := U.calling g mk a) (Vm.Alike.refl U.vm) qK⟩
section CM
variable {l : Launch} {y : MethodName} {fr lo : Nat} {E : En} {av : List Value} {M M' : Mt} {z t f z' t' f' : Nat} {r : Int32} {cc : ByteArray} {maxL : Nat} {own : String}
theorem MV2.of (dn : dM E) (hy : plainName own = true) (ho : y.cls = own) (hav : (lg_sl av).length ≤ maxL)
    (body : ∀ (p : Program) (e : Env) (s : State) (m : MethodId) (args : Array Value) (below : List Frame) (meth : Method) (c : Code) (ls : Array Slot) (Q : State → Prop), cY E p m c cc maxL s args (.code y cc maxL none) own → vst E s.heap M z t f s.heap [] → lv_has ls maxL (lv_args 0 av) →
      (∀ {H : Heap} {locs : List Loc} {pc : Nat} {ls : Array Slot}, vst E s.heap M' z' t' f' H locs → decode cc pc = .ok (.return_, 1) → W p l e (rmA fr lo) s m args below meth c H locs 0 0 Q (F0 m pc ls [])) →
      W p l e (rmA fr lo) s m args below meth c s.heap [] 0 0 Q (F0 m 0 ls [])) : MV2 l y (.code y cc maxL none) fr lo E av M z t f M' z' t' f' := by
  intro sz
  refine Met.ofW (cc := cc) (maxL := maxL) (ret := none) (by rw [ho]; exact hy) rfl ?_
  intro p e s m args below meth c s₁ B hml hv
  obtain ⟨rfl, hsz, hP, hK⟩ := hv
  subst hsz
  have hts := atoms_spec (ws := .code y cc maxL none :: wR) B.pre
  have hown : s.vm.findClass own = some m.cls := ho ▸ findClass_of_methodNamed B.named
  have hlocks := B.notSynchronized
  have hl := lv_entry av (n := maxL) hav
  rw [lg_entry_eq]
  generalize (lg_sl av ++ List.replicate (maxL - (lg_sl av).length) Slot.unset).toArray = ls at hl ⊢
  exact body p e s m _ below meth c ls _ ⟨⟨B.exec, B.bytes, hml, hown, hts⟩, hK, dn⟩ ⟨hP, va_S.rf⟩ hl (fun w hd => W.vret B.exec B.bytes B.returns (fun u9 ht hW => ⟨⟨(), rfl, trivial, by show va_P E.1 vcl (vN E M' z' t' f') u9.heap; rw [ht]; exact w.1⟩, w.2.F ht⟩) w.2.2.2 hd)
theorem MI2.of (dn : dM E) (hy : plainName own = true) (ho : y.cls = own) (hav : (lg_sl av).length ≤ maxL)
    (body : ∀ (p : Program) (e : Env) (s : State) (m : MethodId) (args : Array Value) (below : List Frame) (meth : Method) (c : Code) (ls : Array Slot) (Q : State → Prop), cY E p m c cc maxL s args (.code y cc maxL (some .int)) own → vst E s.heap M z t f s.heap [] → lv_has ls maxL (lv_args 0 av) →
      (∀ {H : Heap} {locs : List Loc} {pc : Nat} {ls : Array Slot} {v : Int32}, vst E s.heap M' z' t' f' H locs → v = r → decode cc pc = .ok (.ireturn, 1) → W p l e (rmA fr lo) s m args below meth c H locs 0 0 Q (F0 m pc ls [.int v])) →
      W p l e (rmA fr lo) s m args below meth c s.heap [] 0 0 Q (F0 m 0 ls [])) : MI2 l y (.code y cc maxL (some .int)) fr lo E av M z t f r M' z' t' f' := by
  intro sz
  refine Met.ofW (cc := cc) (maxL := maxL) (ret := some .int) (by rw [ho]; exact hy) rfl ?_
  intro p e s m args below meth c s₁ B hml hv
  obtain ⟨rfl, hsz, hP, hK⟩ := hv
  subst hsz
  have hts := atoms_spec (ws := .code y cc maxL (some .int) :: wR) B.pre
  have hown : s.vm.findClass own = some m.cls := ho ▸ findClass_of_methodNamed B.named
  have hlocks := B.notSynchronized
  have hl := lv_entry av (n := maxL) hav
  rw [lg_entry_eq]
  generalize (lg_sl av ++ List.replicate (maxL - (lg_sl av).length) Slot.unset).toArray = ls at hl ⊢
  exact body p e s m _ below meth c ls _ ⟨⟨B.exec, B.bytes, hml, hown, hts⟩, hK, dn⟩ ⟨hP, va_S.rf⟩ hl (fun w hv hd => W.iret B.exec B.bytes B.returns (fun u9 ht hW => ⟨⟨_, (), rfl, hv, by show va_P E.1 vcl (vN E M' z' t' f') u9.heap; rw [ht]; exact w.1⟩, w.2.F ht⟩) w.2.2.2 hd)
theorem MI2.ofZ (dn : dM E) (hy : plainName own = true) (ho : y.cls = own) (hav : (lg_sl av).length ≤ maxL) (hz : r = 0 ∨ r = 1)
    (body : ∀ (p : Program) (e : Env) (s : State) (m : MethodId) (args : Array Value) (below : List Frame) (meth : Method) (c : Code) (ls : Array Slot) (Q : State → Prop), cY E p m c cc maxL s args (.code y cc maxL (some .boolean)) own → vst E s.heap M z t f s.heap [] → lv_has ls maxL (lv_args 0 av) →
      (∀ {H : Heap} {locs : List Loc} {pc : Nat} {ls : Array Slot} {v : Int32}, vst E s.heap M' z' t' f' H locs → v = r → decode cc pc = .ok (.ireturn, 1) → W p l e (rmA fr lo) s m args below meth c H locs 0 0 Q (F0 m pc ls [.int v])) →
      W p l e (rmA fr lo) s m args below meth c s.heap [] 0 0 Q (F0 m 0 ls [])) : MI2 l y (.code y cc maxL (some .boolean)) fr lo E av M z t f r M' z' t' f' := by
  intro sz
  refine Met.ofW (cc := cc) (maxL := maxL) (ret := some .boolean) (by rw [ho]; exact hy) rfl ?_
  intro p e s m args below meth c s₁ B hml hv
  obtain ⟨rfl, hsz, hP, hK⟩ := hv
  subst hsz
  have hts := atoms_spec (ws := .code y cc maxL (some .boolean) :: wR) B.pre
  have hown : s.vm.findClass own = some m.cls := ho ▸ findClass_of_methodNamed B.named
  have hlocks := B.notSynchronized
  have hl := lv_entry av (n := maxL) hav
  rw [lg_entry_eq]
  generalize (lg_sl av ++ List.replicate (maxL - (lg_sl av).length) Slot.unset).toArray = ls at hl ⊢
  exact body p e s m _ below meth c ls _ ⟨⟨B.exec, B.bytes, hml, hown, hts⟩, hK, dn⟩ ⟨hP, va_S.rf⟩ hl (fun w hv hd => W.zret B.exec B.bytes B.returns (by subst hv; rcases hz with h | h <;> rw [h] <;> rfl) (fun u9 ht hW => ⟨⟨_, (), rfl, hv, by show va_P E.1 vcl (vN E M' z' t' f') u9.heap; rw [ht]; exact w.1⟩, w.2.F ht⟩) w.2.2.2 hd)
end CM
section CC
variable {p : Program} {l : Launch} {e : Env} {R : Room} {s : State} {m : MethodId} {args : Array Value} {below : List Frame} {meth : Method} {c : Code} {H : Heap} {locs : List Loc} {cells slots : Nat} {Q : State → Prop} {pc nL : Nat} {ls : Array Slot} {rest st : List Value} {cc : ByteArray} {w0 w1 : Cond} {own C : String} {E : En} {M M' : Mt} {z t f z' t' f' : Nat}
variable {y : MethodName} {bytes : ByteArray} {maxL fr lo idx nA b : Nat} {As : List Value} {ret : Option FieldType} {r : Int32}
theorem callv2 (K : cY E p m c cc nL s args w0 own) (w : vst E s.heap M z t f H locs) (hM : MV2 l y w1 fr lo E (.ref b :: As) M z t f M' z' t' f') (cw : CallW R s args own C idx y bytes maxL ret (w1 :: wR) (rmA fr lo) 0 0 nA)
    (hr : ∃ cell : Cell, H[b]? = some cell ∧ cell.vm.isStatics = false ∧ s.vm.findClass C = some cell.cls) (hn : As.length = nA) (hsz : ls.size = nL) (hst : st = As.reverse ++ .ref b :: rest) (hW : (rest.map fun v => v.category).sum ≤ 8) (hd : decode cc pc = .ok (.invokevirtual idx, 3)) (hf : cells ≤ R.cells ∧ slots ≤ R.slots)
    (kk : ∀ (H : Heap) (locs : List Loc), vst E s.heap M' z' t' f' H locs → W p l e R s m args below meth c H locs cells slots Q (F0 m (pc + 3) ls rest)) : W p l e R s m args below meth c H locs cells slots Q (F0 m pc ls st) := by
  have hsub := aM_le (E := E) w.2.1
  refine va_callv (A0 := aM E s.heap.size) (A1 := aM E H.size) (va_runV (As := As) (rest := rest) K.1 (hM H.size) cw ⟨pM_blind, hr, fun U hU hW => ⟨rfl, by rw [hU], by rw [hU]; exact w.1, va_K.moved hW.alike K.2.1⟩⟩ rfl hn hsz hst (lv_room hW) hd ⟨hf.1, hf.2⟩) w.2 (fun q _ h => hsub q h) hsub (fun u u9 H1 locs1 ht hvm hp hB hz hk hS => ?_)
  exact kk H1 locs1 ⟨by rw [← ht]; exact hB, hS⟩
theorem calli2 (K : cY E p m c cc nL s args w0 own) (w : vst E s.heap M z t f H locs) (hM : MI2 l y w1 fr lo E (.ref b :: As) M z t f r M' z' t' f') (cw : CallW R s args own C idx y bytes maxL ret (w1 :: wR) (rmA fr lo) 0 0 nA)
    (hr : ∃ cell : Cell, H[b]? = some cell ∧ cell.vm.isStatics = false ∧ s.vm.findClass C = some cell.cls) (hn : As.length = nA) (hsz : ls.size = nL) (hst : st = As.reverse ++ .ref b :: rest) (hW : (rest.map fun v => v.category).sum ≤ 8) (hd : decode cc pc = .ok (.invokevirtual idx, 3)) (hf : cells ≤ R.cells ∧ slots ≤ R.slots)
    (kk : ∀ (H : Heap) (locs : List Loc), vst E s.heap M' z' t' f' H locs → W p l e R s m args below meth c H locs cells slots Q (F0 m (pc + 3) ls (.int r :: rest))) : W p l e R s m args below meth c H locs cells slots Q (F0 m pc ls st) := by
  have hsub := aM_le (E := E) w.2.1
  refine va_calli (A0 := aM E s.heap.size) (A1 := aM E H.size) (va_runV (As := As) (rest := rest) K.1 (hM H.size) cw ⟨pM_blind, hr, fun U hU hW => ⟨rfl, by rw [hU], by rw [hU]; exact w.1, va_K.moved hW.alike K.2.1⟩⟩ rfl hn hsz hst (lv_room hW) hd ⟨hf.1, hf.2⟩) w.2 (fun q _ h => hsub q h) hsub (fun r' u u9 H1 locs1 ht hvm hp hB hz hk hS => ?_)
  subst hp
  exact kk H1 locs1 ⟨by rw [← ht]; exact hB, hS⟩
end CC
end
section
section LK2
variable {p : Program} {l : Launch} {e : Env} {R : Room} {s : State} {m : MethodId} {args : Array Value} {below : List Frame} {meth : Method} {c : Code} {H H0 : Heap} {locs : List Loc} {cells slots : Nat} {Q : State → Prop} {pc nL : Nat} {ls : Array Slot} {rest : List Value} {cc : ByteArray} {w0 : Cond} {E : En} {M : Mt} {z t f : Nat} {rm : Room}
theorem gf_X2_time (K : cY E p m c cc nL s args w0 RX2) (w : vst E H0 M z t f H locs) (hd : decode cc pc = .ok (.getfield 7, 3)) (kk : W p l e R s m args below meth c H locs cells slots Q (F0 m (pc + 3) ls (.ref (ad E 1) :: rest))) : W p l e R s m args below meth c H locs cells slots Q (F0 m pc ls (.ref (ad E 0) :: rest)) :=
  va_get (D := E.1) (ci := 2) (v := .ref (ad E 1)) (C := RX2) (T := TY2) (N := 12) (ref := RX2) K.1.1 K.1.2.1 K.1.2.2.2.2 (fun w h => List.mem_cons_of_mem _ (in_X2 w h)) K.1.2.2.2.1 K.2.1 w.1 0 rfl rfl 0 (by decide) (K.1.2.2.2.2 _ (List.mem_cons_of_mem _ (List.mem_of_getElem? (i := 26) rfl))) (fun _ h9 => h9) rfl hd kk
theorem gf_X2_key (K : cY E p m c cc nL s args w0 RX2) (w : vst E H0 M z t f H locs) (hd : decode cc pc = .ok (.getfield 13, 3)) (kk : W p l e R s m args below meth c H locs cells slots Q (F0 m (pc + 3) ls (.ref (ad E 2) :: rest))) : W p l e R s m args below meth c H locs cells slots Q (F0 m pc ls (.ref (ad E 0) :: rest)) :=
  va_get (D := E.1) (ci := 2) (v := .ref (ad E 2)) (C := RX2) (T := TY2) (N := 12) (ref := RX2) K.1.1 K.1.2.1 K.1.2.2.2.2 (fun w h => List.mem_cons_of_mem _ (in_X2 w h)) K.1.2.2.2.1 K.2.1 w.1 0 rfl rfl 1 (by decide) (K.1.2.2.2.2 _ (List.mem_cons_of_mem _ (List.mem_of_getElem? (i := 27) rfl))) (fun _ h9 => h9) rfl hd kk
theorem gf_X2_many (K : cY E p m c cc nL s args w0 RX2) (w : vst E H0 M z t f H locs) (hd : decode cc pc = .ok (.getfield 16, 3)) (kk : W p l e R s m args below meth c H locs cells slots Q (F0 m (pc + 3) ls (.ref (ad E 4) :: rest))) : W p l e R s m args below meth c H locs cells slots Q (F0 m pc ls (.ref (ad E 0) :: rest)) :=
  va_get (D := E.1) (ci := 2) (v := .ref (ad E 4)) (C := RX2) (T := TY2) (N := 12) (ref := RX2) K.1.1 K.1.2.1 K.1.2.2.2.2 (fun w h => List.mem_cons_of_mem _ (in_X2 w h)) K.1.2.2.2.1 K.2.1 w.1 0 rfl rfl 2 (by decide) (K.1.2.2.2.2 _ (List.mem_cons_of_mem _ (List.mem_of_getElem? (i := 28) rfl))) (fun _ h9 => h9) rfl hd kk
theorem gf_X2_parent (K : cY E p m c cc nL s args w0 RX2) (w : vst E H0 M z t f H locs) (hd : decode cc pc = .ok (.getfield 19, 3)) (kk : W p l e R s m args below meth c H locs cells slots Q (F0 m (pc + 3) ls (.ref (ad E 5) :: rest))) : W p l e R s m args below meth c H locs cells slots Q (F0 m pc ls (.ref (ad E 0) :: rest)) :=
  va_get (D := E.1) (ci := 2) (v := .ref (ad E 5)) (C := RX2) (T := TY2) (N := 12) (ref := RX2) K.1.1 K.1.2.1 K.1.2.2.2.2 (fun w h => List.mem_cons_of_mem _ (in_X2 w h)) K.1.2.2.2.1 K.2.1 w.1 0 rfl rfl 3 (by decide) (K.1.2.2.2.2 _ (List.mem_cons_of_mem _ (List.mem_of_getElem? (i := 29) rfl))) (fun _ h9 => h9) rfl hd kk
theorem gf_X2_row (K : cY E p m c cc nL s args w0 RX2) (w : vst E H0 M z t f H locs) (hd : decode cc pc = .ok (.getfield 22, 3)) (kk : W p l e R s m args below meth c H locs cells slots Q (F0 m (pc + 3) ls (.ref (ad E 3) :: rest))) : W p l e R s m args below meth c H locs cells slots Q (F0 m pc ls (.ref (ad E 0) :: rest)) :=
  va_get (D := E.1) (ci := 2) (v := .ref (ad E 3)) (C := RX2) (T := TY2) (N := 12) (ref := RX2) K.1.1 K.1.2.1 K.1.2.2.2.2 (fun w h => List.mem_cons_of_mem _ (in_X2 w h)) K.1.2.2.2.1 K.2.1 w.1 0 rfl rfl 4 (by decide) (K.1.2.2.2.2 _ (List.mem_cons_of_mem _ (List.mem_of_getElem? (i := 30) rfl))) (fun _ h9 => h9) rfl hd kk
theorem gf_X2_tips (K : cY E p m c cc nL s args w0 RX2) (w : vst E H0 M z t f H locs) (hd : decode cc pc = .ok (.getfield 25, 3)) (kk : W p l e R s m args below meth c H locs cells slots Q (F0 m (pc + 3) ls (.ref (ad E 6) :: rest))) : W p l e R s m args below meth c H locs cells slots Q (F0 m pc ls (.ref (ad E 0) :: rest)) :=
  va_get (D := E.1) (ci := 2) (v := .ref (ad E 6)) (C := RX2) (T := TY2) (N := 12) (ref := RX2) K.1.1 K.1.2.1 K.1.2.2.2.2 (fun w h => List.mem_cons_of_mem _ (in_X2 w h)) K.1.2.2.2.1 K.2.1 w.1 0 rfl rfl 5 (by decide) (K.1.2.2.2.2 _ (List.mem_cons_of_mem _ (List.mem_of_getElem? (i := 31) rfl))) (fun _ h9 => h9) rfl hd kk
theorem gf_X2_one (K : cY E p m c cc nL s args w0 RX2) (w : vst E H0 M z t f H locs) (hd : decode cc pc = .ok (.getfield 29, 3)) (kk : W p l e R s m args below meth c H locs cells slots Q (F0 m (pc + 3) ls (.ref (ad E 7) :: rest))) : W p l e R s m args below meth c H locs cells slots Q (F0 m pc ls (.ref (ad E 0) :: rest)) :=
  va_get (D := E.1) (ci := 2) (v := .ref (ad E 7)) (C := RX2) (T := TY2) (N := 12) (ref := RX2) K.1.1 K.1.2.1 K.1.2.2.2.2 (fun w h => List.mem_cons_of_mem _ (in_X2 w h)) K.1.2.2.2.1 K.2.1 w.1 0 rfl rfl 6 (by decide) (K.1.2.2.2.2 _ (List.mem_cons_of_mem _ (List.mem_of_getElem? (i := 32) rfl))) (fun _ h9 => h9) rfl hd kk
theorem gf_X2_other (K : cY E p m c cc nL s args w0 RX2) (w : vst E H0 M z t f H locs) (hd : decode cc pc = .ok (.getfield 32, 3)) (kk : W p l e R s m args below meth c H locs cells slots Q (F0 m (pc + 3) ls (.ref (ad E 8) :: rest))) : W p l e R s m args below meth c H locs cells slots Q (F0 m pc ls (.ref (ad E 0) :: rest)) :=
  va_get (D := E.1) (ci := 2) (v := .ref (ad E 8)) (C := RX2) (T := TY2) (N := 12) (ref := RX2) K.1.1 K.1.2.1 K.1.2.2.2.2 (fun w h => List.mem_cons_of_mem _ (in_X2 w h)) K.1.2.2.2.1 K.2.1 w.1 0 rfl rfl 7 (by decide) (K.1.2.2.2.2 _ (List.mem_cons_of_mem _ (List.mem_of_getElem? (i := 33) rfl))) (fun _ h9 => h9) rfl hd kk
theorem gf_X2_left (K : cY E p m c cc nL s args w0 RX2) (w : vst E H0 M z t f H locs) (hd : decode cc pc = .ok (.getfield 35, 3)) (kk : W p l e R s m args below meth c H locs cells slots Q (F0 m (pc + 3) ls (.ref (ad E 9) :: rest))) : W p l e R s m args below meth c H locs cells slots Q (F0 m pc ls (.ref (ad E 0) :: rest)) :=
  va_get (D := E.1) (ci := 2) (v := .ref (ad E 9)) (C := RX2) (T := TY2) (N := 12) (ref := RX2) K.1.1 K.1.2.1 K.1.2.2.2.2 (fun w h => List.mem_cons_of_mem _ (in_X2 w h)) K.1.2.2.2.1 K.2.1 w.1 0 rfl rfl 8 (by decide) (K.1.2.2.2.2 _ (List.mem_cons_of_mem _ (List.mem_of_getElem? (i := 34) rfl))) (fun _ h9 => h9) rfl hd kk
theorem gf_X2_thrown (K : cY E p m c cc nL s args w0 RX2) (w : vst E H0 M z t f H locs) (hd : decode cc pc = .ok (.getfield 38, 3)) (kk : W p l e R s m args below meth c H locs cells slots Q (F0 m (pc + 3) ls (.int (nI t) :: rest))) : W p l e R s m args below meth c H locs cells slots Q (F0 m pc ls (.ref (ad E 0) :: rest)) :=
  va_get (D := E.1) (ci := 2) (v := .int (nI t)) (C := RX2) (T := TY2) (N := 12) (ref := RX2) K.1.1 K.1.2.1 K.1.2.2.2.2 (fun w h => List.mem_cons_of_mem _ (in_X2 w h)) K.1.2.2.2.1 K.2.1 w.1 0 rfl rfl 10 (by decide) (K.1.2.2.2.2 _ (List.mem_cons_of_mem _ (List.mem_of_getElem? (i := 36) rfl))) (fun _ h9 => h9) rfl hd kk
theorem pf_X2_thrown (K : cY E p m c cc nL s args w0 RX2) (w : vst E H0 M z t f H locs) {v : Int32} {n' : Nat} (hv : v = nI n') (hd : decode cc pc = .ok (.putfield 38, 3)) (kk : ∀ (H : Heap) (locs : List Loc), vst E H0 M z n' f H locs → W p l e R s m args below meth c H locs cells slots Q (F0 m (pc + 3) ls rest)) : W p l e R s m args below meth c H locs cells slots Q (F0 m pc ls (.int v :: .ref (ad E 0) :: rest)) := by
  subst hv
  exact va_put (ty := .int) (D := E.1) (ci := 2) (v := .int (nI n')) (C := RX2) (T := TY2) (N := 12) (ref := RX2) K.1.1 K.1.2.1 K.1.2.2.2.2 (fun w h => List.mem_cons_of_mem _ (in_X2 w h)) tyY2 tyY2_ok nmY2 K.1.2.2.2.1 K.2.1 w.1 K.2.2.D w.2 0 rfl rfl 10 (by decide) (K.1.2.2.2.2 _ (List.mem_cons_of_mem _ (List.mem_of_getElem? (i := 36) rfl))) (fun _ h9 => h9) rfl (by decide +kernel) rfl rfl (Nat.le_of_ble_eq_true rfl) hd (fun H locs hP _ hS => kk H locs ⟨hP, hS⟩)
theorem gf_X2_size (K : cY E p m c cc nL s args w0 RX2) (w : vst E H0 M z t f H locs) (hd : decode cc pc = .ok (.getfield 42, 3)) (kk : W p l e R s m args below meth c H locs cells slots Q (F0 m (pc + 3) ls (.int (nI z) :: rest))) : W p l e R s m args below meth c H locs cells slots Q (F0 m pc ls (.ref (ad E 0) :: rest)) :=
  va_get (D := E.1) (ci := 2) (v := .int (nI z)) (C := RX2) (T := TY2) (N := 12) (ref := RX2) K.1.1 K.1.2.1 K.1.2.2.2.2 (fun w h => List.mem_cons_of_mem _ (in_X2 w h)) K.1.2.2.2.1 K.2.1 w.1 0 rfl rfl 9 (by decide) (K.1.2.2.2.2 _ (List.mem_cons_of_mem _ (List.mem_of_getElem? (i := 35) rfl))) (fun _ h9 => h9) rfl hd kk
theorem pf_X2_size (K : cY E p m c cc nL s args w0 RX2) (w : vst E H0 M z t f H locs) {v : Int32} {n' : Nat} (hv : v = nI n') (hd : decode cc pc = .ok (.putfield 42, 3)) (kk : ∀ (H : Heap) (locs : List Loc), vst E H0 M n' t f H locs → W p l e R s m args below meth c H locs cells slots Q (F0 m (pc + 3) ls rest)) : W p l e R s m args below meth c H locs cells slots Q (F0 m pc ls (.int v :: .ref (ad E 0) :: rest)) := by
  subst hv
  exact va_put (ty := .int) (D := E.1) (ci := 2) (v := .int (nI n')) (C := RX2) (T := TY2) (N := 12) (ref := RX2) K.1.1 K.1.2.1 K.1.2.2.2.2 (fun w h => List.mem_cons_of_mem _ (in_X2 w h)) tyY2 tyY2_ok nmY2 K.1.2.2.2.1 K.2.1 w.1 K.2.2.D w.2 0 rfl rfl 9 (by decide) (K.1.2.2.2.2 _ (List.mem_cons_of_mem _ (List.mem_of_getElem? (i := 35) rfl))) (fun _ h9 => h9) rfl (by decide +kernel) rfl rfl (Nat.le_of_ble_eq_true rfl) hd (fun H locs hP _ hS => kk H locs ⟨hP, hS⟩)
theorem lk_X2_45 (K : cY E p m c cc nL s args w0 RX2) (hR : rm.frames + 1 ≤ R.frames ∧ 8 + (2 + 11) + rm.locals ≤ R.locals) : CallW R s args RX2 RX2 45 yX2_refuse cX2_refuse 2 (some .int) ((.code yX2_refuse cX2_refuse 2 (some .int)) :: wR) rm rm.cells rm.slots 1 :=
  cwV 1 K.1.2.2.2.2 (gL2 (List.mem_of_getElem? (i := 71) rfl) (at_in2 [69, 70, 0, 13] rfl)) rfl rfl rfl ⟨rfl, by decide, by decide, by decide +kernel⟩ hR
theorem lk_X2_49 (K : cY E p m c cc nL s args w0 RX2) (hR : rm.frames + 1 ≤ R.frames ∧ 8 + (3 + 11) + rm.locals ≤ R.locals) : CallW R s args RX2 RX2 49 yX2_join cX2_join 3 none ((.code yX2_join cX2_join 3 none) :: wR) rm rm.cells rm.slots 2 :=
  cwV 2 K.1.2.2.2.2 (gL2 (List.mem_of_getElem? (i := 74) rfl) (at_in2 [72, 73, 1, 13] rfl)) rfl rfl rfl ⟨rfl, by decide, by decide, by decide +kernel⟩ hR
theorem lk_X2_53 (K : cY E p m c cc nL s args w0 RX2) (hR : rm.frames + 1 ≤ R.frames ∧ 8 + (4 + 11) + rm.locals ≤ R.locals) : CallW R s args RX2 RX2 53 yX2_isParent cX2_isParent 4 (some .boolean) ((.code yX2_isParent cX2_isParent 4 (some .boolean)) :: wR) rm rm.cells rm.slots 2 :=
  cwV 2 K.1.2.2.2.2 (gL2 (List.mem_of_getElem? (i := 86) rfl) (at_in2 [84, 85, 4, 13] rfl)) rfl rfl rfl ⟨rfl, by decide, by decide, by decide +kernel⟩ hR
theorem lk_X2_57 (K : cY E p m c cc nL s args w0 RX2) (hR : rm.frames + 1 ≤ R.frames ∧ 8 + (2 + 11) + rm.locals ≤ R.locals) : CallW R s args RX2 RX2 57 yX2_there cX2_there 2 (some .boolean) ((.code yX2_there cX2_there 2 (some .boolean)) :: wR) rm rm.cells rm.slots 1 :=
  cwV 1 K.1.2.2.2.2 (gL2 (List.mem_of_getElem? (i := 80) rfl) (at_in2 [78, 79, 2, 13] rfl)) rfl rfl rfl ⟨rfl, by decide, by decide, by decide +kernel⟩ hR
theorem lk_X2_61 (K : cY E p m c cc nL s args w0 RX2) (hR : rm.frames + 1 ≤ R.frames ∧ 8 + (3 + 11) + rm.locals ≤ R.locals) : CallW R s args RX2 RX2 61 yX2_isAnyParent cX2_isAnyParent 3 (some .boolean) ((.code yX2_isAnyParent cX2_isAnyParent 3 (some .boolean)) :: wR) rm rm.cells rm.slots 1 :=
  cwV 1 K.1.2.2.2.2 (gL2 (List.mem_of_getElem? (i := 83) rfl) (at_in2 [81, 82, 3, 13] rfl)) rfl rfl rfl ⟨rfl, by decide, by decide, by decide +kernel⟩ hR
theorem lk_X2_64 (K : cY E p m c cc nL s args w0 RX2) (hR : rm.frames + 1 ≤ R.frames ∧ 8 + (4 + 11) + rm.locals ≤ R.locals) : CallW R s args RX2 RX2 64 yX2_close cX2_close 4 none ((.code yX2_close cX2_close 4 none) :: wR) rm rm.cells rm.slots 1 :=
  cwV 1 K.1.2.2.2.2 (gL2 (List.mem_of_getElem? (i := 98) rfl) (at_in2 [96, 97, 6, 13] rfl)) rfl rfl rfl ⟨rfl, by decide, by decide, by decide +kernel⟩ hR
theorem lk_X2_68 (K : cY E p m c cc nL s args w0 RX2) (hR : rm.frames + 1 ≤ R.frames ∧ 8 + (4 + 11) + rm.locals ≤ R.locals) : CallW R s args RX2 RX2 68 yX2_from cX2_from 4 none ((.code yX2_from cX2_from 4 none) :: wR) rm rm.cells rm.slots 2 :=
  cwV 2 K.1.2.2.2.2 (gL2 (List.mem_of_getElem? (i := 95) rfl) (at_in2 [93, 94, 5, 13] rfl)) rfl rfl rfl ⟨rfl, by decide, by decide, by decide +kernel⟩ hR
theorem gf_X2_found (K : cY E p m c cc nL s args w0 RX2) (w : vst E H0 M z t f H locs) (hd : decode cc pc = .ok (.getfield 72, 3)) (kk : W p l e R s m args below meth c H locs cells slots Q (F0 m (pc + 3) ls (.int (nI f) :: rest))) : W p l e R s m args below meth c H locs cells slots Q (F0 m pc ls (.ref (ad E 0) :: rest)) :=
  va_get (D := E.1) (ci := 2) (v := .int (nI f)) (C := RX2) (T := TY2) (N := 12) (ref := RX2) K.1.1 K.1.2.1 K.1.2.2.2.2 (fun w h => List.mem_cons_of_mem _ (in_X2 w h)) K.1.2.2.2.1 K.2.1 w.1 0 rfl rfl 11 (by decide) (K.1.2.2.2.2 _ (List.mem_cons_of_mem _ (List.mem_of_getElem? (i := 37) rfl))) (fun _ h9 => h9) rfl hd kk
theorem pf_X2_found (K : cY E p m c cc nL s args w0 RX2) (w : vst E H0 M z t f H locs) {v : Int32} {n' : Nat} (hv : v = nI n') (hd : decode cc pc = .ok (.putfield 72, 3)) (kk : ∀ (H : Heap) (locs : List Loc), vst E H0 M z t n' H locs → W p l e R s m args below meth c H locs cells slots Q (F0 m (pc + 3) ls rest)) : W p l e R s m args below meth c H locs cells slots Q (F0 m pc ls (.int v :: .ref (ad E 0) :: rest)) := by
  subst hv
  exact va_put (ty := .int) (D := E.1) (ci := 2) (v := .int (nI n')) (C := RX2) (T := TY2) (N := 12) (ref := RX2) K.1.1 K.1.2.1 K.1.2.2.2.2 (fun w h => List.mem_cons_of_mem _ (in_X2 w h)) tyY2 tyY2_ok nmY2 K.1.2.2.2.1 K.2.1 w.1 K.2.2.D w.2 0 rfl rfl 11 (by decide) (K.1.2.2.2.2 _ (List.mem_cons_of_mem _ (List.mem_of_getElem? (i := 37) rfl))) (fun _ h9 => h9) rfl (by decide +kernel) rfl rfl (Nat.le_of_ble_eq_true rfl) hd (fun H locs hP _ hS => kk H locs ⟨hP, hS⟩)
theorem lk_X2_75 (K : cY E p m c cc nL s args w0 RX2) (hR : rm.frames + 1 ≤ R.frames ∧ 8 + (3 + 11) + rm.locals ≤ R.locals) : CallW R s args RX2 RX2 75 yX2_before cX2_before 3 (some .boolean) ((.code yX2_before cX2_before 3 (some .boolean)) :: wR) rm rm.cells rm.slots 2 :=
  cwV 2 K.1.2.2.2.2 (gL2 (List.mem_of_getElem? (i := 107) rfl) (at_in2 [105, 106, 8, 13] rfl)) rfl rfl rfl ⟨rfl, by decide, by decide, by decide +kernel⟩ hR
theorem lk_X2_78 (K : cY E p m c cc nL s args w0 RX2) (hR : rm.frames + 1 ≤ R.frames ∧ 8 + (4 + 11) + rm.locals ≤ R.locals) : CallW R s args RX2 RX2 78 yX2_order cX2_order 4 none ((.code yX2_order cX2_order 4 none) :: wR) rm rm.cells rm.slots 0 :=
  cwV 0 K.1.2.2.2.2 (gL2 (List.mem_of_getElem? (i := 104) rfl) (at_in2 [102, 103, 7, 13] rfl)) rfl rfl rfl ⟨rfl, by decide, by decide, by decide +kernel⟩ hR
theorem lk_X2_81 (K : cY E p m c cc nL s args w0 RX2) (hR : rm.frames + 1 ≤ R.frames ∧ 8 + (2 + 11) + rm.locals ≤ R.locals) : CallW R s args RX2 RX2 81 yX2_pick cX2_pick 2 (some .int) ((.code yX2_pick cX2_pick 2 (some .int)) :: wR) rm rm.cells rm.slots 1 :=
  cwV 1 K.1.2.2.2.2 (gL2 (List.mem_of_getElem? (i := 110) rfl) (at_in2 [108, 109, 9, 13] rfl)) rfl rfl rfl ⟨rfl, by decide, by decide, by decide +kernel⟩ hR
theorem lk_X2_84 (K : cY E p m c cc nL s args w0 RX2) (hR : rm.frames + 1 ≤ R.frames ∧ 8 + (3 + 11) + rm.locals ≤ R.locals) : CallW R s args RX2 RX2 84 yX2_free cX2_free 3 (some .boolean) ((.code yX2_free cX2_free 3 (some .boolean)) :: wR) rm rm.cells rm.slots 1 :=
  cwV 1 K.1.2.2.2.2 (gL2 (List.mem_of_getElem? (i := 116) rfl) (at_in2 [114, 115, 10, 13] rfl)) rfl rfl rfl ⟨rfl, by decide, by decide, by decide +kernel⟩ hR
theorem lk_X2_87 (K : cY E p m c cc nL s args w0 RX2) (hR : rm.frames + 1 ≤ R.frames ∧ 8 + (4 + 11) + rm.locals ≤ R.locals) : CallW R s args RX2 RX2 87 yX2_held cX2_held 4 none ((.code yX2_held cX2_held 4 none) :: wR) rm rm.cells rm.slots 2 :=
  cwV 2 K.1.2.2.2.2 (gL2 (List.mem_of_getElem? (i := 125) rfl) (at_in2 [123, 124, 11, 13] rfl)) rfl rfl rfl ⟨rfl, by decide, by decide, by decide +kernel⟩ hR
theorem lk_X2_90 (K : cY E p m c cc nL s args w0 RX2) (hR : rm.frames + 1 ≤ R.frames ∧ 8 + (4 + 11) + rm.locals ≤ R.locals) : CallW R s args RX2 RX2 90 yX2_generation cX2_generation 4 (some .int) ((.code yX2_generation cX2_generation 4 (some .int)) :: wR) rm rm.cells rm.slots 1 :=
  cwV 1 K.1.2.2.2.2 (gL2 (List.mem_of_getElem? (i := 128) rfl) (at_in2 [126, 127, 12, 13] rfl)) rfl rfl rfl ⟨rfl, by decide, by decide, by decide +kernel⟩ hR
end LK2
end
section
theorem there_t {x y : Int32} (h0 : ¬ x < 0) (h1 : ¬ y ≤ x) : nI 1 = bI (decide (¬ (x < 0 ∨ y ≤ x))) := by
  rw [decide_eq_true (show ¬ (x < 0 ∨ y ≤ x) from fun h => h.elim h0 h1)]; rfl
theorem there_a {x y : Int32} (h : x < 0) : nI 0 = bI (decide (¬ (x < 0 ∨ y ≤ x))) := by
  rw [decide_eq_false (show ¬ ¬ (x < 0 ∨ y ≤ x) from fun h2 => h2 (Or.inl h))]; rfl
theorem there_b {x y : Int32} (h : y ≤ x) : nI 0 = bI (decide (¬ (x < 0 ∨ y ≤ x))) := by
  rw [decide_eq_false (show ¬ ¬ (x < 0 ∨ y ≤ x) from fun h2 => h2 (Or.inr h))]; rfl
def jnF (M : Mt) (q : Nat) (o : Option Nat) : Mt := match o with
  | none => M
  | some u => va_up (va_up M 5 (upd (M 5) (q * 4 + pcn M q) (nI u))) 4 (upd (M 4) q (M 4 q + nI 1))
/-- among the parents of c, from slot t on -/
def ipF (M : Mt) (q c : Nat) : Nat → Nat → Bool
  | 0, _ => false
  | d + 1, t => if par M c t = q then true else ipF M q c d (t + 1)
def iaF (M : Mt) (q : Nat) : Nat → Nat → Bool
  | 0, _ => false
  | d + 1, c => if ipF M q c (pcn M c) 0 = true then true else iaF M q d (c + 1)

set_option maxHeartbeats 4000000 in
set_option maxRecDepth 100000 in
theorem c_X2_thrown {l : Launch} {E : En} {M : Mt} {z t f : Nat} (dn : dM E) : MI2 l yX2_thrown (.code yX2_thrown cX2_thrown 1 (some .int)) 0 0 E [.ref (ad E 0)] M z t f (nI t) M z t f := by
  refine MI2.of dn (own := RX2) (by decide) rfl (Nat.le_of_ble_eq_true rfl) (fun p e s m args below meth c ls Q K w hl ret => ?_)
  have hx := K.1.1
  have hb := K.1.2.1
  have hR : 0 ≤ (rmA 0 0).frames ∧ 0 ≤ (rmA 0 0).locals := ⟨Nat.le_refl _, Nat.le_refl _⟩
  have hf : 0 ≤ (rmA 0 0).cells ∧ 0 ≤ (rmA 0 0).slots := ⟨Nat.le_refl _, Nat.le_refl _⟩
  have hl : lv_has ls 1 [(0, .ref (ad E 0))] := hl
  refine lv_aload_n hx hb dX2_thrown_0 rfl (lv_at hl 0 rfl) ?_
  refine gf_X2_thrown K w dX2_thrown_1 ?_
  exact ret w rfl dX2_thrown_4

set_option maxHeartbeats 4000000 in
set_option maxRecDepth 100000 in
theorem c_X2_refuse {l : Launch} {E : En} {M : Mt} {z t f : Nat} (dn : dM E) {k : Nat} : MI2 l yX2_refuse (.code yX2_refuse cX2_refuse 2 (some .int)) 0 0 E [.ref (ad E 0), .int (nI k)] M z t f (nI 0) M z k f := by
  refine MI2.of dn (own := RX2) (by decide) rfl (Nat.le_of_ble_eq_true rfl) (fun p e s m args below meth c ls Q K w hl ret => ?_)
  have hx := K.1.1
  have hb := K.1.2.1
  have hR : 0 ≤ (rmA 0 0).frames ∧ 0 ≤ (rmA 0 0).locals := ⟨Nat.le_refl _, Nat.le_refl _⟩
  have hf : 0 ≤ (rmA 0 0).cells ∧ 0 ≤ (rmA 0 0).slots := ⟨Nat.le_refl _, Nat.le_refl _⟩
  have hl : lv_has ls 2 [(0, .ref (ad E 0)), (1, .int (nI k))] := hl
  refine lv_aload_n hx hb dX2_refuse_0 rfl (lv_at hl 0 rfl) ?_
  refine lv_iload_n hx hb dX2_refuse_1 rfl (lv_at hl 1 rfl) ?_
  refine pf_X2_thrown K w rfl dX2_refuse_2 (fun H locs w => ?_)
  refine lv_iconst (v := nI 0) hx hb dX2_refuse_5 (by decide) ?_
  exact ret w rfl dX2_refuse_6

set_option maxHeartbeats 4000000 in
set_option maxRecDepth 100000 in
theorem c_X2_there {l : Launch} {E : En} {M : Mt} {z t f : Nat} (dn : dM E) {x : Int32} : MI2 l yX2_there (.code yX2_there cX2_there 2 (some .boolean)) 0 0 E [.ref (ad E 0), .int x] M z t f (bI (decide (¬ (x < 0 ∨ nI z ≤ x)))) M z t f := by
  refine MI2.ofZ dn (own := RX2) (by decide) rfl (Nat.le_of_ble_eq_true rfl) (bI_z _) (fun p e s m args below meth c ls Q K w hl ret => ?_)
  have hx := K.1.1
  have hb := K.1.2.1
  have hR : 0 ≤ (rmA 0 0).frames ∧ 0 ≤ (rmA 0 0).locals := ⟨Nat.le_refl _, Nat.le_refl _⟩
  have hf : 0 ≤ (rmA 0 0).cells ∧ 0 ≤ (rmA 0 0).slots := ⟨Nat.le_refl _, Nat.le_refl _⟩
  have hl : lv_has ls 2 [(0, .ref (ad E 0)), (1, .int x)] := hl
  refine lv_iload_n hx hb dX2_there_0 rfl (lv_at hl 1 rfl) ?_
  refine lv_if_lt (tgt := 16) hx hb dX2_there_1 rfl (fun h1 => ?_) (fun h1 => ?_)
  · refine lv_iconst (v := nI 0) hx hb dX2_there_16 (by decide) ?_
    exact ret w (by first | exact there_a h1 | exact there_t h1 h9 | exact there_b h9) dX2_there_17
  · refine lv_iload_n hx hb dX2_there_4 rfl (lv_at hl 1 rfl) ?_
    refine lv_aload_n hx hb dX2_there_5 rfl (lv_at hl 0 rfl) ?_
    refine gf_X2_size K w dX2_there_6 ?_
    refine lv_icmp_ge (tgt := 16) hx hb dX2_there_9 rfl (fun h9 => ?_) (fun h9 => ?_)
    · refine lv_iconst (v := nI 0) hx hb dX2_there_16 (by decide) ?_
      exact ret w (by first | exact there_a h1 | exact there_t h1 h9 | exact there_b h9) dX2_there_17
    · refine lv_iconst (v := nI 1) hx hb dX2_there_12 (by decide) ?_
      refine lv_goto (tgt := 17) hx hb dX2_there_13 rfl ?_
      exact ret w (by first | exact there_a h1 | exact there_t h1 h9 | exact there_b h9) dX2_there_17

set_option maxHeartbeats 4000000 in
set_option maxRecDepth 100000 in
theorem c_X2_join_a {l : Launch} {E : En} {M : Mt} {z t f : Nat} (dn : dM E) {q : Nat} : MV2 l yX2_join (.code yX2_join cX2_join 3 none) 0 0 E [.ref (ad E 0), .int (nI q), .int (-1)] M z t f M z t f := by
  refine MV2.of dn (own := RX2) (by decide) rfl (Nat.le_of_ble_eq_true rfl) (fun p e s m args below meth c ls Q K w hl ret => ?_)
  have hx := K.1.1
  have hb := K.1.2.1
  have hR : 0 ≤ (rmA 0 0).frames ∧ 0 ≤ (rmA 0 0).locals := ⟨Nat.le_refl _, Nat.le_refl _⟩
  have hf : 0 ≤ (rmA 0 0).cells ∧ 0 ≤ (rmA 0 0).slots := ⟨Nat.le_refl _, Nat.le_refl _⟩
  have hl : lv_has ls 3 [(0, .ref (ad E 0)), (1, .int (nI q)), (2, .int (-1))] := hl
  refine lv_iload_n hx hb dX2_join_0 rfl (lv_at hl 2 rfl) ?_
  refine lv_if_ge (tgt := 5) hx hb dX2_join_1 rfl (fun h9 => absurd h9 (by decide : ¬ (0 : Int32) ≤ -1)) (fun _ => ?_)
  exact ret w dX2_join_4

set_option maxHeartbeats 4000000 in
set_option maxRecDepth 100000 in
theorem c_X2_join_b {l : Launch} {E : En} {M : Mt} {z t f : Nat} (dn : dM E) {q u : Nat} (hq : q < 2000) (hu : u < 2000) (hj : M 4 q = nI (pcn M q)) (h4 : pcn M q < 4) : MV2 l yX2_join (.code yX2_join cX2_join 3 none) 0 0 E [.ref (ad E 0), .int (nI q), .int (nI u)] M z t f (jnF M q (some u)) z t f := by
  refine MV2.of dn (own := RX2) (by decide) rfl (Nat.le_of_ble_eq_true rfl) (fun p e s m args below meth c ls Q K w hl ret => ?_)
  have hx := K.1.1
  have hb := K.1.2.1
  have hR : 0 ≤ (rmA 0 0).frames ∧ 0 ≤ (rmA 0 0).locals := ⟨Nat.le_refl _, Nat.le_refl _⟩
  have hf : 0 ≤ (rmA 0 0).cells ∧ 0 ≤ (rmA 0 0).slots := ⟨Nat.le_refl _, Nat.le_refl _⟩
  have hl : lv_has ls 3 [(0, .ref (ad E 0)), (1, .int (nI q)), (2, .int (nI u))] := hl
  refine lv_iload_n hx hb dX2_join_0 rfl (lv_at hl 2 rfl) ?_
  refine lv_if_ge (tgt := 5) hx hb dX2_join_1 rfl (fun _ => ?_) (fun h9 => absurd (nI_pos' (by omega)) h9)
  refine lv_aload_n hx hb dX2_join_5 rfl (lv_at hl 0 rfl) ?_
  refine gf_X2_parent K w dX2_join_6 ?_
  refine lv_iload_n hx hb dX2_join_9 rfl (lv_at hl 1 rfl) ?_
  refine lv_iconst (v := nI 4) hx hb dX2_join_10 (by decide) ?_
  refine lv_imul hx hb dX2_join_11 ?_
  refine topE (y := nI (q * 4)) (pk_mul _ _) ?_
  refine lv_aload_n hx hb dX2_join_12 rfl (lv_at hl 0 rfl) ?_
  refine gf_X2_many K w dX2_join_13 ?_
  refine lv_iload_n hx hb dX2_join_16 rfl (lv_at hl 1 rfl) ?_
  refine ldI2 K w rwI4 (by omega) dX2_join_17 ?_
  refine topE (y := nI (pcn M q)) hj ?_
  refine lv_iadd hx hb dX2_join_18 ?_
  refine topE (y := nI (q * 4 + pcn M q)) (nI_add _ _) ?_
  refine lv_iload_n hx hb dX2_join_19 rfl (lv_at hl 2 rfl) ?_
  refine stI2 K w rwI5 (by omega) dX2_join_20 (fun H locs w => ?_)
  refine lv_aload_n hx hb dX2_join_21 rfl (lv_at hl 0 rfl) ?_
  refine gf_X2_many K w dX2_join_22 ?_
  refine lv_iload_n hx hb dX2_join_25 rfl (lv_at hl 1 rfl) ?_
  refine lv_dup2_11 hx hb dX2_join_26 rfl rfl ?_
  refine ldI2 K w rwI4 (by omega) dX2_join_27 ?_
  refine lv_iconst (v := nI 1) hx hb dX2_join_28 (by decide) ?_
  refine lv_iadd hx hb dX2_join_29 ?_
  refine stI2 K w rwI4 (by omega) dX2_join_30 (fun H locs w => ?_)
  exact ret w dX2_join_31

theorem c_X2_join {l : Launch} {E : En} {M : Mt} {z t f : Nat} (dn : dM E) {q : Nat} {o : Option Nat} (ho : oB o 2000) (hq : q < 2000) (hj : M 4 q = nI (pcn M q)) (h4 : pcn M q < 4) : MV2 l yX2_join (.code yX2_join cX2_join 3 none) 0 0 E [.ref (ad E 0), .int (nI q), .int (oI o)] M z t f (jnF M q o) z t f := by
  cases o with
  | none => exact c_X2_join_a dn
  | some u => exact c_X2_join_b dn hq (ho u rfl) hj h4

section YA
variable {p : Program} {l : Launch} {e : Env} {R : Room} {s : State} {m : MethodId} {args : Array Value} {below : List Frame} {meth : Method} {c : Code} {H : Heap} {locs : List Loc} {cells slots : Nat} {Q : State → Prop} {ls : Array Slot} {w0 : Cond} {E : En} {M MF : Mt} {z t f : Nat}
set_option maxHeartbeats 4000000 in
set_option maxRecDepth 100000 in
theorem lp_isp (K : cY E p m c cX2_isParent 4 s args w0 RX2) (hR : 0 ≤ R.frames ∧ 0 ≤ R.locals) (hf : cells ≤ R.cells ∧ slots ≤ R.slots) {q c0 j : Nat} {r : Bool} (hq : q < 2147483648) (hc : c0 < z) (ok : okN M z) (hj : pcn M c0 = j) (ret : ∀ {H : Heap} {locs : List Loc} {pc : Nat} {ls : Array Slot} {v : Int32}, vst E s.heap M z t f H locs → v = bI r → decode cX2_isParent pc = .ok (.ireturn, 1) → W p l e R s m args below meth c H locs cells slots Q (F0 m pc ls [.int v])) : ∀ (d i : Nat) (H : Heap) (locs : List Loc) (ls : Array Slot), i + d = j → ipF M q c0 d i = r → vst E s.heap M z t f H locs → lv_has ls 4 [(3, .int (nI i)), (0, .ref (ad E 0)), (1, .int (nI q)), (2, .int (nI c0))] → W p l e R s m args below meth c H locs cells slots Q (F0 m 2 ls []) := by
  have hx := K.1.1
  have hb := K.1.2.1
  intro d
  induction d with
  | zero =>
    intro i H locs ls hi hm w hl
    have h4 := ok.le hc
    have hn := ok.1
    refine lv_iload_n hx hb dX2_isParent_2 rfl (lv_at hl 0 rfl) ?_
    refine lv_aload_n hx hb dX2_isParent_3 rfl (lv_at hl 1 rfl) ?_
    refine gf_X2_many K w dX2_isParent_4 ?_
    refine lv_iload_n hx hb dX2_isParent_7 rfl (lv_at hl 3 rfl) ?_
    refine ldI2 K w rwI4 (by omega) dX2_isParent_8 ?_
    refine topE (y := nI (pcn M c0)) (ok.pc hc) ?_
    rw [hj]
    refine lv_icmp_ge (tgt := 34) hx hb dX2_isParent_9 rfl (fun _ => ?_) (fun h9 => absurd (nI_le (by omega) (by omega)) h9)
    refine lv_iconst (v := nI 0) hx hb dX2_isParent_34 (by decide) ?_
    exact ret w (by rw [← hm]; rfl) dX2_isParent_35
  | succ d ih =>
    intro i H locs ls hi hm w hl
    have h4 := ok.le hc
    have hn := ok.1
    refine lv_iload_n hx hb dX2_isParent_2 rfl (lv_at hl 0 rfl) ?_
    refine lv_aload_n hx hb dX2_isParent_3 rfl (lv_at hl 1 rfl) ?_
    refine gf_X2_many K w dX2_isParent_4 ?_
    refine lv_iload_n hx hb dX2_isParent_7 rfl (lv_at hl 3 rfl) ?_
    refine ldI2 K w rwI4 (by omega) dX2_isParent_8 ?_
    refine topE (y := nI (pcn M c0)) (ok.pc hc) ?_
    rw [hj]
    refine lv_icmp_ge (tgt := 34) hx hb dX2_isParent_9 rfl (fun h9 => absurd h9 (nI_ge (by omega) (by omega))) (fun _ => ?_)
    have h5 := ok.lt hc (t := i) (by omega)
    by_cases hc0 : par M c0 i = q
    · rw [ipF, if_pos hc0] at hm
      refine lv_aload_n hx hb dX2_isParent_12 rfl (lv_at hl 1 rfl) ?_
      refine gf_X2_parent K w dX2_isParent_13 ?_
      refine lv_iload_n hx hb dX2_isParent_16 rfl (lv_at hl 3 rfl) ?_
      refine lv_iconst (v := nI 4) hx hb dX2_isParent_17 (by decide) ?_
      refine lv_imul hx hb dX2_isParent_18 ?_
      refine topE (y := nI (c0 * 4)) (pk_mul _ _) ?_
      refine lv_iload_n hx hb dX2_isParent_19 rfl (lv_at hl 0 rfl) ?_
      refine lv_iadd hx hb dX2_isParent_20 ?_
      refine topE (y := nI (c0 * 4 + i)) (nI_add _ _) ?_
      refine ldI2 K w rwI5 (by omega) dX2_isParent_21 ?_
      refine topE (y := nI (par M c0 i)) (ok.pr hc (by omega)) ?_
      refine lv_iload_n hx hb dX2_isParent_22 rfl (lv_at hl 2 rfl) ?_
      refine lv_icmp_ne (tgt := 28) hx hb dX2_isParent_23 rfl (fun h9 => absurd (by rw [hc0]) h9) (fun _ => ?_)
      refine lv_iconst (v := nI 1) hx hb dX2_isParent_26 (by decide) ?_
      exact ret w (by rw [← hm]; rfl) dX2_isParent_27
    · rw [ipF, if_neg hc0] at hm
      refine lv_aload_n hx hb dX2_isParent_12 rfl (lv_at hl 1 rfl) ?_
      refine gf_X2_parent K w dX2_isParent_13 ?_
      refine lv_iload_n hx hb dX2_isParent_16 rfl (lv_at hl 3 rfl) ?_
      refine lv_iconst (v := nI 4) hx hb dX2_isParent_17 (by decide) ?_
      refine lv_imul hx hb dX2_isParent_18 ?_
      refine topE (y := nI (c0 * 4)) (pk_mul _ _) ?_
      refine lv_iload_n hx hb dX2_isParent_19 rfl (lv_at hl 0 rfl) ?_
      refine lv_iadd hx hb dX2_isParent_20 ?_
      refine topE (y := nI (c0 * 4 + i)) (nI_add _ _) ?_
      refine ldI2 K w rwI5 (by omega) dX2_isParent_21 ?_
      refine topE (y := nI (par M c0 i)) (ok.pr hc (by omega)) ?_
      refine lv_iload_n hx hb dX2_isParent_22 rfl (lv_at hl 2 rfl) ?_
      refine lv_icmp_ne (tgt := 28) hx hb dX2_isParent_23 rfl (fun _ => ?_) (fun h9 => absurd h9 (fun h => hc0 ((nI_eq (by omega) (by omega)).mp h)))
      refine lv_iinc (k := 0) (v := nI (_ + 1)) (lv' := [(3, .int _), (0, .ref _), (1, .int _), (2, .int _)]) hx hb dX2_isParent_28 hl rfl (inc1 _) (by decide) rfl (fun ls hl => ?_)
      refine lv_goto (tgt := 2) hx hb dX2_isParent_31 rfl ?_
      exact ih (i + 1) _ _ _ (by omega) hm w (lv_sub hl [0, 1, 2, 3] rfl)

end YA
set_option maxHeartbeats 4000000 in
set_option maxRecDepth 100000 in
theorem c_X2_isParent {l : Launch} {E : En} {M : Mt} {z t f : Nat} (dn : dM E) {q c0 : Nat} (hq : q < 2147483648) (hc : c0 < z) (ok : okN M z) : MI2 l yX2_isParent (.code yX2_isParent cX2_isParent 4 (some .boolean)) 0 0 E [.ref (ad E 0), .int (nI q), .int (nI c0)] M z t f (bI (ipF M q c0 (pcn M c0) 0)) M z t f := by
  refine MI2.ofZ dn (own := RX2) (by decide) rfl (Nat.le_of_ble_eq_true rfl) (bI_z _) (fun p e s m args below meth c ls Q K w hl ret => ?_)
  have hx := K.1.1
  have hb := K.1.2.1
  have hR : 0 ≤ (rmA 0 0).frames ∧ 0 ≤ (rmA 0 0).locals := ⟨Nat.le_refl _, Nat.le_refl _⟩
  have hf : 0 ≤ (rmA 0 0).cells ∧ 0 ≤ (rmA 0 0).slots := ⟨Nat.le_refl _, Nat.le_refl _⟩
  have hl : lv_has ls 4 [(0, .ref (ad E 0)), (1, .int (nI q)), (2, .int (nI c0))] := hl
  refine lv_iconst (v := nI 0) hx hb dX2_isParent_0 (by decide) ?_
  refine lv_istore_n (lv' := [(3, .int _), (0, .ref _), (1, .int _), (2, .int _)]) hx hb dX2_isParent_1 rfl hl (by decide) rfl (fun ls hl => ?_)
  exact lp_isp K hR hf hq hc ok rfl ret (pcn M c0) 0 _ _ _ (by omega) rfl w hl

section YB
variable {p : Program} {l : Launch} {e : Env} {R : Room} {s : State} {m : MethodId} {args : Array Value} {below : List Frame} {meth : Method} {c : Code} {H : Heap} {locs : List Loc} {cells slots : Nat} {Q : State → Prop} {ls : Array Slot} {w0 : Cond} {E : En} {M MF : Mt} {z t f : Nat}
set_option maxHeartbeats 4000000 in
set_option maxRecDepth 100000 in
theorem lp_isa (K : cY E p m c cX2_isAnyParent 3 s args w0 RX2) (hR : 1 ≤ R.frames ∧ 23 ≤ R.locals) (hf : cells ≤ R.cells ∧ slots ≤ R.slots) {q : Nat} {r : Bool} (hq : q < 2147483648) (ok : okN M z) (ret : ∀ {H : Heap} {locs : List Loc} {pc : Nat} {ls : Array Slot} {v : Int32}, vst E s.heap M z t f H locs → v = bI r → decode cX2_isAnyParent pc = .ok (.ireturn, 1) → W p l e R s m args below meth c H locs cells slots Q (F0 m pc ls [.int v])) : ∀ (d i : Nat) (H : Heap) (locs : List Loc) (ls : Array Slot), i + d = z → iaF M q d i = r → vst E s.heap M z t f H locs → lv_has ls 3 [(2, .int (nI i)), (0, .ref (ad E 0)), (1, .int (nI q))] → W p l e R s m args below meth c H locs cells slots Q (F0 m 2 ls []) := by
  have hx := K.1.1
  have hb := K.1.2.1
  intro d
  induction d with
  | zero =>
    intro i H locs ls hi hm w hl
    have hn := ok.1
    refine lv_iload_n hx hb dX2_isAnyParent_2 rfl (lv_at hl 0 rfl) ?_
    refine lv_aload_n hx hb dX2_isAnyParent_3 rfl (lv_at hl 1 rfl) ?_
    refine gf_X2_size K w dX2_isAnyParent_4 ?_
    refine lv_icmp_ge (tgt := 27) hx hb dX2_isAnyParent_7 rfl (fun _ => ?_) (fun h9 => absurd (nI_le (by omega) (by omega)) h9)
    refine lv_iconst (v := nI 0) hx hb dX2_isAnyParent_27 (by decide) ?_
    exact ret w (by rw [← hm]; rfl) dX2_isAnyParent_28
  | succ d ih =>
    intro i H locs ls hi hm w hl
    have hn := ok.1
    refine lv_iload_n hx hb dX2_isAnyParent_2 rfl (lv_at hl 0 rfl) ?_
    refine lv_aload_n hx hb dX2_isAnyParent_3 rfl (lv_at hl 1 rfl) ?_
    refine gf_X2_size K w dX2_isAnyParent_4 ?_
    refine lv_icmp_ge (tgt := 27) hx hb dX2_isAnyParent_7 rfl (fun h9 => absurd h9 (nI_ge (by omega) (by omega))) (fun _ => ?_)
    by_cases hc0 : ipF M q i (pcn M i) 0 = true
    · rw [iaF, if_pos hc0] at hm
      refine lv_aload_n hx hb dX2_isAnyParent_10 rfl (lv_at hl 1 rfl) ?_
      refine lv_iload_n hx hb dX2_isAnyParent_11 rfl (lv_at hl 2 rfl) ?_
      refine lv_iload_n hx hb dX2_isAnyParent_12 rfl (lv_at hl 0 rfl) ?_
      refine calli2 K w (c_X2_isParent K.2.2 hq (by omega) ok) (lk_X2_53 K ⟨Nat.le_trans (Nat.le_of_ble_eq_true rfl) hR.1, Nat.le_trans (Nat.le_of_ble_eq_true rfl) hR.2⟩) (recvM K w) rfl hl.1 rfl (Nat.le_of_ble_eq_true rfl) dX2_isAnyParent_13 hf (fun H locs w => ?_)
      refine lv_if_eq (tgt := 21) hx hb dX2_isAnyParent_16 rfl (fun h9 => absurd h9 (by rw [hc0]; decide)) (fun _ => ?_)
      refine lv_iconst (v := nI 1) hx hb dX2_isAnyParent_19 (by decide) ?_
      exact ret w (by rw [← hm]; rfl) dX2_isAnyParent_20
    · rw [iaF, if_neg hc0] at hm
      refine lv_aload_n hx hb dX2_isAnyParent_10 rfl (lv_at hl 1 rfl) ?_
      refine lv_iload_n hx hb dX2_isAnyParent_11 rfl (lv_at hl 2 rfl) ?_
      refine lv_iload_n hx hb dX2_isAnyParent_12 rfl (lv_at hl 0 rfl) ?_
      refine calli2 K w (c_X2_isParent K.2.2 hq (by omega) ok) (lk_X2_53 K ⟨Nat.le_trans (Nat.le_of_ble_eq_true rfl) hR.1, Nat.le_trans (Nat.le_of_ble_eq_true rfl) hR.2⟩) (recvM K w) rfl hl.1 rfl (Nat.le_of_ble_eq_true rfl) dX2_isAnyParent_13 hf (fun H locs w => ?_)
      refine lv_if_eq (tgt := 21) hx hb dX2_isAnyParent_16 rfl (fun _ => ?_) (fun h9 => absurd (by rw [Bool.not_eq_true _ |>.mp hc0]; rfl) h9)
      refine lv_iinc (k := 0) (v := nI (_ + 1)) (lv' := [(2, .int _), (0, .ref _), (1, .int _)]) hx hb dX2_isAnyParent_21 hl rfl (inc1 _) (by decide) rfl (fun ls hl => ?_)
      refine lv_goto (tgt := 2) hx hb dX2_isAnyParent_24 rfl ?_
      exact ih (i + 1) _ _ _ (by omega) hm w (lv_sub hl [0, 1, 2] rfl)

end YB
set_option maxHeartbeats 4000000 in
set_option maxRecDepth 100000 in
theorem c_X2_isAnyParent {l : Launch} {E : En} {M : Mt} {z t f : Nat} (dn : dM E) {q : Nat} (hq : q < 2147483648) (ok : okN M z) : MI2 l yX2_isAnyParent (.code yX2_isAnyParent cX2_isAnyParent 3 (some .boolean)) 1 23 E [.ref (ad E 0), .int (nI q)] M z t f (bI (iaF M q z 0)) M z t f := by
  refine MI2.ofZ dn (own := RX2) (by decide) rfl (Nat.le_of_ble_eq_true rfl) (bI_z _) (fun p e s m args below meth c ls Q K w hl ret => ?_)
  have hx := K.1.1
  have hb := K.1.2.1
  have hR : 1 ≤ (rmA 1 23).frames ∧ 23 ≤ (rmA 1 23).locals := ⟨Nat.le_refl _, Nat.le_refl _⟩
  have hf : 0 ≤ (rmA 1 23).cells ∧ 0 ≤ (rmA 1 23).slots := ⟨Nat.le_refl _, Nat.le_refl _⟩
  have hl : lv_has ls 3 [(0, .ref (ad E 0)), (1, .int (nI q))] := hl
  refine lv_iconst (v := nI 0) hx hb dX2_isAnyParent_0 (by decide) ?_
  refine lv_istore_n (lv' := [(2, .int _), (0, .ref _), (1, .int _)]) hx hb dX2_isAnyParent_1 rfl hl (by decide) rfl (fun ls hl => ?_)
  exact lp_isa K hR hf hq ok ret z 0 _ _ _ (by omega) rfl w hl
end
section
theorem pcn_up {M : Mt} {r c : Nat} {g : Nat → Int32} (h4 : 4 ≠ r) : pcn (va_up M r g) c = pcn M c := by
  show ix (va_up M r g 4 c) = ix (M 4 c)
  rw [va_up_ne _ _ h4]
theorem par_up {M : Mt} {r c t : Nat} {g : Nat → Int32} (h5 : 5 ≠ r) : par (va_up M r g) c t = par M c t := by
  show ix (va_up M r g 5 (c * 4 + t)) = ix (M 5 (c * 4 + t))
  rw [va_up_ne _ _ h5]
theorem okN.up {M : Mt} {r n : Nat} {g : Nat → Int32} (h : okN M n) (h4 : 4 ≠ r) (h5 : 5 ≠ r) : okN (va_up M r g) n := h.rows (va_up_ne _ _ h4) (va_up_ne _ _ h5)
/-- set the parents of c: d slots from i on -/
def stF (r c : Nat) : Nat → Nat → Mt → Mt
  | 0, _, M => M
  | d + 1, i, M => stF r c d (i + 1) (va_up M r (upd (M r) (par M c i) (nI 1)))
def crF (r : Nat) : Nat → Mt → Mt
  | 0, M => M
  | c + 1, M => crF r c (if M r c = 0 then M else stF r c (pcn M c) 0 M)
theorem stF_row {r c a : Nat} (h : a ≠ r) : ∀ {d i : Nat} {M : Mt}, stF r c d i M a = M a := by
  intro d
  induction d with
  | zero => intro i M; rfl
  | succ d ih => intro i M; rw [stF, ih, va_up_ne _ _ h]
theorem crF_row {r a : Nat} (h : a ≠ r) : ∀ {q : Nat} {M : Mt}, crF r q M a = M a := by
  intro q
  induction q with
  | zero => intro M; rfl
  | succ q ih =>
    intro M
    rw [crF, ih]
    split
    · rfl
    · rw [stF_row h]
def fmF (r q : Nat) : Nat → Nat → Mt → Mt
  | 0, _, M => M
  | d + 1, i, M => fmF r q d (i + 1) (va_up M r (upd (M r) i (if i = q then nI 1 else nI 0)))
def heF (r h : Nat) : Nat → Nat → Mt → Mt
  | 0, _, M => M
  | d + 1, i, M => heF r h d (i + 1) (va_up M r (upd (M r) i (M 6 (h * 2000 + i))))
theorem fmF_row {r q a : Nat} (h : a ≠ r) : ∀ {d i : Nat} {M : Mt}, fmF r q d i M a = M a := by
  intro d
  induction d with
  | zero => intro i M; rfl
  | succ d ih => intro i M; rw [fmF, ih, va_up_ne _ _ h]
theorem heF_row {r q a : Nat} (h : a ≠ r) : ∀ {d i : Nat} {M : Mt}, heF r q d i M a = M a := by
  intro d
  induction d with
  | zero => intro i M; rfl
  | succ d ih => intro i M; rw [heF, ih, va_up_ne _ _ h]
/-- from(q, set r) and held(h, set r) -/
def frF (M : Mt) (z r q : Nat) : Mt := crF r z (fmF r q 2000 0 M)
def hdR (M : Mt) (z r h : Nat) : Mt := crF r z (heF r h 2000 0 M)
def b01 (M : Mt) (r : Nat) : Prop := ∀ j, M r j = nI 0 ∨ M r j = nI 1
def bfF (M : Mt) (x y : Nat) : Bool := if M 1 x = M 1 y then (if M 2 x = M 2 y then decide (x < y) else decide (M 2 x < M 2 y)) else decide (M 1 y < M 1 x)
theorem bf_a {M : Mt} {x y : Nat} (h : ¬ M 1 x = M 1 y) (h2 : ¬ M 1 x ≤ M 1 y) : nI 1 = bI (bfF M x y) := by
  rw [bfF, if_neg h, decide_eq_true (lt_nle h2)]; rfl
theorem bf_b {M : Mt} {x y : Nat} (h : ¬ M 1 x = M 1 y) (h2 : M 1 x ≤ M 1 y) : nI 0 = bI (bfF M x y) := by
  rw [bfF, if_neg h, decide_eq_false (nlt_le h2)]; rfl
theorem bf_c {M : Mt} {x y : Nat} (h : M 1 x = M 1 y) (h1 : ¬ M 2 x = M 2 y) (h2 : ¬ M 2 y ≤ M 2 x) : nI 1 = bI (bfF M x y) := by
  rw [bfF, if_pos h, if_neg h1, decide_eq_true (lt_nle h2)]; rfl
theorem bf_d {M : Mt} {x y : Nat} (h : M 1 x = M 1 y) (h1 : ¬ M 2 x = M 2 y) (h2 : M 2 y ≤ M 2 x) : nI 0 = bI (bfF M x y) := by
  rw [bfF, if_pos h, if_neg h1, decide_eq_false (nlt_le h2)]; rfl
theorem bf_e {M : Mt} {x y : Nat} (hx : x < 2000) (hy : y < 2000) (h : M 1 x = M 1 y) (h1 : M 2 x = M 2 y) (h2 : ¬ nI y ≤ nI x) : nI 1 = bI (bfF M x y) := by
  rw [bfF, if_pos h, if_pos h1, decide_eq_true (show x < y from Nat.not_le.mp (fun h3 => h2 ((nI_leI (by omega) (by omega)).mpr h3)))]; rfl
theorem bf_f {M : Mt} {x y : Nat} (hx : x < 2000) (hy : y < 2000) (h : M 1 x = M 1 y) (h1 : M 2 x = M 2 y) (h2 : nI y ≤ nI x) : nI 0 = bI (bfF M x y) := by
  rw [bfF, if_pos h, if_pos h1, decide_eq_false (show ¬ x < y from Nat.not_lt.mpr ((nI_leI (by omega) (by omega)).mp h2))]; rfl

section YC
variable {p : Program} {l : Launch} {e : Env} {R : Room} {s : State} {m : MethodId} {args : Array Value} {below : List Frame} {meth : Method} {c : Code} {H : Heap} {locs : List Loc} {cells slots : Nat} {Q : State → Prop} {ls : Array Slot} {w0 : Cond} {E : En} {M MF : Mt} {z t f : Nat}
set_option maxHeartbeats 4000000 in
set_option maxRecDepth 100000 in
theorem lp_clin (K : cY E p m c cX2_close 4 s args w0 RX2) (hR : 0 ≤ R.frames ∧ 0 ≤ R.locals) (hf : cells ≤ R.cells ∧ slots ≤ R.slots) {r q j : Nat} (hr : rwB r 2000) (r4 : 4 ≠ r) (r5 : 5 ≠ r) (hq : q < z) (hz0 : z = z) (kk : ∀ (H : Heap) (locs : List Loc) (ls : Array Slot), vst E s.heap MF z t f H locs → lv_has ls 4 [(2, .int (nI q)), (0, .ref (ad E 0)), (1, .ref (ad E r))] → W p l e R s m args below meth c H locs cells slots Q (F0 m 48 ls [])) : ∀ (d i : Nat) (M : Mt) (H : Heap) (locs : List Loc) (ls : Array Slot), i + d = j → okN M z → pcn M q = j → ¬ M r q = 0 → stF r q d i M = MF → vst E s.heap M z t f H locs → lv_has ls 4 [(3, .int (nI i)), (2, .int (nI q)), (0, .ref (ad E 0)), (1, .ref (ad E r))] → W p l e R s m args below meth c H locs cells slots Q (F0 m 13 ls []) := by
  have hx := K.1.1
  have hb := K.1.2.1
  intro d
  induction d with
  | zero =>
    intro i M H locs ls hi ok hj hs hm w hl
    have h4 := ok.le hq
    have hn := ok.1
    refine lv_iload_n hx hb dX2_close_13 rfl (lv_at hl 0 rfl) ?_
    refine lv_aload_n hx hb dX2_close_14 rfl (lv_at hl 2 rfl) ?_
    refine gf_X2_many K w dX2_close_15 ?_
    refine lv_iload_n hx hb dX2_close_18 rfl (lv_at hl 1 rfl) ?_
    refine ldI2 K w rwI4 (by omega) dX2_close_19 ?_
    refine topE (y := nI (pcn M q)) (ok.pc hq) ?_
    rw [hj]
    refine lv_icmp_ge (tgt := 48) hx hb dX2_close_20 rfl (fun _ => ?_) (fun h9 => absurd (nI_le (by omega) (by omega)) h9)
    exact kk _ _ _ (by rw [← hm]; exact w) (lv_sub hl [1, 2, 3] rfl)
  | succ d ih =>
    intro i M H locs ls hi ok hj hs hm w hl
    have h4 := ok.le hq
    have hn := ok.1
    have h5 := ok.lt hq (t := i) (by omega)
    refine lv_iload_n hx hb dX2_close_13 rfl (lv_at hl 0 rfl) ?_
    refine lv_aload_n hx hb dX2_close_14 rfl (lv_at hl 2 rfl) ?_
    refine gf_X2_many K w dX2_close_15 ?_
    refine lv_iload_n hx hb dX2_close_18 rfl (lv_at hl 1 rfl) ?_
    refine ldI2 K w rwI4 (by omega) dX2_close_19 ?_
    refine topE (y := nI (pcn M q)) (ok.pc hq) ?_
    rw [hj]
    refine lv_icmp_ge (tgt := 48) hx hb dX2_close_20 rfl (fun h9 => absurd h9 (nI_ge (by omega) (by omega))) (fun _ => ?_)
    refine lv_aload_n hx hb dX2_close_23 rfl (lv_at hl 3 rfl) ?_
    refine lv_iload_n hx hb dX2_close_24 rfl (lv_at hl 1 rfl) ?_
    refine ldB2 K w hr (by omega) dX2_close_25 ?_
    refine lv_if_eq (tgt := 48) hx hb dX2_close_26 rfl (fun h9 => absurd h9 hs) (fun _ => ?_)
    refine lv_aload_n hx hb dX2_close_29 rfl (lv_at hl 3 rfl) ?_
    refine lv_aload_n hx hb dX2_close_30 rfl (lv_at hl 2 rfl) ?_
    refine gf_X2_parent K w dX2_close_31 ?_
    refine lv_iload_n hx hb dX2_close_34 rfl (lv_at hl 1 rfl) ?_
    refine lv_iconst (v := nI 4) hx hb dX2_close_35 (by decide) ?_
    refine lv_imul hx hb dX2_close_36 ?_
    refine topE (y := nI (q * 4)) (pk_mul _ _) ?_
    refine lv_iload_n hx hb dX2_close_37 rfl (lv_at hl 0 rfl) ?_
    refine lv_iadd hx hb dX2_close_38 ?_
    refine topE (y := nI (q * 4 + i)) (nI_add _ _) ?_
    refine ldI2 K w rwI5 (by omega) dX2_close_39 ?_
    refine topE (y := nI (par M q i)) (ok.pr hq (by omega)) ?_
    refine lv_iconst (v := nI 1) hx hb dX2_close_40 (by decide) ?_
    refine stB2 K w hr (by omega) (by decide) dX2_close_41 (fun H locs w => ?_)
    refine lv_iinc (k := 0) (v := nI (_ + 1)) (lv' := [(3, .int _), (2, .int _), (0, .ref _), (1, .ref _)]) hx hb dX2_close_42 hl rfl (inc1 _) (by decide) rfl (fun ls hl => ?_)
    refine lv_goto (tgt := 13) hx hb dX2_close_45 rfl ?_
    exact ih (i + 1) (va_up M r (upd (M r) (par M q i) (nI 1))) _ _ _ (by omega) (ok.up r4 r5) ((pcn_up r4).trans hj) (by rw [va_up_self, pk_un (by omega)]; exact hs) hm w (lv_sub hl [0, 1, 2, 3] rfl)

set_option maxHeartbeats 4000000 in
set_option maxRecDepth 100000 in
theorem lp_cl (K : cY E p m c cX2_close 4 s args w0 RX2) (hR : 0 ≤ R.frames ∧ 0 ≤ R.locals) (hf : cells ≤ R.cells ∧ slots ≤ R.slots) {r : Nat} (hr : rwB r 2000) (r4 : 4 ≠ r) (r5 : 5 ≠ r) (ret : ∀ {H : Heap} {locs : List Loc} {pc : Nat} {ls : Array Slot}, vst E s.heap MF z t f H locs → decode cX2_close pc = .ok (.return_, 1) → W p l e R s m args below meth c H locs cells slots Q (F0 m pc ls [])) : ∀ (q : Nat) (M : Mt) (H : Heap) (locs : List Loc) (ls : Array Slot), q ≤ z → okN M z → crF r q M = MF → vst E s.heap M z t f H locs → lv_has ls 4 [(2, .int (nI q - nI 1)), (0, .ref (ad E 0)), (1, .ref (ad E r))] → W p l e R s m args below meth c H locs cells slots Q (F0 m 7 ls []) := by
  have hx := K.1.1
  have hb := K.1.2.1
  intro q
  induction q with
  | zero =>
    intro M H locs ls hq ok hm w hl
    refine lv_iload_n hx hb dX2_close_7 rfl (lv_at hl 0 rfl) ?_
    refine lv_if_lt (tgt := 54) hx hb dX2_close_8 rfl (fun _ => ?_) (fun h9 => absurd (by decide : nI 0 - nI 1 < 0) h9)
    exact ret (by rw [← hm]; exact w) dX2_close_54
  | succ q ih =>
    intro M H locs ls hq ok hm w hl
    have hl : lv_has ls 4 [(2, .int (nI q)), (0, .ref (ad E 0)), (1, .ref (ad E r))] := by
      rw [show nI (q + 1) - nI 1 = nI q from pk_sub (by omega)] at hl
      exact hl
    have hn := ok.1
    refine lv_iload_n hx hb dX2_close_7 rfl (lv_at hl 0 rfl) ?_
    refine lv_if_lt (tgt := 54) hx hb dX2_close_8 rfl (fun h9 => absurd h9 (nI_pos (by omega))) (fun _ => ?_)
    have h4 := ok.le (c := q) (by omega)
    by_cases h0 : M r q = 0
    · rw [crF, if_pos h0] at hm
      refine lv_iconst (v := nI 0) hx hb dX2_close_11 (by decide) ?_
      refine lv_istore_n (lv' := [(3, .int _), (2, .int _), (0, .ref _), (1, .ref _)]) hx hb dX2_close_12 rfl hl (by decide) rfl (fun ls hl => ?_)
      refine lv_iload_n hx hb dX2_close_13 rfl (lv_at hl 0 rfl) ?_
      refine lv_aload_n hx hb dX2_close_14 rfl (lv_at hl 2 rfl) ?_
      refine gf_X2_many K w dX2_close_15 ?_
      refine lv_iload_n hx hb dX2_close_18 rfl (lv_at hl 1 rfl) ?_
      refine ldI2 K w rwI4 (by omega) dX2_close_19 ?_
      by_cases h1 : pcn M q = 0
      · refine topE (y := nI (pcn M q)) (ok.pc (by omega)) ?_
        refine lv_icmp_ge (tgt := 48) hx hb dX2_close_20 rfl (fun _ => ?_) (fun h9 => absurd (by rw [h1]; decide) h9)
        refine lv_iinc (k := 1) (v := nI q - nI 1) (lv' := [(2, .int _), (3, .int _), (0, .ref _), (1, .ref _)]) hx hb dX2_close_48 hl rfl (decm q) (by decide) rfl (fun ls hl => ?_)
        refine lv_goto (tgt := 7) hx hb dX2_close_51 rfl ?_
        exact ih _ _ _ _ (by omega) ok hm w (lv_sub hl [0, 2, 3] rfl)
      · refine topE (y := nI (pcn M q)) (ok.pc (by omega)) ?_
        refine lv_icmp_ge (tgt := 48) hx hb dX2_close_20 rfl (fun h9 => absurd h9 (nI_ge (by omega) (by omega))) (fun _ => ?_)
        refine lv_aload_n hx hb dX2_close_23 rfl (lv_at hl 3 rfl) ?_
        refine lv_iload_n hx hb dX2_close_24 rfl (lv_at hl 1 rfl) ?_
        refine ldB2 K w hr (by omega) dX2_close_25 ?_
        refine lv_if_eq (tgt := 48) hx hb dX2_close_26 rfl (fun _ => ?_) (fun h9 => absurd h0 h9)
        refine lv_iinc (k := 1) (v := nI q - nI 1) (lv' := [(2, .int _), (3, .int _), (0, .ref _), (1, .ref _)]) hx hb dX2_close_48 hl rfl (decm q) (by decide) rfl (fun ls hl => ?_)
        refine lv_goto (tgt := 7) hx hb dX2_close_51 rfl ?_
        exact ih _ _ _ _ (by omega) ok hm w (lv_sub hl [0, 2, 3] rfl)
    · rw [crF, if_neg h0] at hm
      refine lv_iconst (v := nI 0) hx hb dX2_close_11 (by decide) ?_
      refine lv_istore_n (lv' := [(3, .int _), (2, .int _), (0, .ref _), (1, .ref _)]) hx hb dX2_close_12 rfl hl (by decide) rfl (fun ls hl => ?_)
      refine lp_clin K ⟨Nat.le_trans (Nat.le_of_ble_eq_true rfl) hR.1, Nat.le_trans (Nat.le_of_ble_eq_true rfl) hR.2⟩ hf hr r4 r5 (by omega) rfl (fun H locs ls w hl => ?_) (pcn M q) 0 M _ _ _ (by omega) ok rfl h0 rfl w (lv_sub hl [0, 1, 2, 3] rfl)
      refine lv_iinc (k := 0) (v := nI q - nI 1) (lv' := [(2, .int _), (0, .ref _), (1, .ref _)]) hx hb dX2_close_48 hl rfl (decm q) (by decide) rfl (fun ls hl => ?_)
      refine lv_goto (tgt := 7) hx hb dX2_close_51 rfl ?_
      exact ih _ _ _ _ (by omega) (ok.rows (stF_row r4) (stF_row r5)) hm w (lv_sub hl [0, 1, 2] rfl)

end YC
set_option maxHeartbeats 4000000 in
set_option maxRecDepth 100000 in
theorem c_X2_close {l : Launch} {E : En} {M : Mt} {z t f : Nat} (dn : dM E) {r : Nat} (hr : rwB r 2000) (r4 : 4 ≠ r) (r5 : 5 ≠ r) (ok : okN M z) : MV2 l yX2_close (.code yX2_close cX2_close 4 none) 0 0 E [.ref (ad E 0), .ref (ad E r)] M z t f (crF r z M) z t f := by
  refine MV2.of dn (own := RX2) (by decide) rfl (Nat.le_of_ble_eq_true rfl) (fun p e s m args below meth c ls Q K w hl ret => ?_)
  have hx := K.1.1
  have hb := K.1.2.1
  have hR : 0 ≤ (rmA 0 0).frames ∧ 0 ≤ (rmA 0 0).locals := ⟨Nat.le_refl _, Nat.le_refl _⟩
  have hf : 0 ≤ (rmA 0 0).cells ∧ 0 ≤ (rmA 0 0).slots := ⟨Nat.le_refl _, Nat.le_refl _⟩
  have hl : lv_has ls 4 [(0, .ref (ad E 0)), (1, .ref (ad E r))] := hl
  refine lv_aload_n hx hb dX2_close_0 rfl (lv_at hl 0 rfl) ?_
  refine gf_X2_size K w dX2_close_1 ?_
  refine lv_iconst (v := nI 1) hx hb dX2_close_4 (by decide) ?_
  refine lv_isub hx hb dX2_close_5 ?_
  refine lv_istore_n (lv' := [(2, .int _), (0, .ref _), (1, .ref _)]) hx hb dX2_close_6 rfl hl (by decide) rfl (fun ls hl => ?_)
  exact lp_cl K hR hf hr r4 r5 ret z M _ _ _ (Nat.le_refl _) ok rfl w hl

section YD
variable {p : Program} {l : Launch} {e : Env} {R : Room} {s : State} {m : MethodId} {args : Array Value} {below : List Frame} {meth : Method} {c : Code} {H : Heap} {locs : List Loc} {cells slots : Nat} {Q : State → Prop} {ls : Array Slot} {w0 : Cond} {E : En} {M MF : Mt} {z t f : Nat}
set_option maxHeartbeats 4000000 in
set_option maxRecDepth 100000 in
theorem lp_from (K : cY E p m c cX2_from 4 s args w0 RX2) (hR : 0 ≤ R.frames ∧ 0 ≤ R.locals) (hf : cells ≤ R.cells ∧ slots ≤ R.slots) {r q : Nat} (hr : rwB r 2000) (r4 : 4 ≠ r) (r5 : 5 ≠ r) (hq : q < 2147483648) (kk : ∀ (H : Heap) (locs : List Loc) (ls : Array Slot), vst E s.heap MF z t f H locs → lv_has ls 4 [(0, .ref (ad E 0)), (2, .ref (ad E r))] → W p l e R s m args below meth c H locs cells slots Q (F0 m 28 ls [])) : ∀ (d i : Nat) (M : Mt) (H : Heap) (locs : List Loc) (ls : Array Slot), i + d = 2000 → fmF r q d i M = MF → vst E s.heap M z t f H locs → lv_has ls 4 [(3, .int (nI i)), (0, .ref (ad E 0)), (1, .int (nI q)), (2, .ref (ad E r))] → W p l e R s m args below meth c H locs cells slots Q (F0 m 2 ls []) := by
  have hx := K.1.1
  have hb := K.1.2.1
  intro d
  induction d with
  | zero =>
    intro i M H locs ls hi hm w hl
    refine lv_iload_n hx hb dX2_from_2 rfl (lv_at hl 0 rfl) ?_
    refine lv_sipush (v := nI 2000) hx hb dX2_from_3 (by decide) ?_
    refine lv_icmp_ge (tgt := 28) hx hb dX2_from_6 rfl (fun _ => ?_) (fun h9 => absurd (nI_le (by omega) (by omega)) h9)
    exact kk _ _ _ (by rw [← hm]; exact w) (lv_sub hl [1, 3] rfl)
  | succ d ih =>
    intro i M H locs ls hi hm w hl
    refine lv_iload_n hx hb dX2_from_2 rfl (lv_at hl 0 rfl) ?_
    refine lv_sipush (v := nI 2000) hx hb dX2_from_3 (by decide) ?_
    refine lv_icmp_ge (tgt := 28) hx hb dX2_from_6 rfl (fun h9 => absurd h9 (nI_ge (by omega) (by omega))) (fun _ => ?_)
    by_cases h0 : i = q
    · rw [fmF, if_pos h0] at hm
      refine lv_aload_n hx hb dX2_from_9 rfl (lv_at hl 3 rfl) ?_
      refine lv_iload_n hx hb dX2_from_10 rfl (lv_at hl 0 rfl) ?_
      refine lv_iload_n hx hb dX2_from_11 rfl (lv_at hl 0 rfl) ?_
      refine lv_iload_n hx hb dX2_from_12 rfl (lv_at hl 2 rfl) ?_
      refine lv_icmp_ne (tgt := 20) hx hb dX2_from_13 rfl (fun h9 => absurd (by rw [h0]) h9) (fun _ => ?_)
      refine lv_iconst (v := nI 1) hx hb dX2_from_16 (by decide) ?_
      refine lv_goto (tgt := 21) hx hb dX2_from_17 rfl ?_
      refine stB2 K w hr (by omega) (by decide) dX2_from_21 (fun H locs w => ?_)
      refine lv_iinc (k := 0) (v := nI (_ + 1)) (lv' := [(3, .int _), (0, .ref _), (1, .int _), (2, .ref _)]) hx hb dX2_from_22 hl rfl (inc1 _) (by decide) rfl (fun ls hl => ?_)
      refine lv_goto (tgt := 2) hx hb dX2_from_25 rfl ?_
      exact ih (i + 1) _ _ _ _ (by omega) hm w (lv_sub hl [0, 1, 2, 3] rfl)
    · rw [fmF, if_neg h0] at hm
      refine lv_aload_n hx hb dX2_from_9 rfl (lv_at hl 3 rfl) ?_
      refine lv_iload_n hx hb dX2_from_10 rfl (lv_at hl 0 rfl) ?_
      refine lv_iload_n hx hb dX2_from_11 rfl (lv_at hl 0 rfl) ?_
      refine lv_iload_n hx hb dX2_from_12 rfl (lv_at hl 2 rfl) ?_
      refine lv_icmp_ne (tgt := 20) hx hb dX2_from_13 rfl (fun _ => ?_) (fun h9 => absurd h9 (fun h => h0 ((nI_eq (by omega) (by omega)).mp h)))
      refine lv_iconst (v := nI 0) hx hb dX2_from_20 (by decide) ?_
      refine stB2 K w hr (by omega) (by decide) dX2_from_21 (fun H locs w => ?_)
      refine lv_iinc (k := 0) (v := nI (_ + 1)) (lv' := [(3, .int _), (0, .ref _), (1, .int _), (2, .ref _)]) hx hb dX2_from_22 hl rfl (inc1 _) (by decide) rfl (fun ls hl => ?_)
      refine lv_goto (tgt := 2) hx hb dX2_from_25 rfl ?_
      exact ih (i + 1) _ _ _ _ (by omega) hm w (lv_sub hl [0, 1, 2, 3] rfl)

set_option maxHeartbeats 4000000 in
set_option maxRecDepth 100000 in
theorem lp_hold (K : cY E p m c cX2_held 4 s args w0 RX2) (hR : 0 ≤ R.frames ∧ 0 ≤ R.locals) (hf : cells ≤ R.cells ∧ slots ≤ R.slots) {r q : Nat} (hr : rwB r 2000) (r4 : 4 ≠ r) (r5 : 5 ≠ r) (r6 : 6 ≠ r) (hq : q < 2) (kk : ∀ (H : Heap) (locs : List Loc) (ls : Array Slot), vst E s.heap MF z t f H locs → lv_has ls 4 [(0, .ref (ad E 0)), (2, .ref (ad E r))] → W p l e R s m args below meth c H locs cells slots Q (F0 m 30 ls [])) : ∀ (d i : Nat) (M : Mt) (H : Heap) (locs : List Loc) (ls : Array Slot), i + d = 2000 → b01 M 6 → heF r q d i M = MF → vst E s.heap M z t f H locs → lv_has ls 4 [(3, .int (nI i)), (0, .ref (ad E 0)), (1, .int (nI q)), (2, .ref (ad E r))] → W p l e R s m args below meth c H locs cells slots Q (F0 m 2 ls []) := by
  have hx := K.1.1
  have hb := K.1.2.1
  intro d
  induction d with
  | zero =>
    intro i M H locs ls hi hb6 hm w hl
    refine lv_iload_n hx hb dX2_held_2 rfl (lv_at hl 0 rfl) ?_
    refine lv_sipush (v := nI 2000) hx hb dX2_held_3 (by decide) ?_
    refine lv_icmp_ge (tgt := 30) hx hb dX2_held_6 rfl (fun _ => ?_) (fun h9 => absurd (nI_le (by omega) (by omega)) h9)
    exact kk _ _ _ (by rw [← hm]; exact w) (lv_sub hl [1, 3] rfl)
  | succ d ih =>
    intro i M H locs ls hi hb6 hm w hl
    refine lv_iload_n hx hb dX2_held_2 rfl (lv_at hl 0 rfl) ?_
    refine lv_sipush (v := nI 2000) hx hb dX2_held_3 (by decide) ?_
    refine lv_icmp_ge (tgt := 30) hx hb dX2_held_6 rfl (fun h9 => absurd h9 (nI_ge (by omega) (by omega))) (fun _ => ?_)
    refine lv_aload_n hx hb dX2_held_9 rfl (lv_at hl 3 rfl) ?_
    refine lv_iload_n hx hb dX2_held_10 rfl (lv_at hl 0 rfl) ?_
    refine lv_aload_n hx hb dX2_held_11 rfl (lv_at hl 1 rfl) ?_
    refine gf_X2_tips K w dX2_held_12 ?_
    refine lv_iload_n hx hb dX2_held_15 rfl (lv_at hl 2 rfl) ?_
    refine lv_sipush (v := nI 2000) hx hb dX2_held_16 (by decide) ?_
    refine lv_imul hx hb dX2_held_19 ?_
    refine topE (y := nI (q * 2000)) (pk_mul _ _) ?_
    refine lv_iload_n hx hb dX2_held_20 rfl (lv_at hl 0 rfl) ?_
    refine lv_iadd hx hb dX2_held_21 ?_
    refine topE (y := nI (q * 2000 + i)) (nI_add _ _) ?_
    refine ldB2 K w rwB6 (by omega) dX2_held_22 ?_
    refine stB2 K w hr (by omega) (nar01 (hb6 _)) dX2_held_23 (fun H locs w => ?_)
    refine lv_iinc (k := 0) (v := nI (_ + 1)) (lv' := [(3, .int _), (0, .ref _), (1, .int _), (2, .ref _)]) hx hb dX2_held_24 hl rfl (inc1 _) (by decide) rfl (fun ls hl => ?_)
    refine lv_goto (tgt := 2) hx hb dX2_held_27 rfl ?_
    exact ih (i + 1) _ _ _ _ (by omega) (by intro j; rw [va_up_ne _ _ r6]; exact hb6 j) hm w (lv_sub hl [0, 1, 2, 3] rfl)

end YD
set_option maxHeartbeats 4000000 in
set_option maxRecDepth 100000 in
theorem c_X2_from {l : Launch} {E : En} {M : Mt} {z t f : Nat} (dn : dM E) {r q : Nat} (hr : rwB r 2000) (r4 : 4 ≠ r) (r5 : 5 ≠ r) (hq : q < 2147483648) (ok : okN M z) : MV2 l yX2_from (.code yX2_from cX2_from 4 none) 1 23 E [.ref (ad E 0), .int (nI q), .ref (ad E r)] M z t f (frF M z r q) z t f := by
  refine MV2.of dn (own := RX2) (by decide) rfl (Nat.le_of_ble_eq_true rfl) (fun p e s m args below meth c ls Q K w hl ret => ?_)
  have hx := K.1.1
  have hb := K.1.2.1
  have hR : 1 ≤ (rmA 1 23).frames ∧ 23 ≤ (rmA 1 23).locals := ⟨Nat.le_refl _, Nat.le_refl _⟩
  have hf : 0 ≤ (rmA 1 23).cells ∧ 0 ≤ (rmA 1 23).slots := ⟨Nat.le_refl _, Nat.le_refl _⟩
  have hl : lv_has ls 4 [(0, .ref (ad E 0)), (1, .int (nI q)), (2, .ref (ad E r))] := hl
  refine lv_iconst (v := nI 0) hx hb dX2_from_0 (by decide) ?_
  refine lv_istore_n (lv' := [(3, .int _), (0, .ref _), (1, .int _), (2, .ref _)]) hx hb dX2_from_1 rfl hl (by decide) rfl (fun ls hl => ?_)
  refine lp_from K ⟨Nat.le_trans (Nat.le_of_ble_eq_true rfl) hR.1, Nat.le_trans (Nat.le_of_ble_eq_true rfl) hR.2⟩ hf hr r4 r5 hq (fun H locs ls w hl => ?_) 2000 0 M _ _ _ (by omega) rfl w hl
  refine lv_aload_n hx hb dX2_from_28 rfl (lv_at hl 0 rfl) ?_
  refine lv_aload_n hx hb dX2_from_29 rfl (lv_at hl 1 rfl) ?_
  refine callv2 K w (c_X2_close dn hr r4 r5 (ok.rows (fmF_row r4) (fmF_row r5))) (lk_X2_64 K ⟨Nat.le_trans (Nat.le_of_ble_eq_true rfl) hR.1, Nat.le_trans (Nat.le_of_ble_eq_true rfl) hR.2⟩) (recvM K w) rfl hl.1 rfl (Nat.le_of_ble_eq_true rfl) dX2_from_30 hf (fun H locs w => ?_)
  exact ret w dX2_from_33

set_option maxHeartbeats 4000000 in
set_option maxRecDepth 100000 in
theorem c_X2_held {l : Launch} {E : En} {M : Mt} {z t f : Nat} (dn : dM E) {r q : Nat} (hr : rwB r 2000) (r4 : 4 ≠ r) (r5 : 5 ≠ r) (r6 : 6 ≠ r) (hq : q < 2) (hb6 : b01 M 6) (ok : okN M z) : MV2 l yX2_held (.code yX2_held cX2_held 4 none) 1 23 E [.ref (ad E 0), .int (nI q), .ref (ad E r)] M z t f (hdR M z r q) z t f := by
  refine MV2.of dn (own := RX2) (by decide) rfl (Nat.le_of_ble_eq_true rfl) (fun p e s m args below meth c ls Q K w hl ret => ?_)
  have hx := K.1.1
  have hb := K.1.2.1
  have hR : 1 ≤ (rmA 1 23).frames ∧ 23 ≤ (rmA 1 23).locals := ⟨Nat.le_refl _, Nat.le_refl _⟩
  have hf : 0 ≤ (rmA 1 23).cells ∧ 0 ≤ (rmA 1 23).slots := ⟨Nat.le_refl _, Nat.le_refl _⟩
  have hl : lv_has ls 4 [(0, .ref (ad E 0)), (1, .int (nI q)), (2, .ref (ad E r))] := hl
  refine lv_iconst (v := nI 0) hx hb dX2_held_0 (by decide) ?_
  refine lv_istore_n (lv' := [(3, .int _), (0, .ref _), (1, .int _), (2, .ref _)]) hx hb dX2_held_1 rfl hl (by decide) rfl (fun ls hl => ?_)
  refine lp_hold K ⟨Nat.le_trans (Nat.le_of_ble_eq_true rfl) hR.1, Nat.le_trans (Nat.le_of_ble_eq_true rfl) hR.2⟩ hf hr r4 r5 r6 hq (fun H locs ls w hl => ?_) 2000 0 M _ _ _ (by omega) hb6 rfl w hl
  refine lv_aload_n hx hb dX2_held_30 rfl (lv_at hl 0 rfl) ?_
  refine lv_aload_n hx hb dX2_held_31 rfl (lv_at hl 1 rfl) ?_
  refine callv2 K w (c_X2_close dn hr r4 r5 (ok.rows (heF_row r4) (heF_row r5))) (lk_X2_64 K ⟨Nat.le_trans (Nat.le_of_ble_eq_true rfl) hR.1, Nat.le_trans (Nat.le_of_ble_eq_true rfl) hR.2⟩) (recvM K w) rfl hl.1 rfl (Nat.le_of_ble_eq_true rfl) dX2_held_32 hf (fun H locs w => ?_)
  exact ret w dX2_held_35

set_option maxHeartbeats 4000000 in
set_option maxRecDepth 100000 in
theorem c_X2_before {l : Launch} {E : En} {M : Mt} {z t f : Nat} (dn : dM E) {x y : Nat} (h1 : x < 2000) (h2 : y < 2000) : MI2 l yX2_before (.code yX2_before cX2_before 3 (some .boolean)) 0 0 E [.ref (ad E 0), .int (nI x), .int (nI y)] M z t f (bI (bfF M x y)) M z t f := by
  refine MI2.ofZ dn (own := RX2) (by decide) rfl (Nat.le_of_ble_eq_true rfl) (bI_z _) (fun p e s m args below meth c ls Q K w hl ret => ?_)
  have hx := K.1.1
  have hb := K.1.2.1
  have hR : 0 ≤ (rmA 0 0).frames ∧ 0 ≤ (rmA 0 0).locals := ⟨Nat.le_refl _, Nat.le_refl _⟩
  have hf : 0 ≤ (rmA 0 0).cells ∧ 0 ≤ (rmA 0 0).slots := ⟨Nat.le_refl _, Nat.le_refl _⟩
  have hl : lv_has ls 3 [(0, .ref (ad E 0)), (1, .int (nI x)), (2, .int (nI y))] := hl
  refine lv_aload_n hx hb dX2_before_0 rfl (lv_at hl 0 rfl) ?_
  refine gf_X2_time K w dX2_before_1 ?_
  refine lv_iload_n hx hb dX2_before_4 rfl (lv_at hl 1 rfl) ?_
  refine ldI2 K w rwI1 (by omega) dX2_before_5 ?_
  refine lv_aload_n hx hb dX2_before_6 rfl (lv_at hl 0 rfl) ?_
  refine gf_X2_time K w dX2_before_7 ?_
  refine lv_iload_n hx hb dX2_before_10 rfl (lv_at hl 2 rfl) ?_
  refine ldI2 K w rwI1 (by omega) dX2_before_11 ?_
  refine lv_icmp_eq (tgt := 36) hx hb dX2_before_12 rfl (fun h12 => ?_) (fun h12 => ?_)
  · refine lv_aload_n hx hb dX2_before_36 rfl (lv_at hl 0 rfl) ?_
    refine gf_X2_key K w dX2_before_37 ?_
    refine lv_iload_n hx hb dX2_before_40 rfl (lv_at hl 1 rfl) ?_
    refine ldI2 K w rwI2 (by omega) dX2_before_41 ?_
    refine lv_aload_n hx hb dX2_before_42 rfl (lv_at hl 0 rfl) ?_
    refine gf_X2_key K w dX2_before_43 ?_
    refine lv_iload_n hx hb dX2_before_46 rfl (lv_at hl 2 rfl) ?_
    refine ldI2 K w rwI2 (by omega) dX2_before_47 ?_
    refine lv_icmp_eq (tgt := 74) hx hb dX2_before_48 rfl (fun h48 => ?_) (fun h48 => ?_)
    · refine lv_iload_n hx hb dX2_before_74 rfl (lv_at hl 1 rfl) ?_
      refine lv_iload_n hx hb dX2_before_75 rfl (lv_at hl 2 rfl) ?_
      refine lv_icmp_ge (tgt := 83) hx hb dX2_before_76 rfl (fun h76 => ?_) (fun h76 => ?_)
      · refine lv_iconst (v := nI 0) hx hb dX2_before_83 (by decide) ?_
        exact ret w (by first | exact bf_c h12 h48 h63 | exact bf_d h12 h48 h63 | exact bf_e h1 h2 h12 h48 h76 | exact bf_f h1 h2 h12 h48 h76) dX2_before_84
      · refine lv_iconst (v := nI 1) hx hb dX2_before_79 (by decide) ?_
        refine lv_goto (tgt := 84) hx hb dX2_before_80 rfl ?_
        exact ret w (by first | exact bf_c h12 h48 h63 | exact bf_d h12 h48 h63 | exact bf_e h1 h2 h12 h48 h76 | exact bf_f h1 h2 h12 h48 h76) dX2_before_84
    · refine lv_aload_n hx hb dX2_before_51 rfl (lv_at hl 0 rfl) ?_
      refine gf_X2_key K w dX2_before_52 ?_
      refine lv_iload_n hx hb dX2_before_55 rfl (lv_at hl 1 rfl) ?_
      refine ldI2 K w rwI2 (by omega) dX2_before_56 ?_
      refine lv_aload_n hx hb dX2_before_57 rfl (lv_at hl 0 rfl) ?_
      refine gf_X2_key K w dX2_before_58 ?_
      refine lv_iload_n hx hb dX2_before_61 rfl (lv_at hl 2 rfl) ?_
      refine ldI2 K w rwI2 (by omega) dX2_before_62 ?_
      refine lv_icmp_ge (tgt := 70) hx hb dX2_before_63 rfl (fun h63 => ?_) (fun h63 => ?_)
      · refine lv_iconst (v := nI 0) hx hb dX2_before_70 (by decide) ?_
        refine lv_goto (tgt := 84) hx hb dX2_before_71 rfl ?_
        exact ret w (by first | exact bf_c h12 h48 h63 | exact bf_d h12 h48 h63 | exact bf_e h1 h2 h12 h48 h76 | exact bf_f h1 h2 h12 h48 h76) dX2_before_84
      · refine lv_iconst (v := nI 1) hx hb dX2_before_66 (by decide) ?_
        refine lv_goto (tgt := 84) hx hb dX2_before_67 rfl ?_
        exact ret w (by first | exact bf_c h12 h48 h63 | exact bf_d h12 h48 h63 | exact bf_e h1 h2 h12 h48 h76 | exact bf_f h1 h2 h12 h48 h76) dX2_before_84
  · refine lv_aload_n hx hb dX2_before_15 rfl (lv_at hl 0 rfl) ?_
    refine gf_X2_time K w dX2_before_16 ?_
    refine lv_iload_n hx hb dX2_before_19 rfl (lv_at hl 1 rfl) ?_
    refine ldI2 K w rwI1 (by omega) dX2_before_20 ?_
    refine lv_aload_n hx hb dX2_before_21 rfl (lv_at hl 0 rfl) ?_
    refine gf_X2_time K w dX2_before_22 ?_
    refine lv_iload_n hx hb dX2_before_25 rfl (lv_at hl 2 rfl) ?_
    refine ldI2 K w rwI1 (by omega) dX2_before_26 ?_
    refine lv_icmp_le (tgt := 34) hx hb dX2_before_27 rfl (fun h27 => ?_) (fun h27 => ?_)
    · refine lv_iconst (v := nI 0) hx hb dX2_before_34 (by decide) ?_
      exact ret w (by first | exact bf_a h12 h27 | exact bf_b h12 h27) dX2_before_35
    · refine lv_iconst (v := nI 1) hx hb dX2_before_30 (by decide) ?_
      refine lv_goto (tgt := 35) hx hb dX2_before_31 rfl ?_
      exact ret w (by first | exact bf_a h12 h27 | exact bf_b h12 h27) dX2_before_35

set_option maxHeartbeats 4000000 in
set_option maxRecDepth 100000 in
theorem c_X2_pick_a {l : Launch} {E : En} {M : Mt} {z t f : Nat} (dn : dM E) : MI2 l yX2_pick (.code yX2_pick cX2_pick 2 (some .int)) 1 21 E [.ref (ad E 0), .int (-1)] M z t f (nI f) M z t f := by
  refine MI2.of dn (own := RX2) (by decide) rfl (Nat.le_of_ble_eq_true rfl) (fun p e s m args below meth c ls Q K w hl ret => ?_)
  have hx := K.1.1
  have hb := K.1.2.1
  have hR : 1 ≤ (rmA 1 21).frames ∧ 21 ≤ (rmA 1 21).locals := ⟨Nat.le_refl _, Nat.le_refl _⟩
  have hf : 0 ≤ (rmA 1 21).cells ∧ 0 ≤ (rmA 1 21).slots := ⟨Nat.le_refl _, Nat.le_refl _⟩
  have hl : lv_has ls 2 [(0, .ref (ad E 0)), (1, .int (-1))] := hl
  refine lv_iload_n hx hb dX2_pick_0 rfl (lv_at hl 1 rfl) ?_
  refine lv_iconst (v := -1) hx hb dX2_pick_1 (by decide) ?_
  refine lv_icmp_ne (tgt := 10) hx hb dX2_pick_2 rfl (fun h9 => absurd (rfl : (-1 : Int32) = -1) h9) (fun _ => ?_)
  refine lv_aload_n hx hb dX2_pick_5 rfl (lv_at hl 0 rfl) ?_
  refine gf_X2_found K w dX2_pick_6 ?_
  exact ret w rfl dX2_pick_9

set_option maxHeartbeats 4000000 in
set_option maxRecDepth 100000 in
theorem c_X2_pick_b {l : Launch} {E : En} {M : Mt} {z t f : Nat} (dn : dM E) {i : Nat} (hi : i < f) (hf0 : f ≤ 2000) : MI2 l yX2_pick (.code yX2_pick cX2_pick 2 (some .int)) 1 21 E [.ref (ad E 0), .int (nI i)] M z t f (M 3 i) M z t f := by
  refine MI2.of dn (own := RX2) (by decide) rfl (Nat.le_of_ble_eq_true rfl) (fun p e s m args below meth c ls Q K w hl ret => ?_)
  have hx := K.1.1
  have hb := K.1.2.1
  have hR : 1 ≤ (rmA 1 21).frames ∧ 21 ≤ (rmA 1 21).locals := ⟨Nat.le_refl _, Nat.le_refl _⟩
  have hf : 0 ≤ (rmA 1 21).cells ∧ 0 ≤ (rmA 1 21).slots := ⟨Nat.le_refl _, Nat.le_refl _⟩
  have hl : lv_has ls 2 [(0, .ref (ad E 0)), (1, .int (nI i))] := hl
  refine lv_iload_n hx hb dX2_pick_0 rfl (lv_at hl 1 rfl) ?_
  refine lv_iconst (v := -1) hx hb dX2_pick_1 (by decide) ?_
  refine lv_icmp_ne (tgt := 10) hx hb dX2_pick_2 rfl (fun _ => ?_) (fun h9 => absurd h9 (nI_nm1 (by omega)))
  refine lv_iload_n hx hb dX2_pick_10 rfl (lv_at hl 1 rfl) ?_
  refine lv_if_lt (tgt := 22) hx hb dX2_pick_11 rfl (fun h9 => absurd h9 (nI_pos (by omega))) (fun _ => ?_)
  refine lv_iload_n hx hb dX2_pick_14 rfl (lv_at hl 1 rfl) ?_
  refine lv_aload_n hx hb dX2_pick_15 rfl (lv_at hl 0 rfl) ?_
  refine gf_X2_found K w dX2_pick_16 ?_
  refine lv_icmp_lt (tgt := 30) hx hb dX2_pick_19 rfl (fun _ => ?_) (fun h9 => absurd (nI_lt hi (by omega)) h9)
  refine lv_aload_n hx hb dX2_pick_30 rfl (lv_at hl 0 rfl) ?_
  refine gf_X2_row K w dX2_pick_31 ?_
  refine lv_iload_n hx hb dX2_pick_34 rfl (lv_at hl 1 rfl) ?_
  refine ldI2 K w rwI3 (by omega) dX2_pick_35 ?_
  exact ret w rfl dX2_pick_36

set_option maxHeartbeats 4000000 in
set_option maxRecDepth 100000 in
theorem c_X2_pick_c {l : Launch} {E : En} {M : Mt} {z t f : Nat} (dn : dM E) {x : Int32} (h1 : ¬ x = -1) (hx0 : x < 0 ∨ nI f ≤ x) : MI2 l yX2_pick (.code yX2_pick cX2_pick 2 (some .int)) 1 21 E [.ref (ad E 0), .int x] M z t f (nI 0) M z 2 f := by
  refine MI2.of dn (own := RX2) (by decide) rfl (Nat.le_of_ble_eq_true rfl) (fun p e s m args below meth c ls Q K w hl ret => ?_)
  have hx := K.1.1
  have hb := K.1.2.1
  have hR : 1 ≤ (rmA 1 21).frames ∧ 21 ≤ (rmA 1 21).locals := ⟨Nat.le_refl _, Nat.le_refl _⟩
  have hf : 0 ≤ (rmA 1 21).cells ∧ 0 ≤ (rmA 1 21).slots := ⟨Nat.le_refl _, Nat.le_refl _⟩
  have hl : lv_has ls 2 [(0, .ref (ad E 0)), (1, .int x)] := hl
  by_cases h0 : x < 0
  · refine lv_iload_n hx hb dX2_pick_0 rfl (lv_at hl 1 rfl) ?_
    refine lv_iconst (v := -1) hx hb dX2_pick_1 (by decide) ?_
    refine lv_icmp_ne (tgt := 10) hx hb dX2_pick_2 rfl (fun _ => ?_) (fun h9 => absurd h9 h1)
    refine lv_iload_n hx hb dX2_pick_10 rfl (lv_at hl 1 rfl) ?_
    refine lv_if_lt (tgt := 22) hx hb dX2_pick_11 rfl (fun _ => ?_) (fun h9 => absurd h0 h9)
    refine lv_aload_n hx hb dX2_pick_22 rfl (lv_at hl 0 rfl) ?_
    refine lv_iconst (v := nI 2) hx hb dX2_pick_23 (by decide) ?_
    refine calli2 K w (c_X2_refuse dn) (lk_X2_45 K ⟨Nat.le_trans (Nat.le_of_ble_eq_true rfl) hR.1, Nat.le_trans (Nat.le_of_ble_eq_true rfl) hR.2⟩) (recvM K w) rfl hl.1 rfl (Nat.le_of_ble_eq_true rfl) dX2_pick_24 hf (fun H locs w => ?_)
    refine lv_goto (tgt := 36) hx hb dX2_pick_27 rfl ?_
    exact ret w rfl dX2_pick_36
  · refine lv_iload_n hx hb dX2_pick_0 rfl (lv_at hl 1 rfl) ?_
    refine lv_iconst (v := -1) hx hb dX2_pick_1 (by decide) ?_
    refine lv_icmp_ne (tgt := 10) hx hb dX2_pick_2 rfl (fun _ => ?_) (fun h9 => absurd h9 h1)
    refine lv_iload_n hx hb dX2_pick_10 rfl (lv_at hl 1 rfl) ?_
    refine lv_if_lt (tgt := 22) hx hb dX2_pick_11 rfl (fun h9 => absurd h9 h0) (fun _ => ?_)
    refine lv_iload_n hx hb dX2_pick_14 rfl (lv_at hl 1 rfl) ?_
    refine lv_aload_n hx hb dX2_pick_15 rfl (lv_at hl 0 rfl) ?_
    refine gf_X2_found K w dX2_pick_16 ?_
    refine lv_icmp_lt (tgt := 30) hx hb dX2_pick_19 rfl (fun h9 => absurd h9 (nlt_or h0 hx0)) (fun _ => ?_)
    refine lv_aload_n hx hb dX2_pick_22 rfl (lv_at hl 0 rfl) ?_
    refine lv_iconst (v := nI 2) hx hb dX2_pick_23 (by decide) ?_
    refine calli2 K w (c_X2_refuse dn) (lk_X2_45 K ⟨Nat.le_trans (Nat.le_of_ble_eq_true rfl) hR.1, Nat.le_trans (Nat.le_of_ble_eq_true rfl) hR.2⟩) (recvM K w) rfl hl.1 rfl (Nat.le_of_ble_eq_true rfl) dX2_pick_24 hf (fun H locs w => ?_)
    refine lv_goto (tgt := 36) hx hb dX2_pick_27 rfl ?_
    exact ret w rfl dX2_pick_36
end
section
/-- one step of the scan for the first: x comes before what was found so far -/
def scF (M : Mt) (i : Nat) (o : Option Nat) : Option Nat := if M 9 i = 0 then o else match o with
  | none => some i
  | some y => if bfF M i y = true then some i else some y
def mnF (M : Mt) : Nat → Nat → Option Nat → Option Nat
  | 0, _, o => o
  | d + 1, i, o => mnF M d (i + 1) (scF M i o)
theorem scF_lt {M : Mt} {i z : Nat} {o : Option Nat} (hi : i < z) (ho : oB o z) : oB (scF M i o) z := by
  intro u hu
  unfold scF at hu
  split at hu
  · exact ho u hu
  · cases o with
    | none => cases hu; exact hi
    | some y =>
      dsimp only at hu
      split at hu
      · cases hu; exact hi
      · cases hu; exact ho _ rfl
theorem mnF_lt {M : Mt} {z : Nat} : ∀ {d i : Nat} {o : Option Nat}, i + d ≤ z → oB o z → oB (mnF M d i o) z := by
  intro d
  induction d with
  | zero => intro i o _ ho; exact ho
  | succ d ih => intro i o hi ho; exact ih (by omega) (scF_lt (by omega) ho)
/-- what order() does with the one found -/
def tkO (u : Mt × Nat) (y : Nat) : Mt × Nat := (va_up (va_up u.1 9 (upd (u.1 9) y (nI 0))) 3 (upd (u.1 3) u.2 (nI y)), u.2 + 1)
def orF (z : Nat) : Nat → Mt × Nat → Mt × Nat
  | 0, u => u
  | d + 1, u => match mnF u.1 z 0 none with
    | none => u
    | some y => orF z d (tkO u y)
theorem oB_none {n : Nat} : oB none n := fun u h => by cases h
/-- no left child but x itself -/
def fxF (M : Mt) (x : Nat) : Nat → Nat → Bool
  | 0, _ => true
  | d + 1, c => if ¬ M 9 c = 0 ∧ c ≠ x ∧ ipF M x c (pcn M c) 0 = true then false else fxF M x d (c + 1)
def lsF (M : Mt) (z i : Nat) (o : Option Nat) : Option Nat := if M 9 i = 0 then o else match o with
  | none => if fxF M i z 0 = true then some i else none
  | some y => if bfF M i y = true then (if fxF M i z 0 = true then some i else some y) else some y
def lmF (M : Mt) (z : Nat) : Nat → Nat → Option Nat → Option Nat
  | 0, _, o => o
  | d + 1, i, o => lmF M z d (i + 1) (lsF M z i o)
theorem lsF_lt {M : Mt} {i z : Nat} {o : Option Nat} (hi : i < z) (ho : oB o z) : oB (lsF M z i o) z := by
  intro u hu
  unfold lsF at hu
  split at hu
  · exact ho u hu
  · cases o with
    | none =>
      dsimp only at hu
      split at hu
      · cases hu; exact hi
      · cases hu
    | some y =>
      dsimp only at hu
      split at hu
      · split at hu
        · cases hu; exact hi
        · cases hu; exact ho _ rfl
      · cases hu; exact ho _ rfl
theorem lmF_lt {M : Mt} {z : Nat} : ∀ {d i : Nat} {o : Option Nat}, i + d ≤ z → oB o z → oB (lmF M z d i o) z := by
  intro d
  induction d with
  | zero => intro i o _ ho; exact ho
  | succ d ih => intro i o hi ho; exact ih (by omega) (lsF_lt (by omega) ho)
def lgF (z : Nat) : Nat → Mt × Nat → Mt × Nat
  | 0, u => u
  | d + 1, u => match lmF u.1 z z 0 none with
    | none => u
    | some y => lgF z d (tkO u y)

section YE
variable {p : Program} {l : Launch} {e : Env} {R : Room} {s : State} {m : MethodId} {args : Array Value} {below : List Frame} {meth : Method} {c : Code} {H : Heap} {locs : List Loc} {cells slots : Nat} {Q : State → Prop} {ls : Array Slot} {w0 : Cond} {E : En} {M MF : Mt} {UF : Mt × Nat} {z t f : Nat}
set_option maxHeartbeats 4000000 in
set_option maxRecDepth 100000 in
theorem lp_scan (K : cY E p m c cX2_order 4 s args w0 RX2) (hR : 1 ≤ R.frames ∧ 22 ≤ R.locals) (hf : cells ≤ R.cells ∧ slots ≤ R.slots) {x1 : Int32} {of : Option Nat} (hz : z ≤ 2000) (kk : ∀ (H : Heap) (locs : List Loc) (ls : Array Slot), vst E s.heap M z t f H locs → lv_has ls 4 [(2, .int (oI of)), (1, .int x1), (0, .ref (ad E 0))] → W p l e R s m args below meth c H locs cells slots Q (F0 m 57 ls [])) : ∀ (d i : Nat) (o : Option Nat) (H : Heap) (locs : List Loc) (ls : Array Slot), i + d = z → oB o z → mnF M d i o = of → vst E s.heap M z t f H locs → lv_has ls 4 [(3, .int (nI i)), (2, .int (oI o)), (1, .int x1), (0, .ref (ad E 0))] → W p l e R s m args below meth c H locs cells slots Q (F0 m 19 ls []) := by
  have hx := K.1.1
  have hb := K.1.2.1
  intro d
  induction d with
  | zero =>
    intro i o H locs ls hi ho hm w hl
    refine lv_iload_n hx hb dX2_order_19 rfl (lv_at hl 0 rfl) ?_
    refine lv_aload_n hx hb dX2_order_20 rfl (lv_at hl 3 rfl) ?_
    refine gf_X2_size K w dX2_order_21 ?_
    refine lv_icmp_ge (tgt := 57) hx hb dX2_order_24 rfl (fun _ => ?_) (fun h9 => absurd (nI_le (by omega) (by omega)) h9)
    exact kk _ _ _ w (by rw [← hm]; exact lv_sub hl [1, 2, 3] rfl)
  | succ d ih =>
    intro i o H locs ls hi ho hm w hl
    refine lv_iload_n hx hb dX2_order_19 rfl (lv_at hl 0 rfl) ?_
    refine lv_aload_n hx hb dX2_order_20 rfl (lv_at hl 3 rfl) ?_
    refine gf_X2_size K w dX2_order_21 ?_
    refine lv_icmp_ge (tgt := 57) hx hb dX2_order_24 rfl (fun h9 => absurd h9 (nI_ge (by omega) (by omega))) (fun _ => ?_)
    by_cases h9z : M 9 i = 0
    · have hsc : scF M i o = o := by unfold scF; rw [if_pos h9z]
      rw [mnF, hsc] at hm
      refine lv_aload_n hx hb dX2_order_27 rfl (lv_at hl 3 rfl) ?_
      refine gf_X2_left K w dX2_order_28 ?_
      refine lv_iload_n hx hb dX2_order_31 rfl (lv_at hl 0 rfl) ?_
      refine ldB2 K w rwB9 (by omega) dX2_order_32 ?_
      refine lv_if_eq (tgt := 51) hx hb dX2_order_33 rfl (fun _ => ?_) (fun h9 => absurd h9z h9)
      refine lv_iinc (k := 0) (v := nI (_ + 1)) (lv' := [(3, .int _), (2, .int _), (1, .int _), (0, .ref _)]) hx hb dX2_order_51 hl rfl (inc1 _) (by decide) rfl (fun ls hl => ?_)
      refine lv_goto (tgt := 19) hx hb dX2_order_54 rfl ?_
      exact ih (i + 1) (o) _ _ _ (by omega) (by rw [← hsc]; exact scF_lt (by omega) ho) hm w (lv_sub hl [0, 1, 2, 3] rfl)
    · refine lv_aload_n hx hb dX2_order_27 rfl (lv_at hl 3 rfl) ?_
      refine gf_X2_left K w dX2_order_28 ?_
      refine lv_iload_n hx hb dX2_order_31 rfl (lv_at hl 0 rfl) ?_
      refine ldB2 K w rwB9 (by omega) dX2_order_32 ?_
      refine lv_if_eq (tgt := 51) hx hb dX2_order_33 rfl (fun h9 => absurd h9 h9z) (fun _ => ?_)
      rcases o with _ | y
      · have hsc : scF M i none = some i := by rw [scF, if_neg h9z]
        rw [mnF, hsc] at hm
        refine lv_iload_n hx hb dX2_order_36 rfl (lv_at hl 1 rfl) ?_
        refine lv_if_lt (tgt := 49) hx hb dX2_order_37 rfl (fun _ => ?_) (fun h9 => absurd (by decide : oI none < 0) h9)
        refine lv_iload_n hx hb dX2_order_49 rfl (lv_at hl 0 rfl) ?_
        refine lv_istore_n (lv' := [(2, .int _), (3, .int _), (1, .int _), (0, .ref _)]) hx hb dX2_order_50 rfl hl (by decide) rfl (fun ls hl => ?_)
        refine lv_iinc (k := 1) (v := nI (_ + 1)) (lv' := [(3, .int _), (2, .int _), (1, .int _), (0, .ref _)]) hx hb dX2_order_51 hl rfl (inc1 _) (by decide) rfl (fun ls hl => ?_)
        refine lv_goto (tgt := 19) hx hb dX2_order_54 rfl ?_
        exact ih (i + 1) (some i) _ _ _ (by omega) (by rw [← hsc]; exact scF_lt (by omega) ho) hm w (lv_sub hl [0, 1, 2, 3] rfl)
      · refine lv_iload_n hx hb dX2_order_36 rfl (lv_at hl 1 rfl) ?_
        refine lv_if_lt (tgt := 49) hx hb dX2_order_37 rfl (fun h9 => absurd h9 (show ¬ nI y < 0 from nI_pos (by have := ho y rfl; omega))) (fun _ => ?_)
        by_cases hbf : bfF M i y = true
        · have hy := ho y rfl
          have hsc : scF M i (some y) = some i := by rw [scF, if_neg h9z]; exact if_pos hbf
          rw [mnF, hsc] at hm
          refine lv_aload_n hx hb dX2_order_40 rfl (lv_at hl 3 rfl) ?_
          refine lv_iload_n hx hb dX2_order_41 rfl (lv_at hl 0 rfl) ?_
          refine lv_iload_n hx hb dX2_order_42 rfl (lv_at hl 1 rfl) ?_
          refine topE (y := nI y) rfl ?_
          refine calli2 K w (c_X2_before K.2.2 (by omega) (by have := ho y rfl; omega)) (lk_X2_75 K ⟨Nat.le_trans (Nat.le_of_ble_eq_true rfl) hR.1, Nat.le_trans (Nat.le_of_ble_eq_true rfl) hR.2⟩) (recvM K w) rfl hl.1 rfl (Nat.le_of_ble_eq_true rfl) dX2_order_43 hf (fun H locs w => ?_)
          refine lv_if_eq (tgt := 51) hx hb dX2_order_46 rfl (fun h9 => absurd h9 (by rw [hbf]; decide)) (fun _ => ?_)
          refine lv_iload_n hx hb dX2_order_49 rfl (lv_at hl 0 rfl) ?_
          refine lv_istore_n (lv' := [(2, .int _), (3, .int _), (1, .int _), (0, .ref _)]) hx hb dX2_order_50 rfl hl (by decide) rfl (fun ls hl => ?_)
          refine lv_iinc (k := 1) (v := nI (_ + 1)) (lv' := [(3, .int _), (2, .int _), (1, .int _), (0, .ref _)]) hx hb dX2_order_51 hl rfl (inc1 _) (by decide) rfl (fun ls hl => ?_)
          refine lv_goto (tgt := 19) hx hb dX2_order_54 rfl ?_
          exact ih (i + 1) (some i) _ _ _ (by omega) (by rw [← hsc]; exact scF_lt (by omega) ho) hm w (lv_sub hl [0, 1, 2, 3] rfl)
        · have hy := ho y rfl
          have hsc : scF M i (some y) = some y := by rw [scF, if_neg h9z]; exact if_neg hbf
          rw [mnF, hsc] at hm
          refine lv_aload_n hx hb dX2_order_40 rfl (lv_at hl 3 rfl) ?_
          refine lv_iload_n hx hb dX2_order_41 rfl (lv_at hl 0 rfl) ?_
          refine lv_iload_n hx hb dX2_order_42 rfl (lv_at hl 1 rfl) ?_
          refine topE (y := nI y) rfl ?_
          refine calli2 K w (c_X2_before K.2.2 (by omega) (by have := ho y rfl; omega)) (lk_X2_75 K ⟨Nat.le_trans (Nat.le_of_ble_eq_true rfl) hR.1, Nat.le_trans (Nat.le_of_ble_eq_true rfl) hR.2⟩) (recvM K w) rfl hl.1 rfl (Nat.le_of_ble_eq_true rfl) dX2_order_43 hf (fun H locs w => ?_)
          refine lv_if_eq (tgt := 51) hx hb dX2_order_46 rfl (fun _ => ?_) (fun h9 => absurd (by rw [Bool.not_eq_true _ |>.mp hbf]; rfl) h9)
          refine lv_iinc (k := 0) (v := nI (_ + 1)) (lv' := [(3, .int _), (2, .int _), (1, .int _), (0, .ref _)]) hx hb dX2_order_51 hl rfl (inc1 _) (by decide) rfl (fun ls hl => ?_)
          refine lv_goto (tgt := 19) hx hb dX2_order_54 rfl ?_
          exact ih (i + 1) (some y) _ _ _ (by omega) (by rw [← hsc]; exact scF_lt (by omega) ho) hm w (lv_sub hl [0, 1, 2, 3] rfl)

set_option maxHeartbeats 4000000 in
set_option maxRecDepth 100000 in
theorem lp_ord (K : cY E p m c cX2_order 4 s args w0 RX2) (hR : 1 ≤ R.frames ∧ 22 ≤ R.locals) (hf : cells ≤ R.cells ∧ slots ≤ R.slots) (hz : z ≤ 2000) (ret : ∀ {H : Heap} {locs : List Loc} {pc : Nat} {ls : Array Slot}, vst E s.heap UF.1 z t UF.2 H locs → decode cX2_order pc = .ok (.return_, 1) → W p l e R s m args below meth c H locs cells slots Q (F0 m pc ls [])) : ∀ (d i : Nat) (M : Mt) (H : Heap) (locs : List Loc) (ls : Array Slot), i + d = z → orF z d (M, i) = UF → vst E s.heap M z t i H locs → lv_has ls 4 [(1, .int (nI i)), (0, .ref (ad E 0))] → W p l e R s m args below meth c H locs cells slots Q (F0 m 7 ls []) := by
  have hx := K.1.1
  have hb := K.1.2.1
  intro d
  induction d with
  | zero =>
    intro i M H locs ls hi hm w hl
    refine lv_iload_n hx hb dX2_order_7 rfl (lv_at hl 0 rfl) ?_
    refine lv_aload_n hx hb dX2_order_8 rfl (lv_at hl 1 rfl) ?_
    refine gf_X2_size K w dX2_order_9 ?_
    refine lv_icmp_ge (tgt := 95) hx hb dX2_order_12 rfl (fun _ => ?_) (fun h9 => absurd (nI_le (by omega) (by omega)) h9)
    exact ret (by rw [← hm]; exact w) dX2_order_95
  | succ d ih =>
    intro i M H locs ls hi hm w hl
    refine lv_iload_n hx hb dX2_order_7 rfl (lv_at hl 0 rfl) ?_
    refine lv_aload_n hx hb dX2_order_8 rfl (lv_at hl 1 rfl) ?_
    refine gf_X2_size K w dX2_order_9 ?_
    refine lv_icmp_ge (tgt := 95) hx hb dX2_order_12 rfl (fun h9 => absurd h9 (nI_ge (by omega) (by omega))) (fun _ => ?_)
    refine lv_iconst (v := oI none) hx hb dX2_order_15 (by decide) ?_
    refine lv_istore_n (lv' := [(2, .int _), (1, .int _), (0, .ref _)]) hx hb dX2_order_16 rfl hl (by decide) rfl (fun ls hl => ?_)
    refine lv_iconst (v := nI 0) hx hb dX2_order_17 (by decide) ?_
    refine lv_istore_n (lv' := [(3, .int _), (2, .int _), (1, .int _), (0, .ref _)]) hx hb dX2_order_18 rfl hl (by decide) rfl (fun ls hl => ?_)
    refine lp_scan (of := mnF M z 0 none) K ⟨Nat.le_trans (Nat.le_of_ble_eq_true rfl) hR.1, Nat.le_trans (Nat.le_of_ble_eq_true rfl) hR.2⟩ hf hz (fun H locs ls w hl => ?_) z 0 none _ _ _ (by omega) oB_none rfl w (lv_sub hl [0, 1, 2, 3] rfl)
    have hlt : oB (mnF M z 0 none) z := mnF_lt (by omega) oB_none
    rw [orF] at hm
    rcases hmn : mnF M z 0 none with _ | y
    · rw [hmn] at hm hl
      refine lv_iload_n hx hb dX2_order_57 rfl (lv_at hl 0 rfl) ?_
      refine lv_if_ge (tgt := 62) hx hb dX2_order_58 rfl (fun h9 => absurd h9 (by decide : ¬ (0 : Int32) ≤ oI none)) (fun _ => ?_)
      exact ret (by rw [← hm]; exact w) dX2_order_61
    · rw [hmn] at hm hl
      have hy := hlt y hmn
      refine lv_iload_n hx hb dX2_order_57 rfl (lv_at hl 0 rfl) ?_
      refine lv_if_ge (tgt := 62) hx hb dX2_order_58 rfl (fun _ => ?_) (fun h9 => absurd (show (0 : Int32) ≤ nI y from nI_pos' (by omega)) h9)
      refine lv_aload_n hx hb dX2_order_62 rfl (lv_at hl 2 rfl) ?_
      refine gf_X2_left K w dX2_order_63 ?_
      refine lv_iload_n hx hb dX2_order_66 rfl (lv_at hl 0 rfl) ?_
      refine topE (y := nI y) rfl ?_
      refine lv_iconst (v := nI 0) hx hb dX2_order_67 (by decide) ?_
      refine stB2 K w rwB9 (by omega) (by decide) dX2_order_68 (fun H locs w => ?_)
      refine lv_aload_n hx hb dX2_order_69 rfl (lv_at hl 2 rfl) ?_
      refine gf_X2_row K w dX2_order_70 ?_
      refine lv_aload_n hx hb dX2_order_73 rfl (lv_at hl 2 rfl) ?_
      refine gf_X2_found K w dX2_order_74 ?_
      refine lv_iload_n hx hb dX2_order_77 rfl (lv_at hl 0 rfl) ?_
      refine topE (y := nI y) rfl ?_
      refine stI2 K w rwI3 (by omega) dX2_order_78 (fun H locs w => ?_)
      refine lv_aload_n hx hb dX2_order_79 rfl (lv_at hl 2 rfl) ?_
      refine lv_dup hx hb dX2_order_80 rfl ?_
      refine gf_X2_found K w dX2_order_81 ?_
      refine lv_iconst (v := nI 1) hx hb dX2_order_84 (by decide) ?_
      refine lv_iadd hx hb dX2_order_85 ?_
      refine pf_X2_found K w (nI_add i 1) dX2_order_86 (fun H locs w => ?_)
      refine lv_iinc (k := 1) (v := nI (_ + 1)) (lv' := [(1, .int _), (2, .int _), (0, .ref _)]) hx hb dX2_order_89 hl rfl (inc1 _) (by decide) rfl (fun ls hl => ?_)
      refine lv_goto (tgt := 7) hx hb dX2_order_92 rfl ?_
      exact ih (i + 1) _ _ _ _ (by omega) hm w (lv_sub hl [0, 2] rfl)

end YE
set_option maxHeartbeats 4000000 in
set_option maxRecDepth 100000 in
theorem c_X2_order {l : Launch} {E : En} {M : Mt} {z t f : Nat} (dn : dM E) (hz : z ≤ 2000) : MV2 l yX2_order (.code yX2_order cX2_order 4 none) 1 22 E [.ref (ad E 0)] M z t f (orF z z (M, 0)).1 z t (orF z z (M, 0)).2 := by
  refine MV2.of dn (own := RX2) (by decide) rfl (Nat.le_of_ble_eq_true rfl) (fun p e s m args below meth c ls Q K w hl ret => ?_)
  have hx := K.1.1
  have hb := K.1.2.1
  have hR : 1 ≤ (rmA 1 22).frames ∧ 22 ≤ (rmA 1 22).locals := ⟨Nat.le_refl _, Nat.le_refl _⟩
  have hf : 0 ≤ (rmA 1 22).cells ∧ 0 ≤ (rmA 1 22).slots := ⟨Nat.le_refl _, Nat.le_refl _⟩
  have hl : lv_has ls 4 [(0, .ref (ad E 0))] := hl
  refine lv_aload_n hx hb dX2_order_0 rfl (lv_at hl 0 rfl) ?_
  refine lv_iconst (v := nI 0) hx hb dX2_order_1 (by decide) ?_
  refine pf_X2_found K w rfl dX2_order_2 (fun H locs w => ?_)
  refine lv_iconst (v := nI 0) hx hb dX2_order_5 (by decide) ?_
  refine lv_istore_n (lv' := [(1, .int _), (0, .ref _)]) hx hb dX2_order_6 rfl hl (by decide) rfl (fun ls hl => ?_)
  exact lp_ord K hR hf hz ret z 0 M _ _ _ (by omega) rfl w hl

section YF
variable {p : Program} {l : Launch} {e : Env} {R : Room} {s : State} {m : MethodId} {args : Array Value} {below : List Frame} {meth : Method} {c : Code} {H : Heap} {locs : List Loc} {cells slots : Nat} {Q : State → Prop} {ls : Array Slot} {w0 : Cond} {E : En} {M MF : Mt} {z t f : Nat}
set_option maxHeartbeats 4000000 in
set_option maxRecDepth 100000 in
theorem lp_free (K : cY E p m c cX2_free 3 s args w0 RX2) (hR : 1 ≤ R.frames ∧ 23 ≤ R.locals) (hf : cells ≤ R.cells ∧ slots ≤ R.slots) {q : Nat} {r : Bool} (hq : q < 2147483648) (ok : okN M z) (ret : ∀ {H : Heap} {locs : List Loc} {pc : Nat} {ls : Array Slot} {v : Int32}, vst E s.heap M z t f H locs → v = bI r → decode cX2_free pc = .ok (.ireturn, 1) → W p l e R s m args below meth c H locs cells slots Q (F0 m pc ls [.int v])) : ∀ (d i : Nat) (H : Heap) (locs : List Loc) (ls : Array Slot), i + d = z → fxF M q d i = r → vst E s.heap M z t f H locs → lv_has ls 3 [(2, .int (nI i)), (0, .ref (ad E 0)), (1, .int (nI q))] → W p l e R s m args below meth c H locs cells slots Q (F0 m 2 ls []) := by
  have hx := K.1.1
  have hb := K.1.2.1
  intro d
  induction d with
  | zero =>
    intro i H locs ls hi hm w hl
    have hn := ok.1
    refine lv_iload_n hx hb dX2_free_2 rfl (lv_at hl 0 rfl) ?_
    refine lv_aload_n hx hb dX2_free_3 rfl (lv_at hl 1 rfl) ?_
    refine gf_X2_size K w dX2_free_4 ?_
    refine lv_icmp_ge (tgt := 41) hx hb dX2_free_7 rfl (fun _ => ?_) (fun h9 => absurd (nI_le (by omega) (by omega)) h9)
    refine lv_iconst (v := nI 1) hx hb dX2_free_41 (by decide) ?_
    exact ret w (by rw [← hm]; rfl) dX2_free_42
  | succ d ih =>
    intro i H locs ls hi hm w hl
    have hn := ok.1
    refine lv_iload_n hx hb dX2_free_2 rfl (lv_at hl 0 rfl) ?_
    refine lv_aload_n hx hb dX2_free_3 rfl (lv_at hl 1 rfl) ?_
    refine gf_X2_size K w dX2_free_4 ?_
    refine lv_icmp_ge (tgt := 41) hx hb dX2_free_7 rfl (fun h9 => absurd h9 (nI_ge (by omega) (by omega))) (fun _ => ?_)
    by_cases h9z : M 9 i = 0
    · rw [fxF, if_neg (fun h => h.1 h9z)] at hm
      refine lv_aload_n hx hb dX2_free_10 rfl (lv_at hl 1 rfl) ?_
      refine gf_X2_left K w dX2_free_11 ?_
      refine lv_iload_n hx hb dX2_free_14 rfl (lv_at hl 0 rfl) ?_
      refine ldB2 K w rwB9 (by omega) dX2_free_15 ?_
      refine lv_if_eq (tgt := 35) hx hb dX2_free_16 rfl (fun _ => ?_) (fun h9 => absurd h9z h9)
      refine lv_iinc (k := 0) (v := nI (_ + 1)) (lv' := [(2, .int _), (0, .ref _), (1, .int _)]) hx hb dX2_free_35 hl rfl (inc1 _) (by decide) rfl (fun ls hl => ?_)
      refine lv_goto (tgt := 2) hx hb dX2_free_38 rfl ?_
      exact ih (i + 1) _ _ _ (by omega) hm w (lv_sub hl [0, 1, 2] rfl)
    · refine lv_aload_n hx hb dX2_free_10 rfl (lv_at hl 1 rfl) ?_
      refine gf_X2_left K w dX2_free_11 ?_
      refine lv_iload_n hx hb dX2_free_14 rfl (lv_at hl 0 rfl) ?_
      refine ldB2 K w rwB9 (by omega) dX2_free_15 ?_
      refine lv_if_eq (tgt := 35) hx hb dX2_free_16 rfl (fun h9 => absurd h9 h9z) (fun _ => ?_)
      by_cases hiq : i = q
      · rw [fxF, if_neg (fun h => h.2.1 hiq)] at hm
        refine lv_iload_n hx hb dX2_free_19 rfl (lv_at hl 0 rfl) ?_
        refine lv_iload_n hx hb dX2_free_20 rfl (lv_at hl 2 rfl) ?_
        refine lv_icmp_eq (tgt := 35) hx hb dX2_free_21 rfl (fun _ => ?_) (fun h9 => absurd (by rw [hiq]) h9)
        refine lv_iinc (k := 0) (v := nI (_ + 1)) (lv' := [(2, .int _), (0, .ref _), (1, .int _)]) hx hb dX2_free_35 hl rfl (inc1 _) (by decide) rfl (fun ls hl => ?_)
        refine lv_goto (tgt := 2) hx hb dX2_free_38 rfl ?_
        exact ih (i + 1) _ _ _ (by omega) hm w (lv_sub hl [0, 1, 2] rfl)
      · refine lv_iload_n hx hb dX2_free_19 rfl (lv_at hl 0 rfl) ?_
        refine lv_iload_n hx hb dX2_free_20 rfl (lv_at hl 2 rfl) ?_
        refine lv_icmp_eq (tgt := 35) hx hb dX2_free_21 rfl (fun h9 => absurd h9 (fun h => hiq ((nI_eq (by omega) (by omega)).mp h))) (fun _ => ?_)
        by_cases hip : ipF M q i (pcn M i) 0 = true
        · rw [fxF, if_pos ⟨h9z, hiq, hip⟩] at hm
          refine lv_aload_n hx hb dX2_free_24 rfl (lv_at hl 1 rfl) ?_
          refine lv_iload_n hx hb dX2_free_25 rfl (lv_at hl 2 rfl) ?_
          refine lv_iload_n hx hb dX2_free_26 rfl (lv_at hl 0 rfl) ?_
          refine calli2 K w (c_X2_isParent K.2.2 hq (by omega) ok) (lk_X2_53 K ⟨Nat.le_trans (Nat.le_of_ble_eq_true rfl) hR.1, Nat.le_trans (Nat.le_of_ble_eq_true rfl) hR.2⟩) (recvM K w) rfl hl.1 rfl (Nat.le_of_ble_eq_true rfl) dX2_free_27 hf (fun H locs w => ?_)
          refine lv_if_eq (tgt := 35) hx hb dX2_free_30 rfl (fun h9 => absurd h9 (by rw [hip]; decide)) (fun _ => ?_)
          refine lv_iconst (v := nI 0) hx hb dX2_free_33 (by decide) ?_
          exact ret w (by rw [← hm]; rfl) dX2_free_34
        · rw [fxF, if_neg (fun h => hip h.2.2)] at hm
          refine lv_aload_n hx hb dX2_free_24 rfl (lv_at hl 1 rfl) ?_
          refine lv_iload_n hx hb dX2_free_25 rfl (lv_at hl 2 rfl) ?_
          refine lv_iload_n hx hb dX2_free_26 rfl (lv_at hl 0 rfl) ?_
          refine calli2 K w (c_X2_isParent K.2.2 hq (by omega) ok) (lk_X2_53 K ⟨Nat.le_trans (Nat.le_of_ble_eq_true rfl) hR.1, Nat.le_trans (Nat.le_of_ble_eq_true rfl) hR.2⟩) (recvM K w) rfl hl.1 rfl (Nat.le_of_ble_eq_true rfl) dX2_free_27 hf (fun H locs w => ?_)
          refine lv_if_eq (tgt := 35) hx hb dX2_free_30 rfl (fun _ => ?_) (fun h9 => absurd (by rw [Bool.not_eq_true _ |>.mp hip]; rfl) h9)
          refine lv_iinc (k := 0) (v := nI (_ + 1)) (lv' := [(2, .int _), (0, .ref _), (1, .int _)]) hx hb dX2_free_35 hl rfl (inc1 _) (by decide) rfl (fun ls hl => ?_)
          refine lv_goto (tgt := 2) hx hb dX2_free_38 rfl ?_
          exact ih (i + 1) _ _ _ (by omega) hm w (lv_sub hl [0, 1, 2] rfl)

end YF
set_option maxHeartbeats 4000000 in
set_option maxRecDepth 100000 in
theorem c_X2_free {l : Launch} {E : En} {M : Mt} {z t f : Nat} (dn : dM E) {q : Nat} (hq : q < 2147483648) (ok : okN M z) : MI2 l yX2_free (.code yX2_free cX2_free 3 (some .boolean)) 1 23 E [.ref (ad E 0), .int (nI q)] M z t f (bI (fxF M q z 0)) M z t f := by
  refine MI2.ofZ dn (own := RX2) (by decide) rfl (Nat.le_of_ble_eq_true rfl) (bI_z _) (fun p e s m args below meth c ls Q K w hl ret => ?_)
  have hx := K.1.1
  have hb := K.1.2.1
  have hR : 1 ≤ (rmA 1 23).frames ∧ 23 ≤ (rmA 1 23).locals := ⟨Nat.le_refl _, Nat.le_refl _⟩
  have hf : 0 ≤ (rmA 1 23).cells ∧ 0 ≤ (rmA 1 23).slots := ⟨Nat.le_refl _, Nat.le_refl _⟩
  have hl : lv_has ls 3 [(0, .ref (ad E 0)), (1, .int (nI q))] := hl
  refine lv_iconst (v := nI 0) hx hb dX2_free_0 (by decide) ?_
  refine lv_istore_n (lv' := [(2, .int _), (0, .ref _), (1, .int _)]) hx hb dX2_free_1 rfl hl (by decide) rfl (fun ls hl => ?_)
  exact lp_free K hR hf hq ok ret z 0 _ _ _ (by omega) rfl w hl
end
section
theorem cnF_add {b : Nat → Bool} : ∀ {d i a : Nat}, cnF b d i a = a + cnF b d i 0 := by
  intro d
  induction d with
  | zero => intro i a; show a = a + 0; omega
  | succ d ih =>
    intro i a
    rw [cnF, cnF]
    by_cases h : b i = true
    · rw [if_pos h, if_pos h, ih, ih (a := 0 + 1)]
      omega
    · rw [if_neg h, if_neg h, ih]
theorem cnF_s {b : Nat → Bool} {d i : Nat} : cnF b (d + 1) i 0 = (if b i = true then 1 else 0) + cnF b d (i + 1) 0 := by
  rw [cnF]
  by_cases h : b i = true
  · rw [if_pos h, cnF_add]
  · rw [if_neg h, Nat.zero_add]
theorem cnF_congr {b b' : Nat → Bool} : ∀ {d i : Nat}, (∀ j, i ≤ j → j < i + d → b j = b' j) → cnF b d i 0 = cnF b' d i 0 := by
  intro d
  induction d with
  | zero => intro i _; rfl
  | succ d ih =>
    intro i h
    rw [cnF_s, cnF_s, h i (Nat.le_refl _) (by omega), ih (fun j h1 h2 => h j (by omega) (by omega))]
theorem cnF_le {b : Nat → Bool} : ∀ {d i : Nat}, cnF b d i 0 ≤ d := by
  intro d
  induction d with
  | zero => intro i; exact Nat.le_refl _
  | succ d ih =>
    intro i
    rw [cnF_s]
    have := ih (i := i + 1)
    split <;> omega
theorem cnF_del {b b' : Nat → Bool} {y : Nat} (h1 : b y = true) (h2 : b' y = false) (h : ∀ j, j ≠ y → b' j = b j) : ∀ {d i : Nat}, i ≤ y → y < i + d → cnF b' d i 0 + 1 = cnF b d i 0 := by
  intro d
  induction d with
  | zero => intro i a1 a2; omega
  | succ d ih =>
    intro i a1 a2
    rw [cnF_s, cnF_s]
    by_cases e : i = y
    · subst e
      rw [h1, h2, cnF_congr (b := b') (b' := b) (fun j g1 g2 => h j (by omega))]
      simp
      omega
    · rw [h i e]
      have := ih (i := i + 1) (by omega) (by omega)
      omega
theorem cnF_zero {b : Nat → Bool} : ∀ {d i : Nat}, cnF b d i 0 = 0 → ∀ j, i ≤ j → j < i + d → b j = false := by
  intro d
  induction d with
  | zero => intro i _ j h1 h2; omega
  | succ d ih =>
    intro i h j h1 h2
    rw [cnF_s] at h
    by_cases e : i = j
    · subst e
      cases hb : b i with
      | false => rfl
      | true => rw [hb, if_pos rfl] at h; omega
    · exact ih (i := i + 1) (by split at h <;> omega) j (by omega) (by omega)
/-- how many are left -/
def cL (M : Mt) (z : Nat) : Nat := cnF (fun j => decide (¬ M 9 j = 0)) z 0 0
theorem cL_le {M : Mt} {z : Nat} : cL M z ≤ z := cnF_le
theorem cL_zero {M : Mt} {z : Nat} (h : cL M z = 0) : ∀ j, j < z → M 9 j = 0 := fun j hj => ne_f (by rw [cnF_zero h j (Nat.zero_le _) (by omega)]; decide)
theorem cL_tk {M : Mt} {z y fo : Nat} (hy : y < z) (h : ¬ M 9 y = 0) : cL (tkO (M, fo) y).1 z + 1 = cL M z := by
  refine cnF_del (y := y) (decide_eq_true h) ?_ (fun j hj => ?_) (Nat.zero_le _) (by omega)
  · show decide (¬ upd (M 9) y (nI 0) y = 0) = false
    rw [pk_us]
    rfl
  · show decide (¬ upd (M 9) y (nI 0) j = 0) = _
    rw [pk_un hj]
theorem lsF_left {M : Mt} {z i y : Nat} {o : Option Nat} (h : lsF M z i o = some y) : o = some y ∨ ¬ M 9 y = 0 := by
  unfold lsF at h
  split at h
  · exact Or.inl h
  · rename_i h9
    cases o with
    | none =>
      dsimp only at h
      split at h
      · cases h; exact Or.inr h9
      · cases h
    | some x =>
      dsimp only at h
      split at h
      · split at h
        · cases h; exact Or.inr h9
        · exact Or.inl h
      · exact Or.inl h
theorem lmF_left {M : Mt} {z : Nat} : ∀ {d i y : Nat} {o : Option Nat}, lmF M z d i o = some y → o = some y ∨ ¬ M 9 y = 0 := by
  intro d
  induction d with
  | zero => intro i y o h; exact Or.inl h
  | succ d ih =>
    intro i y o h
    rcases ih h with h1 | h1
    · exact lsF_left h1
    · exact Or.inr h1
theorem lmF_none {M : Mt} {z : Nat} : ∀ {d i : Nat}, (∀ j, i ≤ j → j < i + d → M 9 j = 0) → lmF M z d i none = none := by
  intro d
  induction d with
  | zero => intro i _; rfl
  | succ d ih =>
    intro i h
    have e : lsF M z i none = none := by unfold lsF; rw [if_pos (h i (Nat.le_refl _) (by omega))]
    rw [lmF, e]
    exact ih (fun j h1 h2 => h j (by omega) (by omega))
theorem okN.tk {M : Mt} {n fo y : Nat} (h : okN M n) : okN (tkO (M, fo) y).1 n := h

section YG
variable {p : Program} {l : Launch} {e : Env} {R : Room} {s : State} {m : MethodId} {args : Array Value} {below : List Frame} {meth : Method} {c : Code} {H : Heap} {locs : List Loc} {cells slots : Nat} {Q : State → Prop} {ls : Array Slot} {w0 : Cond} {E : En} {M MF : Mt} {UF : Mt × Nat} {z t f : Nat}
set_option maxHeartbeats 4000000 in
set_option maxRecDepth 100000 in
theorem lp_lscan (K : cY E p m c cX2_log 5 s args w0 RX2) (hR : 2 ≤ R.frames ∧ 45 ≤ R.locals) (hf : cells ≤ R.cells ∧ slots ≤ R.slots) {x1 : Int32} {of : Option Nat} (ok : okN M z) (kk : ∀ (H : Heap) (locs : List Loc) (ls : Array Slot), vst E s.heap M z t f H locs → lv_has ls 5 [(3, .int (oI of)), (2, .int x1), (0, .ref (ad E 0))] → W p l e R s m args below meth c H locs cells slots Q (F0 m 89 ls [])) : ∀ (d i : Nat) (o : Option Nat) (H : Heap) (locs : List Loc) (ls : Array Slot), i + d = z → oB o z → lmF M z d i o = of → vst E s.heap M z t f H locs → lv_has ls 5 [(4, .int (nI i)), (3, .int (oI o)), (2, .int x1), (0, .ref (ad E 0))] → W p l e R s m args below meth c H locs cells slots Q (F0 m 38 ls []) := by
  have hx := K.1.1
  have hb := K.1.2.1
  intro d
  induction d with
  | zero =>
    intro i o H locs ls hi ho hm w hl
    have hz := ok.1
    refine lv_iload hx hb dX2_log_38 (lv_at hl 0 rfl) ?_
    refine lv_aload_n hx hb dX2_log_40 rfl (lv_at hl 3 rfl) ?_
    refine gf_X2_size K w dX2_log_41 ?_
    refine lv_icmp_ge (tgt := 89) hx hb dX2_log_44 rfl (fun _ => ?_) (fun h9 => absurd (nI_le (by omega) (by omega)) h9)
    exact kk _ _ _ w (by rw [← hm]; exact lv_sub hl [1, 2, 3] rfl)
  | succ d ih =>
    intro i o H locs ls hi ho hm w hl
    have hz := ok.1
    refine lv_iload hx hb dX2_log_38 (lv_at hl 0 rfl) ?_
    refine lv_aload_n hx hb dX2_log_40 rfl (lv_at hl 3 rfl) ?_
    refine gf_X2_size K w dX2_log_41 ?_
    refine lv_icmp_ge (tgt := 89) hx hb dX2_log_44 rfl (fun h9 => absurd h9 (nI_ge (by omega) (by omega))) (fun _ => ?_)
    by_cases h9z : M 9 i = 0
    · have hsc : lsF M z i o = o := by unfold lsF; rw [if_pos h9z]
      rw [lmF, hsc] at hm
      refine lv_aload_n hx hb dX2_log_47 rfl (lv_at hl 3 rfl) ?_
      refine gf_X2_left K w dX2_log_48 ?_
      refine lv_iload hx hb dX2_log_51 (lv_at hl 0 rfl) ?_
      refine ldB2 K w rwB9 (by omega) dX2_log_53 ?_
      refine lv_if_eq (tgt := 83) hx hb dX2_log_54 rfl (fun _ => ?_) (fun h9 => absurd h9z h9)
      refine lv_iinc (k := 0) (v := nI (_ + 1)) (lv' := [(4, .int _), (3, .int _), (2, .int _), (0, .ref _)]) hx hb dX2_log_83 hl rfl (inc1 _) (by decide) rfl (fun ls hl => ?_)
      refine lv_goto (tgt := 38) hx hb dX2_log_86 rfl ?_
      exact ih (i + 1) (o) _ _ _ (by omega) (by rw [← hsc]; exact lsF_lt (by omega) ho) hm w (lv_sub hl [0, 1, 2, 3] rfl)
    · refine lv_aload_n hx hb dX2_log_47 rfl (lv_at hl 3 rfl) ?_
      refine gf_X2_left K w dX2_log_48 ?_
      refine lv_iload hx hb dX2_log_51 (lv_at hl 0 rfl) ?_
      refine ldB2 K w rwB9 (by omega) dX2_log_53 ?_
      refine lv_if_eq (tgt := 83) hx hb dX2_log_54 rfl (fun h9 => absurd h9 h9z) (fun _ => ?_)
      rcases o with _ | y
      · refine lv_iload_n hx hb dX2_log_57 rfl (lv_at hl 1 rfl) ?_
        refine lv_if_lt (tgt := 71) hx hb dX2_log_58 rfl (fun _ => ?_) (fun h9 => absurd (by decide : oI none < 0) h9)
        by_cases hfx : fxF M i z 0 = true
        · have hsc : lsF M z i none = some i := by rw [lsF, if_neg h9z]; exact if_pos hfx
          rw [lmF, hsc] at hm
          refine lv_aload_n hx hb dX2_log_71 rfl (lv_at hl 3 rfl) ?_
          refine lv_iload hx hb dX2_log_72 (lv_at hl 0 rfl) ?_
          refine calli2 K w (c_X2_free K.2.2 (by omega) ok) (lk_X2_84 K ⟨Nat.le_trans (Nat.le_of_ble_eq_true rfl) hR.1, Nat.le_trans (Nat.le_of_ble_eq_true rfl) hR.2⟩) (recvM K w) rfl hl.1 rfl (Nat.le_of_ble_eq_true rfl) dX2_log_74 hf (fun H locs w => ?_)
          refine lv_if_eq (tgt := 83) hx hb dX2_log_77 rfl (fun h9 => absurd h9 (by rw [hfx]; decide)) (fun _ => ?_)
          refine lv_iload hx hb dX2_log_80 (lv_at hl 0 rfl) ?_
          refine lv_istore_n (lv' := [(3, .int _), (4, .int _), (2, .int _), (0, .ref _)]) hx hb dX2_log_82 rfl hl (by decide) rfl (fun ls hl => ?_)
          refine lv_iinc (k := 1) (v := nI (_ + 1)) (lv' := [(4, .int _), (3, .int _), (2, .int _), (0, .ref _)]) hx hb dX2_log_83 hl rfl (inc1 _) (by decide) rfl (fun ls hl => ?_)
          refine lv_goto (tgt := 38) hx hb dX2_log_86 rfl ?_
          exact ih (i + 1) (some i) _ _ _ (by omega) (by rw [← hsc]; exact lsF_lt (by omega) ho) hm w (lv_sub hl [0, 1, 2, 3] rfl)
        · have hsc : lsF M z i none = none := by rw [lsF, if_neg h9z]; exact if_neg hfx
          rw [lmF, hsc] at hm
          refine lv_aload_n hx hb dX2_log_71 rfl (lv_at hl 3 rfl) ?_
          refine lv_iload hx hb dX2_log_72 (lv_at hl 0 rfl) ?_
          refine calli2 K w (c_X2_free K.2.2 (by omega) ok) (lk_X2_84 K ⟨Nat.le_trans (Nat.le_of_ble_eq_true rfl) hR.1, Nat.le_trans (Nat.le_of_ble_eq_true rfl) hR.2⟩) (recvM K w) rfl hl.1 rfl (Nat.le_of_ble_eq_true rfl) dX2_log_74 hf (fun H locs w => ?_)
          refine lv_if_eq (tgt := 83) hx hb dX2_log_77 rfl (fun _ => ?_) (fun h9 => absurd (by rw [Bool.not_eq_true _ |>.mp hfx]; rfl) h9)
          refine lv_iinc (k := 0) (v := nI (_ + 1)) (lv' := [(4, .int _), (3, .int _), (2, .int _), (0, .ref _)]) hx hb dX2_log_83 hl rfl (inc1 _) (by decide) rfl (fun ls hl => ?_)
          refine lv_goto (tgt := 38) hx hb dX2_log_86 rfl ?_
          exact ih (i + 1) (none) _ _ _ (by omega) (by rw [← hsc]; exact lsF_lt (by omega) ho) hm w (lv_sub hl [0, 1, 2, 3] rfl)
      · have hy := ho y rfl
        refine lv_iload_n hx hb dX2_log_57 rfl (lv_at hl 1 rfl) ?_
        refine lv_if_lt (tgt := 71) hx hb dX2_log_58 rfl (fun h9 => absurd h9 (show ¬ nI y < 0 from nI_pos (by omega))) (fun _ => ?_)
        by_cases hbf : bfF M i y = true
        · refine lv_aload_n hx hb dX2_log_61 rfl (lv_at hl 3 rfl) ?_
          refine lv_iload hx hb dX2_log_62 (lv_at hl 0 rfl) ?_
          refine lv_iload_n hx hb dX2_log_64 rfl (lv_at hl 1 rfl) ?_
          refine topE (y := nI y) rfl ?_
          refine calli2 K w (c_X2_before K.2.2 (by omega) (by omega)) (lk_X2_75 K ⟨Nat.le_trans (Nat.le_of_ble_eq_true rfl) hR.1, Nat.le_trans (Nat.le_of_ble_eq_true rfl) hR.2⟩) (recvM K w) rfl hl.1 rfl (Nat.le_of_ble_eq_true rfl) dX2_log_65 hf (fun H locs w => ?_)
          refine lv_if_eq (tgt := 83) hx hb dX2_log_68 rfl (fun h9 => absurd h9 (by rw [hbf]; decide)) (fun _ => ?_)
          by_cases hfx : fxF M i z 0 = true
          · have hsc : lsF M z i (some y) = some i := by rw [lsF, if_neg h9z]; exact (if_pos hbf).trans (if_pos hfx)
            rw [lmF, hsc] at hm
            refine lv_aload_n hx hb dX2_log_71 rfl (lv_at hl 3 rfl) ?_
            refine lv_iload hx hb dX2_log_72 (lv_at hl 0 rfl) ?_
            refine calli2 K w (c_X2_free K.2.2 (by omega) ok) (lk_X2_84 K ⟨Nat.le_trans (Nat.le_of_ble_eq_true rfl) hR.1, Nat.le_trans (Nat.le_of_ble_eq_true rfl) hR.2⟩) (recvM K w) rfl hl.1 rfl (Nat.le_of_ble_eq_true rfl) dX2_log_74 hf (fun H locs w => ?_)
            refine lv_if_eq (tgt := 83) hx hb dX2_log_77 rfl (fun h9 => absurd h9 (by rw [hfx]; decide)) (fun _ => ?_)
            refine lv_iload hx hb dX2_log_80 (lv_at hl 0 rfl) ?_
            refine lv_istore_n (lv' := [(3, .int _), (4, .int _), (2, .int _), (0, .ref _)]) hx hb dX2_log_82 rfl hl (by decide) rfl (fun ls hl => ?_)
            refine lv_iinc (k := 1) (v := nI (_ + 1)) (lv' := [(4, .int _), (3, .int _), (2, .int _), (0, .ref _)]) hx hb dX2_log_83 hl rfl (inc1 _) (by decide) rfl (fun ls hl => ?_)
            refine lv_goto (tgt := 38) hx hb dX2_log_86 rfl ?_
            exact ih (i + 1) (some i) _ _ _ (by omega) (by rw [← hsc]; exact lsF_lt (by omega) ho) hm w (lv_sub hl [0, 1, 2, 3] rfl)
          · have hsc : lsF M z i (some y) = some y := by rw [lsF, if_neg h9z]; exact (if_pos hbf).trans (if_neg hfx)
            rw [lmF, hsc] at hm
            refine lv_aload_n hx hb dX2_log_71 rfl (lv_at hl 3 rfl) ?_
            refine lv_iload hx hb dX2_log_72 (lv_at hl 0 rfl) ?_
            refine calli2 K w (c_X2_free K.2.2 (by omega) ok) (lk_X2_84 K ⟨Nat.le_trans (Nat.le_of_ble_eq_true rfl) hR.1, Nat.le_trans (Nat.le_of_ble_eq_true rfl) hR.2⟩) (recvM K w) rfl hl.1 rfl (Nat.le_of_ble_eq_true rfl) dX2_log_74 hf (fun H locs w => ?_)
            refine lv_if_eq (tgt := 83) hx hb dX2_log_77 rfl (fun _ => ?_) (fun h9 => absurd (by rw [Bool.not_eq_true _ |>.mp hfx]; rfl) h9)
            refine lv_iinc (k := 0) (v := nI (_ + 1)) (lv' := [(4, .int _), (3, .int _), (2, .int _), (0, .ref _)]) hx hb dX2_log_83 hl rfl (inc1 _) (by decide) rfl (fun ls hl => ?_)
            refine lv_goto (tgt := 38) hx hb dX2_log_86 rfl ?_
            exact ih (i + 1) (some y) _ _ _ (by omega) (by rw [← hsc]; exact lsF_lt (by omega) ho) hm w (lv_sub hl [0, 1, 2, 3] rfl)
        · have hsc : lsF M z i (some y) = some y := by rw [lsF, if_neg h9z]; exact if_neg hbf
          rw [lmF, hsc] at hm
          refine lv_aload_n hx hb dX2_log_61 rfl (lv_at hl 3 rfl) ?_
          refine lv_iload hx hb dX2_log_62 (lv_at hl 0 rfl) ?_
          refine lv_iload_n hx hb dX2_log_64 rfl (lv_at hl 1 rfl) ?_
          refine topE (y := nI y) rfl ?_
          refine calli2 K w (c_X2_before K.2.2 (by omega) (by omega)) (lk_X2_75 K ⟨Nat.le_trans (Nat.le_of_ble_eq_true rfl) hR.1, Nat.le_trans (Nat.le_of_ble_eq_true rfl) hR.2⟩) (recvM K w) rfl hl.1 rfl (Nat.le_of_ble_eq_true rfl) dX2_log_65 hf (fun H locs w => ?_)
          refine lv_if_eq (tgt := 83) hx hb dX2_log_68 rfl (fun _ => ?_) (fun h9 => absurd (by rw [Bool.not_eq_true _ |>.mp hbf]; rfl) h9)
          refine lv_iinc (k := 0) (v := nI (_ + 1)) (lv' := [(4, .int _), (3, .int _), (2, .int _), (0, .ref _)]) hx hb dX2_log_83 hl rfl (inc1 _) (by decide) rfl (fun ls hl => ?_)
          refine lv_goto (tgt := 38) hx hb dX2_log_86 rfl ?_
          exact ih (i + 1) (some y) _ _ _ (by omega) (by rw [← hsc]; exact lsF_lt (by omega) ho) hm w (lv_sub hl [0, 1, 2, 3] rfl)

set_option maxHeartbeats 4000000 in
set_option maxRecDepth 100000 in
theorem lp_log (K : cY E p m c cX2_log 5 s args w0 RX2) (hR : 2 ≤ R.frames ∧ 45 ≤ R.locals) (hf : cells ≤ R.cells ∧ slots ≤ R.slots) {x1 : Int32} (kk : ∀ (H : Heap) (locs : List Loc) (ls : Array Slot), vst E s.heap UF.1 z t UF.2 H locs → lv_has ls 5 [(2, .int x1), (0, .ref (ad E 0))] → W p l e R s m args below meth c H locs cells slots Q (F0 m 93 ls [])) : ∀ (d : Nat) (M : Mt) (f : Nat) (H : Heap) (locs : List Loc) (ls : Array Slot), cL M z ≤ d → f + cL M z ≤ z → okN M z → lgF z d (M, f) = UF → vst E s.heap M z t f H locs → lv_has ls 5 [(2, .int x1), (0, .ref (ad E 0))] → W p l e R s m args below meth c H locs cells slots Q (F0 m 33 ls []) := by
  have hx := K.1.1
  have hb := K.1.2.1
  intro d
  induction d with
  | zero =>
    intro M f H locs ls hd hfo ok hm w hl
    refine lv_iconst (v := oI none) hx hb dX2_log_33 (by decide) ?_
    refine lv_istore_n (lv' := [(3, .int _), (2, .int _), (0, .ref _)]) hx hb dX2_log_34 rfl hl (by decide) rfl (fun ls hl => ?_)
    refine lv_iconst (v := nI 0) hx hb dX2_log_35 (by decide) ?_
    refine lv_istore (lv' := [(4, .int _), (3, .int _), (2, .int _), (0, .ref _)]) hx hb dX2_log_36 hl (by decide) rfl (fun ls hl => ?_)
    refine lp_lscan (of := lmF M z z 0 none) K ⟨Nat.le_trans (Nat.le_of_ble_eq_true rfl) hR.1, Nat.le_trans (Nat.le_of_ble_eq_true rfl) hR.2⟩ hf ok (fun H locs ls w hl => ?_) z 0 none _ _ _ (by omega) oB_none rfl w (lv_sub hl [0, 1, 2, 3] rfl)
    have hmn : lmF M z z 0 none = none := lmF_none (fun j _ h2 => cL_zero (M := M) (z := z) (Nat.le_zero.mp hd) j (by omega))
    rw [hmn] at hl
    refine lv_iload_n hx hb dX2_log_89 rfl (lv_at hl 0 rfl) ?_
    refine lv_if_ge (tgt := 99) hx hb dX2_log_90 rfl (fun h9 => absurd h9 (by decide : ¬ (0 : Int32) ≤ oI none)) (fun _ => ?_)
    exact kk _ _ _ (by rw [← hm]; exact w) (lv_sub hl [1, 2] rfl)
  | succ d ih =>
    intro M f H locs ls hd hfo ok hm w hl
    have hz := ok.1
    refine lv_iconst (v := oI none) hx hb dX2_log_33 (by decide) ?_
    refine lv_istore_n (lv' := [(3, .int _), (2, .int _), (0, .ref _)]) hx hb dX2_log_34 rfl hl (by decide) rfl (fun ls hl => ?_)
    refine lv_iconst (v := nI 0) hx hb dX2_log_35 (by decide) ?_
    refine lv_istore (lv' := [(4, .int _), (3, .int _), (2, .int _), (0, .ref _)]) hx hb dX2_log_36 hl (by decide) rfl (fun ls hl => ?_)
    refine lp_lscan (of := lmF M z z 0 none) K ⟨Nat.le_trans (Nat.le_of_ble_eq_true rfl) hR.1, Nat.le_trans (Nat.le_of_ble_eq_true rfl) hR.2⟩ hf ok (fun H locs ls w hl => ?_) z 0 none _ _ _ (by omega) oB_none rfl w (lv_sub hl [0, 1, 2, 3] rfl)
    have hlt : oB (lmF M z z 0 none) z := lmF_lt (by omega) oB_none
    rw [lgF] at hm
    rcases hmn : lmF M z z 0 none with _ | y
    · rw [hmn] at hm hl
      refine lv_iload_n hx hb dX2_log_89 rfl (lv_at hl 0 rfl) ?_
      refine lv_if_ge (tgt := 99) hx hb dX2_log_90 rfl (fun h9 => absurd h9 (by decide : ¬ (0 : Int32) ≤ oI none)) (fun _ => ?_)
      exact kk _ _ _ (by rw [← hm]; exact w) (lv_sub hl [1, 2] rfl)
    · rw [hmn] at hm hl
      have hy := hlt y hmn
      have hct := cL_tk (fo := f) hy ((lmF_left hmn).elim (fun h => by cases h) id)
      refine lv_iload_n hx hb dX2_log_89 rfl (lv_at hl 0 rfl) ?_
      refine lv_if_ge (tgt := 99) hx hb dX2_log_90 rfl (fun _ => ?_) (fun h9 => absurd (show (0 : Int32) ≤ nI y from nI_pos' (by omega)) h9)
      refine lv_aload_n hx hb dX2_log_99 rfl (lv_at hl 2 rfl) ?_
      refine gf_X2_left K w dX2_log_100 ?_
      refine lv_iload_n hx hb dX2_log_103 rfl (lv_at hl 0 rfl) ?_
      refine topE (y := nI y) rfl ?_
      refine lv_iconst (v := nI 0) hx hb dX2_log_104 (by decide) ?_
      refine stB2 K w rwB9 (by omega) (by decide) dX2_log_105 (fun H locs w => ?_)
      refine lv_aload_n hx hb dX2_log_106 rfl (lv_at hl 2 rfl) ?_
      refine gf_X2_row K w dX2_log_107 ?_
      refine lv_aload_n hx hb dX2_log_110 rfl (lv_at hl 2 rfl) ?_
      refine gf_X2_found K w dX2_log_111 ?_
      refine lv_iload_n hx hb dX2_log_114 rfl (lv_at hl 0 rfl) ?_
      refine topE (y := nI y) rfl ?_
      refine stI2 K w rwI3 (by omega) dX2_log_115 (fun H locs w => ?_)
      refine lv_aload_n hx hb dX2_log_116 rfl (lv_at hl 2 rfl) ?_
      refine lv_dup hx hb dX2_log_117 rfl ?_
      refine gf_X2_found K w dX2_log_118 ?_
      refine lv_iconst (v := nI 1) hx hb dX2_log_121 (by decide) ?_
      refine lv_iadd hx hb dX2_log_122 ?_
      refine pf_X2_found K w (nI_add f 1) dX2_log_123 (fun H locs w => ?_)
      refine lv_goto (tgt := 33) hx hb dX2_log_126 rfl ?_
      exact ih _ (f + 1) _ _ _ (by omega) (by omega) ok.tk hm w (lv_sub hl [1, 2] rfl)

set_option maxHeartbeats 4000000 in
set_option maxRecDepth 100000 in
theorem lp_bk (K : cY E p m c cX2_back 5 s args w0 RX2) (hR : 1 ≤ R.frames ∧ 21 ≤ R.locals) (hf : cells ≤ R.cells ∧ slots ≤ R.slots) {j r : Nat} (hj : j < 2147483648) (ok : okN M z) (ret : ∀ {H : Heap} {locs : List Loc} {pc : Nat} {ls : Array Slot} {v : Int32}, vst E s.heap M z t f H locs → v = nI r → decode cX2_back pc = .ok (.ireturn, 1) → W p l e R s m args below meth c H locs cells slots Q (F0 m pc ls [.int v])) : ∀ (d i : Nat) (q : Nat) (H : Heap) (locs : List Loc) (ls : Array Slot), i + d = j → q < z → bkF M d q = some r → vst E s.heap M z t f H locs → lv_has ls 5 [(4, .int (nI i)), (3, .int (nI q)), (0, .ref (ad E 0)), (2, .int (nI j))] → W p l e R s m args below meth c H locs cells slots Q (F0 m 28 ls []) := by
  have hx := K.1.1
  have hb := K.1.2.1
  intro d
  induction d with
  | zero =>
    intro i q H locs ls hi hq hm w hl
    have h4 := ok.le hq
    have hn := ok.1
    refine lv_iload hx hb dX2_back_28 (lv_at hl 0 rfl) ?_
    refine lv_iload_n hx hb dX2_back_30 rfl (lv_at hl 3 rfl) ?_
    refine lv_icmp_ge (tgt := 64) hx hb dX2_back_31 rfl (fun _ => ?_) (fun h9 => absurd (nI_le (by omega) (by omega)) h9)
    refine lv_iload_n hx hb dX2_back_64 rfl (lv_at hl 1 rfl) ?_
    exact ret w (by cases hm; rfl) dX2_back_65
  | succ d ih =>
    intro i q H locs ls hi hq hm w hl
    have h4 := ok.le hq
    have hn := ok.1
    by_cases h0 : pcn M q = 0
    · rw [bkF, if_pos h0] at hm; cases hm
    rw [bkF, if_neg h0] at hm
    have h5 := ok.lt hq (t := 0) (by omega)
    refine lv_iload hx hb dX2_back_28 (lv_at hl 0 rfl) ?_
    refine lv_iload_n hx hb dX2_back_30 rfl (lv_at hl 3 rfl) ?_
    refine lv_icmp_ge (tgt := 64) hx hb dX2_back_31 rfl (fun h9 => absurd h9 (nI_ge (by omega) (by omega))) (fun _ => ?_)
    refine lv_aload_n hx hb dX2_back_34 rfl (lv_at hl 2 rfl) ?_
    refine gf_X2_many K w dX2_back_35 ?_
    refine lv_iload_n hx hb dX2_back_38 rfl (lv_at hl 1 rfl) ?_
    refine ldI2 K w rwI4 (by omega) dX2_back_39 ?_
    refine topE (y := nI (pcn M q)) (ok.pc hq) ?_
    refine lv_if_ne (tgt := 49) hx hb dX2_back_40 rfl (fun _ => ?_) (fun h9 => absurd h9 (nI_ne0 (by omega) (by omega)))
    refine lv_aload_n hx hb dX2_back_49 rfl (lv_at hl 2 rfl) ?_
    refine gf_X2_parent K w dX2_back_50 ?_
    refine lv_iload_n hx hb dX2_back_53 rfl (lv_at hl 1 rfl) ?_
    refine lv_iconst (v := nI 4) hx hb dX2_back_54 (by decide) ?_
    refine lv_imul hx hb dX2_back_55 ?_
    refine topE (y := nI (q * 4 + 0)) (pk_mul _ _) ?_
    refine ldI2 K w rwI5 (by omega) dX2_back_56 ?_
    refine topE (y := nI (par M q 0)) (ok.pr hq (by omega)) ?_
    refine lv_istore_n (lv' := [(3, .int _), (4, .int _), (0, .ref _), (2, .int _)]) hx hb dX2_back_57 rfl hl (by decide) rfl (fun ls hl => ?_)
    refine lv_iinc (k := 1) (v := nI (_ + 1)) (lv' := [(4, .int _), (3, .int _), (0, .ref _), (2, .int _)]) hx hb dX2_back_58 hl rfl (inc1 _) (by decide) rfl (fun ls hl => ?_)
    refine lv_goto (tgt := 28) hx hb dX2_back_61 rfl ?_
    exact ih (i + 1) _ _ _ _ (by omega) (by omega) hm w (lv_sub hl [0, 1, 2, 3] rfl)

set_option maxHeartbeats 4000000 in
set_option maxRecDepth 100000 in
theorem lp_bkt (K : cY E p m c cX2_back 5 s args w0 RX2) (hR : 1 ≤ R.frames ∧ 21 ≤ R.locals) (hf : cells ≤ R.cells ∧ slots ≤ R.slots) {j : Nat} (hj : j < 2147483648) (ok : okN M z) (ret : ∀ {H : Heap} {locs : List Loc} {pc : Nat} {ls : Array Slot} {v : Int32}, vst E s.heap M z 2 f H locs → v = nI 0 → decode cX2_back pc = .ok (.ireturn, 1) → W p l e R s m args below meth c H locs cells slots Q (F0 m pc ls [.int v])) : ∀ (d i q : Nat) (H : Heap) (locs : List Loc) (ls : Array Slot), i + d = j → q < z → bkF M d q = none → vst E s.heap M z t f H locs → lv_has ls 5 [(4, .int (nI i)), (3, .int (nI q)), (0, .ref (ad E 0)), (2, .int (nI j))] → W p l e R s m args below meth c H locs cells slots Q (F0 m 28 ls []) := by
  have hx := K.1.1
  have hb := K.1.2.1
  intro d
  induction d with
  | zero =>
    intro i q H locs ls hi hq hm w hl
    cases hm
  | succ d ih =>
    intro i q H locs ls hi hq hm w hl
    have h4 := ok.le hq
    have hn := ok.1
    by_cases h0 : pcn M q = 0
    · refine lv_iload hx hb dX2_back_28 (lv_at hl 0 rfl) ?_
      refine lv_iload_n hx hb dX2_back_30 rfl (lv_at hl 3 rfl) ?_
      refine lv_icmp_ge (tgt := 64) hx hb dX2_back_31 rfl (fun h9 => absurd h9 (nI_ge (by omega) (by omega))) (fun _ => ?_)
      refine lv_aload_n hx hb dX2_back_34 rfl (lv_at hl 2 rfl) ?_
      refine gf_X2_many K w dX2_back_35 ?_
      refine lv_iload_n hx hb dX2_back_38 rfl (lv_at hl 1 rfl) ?_
      refine ldI2 K w rwI4 (by omega) dX2_back_39 ?_
      refine topE (y := nI (pcn M q)) (ok.pc hq) ?_
      refine lv_if_ne (tgt := 49) hx hb dX2_back_40 rfl (fun h9 => absurd (by rw [h0]; rfl) h9) (fun _ => ?_)
      refine lv_aload_n hx hb dX2_back_43 rfl (lv_at hl 2 rfl) ?_
      refine lv_iconst (v := nI 2) hx hb dX2_back_44 (by decide) ?_
      refine calli2 K w (c_X2_refuse K.2.2) (lk_X2_45 K ⟨Nat.le_trans (Nat.le_of_ble_eq_true rfl) hR.1, Nat.le_trans (Nat.le_of_ble_eq_true rfl) hR.2⟩) (recvM K w) rfl hl.1 rfl (Nat.le_of_ble_eq_true rfl) dX2_back_45 hf (fun H locs w => ?_)
      exact ret w rfl dX2_back_48
    · rw [bkF, if_neg h0] at hm
      have h5 := ok.lt hq (t := 0) (by omega)
      refine lv_iload hx hb dX2_back_28 (lv_at hl 0 rfl) ?_
      refine lv_iload_n hx hb dX2_back_30 rfl (lv_at hl 3 rfl) ?_
      refine lv_icmp_ge (tgt := 64) hx hb dX2_back_31 rfl (fun h9 => absurd h9 (nI_ge (by omega) (by omega))) (fun _ => ?_)
      refine lv_aload_n hx hb dX2_back_34 rfl (lv_at hl 2 rfl) ?_
      refine gf_X2_many K w dX2_back_35 ?_
      refine lv_iload_n hx hb dX2_back_38 rfl (lv_at hl 1 rfl) ?_
      refine ldI2 K w rwI4 (by omega) dX2_back_39 ?_
      refine topE (y := nI (pcn M q)) (ok.pc hq) ?_
      refine lv_if_ne (tgt := 49) hx hb dX2_back_40 rfl (fun _ => ?_) (fun h9 => absurd h9 (nI_ne0 (by omega) (by omega)))
      refine lv_aload_n hx hb dX2_back_49 rfl (lv_at hl 2 rfl) ?_
      refine gf_X2_parent K w dX2_back_50 ?_
      refine lv_iload_n hx hb dX2_back_53 rfl (lv_at hl 1 rfl) ?_
      refine lv_iconst (v := nI 4) hx hb dX2_back_54 (by decide) ?_
      refine lv_imul hx hb dX2_back_55 ?_
      refine topE (y := nI (q * 4 + 0)) (pk_mul _ _) ?_
      refine ldI2 K w rwI5 (by omega) dX2_back_56 ?_
      refine topE (y := nI (par M q 0)) (ok.pr hq (by omega)) ?_
      refine lv_istore_n (lv' := [(3, .int _), (4, .int _), (0, .ref _), (2, .int _)]) hx hb dX2_back_57 rfl hl (by decide) rfl (fun ls hl => ?_)
      refine lv_iinc (k := 1) (v := nI (_ + 1)) (lv' := [(4, .int _), (3, .int _), (0, .ref _), (2, .int _)]) hx hb dX2_back_58 hl rfl (inc1 _) (by decide) rfl (fun ls hl => ?_)
      refine lv_goto (tgt := 28) hx hb dX2_back_61 rfl ?_
      exact ih (i + 1) _ _ _ _ (by omega) (by omega) hm w (lv_sub hl [0, 1, 2, 3] rfl)

end YG
end
