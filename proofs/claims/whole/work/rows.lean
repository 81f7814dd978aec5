section
-- begun from kit/laws/SKELETON.whole.lean.txt, PART A
-- ===== PART A: goes FIRST, ahead of the names: the tables' words, and 'selects' of the private methods out of them =====
/-- a private method of a class that the tables say can be made, by its rows of tables_1 -/
def lw_okq (q : MethodName × Nat) : Prop := (q.1.cls ≠ "java/lang/invoke/MethodHandle" ∧ q.1.cls ≠ "java/lang/invoke/VarHandle") ∧ Cond.instantiable q.1.cls q.2 ∈ tables_1 ∧ Cond.privateMethod q.1 ∈ tables_1 ∧ Cond.instanceMethod q.1 ∈ tables_1
theorem lw_p0 : lw_okq (⟨"PanelForms$Layout", "copyInOrder", "(I)I"⟩, 17) := ⟨⟨by decide +kernel, by decide +kernel⟩, List.mem_of_getElem? (i := 126) (by decide +kernel), List.mem_of_getElem? (i := 246) (by decide +kernel), List.mem_of_getElem? (i := 247) (by decide +kernel)⟩
theorem lw_p1 : lw_okq (⟨"PanelForms$Layout", "countOf", "(Z)I"⟩, 17) := ⟨⟨by decide +kernel, by decide +kernel⟩, List.mem_of_getElem? (i := 126) (by decide +kernel), List.mem_of_getElem? (i := 250) (by decide +kernel), List.mem_of_getElem? (i := 251) (by decide +kernel)⟩
theorem lw_p2 : lw_okq (⟨"PanelForms$Layout", "nthOf", "(ZI)I"⟩, 17) := ⟨⟨by decide +kernel, by decide +kernel⟩, List.mem_of_getElem? (i := 126) (by decide +kernel), List.mem_of_getElem? (i := 254) (by decide +kernel), List.mem_of_getElem? (i := 255) (by decide +kernel)⟩
theorem lw_p3 : lw_okq (⟨"PanelForms", "checkBoard", "(I)V"⟩, 10) := ⟨⟨by decide +kernel, by decide +kernel⟩, List.mem_of_getElem? (i := 14) (by decide +kernel), List.mem_of_getElem? (i := 270) (by decide +kernel), List.mem_of_getElem? (i := 271) (by decide +kernel)⟩
theorem lw_p4 : lw_okq (⟨"java/lang/Throwable", "fillInStackTrace", "(I)Ljava/lang/Throwable;"⟩, 6) := ⟨⟨by decide +kernel, by decide +kernel⟩, List.mem_of_getElem? (i := 315) (by decide +kernel), List.mem_of_getElem? (i := 313) (by decide +kernel), List.mem_of_getElem? (i := 314) (by decide +kernel)⟩
theorem lw_p5 : lw_okq (⟨"PanelForms$Board", "addCorner", "(JJ)Z"⟩, 12) := ⟨⟨by decide +kernel, by decide +kernel⟩, List.mem_of_getElem? (i := 33) (by decide +kernel), List.mem_of_getElem? (i := 364) (by decide +kernel), List.mem_of_getElem? (i := 365) (by decide +kernel)⟩
theorem lw_p6 : lw_okq (⟨"PanelForms", "prepareSearch", "(I)V"⟩, 10) := ⟨⟨by decide +kernel, by decide +kernel⟩, List.mem_of_getElem? (i := 14) (by decide +kernel), List.mem_of_getElem? (i := 383) (by decide +kernel), List.mem_of_getElem? (i := 384) (by decide +kernel)⟩
theorem lw_p7 : lw_okq (⟨"PanelForms$Search", "begin", "(J)V"⟩, 12) := ⟨⟨by decide +kernel, by decide +kernel⟩, List.mem_of_getElem? (i := 78) (by decide +kernel), List.mem_of_getElem? (i := 387) (by decide +kernel), List.mem_of_getElem? (i := 388) (by decide +kernel)⟩
theorem lw_p8 : lw_okq (⟨"PanelForms$Board", "hasArea", "()Z"⟩, 12) := ⟨⟨by decide +kernel, by decide +kernel⟩, List.mem_of_getElem? (i := 33) (by decide +kernel), List.mem_of_getElem? (i := 391) (by decide +kernel), List.mem_of_getElem? (i := 392) (by decide +kernel)⟩
theorem lw_p9 : lw_okq (⟨"PanelForms$Board", "wide", "(I)J"⟩, 12) := ⟨⟨by decide +kernel, by decide +kernel⟩, List.mem_of_getElem? (i := 33) (by decide +kernel), List.mem_of_getElem? (i := 395) (by decide +kernel), List.mem_of_getElem? (i := 396) (by decide +kernel)⟩
theorem lw_p10 : lw_okq (⟨"PanelForms$Board", "high", "(I)J"⟩, 12) := ⟨⟨by decide +kernel, by decide +kernel⟩, List.mem_of_getElem? (i := 33) (by decide +kernel), List.mem_of_getElem? (i := 403) (by decide +kernel), List.mem_of_getElem? (i := 404) (by decide +kernel)⟩
theorem lw_p11 : lw_okq (⟨"PanelForms$Search", "allowKind", "(IIJ)V"⟩, 12) := ⟨⟨by decide +kernel, by decide +kernel⟩, List.mem_of_getElem? (i := 78) (by decide +kernel), List.mem_of_getElem? (i := 407) (by decide +kernel), List.mem_of_getElem? (i := 408) (by decide +kernel)⟩
theorem lw_p12 : lw_okq (⟨"PanelForms$Search", "look", "(IJ)V"⟩, 12) := ⟨⟨by decide +kernel, by decide +kernel⟩, List.mem_of_getElem? (i := 78) (by decide +kernel), List.mem_of_getElem? (i := 414) (by decide +kernel), List.mem_of_getElem? (i := 415) (by decide +kernel)⟩
theorem lw_p13 : lw_okq (⟨"PanelForms$Search", "tryRow", "(IIIJ)V"⟩, 12) := ⟨⟨by decide +kernel, by decide +kernel⟩, List.mem_of_getElem? (i := 78) (by decide +kernel), List.mem_of_getElem? (i := 419) (by decide +kernel), List.mem_of_getElem? (i := 420) (by decide +kernel)⟩
theorem lw_p14 : lw_okq (⟨"PanelForms$Search", "keepIfBetter", "(II)V"⟩, 12) := ⟨⟨by decide +kernel, by decide +kernel⟩, List.mem_of_getElem? (i := 78) (by decide +kernel), List.mem_of_getElem? (i := 423) (by decide +kernel), List.mem_of_getElem? (i := 424) (by decide +kernel)⟩
theorem lw_p15 : lw_okq (⟨"PanelForms", "layOutBest", "()V"⟩, 10) := ⟨⟨by decide +kernel, by decide +kernel⟩, List.mem_of_getElem? (i := 14) (by decide +kernel), List.mem_of_getElem? (i := 427) (by decide +kernel), List.mem_of_getElem? (i := 428) (by decide +kernel)⟩
def lw_privs_1 : List (MethodName × Nat) := [(⟨"PanelForms$Layout", "copyInOrder", "(I)I"⟩, 17), (⟨"PanelForms$Layout", "countOf", "(Z)I"⟩, 17), (⟨"PanelForms$Layout", "nthOf", "(ZI)I"⟩, 17), (⟨"PanelForms", "checkBoard", "(I)V"⟩, 10), (⟨"java/lang/Throwable", "fillInStackTrace", "(I)Ljava/lang/Throwable;"⟩, 6), (⟨"PanelForms$Board", "addCorner", "(JJ)Z"⟩, 12), (⟨"PanelForms", "prepareSearch", "(I)V"⟩, 10), (⟨"PanelForms$Search", "begin", "(J)V"⟩, 12), (⟨"PanelForms$Board", "hasArea", "()Z"⟩, 12), (⟨"PanelForms$Board", "wide", "(I)J"⟩, 12), (⟨"PanelForms$Board", "high", "(I)J"⟩, 12), (⟨"PanelForms$Search", "allowKind", "(IIJ)V"⟩, 12), (⟨"PanelForms$Search", "look", "(IJ)V"⟩, 12), (⟨"PanelForms$Search", "tryRow", "(IIIJ)V"⟩, 12), (⟨"PanelForms$Search", "keepIfBetter", "(II)V"⟩, 12), (⟨"PanelForms", "layOutBest", "()V"⟩, 10)]
theorem lw_r1 : ∀ q ∈ lw_privs_1, lw_okq q := List.forall_mem_cons.mpr ⟨lw_p0, List.forall_mem_cons.mpr ⟨lw_p1, List.forall_mem_cons.mpr ⟨lw_p2, List.forall_mem_cons.mpr ⟨lw_p3, List.forall_mem_cons.mpr ⟨lw_p4, List.forall_mem_cons.mpr ⟨lw_p5, List.forall_mem_cons.mpr ⟨lw_p6, List.forall_mem_cons.mpr ⟨lw_p7, List.forall_mem_cons.mpr ⟨lw_p8, List.forall_mem_cons.mpr ⟨lw_p9, List.forall_mem_cons.mpr ⟨lw_p10, List.forall_mem_cons.mpr ⟨lw_p11, List.forall_mem_cons.mpr ⟨lw_p12, List.forall_mem_cons.mpr ⟨lw_p13, List.forall_mem_cons.mpr ⟨lw_p14, List.forall_mem_cons.mpr ⟨lw_p15, fun _ h => absurd h List.not_mem_nil⟩⟩⟩⟩⟩⟩⟩⟩⟩⟩⟩⟩⟩⟩⟩⟩
theorem lw_p16 : lw_okq (⟨"PanelForms$Layout", "begin", "(JJJ)V"⟩, 17) := ⟨⟨by decide +kernel, by decide +kernel⟩, List.mem_of_getElem? (i := 126) (by decide +kernel), List.mem_of_getElem? (i := 431) (by decide +kernel), List.mem_of_getElem? (i := 432) (by decide +kernel)⟩
theorem lw_p17 : lw_okq (⟨"PanelForms$Layout", "addRow", "(IIJJI)V"⟩, 17) := ⟨⟨by decide +kernel, by decide +kernel⟩, List.mem_of_getElem? (i := 126) (by decide +kernel), List.mem_of_getElem? (i := 435) (by decide +kernel), List.mem_of_getElem? (i := 436) (by decide +kernel)⟩
theorem lw_p18 : lw_okq (⟨"PanelForms$Layout", "addCopies", "(IJ)V"⟩, 17) := ⟨⟨by decide +kernel, by decide +kernel⟩, List.mem_of_getElem? (i := 126) (by decide +kernel), List.mem_of_getElem? (i := 439) (by decide +kernel), List.mem_of_getElem? (i := 440) (by decide +kernel)⟩
theorem lw_p19 : lw_okq (⟨"PanelForms$Layout", "addScore", "(JI)V"⟩, 17) := ⟨⟨by decide +kernel, by decide +kernel⟩, List.mem_of_getElem? (i := 126) (by decide +kernel), List.mem_of_getElem? (i := 443) (by decide +kernel), List.mem_of_getElem? (i := 444) (by decide +kernel)⟩
theorem lw_p20 : lw_okq (⟨"PanelForms$Search", "findsMore", "(IJ)Z"⟩, 12) := ⟨⟨by decide +kernel, by decide +kernel⟩, List.mem_of_getElem? (i := 78) (by decide +kernel), List.mem_of_getElem? (i := 447) (by decide +kernel), List.mem_of_getElem? (i := 448) (by decide +kernel)⟩
theorem lw_p21 : lw_okq (⟨"PanelForms", "checkCopy", "(I)V"⟩, 10) := ⟨⟨by decide +kernel, by decide +kernel⟩, List.mem_of_getElem? (i := 14) (by decide +kernel), List.mem_of_getElem? (i := 459) (by decide +kernel), List.mem_of_getElem? (i := 460) (by decide +kernel)⟩
theorem lw_p22 : lw_okq (⟨"PanelForms$Board", "hasPartNear", "(JJI)Z"⟩, 12) := ⟨⟨by decide +kernel, by decide +kernel⟩, List.mem_of_getElem? (i := 33) (by decide +kernel), List.mem_of_getElem? (i := 493) (by decide +kernel), List.mem_of_getElem? (i := 494) (by decide +kernel)⟩
theorem lw_p23 : lw_okq (⟨"PanelForms$Board", "addPart", "(JJJ)Z"⟩, 12) := ⟨⟨by decide +kernel, by decide +kernel⟩, List.mem_of_getElem? (i := 33) (by decide +kernel), List.mem_of_getElem? (i := 530) (by decide +kernel), List.mem_of_getElem? (i := 531) (by decide +kernel)⟩
theorem lw_p24 : lw_okq (⟨"PanelForms", "twiceAreaOfCopies", "()J"⟩, 10) := ⟨⟨by decide +kernel, by decide +kernel⟩, List.mem_of_getElem? (i := 14) (by decide +kernel), List.mem_of_getElem? (i := 541) (by decide +kernel), List.mem_of_getElem? (i := 542) (by decide +kernel)⟩
theorem lw_p25 : lw_okq (⟨"PanelForms$Board", "twiceArea", "()J"⟩, 12) := ⟨⟨by decide +kernel, by decide +kernel⟩, List.mem_of_getElem? (i := 33) (by decide +kernel), List.mem_of_getElem? (i := 545) (by decide +kernel), List.mem_of_getElem? (i := 546) (by decide +kernel)⟩
theorem lw_p26 : lw_okq (⟨"PanelForms", "grownEnd", "(JJZ)J"⟩, 10) := ⟨⟨by decide +kernel, by decide +kernel⟩, List.mem_of_getElem? (i := 14) (by decide +kernel), List.mem_of_getElem? (i := 564) (by decide +kernel), List.mem_of_getElem? (i := 565) (by decide +kernel)⟩
theorem lw_p27 : lw_okq (⟨"PanelFormsModel", "isBoard", "(I)Z"⟩, 26) := ⟨⟨by decide +kernel, by decide +kernel⟩, List.mem_of_getElem? (i := 598) (by decide +kernel), List.mem_of_getElem? (i := 696) (by decide +kernel), List.mem_of_getElem? (i := 697) (by decide +kernel)⟩
theorem lw_p28 : lw_okq (⟨"PanelFormsModel", "findBox", "(I)V"⟩, 26) := ⟨⟨by decide +kernel, by decide +kernel⟩, List.mem_of_getElem? (i := 598) (by decide +kernel), List.mem_of_getElem? (i := 728) (by decide +kernel), List.mem_of_getElem? (i := 729) (by decide +kernel)⟩
theorem lw_p29 : lw_okq (⟨"PanelFormsModel", "fitsAlong", "(II)I"⟩, 26) := ⟨⟨by decide +kernel, by decide +kernel⟩, List.mem_of_getElem? (i := 598) (by decide +kernel), List.mem_of_getElem? (i := 732) (by decide +kernel), List.mem_of_getElem? (i := 733) (by decide +kernel)⟩
theorem lw_p30 : lw_okq (⟨"PanelFormsModel", "wideOf", "(I)J"⟩, 26) := ⟨⟨by decide +kernel, by decide +kernel⟩, List.mem_of_getElem? (i := 598) (by decide +kernel), List.mem_of_getElem? (i := 736) (by decide +kernel), List.mem_of_getElem? (i := 737) (by decide +kernel)⟩
theorem lw_p31 : lw_okq (⟨"PanelFormsModel", "search", "(I)V"⟩, 26) := ⟨⟨by decide +kernel, by decide +kernel⟩, List.mem_of_getElem? (i := 598) (by decide +kernel), List.mem_of_getElem? (i := 741) (by decide +kernel), List.mem_of_getElem? (i := 742) (by decide +kernel)⟩
def lw_privs_2 : List (MethodName × Nat) := [(⟨"PanelForms$Layout", "begin", "(JJJ)V"⟩, 17), (⟨"PanelForms$Layout", "addRow", "(IIJJI)V"⟩, 17), (⟨"PanelForms$Layout", "addCopies", "(IJ)V"⟩, 17), (⟨"PanelForms$Layout", "addScore", "(JI)V"⟩, 17), (⟨"PanelForms$Search", "findsMore", "(IJ)Z"⟩, 12), (⟨"PanelForms", "checkCopy", "(I)V"⟩, 10), (⟨"PanelForms$Board", "hasPartNear", "(JJI)Z"⟩, 12), (⟨"PanelForms$Board", "addPart", "(JJJ)Z"⟩, 12), (⟨"PanelForms", "twiceAreaOfCopies", "()J"⟩, 10), (⟨"PanelForms$Board", "twiceArea", "()J"⟩, 12), (⟨"PanelForms", "grownEnd", "(JJZ)J"⟩, 10), (⟨"PanelFormsModel", "isBoard", "(I)Z"⟩, 26), (⟨"PanelFormsModel", "findBox", "(I)V"⟩, 26), (⟨"PanelFormsModel", "fitsAlong", "(II)I"⟩, 26), (⟨"PanelFormsModel", "wideOf", "(I)J"⟩, 26), (⟨"PanelFormsModel", "search", "(I)V"⟩, 26)]
theorem lw_r2 : ∀ q ∈ lw_privs_2, lw_okq q := List.forall_mem_cons.mpr ⟨lw_p16, List.forall_mem_cons.mpr ⟨lw_p17, List.forall_mem_cons.mpr ⟨lw_p18, List.forall_mem_cons.mpr ⟨lw_p19, List.forall_mem_cons.mpr ⟨lw_p20, List.forall_mem_cons.mpr ⟨lw_p21, List.forall_mem_cons.mpr ⟨lw_p22, List.forall_mem_cons.mpr ⟨lw_p23, List.forall_mem_cons.mpr ⟨lw_p24, List.forall_mem_cons.mpr ⟨lw_p25, List.forall_mem_cons.mpr ⟨lw_p26, List.forall_mem_cons.mpr ⟨lw_p27, List.forall_mem_cons.mpr ⟨lw_p28, List.forall_mem_cons.mpr ⟨lw_p29, List.forall_mem_cons.mpr ⟨lw_p30, List.forall_mem_cons.mpr ⟨lw_p31, fun _ h => absurd h List.not_mem_nil⟩⟩⟩⟩⟩⟩⟩⟩⟩⟩⟩⟩⟩⟩⟩⟩
theorem lw_p32 : lw_okq (⟨"PanelFormsModel", "goOn", "(I)Z"⟩, 26) := ⟨⟨by decide +kernel, by decide +kernel⟩, List.mem_of_getElem? (i := 598) (by decide +kernel), List.mem_of_getElem? (i := 745) (by decide +kernel), List.mem_of_getElem? (i := 746) (by decide +kernel)⟩
theorem lw_p33 : lw_okq (⟨"PanelFormsModel", "rowsOf", "()I"⟩, 26) := ⟨⟨by decide +kernel, by decide +kernel⟩, List.mem_of_getElem? (i := 598) (by decide +kernel), List.mem_of_getElem? (i := 749) (by decide +kernel), List.mem_of_getElem? (i := 750) (by decide +kernel)⟩
theorem lw_p34 : lw_okq (⟨"PanelFormsModel", "weigh", "()V"⟩, 26) := ⟨⟨by decide +kernel, by decide +kernel⟩, List.mem_of_getElem? (i := 598) (by decide +kernel), List.mem_of_getElem? (i := 753) (by decide +kernel), List.mem_of_getElem? (i := 754) (by decide +kernel)⟩
theorem lw_p35 : lw_okq (⟨"PanelFormsModel", "copiesOf", "()I"⟩, 26) := ⟨⟨by decide +kernel, by decide +kernel⟩, List.mem_of_getElem? (i := 598) (by decide +kernel), List.mem_of_getElem? (i := 757) (by decide +kernel), List.mem_of_getElem? (i := 758) (by decide +kernel)⟩
theorem lw_p36 : lw_okq (⟨"PanelFormsModel", "isLow", "()Z"⟩, 26) := ⟨⟨by decide +kernel, by decide +kernel⟩, List.mem_of_getElem? (i := 598) (by decide +kernel), List.mem_of_getElem? (i := 761) (by decide +kernel), List.mem_of_getElem? (i := 762) (by decide +kernel)⟩
theorem lw_p37 : lw_okq (⟨"PanelFormsModel", "highOf", "(I)J"⟩, 26) := ⟨⟨by decide +kernel, by decide +kernel⟩, List.mem_of_getElem? (i := 598) (by decide +kernel), List.mem_of_getElem? (i := 765) (by decide +kernel), List.mem_of_getElem? (i := 766) (by decide +kernel)⟩
theorem lw_p38 : lw_okq (⟨"PanelFormsModel", "isAhead", "()Z"⟩, 26) := ⟨⟨by decide +kernel, by decide +kernel⟩, List.mem_of_getElem? (i := 598) (by decide +kernel), List.mem_of_getElem? (i := 769) (by decide +kernel), List.mem_of_getElem? (i := 770) (by decide +kernel)⟩
theorem lw_p39 : lw_okq (⟨"PanelFormsModel", "layOut", "()V"⟩, 26) := ⟨⟨by decide +kernel, by decide +kernel⟩, List.mem_of_getElem? (i := 598) (by decide +kernel), List.mem_of_getElem? (i := 773) (by decide +kernel), List.mem_of_getElem? (i := 774) (by decide +kernel)⟩
theorem lw_p40 : lw_okq (⟨"PanelFormsModel", "put", "(IJJIJJ)V"⟩, 26) := ⟨⟨by decide +kernel, by decide +kernel⟩, List.mem_of_getElem? (i := 598) (by decide +kernel), List.mem_of_getElem? (i := 777) (by decide +kernel), List.mem_of_getElem? (i := 778) (by decide +kernel)⟩
theorem lw_p41 : lw_okq (⟨"PanelFormsModel", "isCopy", "(I)Z"⟩, 26) := ⟨⟨by decide +kernel, by decide +kernel⟩, List.mem_of_getElem? (i := 598) (by decide +kernel), List.mem_of_getElem? (i := 789) (by decide +kernel), List.mem_of_getElem? (i := 790) (by decide +kernel)⟩
theorem lw_p42 : lw_okq (⟨"PanelFormsModel", "nextScore", "(J)J"⟩, 26) := ⟨⟨by decide +kernel, by decide +kernel⟩, List.mem_of_getElem? (i := 598) (by decide +kernel), List.mem_of_getElem? (i := 803) (by decide +kernel), List.mem_of_getElem? (i := 804) (by decide +kernel)⟩
theorem lw_p43 : lw_okq (⟨"PanelFormsModel", "areaOf", "(I)J"⟩, 26) := ⟨⟨by decide +kernel, by decide +kernel⟩, List.mem_of_getElem? (i := 598) (by decide +kernel), List.mem_of_getElem? (i := 811) (by decide +kernel), List.mem_of_getElem? (i := 812) (by decide +kernel)⟩
theorem lw_p44 : lw_okq (⟨"PanelFormsModel", "orderOf", "(I)I"⟩, 26) := ⟨⟨by decide +kernel, by decide +kernel⟩, List.mem_of_getElem? (i := 598) (by decide +kernel), List.mem_of_getElem? (i := 819) (by decide +kernel), List.mem_of_getElem? (i := 820) (by decide +kernel)⟩
def lw_privs_3 : List (MethodName × Nat) := [(⟨"PanelFormsModel", "goOn", "(I)Z"⟩, 26), (⟨"PanelFormsModel", "rowsOf", "()I"⟩, 26), (⟨"PanelFormsModel", "weigh", "()V"⟩, 26), (⟨"PanelFormsModel", "copiesOf", "()I"⟩, 26), (⟨"PanelFormsModel", "isLow", "()Z"⟩, 26), (⟨"PanelFormsModel", "highOf", "(I)J"⟩, 26), (⟨"PanelFormsModel", "isAhead", "()Z"⟩, 26), (⟨"PanelFormsModel", "layOut", "()V"⟩, 26), (⟨"PanelFormsModel", "put", "(IJJIJJ)V"⟩, 26), (⟨"PanelFormsModel", "isCopy", "(I)Z"⟩, 26), (⟨"PanelFormsModel", "nextScore", "(J)J"⟩, 26), (⟨"PanelFormsModel", "areaOf", "(I)J"⟩, 26), (⟨"PanelFormsModel", "orderOf", "(I)I"⟩, 26)]
theorem lw_r3 : ∀ q ∈ lw_privs_3, lw_okq q := List.forall_mem_cons.mpr ⟨lw_p32, List.forall_mem_cons.mpr ⟨lw_p33, List.forall_mem_cons.mpr ⟨lw_p34, List.forall_mem_cons.mpr ⟨lw_p35, List.forall_mem_cons.mpr ⟨lw_p36, List.forall_mem_cons.mpr ⟨lw_p37, List.forall_mem_cons.mpr ⟨lw_p38, List.forall_mem_cons.mpr ⟨lw_p39, List.forall_mem_cons.mpr ⟨lw_p40, List.forall_mem_cons.mpr ⟨lw_p41, List.forall_mem_cons.mpr ⟨lw_p42, List.forall_mem_cons.mpr ⟨lw_p43, List.forall_mem_cons.mpr ⟨lw_p44, fun _ h => absurd h List.not_mem_nil⟩⟩⟩⟩⟩⟩⟩⟩⟩⟩⟩⟩⟩
def lw_privs : List (MethodName × Nat) := lw_privs_1 ++ (lw_privs_2 ++ (lw_privs_3))
def lw_tbl : List Cond := k2_sels lw_privs ++ tables_1
theorem lw_privs_ok : ∀ q ∈ lw_privs, lw_okq q := by
  show ∀ q ∈ lw_privs_1 ++ (lw_privs_2 ++ (lw_privs_3)), lw_okq q
  exact List.forall_mem_append.mpr ⟨lw_r1, List.forall_mem_append.mpr ⟨lw_r2, lw_r3⟩⟩
/-! names: classes, fields, methods; written by a program out of the listing -/
abbrev R_P : String := "PanelForms"
def T_P : u_T := fun k => match k with
  | 0 => ("PanelForms", "panelWidth", "J", true)
  | 1 => ("PanelForms", "panelHeight", "J", true)
  | 2 => ("PanelForms", "boards", "[LPanelForms$Board;", true)
  | 3 => ("PanelForms", "rails", "[J", true)
  | 4 => ("PanelForms", "search", "LPanelForms$Search;", true)
  | 5 => ("PanelForms", "layout", "LPanelForms$Layout;", true)
  | 6 => ("PanelForms", "boardCount", "I", false)
  | 7 => ("PanelForms", "gapLength", "J", false)
  | 8 => ("PanelForms", "toolRadius", "J", false)
  | _ => ("PanelForms", "provedInRun", "Z", false)
def t_P : Nat → FieldType := fun k => match k with
  | 0 => .long
  | 1 => .long
  | 2 => .array (.object "PanelForms$Board")
  | 3 => .array .long
  | 4 => .object "PanelForms$Search"
  | 5 => .object "PanelForms$Layout"
  | 6 => .int
  | 7 => .long
  | 8 => .long
  | _ => .boolean
abbrev u_P : List Cond := u_ws R_P T_P 10
theorem n_P : ∀ a, a < 10 → ∀ b, b < 10 → a ≠ b → (T_P a).2.1 ≠ (T_P b).2.1 := by decide +kernel
theorem t_P_ok : ∀ k, k < 10 → parseFieldDescriptor (T_P k).2.2.1 = some (t_P k) := by decide +kernel
abbrev R_M : String := "PanelFormsModel"
def T_M : u_T := fun k => match k with
  | 0 => ("PanelFormsModel", "thrown", "I", false)
  | 1 => ("PanelFormsModel", "width", "J", true)
  | 2 => ("PanelFormsModel", "height", "J", true)
  | 3 => ("PanelFormsModel", "boards", "I", false)
  | 4 => ("PanelFormsModel", "cornerCount", "[I", true)
  | 5 => ("PanelFormsModel", "cornerX", "[J", true)
  | 6 => ("PanelFormsModel", "cornerY", "[J", true)
  | 7 => ("PanelFormsModel", "wanted", "[I", true)
  | 8 => ("PanelFormsModel", "partCount", "[I", true)
  | 9 => ("PanelFormsModel", "parts", "[J", true)
  | 10 => ("PanelFormsModel", "rails", "[J", true)
  | 11 => ("PanelFormsModel", "gap", "J", false)
  | 12 => ("PanelFormsModel", "tool", "J", false)
  | 13 => ("PanelFormsModel", "copies", "I", false)
  | 14 => ("PanelFormsModel", "row", "[J", true)
  | 15 => ("PanelFormsModel", "isBad", "[Z", true)
  | 16 => ("PanelFormsModel", "isProved", "Z", false)
  | 17 => ("PanelFormsModel", "boxX", "[J", true)
  | 18 => ("PanelFormsModel", "boxY", "[J", true)
  | 19 => ("PanelFormsModel", "boxW", "[J", true)
  | 20 => ("PanelFormsModel", "boxH", "[J", true)
  | 21 => ("PanelFormsModel", "fits", "[I", true)
  | 22 => ("PanelFormsModel", "counts", "[I", true)
  | 23 => ("PanelFormsModel", "best", "[I", true)
  | 24 => ("PanelFormsModel", "bestCopies", "I", false)
  | _ => ("PanelFormsModel", "bestRows", "I", false)
def t_M : Nat → FieldType := fun k => match k with
  | 0 => .int
  | 1 => .long
  | 2 => .long
  | 3 => .int
  | 4 => .array .int
  | 5 => .array .long
  | 6 => .array .long
  | 7 => .array .int
  | 8 => .array .int
  | 9 => .array .long
  | 10 => .array .long
  | 11 => .long
  | 12 => .long
  | 13 => .int
  | 14 => .array .long
  | 15 => .array .boolean
  | 16 => .boolean
  | 17 => .array .long
  | 18 => .array .long
  | 19 => .array .long
  | 20 => .array .long
  | 21 => .array .int
  | 22 => .array .int
  | 23 => .array .int
  | 24 => .int
  | _ => .int
abbrev u_M : List Cond := u_ws R_M T_M 26
theorem n_M : ∀ a, a < 26 → ∀ b, b < 26 → a ≠ b → (T_M a).2.1 ≠ (T_M b).2.1 := by decide +kernel
theorem t_M_ok : ∀ k, k < 26 → parseFieldDescriptor (T_M k).2.2.1 = some (t_M k) := by decide +kernel
abbrev R_B : String := "PanelForms$Board"
def T_B : u_T := fun k => match k with
  | 0 => ("PanelForms$Board", "cornerX", "[J", true)
  | 1 => ("PanelForms$Board", "cornerY", "[J", true)
  | 2 => ("PanelForms$Board", "partX", "[J", true)
  | 3 => ("PanelForms$Board", "partY", "[J", true)
  | 4 => ("PanelForms$Board", "partRadius", "[J", true)
  | 5 => ("PanelForms$Board", "corners", "I", false)
  | 6 => ("PanelForms$Board", "parts", "I", false)
  | 7 => ("PanelForms$Board", "leastX", "J", false)
  | 8 => ("PanelForms$Board", "leastY", "J", false)
  | 9 => ("PanelForms$Board", "greatestX", "J", false)
  | 10 => ("PanelForms$Board", "greatestY", "J", false)
  | _ => ("PanelForms$Board", "wanted", "I", false)
def t_B : Nat → FieldType := fun k => match k with
  | 0 => .array .long
  | 1 => .array .long
  | 2 => .array .long
  | 3 => .array .long
  | 4 => .array .long
  | 5 => .int
  | 6 => .int
  | 7 => .long
  | 8 => .long
  | 9 => .long
  | 10 => .long
  | _ => .int
abbrev u_B : List Cond := u_ws R_B T_B 12
theorem n_B : ∀ a, a < 12 → ∀ b, b < 12 → a ≠ b → (T_B a).2.1 ≠ (T_B b).2.1 := by decide +kernel
theorem t_B_ok : ∀ k, k < 12 → parseFieldDescriptor (T_B k).2.2.1 = some (t_B k) := by decide +kernel
abbrev R_Y : String := "PanelForms$Layout"
def T_Y : u_T := fun k => match k with
  | 0 => ("PanelForms$Layout", "boardOfRow", "[I", true)
  | 1 => ("PanelForms$Layout", "turnOfRow", "[I", true)
  | 2 => ("PanelForms$Layout", "copiesInRow", "[I", true)
  | 3 => ("PanelForms$Layout", "yOfRow", "[J", true)
  | 4 => ("PanelForms$Layout", "wideInRow", "[J", true)
  | 5 => ("PanelForms$Layout", "highInRow", "[J", true)
  | 6 => ("PanelForms$Layout", "rowOfCopy", "[I", true)
  | 7 => ("PanelForms$Layout", "xOfCopy", "[J", true)
  | 8 => ("PanelForms$Layout", "badCopy", "[Z", true)
  | 9 => ("PanelForms$Layout", "yOfScore", "[J", true)
  | 10 => ("PanelForms$Layout", "boxesAtScore", "[I", true)
  | 11 => ("PanelForms$Layout", "rows", "I", false)
  | 12 => ("PanelForms$Layout", "copies", "I", false)
  | 13 => ("PanelForms$Layout", "scores", "I", false)
  | 14 => ("PanelForms$Layout", "left", "J", false)
  | 15 => ("PanelForms$Layout", "nextY", "J", false)
  | _ => ("PanelForms$Layout", "gapBetween", "J", false)
def t_Y : Nat → FieldType := fun k => match k with
  | 0 => .array .int
  | 1 => .array .int
  | 2 => .array .int
  | 3 => .array .long
  | 4 => .array .long
  | 5 => .array .long
  | 6 => .array .int
  | 7 => .array .long
  | 8 => .array .boolean
  | 9 => .array .long
  | 10 => .array .int
  | 11 => .int
  | 12 => .int
  | 13 => .int
  | 14 => .long
  | 15 => .long
  | _ => .long
abbrev u_Y : List Cond := u_ws R_Y T_Y 17
theorem n_Y : ∀ a, a < 17 → ∀ b, b < 17 → a ≠ b → (T_Y a).2.1 ≠ (T_Y b).2.1 := by decide +kernel
theorem t_Y_ok : ∀ k, k < 17 → parseFieldDescriptor (T_Y k).2.2.1 = some (t_Y k) := by decide +kernel
abbrev R_S : String := "PanelForms$Search"
def T_S : u_T := fun k => match k with
  | 0 => ("PanelForms$Search", "room", "[I", true)
  | 1 => ("PanelForms$Search", "highOfKind", "[J", true)
  | 2 => ("PanelForms$Search", "wantedLeft", "[I", true)
  | 3 => ("PanelForms$Search", "kinds", "[I", true)
  | 4 => ("PanelForms$Search", "taken", "[I", true)
  | 5 => ("PanelForms$Search", "bestKinds", "[I", true)
  | 6 => ("PanelForms$Search", "bestTaken", "[I", true)
  | 7 => ("PanelForms$Search", "bestRows", "I", false)
  | 8 => ("PanelForms$Search", "bestCopies", "I", false)
  | 9 => ("PanelForms$Search", "mostRows", "I", false)
  | 10 => ("PanelForms$Search", "mostRoom", "I", false)
  | _ => ("PanelForms$Search", "gapBetween", "J", false)
def t_S : Nat → FieldType := fun k => match k with
  | 0 => .array .int
  | 1 => .array .long
  | 2 => .array .int
  | 3 => .array .int
  | 4 => .array .int
  | 5 => .array .int
  | 6 => .array .int
  | 7 => .int
  | 8 => .int
  | 9 => .int
  | 10 => .int
  | _ => .long
abbrev u_S : List Cond := u_ws R_S T_S 12
theorem n_S : ∀ a, a < 12 → ∀ b, b < 12 → a ≠ b → (T_S a).2.1 ≠ (T_S b).2.1 := by decide +kernel
theorem t_S_ok : ∀ k, k < 12 → parseFieldDescriptor (T_S k).2.2.1 = some (t_S k) := by decide +kernel
abbrev R_L : String := "PanelFormsLaw"
abbrev ncl : List vw_C := [(R_P, T_P, 10), (R_M, T_M, 26), (R_B, T_B, 12), (R_Y, T_Y, 17), (R_S, T_S, 12)]
abbrev c_P_init : ByteArray := prog_1_method_1_code
abbrev y_P_init : MethodName := ⟨R_P, "<init>", "(JJ)V"⟩
abbrev c_P_board : ByteArray := prog_1_method_2_code
abbrev y_P_board : MethodName := ⟨R_P, "board", "()I"⟩
abbrev c_P_corner : ByteArray := prog_1_method_3_code
abbrev y_P_corner : MethodName := ⟨R_P, "corner", "(IJJ)Z"⟩
abbrev c_P_run : ByteArray := prog_1_method_4_code
abbrev y_P_run : MethodName := ⟨R_P, "run", "(IJ)I"⟩
abbrev c_P_at : ByteArray := prog_1_method_5_code
abbrev y_P_at : MethodName := ⟨R_P, "at", "(II)J"⟩
abbrev c_P_proved : ByteArray := prog_1_method_6_code
abbrev y_P_proved : MethodName := ⟨R_P, "proved", "()Z"⟩
abbrev c_P_gap : ByteArray := prog_1_method_7_code
abbrev y_P_gap : MethodName := ⟨R_P, "gap", "(J)Z"⟩
abbrev c_P_tab : ByteArray := prog_1_method_8_code
abbrev y_P_tab : MethodName := ⟨R_P, "tab", "(III)J"⟩
abbrev c_P_score : ByteArray := prog_1_method_9_code
abbrev y_P_score : MethodName := ⟨R_P, "score", "(II)J"⟩
abbrev c_P_part : ByteArray := prog_1_method_10_code
abbrev y_P_part : MethodName := ⟨R_P, "part", "(IJJJ)Z"⟩
abbrev c_P_waste : ByteArray := prog_1_method_11_code
abbrev y_P_waste : MethodName := ⟨R_P, "waste", "(I)J"⟩
abbrev c_P_mill : ByteArray := prog_1_method_12_code
abbrev y_P_mill : MethodName := ⟨R_P, "mill", "(II)J"⟩
abbrev c_P_radius : ByteArray := prog_1_method_13_code
abbrev y_P_radius : MethodName := ⟨R_P, "radius", "(J)Z"⟩
abbrev c_P_bad : ByteArray := prog_1_method_14_code
abbrev y_P_bad : MethodName := ⟨R_P, "bad", "(IZ)Z"⟩
abbrev c_P_rail : ByteArray := prog_1_method_15_code
abbrev y_P_rail : MethodName := ⟨R_P, "rail", "(IJ)Z"⟩
abbrev c_P_overlaps : ByteArray := prog_1_method_16_code
abbrev y_P_overlaps : MethodName := ⟨R_P, "overlaps", "()Z"⟩
abbrev c_P_order : ByteArray := prog_1_method_17_code
abbrev y_P_order : MethodName := ⟨R_P, "order", "(I)I"⟩
abbrev c_P_wants : ByteArray := prog_1_method_18_code
abbrev y_P_wants : MethodName := ⟨R_P, "wants", "(II)Z"⟩
abbrev c_P_asPanelLength : ByteArray := prog_1_method_19_code
abbrev y_P_asPanelLength : MethodName := ⟨R_P, "asPanelLength", "(J)J"⟩
abbrev c_P_isWithin : ByteArray := prog_1_method_20_code
abbrev y_P_isWithin : MethodName := ⟨R_P, "isWithin", "(JJJ)Z"⟩
abbrev c_P_checkLength : ByteArray := prog_1_method_21_code
abbrev y_P_checkLength : MethodName := ⟨R_P, "checkLength", "(J)V"⟩
abbrev c_P_checkSide : ByteArray := prog_1_method_22_code
abbrev y_P_checkSide : MethodName := ⟨R_P, "checkSide", "(I)V"⟩
abbrev c_P_checkOneOfTwo : ByteArray := prog_1_method_23_code
abbrev y_P_checkOneOfTwo : MethodName := ⟨R_P, "checkOneOfTwo", "(I)V"⟩
abbrev c_P_checkBoard : ByteArray := prog_1_method_24_code
abbrev y_P_checkBoard : MethodName := ⟨R_P, "checkBoard", "(I)V"⟩
abbrev c_P_checkCopy : ByteArray := prog_1_method_25_code
abbrev y_P_checkCopy : MethodName := ⟨R_P, "checkCopy", "(I)V"⟩
abbrev c_P_prepareSearch : ByteArray := prog_1_method_26_code
abbrev y_P_prepareSearch : MethodName := ⟨R_P, "prepareSearch", "(I)V"⟩
abbrev c_P_roomInRow : ByteArray := prog_1_method_27_code
abbrev y_P_roomInRow : MethodName := ⟨R_P, "roomInRow", "(JJJ)I"⟩
abbrev c_P_layOutBest : ByteArray := prog_1_method_28_code
abbrev y_P_layOutBest : MethodName := ⟨R_P, "layOutBest", "()V"⟩
abbrev c_P_tabOffset : ByteArray := prog_1_method_29_code
abbrev y_P_tabOffset : MethodName := ⟨R_P, "tabOffset", "(IIIJ)J"⟩
abbrev c_P_grownEnd : ByteArray := prog_1_method_30_code
abbrev y_P_grownEnd : MethodName := ⟨R_P, "grownEnd", "(JJZ)J"⟩
abbrev c_P_twiceAreaOfCopies : ByteArray := prog_1_method_31_code
abbrev y_P_twiceAreaOfCopies : MethodName := ⟨R_P, "twiceAreaOfCopies", "()J"⟩
abbrev c_P_commonDivisor : ByteArray := prog_1_method_32_code
abbrev y_P_commonDivisor : MethodName := ⟨R_P, "commonDivisor", "(JJ)J"⟩
abbrev c_M_init : ByteArray := prog_6_method_1_code
abbrev y_M_init : MethodName := ⟨R_M, "<init>", "(JJ)V"⟩
abbrev c_M_thrown : ByteArray := prog_6_method_2_code
abbrev y_M_thrown : MethodName := ⟨R_M, "thrown", "()I"⟩
abbrev c_M_isBoard : ByteArray := prog_6_method_3_code
abbrev y_M_isBoard : MethodName := ⟨R_M, "isBoard", "(I)Z"⟩
abbrev c_M_isSize : ByteArray := prog_6_method_4_code
abbrev y_M_isSize : MethodName := ⟨R_M, "isSize", "(J)Z"⟩
abbrev c_M_board : ByteArray := prog_6_method_5_code
abbrev y_M_board : MethodName := ⟨R_M, "board", "()I"⟩
abbrev c_M_corner : ByteArray := prog_6_method_6_code
abbrev y_M_corner : MethodName := ⟨R_M, "corner", "(IJJ)Z"⟩
abbrev c_M_part : ByteArray := prog_6_method_7_code
abbrev y_M_part : MethodName := ⟨R_M, "part", "(IJJJ)Z"⟩
abbrev c_M_gap : ByteArray := prog_6_method_8_code
abbrev y_M_gap : MethodName := ⟨R_M, "gap", "(J)Z"⟩
abbrev c_M_radius : ByteArray := prog_6_method_9_code
abbrev y_M_radius : MethodName := ⟨R_M, "radius", "(J)Z"⟩
abbrev c_M_rail : ByteArray := prog_6_method_10_code
abbrev y_M_rail : MethodName := ⟨R_M, "rail", "(IJ)Z"⟩
abbrev c_M_wants : ByteArray := prog_6_method_11_code
abbrev y_M_wants : MethodName := ⟨R_M, "wants", "(II)Z"⟩
abbrev c_M_findBox : ByteArray := prog_6_method_12_code
abbrev y_M_findBox : MethodName := ⟨R_M, "findBox", "(I)V"⟩
abbrev c_M_wideOf : ByteArray := prog_6_method_13_code
abbrev y_M_wideOf : MethodName := ⟨R_M, "wideOf", "(I)J"⟩
abbrev c_M_highOf : ByteArray := prog_6_method_14_code
abbrev y_M_highOf : MethodName := ⟨R_M, "highOf", "(I)J"⟩
abbrev c_M_fitsAlong : ByteArray := prog_6_method_15_code
abbrev y_M_fitsAlong : MethodName := ⟨R_M, "fitsAlong", "(II)I"⟩
abbrev c_M_rowsOf : ByteArray := prog_6_method_16_code
abbrev y_M_rowsOf : MethodName := ⟨R_M, "rowsOf", "()I"⟩
abbrev c_M_isLow : ByteArray := prog_6_method_17_code
abbrev y_M_isLow : MethodName := ⟨R_M, "isLow", "()Z"⟩
abbrev c_M_copiesOf : ByteArray := prog_6_method_18_code
abbrev y_M_copiesOf : MethodName := ⟨R_M, "copiesOf", "()I"⟩
abbrev c_M_isAhead : ByteArray := prog_6_method_19_code
abbrev y_M_isAhead : MethodName := ⟨R_M, "isAhead", "()Z"⟩
abbrev c_M_weigh : ByteArray := prog_6_method_20_code
abbrev y_M_weigh : MethodName := ⟨R_M, "weigh", "()V"⟩
abbrev c_M_search : ByteArray := prog_6_method_21_code
abbrev y_M_search : MethodName := ⟨R_M, "search", "(I)V"⟩
abbrev c_M_goOn : ByteArray := prog_6_method_22_code
abbrev y_M_goOn : MethodName := ⟨R_M, "goOn", "(I)Z"⟩
abbrev c_M_layOut : ByteArray := prog_6_method_23_code
abbrev y_M_layOut : MethodName := ⟨R_M, "layOut", "()V"⟩
abbrev c_M_put : ByteArray := prog_6_method_24_code
abbrev y_M_put : MethodName := ⟨R_M, "put", "(IJJIJJ)V"⟩
abbrev c_M_run : ByteArray := prog_6_method_25_code
abbrev y_M_run : MethodName := ⟨R_M, "run", "(IJ)I"⟩
abbrev c_M_proved : ByteArray := prog_6_method_26_code
abbrev y_M_proved : MethodName := ⟨R_M, "proved", "()Z"⟩
abbrev c_M_isCopy : ByteArray := prog_6_method_27_code
abbrev y_M_isCopy : MethodName := ⟨R_M, "isCopy", "(I)Z"⟩
abbrev c_M_at : ByteArray := prog_6_method_28_code
abbrev y_M_at : MethodName := ⟨R_M, "at", "(II)J"⟩
abbrev c_M_tab : ByteArray := prog_6_method_29_code
abbrev y_M_tab : MethodName := ⟨R_M, "tab", "(III)J"⟩
abbrev c_M_nextScore : ByteArray := prog_6_method_30_code
abbrev y_M_nextScore : MethodName := ⟨R_M, "nextScore", "(J)J"⟩
abbrev c_M_score : ByteArray := prog_6_method_31_code
abbrev y_M_score : MethodName := ⟨R_M, "score", "(II)J"⟩
abbrev c_M_areaOf : ByteArray := prog_6_method_32_code
abbrev y_M_areaOf : MethodName := ⟨R_M, "areaOf", "(I)J"⟩
abbrev c_M_waste : ByteArray := prog_6_method_33_code
abbrev y_M_waste : MethodName := ⟨R_M, "waste", "(I)J"⟩
abbrev c_M_orderOf : ByteArray := prog_6_method_34_code
abbrev y_M_orderOf : MethodName := ⟨R_M, "orderOf", "(I)I"⟩
abbrev c_M_order : ByteArray := prog_6_method_35_code
abbrev y_M_order : MethodName := ⟨R_M, "order", "(I)I"⟩
abbrev c_M_mill : ByteArray := prog_6_method_36_code
abbrev y_M_mill : MethodName := ⟨R_M, "mill", "(II)J"⟩
abbrev c_M_bad : ByteArray := prog_6_method_37_code
abbrev y_M_bad : MethodName := ⟨R_M, "bad", "(IZ)Z"⟩
abbrev c_M_overlaps : ByteArray := prog_6_method_38_code
abbrev y_M_overlaps : MethodName := ⟨R_M, "overlaps", "()Z"⟩
abbrev c_B_init : ByteArray := prog_2_method_1_code
abbrev y_B_init : MethodName := ⟨R_B, "<init>", "()V"⟩
abbrev c_B_addCorner : ByteArray := prog_2_method_2_code
abbrev y_B_addCorner : MethodName := ⟨R_B, "addCorner", "(JJ)Z"⟩
abbrev c_B_addPart : ByteArray := prog_2_method_3_code
abbrev y_B_addPart : MethodName := ⟨R_B, "addPart", "(JJJ)Z"⟩
abbrev c_B_hasArea : ByteArray := prog_2_method_4_code
abbrev y_B_hasArea : MethodName := ⟨R_B, "hasArea", "()Z"⟩
abbrev c_B_wide : ByteArray := prog_2_method_5_code
abbrev y_B_wide : MethodName := ⟨R_B, "wide", "(I)J"⟩
abbrev c_B_high : ByteArray := prog_2_method_6_code
abbrev y_B_high : MethodName := ⟨R_B, "high", "(I)J"⟩
abbrev c_B_hasPartNear : ByteArray := prog_2_method_7_code
abbrev y_B_hasPartNear : MethodName := ⟨R_B, "hasPartNear", "(JJI)Z"⟩
abbrev c_B_twiceArea : ByteArray := prog_2_method_8_code
abbrev y_B_twiceArea : MethodName := ⟨R_B, "twiceArea", "()J"⟩
abbrev c_Y_init : ByteArray := prog_3_method_1_code
abbrev y_Y_init : MethodName := ⟨R_Y, "<init>", "()V"⟩
abbrev c_Y_begin : ByteArray := prog_3_method_2_code
abbrev y_Y_begin : MethodName := ⟨R_Y, "begin", "(JJJ)V"⟩
abbrev c_Y_addRow : ByteArray := prog_3_method_3_code
abbrev y_Y_addRow : MethodName := ⟨R_Y, "addRow", "(IIJJI)V"⟩
abbrev c_Y_addCopies : ByteArray := prog_3_method_4_code
abbrev y_Y_addCopies : MethodName := ⟨R_Y, "addCopies", "(IJ)V"⟩
abbrev c_Y_addScore : ByteArray := prog_3_method_5_code
abbrev y_Y_addScore : MethodName := ⟨R_Y, "addScore", "(JI)V"⟩
abbrev c_Y_copyInOrder : ByteArray := prog_3_method_6_code
abbrev y_Y_copyInOrder : MethodName := ⟨R_Y, "copyInOrder", "(I)I"⟩
abbrev c_Y_countOf : ByteArray := prog_3_method_7_code
abbrev y_Y_countOf : MethodName := ⟨R_Y, "countOf", "(Z)I"⟩
abbrev c_Y_nthOf : ByteArray := prog_3_method_8_code
abbrev y_Y_nthOf : MethodName := ⟨R_Y, "nthOf", "(ZI)I"⟩
abbrev c_S_init : ByteArray := prog_4_method_1_code
abbrev y_S_init : MethodName := ⟨R_S, "<init>", "()V"⟩
abbrev c_S_begin : ByteArray := prog_4_method_2_code
abbrev y_S_begin : MethodName := ⟨R_S, "begin", "(J)V"⟩
abbrev c_S_allowKind : ByteArray := prog_4_method_3_code
abbrev y_S_allowKind : MethodName := ⟨R_S, "allowKind", "(IIJ)V"⟩
abbrev c_S_look : ByteArray := prog_4_method_4_code
abbrev y_S_look : MethodName := ⟨R_S, "look", "(IJ)V"⟩
abbrev c_S_findsMore : ByteArray := prog_4_method_5_code
abbrev y_S_findsMore : MethodName := ⟨R_S, "findsMore", "(IJ)Z"⟩
abbrev c_S_tryRow : ByteArray := prog_4_method_6_code
abbrev y_S_tryRow : MethodName := ⟨R_S, "tryRow", "(IIIJ)V"⟩
abbrev c_S_keepIfBetter : ByteArray := prog_4_method_7_code
abbrev y_S_keepIfBetter : MethodName := ⟨R_S, "keepIfBetter", "(II)V"⟩
abbrev c_L_cell : ByteArray := method_2_code
abbrev y_L_cell : MethodName := ⟨R_L, "cell", "([II)I"⟩
abbrev c_L_corner : ByteArray := method_3_code
abbrev y_L_corner : MethodName := ⟨R_L, "corner", "(LPanelForms;IJJ[J)I"⟩
abbrev c_L_run : ByteArray := method_4_code
abbrev y_L_run : MethodName := ⟨R_L, "run", "(LPanelForms;IJ[J)I"⟩
abbrev c_L_at : ByteArray := method_5_code
abbrev y_L_at : MethodName := ⟨R_L, "at", "(LPanelForms;II[J)I"⟩
abbrev c_L_gap : ByteArray := method_6_code
abbrev y_L_gap : MethodName := ⟨R_L, "gap", "(LPanelForms;J[J)I"⟩
abbrev c_L_tab : ByteArray := method_7_code
abbrev y_L_tab : MethodName := ⟨R_L, "tab", "(LPanelForms;III[J)I"⟩
abbrev c_L_score : ByteArray := method_8_code
abbrev y_L_score : MethodName := ⟨R_L, "score", "(LPanelForms;II[J)I"⟩
abbrev c_L_part : ByteArray := method_9_code
abbrev y_L_part : MethodName := ⟨R_L, "part", "(LPanelForms;IJJJ[J)I"⟩
abbrev c_L_waste : ByteArray := method_10_code
abbrev y_L_waste : MethodName := ⟨R_L, "waste", "(LPanelForms;I[J)I"⟩
abbrev c_L_mill : ByteArray := method_11_code
abbrev y_L_mill : MethodName := ⟨R_L, "mill", "(LPanelForms;II[J)I"⟩
abbrev c_L_radius : ByteArray := method_12_code
abbrev y_L_radius : MethodName := ⟨R_L, "radius", "(LPanelForms;J[J)I"⟩
abbrev c_L_bad : ByteArray := method_13_code
abbrev y_L_bad : MethodName := ⟨R_L, "bad", "(LPanelForms;IZ[J)I"⟩
abbrev c_L_rail : ByteArray := method_14_code
abbrev y_L_rail : MethodName := ⟨R_L, "rail", "(LPanelForms;IJ[J)I"⟩
abbrev c_L_wants : ByteArray := method_15_code
abbrev y_L_wants : MethodName := ⟨R_L, "wants", "(LPanelForms;II[J)I"⟩
abbrev c_L_law : ByteArray := code
abbrev y_L_law : MethodName := ⟨R_L, "law", "([I)Z"⟩
/-! words: what the tables say holds at every state whose tables are warmer than the start's -/
def kw (s0 : State) (w : Cond) : Prop := ∀ (U : State) (a : Array Value), s0.WarmedH U.vm → w.before a U = true
def zt (s0 : State) : Prop := ∀ w ∈ lw_tbl, ∃ a : Array Value, w.before a s0 = true
theorem kw_g {s0 : State} (Z : zt s0) {w : Cond} (hm : w ∈ lw_tbl) (hg : goodWord w = true) : kw s0 w := fun U a hW => by
  obtain ⟨a0, h⟩ := Z w hm
  exact word_at hW (good_of_word hg) h
theorem tb_in {w : Cond} (i : Nat) (h : tables_1[i]? = some w) : w ∈ lw_tbl := List.mem_append_right _ (List.mem_of_getElem? h)
theorem pv_in {q : MethodName × Nat} (i : Nat) (h : lw_privs[i]? = some q) : Cond.selects q.1.cls q.1 q.1 ∈ lw_tbl := List.mem_append_left _ (List.mem_map.mpr ⟨q, List.mem_of_getElem? h, rfl⟩)
theorem kw_fn {s0 : State} (Z : zt s0) {a : String} {i : Nat} {b n d h : String} (hm : Cond.fieldLinkNest a i b n d h ∈ lw_tbl) : kw s0 (.fieldLinkNest a i b n d h) := fun U ar hW => by
  obtain ⟨a0, h⟩ := Z _ hm
  exact va_Nw.use rfl (va_Nw.warmF hW (va_Nw.of rfl h))
theorem kw_mn {s0 : State} (Z : zt s0) {a : String} {i : Nat} {x : MethodName} {h : String} (hm : Cond.methodLinkNest a i x h ∈ lw_tbl) : kw s0 (.methodLinkNest a i x h) := fun U ar hW => by
  obtain ⟨a0, h⟩ := Z _ hm
  exact va_Nw.use rfl (va_Nw.warmM hW (va_Nw.of rfl h))
set_option maxRecDepth 20000 in
theorem uw_P {s0 : State} (Z : zt s0) {U : State} {a : Array Value} (hW : s0.WarmedH U.vm) : ∀ w ∈ u_P, w.before a U = true := fun w h => kw_g Z (List.mem_append_right _ ((by decide +kernel : ∀ w ∈ u_P, w ∈ tables_1) w h)) (List.all_eq_true.mp (by decide +kernel : u_P.all goodWord = true) w h) U a hW
set_option maxRecDepth 20000 in
theorem uw_M {s0 : State} (Z : zt s0) {U : State} {a : Array Value} (hW : s0.WarmedH U.vm) : ∀ w ∈ u_M, w.before a U = true := fun w h => kw_g Z (List.mem_append_right _ ((by decide +kernel : ∀ w ∈ u_M, w ∈ tables_1) w h)) (List.all_eq_true.mp (by decide +kernel : u_M.all goodWord = true) w h) U a hW
set_option maxRecDepth 20000 in
theorem uw_B {s0 : State} (Z : zt s0) {U : State} {a : Array Value} (hW : s0.WarmedH U.vm) : ∀ w ∈ u_B, w.before a U = true := fun w h => kw_g Z (List.mem_append_right _ ((by decide +kernel : ∀ w ∈ u_B, w ∈ tables_1) w h)) (List.all_eq_true.mp (by decide +kernel : u_B.all goodWord = true) w h) U a hW
set_option maxRecDepth 20000 in
theorem uw_Y {s0 : State} (Z : zt s0) {U : State} {a : Array Value} (hW : s0.WarmedH U.vm) : ∀ w ∈ u_Y, w.before a U = true := fun w h => kw_g Z (List.mem_append_right _ ((by decide +kernel : ∀ w ∈ u_Y, w ∈ tables_1) w h)) (List.all_eq_true.mp (by decide +kernel : u_Y.all goodWord = true) w h) U a hW
set_option maxRecDepth 20000 in
theorem uw_S {s0 : State} (Z : zt s0) {U : State} {a : Array Value} (hW : s0.WarmedH U.vm) : ∀ w ∈ u_S, w.before a U = true := fun w h => kw_g Z (List.mem_append_right _ ((by decide +kernel : ∀ w ∈ u_S, w ∈ tables_1) w h)) (List.all_eq_true.mp (by decide +kernel : u_S.all goodWord = true) w h) U a hW
theorem kw0 {s0 : State} (Z : zt s0) : kw s0 (.initialized "PanelFormsLaw") := kw_g Z (tb_in 0 (by decide +kernel)) (by decide +kernel)
theorem kw1 {s0 : State} (Z : zt s0) : kw s0 (.initialized "PanelForms") := kw_g Z (tb_in 1 (by decide +kernel)) (by decide +kernel)
theorem kw2 {s0 : State} (Z : zt s0) : kw s0 (.initialized "java/lang/Math") := kw_g Z (tb_in 2 (by decide +kernel)) (by decide +kernel)
theorem kw3 {s0 : State} (Z : zt s0) : kw s0 (.initialized "PanelForms$Board") := kw_g Z (tb_in 3 (by decide +kernel)) (by decide +kernel)
theorem kw4 {s0 : State} (Z : zt s0) : kw s0 (.initialized "PanelForms$Search") := kw_g Z (tb_in 4 (by decide +kernel)) (by decide +kernel)
theorem kw5 {s0 : State} (Z : zt s0) : kw s0 (.initialized "PanelForms$Layout") := kw_g Z (tb_in 5 (by decide +kernel)) (by decide +kernel)
theorem kw6 {s0 : State} (Z : zt s0) : kw s0 (.initialized "PanelFormsModel") := kw_g Z (tb_in 6 (by decide +kernel)) (by decide +kernel)
theorem kw7 {s0 : State} (Z : zt s0) : kw s0 (.initialized "java/lang/Throwable") := kw_g Z (tb_in 7 (by decide +kernel)) (by decide +kernel)
theorem kw8 {s0 : State} (Z : zt s0) : kw s0 (.initialized "java/lang/Exception") := kw_g Z (tb_in 8 (by decide +kernel)) (by decide +kernel)
theorem kw9 {s0 : State} (Z : zt s0) : kw s0 (.initialized "java/lang/RuntimeException") := kw_g Z (tb_in 9 (by decide +kernel)) (by decide +kernel)
theorem kw10 {s0 : State} (Z : zt s0) : kw s0 (.initialized "java/lang/IndexOutOfBoundsException") := kw_g Z (tb_in 10 (by decide +kernel)) (by decide +kernel)
theorem kw11 {s0 : State} (Z : zt s0) : kw s0 (.initialized "java/lang/IllegalArgumentException") := kw_g Z (tb_in 11 (by decide +kernel)) (by decide +kernel)
theorem kw12 {s0 : State} (Z : zt s0) : kw s0 (.initialized "java/lang/IllegalStateException") := kw_g Z (tb_in 12 (by decide +kernel)) (by decide +kernel)
theorem kw13 {s0 : State} (Z : zt s0) : kw s0 (.classLink "PanelFormsLaw" 8 "PanelForms") := kw_g Z (tb_in 13 (by decide +kernel)) (by decide +kernel)
theorem kw14 {s0 : State} (Z : zt s0) : kw s0 (.instantiable "PanelForms" 10) := kw_g Z (tb_in 14 (by decide +kernel)) (by decide +kernel)
theorem kw15 {s0 : State} (Z : zt s0) : kw s0 (.methodLink "PanelFormsLaw" 70 ⟨"PanelForms", "<init>", "(JJ)V"⟩) := kw_g Z (tb_in 15 (by decide +kernel)) (by decide +kernel)
theorem kw16 {s0 : State} (Z : zt s0) : kw s0 (.instanceMethod ⟨"PanelForms", "<init>", "(JJ)V"⟩) := kw_g Z (tb_in 16 (by decide +kernel)) (by decide +kernel)
theorem kw17 {s0 : State} (Z : zt s0) : kw s0 (.code ⟨"PanelForms", "<init>", "(JJ)V"⟩ prog_1_method_1_code 6 none) := kw_g Z (tb_in 17 (by decide +kernel)) (by decide +kernel)
theorem kw18 {s0 : State} (Z : zt s0) : kw s0 (.methodLink "PanelForms" 3 ⟨"java/lang/Object", "<init>", "()V"⟩) := kw_g Z (tb_in 18 (by decide +kernel)) (by decide +kernel)
theorem kw19 {s0 : State} (Z : zt s0) : kw s0 (.instanceMethod ⟨"java/lang/Object", "<init>", "()V"⟩) := kw_g Z (tb_in 19 (by decide +kernel)) (by decide +kernel)
theorem kw20 {s0 : State} (Z : zt s0) : kw s0 (.code ⟨"java/lang/Object", "<init>", "()V"⟩ object_method_1_code 1 none) := kw_g Z (tb_in 20 (by decide +kernel)) (by decide +kernel)
theorem kw21 {s0 : State} (Z : zt s0) : kw s0 (.methodLink "PanelForms" 9 ⟨"PanelForms", "asPanelLength", "(J)J"⟩) := kw_g Z (tb_in 21 (by decide +kernel)) (by decide +kernel)
theorem kw22 {s0 : State} (Z : zt s0) : kw s0 (.static ⟨"PanelForms", "asPanelLength", "(J)J"⟩) := kw_g Z (tb_in 22 (by decide +kernel)) (by decide +kernel)
theorem kw23 {s0 : State} (Z : zt s0) : kw s0 (.code ⟨"PanelForms", "asPanelLength", "(J)J"⟩ prog_1_method_19_code 2 (some .long)) := kw_g Z (tb_in 23 (by decide +kernel)) (by decide +kernel)
theorem kw24 {s0 : State} (Z : zt s0) : kw s0 (.constantLong "PanelForms" 208 (65536 : Int64)) := kw_g Z (tb_in 24 (by decide +kernel)) (by decide +kernel)
theorem kw25 {s0 : State} (Z : zt s0) : kw s0 (.methodLink "PanelForms" 210 ⟨"java/lang/Math", "min", "(JJ)J"⟩) := kw_g Z (tb_in 25 (by decide +kernel)) (by decide +kernel)
theorem kw26 {s0 : State} (Z : zt s0) : kw s0 (.static ⟨"java/lang/Math", "min", "(JJ)J"⟩) := kw_g Z (tb_in 26 (by decide +kernel)) (by decide +kernel)
theorem kw27 {s0 : State} (Z : zt s0) : kw s0 (.code ⟨"java/lang/Math", "min", "(JJ)J"⟩ prog_11_method_70_code 4 (some .long)) := kw_g Z (tb_in 27 (by decide +kernel)) (by decide +kernel)
theorem kw28 {s0 : State} (Z : zt s0) : kw s0 (.methodLink "PanelForms" 212 ⟨"java/lang/Math", "max", "(JJ)J"⟩) := kw_g Z (tb_in 28 (by decide +kernel)) (by decide +kernel)
theorem kw29 {s0 : State} (Z : zt s0) : kw s0 (.static ⟨"java/lang/Math", "max", "(JJ)J"⟩) := kw_g Z (tb_in 29 (by decide +kernel)) (by decide +kernel)
theorem kw30 {s0 : State} (Z : zt s0) : kw s0 (.code ⟨"java/lang/Math", "max", "(JJ)J"⟩ prog_11_method_66_code 4 (some .long)) := kw_g Z (tb_in 30 (by decide +kernel)) (by decide +kernel)
theorem kw31 {s0 : State} (Z : zt s0) : kw s0 (.classLink "PanelForms" 20 "PanelForms$Board") := kw_g Z (tb_in 31 (by decide +kernel)) (by decide +kernel)
theorem kw33 {s0 : State} (Z : zt s0) : kw s0 (.instantiable "PanelForms$Board" 12) := kw_g Z (tb_in 33 (by decide +kernel)) (by decide +kernel)
theorem kw34 {s0 : State} (Z : zt s0) : kw s0 (.methodLinkNest "PanelForms" 26 ⟨"PanelForms$Board", "<init>", "()V"⟩ "PanelForms") := kw_mn Z (tb_in 34 (by decide +kernel))
theorem kw35 {s0 : State} (Z : zt s0) : kw s0 (.instanceMethod ⟨"PanelForms$Board", "<init>", "()V"⟩) := kw_g Z (tb_in 35 (by decide +kernel)) (by decide +kernel)
theorem kw36 {s0 : State} (Z : zt s0) : kw s0 (.code ⟨"PanelForms$Board", "<init>", "()V"⟩ prog_2_method_1_code 1 none) := kw_g Z (tb_in 36 (by decide +kernel)) (by decide +kernel)
theorem kw37 {s0 : State} (Z : zt s0) : kw s0 (.methodLink "PanelForms$Board" 3 ⟨"java/lang/Object", "<init>", "()V"⟩) := kw_g Z (tb_in 37 (by decide +kernel)) (by decide +kernel)
theorem kw38 {s0 : State} (Z : zt s0) : kw s0 (.fieldLink "PanelForms$Board" 9 "PanelForms$Board" "cornerX" "[J") := kw_g Z (tb_in 38 (by decide +kernel)) (by decide +kernel)
theorem kw39 {s0 : State} (Z : zt s0) : kw s0 (.fieldLink "PanelForms$Board" 15 "PanelForms$Board" "cornerY" "[J") := kw_g Z (tb_in 39 (by decide +kernel)) (by decide +kernel)
theorem kw40 {s0 : State} (Z : zt s0) : kw s0 (.fieldLink "PanelForms$Board" 18 "PanelForms$Board" "partX" "[J") := kw_g Z (tb_in 40 (by decide +kernel)) (by decide +kernel)
theorem kw41 {s0 : State} (Z : zt s0) : kw s0 (.fieldLink "PanelForms$Board" 21 "PanelForms$Board" "partY" "[J") := kw_g Z (tb_in 41 (by decide +kernel)) (by decide +kernel)
theorem kw42 {s0 : State} (Z : zt s0) : kw s0 (.fieldLink "PanelForms$Board" 24 "PanelForms$Board" "partRadius" "[J") := kw_g Z (tb_in 42 (by decide +kernel)) (by decide +kernel)
theorem kw43 {s0 : State} (Z : zt s0) : kw s0 (.fieldLink "PanelForms$Board" 31 "PanelForms$Board" "corners" "I") := kw_g Z (tb_in 43 (by decide +kernel)) (by decide +kernel)
theorem kw44 {s0 : State} (Z : zt s0) : kw s0 (.fieldLink "PanelForms$Board" 56 "PanelForms$Board" "parts" "I") := kw_g Z (tb_in 44 (by decide +kernel)) (by decide +kernel)
theorem kw45 {s0 : State} (Z : zt s0) : kw s0 (.fieldLink "PanelForms$Board" 34 "PanelForms$Board" "leastX" "J") := kw_g Z (tb_in 45 (by decide +kernel)) (by decide +kernel)
theorem kw46 {s0 : State} (Z : zt s0) : kw s0 (.fieldLink "PanelForms$Board" 44 "PanelForms$Board" "leastY" "J") := kw_g Z (tb_in 46 (by decide +kernel)) (by decide +kernel)
theorem kw47 {s0 : State} (Z : zt s0) : kw s0 (.fieldLink "PanelForms$Board" 47 "PanelForms$Board" "greatestX" "J") := kw_g Z (tb_in 47 (by decide +kernel)) (by decide +kernel)
theorem kw48 {s0 : State} (Z : zt s0) : kw s0 (.fieldLink "PanelForms$Board" 53 "PanelForms$Board" "greatestY" "J") := kw_g Z (tb_in 48 (by decide +kernel)) (by decide +kernel)
theorem kw49 {s0 : State} (Z : zt s0) : kw s0 (.fieldLink "PanelForms$Board" 27 "PanelForms$Board" "wanted" "I") := kw_g Z (tb_in 49 (by decide +kernel)) (by decide +kernel)
theorem kw50 {s0 : State} (Z : zt s0) : kw s0 (.fieldLinkNest "PanelForms" 205 "PanelForms$Board" "wanted" "I" "PanelForms") := kw_fn Z (tb_in 50 (by decide +kernel))
theorem kw76 {s0 : State} (Z : zt s0) : kw s0 (.arrayClass .long) := kw_g Z (tb_in 76 (by decide +kernel)) (by decide +kernel)
theorem kw77 {s0 : State} (Z : zt s0) : kw s0 (.classLink "PanelForms" 31 "PanelForms$Search") := kw_g Z (tb_in 77 (by decide +kernel)) (by decide +kernel)
theorem kw78 {s0 : State} (Z : zt s0) : kw s0 (.instantiable "PanelForms$Search" 12) := kw_g Z (tb_in 78 (by decide +kernel)) (by decide +kernel)
theorem kw79 {s0 : State} (Z : zt s0) : kw s0 (.methodLinkNest "PanelForms" 33 ⟨"PanelForms$Search", "<init>", "()V"⟩ "PanelForms") := kw_mn Z (tb_in 79 (by decide +kernel))
theorem kw80 {s0 : State} (Z : zt s0) : kw s0 (.instanceMethod ⟨"PanelForms$Search", "<init>", "()V"⟩) := kw_g Z (tb_in 80 (by decide +kernel)) (by decide +kernel)
theorem kw81 {s0 : State} (Z : zt s0) : kw s0 (.code ⟨"PanelForms$Search", "<init>", "()V"⟩ prog_4_method_1_code 1 none) := kw_g Z (tb_in 81 (by decide +kernel)) (by decide +kernel)
theorem kw82 {s0 : State} (Z : zt s0) : kw s0 (.methodLink "PanelForms$Search" 3 ⟨"java/lang/Object", "<init>", "()V"⟩) := kw_g Z (tb_in 82 (by decide +kernel)) (by decide +kernel)
theorem kw83 {s0 : State} (Z : zt s0) : kw s0 (.fieldLink "PanelForms$Search" 9 "PanelForms$Search" "room" "[I") := kw_g Z (tb_in 83 (by decide +kernel)) (by decide +kernel)
theorem kw84 {s0 : State} (Z : zt s0) : kw s0 (.fieldLink "PanelForms$Search" 15 "PanelForms$Search" "highOfKind" "[J") := kw_g Z (tb_in 84 (by decide +kernel)) (by decide +kernel)
theorem kw85 {s0 : State} (Z : zt s0) : kw s0 (.fieldLink "PanelForms$Search" 19 "PanelForms$Search" "wantedLeft" "[I") := kw_g Z (tb_in 85 (by decide +kernel)) (by decide +kernel)
theorem kw86 {s0 : State} (Z : zt s0) : kw s0 (.fieldLinkNest "PanelForms" 234 "PanelForms$Search" "wantedLeft" "[I" "PanelForms") := kw_fn Z (tb_in 86 (by decide +kernel))
theorem kw87 {s0 : State} (Z : zt s0) : kw s0 (.fieldLink "PanelForms$Search" 22 "PanelForms$Search" "kinds" "[I") := kw_g Z (tb_in 87 (by decide +kernel)) (by decide +kernel)
theorem kw88 {s0 : State} (Z : zt s0) : kw s0 (.fieldLink "PanelForms$Search" 25 "PanelForms$Search" "taken" "[I") := kw_g Z (tb_in 88 (by decide +kernel)) (by decide +kernel)
theorem kw89 {s0 : State} (Z : zt s0) : kw s0 (.fieldLink "PanelForms$Search" 28 "PanelForms$Search" "bestKinds" "[I") := kw_g Z (tb_in 89 (by decide +kernel)) (by decide +kernel)
theorem kw90 {s0 : State} (Z : zt s0) : kw s0 (.fieldLinkNest "PanelForms" 260 "PanelForms$Search" "bestKinds" "[I" "PanelForms") := kw_fn Z (tb_in 90 (by decide +kernel))
theorem kw91 {s0 : State} (Z : zt s0) : kw s0 (.fieldLink "PanelForms$Search" 31 "PanelForms$Search" "bestTaken" "[I") := kw_g Z (tb_in 91 (by decide +kernel)) (by decide +kernel)
theorem kw92 {s0 : State} (Z : zt s0) : kw s0 (.fieldLinkNest "PanelForms" 263 "PanelForms$Search" "bestTaken" "[I" "PanelForms") := kw_fn Z (tb_in 92 (by decide +kernel))
theorem kw93 {s0 : State} (Z : zt s0) : kw s0 (.fieldLink "PanelForms$Search" 38 "PanelForms$Search" "bestRows" "I") := kw_g Z (tb_in 93 (by decide +kernel)) (by decide +kernel)
theorem kw94 {s0 : State} (Z : zt s0) : kw s0 (.fieldLinkNest "PanelForms" 257 "PanelForms$Search" "bestRows" "I" "PanelForms") := kw_fn Z (tb_in 94 (by decide +kernel))
theorem kw95 {s0 : State} (Z : zt s0) : kw s0 (.fieldLink "PanelForms$Search" 42 "PanelForms$Search" "bestCopies" "I") := kw_g Z (tb_in 95 (by decide +kernel)) (by decide +kernel)
theorem kw96 {s0 : State} (Z : zt s0) : kw s0 (.fieldLink "PanelForms$Search" 57 "PanelForms$Search" "mostRows" "I") := kw_g Z (tb_in 96 (by decide +kernel)) (by decide +kernel)
theorem kw97 {s0 : State} (Z : zt s0) : kw s0 (.fieldLink "PanelForms$Search" 45 "PanelForms$Search" "mostRoom" "I") := kw_g Z (tb_in 97 (by decide +kernel)) (by decide +kernel)
theorem kw98 {s0 : State} (Z : zt s0) : kw s0 (.fieldLink "PanelForms$Search" 34 "PanelForms$Search" "gapBetween" "J") := kw_g Z (tb_in 98 (by decide +kernel)) (by decide +kernel)
theorem kw124 {s0 : State} (Z : zt s0) : kw s0 (.arrayClass .int) := kw_g Z (tb_in 124 (by decide +kernel)) (by decide +kernel)
theorem kw125 {s0 : State} (Z : zt s0) : kw s0 (.classLink "PanelForms" 38 "PanelForms$Layout") := kw_g Z (tb_in 125 (by decide +kernel)) (by decide +kernel)
theorem kw126 {s0 : State} (Z : zt s0) : kw s0 (.instantiable "PanelForms$Layout" 17) := kw_g Z (tb_in 126 (by decide +kernel)) (by decide +kernel)
theorem kw127 {s0 : State} (Z : zt s0) : kw s0 (.methodLinkNest "PanelForms" 40 ⟨"PanelForms$Layout", "<init>", "()V"⟩ "PanelForms") := kw_mn Z (tb_in 127 (by decide +kernel))
theorem kw128 {s0 : State} (Z : zt s0) : kw s0 (.instanceMethod ⟨"PanelForms$Layout", "<init>", "()V"⟩) := kw_g Z (tb_in 128 (by decide +kernel)) (by decide +kernel)
theorem kw129 {s0 : State} (Z : zt s0) : kw s0 (.code ⟨"PanelForms$Layout", "<init>", "()V"⟩ prog_3_method_1_code 1 none) := kw_g Z (tb_in 129 (by decide +kernel)) (by decide +kernel)
theorem kw130 {s0 : State} (Z : zt s0) : kw s0 (.methodLink "PanelForms$Layout" 3 ⟨"java/lang/Object", "<init>", "()V"⟩) := kw_g Z (tb_in 130 (by decide +kernel)) (by decide +kernel)
theorem kw131 {s0 : State} (Z : zt s0) : kw s0 (.fieldLink "PanelForms$Layout" 9 "PanelForms$Layout" "boardOfRow" "[I") := kw_g Z (tb_in 131 (by decide +kernel)) (by decide +kernel)
theorem kw132 {s0 : State} (Z : zt s0) : kw s0 (.fieldLinkNest "PanelForms" 110 "PanelForms$Layout" "boardOfRow" "[I" "PanelForms") := kw_fn Z (tb_in 132 (by decide +kernel))
theorem kw133 {s0 : State} (Z : zt s0) : kw s0 (.fieldLink "PanelForms$Layout" 15 "PanelForms$Layout" "turnOfRow" "[I") := kw_g Z (tb_in 133 (by decide +kernel)) (by decide +kernel)
theorem kw134 {s0 : State} (Z : zt s0) : kw s0 (.fieldLinkNest "PanelForms" 119 "PanelForms$Layout" "turnOfRow" "[I" "PanelForms") := kw_fn Z (tb_in 134 (by decide +kernel))
theorem kw135 {s0 : State} (Z : zt s0) : kw s0 (.fieldLink "PanelForms$Layout" 18 "PanelForms$Layout" "copiesInRow" "[I") := kw_g Z (tb_in 135 (by decide +kernel)) (by decide +kernel)
theorem kw136 {s0 : State} (Z : zt s0) : kw s0 (.fieldLinkNest "PanelForms" 273 "PanelForms$Layout" "copiesInRow" "[I" "PanelForms") := kw_fn Z (tb_in 136 (by decide +kernel))
theorem kw137 {s0 : State} (Z : zt s0) : kw s0 (.fieldLink "PanelForms$Layout" 21 "PanelForms$Layout" "yOfRow" "[J") := kw_g Z (tb_in 137 (by decide +kernel)) (by decide +kernel)
theorem kw138 {s0 : State} (Z : zt s0) : kw s0 (.fieldLinkNest "PanelForms" 116 "PanelForms$Layout" "yOfRow" "[J" "PanelForms") := kw_fn Z (tb_in 138 (by decide +kernel))
theorem kw139 {s0 : State} (Z : zt s0) : kw s0 (.fieldLink "PanelForms$Layout" 25 "PanelForms$Layout" "wideInRow" "[J") := kw_g Z (tb_in 139 (by decide +kernel)) (by decide +kernel)
theorem kw140 {s0 : State} (Z : zt s0) : kw s0 (.fieldLinkNest "PanelForms" 122 "PanelForms$Layout" "wideInRow" "[J" "PanelForms") := kw_fn Z (tb_in 140 (by decide +kernel))
theorem kw141 {s0 : State} (Z : zt s0) : kw s0 (.fieldLink "PanelForms$Layout" 28 "PanelForms$Layout" "highInRow" "[J") := kw_g Z (tb_in 141 (by decide +kernel)) (by decide +kernel)
theorem kw142 {s0 : State} (Z : zt s0) : kw s0 (.fieldLinkNest "PanelForms" 125 "PanelForms$Layout" "highInRow" "[J" "PanelForms") := kw_fn Z (tb_in 142 (by decide +kernel))
theorem kw143 {s0 : State} (Z : zt s0) : kw s0 (.fieldLink "PanelForms$Layout" 31 "PanelForms$Layout" "rowOfCopy" "[I") := kw_g Z (tb_in 143 (by decide +kernel)) (by decide +kernel)
theorem kw144 {s0 : State} (Z : zt s0) : kw s0 (.fieldLinkNest "PanelForms" 106 "PanelForms$Layout" "rowOfCopy" "[I" "PanelForms") := kw_fn Z (tb_in 144 (by decide +kernel))
theorem kw145 {s0 : State} (Z : zt s0) : kw s0 (.fieldLink "PanelForms$Layout" 34 "PanelForms$Layout" "xOfCopy" "[J") := kw_g Z (tb_in 145 (by decide +kernel)) (by decide +kernel)
theorem kw146 {s0 : State} (Z : zt s0) : kw s0 (.fieldLinkNest "PanelForms" 113 "PanelForms$Layout" "xOfCopy" "[J" "PanelForms") := kw_fn Z (tb_in 146 (by decide +kernel))
theorem kw147 {s0 : State} (Z : zt s0) : kw s0 (.fieldLink "PanelForms$Layout" 37 "PanelForms$Layout" "badCopy" "[Z") := kw_g Z (tb_in 147 (by decide +kernel)) (by decide +kernel)
theorem kw148 {s0 : State} (Z : zt s0) : kw s0 (.fieldLinkNest "PanelForms" 197 "PanelForms$Layout" "badCopy" "[Z" "PanelForms") := kw_fn Z (tb_in 148 (by decide +kernel))
theorem kw149 {s0 : State} (Z : zt s0) : kw s0 (.fieldLink "PanelForms$Layout" 41 "PanelForms$Layout" "yOfScore" "[J") := kw_g Z (tb_in 149 (by decide +kernel)) (by decide +kernel)
theorem kw150 {s0 : State} (Z : zt s0) : kw s0 (.fieldLinkNest "PanelForms" 160 "PanelForms$Layout" "yOfScore" "[J" "PanelForms") := kw_fn Z (tb_in 150 (by decide +kernel))
theorem kw151 {s0 : State} (Z : zt s0) : kw s0 (.fieldLink "PanelForms$Layout" 44 "PanelForms$Layout" "boxesAtScore" "[I") := kw_g Z (tb_in 151 (by decide +kernel)) (by decide +kernel)
theorem kw152 {s0 : State} (Z : zt s0) : kw s0 (.fieldLinkNest "PanelForms" 163 "PanelForms$Layout" "boxesAtScore" "[I" "PanelForms") := kw_fn Z (tb_in 152 (by decide +kernel))
theorem kw153 {s0 : State} (Z : zt s0) : kw s0 (.fieldLink "PanelForms$Layout" 47 "PanelForms$Layout" "rows" "I") := kw_g Z (tb_in 153 (by decide +kernel)) (by decide +kernel)
theorem kw154 {s0 : State} (Z : zt s0) : kw s0 (.fieldLinkNest "PanelForms" 270 "PanelForms$Layout" "rows" "I" "PanelForms") := kw_fn Z (tb_in 154 (by decide +kernel))
theorem kw155 {s0 : State} (Z : zt s0) : kw s0 (.fieldLink "PanelForms$Layout" 51 "PanelForms$Layout" "copies" "I") := kw_g Z (tb_in 155 (by decide +kernel)) (by decide +kernel)
theorem kw156 {s0 : State} (Z : zt s0) : kw s0 (.fieldLinkNest "PanelForms" 100 "PanelForms$Layout" "copies" "I" "PanelForms") := kw_fn Z (tb_in 156 (by decide +kernel))
theorem kw157 {s0 : State} (Z : zt s0) : kw s0 (.fieldLink "PanelForms$Layout" 54 "PanelForms$Layout" "scores" "I") := kw_g Z (tb_in 157 (by decide +kernel)) (by decide +kernel)
theorem kw158 {s0 : State} (Z : zt s0) : kw s0 (.fieldLinkNest "PanelForms" 155 "PanelForms$Layout" "scores" "I" "PanelForms") := kw_fn Z (tb_in 158 (by decide +kernel))
theorem kw159 {s0 : State} (Z : zt s0) : kw s0 (.fieldLink "PanelForms$Layout" 57 "PanelForms$Layout" "left" "J") := kw_g Z (tb_in 159 (by decide +kernel)) (by decide +kernel)
theorem kw160 {s0 : State} (Z : zt s0) : kw s0 (.fieldLink "PanelForms$Layout" 61 "PanelForms$Layout" "nextY" "J") := kw_g Z (tb_in 160 (by decide +kernel)) (by decide +kernel)
theorem kw161 {s0 : State} (Z : zt s0) : kw s0 (.fieldLink "PanelForms$Layout" 64 "PanelForms$Layout" "gapBetween" "J") := kw_g Z (tb_in 161 (by decide +kernel)) (by decide +kernel)
theorem kw197 {s0 : State} (Z : zt s0) : kw s0 (.arrayClass .boolean) := kw_g Z (tb_in 197 (by decide +kernel)) (by decide +kernel)
theorem kw198 {s0 : State} (Z : zt s0) : kw s0 (.fieldLink "PanelForms" 13 "PanelForms" "panelWidth" "J") := kw_g Z (tb_in 198 (by decide +kernel)) (by decide +kernel)
theorem kw199 {s0 : State} (Z : zt s0) : kw s0 (.fieldLink "PanelForms" 17 "PanelForms" "panelHeight" "J") := kw_g Z (tb_in 199 (by decide +kernel)) (by decide +kernel)
theorem kw200 {s0 : State} (Z : zt s0) : kw s0 (.fieldLink "PanelForms" 22 "PanelForms" "boards" "[LPanelForms$Board;") := kw_g Z (tb_in 200 (by decide +kernel)) (by decide +kernel)
theorem kw201 {s0 : State} (Z : zt s0) : kw s0 (.fieldLink "PanelForms" 27 "PanelForms" "rails" "[J") := kw_g Z (tb_in 201 (by decide +kernel)) (by decide +kernel)
theorem kw202 {s0 : State} (Z : zt s0) : kw s0 (.fieldLink "PanelForms" 34 "PanelForms" "search" "LPanelForms$Search;") := kw_g Z (tb_in 202 (by decide +kernel)) (by decide +kernel)
theorem kw203 {s0 : State} (Z : zt s0) : kw s0 (.fieldLink "PanelForms" 41 "PanelForms" "layout" "LPanelForms$Layout;") := kw_g Z (tb_in 203 (by decide +kernel)) (by decide +kernel)
theorem kw204 {s0 : State} (Z : zt s0) : kw s0 (.fieldLink "PanelForms" 45 "PanelForms" "boardCount" "I") := kw_g Z (tb_in 204 (by decide +kernel)) (by decide +kernel)
theorem kw205 {s0 : State} (Z : zt s0) : kw s0 (.fieldLink "PanelForms" 133 "PanelForms" "gapLength" "J") := kw_g Z (tb_in 205 (by decide +kernel)) (by decide +kernel)
theorem kw206 {s0 : State} (Z : zt s0) : kw s0 (.fieldLink "PanelForms" 194 "PanelForms" "toolRadius" "J") := kw_g Z (tb_in 206 (by decide +kernel)) (by decide +kernel)
theorem kw207 {s0 : State} (Z : zt s0) : kw s0 (.fieldLink "PanelForms" 96 "PanelForms" "provedInRun" "Z") := kw_g Z (tb_in 207 (by decide +kernel)) (by decide +kernel)
theorem kw229 {s0 : State} (Z : zt s0) : kw s0 (.methodLink "PanelFormsLaw" 76 ⟨"PanelForms", "board", "()I"⟩) := kw_g Z (tb_in 229 (by decide +kernel)) (by decide +kernel)
theorem kw230 {s0 : State} (Z : zt s0) : kw s0 (.instanceMethod ⟨"PanelForms", "board", "()I"⟩) := kw_g Z (tb_in 230 (by decide +kernel)) (by decide +kernel)
theorem kw231 {s0 : State} (Z : zt s0) : kw s0 (.selects "PanelForms" ⟨"PanelForms", "board", "()I"⟩ ⟨"PanelForms", "board", "()I"⟩) := kw_g Z (tb_in 231 (by decide +kernel)) (by decide +kernel)
theorem kw232 {s0 : State} (Z : zt s0) : kw s0 (.code ⟨"PanelForms", "board", "()I"⟩ prog_1_method_2_code 1 (some .int)) := kw_g Z (tb_in 232 (by decide +kernel)) (by decide +kernel)
theorem kw233 {s0 : State} (Z : zt s0) : kw s0 (.methodLink "PanelFormsLaw" 98 ⟨"PanelForms", "proved", "()Z"⟩) := kw_g Z (tb_in 233 (by decide +kernel)) (by decide +kernel)
theorem kw234 {s0 : State} (Z : zt s0) : kw s0 (.instanceMethod ⟨"PanelForms", "proved", "()Z"⟩) := kw_g Z (tb_in 234 (by decide +kernel)) (by decide +kernel)
theorem kw235 {s0 : State} (Z : zt s0) : kw s0 (.selects "PanelForms" ⟨"PanelForms", "proved", "()Z"⟩ ⟨"PanelForms", "proved", "()Z"⟩) := kw_g Z (tb_in 235 (by decide +kernel)) (by decide +kernel)
theorem kw236 {s0 : State} (Z : zt s0) : kw s0 (.code ⟨"PanelForms", "proved", "()Z"⟩ prog_1_method_6_code 1 (some .boolean)) := kw_g Z (tb_in 236 (by decide +kernel)) (by decide +kernel)
theorem kw237 {s0 : State} (Z : zt s0) : kw s0 (.methodLink "PanelFormsLaw" 135 ⟨"PanelForms", "overlaps", "()Z"⟩) := kw_g Z (tb_in 237 (by decide +kernel)) (by decide +kernel)
theorem kw238 {s0 : State} (Z : zt s0) : kw s0 (.instanceMethod ⟨"PanelForms", "overlaps", "()Z"⟩) := kw_g Z (tb_in 238 (by decide +kernel)) (by decide +kernel)
theorem kw239 {s0 : State} (Z : zt s0) : kw s0 (.selects "PanelForms" ⟨"PanelForms", "overlaps", "()Z"⟩ ⟨"PanelForms", "overlaps", "()Z"⟩) := kw_g Z (tb_in 239 (by decide +kernel)) (by decide +kernel)
theorem kw240 {s0 : State} (Z : zt s0) : kw s0 (.code ⟨"PanelForms", "overlaps", "()Z"⟩ prog_1_method_16_code 1 (some .boolean)) := kw_g Z (tb_in 240 (by decide +kernel)) (by decide +kernel)
theorem kw241 {s0 : State} (Z : zt s0) : kw s0 (.methodLink "PanelFormsLaw" 139 ⟨"PanelForms", "order", "(I)I"⟩) := kw_g Z (tb_in 241 (by decide +kernel)) (by decide +kernel)
theorem kw242 {s0 : State} (Z : zt s0) : kw s0 (.instanceMethod ⟨"PanelForms", "order", "(I)I"⟩) := kw_g Z (tb_in 242 (by decide +kernel)) (by decide +kernel)
theorem kw243 {s0 : State} (Z : zt s0) : kw s0 (.selects "PanelForms" ⟨"PanelForms", "order", "(I)I"⟩ ⟨"PanelForms", "order", "(I)I"⟩) := kw_g Z (tb_in 243 (by decide +kernel)) (by decide +kernel)
theorem kw244 {s0 : State} (Z : zt s0) : kw s0 (.code ⟨"PanelForms", "order", "(I)I"⟩ prog_1_method_17_code 2 (some .int)) := kw_g Z (tb_in 244 (by decide +kernel)) (by decide +kernel)
theorem kw245 {s0 : State} (Z : zt s0) : kw s0 (.methodLinkNest "PanelForms" 184 ⟨"PanelForms$Layout", "copyInOrder", "(I)I"⟩ "PanelForms") := kw_mn Z (tb_in 245 (by decide +kernel))
theorem kw247 {s0 : State} (Z : zt s0) : kw s0 (.instanceMethod ⟨"PanelForms$Layout", "copyInOrder", "(I)I"⟩) := kw_g Z (tb_in 247 (by decide +kernel)) (by decide +kernel)
theorem kw248 {s0 : State} (Z : zt s0) : kw s0 (.code ⟨"PanelForms$Layout", "copyInOrder", "(I)I"⟩ prog_3_method_6_code 3 (some .int)) := kw_g Z (tb_in 248 (by decide +kernel)) (by decide +kernel)
theorem kw249 {s0 : State} (Z : zt s0) : kw s0 (.methodLink "PanelForms$Layout" 75 ⟨"PanelForms$Layout", "countOf", "(Z)I"⟩) := kw_g Z (tb_in 249 (by decide +kernel)) (by decide +kernel)
theorem kw251 {s0 : State} (Z : zt s0) : kw s0 (.instanceMethod ⟨"PanelForms$Layout", "countOf", "(Z)I"⟩) := kw_g Z (tb_in 251 (by decide +kernel)) (by decide +kernel)
theorem kw252 {s0 : State} (Z : zt s0) : kw s0 (.code ⟨"PanelForms$Layout", "countOf", "(Z)I"⟩ prog_3_method_7_code 4 (some .int)) := kw_g Z (tb_in 252 (by decide +kernel)) (by decide +kernel)
theorem kw253 {s0 : State} (Z : zt s0) : kw s0 (.methodLink "PanelForms$Layout" 79 ⟨"PanelForms$Layout", "nthOf", "(ZI)I"⟩) := kw_g Z (tb_in 253 (by decide +kernel)) (by decide +kernel)
theorem kw255 {s0 : State} (Z : zt s0) : kw s0 (.instanceMethod ⟨"PanelForms$Layout", "nthOf", "(ZI)I"⟩) := kw_g Z (tb_in 255 (by decide +kernel)) (by decide +kernel)
theorem kw256 {s0 : State} (Z : zt s0) : kw s0 (.code ⟨"PanelForms$Layout", "nthOf", "(ZI)I"⟩ prog_3_method_8_code 5 (some .int)) := kw_g Z (tb_in 256 (by decide +kernel)) (by decide +kernel)
theorem kw257 {s0 : State} (Z : zt s0) : kw s0 (.methodLink "PanelFormsLaw" 64 ⟨"PanelFormsLaw", "cell", "([II)I"⟩) := kw_g Z (tb_in 257 (by decide +kernel)) (by decide +kernel)
theorem kw258 {s0 : State} (Z : zt s0) : kw s0 (.static ⟨"PanelFormsLaw", "cell", "([II)I"⟩) := kw_g Z (tb_in 258 (by decide +kernel)) (by decide +kernel)
theorem kw259 {s0 : State} (Z : zt s0) : kw s0 (.code ⟨"PanelFormsLaw", "cell", "([II)I"⟩ method_2_code 2 (some .int)) := kw_g Z (tb_in 259 (by decide +kernel)) (by decide +kernel)
theorem kw260 {s0 : State} (Z : zt s0) : kw s0 (.methodLink "PanelFormsLaw" 83 ⟨"PanelFormsLaw", "corner", "(LPanelForms;IJJ[J)I"⟩) := kw_g Z (tb_in 260 (by decide +kernel)) (by decide +kernel)
theorem kw261 {s0 : State} (Z : zt s0) : kw s0 (.static ⟨"PanelFormsLaw", "corner", "(LPanelForms;IJJ[J)I"⟩) := kw_g Z (tb_in 261 (by decide +kernel)) (by decide +kernel)
theorem kw262 {s0 : State} (Z : zt s0) : kw s0 (.codeWith ⟨"PanelFormsLaw", "corner", "(LPanelForms;IJJ[J)I"⟩ method_3_code 8 (some .int) [(0, 20, 23, 13), (0, 20, 27, 15)]) := kw_g Z (tb_in 262 (by decide +kernel)) (by decide +kernel)
theorem kw263 {s0 : State} (Z : zt s0) : kw s0 (.classLink "PanelFormsLaw" 13 "java/lang/IndexOutOfBoundsException") := kw_g Z (tb_in 263 (by decide +kernel)) (by decide +kernel)
theorem kw264 {s0 : State} (Z : zt s0) : kw s0 (.classLink "PanelFormsLaw" 15 "java/lang/IllegalArgumentException") := kw_g Z (tb_in 264 (by decide +kernel)) (by decide +kernel)
theorem kw265 {s0 : State} (Z : zt s0) : kw s0 (.methodLink "PanelFormsLaw" 7 ⟨"PanelForms", "corner", "(IJJ)Z"⟩) := kw_g Z (tb_in 265 (by decide +kernel)) (by decide +kernel)
theorem kw266 {s0 : State} (Z : zt s0) : kw s0 (.instanceMethod ⟨"PanelForms", "corner", "(IJJ)Z"⟩) := kw_g Z (tb_in 266 (by decide +kernel)) (by decide +kernel)
theorem kw267 {s0 : State} (Z : zt s0) : kw s0 (.selects "PanelForms" ⟨"PanelForms", "corner", "(IJJ)Z"⟩ ⟨"PanelForms", "corner", "(IJJ)Z"⟩) := kw_g Z (tb_in 267 (by decide +kernel)) (by decide +kernel)
theorem kw268 {s0 : State} (Z : zt s0) : kw s0 (.code ⟨"PanelForms", "corner", "(IJJ)Z"⟩ prog_1_method_3_code 6 (some .boolean)) := kw_g Z (tb_in 268 (by decide +kernel)) (by decide +kernel)
theorem kw269 {s0 : State} (Z : zt s0) : kw s0 (.methodLink "PanelForms" 49 ⟨"PanelForms", "checkBoard", "(I)V"⟩) := kw_g Z (tb_in 269 (by decide +kernel)) (by decide +kernel)
theorem kw271 {s0 : State} (Z : zt s0) : kw s0 (.instanceMethod ⟨"PanelForms", "checkBoard", "(I)V"⟩) := kw_g Z (tb_in 271 (by decide +kernel)) (by decide +kernel)
theorem kw272 {s0 : State} (Z : zt s0) : kw s0 (.code ⟨"PanelForms", "checkBoard", "(I)V"⟩ prog_1_method_24_code 2 none) := kw_g Z (tb_in 272 (by decide +kernel)) (by decide +kernel)
theorem kw273 {s0 : State} (Z : zt s0) : kw s0 (.methodLink "PanelForms" 63 ⟨"PanelForms", "isWithin", "(JJJ)Z"⟩) := kw_g Z (tb_in 273 (by decide +kernel)) (by decide +kernel)
theorem kw274 {s0 : State} (Z : zt s0) : kw s0 (.static ⟨"PanelForms", "isWithin", "(JJJ)Z"⟩) := kw_g Z (tb_in 274 (by decide +kernel)) (by decide +kernel)
theorem kw275 {s0 : State} (Z : zt s0) : kw s0 (.code ⟨"PanelForms", "isWithin", "(JJJ)Z"⟩ prog_1_method_20_code 6 (some .boolean)) := kw_g Z (tb_in 275 (by decide +kernel)) (by decide +kernel)
theorem kw276 {s0 : State} (Z : zt s0) : kw s0 (.classLink "PanelForms" 128 "java/lang/IndexOutOfBoundsException") := kw_g Z (tb_in 276 (by decide +kernel)) (by decide +kernel)
theorem kw277 {s0 : State} (Z : zt s0) : kw s0 (.instantiable "java/lang/IndexOutOfBoundsException" 6) := kw_g Z (tb_in 277 (by decide +kernel)) (by decide +kernel)
theorem kw285 {s0 : State} (Z : zt s0) : kw s0 (.selects "java/lang/IndexOutOfBoundsException" ⟨"java/lang/Throwable", "fillInStackTrace", "(I)Ljava/lang/Throwable;"⟩ ⟨"java/lang/Throwable", "fillInStackTrace", "(I)Ljava/lang/Throwable;"⟩) := kw_g Z (tb_in 285 (by decide +kernel)) (by decide +kernel)
theorem kw286 {s0 : State} (Z : zt s0) : kw s0 (.selects "java/lang/IndexOutOfBoundsException" ⟨"java/lang/Throwable", "fillInStackTrace", "()Ljava/lang/Throwable;"⟩ ⟨"java/lang/Throwable", "fillInStackTrace", "()Ljava/lang/Throwable;"⟩) := kw_g Z (tb_in 286 (by decide +kernel)) (by decide +kernel)
theorem kw297 {s0 : State} (Z : zt s0) : kw s0 (.fieldLink "java/lang/Throwable" 198 "java/lang/Throwable" "backtrace" "Ljava/lang/Object;") := kw_g Z (tb_in 297 (by decide +kernel)) (by decide +kernel)
theorem kw299 {s0 : State} (Z : zt s0) : kw s0 (.instanceMethod ⟨"java/lang/Throwable", "<init>", "()V"⟩) := kw_g Z (tb_in 299 (by decide +kernel)) (by decide +kernel)
theorem kw300 {s0 : State} (Z : zt s0) : kw s0 (.code ⟨"java/lang/Throwable", "<init>", "()V"⟩ prog_14_method_1_code 1 none) := kw_g Z (tb_in 300 (by decide +kernel)) (by decide +kernel)
theorem kw301 {s0 : State} (Z : zt s0) : kw s0 (.methodLink "java/lang/Throwable" 1 ⟨"java/lang/Object", "<init>", "()V"⟩) := kw_g Z (tb_in 301 (by decide +kernel)) (by decide +kernel)
theorem kw302 {s0 : State} (Z : zt s0) : kw s0 (.fieldLink "java/lang/Throwable" 13 "java/lang/Throwable" "UNASSIGNED_STACK" "[Ljava/lang/StackTraceElement;") := kw_g Z (tb_in 302 (by decide +kernel)) (by decide +kernel)
theorem kw304 {s0 : State} (Z : zt s0) : kw s0 (.fieldLink "java/lang/Throwable" 20 "java/lang/Throwable" "SUPPRESSED_SENTINEL" "Ljava/util/List;") := kw_g Z (tb_in 304 (by decide +kernel)) (by decide +kernel)
theorem kw306 {s0 : State} (Z : zt s0) : kw s0 (.methodLink "java/lang/Throwable" 27 ⟨"java/lang/Throwable", "fillInStackTrace", "()Ljava/lang/Throwable;"⟩) := kw_g Z (tb_in 306 (by decide +kernel)) (by decide +kernel)
theorem kw307 {s0 : State} (Z : zt s0) : kw s0 (.instanceMethod ⟨"java/lang/Throwable", "fillInStackTrace", "()Ljava/lang/Throwable;"⟩) := kw_g Z (tb_in 307 (by decide +kernel)) (by decide +kernel)
theorem kw309 {s0 : State} (Z : zt s0) : kw s0 (.selects "java/lang/IllegalArgumentException" ⟨"java/lang/Throwable", "fillInStackTrace", "()Ljava/lang/Throwable;"⟩ ⟨"java/lang/Throwable", "fillInStackTrace", "()Ljava/lang/Throwable;"⟩) := kw_g Z (tb_in 309 (by decide +kernel)) (by decide +kernel)
theorem kw310 {s0 : State} (Z : zt s0) : kw s0 (.selects "java/lang/IllegalStateException" ⟨"java/lang/Throwable", "fillInStackTrace", "()Ljava/lang/Throwable;"⟩ ⟨"java/lang/Throwable", "fillInStackTrace", "()Ljava/lang/Throwable;"⟩) := kw_g Z (tb_in 310 (by decide +kernel)) (by decide +kernel)
theorem kw312 {s0 : State} (Z : zt s0) : kw s0 (.methodLink "java/lang/Throwable" 202 ⟨"java/lang/Throwable", "fillInStackTrace", "(I)Ljava/lang/Throwable;"⟩) := kw_g Z (tb_in 312 (by decide +kernel)) (by decide +kernel)
theorem kw314 {s0 : State} (Z : zt s0) : kw s0 (.instanceMethod ⟨"java/lang/Throwable", "fillInStackTrace", "(I)Ljava/lang/Throwable;"⟩) := kw_g Z (tb_in 314 (by decide +kernel)) (by decide +kernel)
theorem kw315 {s0 : State} (Z : zt s0) : kw s0 (.instantiable "java/lang/Throwable" 6) := kw_g Z (tb_in 315 (by decide +kernel)) (by decide +kernel)
theorem kw318 {s0 : State} (Z : zt s0) : kw s0 (.methodLink "PanelForms" 132 ⟨"java/lang/IndexOutOfBoundsException", "<init>", "(Ljava/lang/String;)V"⟩) := kw_g Z (tb_in 318 (by decide +kernel)) (by decide +kernel)
theorem kw319 {s0 : State} (Z : zt s0) : kw s0 (.instanceMethod ⟨"java/lang/IndexOutOfBoundsException", "<init>", "(Ljava/lang/String;)V"⟩) := kw_g Z (tb_in 319 (by decide +kernel)) (by decide +kernel)
theorem kw320 {s0 : State} (Z : zt s0) : kw s0 (.code ⟨"java/lang/IndexOutOfBoundsException", "<init>", "(Ljava/lang/String;)V"⟩ prog_10_method_2_code 2 none) := kw_g Z (tb_in 320 (by decide +kernel)) (by decide +kernel)
theorem kw321 {s0 : State} (Z : zt s0) : kw s0 (.methodLink "java/lang/IndexOutOfBoundsException" 7 ⟨"java/lang/RuntimeException", "<init>", "(Ljava/lang/String;)V"⟩) := kw_g Z (tb_in 321 (by decide +kernel)) (by decide +kernel)
theorem kw322 {s0 : State} (Z : zt s0) : kw s0 (.instanceMethod ⟨"java/lang/RuntimeException", "<init>", "(Ljava/lang/String;)V"⟩) := kw_g Z (tb_in 322 (by decide +kernel)) (by decide +kernel)
theorem kw323 {s0 : State} (Z : zt s0) : kw s0 (.code ⟨"java/lang/RuntimeException", "<init>", "(Ljava/lang/String;)V"⟩ prog_12_method_2_code 2 none) := kw_g Z (tb_in 323 (by decide +kernel)) (by decide +kernel)
theorem kw324 {s0 : State} (Z : zt s0) : kw s0 (.methodLink "java/lang/RuntimeException" 7 ⟨"java/lang/Exception", "<init>", "(Ljava/lang/String;)V"⟩) := kw_g Z (tb_in 324 (by decide +kernel)) (by decide +kernel)
theorem kw325 {s0 : State} (Z : zt s0) : kw s0 (.instanceMethod ⟨"java/lang/Exception", "<init>", "(Ljava/lang/String;)V"⟩) := kw_g Z (tb_in 325 (by decide +kernel)) (by decide +kernel)
theorem kw326 {s0 : State} (Z : zt s0) : kw s0 (.code ⟨"java/lang/Exception", "<init>", "(Ljava/lang/String;)V"⟩ prog_7_method_2_code 2 none) := kw_g Z (tb_in 326 (by decide +kernel)) (by decide +kernel)
theorem kw327 {s0 : State} (Z : zt s0) : kw s0 (.methodLink "java/lang/Exception" 7 ⟨"java/lang/Throwable", "<init>", "(Ljava/lang/String;)V"⟩) := kw_g Z (tb_in 327 (by decide +kernel)) (by decide +kernel)
theorem kw328 {s0 : State} (Z : zt s0) : kw s0 (.instanceMethod ⟨"java/lang/Throwable", "<init>", "(Ljava/lang/String;)V"⟩) := kw_g Z (tb_in 328 (by decide +kernel)) (by decide +kernel)
theorem kw329 {s0 : State} (Z : zt s0) : kw s0 (.code ⟨"java/lang/Throwable", "<init>", "(Ljava/lang/String;)V"⟩ prog_14_method_2_code 2 none) := kw_g Z (tb_in 329 (by decide +kernel)) (by decide +kernel)
theorem kw330 {s0 : State} (Z : zt s0) : kw s0 (.fieldLink "java/lang/Throwable" 198 "java/lang/Throwable" "backtrace" "Ljava/lang/Object;") := kw_g Z (tb_in 330 (by decide +kernel)) (by decide +kernel)
theorem kw331 {s0 : State} (Z : zt s0) : kw s0 (.fieldLink "java/lang/Throwable" 31 "java/lang/Throwable" "detailMessage" "Ljava/lang/String;") := kw_g Z (tb_in 331 (by decide +kernel)) (by decide +kernel)
theorem kw332 {s0 : State} (Z : zt s0) : kw s0 (.fieldLink "java/lang/Throwable" 7 "java/lang/Throwable" "cause" "Ljava/lang/Throwable;") := kw_g Z (tb_in 332 (by decide +kernel)) (by decide +kernel)
theorem kw333 {s0 : State} (Z : zt s0) : kw s0 (.fieldLink "java/lang/Throwable" 17 "java/lang/Throwable" "stackTrace" "[Ljava/lang/StackTraceElement;") := kw_g Z (tb_in 333 (by decide +kernel)) (by decide +kernel)
theorem kw334 {s0 : State} (Z : zt s0) : kw s0 (.fieldLink "java/lang/Throwable" 24 "java/lang/Throwable" "suppressedExceptions" "Ljava/util/List;") := kw_g Z (tb_in 334 (by decide +kernel)) (by decide +kernel)
theorem kw343 {s0 : State} (Z : zt s0) : kw s0 (.arrayClass .byte) := kw_g Z (tb_in 343 (by decide +kernel)) (by decide +kernel)
theorem kw344 {s0 : State} (Z : zt s0) : kw s0 (.methodLink "PanelForms" 53 ⟨"PanelForms", "checkLength", "(J)V"⟩) := kw_g Z (tb_in 344 (by decide +kernel)) (by decide +kernel)
theorem kw345 {s0 : State} (Z : zt s0) : kw s0 (.static ⟨"PanelForms", "checkLength", "(J)V"⟩) := kw_g Z (tb_in 345 (by decide +kernel)) (by decide +kernel)
theorem kw346 {s0 : State} (Z : zt s0) : kw s0 (.code ⟨"PanelForms", "checkLength", "(J)V"⟩ prog_1_method_21_code 2 none) := kw_g Z (tb_in 346 (by decide +kernel)) (by decide +kernel)
theorem kw347 {s0 : State} (Z : zt s0) : kw s0 (.classLink "PanelForms" 69 "java/lang/IllegalArgumentException") := kw_g Z (tb_in 347 (by decide +kernel)) (by decide +kernel)
theorem kw348 {s0 : State} (Z : zt s0) : kw s0 (.instantiable "java/lang/IllegalArgumentException" 6) := kw_g Z (tb_in 348 (by decide +kernel)) (by decide +kernel)
theorem kw350 {s0 : State} (Z : zt s0) : kw s0 (.selects "java/lang/IllegalArgumentException" ⟨"java/lang/Throwable", "fillInStackTrace", "(I)Ljava/lang/Throwable;"⟩ ⟨"java/lang/Throwable", "fillInStackTrace", "(I)Ljava/lang/Throwable;"⟩) := kw_g Z (tb_in 350 (by decide +kernel)) (by decide +kernel)
theorem kw357 {s0 : State} (Z : zt s0) : kw s0 (.methodLink "PanelForms" 73 ⟨"java/lang/IllegalArgumentException", "<init>", "(Ljava/lang/String;)V"⟩) := kw_g Z (tb_in 357 (by decide +kernel)) (by decide +kernel)
theorem kw358 {s0 : State} (Z : zt s0) : kw s0 (.instanceMethod ⟨"java/lang/IllegalArgumentException", "<init>", "(Ljava/lang/String;)V"⟩) := kw_g Z (tb_in 358 (by decide +kernel)) (by decide +kernel)
theorem kw359 {s0 : State} (Z : zt s0) : kw s0 (.code ⟨"java/lang/IllegalArgumentException", "<init>", "(Ljava/lang/String;)V"⟩ prog_8_method_2_code 2 none) := kw_g Z (tb_in 359 (by decide +kernel)) (by decide +kernel)
theorem kw360 {s0 : State} (Z : zt s0) : kw s0 (.methodLink "java/lang/IllegalArgumentException" 7 ⟨"java/lang/RuntimeException", "<init>", "(Ljava/lang/String;)V"⟩) := kw_g Z (tb_in 360 (by decide +kernel)) (by decide +kernel)
theorem kw363 {s0 : State} (Z : zt s0) : kw s0 (.methodLinkNest "PanelForms" 57 ⟨"PanelForms$Board", "addCorner", "(JJ)Z"⟩ "PanelForms") := kw_mn Z (tb_in 363 (by decide +kernel))
theorem kw365 {s0 : State} (Z : zt s0) : kw s0 (.instanceMethod ⟨"PanelForms$Board", "addCorner", "(JJ)Z"⟩) := kw_g Z (tb_in 365 (by decide +kernel)) (by decide +kernel)
theorem kw366 {s0 : State} (Z : zt s0) : kw s0 (.code ⟨"PanelForms$Board", "addCorner", "(JJ)Z"⟩ prog_2_method_2_code 5 (some .boolean)) := kw_g Z (tb_in 366 (by decide +kernel)) (by decide +kernel)
theorem kw367 {s0 : State} (Z : zt s0) : kw s0 (.methodLink "PanelForms$Board" 38 ⟨"java/lang/Math", "min", "(JJ)J"⟩) := kw_g Z (tb_in 367 (by decide +kernel)) (by decide +kernel)
theorem kw368 {s0 : State} (Z : zt s0) : kw s0 (.methodLink "PanelForms$Board" 50 ⟨"java/lang/Math", "max", "(JJ)J"⟩) := kw_g Z (tb_in 368 (by decide +kernel)) (by decide +kernel)
theorem kw369 {s0 : State} (Z : zt s0) : kw s0 (.methodLink "PanelFormsLaw" 90 ⟨"PanelFormsLaw", "run", "(LPanelForms;IJ[J)I"⟩) := kw_g Z (tb_in 369 (by decide +kernel)) (by decide +kernel)
theorem kw370 {s0 : State} (Z : zt s0) : kw s0 (.static ⟨"PanelFormsLaw", "run", "(LPanelForms;IJ[J)I"⟩) := kw_g Z (tb_in 370 (by decide +kernel)) (by decide +kernel)
theorem kw371 {s0 : State} (Z : zt s0) : kw s0 (.codeWith ⟨"PanelFormsLaw", "run", "(LPanelForms;IJ[J)I"⟩ method_4_code 6 (some .int) [(0, 11, 14, 15)]) := kw_g Z (tb_in 371 (by decide +kernel)) (by decide +kernel)
theorem kw372 {s0 : State} (Z : zt s0) : kw s0 (.methodLink "PanelFormsLaw" 17 ⟨"PanelForms", "run", "(IJ)I"⟩) := kw_g Z (tb_in 372 (by decide +kernel)) (by decide +kernel)
theorem kw373 {s0 : State} (Z : zt s0) : kw s0 (.instanceMethod ⟨"PanelForms", "run", "(IJ)I"⟩) := kw_g Z (tb_in 373 (by decide +kernel)) (by decide +kernel)
theorem kw374 {s0 : State} (Z : zt s0) : kw s0 (.selects "PanelForms" ⟨"PanelForms", "run", "(IJ)I"⟩ ⟨"PanelForms", "run", "(IJ)I"⟩) := kw_g Z (tb_in 374 (by decide +kernel)) (by decide +kernel)
theorem kw375 {s0 : State} (Z : zt s0) : kw s0 (.code ⟨"PanelForms", "run", "(IJ)I"⟩ prog_1_method_4_code 8 (some .int)) := kw_g Z (tb_in 375 (by decide +kernel)) (by decide +kernel)
theorem kw376 {s0 : State} (Z : zt s0) : kw s0 (.constantLong "PanelForms" 61 (4 : Int64)) := kw_g Z (tb_in 376 (by decide +kernel)) (by decide +kernel)
theorem kw377 {s0 : State} (Z : zt s0) : kw s0 (.constantLong "PanelForms" 67 (8 : Int64)) := kw_g Z (tb_in 377 (by decide +kernel)) (by decide +kernel)
theorem kw379 {s0 : State} (Z : zt s0) : kw s0 (.methodLink "PanelForms" 76 ⟨"java/lang/Math", "min", "(II)I"⟩) := kw_g Z (tb_in 379 (by decide +kernel)) (by decide +kernel)
theorem kw380 {s0 : State} (Z : zt s0) : kw s0 (.static ⟨"java/lang/Math", "min", "(II)I"⟩) := kw_g Z (tb_in 380 (by decide +kernel)) (by decide +kernel)
theorem kw381 {s0 : State} (Z : zt s0) : kw s0 (.code ⟨"java/lang/Math", "min", "(II)I"⟩ prog_11_method_69_code 2 (some .int)) := kw_g Z (tb_in 381 (by decide +kernel)) (by decide +kernel)
theorem kw382 {s0 : State} (Z : zt s0) : kw s0 (.methodLink "PanelForms" 82 ⟨"PanelForms", "prepareSearch", "(I)V"⟩) := kw_g Z (tb_in 382 (by decide +kernel)) (by decide +kernel)
theorem kw384 {s0 : State} (Z : zt s0) : kw s0 (.instanceMethod ⟨"PanelForms", "prepareSearch", "(I)V"⟩) := kw_g Z (tb_in 384 (by decide +kernel)) (by decide +kernel)
theorem kw385 {s0 : State} (Z : zt s0) : kw s0 (.code ⟨"PanelForms", "prepareSearch", "(I)V"⟩ prog_1_method_26_code 8 none) := kw_g Z (tb_in 385 (by decide +kernel)) (by decide +kernel)
theorem kw386 {s0 : State} (Z : zt s0) : kw s0 (.methodLinkNest "PanelForms" 227 ⟨"PanelForms$Search", "begin", "(J)V"⟩ "PanelForms") := kw_mn Z (tb_in 386 (by decide +kernel))
theorem kw388 {s0 : State} (Z : zt s0) : kw s0 (.instanceMethod ⟨"PanelForms$Search", "begin", "(J)V"⟩) := kw_g Z (tb_in 388 (by decide +kernel)) (by decide +kernel)
theorem kw389 {s0 : State} (Z : zt s0) : kw s0 (.code ⟨"PanelForms$Search", "begin", "(J)V"⟩ prog_4_method_2_code 4 none) := kw_g Z (tb_in 389 (by decide +kernel)) (by decide +kernel)
theorem kw390 {s0 : State} (Z : zt s0) : kw s0 (.methodLinkNest "PanelForms" 230 ⟨"PanelForms$Board", "hasArea", "()Z"⟩ "PanelForms") := kw_mn Z (tb_in 390 (by decide +kernel))
theorem kw392 {s0 : State} (Z : zt s0) : kw s0 (.instanceMethod ⟨"PanelForms$Board", "hasArea", "()Z"⟩) := kw_g Z (tb_in 392 (by decide +kernel)) (by decide +kernel)
theorem kw393 {s0 : State} (Z : zt s0) : kw s0 (.code ⟨"PanelForms$Board", "hasArea", "()Z"⟩ prog_2_method_4_code 1 (some .boolean)) := kw_g Z (tb_in 393 (by decide +kernel)) (by decide +kernel)
theorem kw394 {s0 : State} (Z : zt s0) : kw s0 (.methodLinkNest "PanelForms" 237 ⟨"PanelForms$Board", "wide", "(I)J"⟩ "PanelForms") := kw_mn Z (tb_in 394 (by decide +kernel))
theorem kw396 {s0 : State} (Z : zt s0) : kw s0 (.instanceMethod ⟨"PanelForms$Board", "wide", "(I)J"⟩) := kw_g Z (tb_in 396 (by decide +kernel)) (by decide +kernel)
theorem kw397 {s0 : State} (Z : zt s0) : kw s0 (.code ⟨"PanelForms$Board", "wide", "(I)J"⟩ prog_2_method_5_code 2 (some .long)) := kw_g Z (tb_in 397 (by decide +kernel)) (by decide +kernel)
theorem kw398 {s0 : State} (Z : zt s0) : kw s0 (.methodLink "PanelForms" 241 ⟨"PanelForms", "roomInRow", "(JJJ)I"⟩) := kw_g Z (tb_in 398 (by decide +kernel)) (by decide +kernel)
theorem kw399 {s0 : State} (Z : zt s0) : kw s0 (.static ⟨"PanelForms", "roomInRow", "(JJJ)I"⟩) := kw_g Z (tb_in 399 (by decide +kernel)) (by decide +kernel)
theorem kw400 {s0 : State} (Z : zt s0) : kw s0 (.code ⟨"PanelForms", "roomInRow", "(JJJ)I"⟩ prog_1_method_27_code 8 (some .int)) := kw_g Z (tb_in 400 (by decide +kernel)) (by decide +kernel)
theorem kw401 {s0 : State} (Z : zt s0) : kw s0 (.constantLong "PanelForms" 252 (20 : Int64)) := kw_g Z (tb_in 401 (by decide +kernel)) (by decide +kernel)
theorem kw402 {s0 : State} (Z : zt s0) : kw s0 (.methodLinkNest "PanelForms" 245 ⟨"PanelForms$Board", "high", "(I)J"⟩ "PanelForms") := kw_mn Z (tb_in 402 (by decide +kernel))
theorem kw404 {s0 : State} (Z : zt s0) : kw s0 (.instanceMethod ⟨"PanelForms$Board", "high", "(I)J"⟩) := kw_g Z (tb_in 404 (by decide +kernel)) (by decide +kernel)
theorem kw405 {s0 : State} (Z : zt s0) : kw s0 (.code ⟨"PanelForms$Board", "high", "(I)J"⟩ prog_2_method_6_code 2 (some .long)) := kw_g Z (tb_in 405 (by decide +kernel)) (by decide +kernel)
theorem kw406 {s0 : State} (Z : zt s0) : kw s0 (.methodLinkNest "PanelForms" 248 ⟨"PanelForms$Search", "allowKind", "(IIJ)V"⟩ "PanelForms") := kw_mn Z (tb_in 406 (by decide +kernel))
theorem kw408 {s0 : State} (Z : zt s0) : kw s0 (.instanceMethod ⟨"PanelForms$Search", "allowKind", "(IIJ)V"⟩) := kw_g Z (tb_in 408 (by decide +kernel)) (by decide +kernel)
theorem kw409 {s0 : State} (Z : zt s0) : kw s0 (.code ⟨"PanelForms$Search", "allowKind", "(IIJ)V"⟩ prog_4_method_3_code 5 none) := kw_g Z (tb_in 409 (by decide +kernel)) (by decide +kernel)
theorem kw410 {s0 : State} (Z : zt s0) : kw s0 (.methodLink "PanelForms$Search" 48 ⟨"java/lang/Math", "max", "(II)I"⟩) := kw_g Z (tb_in 410 (by decide +kernel)) (by decide +kernel)
theorem kw411 {s0 : State} (Z : zt s0) : kw s0 (.static ⟨"java/lang/Math", "max", "(II)I"⟩) := kw_g Z (tb_in 411 (by decide +kernel)) (by decide +kernel)
theorem kw412 {s0 : State} (Z : zt s0) : kw s0 (.code ⟨"java/lang/Math", "max", "(II)I"⟩ prog_11_method_65_code 2 (some .int)) := kw_g Z (tb_in 412 (by decide +kernel)) (by decide +kernel)
theorem kw413 {s0 : State} (Z : zt s0) : kw s0 (.methodLinkNest "PanelForms" 85 ⟨"PanelForms$Search", "look", "(IJ)V"⟩ "PanelForms") := kw_mn Z (tb_in 413 (by decide +kernel))
theorem kw415 {s0 : State} (Z : zt s0) : kw s0 (.instanceMethod ⟨"PanelForms$Search", "look", "(IJ)V"⟩) := kw_g Z (tb_in 415 (by decide +kernel)) (by decide +kernel)
theorem kw416 {s0 : State} (Z : zt s0) : kw s0 (.code ⟨"PanelForms$Search", "look", "(IJ)V"⟩ prog_4_method_4_code 4 none) := kw_g Z (tb_in 416 (by decide +kernel)) (by decide +kernel)
theorem kw417 {s0 : State} (Z : zt s0) : kw s0 (.methodLink "PanelForms$Search" 54 ⟨"java/lang/Math", "min", "(II)I"⟩) := kw_g Z (tb_in 417 (by decide +kernel)) (by decide +kernel)
theorem kw418 {s0 : State} (Z : zt s0) : kw s0 (.methodLink "PanelForms$Search" 60 ⟨"PanelForms$Search", "tryRow", "(IIIJ)V"⟩) := kw_g Z (tb_in 418 (by decide +kernel)) (by decide +kernel)
theorem kw420 {s0 : State} (Z : zt s0) : kw s0 (.instanceMethod ⟨"PanelForms$Search", "tryRow", "(IIIJ)V"⟩) := kw_g Z (tb_in 420 (by decide +kernel)) (by decide +kernel)
theorem kw421 {s0 : State} (Z : zt s0) : kw s0 (.code ⟨"PanelForms$Search", "tryRow", "(IIIJ)V"⟩ prog_4_method_6_code 9 none) := kw_g Z (tb_in 421 (by decide +kernel)) (by decide +kernel)
theorem kw422 {s0 : State} (Z : zt s0) : kw s0 (.methodLink "PanelForms$Search" 68 ⟨"PanelForms$Search", "keepIfBetter", "(II)V"⟩) := kw_g Z (tb_in 422 (by decide +kernel)) (by decide +kernel)
theorem kw424 {s0 : State} (Z : zt s0) : kw s0 (.instanceMethod ⟨"PanelForms$Search", "keepIfBetter", "(II)V"⟩) := kw_g Z (tb_in 424 (by decide +kernel)) (by decide +kernel)
theorem kw425 {s0 : State} (Z : zt s0) : kw s0 (.code ⟨"PanelForms$Search", "keepIfBetter", "(II)V"⟩ prog_4_method_7_code 4 none) := kw_g Z (tb_in 425 (by decide +kernel)) (by decide +kernel)
theorem kw426 {s0 : State} (Z : zt s0) : kw s0 (.methodLink "PanelForms" 89 ⟨"PanelForms", "layOutBest", "()V"⟩) := kw_g Z (tb_in 426 (by decide +kernel)) (by decide +kernel)
theorem kw428 {s0 : State} (Z : zt s0) : kw s0 (.instanceMethod ⟨"PanelForms", "layOutBest", "()V"⟩) := kw_g Z (tb_in 428 (by decide +kernel)) (by decide +kernel)
theorem kw429 {s0 : State} (Z : zt s0) : kw s0 (.code ⟨"PanelForms", "layOutBest", "()V"⟩ prog_1_method_28_code 5 none) := kw_g Z (tb_in 429 (by decide +kernel)) (by decide +kernel)
theorem kw430 {s0 : State} (Z : zt s0) : kw s0 (.methodLinkNest "PanelForms" 254 ⟨"PanelForms$Layout", "begin", "(JJJ)V"⟩ "PanelForms") := kw_mn Z (tb_in 430 (by decide +kernel))
theorem kw432 {s0 : State} (Z : zt s0) : kw s0 (.instanceMethod ⟨"PanelForms$Layout", "begin", "(JJJ)V"⟩) := kw_g Z (tb_in 432 (by decide +kernel)) (by decide +kernel)
theorem kw433 {s0 : State} (Z : zt s0) : kw s0 (.code ⟨"PanelForms$Layout", "begin", "(JJJ)V"⟩ prog_3_method_2_code 7 none) := kw_g Z (tb_in 433 (by decide +kernel)) (by decide +kernel)
theorem kw434 {s0 : State} (Z : zt s0) : kw s0 (.methodLinkNest "PanelForms" 266 ⟨"PanelForms$Layout", "addRow", "(IIJJI)V"⟩ "PanelForms") := kw_mn Z (tb_in 434 (by decide +kernel))
theorem kw436 {s0 : State} (Z : zt s0) : kw s0 (.instanceMethod ⟨"PanelForms$Layout", "addRow", "(IIJJI)V"⟩) := kw_g Z (tb_in 436 (by decide +kernel)) (by decide +kernel)
theorem kw437 {s0 : State} (Z : zt s0) : kw s0 (.code ⟨"PanelForms$Layout", "addRow", "(IIJJI)V"⟩ prog_3_method_3_code 8 none) := kw_g Z (tb_in 437 (by decide +kernel)) (by decide +kernel)
theorem kw438 {s0 : State} (Z : zt s0) : kw s0 (.methodLink "PanelForms$Layout" 67 ⟨"PanelForms$Layout", "addCopies", "(IJ)V"⟩) := kw_g Z (tb_in 438 (by decide +kernel)) (by decide +kernel)
theorem kw440 {s0 : State} (Z : zt s0) : kw s0 (.instanceMethod ⟨"PanelForms$Layout", "addCopies", "(IJ)V"⟩) := kw_g Z (tb_in 440 (by decide +kernel)) (by decide +kernel)
theorem kw441 {s0 : State} (Z : zt s0) : kw s0 (.code ⟨"PanelForms$Layout", "addCopies", "(IJ)V"⟩ prog_3_method_4_code 5 none) := kw_g Z (tb_in 441 (by decide +kernel)) (by decide +kernel)
theorem kw442 {s0 : State} (Z : zt s0) : kw s0 (.methodLink "PanelForms$Layout" 71 ⟨"PanelForms$Layout", "addScore", "(JI)V"⟩) := kw_g Z (tb_in 442 (by decide +kernel)) (by decide +kernel)
theorem kw444 {s0 : State} (Z : zt s0) : kw s0 (.instanceMethod ⟨"PanelForms$Layout", "addScore", "(JI)V"⟩) := kw_g Z (tb_in 444 (by decide +kernel)) (by decide +kernel)
theorem kw445 {s0 : State} (Z : zt s0) : kw s0 (.code ⟨"PanelForms$Layout", "addScore", "(JI)V"⟩ prog_3_method_5_code 4 none) := kw_g Z (tb_in 445 (by decide +kernel)) (by decide +kernel)
theorem kw446 {s0 : State} (Z : zt s0) : kw s0 (.methodLinkNest "PanelForms" 92 ⟨"PanelForms$Search", "findsMore", "(IJ)Z"⟩ "PanelForms") := kw_mn Z (tb_in 446 (by decide +kernel))
theorem kw448 {s0 : State} (Z : zt s0) : kw s0 (.instanceMethod ⟨"PanelForms$Search", "findsMore", "(IJ)Z"⟩) := kw_g Z (tb_in 448 (by decide +kernel)) (by decide +kernel)
theorem kw449 {s0 : State} (Z : zt s0) : kw s0 (.code ⟨"PanelForms$Search", "findsMore", "(IJ)Z"⟩ prog_4_method_5_code 5 (some .boolean)) := kw_g Z (tb_in 449 (by decide +kernel)) (by decide +kernel)
theorem kw450 {s0 : State} (Z : zt s0) : kw s0 (.methodLink "PanelForms$Search" 64 ⟨"PanelForms$Search", "look", "(IJ)V"⟩) := kw_g Z (tb_in 450 (by decide +kernel)) (by decide +kernel)
theorem kw451 {s0 : State} (Z : zt s0) : kw s0 (.methodLink "PanelFormsLaw" 94 ⟨"PanelFormsLaw", "at", "(LPanelForms;II[J)I"⟩) := kw_g Z (tb_in 451 (by decide +kernel)) (by decide +kernel)
theorem kw452 {s0 : State} (Z : zt s0) : kw s0 (.static ⟨"PanelFormsLaw", "at", "(LPanelForms;II[J)I"⟩) := kw_g Z (tb_in 452 (by decide +kernel)) (by decide +kernel)
theorem kw453 {s0 : State} (Z : zt s0) : kw s0 (.codeWith ⟨"PanelFormsLaw", "at", "(LPanelForms;II[J)I"⟩ method_5_code 5 (some .int) [(0, 9, 12, 13)]) := kw_g Z (tb_in 453 (by decide +kernel)) (by decide +kernel)
theorem kw454 {s0 : State} (Z : zt s0) : kw s0 (.methodLink "PanelFormsLaw" 21 ⟨"PanelForms", "at", "(II)J"⟩) := kw_g Z (tb_in 454 (by decide +kernel)) (by decide +kernel)
theorem kw455 {s0 : State} (Z : zt s0) : kw s0 (.instanceMethod ⟨"PanelForms", "at", "(II)J"⟩) := kw_g Z (tb_in 455 (by decide +kernel)) (by decide +kernel)
theorem kw456 {s0 : State} (Z : zt s0) : kw s0 (.selects "PanelForms" ⟨"PanelForms", "at", "(II)J"⟩ ⟨"PanelForms", "at", "(II)J"⟩) := kw_g Z (tb_in 456 (by decide +kernel)) (by decide +kernel)
theorem kw457 {s0 : State} (Z : zt s0) : kw s0 (.code ⟨"PanelForms", "at", "(II)J"⟩ prog_1_method_5_code 4 (some .long)) := kw_g Z (tb_in 457 (by decide +kernel)) (by decide +kernel)
theorem kw458 {s0 : State} (Z : zt s0) : kw s0 (.methodLink "PanelForms" 103 ⟨"PanelForms", "checkCopy", "(I)V"⟩) := kw_g Z (tb_in 458 (by decide +kernel)) (by decide +kernel)
theorem kw460 {s0 : State} (Z : zt s0) : kw s0 (.instanceMethod ⟨"PanelForms", "checkCopy", "(I)V"⟩) := kw_g Z (tb_in 460 (by decide +kernel)) (by decide +kernel)
theorem kw461 {s0 : State} (Z : zt s0) : kw s0 (.code ⟨"PanelForms", "checkCopy", "(I)V"⟩ prog_1_method_25_code 2 none) := kw_g Z (tb_in 461 (by decide +kernel)) (by decide +kernel)
theorem kw464 {s0 : State} (Z : zt s0) : kw s0 (.methodLink "PanelFormsLaw" 103 ⟨"PanelFormsLaw", "gap", "(LPanelForms;J[J)I"⟩) := kw_g Z (tb_in 464 (by decide +kernel)) (by decide +kernel)
theorem kw465 {s0 : State} (Z : zt s0) : kw s0 (.static ⟨"PanelFormsLaw", "gap", "(LPanelForms;J[J)I"⟩) := kw_g Z (tb_in 465 (by decide +kernel)) (by decide +kernel)
theorem kw466 {s0 : State} (Z : zt s0) : kw s0 (.codeWith ⟨"PanelFormsLaw", "gap", "(LPanelForms;J[J)I"⟩ method_6_code 5 (some .int) [(0, 16, 19, 15)]) := kw_g Z (tb_in 466 (by decide +kernel)) (by decide +kernel)
theorem kw467 {s0 : State} (Z : zt s0) : kw s0 (.methodLink "PanelFormsLaw" 25 ⟨"PanelForms", "gap", "(J)Z"⟩) := kw_g Z (tb_in 467 (by decide +kernel)) (by decide +kernel)
theorem kw468 {s0 : State} (Z : zt s0) : kw s0 (.instanceMethod ⟨"PanelForms", "gap", "(J)Z"⟩) := kw_g Z (tb_in 468 (by decide +kernel)) (by decide +kernel)
theorem kw469 {s0 : State} (Z : zt s0) : kw s0 (.selects "PanelForms" ⟨"PanelForms", "gap", "(J)Z"⟩ ⟨"PanelForms", "gap", "(J)Z"⟩) := kw_g Z (tb_in 469 (by decide +kernel)) (by decide +kernel)
theorem kw470 {s0 : State} (Z : zt s0) : kw s0 (.code ⟨"PanelForms", "gap", "(J)Z"⟩ prog_1_method_7_code 4 (some .boolean)) := kw_g Z (tb_in 470 (by decide +kernel)) (by decide +kernel)
theorem kw471 {s0 : State} (Z : zt s0) : kw s0 (.methodLink "PanelFormsLaw" 107 ⟨"PanelFormsLaw", "tab", "(LPanelForms;III[J)I"⟩) := kw_g Z (tb_in 471 (by decide +kernel)) (by decide +kernel)
theorem kw472 {s0 : State} (Z : zt s0) : kw s0 (.static ⟨"PanelFormsLaw", "tab", "(LPanelForms;III[J)I"⟩) := kw_g Z (tb_in 472 (by decide +kernel)) (by decide +kernel)
theorem kw473 {s0 : State} (Z : zt s0) : kw s0 (.codeWith ⟨"PanelFormsLaw", "tab", "(LPanelForms;III[J)I"⟩ method_7_code 6 (some .int) [(0, 11, 14, 13), (0, 11, 18, 33)]) := kw_g Z (tb_in 473 (by decide +kernel)) (by decide +kernel)
theorem kw474 {s0 : State} (Z : zt s0) : kw s0 (.classLink "PanelFormsLaw" 33 "java/lang/IllegalStateException") := kw_g Z (tb_in 474 (by decide +kernel)) (by decide +kernel)
theorem kw475 {s0 : State} (Z : zt s0) : kw s0 (.methodLink "PanelFormsLaw" 29 ⟨"PanelForms", "tab", "(III)J"⟩) := kw_g Z (tb_in 475 (by decide +kernel)) (by decide +kernel)
theorem kw476 {s0 : State} (Z : zt s0) : kw s0 (.instanceMethod ⟨"PanelForms", "tab", "(III)J"⟩) := kw_g Z (tb_in 476 (by decide +kernel)) (by decide +kernel)
theorem kw477 {s0 : State} (Z : zt s0) : kw s0 (.selects "PanelForms" ⟨"PanelForms", "tab", "(III)J"⟩ ⟨"PanelForms", "tab", "(III)J"⟩) := kw_g Z (tb_in 477 (by decide +kernel)) (by decide +kernel)
theorem kw478 {s0 : State} (Z : zt s0) : kw s0 (.code ⟨"PanelForms", "tab", "(III)J"⟩ prog_1_method_8_code 9 (some .long)) := kw_g Z (tb_in 478 (by decide +kernel)) (by decide +kernel)
theorem kw479 {s0 : State} (Z : zt s0) : kw s0 (.methodLink "PanelForms" 136 ⟨"PanelForms", "checkSide", "(I)V"⟩) := kw_g Z (tb_in 479 (by decide +kernel)) (by decide +kernel)
theorem kw480 {s0 : State} (Z : zt s0) : kw s0 (.static ⟨"PanelForms", "checkSide", "(I)V"⟩) := kw_g Z (tb_in 480 (by decide +kernel)) (by decide +kernel)
theorem kw481 {s0 : State} (Z : zt s0) : kw s0 (.code ⟨"PanelForms", "checkSide", "(I)V"⟩ prog_1_method_22_code 1 none) := kw_g Z (tb_in 481 (by decide +kernel)) (by decide +kernel)
theorem kw482 {s0 : State} (Z : zt s0) : kw s0 (.constantLong "PanelForms" 217 (3 : Int64)) := kw_g Z (tb_in 482 (by decide +kernel)) (by decide +kernel)
theorem kw484 {s0 : State} (Z : zt s0) : kw s0 (.methodLink "PanelForms" 139 ⟨"PanelForms", "checkOneOfTwo", "(I)V"⟩) := kw_g Z (tb_in 484 (by decide +kernel)) (by decide +kernel)
theorem kw485 {s0 : State} (Z : zt s0) : kw s0 (.static ⟨"PanelForms", "checkOneOfTwo", "(I)V"⟩) := kw_g Z (tb_in 485 (by decide +kernel)) (by decide +kernel)
theorem kw486 {s0 : State} (Z : zt s0) : kw s0 (.code ⟨"PanelForms", "checkOneOfTwo", "(I)V"⟩ prog_1_method_23_code 1 none) := kw_g Z (tb_in 486 (by decide +kernel)) (by decide +kernel)
theorem kw488 {s0 : State} (Z : zt s0) : kw s0 (.methodLink "PanelForms" 142 ⟨"PanelForms", "tabOffset", "(IIIJ)J"⟩) := kw_g Z (tb_in 488 (by decide +kernel)) (by decide +kernel)
theorem kw489 {s0 : State} (Z : zt s0) : kw s0 (.static ⟨"PanelForms", "tabOffset", "(IIIJ)J"⟩) := kw_g Z (tb_in 489 (by decide +kernel)) (by decide +kernel)
theorem kw490 {s0 : State} (Z : zt s0) : kw s0 (.code ⟨"PanelForms", "tabOffset", "(IIIJ)J"⟩ prog_1_method_29_code 5 (some .long)) := kw_g Z (tb_in 490 (by decide +kernel)) (by decide +kernel)
theorem kw491 {s0 : State} (Z : zt s0) : kw s0 (.constantLong "PanelForms" 171 (2 : Int64)) := kw_g Z (tb_in 491 (by decide +kernel)) (by decide +kernel)
theorem kw492 {s0 : State} (Z : zt s0) : kw s0 (.methodLinkNest "PanelForms" 146 ⟨"PanelForms$Board", "hasPartNear", "(JJI)Z"⟩ "PanelForms") := kw_mn Z (tb_in 492 (by decide +kernel))
theorem kw494 {s0 : State} (Z : zt s0) : kw s0 (.instanceMethod ⟨"PanelForms$Board", "hasPartNear", "(JJI)Z"⟩) := kw_g Z (tb_in 494 (by decide +kernel)) (by decide +kernel)
theorem kw495 {s0 : State} (Z : zt s0) : kw s0 (.code ⟨"PanelForms$Board", "hasPartNear", "(JJI)Z"⟩ prog_2_method_7_code 15 (some .boolean)) := kw_g Z (tb_in 495 (by decide +kernel)) (by decide +kernel)
theorem kw496 {s0 : State} (Z : zt s0) : kw s0 (.methodLink "PanelForms$Board" 59 ⟨"PanelForms$Board", "high", "(I)J"⟩) := kw_g Z (tb_in 496 (by decide +kernel)) (by decide +kernel)
theorem kw497 {s0 : State} (Z : zt s0) : kw s0 (.classLink "PanelForms" 150 "java/lang/IllegalStateException") := kw_g Z (tb_in 497 (by decide +kernel)) (by decide +kernel)
theorem kw498 {s0 : State} (Z : zt s0) : kw s0 (.instantiable "java/lang/IllegalStateException" 6) := kw_g Z (tb_in 498 (by decide +kernel)) (by decide +kernel)
theorem kw500 {s0 : State} (Z : zt s0) : kw s0 (.selects "java/lang/IllegalStateException" ⟨"java/lang/Throwable", "fillInStackTrace", "(I)Ljava/lang/Throwable;"⟩ ⟨"java/lang/Throwable", "fillInStackTrace", "(I)Ljava/lang/Throwable;"⟩) := kw_g Z (tb_in 500 (by decide +kernel)) (by decide +kernel)
theorem kw507 {s0 : State} (Z : zt s0) : kw s0 (.methodLink "PanelForms" 154 ⟨"java/lang/IllegalStateException", "<init>", "(Ljava/lang/String;)V"⟩) := kw_g Z (tb_in 507 (by decide +kernel)) (by decide +kernel)
theorem kw508 {s0 : State} (Z : zt s0) : kw s0 (.instanceMethod ⟨"java/lang/IllegalStateException", "<init>", "(Ljava/lang/String;)V"⟩) := kw_g Z (tb_in 508 (by decide +kernel)) (by decide +kernel)
theorem kw509 {s0 : State} (Z : zt s0) : kw s0 (.code ⟨"java/lang/IllegalStateException", "<init>", "(Ljava/lang/String;)V"⟩ prog_9_method_2_code 2 none) := kw_g Z (tb_in 509 (by decide +kernel)) (by decide +kernel)
theorem kw510 {s0 : State} (Z : zt s0) : kw s0 (.methodLink "java/lang/IllegalStateException" 7 ⟨"java/lang/RuntimeException", "<init>", "(Ljava/lang/String;)V"⟩) := kw_g Z (tb_in 510 (by decide +kernel)) (by decide +kernel)
theorem kw513 {s0 : State} (Z : zt s0) : kw s0 (.methodLink "PanelFormsLaw" 111 ⟨"PanelFormsLaw", "score", "(LPanelForms;II[J)I"⟩) := kw_g Z (tb_in 513 (by decide +kernel)) (by decide +kernel)
theorem kw514 {s0 : State} (Z : zt s0) : kw s0 (.static ⟨"PanelFormsLaw", "score", "(LPanelForms;II[J)I"⟩) := kw_g Z (tb_in 514 (by decide +kernel)) (by decide +kernel)
theorem kw515 {s0 : State} (Z : zt s0) : kw s0 (.codeWith ⟨"PanelFormsLaw", "score", "(LPanelForms;II[J)I"⟩ method_8_code 5 (some .int) [(0, 9, 12, 13)]) := kw_g Z (tb_in 515 (by decide +kernel)) (by decide +kernel)
theorem kw516 {s0 : State} (Z : zt s0) : kw s0 (.methodLink "PanelFormsLaw" 35 ⟨"PanelForms", "score", "(II)J"⟩) := kw_g Z (tb_in 516 (by decide +kernel)) (by decide +kernel)
theorem kw517 {s0 : State} (Z : zt s0) : kw s0 (.instanceMethod ⟨"PanelForms", "score", "(II)J"⟩) := kw_g Z (tb_in 517 (by decide +kernel)) (by decide +kernel)
theorem kw518 {s0 : State} (Z : zt s0) : kw s0 (.selects "PanelForms" ⟨"PanelForms", "score", "(II)J"⟩ ⟨"PanelForms", "score", "(II)J"⟩) := kw_g Z (tb_in 518 (by decide +kernel)) (by decide +kernel)
theorem kw519 {s0 : State} (Z : zt s0) : kw s0 (.code ⟨"PanelForms", "score", "(II)J"⟩ prog_1_method_9_code 3 (some .long)) := kw_g Z (tb_in 519 (by decide +kernel)) (by decide +kernel)
theorem kw521 {s0 : State} (Z : zt s0) : kw s0 (.methodLink "PanelFormsLaw" 114 ⟨"PanelFormsLaw", "part", "(LPanelForms;IJJJ[J)I"⟩) := kw_g Z (tb_in 521 (by decide +kernel)) (by decide +kernel)
theorem kw522 {s0 : State} (Z : zt s0) : kw s0 (.static ⟨"PanelFormsLaw", "part", "(LPanelForms;IJJJ[J)I"⟩) := kw_g Z (tb_in 522 (by decide +kernel)) (by decide +kernel)
theorem kw523 {s0 : State} (Z : zt s0) : kw s0 (.codeWith ⟨"PanelFormsLaw", "part", "(LPanelForms;IJJJ[J)I"⟩ method_9_code 10 (some .int) [(0, 22, 25, 13), (0, 22, 29, 15)]) := kw_g Z (tb_in 523 (by decide +kernel)) (by decide +kernel)
theorem kw524 {s0 : State} (Z : zt s0) : kw s0 (.methodLink "PanelFormsLaw" 38 ⟨"PanelForms", "part", "(IJJJ)Z"⟩) := kw_g Z (tb_in 524 (by decide +kernel)) (by decide +kernel)
theorem kw525 {s0 : State} (Z : zt s0) : kw s0 (.instanceMethod ⟨"PanelForms", "part", "(IJJJ)Z"⟩) := kw_g Z (tb_in 525 (by decide +kernel)) (by decide +kernel)
theorem kw526 {s0 : State} (Z : zt s0) : kw s0 (.selects "PanelForms" ⟨"PanelForms", "part", "(IJJJ)Z"⟩ ⟨"PanelForms", "part", "(IJJJ)Z"⟩) := kw_g Z (tb_in 526 (by decide +kernel)) (by decide +kernel)
theorem kw527 {s0 : State} (Z : zt s0) : kw s0 (.code ⟨"PanelForms", "part", "(IJJJ)Z"⟩ prog_1_method_10_code 8 (some .boolean)) := kw_g Z (tb_in 527 (by decide +kernel)) (by decide +kernel)
theorem kw529 {s0 : State} (Z : zt s0) : kw s0 (.methodLinkNest "PanelForms" 168 ⟨"PanelForms$Board", "addPart", "(JJJ)Z"⟩ "PanelForms") := kw_mn Z (tb_in 529 (by decide +kernel))
theorem kw531 {s0 : State} (Z : zt s0) : kw s0 (.instanceMethod ⟨"PanelForms$Board", "addPart", "(JJJ)Z"⟩) := kw_g Z (tb_in 531 (by decide +kernel)) (by decide +kernel)
theorem kw532 {s0 : State} (Z : zt s0) : kw s0 (.code ⟨"PanelForms$Board", "addPart", "(JJJ)Z"⟩ prog_2_method_3_code 7 (some .boolean)) := kw_g Z (tb_in 532 (by decide +kernel)) (by decide +kernel)
theorem kw533 {s0 : State} (Z : zt s0) : kw s0 (.methodLink "PanelFormsLaw" 118 ⟨"PanelFormsLaw", "waste", "(LPanelForms;I[J)I"⟩) := kw_g Z (tb_in 533 (by decide +kernel)) (by decide +kernel)
theorem kw534 {s0 : State} (Z : zt s0) : kw s0 (.static ⟨"PanelFormsLaw", "waste", "(LPanelForms;I[J)I"⟩) := kw_g Z (tb_in 534 (by decide +kernel)) (by decide +kernel)
theorem kw535 {s0 : State} (Z : zt s0) : kw s0 (.codeWith ⟨"PanelFormsLaw", "waste", "(LPanelForms;I[J)I"⟩ method_10_code 4 (some .int) [(0, 8, 11, 13)]) := kw_g Z (tb_in 535 (by decide +kernel)) (by decide +kernel)
theorem kw536 {s0 : State} (Z : zt s0) : kw s0 (.methodLink "PanelFormsLaw" 42 ⟨"PanelForms", "waste", "(I)J"⟩) := kw_g Z (tb_in 536 (by decide +kernel)) (by decide +kernel)
theorem kw537 {s0 : State} (Z : zt s0) : kw s0 (.instanceMethod ⟨"PanelForms", "waste", "(I)J"⟩) := kw_g Z (tb_in 537 (by decide +kernel)) (by decide +kernel)
theorem kw538 {s0 : State} (Z : zt s0) : kw s0 (.selects "PanelForms" ⟨"PanelForms", "waste", "(I)J"⟩ ⟨"PanelForms", "waste", "(I)J"⟩) := kw_g Z (tb_in 538 (by decide +kernel)) (by decide +kernel)
theorem kw539 {s0 : State} (Z : zt s0) : kw s0 (.code ⟨"PanelForms", "waste", "(I)J"⟩ prog_1_method_11_code 8 (some .long)) := kw_g Z (tb_in 539 (by decide +kernel)) (by decide +kernel)
theorem kw540 {s0 : State} (Z : zt s0) : kw s0 (.methodLink "PanelForms" 173 ⟨"PanelForms", "twiceAreaOfCopies", "()J"⟩) := kw_g Z (tb_in 540 (by decide +kernel)) (by decide +kernel)
theorem kw542 {s0 : State} (Z : zt s0) : kw s0 (.instanceMethod ⟨"PanelForms", "twiceAreaOfCopies", "()J"⟩) := kw_g Z (tb_in 542 (by decide +kernel)) (by decide +kernel)
theorem kw543 {s0 : State} (Z : zt s0) : kw s0 (.code ⟨"PanelForms", "twiceAreaOfCopies", "()J"⟩ prog_1_method_31_code 4 (some .long)) := kw_g Z (tb_in 543 (by decide +kernel)) (by decide +kernel)
theorem kw544 {s0 : State} (Z : zt s0) : kw s0 (.methodLinkNest "PanelForms" 276 ⟨"PanelForms$Board", "twiceArea", "()J"⟩ "PanelForms") := kw_mn Z (tb_in 544 (by decide +kernel))
theorem kw546 {s0 : State} (Z : zt s0) : kw s0 (.instanceMethod ⟨"PanelForms$Board", "twiceArea", "()J"⟩) := kw_g Z (tb_in 546 (by decide +kernel)) (by decide +kernel)
theorem kw547 {s0 : State} (Z : zt s0) : kw s0 (.code ⟨"PanelForms$Board", "twiceArea", "()J"⟩ prog_2_method_8_code 5 (some .long)) := kw_g Z (tb_in 547 (by decide +kernel)) (by decide +kernel)
theorem kw548 {s0 : State} (Z : zt s0) : kw s0 (.methodLink "PanelForms$Board" 63 ⟨"java/lang/Math", "abs", "(J)J"⟩) := kw_g Z (tb_in 548 (by decide +kernel)) (by decide +kernel)
theorem kw549 {s0 : State} (Z : zt s0) : kw s0 (.static ⟨"java/lang/Math", "abs", "(J)J"⟩) := kw_g Z (tb_in 549 (by decide +kernel)) (by decide +kernel)
theorem kw550 {s0 : State} (Z : zt s0) : kw s0 (.code ⟨"java/lang/Math", "abs", "(J)J"⟩ prog_11_method_61_code 2 (some .long)) := kw_g Z (tb_in 550 (by decide +kernel)) (by decide +kernel)
theorem kw551 {s0 : State} (Z : zt s0) : kw s0 (.methodLink "PanelForms" 177 ⟨"java/lang/Math", "abs", "(J)J"⟩) := kw_g Z (tb_in 551 (by decide +kernel)) (by decide +kernel)
theorem kw552 {s0 : State} (Z : zt s0) : kw s0 (.methodLink "PanelForms" 180 ⟨"PanelForms", "commonDivisor", "(JJ)J"⟩) := kw_g Z (tb_in 552 (by decide +kernel)) (by decide +kernel)
theorem kw553 {s0 : State} (Z : zt s0) : kw s0 (.static ⟨"PanelForms", "commonDivisor", "(JJ)J"⟩) := kw_g Z (tb_in 553 (by decide +kernel)) (by decide +kernel)
theorem kw554 {s0 : State} (Z : zt s0) : kw s0 (.code ⟨"PanelForms", "commonDivisor", "(JJ)J"⟩ prog_1_method_32_code 11 (some .long)) := kw_g Z (tb_in 554 (by decide +kernel)) (by decide +kernel)
theorem kw555 {s0 : State} (Z : zt s0) : kw s0 (.methodLink "PanelFormsLaw" 122 ⟨"PanelFormsLaw", "mill", "(LPanelForms;II[J)I"⟩) := kw_g Z (tb_in 555 (by decide +kernel)) (by decide +kernel)
theorem kw556 {s0 : State} (Z : zt s0) : kw s0 (.static ⟨"PanelFormsLaw", "mill", "(LPanelForms;II[J)I"⟩) := kw_g Z (tb_in 556 (by decide +kernel)) (by decide +kernel)
theorem kw557 {s0 : State} (Z : zt s0) : kw s0 (.codeWith ⟨"PanelFormsLaw", "mill", "(LPanelForms;II[J)I"⟩ method_11_code 5 (some .int) [(0, 9, 12, 13)]) := kw_g Z (tb_in 557 (by decide +kernel)) (by decide +kernel)
theorem kw558 {s0 : State} (Z : zt s0) : kw s0 (.methodLink "PanelFormsLaw" 46 ⟨"PanelForms", "mill", "(II)J"⟩) := kw_g Z (tb_in 558 (by decide +kernel)) (by decide +kernel)
theorem kw559 {s0 : State} (Z : zt s0) : kw s0 (.instanceMethod ⟨"PanelForms", "mill", "(II)J"⟩) := kw_g Z (tb_in 559 (by decide +kernel)) (by decide +kernel)
theorem kw560 {s0 : State} (Z : zt s0) : kw s0 (.selects "PanelForms" ⟨"PanelForms", "mill", "(II)J"⟩ ⟨"PanelForms", "mill", "(II)J"⟩) := kw_g Z (tb_in 560 (by decide +kernel)) (by decide +kernel)
theorem kw561 {s0 : State} (Z : zt s0) : kw s0 (.code ⟨"PanelForms", "mill", "(II)J"⟩ prog_1_method_12_code 7 (some .long)) := kw_g Z (tb_in 561 (by decide +kernel)) (by decide +kernel)
theorem kw563 {s0 : State} (Z : zt s0) : kw s0 (.methodLink "PanelForms" 190 ⟨"PanelForms", "grownEnd", "(JJZ)J"⟩) := kw_g Z (tb_in 563 (by decide +kernel)) (by decide +kernel)
theorem kw565 {s0 : State} (Z : zt s0) : kw s0 (.instanceMethod ⟨"PanelForms", "grownEnd", "(JJZ)J"⟩) := kw_g Z (tb_in 565 (by decide +kernel)) (by decide +kernel)
theorem kw566 {s0 : State} (Z : zt s0) : kw s0 (.code ⟨"PanelForms", "grownEnd", "(JJZ)J"⟩ prog_1_method_30_code 6 (some .long)) := kw_g Z (tb_in 566 (by decide +kernel)) (by decide +kernel)
theorem kw567 {s0 : State} (Z : zt s0) : kw s0 (.methodLink "PanelFormsLaw" 125 ⟨"PanelFormsLaw", "radius", "(LPanelForms;J[J)I"⟩) := kw_g Z (tb_in 567 (by decide +kernel)) (by decide +kernel)
theorem kw568 {s0 : State} (Z : zt s0) : kw s0 (.static ⟨"PanelFormsLaw", "radius", "(LPanelForms;J[J)I"⟩) := kw_g Z (tb_in 568 (by decide +kernel)) (by decide +kernel)
theorem kw569 {s0 : State} (Z : zt s0) : kw s0 (.codeWith ⟨"PanelFormsLaw", "radius", "(LPanelForms;J[J)I"⟩ method_12_code 5 (some .int) [(0, 16, 19, 15)]) := kw_g Z (tb_in 569 (by decide +kernel)) (by decide +kernel)
theorem kw570 {s0 : State} (Z : zt s0) : kw s0 (.methodLink "PanelFormsLaw" 49 ⟨"PanelForms", "radius", "(J)Z"⟩) := kw_g Z (tb_in 570 (by decide +kernel)) (by decide +kernel)
theorem kw571 {s0 : State} (Z : zt s0) : kw s0 (.instanceMethod ⟨"PanelForms", "radius", "(J)Z"⟩) := kw_g Z (tb_in 571 (by decide +kernel)) (by decide +kernel)
theorem kw572 {s0 : State} (Z : zt s0) : kw s0 (.selects "PanelForms" ⟨"PanelForms", "radius", "(J)Z"⟩ ⟨"PanelForms", "radius", "(J)Z"⟩) := kw_g Z (tb_in 572 (by decide +kernel)) (by decide +kernel)
theorem kw573 {s0 : State} (Z : zt s0) : kw s0 (.code ⟨"PanelForms", "radius", "(J)Z"⟩ prog_1_method_13_code 4 (some .boolean)) := kw_g Z (tb_in 573 (by decide +kernel)) (by decide +kernel)
theorem kw574 {s0 : State} (Z : zt s0) : kw s0 (.methodLink "PanelFormsLaw" 128 ⟨"PanelFormsLaw", "bad", "(LPanelForms;IZ[J)I"⟩) := kw_g Z (tb_in 574 (by decide +kernel)) (by decide +kernel)
theorem kw575 {s0 : State} (Z : zt s0) : kw s0 (.static ⟨"PanelFormsLaw", "bad", "(LPanelForms;IZ[J)I"⟩) := kw_g Z (tb_in 575 (by decide +kernel)) (by decide +kernel)
theorem kw576 {s0 : State} (Z : zt s0) : kw s0 (.codeWith ⟨"PanelFormsLaw", "bad", "(LPanelForms;IZ[J)I"⟩ method_13_code 5 (some .int) [(0, 17, 20, 13)]) := kw_g Z (tb_in 576 (by decide +kernel)) (by decide +kernel)
theorem kw577 {s0 : State} (Z : zt s0) : kw s0 (.methodLink "PanelFormsLaw" 52 ⟨"PanelForms", "bad", "(IZ)Z"⟩) := kw_g Z (tb_in 577 (by decide +kernel)) (by decide +kernel)
theorem kw578 {s0 : State} (Z : zt s0) : kw s0 (.instanceMethod ⟨"PanelForms", "bad", "(IZ)Z"⟩) := kw_g Z (tb_in 578 (by decide +kernel)) (by decide +kernel)
theorem kw579 {s0 : State} (Z : zt s0) : kw s0 (.selects "PanelForms" ⟨"PanelForms", "bad", "(IZ)Z"⟩ ⟨"PanelForms", "bad", "(IZ)Z"⟩) := kw_g Z (tb_in 579 (by decide +kernel)) (by decide +kernel)
theorem kw580 {s0 : State} (Z : zt s0) : kw s0 (.code ⟨"PanelForms", "bad", "(IZ)Z"⟩ prog_1_method_14_code 4 (some .boolean)) := kw_g Z (tb_in 580 (by decide +kernel)) (by decide +kernel)
theorem kw581 {s0 : State} (Z : zt s0) : kw s0 (.methodLink "PanelFormsLaw" 132 ⟨"PanelFormsLaw", "rail", "(LPanelForms;IJ[J)I"⟩) := kw_g Z (tb_in 581 (by decide +kernel)) (by decide +kernel)
theorem kw582 {s0 : State} (Z : zt s0) : kw s0 (.static ⟨"PanelFormsLaw", "rail", "(LPanelForms;IJ[J)I"⟩) := kw_g Z (tb_in 582 (by decide +kernel)) (by decide +kernel)
theorem kw583 {s0 : State} (Z : zt s0) : kw s0 (.codeWith ⟨"PanelFormsLaw", "rail", "(LPanelForms;IJ[J)I"⟩ method_14_code 6 (some .int) [(0, 18, 21, 13), (0, 18, 25, 15)]) := kw_g Z (tb_in 583 (by decide +kernel)) (by decide +kernel)
theorem kw584 {s0 : State} (Z : zt s0) : kw s0 (.methodLink "PanelFormsLaw" 56 ⟨"PanelForms", "rail", "(IJ)Z"⟩) := kw_g Z (tb_in 584 (by decide +kernel)) (by decide +kernel)
theorem kw585 {s0 : State} (Z : zt s0) : kw s0 (.instanceMethod ⟨"PanelForms", "rail", "(IJ)Z"⟩) := kw_g Z (tb_in 585 (by decide +kernel)) (by decide +kernel)
theorem kw586 {s0 : State} (Z : zt s0) : kw s0 (.selects "PanelForms" ⟨"PanelForms", "rail", "(IJ)Z"⟩ ⟨"PanelForms", "rail", "(IJ)Z"⟩) := kw_g Z (tb_in 586 (by decide +kernel)) (by decide +kernel)
theorem kw587 {s0 : State} (Z : zt s0) : kw s0 (.code ⟨"PanelForms", "rail", "(IJ)Z"⟩ prog_1_method_15_code 5 (some .boolean)) := kw_g Z (tb_in 587 (by decide +kernel)) (by decide +kernel)
theorem kw588 {s0 : State} (Z : zt s0) : kw s0 (.methodLink "PanelFormsLaw" 144 ⟨"PanelFormsLaw", "wants", "(LPanelForms;II[J)I"⟩) := kw_g Z (tb_in 588 (by decide +kernel)) (by decide +kernel)
theorem kw589 {s0 : State} (Z : zt s0) : kw s0 (.static ⟨"PanelFormsLaw", "wants", "(LPanelForms;II[J)I"⟩) := kw_g Z (tb_in 589 (by decide +kernel)) (by decide +kernel)
theorem kw590 {s0 : State} (Z : zt s0) : kw s0 (.codeWith ⟨"PanelFormsLaw", "wants", "(LPanelForms;II[J)I"⟩ method_15_code 5 (some .int) [(0, 17, 20, 13), (0, 17, 24, 15)]) := kw_g Z (tb_in 590 (by decide +kernel)) (by decide +kernel)
theorem kw591 {s0 : State} (Z : zt s0) : kw s0 (.methodLink "PanelFormsLaw" 60 ⟨"PanelForms", "wants", "(II)Z"⟩) := kw_g Z (tb_in 591 (by decide +kernel)) (by decide +kernel)
theorem kw592 {s0 : State} (Z : zt s0) : kw s0 (.instanceMethod ⟨"PanelForms", "wants", "(II)Z"⟩) := kw_g Z (tb_in 592 (by decide +kernel)) (by decide +kernel)
theorem kw593 {s0 : State} (Z : zt s0) : kw s0 (.selects "PanelForms" ⟨"PanelForms", "wants", "(II)Z"⟩ ⟨"PanelForms", "wants", "(II)Z"⟩) := kw_g Z (tb_in 593 (by decide +kernel)) (by decide +kernel)
theorem kw594 {s0 : State} (Z : zt s0) : kw s0 (.code ⟨"PanelForms", "wants", "(II)Z"⟩ prog_1_method_18_code 4 (some .boolean)) := kw_g Z (tb_in 594 (by decide +kernel)) (by decide +kernel)
theorem kw595 {s0 : State} (Z : zt s0) : kw s0 (.constantLong "PanelForms" 201 (200 : Int64)) := kw_g Z (tb_in 595 (by decide +kernel)) (by decide +kernel)
theorem kw597 {s0 : State} (Z : zt s0) : kw s0 (.classLink "PanelFormsLaw" 73 "PanelFormsModel") := kw_g Z (tb_in 597 (by decide +kernel)) (by decide +kernel)
theorem kw598 {s0 : State} (Z : zt s0) : kw s0 (.instantiable "PanelFormsModel" 26) := kw_g Z (tb_in 598 (by decide +kernel)) (by decide +kernel)
theorem kw599 {s0 : State} (Z : zt s0) : kw s0 (.methodLink "PanelFormsLaw" 75 ⟨"PanelFormsModel", "<init>", "(JJ)V"⟩) := kw_g Z (tb_in 599 (by decide +kernel)) (by decide +kernel)
theorem kw600 {s0 : State} (Z : zt s0) : kw s0 (.instanceMethod ⟨"PanelFormsModel", "<init>", "(JJ)V"⟩) := kw_g Z (tb_in 600 (by decide +kernel)) (by decide +kernel)
theorem kw601 {s0 : State} (Z : zt s0) : kw s0 (.code ⟨"PanelFormsModel", "<init>", "(JJ)V"⟩ prog_6_method_1_code 6 none) := kw_g Z (tb_in 601 (by decide +kernel)) (by decide +kernel)
theorem kw602 {s0 : State} (Z : zt s0) : kw s0 (.methodLink "PanelFormsModel" 1 ⟨"java/lang/Object", "<init>", "()V"⟩) := kw_g Z (tb_in 602 (by decide +kernel)) (by decide +kernel)
theorem kw603 {s0 : State} (Z : zt s0) : kw s0 (.constantLong "PanelFormsModel" 60 (65536 : Int64)) := kw_g Z (tb_in 603 (by decide +kernel)) (by decide +kernel)
theorem kw604 {s0 : State} (Z : zt s0) : kw s0 (.fieldLink "PanelFormsModel" 69 "PanelFormsModel" "thrown" "I") := kw_g Z (tb_in 604 (by decide +kernel)) (by decide +kernel)
theorem kw605 {s0 : State} (Z : zt s0) : kw s0 (.fieldLink "PanelFormsModel" 62 "PanelFormsModel" "width" "J") := kw_g Z (tb_in 605 (by decide +kernel)) (by decide +kernel)
theorem kw606 {s0 : State} (Z : zt s0) : kw s0 (.fieldLink "PanelFormsModel" 66 "PanelFormsModel" "height" "J") := kw_g Z (tb_in 606 (by decide +kernel)) (by decide +kernel)
theorem kw607 {s0 : State} (Z : zt s0) : kw s0 (.fieldLink "PanelFormsModel" 73 "PanelFormsModel" "boards" "I") := kw_g Z (tb_in 607 (by decide +kernel)) (by decide +kernel)
theorem kw608 {s0 : State} (Z : zt s0) : kw s0 (.fieldLink "PanelFormsModel" 7 "PanelFormsModel" "cornerCount" "[I") := kw_g Z (tb_in 608 (by decide +kernel)) (by decide +kernel)
theorem kw609 {s0 : State} (Z : zt s0) : kw s0 (.fieldLink "PanelFormsModel" 13 "PanelFormsModel" "cornerX" "[J") := kw_g Z (tb_in 609 (by decide +kernel)) (by decide +kernel)
theorem kw610 {s0 : State} (Z : zt s0) : kw s0 (.fieldLink "PanelFormsModel" 17 "PanelFormsModel" "cornerY" "[J") := kw_g Z (tb_in 610 (by decide +kernel)) (by decide +kernel)
theorem kw611 {s0 : State} (Z : zt s0) : kw s0 (.fieldLink "PanelFormsModel" 20 "PanelFormsModel" "wanted" "[I") := kw_g Z (tb_in 611 (by decide +kernel)) (by decide +kernel)
theorem kw612 {s0 : State} (Z : zt s0) : kw s0 (.fieldLink "PanelFormsModel" 23 "PanelFormsModel" "partCount" "[I") := kw_g Z (tb_in 612 (by decide +kernel)) (by decide +kernel)
theorem kw613 {s0 : State} (Z : zt s0) : kw s0 (.fieldLink "PanelFormsModel" 26 "PanelFormsModel" "parts" "[J") := kw_g Z (tb_in 613 (by decide +kernel)) (by decide +kernel)
theorem kw614 {s0 : State} (Z : zt s0) : kw s0 (.fieldLink "PanelFormsModel" 29 "PanelFormsModel" "rails" "[J") := kw_g Z (tb_in 614 (by decide +kernel)) (by decide +kernel)
theorem kw615 {s0 : State} (Z : zt s0) : kw s0 (.fieldLink "PanelFormsModel" 84 "PanelFormsModel" "gap" "J") := kw_g Z (tb_in 615 (by decide +kernel)) (by decide +kernel)
theorem kw616 {s0 : State} (Z : zt s0) : kw s0 (.fieldLink "PanelFormsModel" 87 "PanelFormsModel" "tool" "J") := kw_g Z (tb_in 616 (by decide +kernel)) (by decide +kernel)
theorem kw617 {s0 : State} (Z : zt s0) : kw s0 (.fieldLink "PanelFormsModel" 125 "PanelFormsModel" "copies" "I") := kw_g Z (tb_in 617 (by decide +kernel)) (by decide +kernel)
theorem kw618 {s0 : State} (Z : zt s0) : kw s0 (.fieldLink "PanelFormsModel" 32 "PanelFormsModel" "row" "[J") := kw_g Z (tb_in 618 (by decide +kernel)) (by decide +kernel)
theorem kw619 {s0 : State} (Z : zt s0) : kw s0 (.fieldLink "PanelFormsModel" 35 "PanelFormsModel" "isBad" "[Z") := kw_g Z (tb_in 619 (by decide +kernel)) (by decide +kernel)
theorem kw620 {s0 : State} (Z : zt s0) : kw s0 (.fieldLink "PanelFormsModel" 148 "PanelFormsModel" "isProved" "Z") := kw_g Z (tb_in 620 (by decide +kernel)) (by decide +kernel)
theorem kw621 {s0 : State} (Z : zt s0) : kw s0 (.fieldLink "PanelFormsModel" 39 "PanelFormsModel" "boxX" "[J") := kw_g Z (tb_in 621 (by decide +kernel)) (by decide +kernel)
theorem kw622 {s0 : State} (Z : zt s0) : kw s0 (.fieldLink "PanelFormsModel" 42 "PanelFormsModel" "boxY" "[J") := kw_g Z (tb_in 622 (by decide +kernel)) (by decide +kernel)
theorem kw623 {s0 : State} (Z : zt s0) : kw s0 (.fieldLink "PanelFormsModel" 45 "PanelFormsModel" "boxW" "[J") := kw_g Z (tb_in 623 (by decide +kernel)) (by decide +kernel)
theorem kw624 {s0 : State} (Z : zt s0) : kw s0 (.fieldLink "PanelFormsModel" 48 "PanelFormsModel" "boxH" "[J") := kw_g Z (tb_in 624 (by decide +kernel)) (by decide +kernel)
theorem kw625 {s0 : State} (Z : zt s0) : kw s0 (.fieldLink "PanelFormsModel" 51 "PanelFormsModel" "fits" "[I") := kw_g Z (tb_in 625 (by decide +kernel)) (by decide +kernel)
theorem kw626 {s0 : State} (Z : zt s0) : kw s0 (.fieldLink "PanelFormsModel" 54 "PanelFormsModel" "counts" "[I") := kw_g Z (tb_in 626 (by decide +kernel)) (by decide +kernel)
theorem kw627 {s0 : State} (Z : zt s0) : kw s0 (.fieldLink "PanelFormsModel" 57 "PanelFormsModel" "best" "[I") := kw_g Z (tb_in 627 (by decide +kernel)) (by decide +kernel)
theorem kw628 {s0 : State} (Z : zt s0) : kw s0 (.fieldLink "PanelFormsModel" 103 "PanelFormsModel" "bestCopies" "I") := kw_g Z (tb_in 628 (by decide +kernel)) (by decide +kernel)
theorem kw629 {s0 : State} (Z : zt s0) : kw s0 (.fieldLink "PanelFormsModel" 113 "PanelFormsModel" "bestRows" "I") := kw_g Z (tb_in 629 (by decide +kernel)) (by decide +kernel)
theorem kw683 {s0 : State} (Z : zt s0) : kw s0 (.methodLink "PanelFormsLaw" 87 ⟨"PanelFormsModel", "thrown", "()I"⟩) := kw_g Z (tb_in 683 (by decide +kernel)) (by decide +kernel)
theorem kw684 {s0 : State} (Z : zt s0) : kw s0 (.instanceMethod ⟨"PanelFormsModel", "thrown", "()I"⟩) := kw_g Z (tb_in 684 (by decide +kernel)) (by decide +kernel)
theorem kw685 {s0 : State} (Z : zt s0) : kw s0 (.selects "PanelFormsModel" ⟨"PanelFormsModel", "thrown", "()I"⟩ ⟨"PanelFormsModel", "thrown", "()I"⟩) := kw_g Z (tb_in 685 (by decide +kernel)) (by decide +kernel)
theorem kw686 {s0 : State} (Z : zt s0) : kw s0 (.code ⟨"PanelFormsModel", "thrown", "()I"⟩ prog_6_method_2_code 1 (some .int)) := kw_g Z (tb_in 686 (by decide +kernel)) (by decide +kernel)
theorem kw687 {s0 : State} (Z : zt s0) : kw s0 (.methodLink "PanelFormsLaw" 80 ⟨"PanelFormsModel", "board", "()I"⟩) := kw_g Z (tb_in 687 (by decide +kernel)) (by decide +kernel)
theorem kw688 {s0 : State} (Z : zt s0) : kw s0 (.instanceMethod ⟨"PanelFormsModel", "board", "()I"⟩) := kw_g Z (tb_in 688 (by decide +kernel)) (by decide +kernel)
theorem kw689 {s0 : State} (Z : zt s0) : kw s0 (.selects "PanelFormsModel" ⟨"PanelFormsModel", "board", "()I"⟩ ⟨"PanelFormsModel", "board", "()I"⟩) := kw_g Z (tb_in 689 (by decide +kernel)) (by decide +kernel)
theorem kw690 {s0 : State} (Z : zt s0) : kw s0 (.code ⟨"PanelFormsModel", "board", "()I"⟩ prog_6_method_5_code 1 (some .int)) := kw_g Z (tb_in 690 (by decide +kernel)) (by decide +kernel)
theorem kw691 {s0 : State} (Z : zt s0) : kw s0 (.methodLink "PanelFormsLaw" 86 ⟨"PanelFormsModel", "corner", "(IJJ)Z"⟩) := kw_g Z (tb_in 691 (by decide +kernel)) (by decide +kernel)
theorem kw692 {s0 : State} (Z : zt s0) : kw s0 (.instanceMethod ⟨"PanelFormsModel", "corner", "(IJJ)Z"⟩) := kw_g Z (tb_in 692 (by decide +kernel)) (by decide +kernel)
theorem kw693 {s0 : State} (Z : zt s0) : kw s0 (.selects "PanelFormsModel" ⟨"PanelFormsModel", "corner", "(IJJ)Z"⟩ ⟨"PanelFormsModel", "corner", "(IJJ)Z"⟩) := kw_g Z (tb_in 693 (by decide +kernel)) (by decide +kernel)
theorem kw694 {s0 : State} (Z : zt s0) : kw s0 (.code ⟨"PanelFormsModel", "corner", "(IJJ)Z"⟩ prog_6_method_6_code 6 (some .boolean)) := kw_g Z (tb_in 694 (by decide +kernel)) (by decide +kernel)
theorem kw695 {s0 : State} (Z : zt s0) : kw s0 (.methodLink "PanelFormsModel" 76 ⟨"PanelFormsModel", "isBoard", "(I)Z"⟩) := kw_g Z (tb_in 695 (by decide +kernel)) (by decide +kernel)
theorem kw697 {s0 : State} (Z : zt s0) : kw s0 (.instanceMethod ⟨"PanelFormsModel", "isBoard", "(I)Z"⟩) := kw_g Z (tb_in 697 (by decide +kernel)) (by decide +kernel)
theorem kw698 {s0 : State} (Z : zt s0) : kw s0 (.code ⟨"PanelFormsModel", "isBoard", "(I)Z"⟩ prog_6_method_3_code 2 (some .boolean)) := kw_g Z (tb_in 698 (by decide +kernel)) (by decide +kernel)
theorem kw699 {s0 : State} (Z : zt s0) : kw s0 (.methodLink "PanelFormsModel" 80 ⟨"PanelFormsModel", "isSize", "(J)Z"⟩) := kw_g Z (tb_in 699 (by decide +kernel)) (by decide +kernel)
theorem kw700 {s0 : State} (Z : zt s0) : kw s0 (.static ⟨"PanelFormsModel", "isSize", "(J)Z"⟩) := kw_g Z (tb_in 700 (by decide +kernel)) (by decide +kernel)
theorem kw701 {s0 : State} (Z : zt s0) : kw s0 (.code ⟨"PanelFormsModel", "isSize", "(J)Z"⟩ prog_6_method_4_code 2 (some .boolean)) := kw_g Z (tb_in 701 (by decide +kernel)) (by decide +kernel)
theorem kw702 {s0 : State} (Z : zt s0) : kw s0 (.methodLink "PanelFormsLaw" 117 ⟨"PanelFormsModel", "part", "(IJJJ)Z"⟩) := kw_g Z (tb_in 702 (by decide +kernel)) (by decide +kernel)
theorem kw703 {s0 : State} (Z : zt s0) : kw s0 (.instanceMethod ⟨"PanelFormsModel", "part", "(IJJJ)Z"⟩) := kw_g Z (tb_in 703 (by decide +kernel)) (by decide +kernel)
theorem kw704 {s0 : State} (Z : zt s0) : kw s0 (.selects "PanelFormsModel" ⟨"PanelFormsModel", "part", "(IJJJ)Z"⟩ ⟨"PanelFormsModel", "part", "(IJJJ)Z"⟩) := kw_g Z (tb_in 704 (by decide +kernel)) (by decide +kernel)
theorem kw705 {s0 : State} (Z : zt s0) : kw s0 (.code ⟨"PanelFormsModel", "part", "(IJJJ)Z"⟩ prog_6_method_7_code 9 (some .boolean)) := kw_g Z (tb_in 705 (by decide +kernel)) (by decide +kernel)
theorem kw706 {s0 : State} (Z : zt s0) : kw s0 (.methodLink "PanelFormsLaw" 106 ⟨"PanelFormsModel", "gap", "(J)Z"⟩) := kw_g Z (tb_in 706 (by decide +kernel)) (by decide +kernel)
theorem kw707 {s0 : State} (Z : zt s0) : kw s0 (.instanceMethod ⟨"PanelFormsModel", "gap", "(J)Z"⟩) := kw_g Z (tb_in 707 (by decide +kernel)) (by decide +kernel)
theorem kw708 {s0 : State} (Z : zt s0) : kw s0 (.selects "PanelFormsModel" ⟨"PanelFormsModel", "gap", "(J)Z"⟩ ⟨"PanelFormsModel", "gap", "(J)Z"⟩) := kw_g Z (tb_in 708 (by decide +kernel)) (by decide +kernel)
theorem kw709 {s0 : State} (Z : zt s0) : kw s0 (.code ⟨"PanelFormsModel", "gap", "(J)Z"⟩ prog_6_method_8_code 3 (some .boolean)) := kw_g Z (tb_in 709 (by decide +kernel)) (by decide +kernel)
theorem kw710 {s0 : State} (Z : zt s0) : kw s0 (.methodLink "PanelFormsLaw" 127 ⟨"PanelFormsModel", "radius", "(J)Z"⟩) := kw_g Z (tb_in 710 (by decide +kernel)) (by decide +kernel)
theorem kw711 {s0 : State} (Z : zt s0) : kw s0 (.instanceMethod ⟨"PanelFormsModel", "radius", "(J)Z"⟩) := kw_g Z (tb_in 711 (by decide +kernel)) (by decide +kernel)
theorem kw712 {s0 : State} (Z : zt s0) : kw s0 (.selects "PanelFormsModel" ⟨"PanelFormsModel", "radius", "(J)Z"⟩ ⟨"PanelFormsModel", "radius", "(J)Z"⟩) := kw_g Z (tb_in 712 (by decide +kernel)) (by decide +kernel)
theorem kw713 {s0 : State} (Z : zt s0) : kw s0 (.code ⟨"PanelFormsModel", "radius", "(J)Z"⟩ prog_6_method_9_code 3 (some .boolean)) := kw_g Z (tb_in 713 (by decide +kernel)) (by decide +kernel)
theorem kw714 {s0 : State} (Z : zt s0) : kw s0 (.methodLink "PanelFormsLaw" 134 ⟨"PanelFormsModel", "rail", "(IJ)Z"⟩) := kw_g Z (tb_in 714 (by decide +kernel)) (by decide +kernel)
theorem kw715 {s0 : State} (Z : zt s0) : kw s0 (.instanceMethod ⟨"PanelFormsModel", "rail", "(IJ)Z"⟩) := kw_g Z (tb_in 715 (by decide +kernel)) (by decide +kernel)
theorem kw716 {s0 : State} (Z : zt s0) : kw s0 (.selects "PanelFormsModel" ⟨"PanelFormsModel", "rail", "(IJ)Z"⟩ ⟨"PanelFormsModel", "rail", "(IJ)Z"⟩) := kw_g Z (tb_in 716 (by decide +kernel)) (by decide +kernel)
theorem kw717 {s0 : State} (Z : zt s0) : kw s0 (.code ⟨"PanelFormsModel", "rail", "(IJ)Z"⟩ prog_6_method_10_code 4 (some .boolean)) := kw_g Z (tb_in 717 (by decide +kernel)) (by decide +kernel)
theorem kw718 {s0 : State} (Z : zt s0) : kw s0 (.methodLink "PanelFormsLaw" 146 ⟨"PanelFormsModel", "wants", "(II)Z"⟩) := kw_g Z (tb_in 718 (by decide +kernel)) (by decide +kernel)
theorem kw719 {s0 : State} (Z : zt s0) : kw s0 (.instanceMethod ⟨"PanelFormsModel", "wants", "(II)Z"⟩) := kw_g Z (tb_in 719 (by decide +kernel)) (by decide +kernel)
theorem kw720 {s0 : State} (Z : zt s0) : kw s0 (.selects "PanelFormsModel" ⟨"PanelFormsModel", "wants", "(II)Z"⟩ ⟨"PanelFormsModel", "wants", "(II)Z"⟩) := kw_g Z (tb_in 720 (by decide +kernel)) (by decide +kernel)
theorem kw721 {s0 : State} (Z : zt s0) : kw s0 (.code ⟨"PanelFormsModel", "wants", "(II)Z"⟩ prog_6_method_11_code 3 (some .boolean)) := kw_g Z (tb_in 721 (by decide +kernel)) (by decide +kernel)
theorem kw722 {s0 : State} (Z : zt s0) : kw s0 (.methodLink "PanelFormsLaw" 93 ⟨"PanelFormsModel", "run", "(IJ)I"⟩) := kw_g Z (tb_in 722 (by decide +kernel)) (by decide +kernel)
theorem kw723 {s0 : State} (Z : zt s0) : kw s0 (.instanceMethod ⟨"PanelFormsModel", "run", "(IJ)I"⟩) := kw_g Z (tb_in 723 (by decide +kernel)) (by decide +kernel)
theorem kw724 {s0 : State} (Z : zt s0) : kw s0 (.selects "PanelFormsModel" ⟨"PanelFormsModel", "run", "(IJ)I"⟩ ⟨"PanelFormsModel", "run", "(IJ)I"⟩) := kw_g Z (tb_in 724 (by decide +kernel)) (by decide +kernel)
theorem kw725 {s0 : State} (Z : zt s0) : kw s0 (.code ⟨"PanelFormsModel", "run", "(IJ)I"⟩ prog_6_method_25_code 5 (some .int)) := kw_g Z (tb_in 725 (by decide +kernel)) (by decide +kernel)
theorem kw726 {s0 : State} (Z : zt s0) : kw s0 (.constantLong "PanelFormsModel" 132 (8 : Int64)) := kw_g Z (tb_in 726 (by decide +kernel)) (by decide +kernel)
theorem kw727 {s0 : State} (Z : zt s0) : kw s0 (.methodLink "PanelFormsModel" 134 ⟨"PanelFormsModel", "findBox", "(I)V"⟩) := kw_g Z (tb_in 727 (by decide +kernel)) (by decide +kernel)
theorem kw729 {s0 : State} (Z : zt s0) : kw s0 (.instanceMethod ⟨"PanelFormsModel", "findBox", "(I)V"⟩) := kw_g Z (tb_in 729 (by decide +kernel)) (by decide +kernel)
theorem kw730 {s0 : State} (Z : zt s0) : kw s0 (.code ⟨"PanelFormsModel", "findBox", "(I)V"⟩ prog_6_method_12_code 8 none) := kw_g Z (tb_in 730 (by decide +kernel)) (by decide +kernel)
theorem kw731 {s0 : State} (Z : zt s0) : kw s0 (.methodLink "PanelFormsModel" 138 ⟨"PanelFormsModel", "fitsAlong", "(II)I"⟩) := kw_g Z (tb_in 731 (by decide +kernel)) (by decide +kernel)
theorem kw733 {s0 : State} (Z : zt s0) : kw s0 (.instanceMethod ⟨"PanelFormsModel", "fitsAlong", "(II)I"⟩) := kw_g Z (tb_in 733 (by decide +kernel)) (by decide +kernel)
theorem kw734 {s0 : State} (Z : zt s0) : kw s0 (.code ⟨"PanelFormsModel", "fitsAlong", "(II)I"⟩ prog_6_method_15_code 10 (some .int)) := kw_g Z (tb_in 734 (by decide +kernel)) (by decide +kernel)
theorem kw735 {s0 : State} (Z : zt s0) : kw s0 (.methodLink "PanelFormsModel" 90 ⟨"PanelFormsModel", "wideOf", "(I)J"⟩) := kw_g Z (tb_in 735 (by decide +kernel)) (by decide +kernel)
theorem kw737 {s0 : State} (Z : zt s0) : kw s0 (.instanceMethod ⟨"PanelFormsModel", "wideOf", "(I)J"⟩) := kw_g Z (tb_in 737 (by decide +kernel)) (by decide +kernel)
theorem kw738 {s0 : State} (Z : zt s0) : kw s0 (.code ⟨"PanelFormsModel", "wideOf", "(I)J"⟩ prog_6_method_13_code 2 (some .long)) := kw_g Z (tb_in 738 (by decide +kernel)) (by decide +kernel)
theorem kw739 {s0 : State} (Z : zt s0) : kw s0 (.constantLong "PanelFormsModel" 94 (20 : Int64)) := kw_g Z (tb_in 739 (by decide +kernel)) (by decide +kernel)
theorem kw740 {s0 : State} (Z : zt s0) : kw s0 (.methodLink "PanelFormsModel" 142 ⟨"PanelFormsModel", "search", "(I)V"⟩) := kw_g Z (tb_in 740 (by decide +kernel)) (by decide +kernel)
theorem kw742 {s0 : State} (Z : zt s0) : kw s0 (.instanceMethod ⟨"PanelFormsModel", "search", "(I)V"⟩) := kw_g Z (tb_in 742 (by decide +kernel)) (by decide +kernel)
theorem kw743 {s0 : State} (Z : zt s0) : kw s0 (.code ⟨"PanelFormsModel", "search", "(I)V"⟩ prog_6_method_21_code 3 none) := kw_g Z (tb_in 743 (by decide +kernel)) (by decide +kernel)
theorem kw744 {s0 : State} (Z : zt s0) : kw s0 (.methodLink "PanelFormsModel" 119 ⟨"PanelFormsModel", "goOn", "(I)Z"⟩) := kw_g Z (tb_in 744 (by decide +kernel)) (by decide +kernel)
theorem kw746 {s0 : State} (Z : zt s0) : kw s0 (.instanceMethod ⟨"PanelFormsModel", "goOn", "(I)Z"⟩) := kw_g Z (tb_in 746 (by decide +kernel)) (by decide +kernel)
theorem kw747 {s0 : State} (Z : zt s0) : kw s0 (.code ⟨"PanelFormsModel", "goOn", "(I)Z"⟩ prog_6_method_22_code 3 (some .boolean)) := kw_g Z (tb_in 747 (by decide +kernel)) (by decide +kernel)
theorem kw748 {s0 : State} (Z : zt s0) : kw s0 (.methodLink "PanelFormsModel" 110 ⟨"PanelFormsModel", "rowsOf", "()I"⟩) := kw_g Z (tb_in 748 (by decide +kernel)) (by decide +kernel)
theorem kw750 {s0 : State} (Z : zt s0) : kw s0 (.instanceMethod ⟨"PanelFormsModel", "rowsOf", "()I"⟩) := kw_g Z (tb_in 750 (by decide +kernel)) (by decide +kernel)
theorem kw751 {s0 : State} (Z : zt s0) : kw s0 (.code ⟨"PanelFormsModel", "rowsOf", "()I"⟩ prog_6_method_16_code 3 (some .int)) := kw_g Z (tb_in 751 (by decide +kernel)) (by decide +kernel)
theorem kw752 {s0 : State} (Z : zt s0) : kw s0 (.methodLink "PanelFormsModel" 122 ⟨"PanelFormsModel", "weigh", "()V"⟩) := kw_g Z (tb_in 752 (by decide +kernel)) (by decide +kernel)
theorem kw754 {s0 : State} (Z : zt s0) : kw s0 (.instanceMethod ⟨"PanelFormsModel", "weigh", "()V"⟩) := kw_g Z (tb_in 754 (by decide +kernel)) (by decide +kernel)
theorem kw755 {s0 : State} (Z : zt s0) : kw s0 (.code ⟨"PanelFormsModel", "weigh", "()V"⟩ prog_6_method_20_code 4 none) := kw_g Z (tb_in 755 (by decide +kernel)) (by decide +kernel)
theorem kw756 {s0 : State} (Z : zt s0) : kw s0 (.methodLink "PanelFormsModel" 99 ⟨"PanelFormsModel", "copiesOf", "()I"⟩) := kw_g Z (tb_in 756 (by decide +kernel)) (by decide +kernel)
theorem kw758 {s0 : State} (Z : zt s0) : kw s0 (.instanceMethod ⟨"PanelFormsModel", "copiesOf", "()I"⟩) := kw_g Z (tb_in 758 (by decide +kernel)) (by decide +kernel)
theorem kw759 {s0 : State} (Z : zt s0) : kw s0 (.code ⟨"PanelFormsModel", "copiesOf", "()I"⟩ prog_6_method_18_code 8 (some .int)) := kw_g Z (tb_in 759 (by decide +kernel)) (by decide +kernel)
theorem kw760 {s0 : State} (Z : zt s0) : kw s0 (.methodLink "PanelFormsModel" 106 ⟨"PanelFormsModel", "isLow", "()Z"⟩) := kw_g Z (tb_in 760 (by decide +kernel)) (by decide +kernel)
theorem kw762 {s0 : State} (Z : zt s0) : kw s0 (.instanceMethod ⟨"PanelFormsModel", "isLow", "()Z"⟩) := kw_g Z (tb_in 762 (by decide +kernel)) (by decide +kernel)
theorem kw763 {s0 : State} (Z : zt s0) : kw s0 (.code ⟨"PanelFormsModel", "isLow", "()Z"⟩ prog_6_method_17_code 4 (some .boolean)) := kw_g Z (tb_in 763 (by decide +kernel)) (by decide +kernel)
theorem kw764 {s0 : State} (Z : zt s0) : kw s0 (.methodLink "PanelFormsModel" 96 ⟨"PanelFormsModel", "highOf", "(I)J"⟩) := kw_g Z (tb_in 764 (by decide +kernel)) (by decide +kernel)
theorem kw766 {s0 : State} (Z : zt s0) : kw s0 (.instanceMethod ⟨"PanelFormsModel", "highOf", "(I)J"⟩) := kw_g Z (tb_in 766 (by decide +kernel)) (by decide +kernel)
theorem kw767 {s0 : State} (Z : zt s0) : kw s0 (.code ⟨"PanelFormsModel", "highOf", "(I)J"⟩ prog_6_method_14_code 2 (some .long)) := kw_g Z (tb_in 767 (by decide +kernel)) (by decide +kernel)
theorem kw768 {s0 : State} (Z : zt s0) : kw s0 (.methodLink "PanelFormsModel" 116 ⟨"PanelFormsModel", "isAhead", "()Z"⟩) := kw_g Z (tb_in 768 (by decide +kernel)) (by decide +kernel)
theorem kw770 {s0 : State} (Z : zt s0) : kw s0 (.instanceMethod ⟨"PanelFormsModel", "isAhead", "()Z"⟩) := kw_g Z (tb_in 770 (by decide +kernel)) (by decide +kernel)
theorem kw771 {s0 : State} (Z : zt s0) : kw s0 (.code ⟨"PanelFormsModel", "isAhead", "()Z"⟩ prog_6_method_19_code 2 (some .boolean)) := kw_g Z (tb_in 771 (by decide +kernel)) (by decide +kernel)
theorem kw772 {s0 : State} (Z : zt s0) : kw s0 (.methodLink "PanelFormsModel" 145 ⟨"PanelFormsModel", "layOut", "()V"⟩) := kw_g Z (tb_in 772 (by decide +kernel)) (by decide +kernel)
theorem kw774 {s0 : State} (Z : zt s0) : kw s0 (.instanceMethod ⟨"PanelFormsModel", "layOut", "()V"⟩) := kw_g Z (tb_in 774 (by decide +kernel)) (by decide +kernel)
theorem kw775 {s0 : State} (Z : zt s0) : kw s0 (.code ⟨"PanelFormsModel", "layOut", "()V"⟩ prog_6_method_23_code 10 none) := kw_g Z (tb_in 775 (by decide +kernel)) (by decide +kernel)
theorem kw776 {s0 : State} (Z : zt s0) : kw s0 (.methodLink "PanelFormsModel" 128 ⟨"PanelFormsModel", "put", "(IJJIJJ)V"⟩) := kw_g Z (tb_in 776 (by decide +kernel)) (by decide +kernel)
theorem kw778 {s0 : State} (Z : zt s0) : kw s0 (.instanceMethod ⟨"PanelFormsModel", "put", "(IJJIJJ)V"⟩) := kw_g Z (tb_in 778 (by decide +kernel)) (by decide +kernel)
theorem kw779 {s0 : State} (Z : zt s0) : kw s0 (.code ⟨"PanelFormsModel", "put", "(IJJIJJ)V"⟩ prog_6_method_24_code 12 none) := kw_g Z (tb_in 779 (by decide +kernel)) (by decide +kernel)
theorem kw780 {s0 : State} (Z : zt s0) : kw s0 (.methodLink "PanelFormsLaw" 102 ⟨"PanelFormsModel", "proved", "()Z"⟩) := kw_g Z (tb_in 780 (by decide +kernel)) (by decide +kernel)
theorem kw781 {s0 : State} (Z : zt s0) : kw s0 (.instanceMethod ⟨"PanelFormsModel", "proved", "()Z"⟩) := kw_g Z (tb_in 781 (by decide +kernel)) (by decide +kernel)
theorem kw782 {s0 : State} (Z : zt s0) : kw s0 (.selects "PanelFormsModel" ⟨"PanelFormsModel", "proved", "()Z"⟩ ⟨"PanelFormsModel", "proved", "()Z"⟩) := kw_g Z (tb_in 782 (by decide +kernel)) (by decide +kernel)
theorem kw783 {s0 : State} (Z : zt s0) : kw s0 (.code ⟨"PanelFormsModel", "proved", "()Z"⟩ prog_6_method_26_code 1 (some .boolean)) := kw_g Z (tb_in 783 (by decide +kernel)) (by decide +kernel)
theorem kw784 {s0 : State} (Z : zt s0) : kw s0 (.methodLink "PanelFormsLaw" 97 ⟨"PanelFormsModel", "at", "(II)J"⟩) := kw_g Z (tb_in 784 (by decide +kernel)) (by decide +kernel)
theorem kw785 {s0 : State} (Z : zt s0) : kw s0 (.instanceMethod ⟨"PanelFormsModel", "at", "(II)J"⟩) := kw_g Z (tb_in 785 (by decide +kernel)) (by decide +kernel)
theorem kw786 {s0 : State} (Z : zt s0) : kw s0 (.selects "PanelFormsModel" ⟨"PanelFormsModel", "at", "(II)J"⟩ ⟨"PanelFormsModel", "at", "(II)J"⟩) := kw_g Z (tb_in 786 (by decide +kernel)) (by decide +kernel)
theorem kw787 {s0 : State} (Z : zt s0) : kw s0 (.code ⟨"PanelFormsModel", "at", "(II)J"⟩ prog_6_method_28_code 3 (some .long)) := kw_g Z (tb_in 787 (by decide +kernel)) (by decide +kernel)
theorem kw788 {s0 : State} (Z : zt s0) : kw s0 (.methodLink "PanelFormsModel" 152 ⟨"PanelFormsModel", "isCopy", "(I)Z"⟩) := kw_g Z (tb_in 788 (by decide +kernel)) (by decide +kernel)
theorem kw790 {s0 : State} (Z : zt s0) : kw s0 (.instanceMethod ⟨"PanelFormsModel", "isCopy", "(I)Z"⟩) := kw_g Z (tb_in 790 (by decide +kernel)) (by decide +kernel)
theorem kw791 {s0 : State} (Z : zt s0) : kw s0 (.code ⟨"PanelFormsModel", "isCopy", "(I)Z"⟩ prog_6_method_27_code 2 (some .boolean)) := kw_g Z (tb_in 791 (by decide +kernel)) (by decide +kernel)
theorem kw792 {s0 : State} (Z : zt s0) : kw s0 (.methodLink "PanelFormsLaw" 110 ⟨"PanelFormsModel", "tab", "(III)J"⟩) := kw_g Z (tb_in 792 (by decide +kernel)) (by decide +kernel)
theorem kw793 {s0 : State} (Z : zt s0) : kw s0 (.instanceMethod ⟨"PanelFormsModel", "tab", "(III)J"⟩) := kw_g Z (tb_in 793 (by decide +kernel)) (by decide +kernel)
theorem kw794 {s0 : State} (Z : zt s0) : kw s0 (.selects "PanelFormsModel" ⟨"PanelFormsModel", "tab", "(III)J"⟩ ⟨"PanelFormsModel", "tab", "(III)J"⟩) := kw_g Z (tb_in 794 (by decide +kernel)) (by decide +kernel)
theorem kw795 {s0 : State} (Z : zt s0) : kw s0 (.code ⟨"PanelFormsModel", "tab", "(III)J"⟩ prog_6_method_29_code 20 (some .long)) := kw_g Z (tb_in 795 (by decide +kernel)) (by decide +kernel)
theorem kw796 {s0 : State} (Z : zt s0) : kw s0 (.constantLong "PanelFormsModel" 155 (2 : Int64)) := kw_g Z (tb_in 796 (by decide +kernel)) (by decide +kernel)
theorem kw797 {s0 : State} (Z : zt s0) : kw s0 (.methodLink "PanelFormsLaw" 113 ⟨"PanelFormsModel", "score", "(II)J"⟩) := kw_g Z (tb_in 797 (by decide +kernel)) (by decide +kernel)
theorem kw798 {s0 : State} (Z : zt s0) : kw s0 (.instanceMethod ⟨"PanelFormsModel", "score", "(II)J"⟩) := kw_g Z (tb_in 798 (by decide +kernel)) (by decide +kernel)
theorem kw799 {s0 : State} (Z : zt s0) : kw s0 (.selects "PanelFormsModel" ⟨"PanelFormsModel", "score", "(II)J"⟩ ⟨"PanelFormsModel", "score", "(II)J"⟩) := kw_g Z (tb_in 799 (by decide +kernel)) (by decide +kernel)
theorem kw800 {s0 : State} (Z : zt s0) : kw s0 (.code ⟨"PanelFormsModel", "score", "(II)J"⟩ prog_6_method_31_code 9 (some .long)) := kw_g Z (tb_in 800 (by decide +kernel)) (by decide +kernel)
theorem kw801 {s0 : State} (Z : zt s0) : kw s0 (.constantLong "PanelFormsModel" 157 (-1 : Int64)) := kw_g Z (tb_in 801 (by decide +kernel)) (by decide +kernel)
theorem kw802 {s0 : State} (Z : zt s0) : kw s0 (.methodLink "PanelFormsModel" 159 ⟨"PanelFormsModel", "nextScore", "(J)J"⟩) := kw_g Z (tb_in 802 (by decide +kernel)) (by decide +kernel)
theorem kw804 {s0 : State} (Z : zt s0) : kw s0 (.instanceMethod ⟨"PanelFormsModel", "nextScore", "(J)J"⟩) := kw_g Z (tb_in 804 (by decide +kernel)) (by decide +kernel)
theorem kw805 {s0 : State} (Z : zt s0) : kw s0 (.code ⟨"PanelFormsModel", "nextScore", "(J)J"⟩ prog_6_method_30_code 8 (some .long)) := kw_g Z (tb_in 805 (by decide +kernel)) (by decide +kernel)
theorem kw806 {s0 : State} (Z : zt s0) : kw s0 (.methodLink "PanelFormsLaw" 121 ⟨"PanelFormsModel", "waste", "(I)J"⟩) := kw_g Z (tb_in 806 (by decide +kernel)) (by decide +kernel)
theorem kw807 {s0 : State} (Z : zt s0) : kw s0 (.instanceMethod ⟨"PanelFormsModel", "waste", "(I)J"⟩) := kw_g Z (tb_in 807 (by decide +kernel)) (by decide +kernel)
theorem kw808 {s0 : State} (Z : zt s0) : kw s0 (.selects "PanelFormsModel" ⟨"PanelFormsModel", "waste", "(I)J"⟩ ⟨"PanelFormsModel", "waste", "(I)J"⟩) := kw_g Z (tb_in 808 (by decide +kernel)) (by decide +kernel)
theorem kw809 {s0 : State} (Z : zt s0) : kw s0 (.code ⟨"PanelFormsModel", "waste", "(I)J"⟩ prog_6_method_33_code 12 (some .long)) := kw_g Z (tb_in 809 (by decide +kernel)) (by decide +kernel)
theorem kw810 {s0 : State} (Z : zt s0) : kw s0 (.methodLink "PanelFormsModel" 163 ⟨"PanelFormsModel", "areaOf", "(I)J"⟩) := kw_g Z (tb_in 810 (by decide +kernel)) (by decide +kernel)
theorem kw812 {s0 : State} (Z : zt s0) : kw s0 (.instanceMethod ⟨"PanelFormsModel", "areaOf", "(I)J"⟩) := kw_g Z (tb_in 812 (by decide +kernel)) (by decide +kernel)
theorem kw813 {s0 : State} (Z : zt s0) : kw s0 (.code ⟨"PanelFormsModel", "areaOf", "(I)J"⟩ prog_6_method_32_code 8 (some .long)) := kw_g Z (tb_in 813 (by decide +kernel)) (by decide +kernel)
theorem kw814 {s0 : State} (Z : zt s0) : kw s0 (.methodLink "PanelFormsLaw" 143 ⟨"PanelFormsModel", "order", "(I)I"⟩) := kw_g Z (tb_in 814 (by decide +kernel)) (by decide +kernel)
theorem kw815 {s0 : State} (Z : zt s0) : kw s0 (.instanceMethod ⟨"PanelFormsModel", "order", "(I)I"⟩) := kw_g Z (tb_in 815 (by decide +kernel)) (by decide +kernel)
theorem kw816 {s0 : State} (Z : zt s0) : kw s0 (.selects "PanelFormsModel" ⟨"PanelFormsModel", "order", "(I)I"⟩ ⟨"PanelFormsModel", "order", "(I)I"⟩) := kw_g Z (tb_in 816 (by decide +kernel)) (by decide +kernel)
theorem kw817 {s0 : State} (Z : zt s0) : kw s0 (.code ⟨"PanelFormsModel", "order", "(I)I"⟩ prog_6_method_35_code 2 (some .int)) := kw_g Z (tb_in 817 (by decide +kernel)) (by decide +kernel)
theorem kw818 {s0 : State} (Z : zt s0) : kw s0 (.methodLink "PanelFormsModel" 166 ⟨"PanelFormsModel", "orderOf", "(I)I"⟩) := kw_g Z (tb_in 818 (by decide +kernel)) (by decide +kernel)
theorem kw820 {s0 : State} (Z : zt s0) : kw s0 (.instanceMethod ⟨"PanelFormsModel", "orderOf", "(I)I"⟩) := kw_g Z (tb_in 820 (by decide +kernel)) (by decide +kernel)
theorem kw821 {s0 : State} (Z : zt s0) : kw s0 (.code ⟨"PanelFormsModel", "orderOf", "(I)I"⟩ prog_6_method_34_code 5 (some .int)) := kw_g Z (tb_in 821 (by decide +kernel)) (by decide +kernel)
theorem kw822 {s0 : State} (Z : zt s0) : kw s0 (.methodLink "PanelFormsLaw" 124 ⟨"PanelFormsModel", "mill", "(II)J"⟩) := kw_g Z (tb_in 822 (by decide +kernel)) (by decide +kernel)
theorem kw823 {s0 : State} (Z : zt s0) : kw s0 (.instanceMethod ⟨"PanelFormsModel", "mill", "(II)J"⟩) := kw_g Z (tb_in 823 (by decide +kernel)) (by decide +kernel)
theorem kw824 {s0 : State} (Z : zt s0) : kw s0 (.selects "PanelFormsModel" ⟨"PanelFormsModel", "mill", "(II)J"⟩ ⟨"PanelFormsModel", "mill", "(II)J"⟩) := kw_g Z (tb_in 824 (by decide +kernel)) (by decide +kernel)
theorem kw825 {s0 : State} (Z : zt s0) : kw s0 (.code ⟨"PanelFormsModel", "mill", "(II)J"⟩ prog_6_method_36_code 6 (some .long)) := kw_g Z (tb_in 825 (by decide +kernel)) (by decide +kernel)
theorem kw826 {s0 : State} (Z : zt s0) : kw s0 (.methodLink "PanelFormsLaw" 131 ⟨"PanelFormsModel", "bad", "(IZ)Z"⟩) := kw_g Z (tb_in 826 (by decide +kernel)) (by decide +kernel)
theorem kw827 {s0 : State} (Z : zt s0) : kw s0 (.instanceMethod ⟨"PanelFormsModel", "bad", "(IZ)Z"⟩) := kw_g Z (tb_in 827 (by decide +kernel)) (by decide +kernel)
theorem kw828 {s0 : State} (Z : zt s0) : kw s0 (.selects "PanelFormsModel" ⟨"PanelFormsModel", "bad", "(IZ)Z"⟩ ⟨"PanelFormsModel", "bad", "(IZ)Z"⟩) := kw_g Z (tb_in 828 (by decide +kernel)) (by decide +kernel)
theorem kw829 {s0 : State} (Z : zt s0) : kw s0 (.code ⟨"PanelFormsModel", "bad", "(IZ)Z"⟩ prog_6_method_37_code 3 (some .boolean)) := kw_g Z (tb_in 829 (by decide +kernel)) (by decide +kernel)
theorem kw830 {s0 : State} (Z : zt s0) : kw s0 (.methodLink "PanelFormsLaw" 138 ⟨"PanelFormsModel", "overlaps", "()Z"⟩) := kw_g Z (tb_in 830 (by decide +kernel)) (by decide +kernel)
theorem kw831 {s0 : State} (Z : zt s0) : kw s0 (.instanceMethod ⟨"PanelFormsModel", "overlaps", "()Z"⟩) := kw_g Z (tb_in 831 (by decide +kernel)) (by decide +kernel)
theorem kw832 {s0 : State} (Z : zt s0) : kw s0 (.selects "PanelFormsModel" ⟨"PanelFormsModel", "overlaps", "()Z"⟩ ⟨"PanelFormsModel", "overlaps", "()Z"⟩) := kw_g Z (tb_in 832 (by decide +kernel)) (by decide +kernel)
theorem kw833 {s0 : State} (Z : zt s0) : kw s0 (.code ⟨"PanelFormsModel", "overlaps", "()Z"⟩ prog_6_method_38_code 1 (some .boolean)) := kw_g Z (tb_in 833 (by decide +kernel)) (by decide +kernel)
theorem kw834 {s0 : State} (Z : zt s0) : kw s0 (.constantLong "PanelFormsLaw" 81 (4294967295 : Int64)) := kw_g Z (tb_in 834 (by decide +kernel)) (by decide +kernel)
theorem kp_Y_copyInOrder {s0 : State} (Z : zt s0) : kw s0 (.selects "PanelForms$Layout" ⟨"PanelForms$Layout", "copyInOrder", "(I)I"⟩ ⟨"PanelForms$Layout", "copyInOrder", "(I)I"⟩) := kw_g Z (pv_in (q := (⟨"PanelForms$Layout", "copyInOrder", "(I)I"⟩, 17)) 0 (by decide +kernel)) (by decide +kernel)
theorem kp_Y_countOf {s0 : State} (Z : zt s0) : kw s0 (.selects "PanelForms$Layout" ⟨"PanelForms$Layout", "countOf", "(Z)I"⟩ ⟨"PanelForms$Layout", "countOf", "(Z)I"⟩) := kw_g Z (pv_in (q := (⟨"PanelForms$Layout", "countOf", "(Z)I"⟩, 17)) 1 (by decide +kernel)) (by decide +kernel)
theorem kp_Y_nthOf {s0 : State} (Z : zt s0) : kw s0 (.selects "PanelForms$Layout" ⟨"PanelForms$Layout", "nthOf", "(ZI)I"⟩ ⟨"PanelForms$Layout", "nthOf", "(ZI)I"⟩) := kw_g Z (pv_in (q := (⟨"PanelForms$Layout", "nthOf", "(ZI)I"⟩, 17)) 2 (by decide +kernel)) (by decide +kernel)
theorem kp_P_checkBoard {s0 : State} (Z : zt s0) : kw s0 (.selects "PanelForms" ⟨"PanelForms", "checkBoard", "(I)V"⟩ ⟨"PanelForms", "checkBoard", "(I)V"⟩) := kw_g Z (pv_in (q := (⟨"PanelForms", "checkBoard", "(I)V"⟩, 10)) 3 (by decide +kernel)) (by decide +kernel)
theorem kp_B_addCorner {s0 : State} (Z : zt s0) : kw s0 (.selects "PanelForms$Board" ⟨"PanelForms$Board", "addCorner", "(JJ)Z"⟩ ⟨"PanelForms$Board", "addCorner", "(JJ)Z"⟩) := kw_g Z (pv_in (q := (⟨"PanelForms$Board", "addCorner", "(JJ)Z"⟩, 12)) 5 (by decide +kernel)) (by decide +kernel)
theorem kp_P_prepareSearch {s0 : State} (Z : zt s0) : kw s0 (.selects "PanelForms" ⟨"PanelForms", "prepareSearch", "(I)V"⟩ ⟨"PanelForms", "prepareSearch", "(I)V"⟩) := kw_g Z (pv_in (q := (⟨"PanelForms", "prepareSearch", "(I)V"⟩, 10)) 6 (by decide +kernel)) (by decide +kernel)
theorem kp_S_begin {s0 : State} (Z : zt s0) : kw s0 (.selects "PanelForms$Search" ⟨"PanelForms$Search", "begin", "(J)V"⟩ ⟨"PanelForms$Search", "begin", "(J)V"⟩) := kw_g Z (pv_in (q := (⟨"PanelForms$Search", "begin", "(J)V"⟩, 12)) 7 (by decide +kernel)) (by decide +kernel)
theorem kp_B_hasArea {s0 : State} (Z : zt s0) : kw s0 (.selects "PanelForms$Board" ⟨"PanelForms$Board", "hasArea", "()Z"⟩ ⟨"PanelForms$Board", "hasArea", "()Z"⟩) := kw_g Z (pv_in (q := (⟨"PanelForms$Board", "hasArea", "()Z"⟩, 12)) 8 (by decide +kernel)) (by decide +kernel)
theorem kp_B_wide {s0 : State} (Z : zt s0) : kw s0 (.selects "PanelForms$Board" ⟨"PanelForms$Board", "wide", "(I)J"⟩ ⟨"PanelForms$Board", "wide", "(I)J"⟩) := kw_g Z (pv_in (q := (⟨"PanelForms$Board", "wide", "(I)J"⟩, 12)) 9 (by decide +kernel)) (by decide +kernel)
theorem kp_B_high {s0 : State} (Z : zt s0) : kw s0 (.selects "PanelForms$Board" ⟨"PanelForms$Board", "high", "(I)J"⟩ ⟨"PanelForms$Board", "high", "(I)J"⟩) := kw_g Z (pv_in (q := (⟨"PanelForms$Board", "high", "(I)J"⟩, 12)) 10 (by decide +kernel)) (by decide +kernel)
theorem kp_S_allowKind {s0 : State} (Z : zt s0) : kw s0 (.selects "PanelForms$Search" ⟨"PanelForms$Search", "allowKind", "(IIJ)V"⟩ ⟨"PanelForms$Search", "allowKind", "(IIJ)V"⟩) := kw_g Z (pv_in (q := (⟨"PanelForms$Search", "allowKind", "(IIJ)V"⟩, 12)) 11 (by decide +kernel)) (by decide +kernel)
theorem kp_S_look {s0 : State} (Z : zt s0) : kw s0 (.selects "PanelForms$Search" ⟨"PanelForms$Search", "look", "(IJ)V"⟩ ⟨"PanelForms$Search", "look", "(IJ)V"⟩) := kw_g Z (pv_in (q := (⟨"PanelForms$Search", "look", "(IJ)V"⟩, 12)) 12 (by decide +kernel)) (by decide +kernel)
theorem kp_S_tryRow {s0 : State} (Z : zt s0) : kw s0 (.selects "PanelForms$Search" ⟨"PanelForms$Search", "tryRow", "(IIIJ)V"⟩ ⟨"PanelForms$Search", "tryRow", "(IIIJ)V"⟩) := kw_g Z (pv_in (q := (⟨"PanelForms$Search", "tryRow", "(IIIJ)V"⟩, 12)) 13 (by decide +kernel)) (by decide +kernel)
theorem kp_S_keepIfBetter {s0 : State} (Z : zt s0) : kw s0 (.selects "PanelForms$Search" ⟨"PanelForms$Search", "keepIfBetter", "(II)V"⟩ ⟨"PanelForms$Search", "keepIfBetter", "(II)V"⟩) := kw_g Z (pv_in (q := (⟨"PanelForms$Search", "keepIfBetter", "(II)V"⟩, 12)) 14 (by decide +kernel)) (by decide +kernel)
theorem kp_P_layOutBest {s0 : State} (Z : zt s0) : kw s0 (.selects "PanelForms" ⟨"PanelForms", "layOutBest", "()V"⟩ ⟨"PanelForms", "layOutBest", "()V"⟩) := kw_g Z (pv_in (q := (⟨"PanelForms", "layOutBest", "()V"⟩, 10)) 15 (by decide +kernel)) (by decide +kernel)
theorem kp_Y_begin {s0 : State} (Z : zt s0) : kw s0 (.selects "PanelForms$Layout" ⟨"PanelForms$Layout", "begin", "(JJJ)V"⟩ ⟨"PanelForms$Layout", "begin", "(JJJ)V"⟩) := kw_g Z (pv_in (q := (⟨"PanelForms$Layout", "begin", "(JJJ)V"⟩, 17)) 16 (by decide +kernel)) (by decide +kernel)
theorem kp_Y_addRow {s0 : State} (Z : zt s0) : kw s0 (.selects "PanelForms$Layout" ⟨"PanelForms$Layout", "addRow", "(IIJJI)V"⟩ ⟨"PanelForms$Layout", "addRow", "(IIJJI)V"⟩) := kw_g Z (pv_in (q := (⟨"PanelForms$Layout", "addRow", "(IIJJI)V"⟩, 17)) 17 (by decide +kernel)) (by decide +kernel)
theorem kp_Y_addCopies {s0 : State} (Z : zt s0) : kw s0 (.selects "PanelForms$Layout" ⟨"PanelForms$Layout", "addCopies", "(IJ)V"⟩ ⟨"PanelForms$Layout", "addCopies", "(IJ)V"⟩) := kw_g Z (pv_in (q := (⟨"PanelForms$Layout", "addCopies", "(IJ)V"⟩, 17)) 18 (by decide +kernel)) (by decide +kernel)
theorem kp_Y_addScore {s0 : State} (Z : zt s0) : kw s0 (.selects "PanelForms$Layout" ⟨"PanelForms$Layout", "addScore", "(JI)V"⟩ ⟨"PanelForms$Layout", "addScore", "(JI)V"⟩) := kw_g Z (pv_in (q := (⟨"PanelForms$Layout", "addScore", "(JI)V"⟩, 17)) 19 (by decide +kernel)) (by decide +kernel)
theorem kp_S_findsMore {s0 : State} (Z : zt s0) : kw s0 (.selects "PanelForms$Search" ⟨"PanelForms$Search", "findsMore", "(IJ)Z"⟩ ⟨"PanelForms$Search", "findsMore", "(IJ)Z"⟩) := kw_g Z (pv_in (q := (⟨"PanelForms$Search", "findsMore", "(IJ)Z"⟩, 12)) 20 (by decide +kernel)) (by decide +kernel)
theorem kp_P_checkCopy {s0 : State} (Z : zt s0) : kw s0 (.selects "PanelForms" ⟨"PanelForms", "checkCopy", "(I)V"⟩ ⟨"PanelForms", "checkCopy", "(I)V"⟩) := kw_g Z (pv_in (q := (⟨"PanelForms", "checkCopy", "(I)V"⟩, 10)) 21 (by decide +kernel)) (by decide +kernel)
theorem kp_B_hasPartNear {s0 : State} (Z : zt s0) : kw s0 (.selects "PanelForms$Board" ⟨"PanelForms$Board", "hasPartNear", "(JJI)Z"⟩ ⟨"PanelForms$Board", "hasPartNear", "(JJI)Z"⟩) := kw_g Z (pv_in (q := (⟨"PanelForms$Board", "hasPartNear", "(JJI)Z"⟩, 12)) 22 (by decide +kernel)) (by decide +kernel)
theorem kp_B_addPart {s0 : State} (Z : zt s0) : kw s0 (.selects "PanelForms$Board" ⟨"PanelForms$Board", "addPart", "(JJJ)Z"⟩ ⟨"PanelForms$Board", "addPart", "(JJJ)Z"⟩) := kw_g Z (pv_in (q := (⟨"PanelForms$Board", "addPart", "(JJJ)Z"⟩, 12)) 23 (by decide +kernel)) (by decide +kernel)
theorem kp_P_twiceAreaOfCopies {s0 : State} (Z : zt s0) : kw s0 (.selects "PanelForms" ⟨"PanelForms", "twiceAreaOfCopies", "()J"⟩ ⟨"PanelForms", "twiceAreaOfCopies", "()J"⟩) := kw_g Z (pv_in (q := (⟨"PanelForms", "twiceAreaOfCopies", "()J"⟩, 10)) 24 (by decide +kernel)) (by decide +kernel)
theorem kp_B_twiceArea {s0 : State} (Z : zt s0) : kw s0 (.selects "PanelForms$Board" ⟨"PanelForms$Board", "twiceArea", "()J"⟩ ⟨"PanelForms$Board", "twiceArea", "()J"⟩) := kw_g Z (pv_in (q := (⟨"PanelForms$Board", "twiceArea", "()J"⟩, 12)) 25 (by decide +kernel)) (by decide +kernel)
theorem kp_P_grownEnd {s0 : State} (Z : zt s0) : kw s0 (.selects "PanelForms" ⟨"PanelForms", "grownEnd", "(JJZ)J"⟩ ⟨"PanelForms", "grownEnd", "(JJZ)J"⟩) := kw_g Z (pv_in (q := (⟨"PanelForms", "grownEnd", "(JJZ)J"⟩, 10)) 26 (by decide +kernel)) (by decide +kernel)
theorem kp_M_isBoard {s0 : State} (Z : zt s0) : kw s0 (.selects "PanelFormsModel" ⟨"PanelFormsModel", "isBoard", "(I)Z"⟩ ⟨"PanelFormsModel", "isBoard", "(I)Z"⟩) := kw_g Z (pv_in (q := (⟨"PanelFormsModel", "isBoard", "(I)Z"⟩, 26)) 27 (by decide +kernel)) (by decide +kernel)
theorem kp_M_findBox {s0 : State} (Z : zt s0) : kw s0 (.selects "PanelFormsModel" ⟨"PanelFormsModel", "findBox", "(I)V"⟩ ⟨"PanelFormsModel", "findBox", "(I)V"⟩) := kw_g Z (pv_in (q := (⟨"PanelFormsModel", "findBox", "(I)V"⟩, 26)) 28 (by decide +kernel)) (by decide +kernel)
theorem kp_M_fitsAlong {s0 : State} (Z : zt s0) : kw s0 (.selects "PanelFormsModel" ⟨"PanelFormsModel", "fitsAlong", "(II)I"⟩ ⟨"PanelFormsModel", "fitsAlong", "(II)I"⟩) := kw_g Z (pv_in (q := (⟨"PanelFormsModel", "fitsAlong", "(II)I"⟩, 26)) 29 (by decide +kernel)) (by decide +kernel)
theorem kp_M_wideOf {s0 : State} (Z : zt s0) : kw s0 (.selects "PanelFormsModel" ⟨"PanelFormsModel", "wideOf", "(I)J"⟩ ⟨"PanelFormsModel", "wideOf", "(I)J"⟩) := kw_g Z (pv_in (q := (⟨"PanelFormsModel", "wideOf", "(I)J"⟩, 26)) 30 (by decide +kernel)) (by decide +kernel)
theorem kp_M_search {s0 : State} (Z : zt s0) : kw s0 (.selects "PanelFormsModel" ⟨"PanelFormsModel", "search", "(I)V"⟩ ⟨"PanelFormsModel", "search", "(I)V"⟩) := kw_g Z (pv_in (q := (⟨"PanelFormsModel", "search", "(I)V"⟩, 26)) 31 (by decide +kernel)) (by decide +kernel)
theorem kp_M_goOn {s0 : State} (Z : zt s0) : kw s0 (.selects "PanelFormsModel" ⟨"PanelFormsModel", "goOn", "(I)Z"⟩ ⟨"PanelFormsModel", "goOn", "(I)Z"⟩) := kw_g Z (pv_in (q := (⟨"PanelFormsModel", "goOn", "(I)Z"⟩, 26)) 32 (by decide +kernel)) (by decide +kernel)
theorem kp_M_rowsOf {s0 : State} (Z : zt s0) : kw s0 (.selects "PanelFormsModel" ⟨"PanelFormsModel", "rowsOf", "()I"⟩ ⟨"PanelFormsModel", "rowsOf", "()I"⟩) := kw_g Z (pv_in (q := (⟨"PanelFormsModel", "rowsOf", "()I"⟩, 26)) 33 (by decide +kernel)) (by decide +kernel)
theorem kp_M_weigh {s0 : State} (Z : zt s0) : kw s0 (.selects "PanelFormsModel" ⟨"PanelFormsModel", "weigh", "()V"⟩ ⟨"PanelFormsModel", "weigh", "()V"⟩) := kw_g Z (pv_in (q := (⟨"PanelFormsModel", "weigh", "()V"⟩, 26)) 34 (by decide +kernel)) (by decide +kernel)
theorem kp_M_copiesOf {s0 : State} (Z : zt s0) : kw s0 (.selects "PanelFormsModel" ⟨"PanelFormsModel", "copiesOf", "()I"⟩ ⟨"PanelFormsModel", "copiesOf", "()I"⟩) := kw_g Z (pv_in (q := (⟨"PanelFormsModel", "copiesOf", "()I"⟩, 26)) 35 (by decide +kernel)) (by decide +kernel)
theorem kp_M_isLow {s0 : State} (Z : zt s0) : kw s0 (.selects "PanelFormsModel" ⟨"PanelFormsModel", "isLow", "()Z"⟩ ⟨"PanelFormsModel", "isLow", "()Z"⟩) := kw_g Z (pv_in (q := (⟨"PanelFormsModel", "isLow", "()Z"⟩, 26)) 36 (by decide +kernel)) (by decide +kernel)
theorem kp_M_highOf {s0 : State} (Z : zt s0) : kw s0 (.selects "PanelFormsModel" ⟨"PanelFormsModel", "highOf", "(I)J"⟩ ⟨"PanelFormsModel", "highOf", "(I)J"⟩) := kw_g Z (pv_in (q := (⟨"PanelFormsModel", "highOf", "(I)J"⟩, 26)) 37 (by decide +kernel)) (by decide +kernel)
theorem kp_M_isAhead {s0 : State} (Z : zt s0) : kw s0 (.selects "PanelFormsModel" ⟨"PanelFormsModel", "isAhead", "()Z"⟩ ⟨"PanelFormsModel", "isAhead", "()Z"⟩) := kw_g Z (pv_in (q := (⟨"PanelFormsModel", "isAhead", "()Z"⟩, 26)) 38 (by decide +kernel)) (by decide +kernel)
theorem kp_M_layOut {s0 : State} (Z : zt s0) : kw s0 (.selects "PanelFormsModel" ⟨"PanelFormsModel", "layOut", "()V"⟩ ⟨"PanelFormsModel", "layOut", "()V"⟩) := kw_g Z (pv_in (q := (⟨"PanelFormsModel", "layOut", "()V"⟩, 26)) 39 (by decide +kernel)) (by decide +kernel)
theorem kp_M_put {s0 : State} (Z : zt s0) : kw s0 (.selects "PanelFormsModel" ⟨"PanelFormsModel", "put", "(IJJIJJ)V"⟩ ⟨"PanelFormsModel", "put", "(IJJIJJ)V"⟩) := kw_g Z (pv_in (q := (⟨"PanelFormsModel", "put", "(IJJIJJ)V"⟩, 26)) 40 (by decide +kernel)) (by decide +kernel)
theorem kp_M_isCopy {s0 : State} (Z : zt s0) : kw s0 (.selects "PanelFormsModel" ⟨"PanelFormsModel", "isCopy", "(I)Z"⟩ ⟨"PanelFormsModel", "isCopy", "(I)Z"⟩) := kw_g Z (pv_in (q := (⟨"PanelFormsModel", "isCopy", "(I)Z"⟩, 26)) 41 (by decide +kernel)) (by decide +kernel)
theorem kp_M_nextScore {s0 : State} (Z : zt s0) : kw s0 (.selects "PanelFormsModel" ⟨"PanelFormsModel", "nextScore", "(J)J"⟩ ⟨"PanelFormsModel", "nextScore", "(J)J"⟩) := kw_g Z (pv_in (q := (⟨"PanelFormsModel", "nextScore", "(J)J"⟩, 26)) 42 (by decide +kernel)) (by decide +kernel)
theorem kp_M_areaOf {s0 : State} (Z : zt s0) : kw s0 (.selects "PanelFormsModel" ⟨"PanelFormsModel", "areaOf", "(I)J"⟩ ⟨"PanelFormsModel", "areaOf", "(I)J"⟩) := kw_g Z (pv_in (q := (⟨"PanelFormsModel", "areaOf", "(I)J"⟩, 26)) 43 (by decide +kernel)) (by decide +kernel)
theorem kp_M_orderOf {s0 : State} (Z : zt s0) : kw s0 (.selects "PanelFormsModel" ⟨"PanelFormsModel", "orderOf", "(I)I"⟩ ⟨"PanelFormsModel", "orderOf", "(I)I"⟩) := kw_g Z (pv_in (q := (⟨"PanelFormsModel", "orderOf", "(I)I"⟩, 26)) 44 (by decide +kernel)) (by decide +kernel)
end
section
/-! methods that may throw: contracts, calls, ends, catches -/
def th_End (first t : State) (L : List Loc) (k n : Nat) : Prop := first.WarmedH t.vm ∧ first.sameButNew ({ t with vm := first.vm } : State) L k n
def th_Met (l : Launch) (y : MethodName) (ws : List Cond) (rm : Room) (Pc : Array Value → State → Prop) (Qc : Array Value → State → Outcome → State → Prop) (mc ms : Nat) (free : Addr → Prop) : Prop :=
  MetFree l y (headSpec ws rm) Pc (fun _ _ _ _ _ => True) (fun a st o t => Qc a st o t ∧ ∃ L, th_End st t L mc ms ∧ ∀ q ∈ L, free q.base)
def th_MQ (below : List Frame) (Qc : Array Value → State → Outcome → State → Prop) (a : Array Value) (s : State) (mc ms : Nat) (free : Addr → Prop) : State → Prop := fun t =>
  ∃ o, t.status = .running ∧ Ended t below o ∧ Qc a s o t ∧ ∃ L, th_End s t L mc ms ∧ ∀ q ∈ L, free q.base
theorem th_ofMQ {below : List Frame} {Qc : Array Value → State → Outcome → State → Prop} {a : Array Value} {s : State} {mc ms : Nat} {free : Addr → Prop} (t : State) (h : MQ below Qc a s mc ms free t) : th_MQ below Qc a s mc ms free t := by
  obtain ⟨o, h1, h2, h3, L, hF, hL⟩ := h
  exact ⟨o, h1, h2, h3, L, ⟨hF.2.1, hF.2.2⟩, hL⟩
theorem th_ofMet {l : Launch} {y : MethodName} {ws : List Cond} {rm : Room} {Pc : Array Value → State → Prop} {Qc : Array Value → State → Outcome → State → Prop} {mc ms : Nat} {free : Addr → Prop} (h : Met l y ws rm Pc Qc mc ms free) : th_Met l y ws rm Pc Qc mc ms free := by
  intro p e h1 h2 h3 s m args below h4 h5 h6 h7
  obtain ⟨n, o, a1, a2, a3, a4, L, hF, hL⟩ := h p e h1 h2 h3 s m args below h4 h5 h6 h7
  exact ⟨n, o, a1, a2, a3, a4, L, ⟨hF.2.1, hF.2.2⟩, hL⟩
section TH1
variable {p : Program} {l : Launch} {e : Env} {R : Room} {s : State} {m : MethodId} {args : Array Value} {below : List Frame} {meth : Method} {c : Code} {H : Heap} {locs : List Loc} {cells slots : Nat} {Q : State → Prop}
theorem th_mono {Q' : State → Prop} {g : JFrame} (h : ∀ t, Q t → Q' t) (k : W p l e R s m args below meth c H locs cells slots Q g) : W p l e R s m args below meth c H locs cells slots Q' g := fun T hT X => by
  obtain ⟨t, a, b⟩ := k T hT X
  exact ⟨t, a, h t b⟩
theorem th_Met.ofW {y : MethodName} {ws ws' : List Cond} {rm : Room} {Pc : Array Value → State → Prop} {Qc : Array Value → State → Outcome → State → Prop} {mc ms : Nat} {free : Addr → Prop} {cc : ByteArray} {maxL : Nat} {ret : Option FieldType}
    (hy : plainName y.cls = true) (hw : ws = Cond.code y cc maxL ret :: ws')
    (body : ∀ p e s m args below meth c s₁, BodyLoose p l y (headSpec ws rm) cc maxL ret e s m args below meth c s₁ → c.maxLocals = maxL → c.exceptionTable.isEmpty = true → Pc args s →
      W p l e (headSpec ws rm).room s m args below meth c s.heap [] 0 0 (th_MQ below Qc args s mc ms free) (entryFrame m args maxL)) : th_Met l y ws rm Pc Qc mc ms free := by
  refine MetFree.of_bodyS (code := cc) (maxLocals := maxL) (ret := ret) hy ?_ ?_
  · intro args s m h hn
    obtain ⟨meth, c, h1, h2, h3, h4, h5, h6, -, -⟩ := Cond.code_spec hn (atoms_spec (ws := ws) h _ (by rw [hw]; exact List.mem_cons_self))
    exact ⟨meth, c, h1, h2, h3, h4, h5, h6⟩
  · intro p e s m args below meth c s₁ B hml hP _
    have hh0 : s₁.heap = s.heap := by rw [B.state]; rfl
    have hem : c.exceptionTable.isEmpty = true := B.noHandlers (atoms_spec (ws := ws) B.pre _ (by rw [hw]; exact List.mem_cons_self))
    obtain ⟨t, a1, o, b1, b2, b3⟩ := body p e s m args below meth c s₁ B hml hem hP s₁ hh0 (Stand.of_body B)
    exact ⟨t, o, a1, b1, b2, ⟨b3.1, b3.2⟩⟩
/-- the walk at the note of a throw of x over the frame g -/
def th_W (p : Program) (l : Launch) (e : Env) (R : Room) (s : State) (m : MethodId) (args : Array Value) (below : List Frame) (meth : Method) (c : Code) (H : Heap) (locs : List Loc) (cells slots : Nat) (Q : State → Prop) (g : JFrame) (x : Nat) : Prop :=
  ∀ T : State, T.heap = H → Stand p l e R s m args below meth c T locs cells slots → ∃ t, Steps p.tables e below ((T.setTop g).pushFrame (.throwing x)) t ∧ Q t
theorem th_leave {Qc : Array Value → State → Outcome → State → Prop} {free : Addr → Prop} {pc : Nat} {ls : Array Slot} {st : List Value} {x : Nat} (hem : c.exceptionTable.isEmpty = true) (hlocks : meth.locks = false)
    (hq : ∀ t : State, t.heap = H → s.WarmedH t.vm → Qc args s (.threw x) t) (hf : ∀ q ∈ locs, free q.base) :
    th_W p l e R s m args below meth c H locs cells slots (th_MQ below Qc args s cells slots free) (F0 m pc ls st) x := by
  intro T hT X
  have hout : ∀ y ∈ c.exceptionTable.toList, covers y (F0 m pc ls st).pc = false := by
    intro y hy
    rw [Array.isEmpty_iff.mp hem] at hy
    simp at hy
  obtain ⟨h1, h2, h3, h4, h5⟩ := X.leaveThrown x (g := F0 m pc ls st) rfl rfl rfl hout (hlocks := hlocks)
  exact ⟨_, h1, .threw x, h2, h3, hq _ hT h4, locs, ⟨h4, h5⟩, hf⟩
/-- the call of a method that may throw -/
def th_Run (p : Program) (l : Launch) (e : Env) (R : Room) (s : State) (m : MethodId) (args : Array Value) (below : List Frame) (meth : Method) (c : Code) (H : Heap) (locs : List Loc) (cells slots mc ms : Nat) (g : JFrame) (rest : List Value) (Qa : State → Outcome → State → Prop) (free : Addr → Prop) : Prop :=
  ∀ T : State, T.heap = H → Stand p l e R s m args below meth c T locs cells slots → ∃ (o : Outcome) (st₀ t T' : State) (L : List Loc), st₀.heap = H ∧ Stand p l e R s m args below meth c T' (locs ++ L) (cells + mc) (slots + ms) ∧ (∀ q ∈ L, free q.base) ∧ T'.heap = t.heap ∧ T'.vm = t.vm ∧ s.vm.Alike st₀.vm ∧ Qa st₀ o t ∧
    (∀ v, o = .returned v → ∀ tg, Steps p.tables e below (T'.setTop { g with pc := g.pc + 3, stack := v.toList ++ rest }) tg → Steps p.tables e below (T.setTop g) tg) ∧
    (∀ x, o = .threw x → ∀ tg, Steps p.tables e below ((T'.setTop { g with stack := rest }).pushFrame (.throwing x)) tg → Steps p.tables e below (T.setTop g) tg)
/-- a callee's free contract at a point of the walk: it comes back, or its throw lies over the caller's frame -/
theorem th_at {T : State} {y : MethodName} {ws : List Cond} {rm : Room} {Pc : Array Value → State → Prop} {Qc : Array Value → State → Outcome → State → Prop} {mc ms maxL : Nat} {free : Addr → Prop} (hM : th_Met l y ws rm Pc Qc mc ms free)
    (X : Stand p l e R s m args below meth c T locs cells slots) {g : JFrame} (hg : g.method = m) (hsize : g.locals.size = c.maxLocals) {ig : Instr} {len : Nat} (hdg : decode c.code g.pc = .ok (ig, len)) {mk : MethodId} {a : Array Value}
    (hframes : rm.frames + 1 ≤ R.frames) (hlocals : 2 * g.monitorRoom + (g.stack.map fun v => v.category).sum + (maxL + 11) + rm.locals ≤ R.locals) (hc : cells + rm.cells ≤ R.cells) (hs : slots + rm.slots ≤ R.slots)
    (hws : ∀ w ∈ ws, w.before a T = true) {methY : Method} {cY : Code} (hmY : T.vm.method? mk = some methY) (hcY : methY.code = some cY) (hlY : cY.maxLocals = maxL) (hn : T.methodNamed? y = some mk) (hini : (Cond.initialized y.cls).before a T = true) (hP : Pc a (T.calling g mk a)) :
    ∃ (o : Outcome) (t T' : State) (L : List Loc), Stand p l e R s m args below meth c T' (locs ++ L) (cells + mc) (slots + ms) ∧ (∀ q ∈ L, free q.base) ∧ T'.heap = t.heap ∧ T'.vm = t.vm ∧ Qc a (T.calling g mk a) o t ∧
      (∀ v, o = .returned v → Steps p.tables e below (doInvoke e (T.setTop g) [] mk a).1 (T'.setTop { g with pc := g.pc + len, stack := v.toList ++ g.stack })) ∧
      (∀ x, o = .threw x → Steps p.tables e below (doInvoke e (T.setTop g) [] mk a).1 ((T'.setTop g).pushFrame (.throwing x))) := by
  obtain ⟨kY, hkY, -⟩ := className_of_methodNamed hn
  have hinitY : kY.init = .initialized := Cond.initialized_spec (findClass_of_methodNamed hn) hkY hini
  have h : At T g.method c below := by rw [hg]; exact X.here
  have happ : (headSpec ws rm).appliesLoose y e.platform (T.calling g mk a) = true :=
    Spec.appliesLoose_calling (g := g) h hdg hn hkY hinitY
      (X.room_calling (g := g) (R' := rm) hsize hmY hcY hframes (by rw [hlY]; omega) hc hs) (atoms_intro fun w hw => hws w hw)
  obtain ⟨mid, hmid⟩ := h.above
  have hfr : (T.setTop g).frames = (.java g :: mid) ++ below := by rw [State.frames_setTop' g h.top, hmid]; rfl
  obtain ⟨o, s₂, hsteps, -, hend, hq, L, ⟨hW₂, hsame⟩, hL⟩ := Steps.callFree hM p X.admits X.cas X.clock (acts := []) hfr happ hP trivial
  rw [State.frames_setTop' g h.top, X.tail] at hend
  cases o with
  | returned v =>
    obtain ⟨T', X', -, -, ht⟩ := X.outOf hg hdg hend hW₂ hsame
    refine ⟨.returned v, s₂, T', L, X', hL, ?_, ?_, hq, ?_, ?_⟩
    · rw [ht]; exact (State.heap_setTop _ _).symm
    · rw [ht]; exact (State.vm_setTop _ _).symm
    · intro v' hv'; cases hv'; rw [← ht]; exact hsteps
    · intro x hx; cases hx
  | threw x =>
    obtain ⟨T', X', -, -, ht⟩ := X.outOfThrown hg hend hW₂ hsame
    refine ⟨.threw x, s₂, T', L, X', hL, ?_, ?_, hq, ?_, ?_⟩
    · rw [ht]; exact (Stand.throwing_heap T' g x).symm
    · rw [ht]; exact (Stand.throwing_vm T' g x).symm
    · intro v' hv'; cases hv'
    · intro x' hx'; cases hx'; rw [← ht]; exact hsteps
end TH1
section TH2
variable {p : Program} {l : Launch} {e : Env} {R : Room} {s : State} {m : MethodId} {args : Array Value} {below : List Frame} {meth : Method} {c : Code} {H : Heap} {locs : List Loc} {cells slots : Nat} {Q : State → Prop}
variable {y : MethodName} {bytes cc : ByteArray} {maxL nL mc ms n index : Nat} {ret : Option FieldType} {ws : List Cond} {rm : Room} {Pc : Array Value → State → Prop} {Qc : Array Value → State → Outcome → State → Prop} {free : Addr → Prop} {Ts : List Cond} {own C : String} {b : Addr} {As rest : List Value} {g : JFrame}
theorem th_runV (S : CallFix p m c cc nL s args Ts own) (hM : th_Met l y ws rm Pc Qc mc ms free) (cw : CallW R s args own C index y bytes maxL ret ws rm mc ms n) (hp : PreV s H C b Pc As)
    (hg : g.method = m) (hn : As.length = n) (hsize : g.locals.size = nL) (hstack : g.stack = As.reverse ++ .ref b :: rest) (hW : 2 * g.monitorRoom + (rest.map fun v => v.category).sum ≤ 8) (hdg : decode cc g.pc = .ok (.invokevirtual index, 3)) (hf : cells + mc ≤ R.cells ∧ slots + ms ≤ R.slots) :
    th_Run p l e R s m args below meth c H locs cells slots mc ms g rest (Qc (Value.ref b :: As).toArray) (free) := by
  obtain ⟨⟨hrc, hrs, hfr, hlo, hws, -, hcode, hini, hy, hlen, hl⟩, hin, hse⟩ := cw
  obtain ⟨hx, hb, hml, ho, -⟩ := S
  obtain ⟨hbl, ⟨cellB, hcB, hoB, hclB⟩, hPc⟩ := hp
  intro T hT X
  obtain ⟨mk, methM, hnamed, hmethM, hstM, habM⟩ := Cond.instanceMethod_spec hin
  obtain ⟨methM', cM, hmethM', hcM, -, hlM, -, -, -, hsigM⟩ := Cond.code_spec hnamed hcode
  cases hmethM.symm.trans hmethM'
  obtain ⟨c2, r2, m2, q1, q2, q3, q4, kP, hkP, hkPi⟩ := Cond.selects_spec hse
  cases hclB.symm.trans q1
  cases (State.methodFound?_of_named hnamed hy).symm.trans q2
  cases hnamed.symm.trans q3
  have hselP : selectMethod e.platform s.vm cellB.cls mk = .method mk := by rw [Launch.admits_selectMethod X.admits]; exact q4
  obtain ⟨vm₁, X₁, hstep₁⟩ := X.invokevirtual hx ho hl hnamed hmethM hstM hkP hkPi hy (a := b) (cell := cellB) (by rw [hT]; exact hcB)
    (fun z h => by rw [h] at hoB; cases hoB) hselP hmethM habM hkP hkPi (g := g) hg (argsL := As) (rest := rest) (hn.trans (hlen _ hsigM)) hstack (by rw [hb]; exact hdg)
  obtain ⟨o, t, T', L, X', hL, e1, e2, hq, w1, w2⟩ := th_at (maxL := maxL) hM X₁ (g := { g with stack := rest }) hg (hsize.trans hml.symm) (ig := .invokevirtual index) (len := 3) (by rw [hb]; exact hdg) (mk := mk) (a := (Value.ref b :: As).toArray) hfr
    (by show 2 * g.monitorRoom + (rest.map fun v => v.category).sum + (maxL + 11) + rm.locals ≤ R.locals; omega) (by rw [hrc]; exact hf.1) (by rw [hrs]; exact hf.2) (fun w hw => hws w hw _ _ X₁.warmed) (methY := methM) (by rw [X₁.warmed.alike.method?]; exact hmethM) hcM hlM (X₁.named hnamed)
    (word_at X₁.warmed (Or.inl (by first | rfl | simp [Cond.onTables, Cond.keeps, Cond.steady])) hini) (hbl _ _ _ _ (hPc (T.setVm vm₁) hT X₁.warmed))
  exact ⟨o, (T.setVm vm₁).calling { g with stack := rest } mk (Value.ref b :: As).toArray, t, T', L, hT, X', hL, e1, e2, X₁.warmed.alike, hq, fun v hv tg h => hstep₁ _ fun acts => by rw [doInvoke_state]; exact (w1 v hv).trans h, fun x hv tg h => hstep₁ _ fun acts => by rw [doInvoke_state]; exact (w2 x hv).trans h⟩
theorem th_runS (S : CallFix p m c cc nL s args Ts own) (hM : th_Met l y ws rm Pc Qc mc ms free) (cw : CallB R s args own index y bytes maxL ret ws rm mc ms n ∧ (Cond.static y).before args s = true) (hp : PreS s H Pc As)
    (hg : g.method = m) (hn : As.length = n) (hsize : g.locals.size = nL) (hstack : g.stack = As.reverse ++ rest) (hW : 2 * g.monitorRoom + (rest.map fun v => v.category).sum ≤ 8) (hdg : decode cc g.pc = .ok (.invokestatic index, 3)) (hf : cells + mc ≤ R.cells ∧ slots + ms ≤ R.slots) :
    th_Run p l e R s m args below meth c H locs cells slots mc ms g rest (Qc As.toArray) (free) := by
  obtain ⟨⟨hrc, hrs, hfr, hlo, hws, -, hcode, hini, hy, hlen, hl⟩, hstt⟩ := cw
  obtain ⟨hx, hb, hml, ho, -⟩ := S
  obtain ⟨hbl, hPc⟩ := hp
  intro T hT X
  obtain ⟨mk, hnamed⟩ := Cond.code_named hcode
  obtain ⟨methM, cM, hmethM, hcM, -, hlM, -, -, -, hsigM⟩ := Cond.code_spec hnamed hcode
  have hstatic : methM.isStatic = true := Cond.static_spec hnamed hmethM hstt
  obtain ⟨kP, hkP, -⟩ := className_of_methodNamed hnamed
  have hinitP : kP.init = .initialized := Cond.initialized_spec (findClass_of_methodNamed hnamed) hkP hini
  obtain ⟨vm₁, X₁, hstep₁⟩ := X.invokestatic hx ho hl hnamed hmethM hstatic hkP hinitP hy (g := g) hg (argsL := As) (rest := rest) (hn.trans (hlen _ hsigM)) hstack (by rw [hb]; exact hdg)
  obtain ⟨o, t, T', L, X', hL, e1, e2, hq, w1, w2⟩ := th_at (maxL := maxL) hM X₁ (g := { g with stack := rest }) hg (hsize.trans hml.symm) (ig := .invokestatic index) (len := 3) (by rw [hb]; exact hdg) (mk := mk) (a := As.toArray) hfr
    (by show 2 * g.monitorRoom + (rest.map fun v => v.category).sum + (maxL + 11) + rm.locals ≤ R.locals; omega) (by rw [hrc]; exact hf.1) (by rw [hrs]; exact hf.2) (fun w hw => hws w hw _ _ X₁.warmed) (methY := methM) (by rw [X₁.warmed.alike.method?]; exact hmethM) hcM hlM (X₁.named hnamed)
    (word_at X₁.warmed (Or.inl (by first | rfl | simp [Cond.onTables, Cond.keeps, Cond.steady])) hini) (hbl _ _ _ _ (hPc (T.setVm vm₁) hT X₁.warmed))
  exact ⟨o, (T.setVm vm₁).calling { g with stack := rest } mk As.toArray, t, T', L, hT, X', hL, e1, e2, X₁.warmed.alike, hq, fun v hv tg h => hstep₁ _ fun acts => by rw [doInvoke_state]; exact (w1 v hv).trans h, fun x hv tg h => hstep₁ _ fun acts => by rw [doInvoke_state]; exact (w2 x hv).trans h⟩
/-- the same, of a static method that has an exception table of its own -/
theorem th_runSW {hh : List (Nat × Nat × Nat × Nat)} (S : CallFix p m c cc nL s args Ts own) (hM : th_Met l y ws rm Pc Qc mc ms free) (hR : rm.cells = mc ∧ rm.slots = ms ∧ rm.frames + 1 ≤ R.frames ∧ 8 + (maxL + 11) + rm.locals ≤ R.locals) (hws : ∀ w ∈ ws, ∀ (a' : Array Value) (U : State), s.WarmedH U.vm → w.before a' U = true)
    (hcode : (Cond.codeWith y bytes maxL ret hh).before args s = true) (hini : (Cond.initialized y.cls).before args s = true) (hy : y.cls ≠ "java/lang/invoke/MethodHandle" ∧ y.cls ≠ "java/lang/invoke/VarHandle") (hlen : ∀ sig, parseMethodDescriptor y.desc = some sig → n = sig.parameters.length) (hl : (Cond.methodLink own index y).before args s = true) (hstt : (Cond.static y).before args s = true) (hp : PreS s H Pc As)
    (hg : g.method = m) (hn : As.length = n) (hsize : g.locals.size = nL) (hstack : g.stack = As.reverse ++ rest) (hW : 2 * g.monitorRoom + (rest.map fun v => v.category).sum ≤ 8) (hdg : decode cc g.pc = .ok (.invokestatic index, 3)) (hf : cells + mc ≤ R.cells ∧ slots + ms ≤ R.slots) :
    th_Run p l e R s m args below meth c H locs cells slots mc ms g rest (Qc As.toArray) (free) := by
  obtain ⟨hrc, hrs, hfr, hlo⟩ := hR
  obtain ⟨hx, hb, hml, ho, -⟩ := S
  obtain ⟨hbl, hPc⟩ := hp
  intro T hT X
  obtain ⟨mk, methM, cM, hnamed, hmethM, hcM, -, hlM, -, -, -, hsigM⟩ := Cond.codeWith_spec hcode
  have hstatic : methM.isStatic = true := Cond.static_spec hnamed hmethM hstt
  obtain ⟨kP, hkP, -⟩ := className_of_methodNamed hnamed
  have hinitP : kP.init = .initialized := Cond.initialized_spec (findClass_of_methodNamed hnamed) hkP hini
  obtain ⟨vm₁, X₁, hstep₁⟩ := X.invokestatic hx ho hl hnamed hmethM hstatic hkP hinitP hy (g := g) hg (argsL := As) (rest := rest) (hn.trans (hlen _ hsigM)) hstack (by rw [hb]; exact hdg)
  obtain ⟨o, t, T', L, X', hL, e1, e2, hq, w1, w2⟩ := th_at (maxL := maxL) hM X₁ (g := { g with stack := rest }) hg (hsize.trans hml.symm) (ig := .invokestatic index) (len := 3) (by rw [hb]; exact hdg) (mk := mk) (a := As.toArray) hfr
    (by show 2 * g.monitorRoom + (rest.map fun v => v.category).sum + (maxL + 11) + rm.locals ≤ R.locals; omega) (by rw [hrc]; exact hf.1) (by rw [hrs]; exact hf.2) (fun w hw => hws w hw _ _ X₁.warmed) (methY := methM) (by rw [X₁.warmed.alike.method?]; exact hmethM) hcM hlM (X₁.named hnamed)
    (word_at X₁.warmed (Or.inl (by first | rfl | simp [Cond.onTables, Cond.keeps, Cond.steady])) hini) (hbl _ _ _ _ (hPc (T.setVm vm₁) hT X₁.warmed))
  exact ⟨o, (T.setVm vm₁).calling { g with stack := rest } mk As.toArray, t, T', L, hT, X', hL, e1, e2, X₁.warmed.alike, hq, fun v hv tg h => hstep₁ _ fun acts => by rw [doInvoke_state]; exact (w1 v hv).trans h, fun x hv tg h => hstep₁ _ fun acts => by rw [doInvoke_state]; exact (w2 x hv).trans h⟩
end TH2
/-- a new object of the class C was thrown; nothing that was there has changed -/
def th_X (C : String) (x : Nat) (H : Heap) (t : State) : Prop := H.size ≤ x ∧ H.size ≤ t.heap.size ∧ (∃ cell : Cell, t.heap[x]? = some cell ∧ cell.vm.isStatics = false ∧ t.vm.findClass C = some cell.cls) ∧ ∀ q : Nat, q < H.size → t.heap[q]? = H[q]?
def th_Qv {S : Type} (post : S → Prop) (B : S → State → Prop) (A : Nat → Prop) (Th : Nat → Heap → State → Prop) : Array Value → State → Outcome → State → Prop := fun _ st oc t => ((∃ u : S, oc = .returned none ∧ post u ∧ B u t) ∨ ∃ x : Nat, oc = .threw x ∧ Th x st.heap t) ∧ va_F A st t
def th_Qi {S : Type} (post : Int32 → S → Prop) (B : S → State → Prop) (A : Nat → Prop) (Th : Nat → Heap → State → Prop) : Array Value → State → Outcome → State → Prop := fun _ st oc t => ((∃ (r : Int32) (u : S), oc = .returned (some (.int r)) ∧ post r u ∧ B u t) ∨ ∃ x : Nat, oc = .threw x ∧ Th x st.heap t) ∧ va_F A st t
def th_Ql {S : Type} (post : Int64 → S → Prop) (B : S → State → Prop) (A : Nat → Prop) (Th : Nat → Heap → State → Prop) : Array Value → State → Outcome → State → Prop := fun _ st oc t => ((∃ (r : Int64) (u : S), oc = .returned (some (.long r)) ∧ post r u ∧ B u t) ∨ ∃ x : Nat, oc = .threw x ∧ Th x st.heap t) ∧ va_F A st t
section TH3
variable {p : Program} {l : Launch} {e : Env} {R : Room} {s : State} {m : MethodId} {args : Array Value} {below : List Frame} {meth : Method} {c : Code} {H : Heap} {locs : List Loc} {cells slots : Nat} {Q : State → Prop}
variable {pc : Nat} {ls : Array Slot} {rest st0 : List Value} {a : Array Value} {A0 A1 : Nat → Prop} {H0 : Heap} {mc ms : Nat} {free : Addr → Prop} {Th : Nat → Heap → State → Prop}
theorem th_S {t : State} {L : List Loc} (hS : va_S A0 H0 H locs) (hA : ∀ q, q < H.size → A1 q → A0 q) (hf : ∀ q, free q → A0 q) (hL : ∀ q ∈ L, free q.base) (hz : H.size ≤ t.heap.size) (hk : ∀ q : Nat, q < H.size → ¬ A1 q → t.heap[q]? = H[q]?) : va_S A0 H0 t.heap (locs ++ L) :=
  ⟨Nat.le_trans hS.1 hz, fun q h1 h2 => by rw [hk q (Nat.lt_of_lt_of_le h1 hS.1) (fun z => h2 (hA q (Nat.lt_of_lt_of_le h1 hS.1) z))]; exact hS.2.1 q h1 h2, fun q hq => by
      rcases List.mem_append.mp hq with h | h
      · exact hS.2.2 q h
      · exact hf _ (hL q h)⟩
theorem th_callv {S : Type} {post : S → Prop} {B : S → State → Prop} (hr : th_Run p l e R s m args below meth c H locs cells slots mc ms (F0 m pc ls st0) rest (th_Qv post B A1 Th a) free) (hS : va_S A0 H0 H locs) (hA : ∀ q, q < H.size → A1 q → A0 q) (hf : ∀ q, free q → A0 q)
    (kk : ∀ (u : S) (t : State) (H1 : Heap) (locs1 : List Loc), t.heap = H1 → s.vm.Alike t.vm → post u → B u t → H.size ≤ H1.size → (∀ q : Nat, q < H.size → ¬ A1 q → H1[q]? = H[q]?) → va_S A0 H0 H1 locs1 → W p l e R s m args below meth c H1 locs1 (cells + mc) (slots + ms) Q (F0 m (pc + 3) ls rest))
    (kt : ∀ (x : Nat) (t : State) (locs1 : List Loc), s.vm.Alike t.vm → Th x H t → va_S A0 H0 t.heap locs1 → th_W p l e R s m args below meth c t.heap locs1 (cells + mc) (slots + ms) Q (F0 m pc ls rest) x) : W p l e R s m args below meth c H locs cells slots Q (F0 m pc ls st0) := by
  intro T hT X
  obtain ⟨o, st₀, t, T', L, h0, X', hL, e1, e2, -, ⟨hq, hz, hk⟩, w1, w2⟩ := hr T hT X
  rw [h0] at hz hk
  have hal : s.vm.Alike t.vm := by rw [← e2]; exact X'.warmed.alike
  have hS1 := th_S hS hA hf hL hz hk
  rcases hq with ⟨u, rfl, hp, hb⟩ | ⟨x, rfl, hth⟩
  · obtain ⟨t2, a1, b1⟩ := kk u t t.heap (locs ++ L) rfl hal hp hb hz hk hS1 T' e1 X'
    exact ⟨t2, w1 none rfl t2 a1, b1⟩
  · rw [h0] at hth
    obtain ⟨t2, a1, b1⟩ := kt x t (locs ++ L) hal hth hS1 T' e1 X'
    exact ⟨t2, w2 x rfl t2 a1, b1⟩
theorem th_calli {S : Type} {post : Int32 → S → Prop} {B : S → State → Prop} (hr : th_Run p l e R s m args below meth c H locs cells slots mc ms (F0 m pc ls st0) rest (th_Qi post B A1 Th a) free) (hS : va_S A0 H0 H locs) (hA : ∀ q, q < H.size → A1 q → A0 q) (hf : ∀ q, free q → A0 q)
    (kk : ∀ (r : Int32) (u : S) (t : State) (H1 : Heap) (locs1 : List Loc), t.heap = H1 → s.vm.Alike t.vm → post r u → B u t → H.size ≤ H1.size → (∀ q : Nat, q < H.size → ¬ A1 q → H1[q]? = H[q]?) → va_S A0 H0 H1 locs1 → W p l e R s m args below meth c H1 locs1 (cells + mc) (slots + ms) Q (F0 m (pc + 3) ls (.int r :: rest)))
    (kt : ∀ (x : Nat) (t : State) (locs1 : List Loc), s.vm.Alike t.vm → Th x H t → va_S A0 H0 t.heap locs1 → th_W p l e R s m args below meth c t.heap locs1 (cells + mc) (slots + ms) Q (F0 m pc ls rest) x) : W p l e R s m args below meth c H locs cells slots Q (F0 m pc ls st0) := by
  intro T hT X
  obtain ⟨o, st₀, t, T', L, h0, X', hL, e1, e2, -, ⟨hq, hz, hk⟩, w1, w2⟩ := hr T hT X
  rw [h0] at hz hk
  have hal : s.vm.Alike t.vm := by rw [← e2]; exact X'.warmed.alike
  have hS1 := th_S hS hA hf hL hz hk
  rcases hq with ⟨r, u, rfl, hp, hb⟩ | ⟨x, rfl, hth⟩
  · obtain ⟨t2, a1, b1⟩ := kk r u t t.heap (locs ++ L) rfl hal hp hb hz hk hS1 T' e1 X'
    exact ⟨t2, w1 _ rfl t2 a1, b1⟩
  · rw [h0] at hth
    obtain ⟨t2, a1, b1⟩ := kt x t (locs ++ L) hal hth hS1 T' e1 X'
    exact ⟨t2, w2 x rfl t2 a1, b1⟩
theorem th_calll {S : Type} {post : Int64 → S → Prop} {B : S → State → Prop} (hr : th_Run p l e R s m args below meth c H locs cells slots mc ms (F0 m pc ls st0) rest (th_Ql post B A1 Th a) free) (hS : va_S A0 H0 H locs) (hA : ∀ q, q < H.size → A1 q → A0 q) (hf : ∀ q, free q → A0 q)
    (kk : ∀ (r : Int64) (u : S) (t : State) (H1 : Heap) (locs1 : List Loc), t.heap = H1 → s.vm.Alike t.vm → post r u → B u t → H.size ≤ H1.size → (∀ q : Nat, q < H.size → ¬ A1 q → H1[q]? = H[q]?) → va_S A0 H0 H1 locs1 → W p l e R s m args below meth c H1 locs1 (cells + mc) (slots + ms) Q (F0 m (pc + 3) ls (.long r :: rest)))
    (kt : ∀ (x : Nat) (t : State) (locs1 : List Loc), s.vm.Alike t.vm → Th x H t → va_S A0 H0 t.heap locs1 → th_W p l e R s m args below meth c t.heap locs1 (cells + mc) (slots + ms) Q (F0 m pc ls rest) x) : W p l e R s m args below meth c H locs cells slots Q (F0 m pc ls st0) := by
  intro T hT X
  obtain ⟨o, st₀, t, T', L, h0, X', hL, e1, e2, -, ⟨hq, hz, hk⟩, w1, w2⟩ := hr T hT X
  rw [h0] at hz hk
  have hal : s.vm.Alike t.vm := by rw [← e2]; exact X'.warmed.alike
  have hS1 := th_S hS hA hf hL hz hk
  rcases hq with ⟨r, u, rfl, hp, hb⟩ | ⟨x, rfl, hth⟩
  · obtain ⟨t2, a1, b1⟩ := kk r u t t.heap (locs ++ L) rfl hal hp hb hz hk hS1 T' e1 X'
    exact ⟨t2, w1 _ rfl t2 a1, b1⟩
  · rw [h0] at hth
    obtain ⟨t2, a1, b1⟩ := kt x t (locs ++ L) hal hth hS1 T' e1 X'
    exact ⟨t2, w2 x rfl t2 a1, b1⟩
/-- 'throw new C("..")' behind its new, dup and ldc: the constructor, athrow, and the method is left -/
theorem th_throwS {Qc : Array Value → State → Outcome → State → Prop} {cc : ByteArray} {own cls : String} {names : List String} {ic x : Nat} {cX : ClassId} {kX : Class} {msg : Value} (hexec : p.tables.exec = Jvm.exec) (hb : c.code = cc) (hml : c.maxLocals = ls.size) (htr : l.stackTraces = false)
    (hown : s.vm.findClass own = some m.cls) (hcls : Bundle.fit cls = true) (hnames : ∀ n ∈ names, Bundle.fit n = true) (h : ∀ a ∈ Bundle.ownAtoms own ic cls names, a.before args s = true) (hfoundX : s.vm.findClass cls = some cX) (hkX : s.vm.classes[cX]? = some kX) (hcell : H[x]? = some (freshCell cX kX)) (hnew : s.heap.size ≤ x) (hmsg : msg.isRef = true)
    (hem : c.exceptionTable.isEmpty = true) (hlocks : meth.locks = false) (hd6 : decode cc pc = .ok (.invokespecial ic, 3)) (hd9 : decode cc (pc + 3) = .ok (.athrow, 1)) (hRf : names.length + 3 < R.frames) (hRl : ((Value.ref x :: rest).map fun v => v.category).sum + (13 * (names.length + 1) + 42) ≤ R.locals)
    (hq : ∀ t : State, s.WarmedH t.vm → th_X cls x s.heap t → Qc args s (.threw x) t) : W p l e R s m args below meth c H [] cells slots (th_MQ below Qc args s cells slots free) (F0 m pc ls (msg :: .ref x :: .ref x :: rest)) := by
  intro T hT X
  have hout : ∀ y ∈ c.exceptionTable.toList, covers y ((F0 m pc ls (msg :: .ref x :: .ref x :: rest)).pc + 3) = false := by
    intro y hy
    rw [Array.isEmpty_iff.mp hem] at hy
    simp at hy
  have htr' : e.platform.stackTraces = false := by rw [X.admits.platform]; exact htr
  obtain ⟨U, st, hrun, hend, hWU, hsame, ce, hce, ho⟩ := X.ctorThrowS hexec htr' hown hcls hnames h (fun y hy => by cases hy) hfoundX hkX (by rw [hT]; exact hcell) hnew hmsg (g := F0 m pc ls (msg :: .ref x :: .ref x :: rest)) rfl hml.symm rfl rfl (rest := rest) rfl (by rw [hb]; exact hd6) (by rw [hb]; exact hd9) hout hRf
    (by show 2 * 0 + _ + _ ≤ _; omega) (hlocks := hlocks)
  have hold : ∀ q : Nat, q < s.heap.size → U.heap[q]? = s.heap[q]? := by
    intro q hq
    obtain ⟨c', h1, h2, h3, h4⟩ := hsame.2.2.2.2.2 q _ (Array.getElem?_eq_getElem hq)
    rw [Array.getElem?_eq_getElem hq]
    refine h1.trans (congrArg some ?_)
    rw [h2]
    have : c'.slots = s.heap[q].slots := by
      apply Array.ext
      · exact h3
      · intro i g1 g2
        have := h4 i (by simp)
        rw [Array.getElem?_eq_getElem g1, Array.getElem?_eq_getElem g2] at this
        exact Option.some.inj this
    rw [this]
  exact ⟨U, st, .threw x, hrun, hend, hq U hWU ⟨hnew, hsame.2.1, ⟨ce, hce, by rw [ho.vm]; rfl, by rw [hWU.alike.findClass]; exact ho.cls⟩, hold⟩, [], ⟨hWU, hsame⟩, fun y hy => by cases hy⟩
end TH3
end
section
/-! the start s0, states behind it, contracts over worlds -/
def gl (s0 U : State) : Prop := s0.WarmedH U.vm ∧ s0.heap.size ≤ U.heap.size ∧ ∀ q : Nat, q < s0.heap.size → U.heap[q]? = s0.heap[q]?
def ty0 (cA : Nat → ClassId) : List (ClassId × FieldType) := [(cA 0, .int), (cA 1, .long), (cA 2, .boolean), (cA 3, .object R_B)]
def strs : List (Nat × String) := [(223, "no such board"), (215, "lengths and places are 0 to 65536"), (71, "boards are 0 to 4, rows 0 to 8"), (225, "no such copy"), (130, "a copy tells 0 to 5"), (219, "no such side"), (221, "only 0 and 1 are told"), (152, "a part is in the tab's way"), (158, "no such score"), (166, "a part has a radius"), (188, "no such corner of the way"), (203, "0 to 200 are wanted")]
def thS (s0 : State) : Prop := (Cond.isRef (.static "java/lang/Throwable" "UNASSIGNED_STACK" "[Ljava/lang/StackTraceElement;")).before #[] s0 = true ∧ (Cond.isRef (.static "java/lang/Throwable" "SUPPRESSED_SENTINEL" "Ljava/util/List;")).before #[] s0 = true
/-- what is known of the start: words, classes, the launch, texts, statics -/
def zE (l : Launch) (s0 : State) (D : va_G) (cA sa : Nat → Nat) : Prop := zt s0 ∧ va_K D ncl (ty0 cA) s0 ∧ l.stackTraces = false ∧ (∀ q ∈ strs, vk_R "PanelForms" q.1 q.2 (sa q.1) s0) ∧ thS s0
theorem gl_self (s0 : State) (h : s0.WarmedH s0.vm) : gl s0 s0 := ⟨h, Nat.le_refl _, fun _ _ => rfl⟩
theorem gl_on {s0 s U : State} {A : Nat → Prop} {H : Heap} {locs : List Loc} (h : gl s0 s) (hA : ∀ q, A q → s0.heap.size ≤ q) (hS : va_S A s.heap H locs) (hU : U.heap = H) (hW : s.WarmedH U.vm) : gl s0 U :=
  ⟨State.WarmedH.trans h.1 hW, by rw [hU]; exact Nat.le_trans h.2.1 hS.1, fun q hq => by rw [hU, hS.2.1 q (Nat.lt_of_lt_of_le hq h.2.1) (fun z => absurd (hA q z) (Nat.not_le.mpr hq))]; exact h.2.2 q hq⟩
def wP (s0 : State) (D : va_G) (av : List Value) (ws : va_W) (sz : Nat) : Array Value → State → Prop := va_Pc av (fun U => gl s0 U ∧ U.heap.size = sz ∧ va_P D ncl ws U.heap ∧ va_D (fun q => s0.heap.size ≤ q) ws)
theorem wP_blind {s0 : State} {D : va_G} {av : List Value} {ws : va_W} {sz : Nat} : FrameBlind (wP s0 D av ws sz) := fun _ _ _ _ h => ⟨h.1, ⟨h.2.1.1, h.2.1.2.1, h.2.1.2.2⟩, h.2.2.1, h.2.2.2.1, h.2.2.2.2⟩
def wB (D : va_G) (A : Nat → Prop) {S : Type} (wf : S → va_W) : S → State → Prop := fun u t => va_P D ncl (wf u) t.heap ∧ va_D A (wf u)
theorem mp_fm {α : Type} {ws ws' : List α} (is : List Nat) (h : is.map (fun i => ws[i]?) = ws'.map some) : is.filterMap (fun i => ws[i]?) = ws' := by
  have e : is.filterMap (fun i => ws[i]?) = (is.map (fun i => ws[i]?)).filterMap id := by simp [List.filterMap_map]
  rw [e, h, List.filterMap_map]
  simp
theorem va_A_lo {ws : va_W} {sz lo : Nat} (hD : va_D (fun q => lo ≤ q) ws) (h : lo ≤ sz) : ∀ q, va_A ws sz q → lo ≤ q := by
  intro q hq
  rcases hq with ⟨k, e, hk⟩ | hq
  · exact hD.2 k _ hk
  · exact Nat.le_trans h hq
section WM
variable {l : Launch} {s0 : State} {D : va_G} {cA sa : Nat → Nat}
theorem wMet (Z : zE l s0 D cA sa) {y : MethodName} {cc : ByteArray} {maxL : Nat} {ret : Option FieldType} {rm : Room} {av : List Value} {ws : va_W} {sz : Nat} {Qc : Array Value → State → Outcome → State → Prop} {mc ms : Nat} (hy : plainName y.cls = true) (hlen : (lg_sl av).length ≤ maxL)
    (body : ∀ p e s m below meth c, p.tables.exec = Jvm.exec → c.code = cc → meth.sig.returnType = ret → c.maxLocals = maxL → s.vm.findClass y.cls = some m.cls → meth.locks = false → meth.name = y.name → gl s0 s → va_K D ncl (ty0 cA) s → s.heap.size = sz →
      va_P D ncl ws s.heap → va_D (va_A ws s.heap.size) ws → (∀ q, s.heap.size ≤ q → va_A ws s.heap.size q) → (∀ q, va_A ws s.heap.size q → s0.heap.size ≤ q) → va_S (va_A ws s.heap.size) s.heap s.heap [] → ∀ ls, lv_has ls maxL (lv_args 0 av) →
      W p l e rm s m av.toArray below meth c s.heap [] 0 0 (MQ below Qc av.toArray s mc ms (va_A ws s.heap.size)) (F0 m 0 ls [])) :
    Met l y [.code y cc maxL ret] rm (wP s0 D av ws sz) Qc mc ms (va_A ws sz) := by
  refine Met.ofW (cc := cc) (maxL := maxL) (ret := ret) hy rfl ?_
  intro p e s m args below meth c s₁ B hml hv
  obtain ⟨rfl, hg, hsz, hP, hD0⟩ := hv
  have hD := hD0.self (sz := s.heap.size)
  have hlo := va_A_lo (sz := s.heap.size) hD0 hg.2.1
  have hl := lv_entry av hlen
  rw [lg_entry_eq]
  subst hsz
  exact body p e s m below meth c B.exec B.bytes B.returns hml (findClass_of_methodNamed B.named) B.notSynchronized (name_of_methodNamed B.named B.method).1 hg (va_K.moved hg.1.alike Z.2.1) rfl hP hD (fun q h => Or.inr h) hlo va_S.rf _ hl
theorem wMetT (Z : zE l s0 D cA sa) {y : MethodName} {cc : ByteArray} {maxL : Nat} {ret : Option FieldType} {rm : Room} {av : List Value} {ws : va_W} {sz : Nat} {Qc : Array Value → State → Outcome → State → Prop} {mc ms : Nat} (hy : plainName y.cls = true) (hlen : (lg_sl av).length ≤ maxL)
    (body : ∀ p e s m below meth c, p.tables.exec = Jvm.exec → c.code = cc → meth.sig.returnType = ret → c.maxLocals = maxL → s.vm.findClass y.cls = some m.cls → meth.locks = false → c.exceptionTable.isEmpty = true → gl s0 s → va_K D ncl (ty0 cA) s → s.heap.size = sz →
      va_P D ncl ws s.heap → va_D (va_A ws s.heap.size) ws → (∀ q, s.heap.size ≤ q → va_A ws s.heap.size q) → (∀ q, va_A ws s.heap.size q → s0.heap.size ≤ q) → va_S (va_A ws s.heap.size) s.heap s.heap [] → ∀ ls, lv_has ls maxL (lv_args 0 av) →
      W p l e rm s m av.toArray below meth c s.heap [] 0 0 (th_MQ below Qc av.toArray s mc ms (va_A ws s.heap.size)) (F0 m 0 ls [])) :
    th_Met l y [.code y cc maxL ret] rm (wP s0 D av ws sz) Qc mc ms (va_A ws sz) := by
  refine th_Met.ofW (cc := cc) (maxL := maxL) (ret := ret) hy rfl ?_
  intro p e s m args below meth c s₁ B hml hem hv
  obtain ⟨rfl, hg, hsz, hP, hD0⟩ := hv
  have hD := hD0.self (sz := s.heap.size)
  have hlo := va_A_lo (sz := s.heap.size) hD0 hg.2.1
  have hl := lv_entry av hlen
  rw [lg_entry_eq]
  subst hsz
  exact body p e s m below meth c B.exec B.bytes B.returns hml (findClass_of_methodNamed B.named) B.notSynchronized hem hg (va_K.moved hg.1.alike Z.2.1) rfl hP hD (fun q h => Or.inr h) hlo va_S.rf _ hl
end WM
section WR
variable {p : Program} {l : Launch} {e : Env} {R : Room} {s : State} {m : MethodId} {args : Array Value} {below : List Frame} {meth : Method} {c : Code} {H : Heap} {locs : List Loc} {cells slots : Nat} {Q : State → Prop}
variable {D : va_G} {A : Nat → Prop} {ws' : va_W} {S : Type} {wf : S → va_W} {cc : ByteArray} {pc : Nat} {ls : Array Slot}
theorem w_iret {post : Int32 → S → Prop} {v : Int32} (hx : p.tables.exec = Jvm.exec) (hb : c.code = cc) (hr : meth.sig.returnType = some .int) (hlk : meth.locks = false) (hP : va_P D ncl ws' H) (hD : va_D A ws') (hS : va_S A s.heap H locs) (u : S) (hw : wf u = ws') (hp : post v u) (hdg : decode cc pc = .ok (.ireturn, 1)) :
    W p l e R s m args below meth c H locs cells slots (MQ below (va_Qi post (wB D A wf) A) args s cells slots A) (F0 m pc ls [.int v]) :=
  W.iret hx hb hr (fun t ht hW => ⟨⟨v, u, rfl, hp, by rw [ht, hw]; exact hP, by rw [hw]; exact hD⟩, hS.F ht⟩) hS.2.2 hdg hlk
theorem w_zret {post : Int32 → S → Prop} {v : Int32} (hx : p.tables.exec = Jvm.exec) (hb : c.code = cc) (hr : meth.sig.returnType = some .boolean) (hn : narrow .boolean (.int v) = .int v) (hlk : meth.locks = false) (hP : va_P D ncl ws' H) (hD : va_D A ws') (hS : va_S A s.heap H locs) (u : S) (hw : wf u = ws') (hp : post v u) (hdg : decode cc pc = .ok (.ireturn, 1)) :
    W p l e R s m args below meth c H locs cells slots (MQ below (va_Qi post (wB D A wf) A) args s cells slots A) (F0 m pc ls [.int v]) :=
  W.zret hx hb hr hn (fun t ht hW => ⟨⟨v, u, rfl, hp, by rw [ht, hw]; exact hP, by rw [hw]; exact hD⟩, hS.F ht⟩) hS.2.2 hdg hlk
theorem w_lret {post : Int64 → S → Prop} {v : Int64} (hx : p.tables.exec = Jvm.exec) (hb : c.code = cc) (hr : meth.sig.returnType = some .long) (hlk : meth.locks = false) (hP : va_P D ncl ws' H) (hD : va_D A ws') (hS : va_S A s.heap H locs) (u : S) (hw : wf u = ws') (hp : post v u) (hdg : decode cc pc = .ok (.lreturn, 1)) :
    W p l e R s m args below meth c H locs cells slots (MQ below (va_Ql post (wB D A wf) A) args s cells slots A) (F0 m pc ls [.long v]) :=
  W.lret hx hb hr (fun t ht hW => ⟨⟨v, u, rfl, hp, by rw [ht, hw]; exact hP, by rw [hw]; exact hD⟩, hS.F ht⟩) hS.2.2 hdg hlk
theorem w_vret {post : S → Prop} (hx : p.tables.exec = Jvm.exec) (hb : c.code = cc) (hr : meth.sig.returnType = none) (hlk : meth.locks = false) (hP : va_P D ncl ws' H) (hD : va_D A ws') (hS : va_S A s.heap H locs) (u : S) (hw : wf u = ws') (hp : post u) (hdg : decode cc pc = .ok (.return_, 1)) :
    W p l e R s m args below meth c H locs cells slots (MQ below (va_Qv post (wB D A wf) A) args s cells slots A) (F0 m pc ls []) :=
  W.vret hx hb hr (fun t ht hW => ⟨⟨u, rfl, hp, by rw [ht, hw]; exact hP, by rw [hw]; exact hD⟩, hS.F ht⟩) hS.2.2 hdg hlk
end WR
end
section
/-! calls of methods with contracts over worlds -/
section WC
variable {p : Program} {l : Launch} {e : Env} {R : Room} {s : State} {m : MethodId} {args : Array Value} {below : List Frame} {meth : Method} {c : Code} {H : Heap} {locs : List Loc} {cells slots : Nat} {Q : State → Prop}
variable {s0 : State} {D : va_G} {cA sa : Nat → Nat} {A : Nat → Prop} {ws wc wr : va_W} {cc : ByteArray} {pc : Nat} {ls : Array Slot}
variable {y : MethodName} {bytes : ByteArray} {maxL nL n index : Nat} {ret : Option FieldType} {rm : Room} {Qc : Array Value → State → Outcome → State → Prop} {free : Addr → Prop} {own C host : String} {b : Addr} {As rest st0 : List Value} {tys : List (ClassId × FieldType)}
theorem wc_ws (k4 : kw s0 (.code y bytes maxL ret)) (hg : gl s0 s) : ∀ w ∈ [Cond.code y bytes maxL ret], ∀ (a' : Array Value) (U : State), s.WarmedH U.vm → w.before a' U = true := by
  intro w hw a' U hW
  rw [List.mem_singleton.mp hw]
  exact k4 U a' (State.WarmedH.trans hg.1 hW)
theorem wc_len {d : String} (h : (parseMethodDescriptor d).map (fun d => d.parameters.length) = some n) : ∀ sig, parseMethodDescriptor d = some sig → n = sig.parameters.length := by
  intro sig hs
  rw [hs] at h
  exact (Option.some.inj h).symm
theorem wc_B (hg : gl s0 s) (k1 : kw s0 (.methodLink own index y)) (k4 : kw s0 (.code y bytes maxL ret)) (k5 : kw s0 (.initialized y.cls)) (hd : y.cls ≠ "java/lang/invoke/MethodHandle" ∧ y.cls ≠ "java/lang/invoke/VarHandle" ∧ (parseMethodDescriptor y.desc).map (fun d => d.parameters.length) = some n) (hR : rm.frames + 1 ≤ R.frames ∧ 8 + (maxL + 11) + rm.locals ≤ R.locals) :
    CallB R s args own index y bytes maxL ret [.code y bytes maxL ret] rm rm.cells rm.slots n :=
  ⟨rfl, rfl, hR.1, hR.2, wc_ws k4 hg, List.mem_cons_self, k4 s args hg.1, k5 s args hg.1, ⟨hd.1, hd.2.1⟩, wc_len hd.2.2, k1 s args hg.1⟩
theorem wc_N (hg : gl s0 s) (k1 : kw s0 (.methodLinkNest own index y host)) (k4 : kw s0 (.code y bytes maxL ret)) (k5 : kw s0 (.initialized y.cls)) (hd : y.cls ≠ "java/lang/invoke/MethodHandle" ∧ y.cls ≠ "java/lang/invoke/VarHandle" ∧ (parseMethodDescriptor y.desc).map (fun d => d.parameters.length) = some n) (hR : rm.frames + 1 ≤ R.frames ∧ 8 + (maxL + 11) + rm.locals ≤ R.locals) :
    va_CN R s args own index y host bytes maxL ret [.code y bytes maxL ret] rm rm.cells rm.slots n :=
  ⟨⟨rfl, rfl, hR.1, hR.2, wc_ws k4 hg, List.mem_cons_self⟩, k4 s args hg.1, k5 s args hg.1, ⟨hd.1, hd.2.1⟩, wc_len hd.2.2, k1 s args hg.1⟩
theorem w_pre {av : List Value} (hg : gl s0 s) (hlo : ∀ q, A q → s0.heap.size ≤ q) (hS : va_S A s.heap H locs) (hP : va_P D ncl ws H) (hD : va_D A ws) (isC : List Nat) (hn : va_nd isC = true) (hC : isC.map (fun i => ws[i]?) = wc.map some) :
    ∀ U : State, U.heap = H → s.WarmedH U.vm → wP s0 D av wc H.size av.toArray U := fun U hU hW =>
  ⟨rfl, gl_on hg hlo hS hU hW, by rw [hU], by rw [hU]; exact hP.sub isC (mp_fm isC hC), (hD.sub isC hn hC).weaken (fun _ _ _ h => hlo _ h)⟩
theorem w_runV (hx : p.tables.exec = Jvm.exec) (hb : c.code = cc) (hml : c.maxLocals = nL) (hown : s.vm.findClass own = some m.cls) (hls : ls.size = nL) (hg : gl s0 s) (hlo : ∀ q, A q → s0.heap.size ≤ q) (hK : va_K D ncl tys s) (hP : va_P D ncl ws H) (hD : va_D A ws) (hS : va_S A s.heap H locs)
    (hM : Met l y [.code y bytes maxL ret] rm (wP s0 D (.ref b :: As) wc H.size) Qc rm.cells rm.slots free) (k1 : kw s0 (.methodLink own index y)) (k2 : kw s0 (.instanceMethod y)) (k3 : kw s0 (.selects C y y)) (k4 : kw s0 (.code y bytes maxL ret)) (k5 : kw s0 (.initialized y.cls))
    (hd : y.cls ≠ "java/lang/invoke/MethodHandle" ∧ y.cls ≠ "java/lang/invoke/VarHandle" ∧ (parseMethodDescriptor y.desc).map (fun d => d.parameters.length) = some As.length) (hR : rm.frames + 1 ≤ R.frames ∧ 8 + (maxL + 11) + rm.locals ≤ R.locals)
    (isC : List Nat) (hn : va_nd isC = true) (hC : isC.map (fun i => ws[i]?) = wc.map some) {ci q0 : Nat} {fs : List Value} {T : u_T} {N : Nat} (hc : ncl[ci]? = some (C, T, N)) (he : ws[q0]? = some (b, .inr (ci, fs))) (hst : st0 = As.reverse ++ .ref b :: rest) (h8 : (rest.map fun v => v.category).sum ≤ 8) (hdg : decode cc pc = .ok (.invokevirtual index, 3)) (hf : cells + rm.cells ≤ R.cells ∧ slots + rm.slots ≤ R.slots) :
    va_Run p l e R s m args below meth c H locs cells slots rm.cells rm.slots (F0 m pc ls st0) rest (Qc (Value.ref b :: As).toArray) free :=
  va_runV (Ts := []) (own := own) (C := C) (n := As.length) ⟨hx, hb, hml, hown, fun _ h => absurd h List.not_mem_nil⟩ hM ⟨wc_B hg k1 k4 k5 hd hR, k2 s args hg.1, k3 s args hg.1⟩ ⟨wP_blind, va_recv hK hP hc he, w_pre hg hlo hS hP hD isC hn hC⟩ rfl rfl hls hst (lv_room (m := m) (pc := pc) (ls := ls) (rest := st0) h8) hdg hf
theorem w_runVN (hx : p.tables.exec = Jvm.exec) (hb : c.code = cc) (hml : c.maxLocals = nL) (hown : s.vm.findClass own = some m.cls) (hls : ls.size = nL) (hg : gl s0 s) (hlo : ∀ q, A q → s0.heap.size ≤ q) (hK : va_K D ncl tys s) (hP : va_P D ncl ws H) (hD : va_D A ws) (hS : va_S A s.heap H locs)
    (hM : Met l y [.code y bytes maxL ret] rm (wP s0 D (.ref b :: As) wc H.size) Qc rm.cells rm.slots free) (k1 : kw s0 (.methodLinkNest own index y host)) (k2 : kw s0 (.instanceMethod y)) (k3 : kw s0 (.selects C y y)) (k4 : kw s0 (.code y bytes maxL ret)) (k5 : kw s0 (.initialized y.cls))
    (hd : y.cls ≠ "java/lang/invoke/MethodHandle" ∧ y.cls ≠ "java/lang/invoke/VarHandle" ∧ (parseMethodDescriptor y.desc).map (fun d => d.parameters.length) = some As.length) (hR : rm.frames + 1 ≤ R.frames ∧ 8 + (maxL + 11) + rm.locals ≤ R.locals)
    (isC : List Nat) (hn : va_nd isC = true) (hC : isC.map (fun i => ws[i]?) = wc.map some) {ci q0 : Nat} {fs : List Value} {T : u_T} {N : Nat} (hc : ncl[ci]? = some (C, T, N)) (he : ws[q0]? = some (b, .inr (ci, fs))) (hst : st0 = As.reverse ++ .ref b :: rest) (h8 : (rest.map fun v => v.category).sum ≤ 8) (hdg : decode cc pc = .ok (.invokevirtual index, 3)) (hf : cells + rm.cells ≤ R.cells ∧ slots + rm.slots ≤ R.slots) :
    va_Run p l e R s m args below meth c H locs cells slots rm.cells rm.slots (F0 m pc ls st0) rest (Qc (Value.ref b :: As).toArray) free :=
  va_runVN (Ts := []) (own := own) (C := C) (n := As.length) ⟨hx, hb, hml, hown, fun _ h => absurd h List.not_mem_nil⟩ hM ⟨wc_N hg k1 k4 k5 hd hR, k2 s args hg.1, k3 s args hg.1⟩ ⟨wP_blind, va_recv hK hP hc he, w_pre hg hlo hS hP hD isC hn hC⟩ rfl rfl hls hst (lv_room (m := m) (pc := pc) (ls := ls) (rest := st0) h8) hdg hf
theorem w_runS (hx : p.tables.exec = Jvm.exec) (hb : c.code = cc) (hml : c.maxLocals = nL) (hown : s.vm.findClass own = some m.cls) (hls : ls.size = nL) (hg : gl s0 s) (hlo : ∀ q, A q → s0.heap.size ≤ q) (hP : va_P D ncl ws H) (hD : va_D A ws) (hS : va_S A s.heap H locs)
    (hM : Met l y [.code y bytes maxL ret] rm (wP s0 D As wc H.size) Qc rm.cells rm.slots free) (k1 : kw s0 (.methodLink own index y)) (k2 : kw s0 (.static y)) (k4 : kw s0 (.code y bytes maxL ret)) (k5 : kw s0 (.initialized y.cls))
    (hd : y.cls ≠ "java/lang/invoke/MethodHandle" ∧ y.cls ≠ "java/lang/invoke/VarHandle" ∧ (parseMethodDescriptor y.desc).map (fun d => d.parameters.length) = some As.length) (hR : rm.frames + 1 ≤ R.frames ∧ 8 + (maxL + 11) + rm.locals ≤ R.locals)
    (isC : List Nat) (hn : va_nd isC = true) (hC : isC.map (fun i => ws[i]?) = wc.map some) (hst : st0 = As.reverse ++ rest) (h8 : (rest.map fun v => v.category).sum ≤ 8) (hdg : decode cc pc = .ok (.invokestatic index, 3)) (hf : cells + rm.cells ≤ R.cells ∧ slots + rm.slots ≤ R.slots) :
    va_Run p l e R s m args below meth c H locs cells slots rm.cells rm.slots (F0 m pc ls st0) rest (Qc As.toArray) free :=
  va_runS (Ts := []) (own := own) (n := As.length) ⟨hx, hb, hml, hown, fun _ h => absurd h List.not_mem_nil⟩ hM ⟨wc_B hg k1 k4 k5 hd hR, k2 s args hg.1⟩ ⟨wP_blind, w_pre hg hlo hS hP hD isC hn hC⟩ rfl rfl hls hst (lv_room (m := m) (pc := pc) (ls := ls) (rest := st0) h8) hdg hf
theorem w_runI (hx : p.tables.exec = Jvm.exec) (hb : c.code = cc) (hml : c.maxLocals = nL) (hown : s.vm.findClass own = some m.cls) (hls : ls.size = nL) (hg : gl s0 s) (hlo : ∀ q, A q → s0.heap.size ≤ q) (hP : va_P D ncl ws H) (hD : va_D A ws) (hS : va_S A s.heap H locs)
    (hM : Met l y [.code y bytes maxL none] rm (wP s0 D (.ref b :: As) wc H.size) Qc rm.cells rm.slots free) (k1 : kw s0 (.methodLink own index y)) (k2 : kw s0 (.instanceMethod y)) (k4 : kw s0 (.code y bytes maxL none)) (k5 : kw s0 (.initialized y.cls)) (hy1 : y.name = "<init>")
    (hd : y.cls ≠ "java/lang/invoke/MethodHandle" ∧ y.cls ≠ "java/lang/invoke/VarHandle" ∧ (parseMethodDescriptor y.desc).map (fun d => d.parameters.length) = some As.length) (hR : rm.frames + 1 ≤ R.frames ∧ 8 + (maxL + 11) + rm.locals ≤ R.locals)
    (isC : List Nat) (hn : va_nd isC = true) (hC : isC.map (fun i => ws[i]?) = wc.map some) (hst : st0 = As.reverse ++ .ref b :: rest) (h8 : (rest.map fun v => v.category).sum ≤ 8) (hdg : decode cc pc = .ok (.invokespecial index, 3)) (hf : cells + rm.cells ≤ R.cells ∧ slots + rm.slots ≤ R.slots) :
    va_Run p l e R s m args below meth c H locs cells slots rm.cells rm.slots (F0 m pc ls st0) rest (Qc (Value.ref b :: As).toArray) free :=
  va_runI (Ts := []) (own := own) (n := As.length) ⟨hx, hb, hml, hown, fun _ h => absurd h List.not_mem_nil⟩ hM ⟨wc_B hg k1 k4 k5 hd hR, hy1, k2 s args hg.1⟩ ⟨wP_blind, w_pre hg hlo hS hP hD isC hn hC⟩ rfl rfl hls hst (lv_room (m := m) (pc := pc) (ls := ls) (rest := st0) h8) hdg hf
theorem w_runIN (hx : p.tables.exec = Jvm.exec) (hb : c.code = cc) (hml : c.maxLocals = nL) (hown : s.vm.findClass own = some m.cls) (hls : ls.size = nL) (hg : gl s0 s) (hlo : ∀ q, A q → s0.heap.size ≤ q) (hP : va_P D ncl ws H) (hD : va_D A ws) (hS : va_S A s.heap H locs)
    (hM : Met l y [.code y bytes maxL none] rm (wP s0 D (.ref b :: As) wc H.size) Qc rm.cells rm.slots free) (k1 : kw s0 (.methodLinkNest own index y host)) (k2 : kw s0 (.instanceMethod y)) (k4 : kw s0 (.code y bytes maxL none)) (k5 : kw s0 (.initialized y.cls)) (hy1 : y.name = "<init>")
    (hd : y.cls ≠ "java/lang/invoke/MethodHandle" ∧ y.cls ≠ "java/lang/invoke/VarHandle" ∧ (parseMethodDescriptor y.desc).map (fun d => d.parameters.length) = some As.length) (hR : rm.frames + 1 ≤ R.frames ∧ 8 + (maxL + 11) + rm.locals ≤ R.locals)
    (isC : List Nat) (hn : va_nd isC = true) (hC : isC.map (fun i => ws[i]?) = wc.map some) (hst : st0 = As.reverse ++ .ref b :: rest) (h8 : (rest.map fun v => v.category).sum ≤ 8) (hdg : decode cc pc = .ok (.invokespecial index, 3)) (hf : cells + rm.cells ≤ R.cells ∧ slots + rm.slots ≤ R.slots) :
    va_Run p l e R s m args below meth c H locs cells slots rm.cells rm.slots (F0 m pc ls st0) rest (Qc (Value.ref b :: As).toArray) free :=
  va_runIN (Ts := []) (own := own) (n := As.length) ⟨hx, hb, hml, hown, fun _ h => absurd h List.not_mem_nil⟩ hM ⟨wc_N hg k1 k4 k5 hd hR, hy1, k2 s args hg.1⟩ ⟨wP_blind, w_pre hg hlo hS hP hD isC hn hC⟩ rfl rfl hls hst (lv_room (m := m) (pc := pc) (ls := ls) (rest := st0) h8) hdg hf
theorem wt_runV (hx : p.tables.exec = Jvm.exec) (hb : c.code = cc) (hml : c.maxLocals = nL) (hown : s.vm.findClass own = some m.cls) (hls : ls.size = nL) (hg : gl s0 s) (hlo : ∀ q, A q → s0.heap.size ≤ q) (hK : va_K D ncl tys s) (hP : va_P D ncl ws H) (hD : va_D A ws) (hS : va_S A s.heap H locs)
    (hM : th_Met l y [.code y bytes maxL ret] rm (wP s0 D (.ref b :: As) wc H.size) Qc rm.cells rm.slots free) (k1 : kw s0 (.methodLink own index y)) (k2 : kw s0 (.instanceMethod y)) (k3 : kw s0 (.selects C y y)) (k4 : kw s0 (.code y bytes maxL ret)) (k5 : kw s0 (.initialized y.cls))
    (hd : y.cls ≠ "java/lang/invoke/MethodHandle" ∧ y.cls ≠ "java/lang/invoke/VarHandle" ∧ (parseMethodDescriptor y.desc).map (fun d => d.parameters.length) = some As.length) (hR : rm.frames + 1 ≤ R.frames ∧ 8 + (maxL + 11) + rm.locals ≤ R.locals)
    (isC : List Nat) (hn : va_nd isC = true) (hC : isC.map (fun i => ws[i]?) = wc.map some) {ci q0 : Nat} {fs : List Value} {T : u_T} {N : Nat} (hc : ncl[ci]? = some (C, T, N)) (he : ws[q0]? = some (b, .inr (ci, fs))) (hst : st0 = As.reverse ++ .ref b :: rest) (h8 : (rest.map fun v => v.category).sum ≤ 8) (hdg : decode cc pc = .ok (.invokevirtual index, 3)) (hf : cells + rm.cells ≤ R.cells ∧ slots + rm.slots ≤ R.slots) :
    th_Run p l e R s m args below meth c H locs cells slots rm.cells rm.slots (F0 m pc ls st0) rest (Qc (Value.ref b :: As).toArray) free :=
  th_runV (Ts := []) (own := own) (C := C) (n := As.length) ⟨hx, hb, hml, hown, fun _ h => absurd h List.not_mem_nil⟩ hM ⟨wc_B hg k1 k4 k5 hd hR, k2 s args hg.1, k3 s args hg.1⟩ ⟨wP_blind, va_recv hK hP hc he, w_pre hg hlo hS hP hD isC hn hC⟩ rfl rfl hls hst (lv_room (m := m) (pc := pc) (ls := ls) (rest := st0) h8) hdg hf
theorem wt_runS (hx : p.tables.exec = Jvm.exec) (hb : c.code = cc) (hml : c.maxLocals = nL) (hown : s.vm.findClass own = some m.cls) (hls : ls.size = nL) (hg : gl s0 s) (hlo : ∀ q, A q → s0.heap.size ≤ q) (hP : va_P D ncl ws H) (hD : va_D A ws) (hS : va_S A s.heap H locs)
    (hM : th_Met l y [.code y bytes maxL ret] rm (wP s0 D As wc H.size) Qc rm.cells rm.slots free) (k1 : kw s0 (.methodLink own index y)) (k2 : kw s0 (.static y)) (k4 : kw s0 (.code y bytes maxL ret)) (k5 : kw s0 (.initialized y.cls))
    (hd : y.cls ≠ "java/lang/invoke/MethodHandle" ∧ y.cls ≠ "java/lang/invoke/VarHandle" ∧ (parseMethodDescriptor y.desc).map (fun d => d.parameters.length) = some As.length) (hR : rm.frames + 1 ≤ R.frames ∧ 8 + (maxL + 11) + rm.locals ≤ R.locals)
    (isC : List Nat) (hn : va_nd isC = true) (hC : isC.map (fun i => ws[i]?) = wc.map some) (hst : st0 = As.reverse ++ rest) (h8 : (rest.map fun v => v.category).sum ≤ 8) (hdg : decode cc pc = .ok (.invokestatic index, 3)) (hf : cells + rm.cells ≤ R.cells ∧ slots + rm.slots ≤ R.slots) :
    th_Run p l e R s m args below meth c H locs cells slots rm.cells rm.slots (F0 m pc ls st0) rest (Qc As.toArray) free :=
  th_runS (Ts := []) (own := own) (n := As.length) ⟨hx, hb, hml, hown, fun _ h => absurd h List.not_mem_nil⟩ hM ⟨wc_B hg k1 k4 k5 hd hR, k2 s args hg.1⟩ ⟨wP_blind, w_pre hg hlo hS hP hD isC hn hC⟩ rfl rfl hls hst (lv_room (m := m) (pc := pc) (ls := ls) (rest := st0) h8) hdg hf
end WC
section WD
variable {p : Program} {l : Launch} {e : Env} {R : Room} {s : State} {m : MethodId} {args : Array Value} {below : List Frame} {meth : Method} {c : Code} {H : Heap} {locs : List Loc} {cells slots : Nat} {Q : State → Prop}
variable {D : va_G} {A : Nat → Prop} {ws wc wr : va_W} {pc : Nat} {ls : Array Slot} {rest st0 : List Value} {a : Array Value} {mc ms : Nat} {S : Type} {wf : S → va_W} {Th : Nat → Heap → State → Prop}
theorem w_back {H1 : Heap} {u : S} {t : State} (hP : va_P D ncl ws H) (hD : va_D A ws) (hF : ∀ q, va_A wc H.size q → A q) (isC isR : List Nat) (hC : isC.map (fun i => ws[i]?) = wc.map some) (hRr : isR.map (fun i => ws[i]?) = wr.map some) (hnr : va_nd isR = true) (hdis : ∀ i ∈ isR, i ∉ isC) (wn : S → va_W) (pm : List Nat) (hpn : va_nd pm = true) (hpm : ∀ u, pm.map (fun i => (wr ++ wf u)[i]?) = (wn u).map some)
    (ht : t.heap = H1) (hB : wB D (va_A wc H.size) wf u t) (hk : ∀ q : Nat, q < H.size → ¬ va_A wc H.size q → H1[q]? = H[q]?) : va_P D ncl (wn u) H1 ∧ va_D A (wn u) := by
  obtain ⟨h1, h2⟩ := va_join (w1 := wf u) hP hD isC isR hC hRr hnr hdis hk hF (by rw [← ht]; exact hB.1) hB.2
  exact ⟨h1.sub pm (mp_fm pm (hpm u)), h2.sub pm hpn (hpm u)⟩
theorem w_calli {post : Int32 → S → Prop} (hr : va_Run p l e R s m args below meth c H locs cells slots mc ms (F0 m pc ls st0) rest (va_Qi post (wB D (va_A wc H.size) wf) (va_A wc H.size) a) (va_A wc H.size)) (hP : va_P D ncl ws H) (hD : va_D A ws) (hS : va_S A s.heap H locs) (hA : ∀ q, s.heap.size ≤ q → A q)
    (isC isR : List Nat) (hC : isC.map (fun i => ws[i]?) = wc.map some) (hRr : isR.map (fun i => ws[i]?) = wr.map some) (hnr : va_nd isR = true) (hdis : ∀ i ∈ isR, i ∉ isC) (wn : S → va_W) (pm : List Nat) (hpn : va_nd pm = true) (hpm : ∀ u, pm.map (fun i => (wr ++ wf u)[i]?) = (wn u).map some)
    (kk : ∀ (r : Int32) (u : S) (H1 : Heap) (locs1 : List Loc), post r u → va_P D ncl (wn u) H1 → va_D A (wn u) → va_S A s.heap H1 locs1 → W p l e R s m args below meth c H1 locs1 (cells + mc) (slots + ms) Q (F0 m (pc + 3) ls (.int r :: rest))) : W p l e R s m args below meth c H locs cells slots Q (F0 m pc ls st0) := by
  have hF := va_free (wc := wc) hD hS hA isC hC
  refine va_calli hr hS (fun q _ h => hF q h) hF (fun r u t H1 locs1 ht hvm hp hB hz hk hS1 => ?_)
  obtain ⟨h1, h2⟩ := w_back hP hD hF isC isR hC hRr hnr hdis wn pm hpn hpm ht hB hk
  exact kk r u H1 locs1 hp h1 h2 hS1
theorem w_calll {post : Int64 → S → Prop} (hr : va_Run p l e R s m args below meth c H locs cells slots mc ms (F0 m pc ls st0) rest (va_Ql post (wB D (va_A wc H.size) wf) (va_A wc H.size) a) (va_A wc H.size)) (hP : va_P D ncl ws H) (hD : va_D A ws) (hS : va_S A s.heap H locs) (hA : ∀ q, s.heap.size ≤ q → A q)
    (isC isR : List Nat) (hC : isC.map (fun i => ws[i]?) = wc.map some) (hRr : isR.map (fun i => ws[i]?) = wr.map some) (hnr : va_nd isR = true) (hdis : ∀ i ∈ isR, i ∉ isC) (wn : S → va_W) (pm : List Nat) (hpn : va_nd pm = true) (hpm : ∀ u, pm.map (fun i => (wr ++ wf u)[i]?) = (wn u).map some)
    (kk : ∀ (r : Int64) (u : S) (H1 : Heap) (locs1 : List Loc), post r u → va_P D ncl (wn u) H1 → va_D A (wn u) → va_S A s.heap H1 locs1 → W p l e R s m args below meth c H1 locs1 (cells + mc) (slots + ms) Q (F0 m (pc + 3) ls (.long r :: rest))) : W p l e R s m args below meth c H locs cells slots Q (F0 m pc ls st0) := by
  have hF := va_free (wc := wc) hD hS hA isC hC
  refine va_calll hr hS (fun q _ h => hF q h) hF (fun r u t H1 locs1 ht hvm hp hB hz hk hS1 => ?_)
  obtain ⟨h1, h2⟩ := w_back hP hD hF isC isR hC hRr hnr hdis wn pm hpn hpm ht hB hk
  exact kk r u H1 locs1 hp h1 h2 hS1
theorem w_callv {post : S → Prop} (hr : va_Run p l e R s m args below meth c H locs cells slots mc ms (F0 m pc ls st0) rest (va_Qv post (wB D (va_A wc H.size) wf) (va_A wc H.size) a) (va_A wc H.size)) (hP : va_P D ncl ws H) (hD : va_D A ws) (hS : va_S A s.heap H locs) (hA : ∀ q, s.heap.size ≤ q → A q)
    (isC isR : List Nat) (hC : isC.map (fun i => ws[i]?) = wc.map some) (hRr : isR.map (fun i => ws[i]?) = wr.map some) (hnr : va_nd isR = true) (hdis : ∀ i ∈ isR, i ∉ isC) (wn : S → va_W) (pm : List Nat) (hpn : va_nd pm = true) (hpm : ∀ u, pm.map (fun i => (wr ++ wf u)[i]?) = (wn u).map some)
    (kk : ∀ (u : S) (H1 : Heap) (locs1 : List Loc), post u → va_P D ncl (wn u) H1 → va_D A (wn u) → va_S A s.heap H1 locs1 → W p l e R s m args below meth c H1 locs1 (cells + mc) (slots + ms) Q (F0 m (pc + 3) ls rest)) : W p l e R s m args below meth c H locs cells slots Q (F0 m pc ls st0) := by
  have hF := va_free (wc := wc) hD hS hA isC hC
  refine va_callv hr hS (fun q _ h => hF q h) hF (fun u t H1 locs1 ht hvm hp hB hz hk hS1 => ?_)
  obtain ⟨h1, h2⟩ := w_back hP hD hF isC isR hC hRr hnr hdis wn pm hpn hpm ht hB hk
  exact kk u H1 locs1 hp h1 h2 hS1
end WD
end
section
/-! longs by the integers behind them; small rows -/
def lZ (z : Int) : Int64 := Int64.ofInt z
theorem lZ_toInt {z : Int} (h1 : -9000000000000000000 ≤ z) (h2 : z ≤ 9000000000000000000) : (lZ z).toInt = z := Int64.toInt_ofInt_of_le (by omega) (by omega)
theorem lZ_of (x : Int64) : lZ x.toInt = x := Int64.ofInt_toInt x
theorem lZ_nat (n : Nat) : lZ (n : Int) = lN n := Int64.ofInt_eq_ofNat
theorem lZ_add (a b : Int) : lZ a + lZ b = lZ (a + b) := (Int64.ofInt_add a b).symm
theorem lZ_sub (a b : Int) : lZ a - lZ b = lZ (a - b) := (Int64.ofInt_sub a b).symm
theorem lZ_mul (a b : Int) : lZ a * lZ b = lZ (a * b) := (Int64.ofInt_mul a b).symm
theorem lZ_neg (a : Int) : -lZ a = lZ (-a) := (Int64.ofInt_neg a).symm
theorem lZ_lt {a b : Int} (a1 : -9000000000000000000 ≤ a) (a2 : a ≤ 9000000000000000000) (b1 : -9000000000000000000 ≤ b) (b2 : b ≤ 9000000000000000000) : lZ a < lZ b ↔ a < b := by
  rw [Int64.lt_iff_toInt_lt, lZ_toInt a1 a2, lZ_toInt b1 b2]
theorem lZ_le {a b : Int} (a1 : -9000000000000000000 ≤ a) (a2 : a ≤ 9000000000000000000) (b1 : -9000000000000000000 ≤ b) (b2 : b ≤ 9000000000000000000) : lZ a ≤ lZ b ↔ a ≤ b := by
  rw [Int64.le_iff_toInt_le, lZ_toInt a1 a2, lZ_toInt b1 b2]
theorem lZ_eq {a b : Int} (a1 : -9000000000000000000 ≤ a) (a2 : a ≤ 9000000000000000000) (b1 : -9000000000000000000 ≤ b) (b2 : b ≤ 9000000000000000000) : lZ a = lZ b ↔ a = b := by
  rw [← Int64.toInt_inj, lZ_toInt a1 a2, lZ_toInt b1 b2]
theorem lZ_div {a b : Int} (a1 : 0 ≤ a) (a2 : a ≤ 9000000000000000000) (b1 : 0 < b) (b2 : b ≤ 9000000000000000000) : lZ a / lZ b = lZ (a / b) := by
  obtain ⟨n, rfl⟩ := Int.eq_ofNat_of_zero_le a1
  obtain ⟨m, rfl⟩ := Int.eq_ofNat_of_zero_le (Int.le_of_lt b1)
  rw [lZ_nat, lZ_nat, pk_lDiv (by omega) (by omega) (by omega), ← lZ_nat, Int.natCast_ediv]
theorem iN_i2l {n : Nat} (h : n < 2 ^ 31) : (nI n).toInt64 = lZ n := by rw [nI_l h, lZ_nat]
theorem nI_sub {a b : Nat} (h : b ≤ a) : nI a - nI b = nI (a - b) := pk_sub h
theorem up_s {α : Type} (f : Nat → α) (k : Nat) (v : α) : va_up f k v k = v := by simp [va_up]
theorem up_n {α : Type} (f : Nat → α) {k j : Nat} (v : α) (h : j ≠ k) : va_up f k v j = f j := by simp [va_up, h]
theorem upd_s (f : Nat → Int32) (k : Nat) (v : Int32) : upd f k v k = v := pk_us
theorem upd_n (f : Nat → Int32) {k j : Nat} (v : Int32) (h : j ≠ k) : upd f k v j = f j := pk_un h
theorem updL_s (f : Nat → Int64) (k : Nat) (v : Int64) : vp_updL f k v k = v := pk_uLs
theorem updL_n (f : Nat → Int64) {k j : Nat} (v : Int64) (h : j ≠ k) : vp_updL f k v j = f j := pk_uLn h
theorem mmin_n {a b : Nat} (ha : a < 2 ^ 31) (hb : b < 2 ^ 31) : (if nI b < nI a then nI b else nI a) = nI (min a b) := by
  by_cases h : b < a
  · rw [if_pos ((nI_ltI hb ha).mpr h), Nat.min_eq_right (by omega)]
  · rw [if_neg (fun q => h ((nI_ltI hb ha).mp q)), Nat.min_eq_left (by omega)]
theorem mmax_n {a b : Nat} (ha : a < 2 ^ 31) (hb : b < 2 ^ 31) : (if nI a < nI b then nI b else nI a) = nI (max a b) := by
  by_cases h : a < b
  · rw [if_pos ((nI_ltI ha hb).mpr h), Nat.max_eq_right (by omega)]
  · rw [if_neg (fun q => h ((nI_ltI ha hb).mp q)), Nat.max_eq_left (by omega)]
end
section
/-! the search, pure: rows as (kind, copies taken) -/
def sr_cop (c : List (Nat × Nat)) : Nat := (c.map (fun r => r.2)).sum
def sr_bet (c b : List (Nat × Nat)) : Bool := decide (sr_cop b < sr_cop c) || (decide (sr_cop c = sr_cop b) && decide (c.length < b.length))
def sr_keep (b c : List (Nat × Nat)) : List (Nat × Nat) := if sr_bet c b = true then c else b
/-- all rows behind what is laid, the lower kinds first, a row ahead of what is laid upon it -/
def sr_cands (room : Nat → Nat) (hi : Nat → Int) (gap : Int) : Nat → Nat → Int → (Nat → Nat) → List (List (Nat × Nat))
  | 0, _, _, _ => []
  | f + 1, first, free, wl => (List.range' first (8 - first)).flatMap (fun k =>
      if 0 < min (room k) (wl (k / 2)) ∧ hi k ≤ free then
        [(k, min (room k) (wl (k / 2)))] :: (sr_cands room hi gap f k (free - hi k - gap) (va_up wl (k / 2) (wl (k / 2) - min (room k) (wl (k / 2))))).map (fun c => (k, min (room k) (wl (k / 2))) :: c)
      else [])
/-- the search as the class does it: with what it leaves out -/
def sr_try (room : Nat → Nat) (hi : Nat → Int) (gap : Int) (mr : Nat) : Nat → List (Nat × Nat) → Nat → Int → (Nat → Nat) → List (Nat × Nat) → List (Nat × Nat)
  | 0, _, _, _, _, best => best
  | f + 1, pre, first, free, wl, best =>
    if sr_cop pre + (f + 1) * mr ≤ sr_cop best then best else
      (List.range' first (8 - first)).foldl (fun b k =>
        if 0 < min (room k) (wl (k / 2)) ∧ hi k ≤ free then
          sr_try room hi gap mr f (pre ++ [(k, min (room k) (wl (k / 2)))]) k (free - hi k - gap) (va_up wl (k / 2) (wl (k / 2) - min (room k) (wl (k / 2)))) (sr_keep b (pre ++ [(k, min (room k) (wl (k / 2)))]))
        else b) best
theorem sr_cop_app (a b : List (Nat × Nat)) : sr_cop (a ++ b) = sr_cop a + sr_cop b := by
  simp [sr_cop]
theorem sr_cands_spec (room : Nat → Nat) (hi : Nat → Int) (gap : Int) (mr : Nat) (hmr : ∀ k, room k ≤ mr) : ∀ (f first : Nat) (free : Int) (wl : Nat → Nat) (c : List (Nat × Nat)), c ∈ sr_cands room hi gap f first free wl → 1 ≤ c.length ∧ c.length ≤ f ∧ sr_cop c ≤ c.length * mr ∧ c.length ≤ sr_cop c := by
  intro f
  induction f with
  | zero => intro first free wl c h; simp [sr_cands] at h
  | succ f ih =>
    intro first free wl c h
    simp only [sr_cands, List.mem_flatMap] at h
    obtain ⟨k, -, h⟩ := h
    split at h
    · rcases List.mem_cons.mp h with rfl | h
      · rename_i hk
        have := hmr k
        refine ⟨by simp, by simp, ?_, ?_⟩ <;> simp [sr_cop] <;> omega
      · obtain ⟨d, hd, rfl⟩ := List.mem_map.mp h
        rename_i hk
        obtain ⟨h1, h2, h3, h4⟩ := ih _ _ _ _ hd
        have := hmr k
        have e : sr_cop ((k, min (room k) (wl (k / 2))) :: d) = min (room k) (wl (k / 2)) + sr_cop d := by simp [sr_cop]
        refine ⟨by simp, by simp; omega, ?_, ?_⟩
        · rw [e, List.length_cons, Nat.succ_mul]
          omega
        · rw [e, List.length_cons]
          omega
    · simp at h
theorem sr_fold_same {α : Type} (l : List α) (g : α → List (Nat × Nat)) (best : List (Nat × Nat)) (h : ∀ c ∈ l, sr_bet (g c) best = false) : l.foldl (fun b c => sr_keep b (g c)) best = best := by
  induction l with
  | nil => rfl
  | cons c l ih =>
    rw [List.foldl_cons]
    have h1 : sr_keep best (g c) = best := by simp [sr_keep, h c List.mem_cons_self]
    rw [h1]
    exact ih (fun d hd => h d (List.mem_cons_of_mem _ hd))
theorem sr_keep_len {b c : List (Nat × Nat)} {n : Nat} (hb : b.length ≤ n) (hc : c.length ≤ n) : (sr_keep b c).length ≤ n := by
  unfold sr_keep; split <;> assumption
theorem sr_fold_len {α : Type} (l : List α) (g : α → List (Nat × Nat)) (n : Nat) : ∀ (best : List (Nat × Nat)), best.length ≤ n → (∀ c ∈ l, (g c).length ≤ n) → (l.foldl (fun b c => sr_keep b (g c)) best).length ≤ n := by
  induction l with
  | nil => intro best h _; exact h
  | cons c l ih =>
    intro best h hc
    rw [List.foldl_cons]
    exact ih _ (sr_keep_len h (hc c List.mem_cons_self)) (fun d hd => hc d (List.mem_cons_of_mem _ hd))
theorem sr_foldl_inv {α β : Type} (P : β → Prop) (f g : β → α → β) : ∀ (l : List α) (b : β), P b → (∀ b x, x ∈ l → P b → f b x = g b x ∧ P (g b x)) → l.foldl f b = l.foldl g b := by
  intro l
  induction l with
  | nil => intro b _ _; rfl
  | cons x l ih =>
    intro b hb h
    obtain ⟨h1, h2⟩ := h b x List.mem_cons_self hb
    rw [List.foldl_cons, List.foldl_cons, h1]
    exact ih _ h2 (fun b y hy => h b y (List.mem_cons_of_mem _ hy))
/-- what is left out changes nothing -/
theorem sr_try_eq (room : Nat → Nat) (hi : Nat → Int) (gap : Int) (mr : Nat) (hmr : ∀ k, room k ≤ mr) : ∀ (f : Nat) (pre : List (Nat × Nat)) (first : Nat) (free : Int) (wl : Nat → Nat) (best : List (Nat × Nat)), best.length ≤ pre.length + f →
    sr_try room hi gap mr f pre first free wl best = (sr_cands room hi gap f first free wl).foldl (fun b c => sr_keep b (pre ++ c)) best := by
  intro f
  induction f with
  | zero => intro pre first free wl best _; simp [sr_try, sr_cands]
  | succ f ih =>
    intro pre first free wl best hb
    have hspec := sr_cands_spec room hi gap mr hmr (f + 1) first free wl
    rw [sr_try]
    split
    · rename_i hcut
      symm
      apply sr_fold_same
      intro c hc
      obtain ⟨h1, h2, h3, h5⟩ := hspec c hc
      have h4 : c.length * mr ≤ (f + 1) * mr := Nat.mul_le_mul_right mr h2
      simp only [sr_bet, sr_cop_app, List.length_append, Bool.or_eq_false_iff, decide_eq_false_iff_not, Bool.and_eq_false_iff]
      refine ⟨by omega, ?_⟩
      by_cases hl : c.length = f + 1
      · right; omega
      · left
        have hm : 0 < mr := by
          rcases Nat.eq_zero_or_pos mr with h | h
          · rw [h, Nat.mul_zero] at h3; omega
          · exact h
        have : c.length * mr < (f + 1) * mr := (Nat.mul_lt_mul_right hm).mpr (by omega)
        omega
    · rw [sr_cands, List.foldl_flatMap]
      refine sr_foldl_inv (fun b => b.length ≤ pre.length + (f + 1)) _ _ _ _ hb ?_
      intro b k _ hbl
      split
      · rename_i hk
        have hpl : (pre ++ [(k, min (room k) (wl (k / 2)))]).length = pre.length + 1 := by simp
        have hb1 : (sr_keep b (pre ++ [(k, min (room k) (wl (k / 2)))])).length ≤ pre.length + (f + 1) := sr_keep_len hbl (by rw [hpl]; omega)
        rw [List.foldl_cons, List.foldl_map, ih _ _ _ _ _ (by rw [hpl]; omega)]
        refine ⟨by simp, ?_⟩
        have := sr_fold_len (sr_cands room hi gap f k (free - hi k - gap) (va_up wl (k / 2) (wl (k / 2) - min (room k) (wl (k / 2))))) (fun c => pre ++ (k, min (room k) (wl (k / 2))) :: c) (pre.length + (f + 1)) _ hb1 (fun c hc => by
          obtain ⟨-, h2, -⟩ := sr_cands_spec room hi gap mr hmr f k _ _ c hc
          simp; omega)
        exact this
      · exact ⟨by simp, by simpa using hbl⟩
end
section
theorem d_B_init_0 : decode c_B_init 0 = .ok (.aload_n 0, 1) := by decide +kernel
theorem d_B_init_1 : decode c_B_init 1 = .ok (.invokespecial 3, 3) := by decide +kernel
theorem d_B_init_4 : decode c_B_init 4 = .ok (.aload_n 0, 1) := by decide +kernel
theorem d_B_init_5 : decode c_B_init 5 = .ok (.bipush 12, 2) := by decide +kernel
theorem d_B_init_7 : decode c_B_init 7 = .ok (.newarray .long, 2) := by decide +kernel
theorem d_B_init_9 : decode c_B_init 9 = .ok (.putfield 9, 3) := by decide +kernel
theorem d_B_init_12 : decode c_B_init 12 = .ok (.aload_n 0, 1) := by decide +kernel
theorem d_B_init_13 : decode c_B_init 13 = .ok (.bipush 12, 2) := by decide +kernel
theorem d_B_init_15 : decode c_B_init 15 = .ok (.newarray .long, 2) := by decide +kernel
theorem d_B_init_17 : decode c_B_init 17 = .ok (.putfield 15, 3) := by decide +kernel
theorem d_B_init_20 : decode c_B_init 20 = .ok (.aload_n 0, 1) := by decide +kernel
theorem d_B_init_21 : decode c_B_init 21 = .ok (.bipush 10, 2) := by decide +kernel
theorem d_B_init_23 : decode c_B_init 23 = .ok (.newarray .long, 2) := by decide +kernel
theorem d_B_init_25 : decode c_B_init 25 = .ok (.putfield 18, 3) := by decide +kernel
theorem d_B_init_28 : decode c_B_init 28 = .ok (.aload_n 0, 1) := by decide +kernel
theorem d_B_init_29 : decode c_B_init 29 = .ok (.bipush 10, 2) := by decide +kernel
theorem d_B_init_31 : decode c_B_init 31 = .ok (.newarray .long, 2) := by decide +kernel
theorem d_B_init_33 : decode c_B_init 33 = .ok (.putfield 21, 3) := by decide +kernel
theorem d_B_init_36 : decode c_B_init 36 = .ok (.aload_n 0, 1) := by decide +kernel
theorem d_B_init_37 : decode c_B_init 37 = .ok (.bipush 10, 2) := by decide +kernel
theorem d_B_init_39 : decode c_B_init 39 = .ok (.newarray .long, 2) := by decide +kernel
theorem d_B_init_41 : decode c_B_init 41 = .ok (.putfield 24, 3) := by decide +kernel
theorem d_B_init_44 : decode c_B_init 44 = .ok (.aload_n 0, 1) := by decide +kernel
theorem d_B_init_45 : decode c_B_init 45 = .ok (.sipush 200, 3) := by decide +kernel
theorem d_B_init_48 : decode c_B_init 48 = .ok (.putfield 27, 3) := by decide +kernel
theorem d_B_init_51 : decode c_B_init 51 = .ok (.return_, 1) := by decide +kernel
theorem d_B_addCorner_0 : decode c_B_addCorner 0 = .ok (.aload_n 0, 1) := by decide +kernel
theorem d_B_addCorner_1 : decode c_B_addCorner 1 = .ok (.getfield 31, 3) := by decide +kernel
theorem d_B_addCorner_4 : decode c_B_addCorner 4 = .ok (.bipush 12, 2) := by decide +kernel
theorem d_B_addCorner_6 : decode c_B_addCorner 6 = .ok (.if_icmp .lt 5, 3) := by decide +kernel
theorem d_B_addCorner_9 : decode c_B_addCorner 9 = .ok (.iconst 0, 1) := by decide +kernel
theorem d_B_addCorner_10 : decode c_B_addCorner 10 = .ok (.ireturn, 1) := by decide +kernel
theorem d_B_addCorner_11 : decode c_B_addCorner 11 = .ok (.aload_n 0, 1) := by decide +kernel
theorem d_B_addCorner_12 : decode c_B_addCorner 12 = .ok (.aload_n 0, 1) := by decide +kernel
theorem d_B_addCorner_13 : decode c_B_addCorner 13 = .ok (.getfield 31, 3) := by decide +kernel
theorem d_B_addCorner_16 : decode c_B_addCorner 16 = .ok (.ifCond .ne 7, 3) := by decide +kernel
theorem d_B_addCorner_19 : decode c_B_addCorner 19 = .ok (.lload_n 1, 1) := by decide +kernel
theorem d_B_addCorner_20 : decode c_B_addCorner 20 = .ok (.goto 11, 3) := by decide +kernel
theorem d_B_addCorner_23 : decode c_B_addCorner 23 = .ok (.aload_n 0, 1) := by decide +kernel
theorem d_B_addCorner_24 : decode c_B_addCorner 24 = .ok (.getfield 34, 3) := by decide +kernel
theorem d_B_addCorner_27 : decode c_B_addCorner 27 = .ok (.lload_n 1, 1) := by decide +kernel
theorem d_B_addCorner_28 : decode c_B_addCorner 28 = .ok (.invokestatic 38, 3) := by decide +kernel
theorem d_B_addCorner_31 : decode c_B_addCorner 31 = .ok (.putfield 34, 3) := by decide +kernel
theorem d_B_addCorner_34 : decode c_B_addCorner 34 = .ok (.aload_n 0, 1) := by decide +kernel
theorem d_B_addCorner_35 : decode c_B_addCorner 35 = .ok (.aload_n 0, 1) := by decide +kernel
theorem d_B_addCorner_36 : decode c_B_addCorner 36 = .ok (.getfield 31, 3) := by decide +kernel
theorem d_B_addCorner_39 : decode c_B_addCorner 39 = .ok (.ifCond .ne 7, 3) := by decide +kernel
theorem d_B_addCorner_42 : decode c_B_addCorner 42 = .ok (.lload_n 3, 1) := by decide +kernel
theorem d_B_addCorner_43 : decode c_B_addCorner 43 = .ok (.goto 11, 3) := by decide +kernel
theorem d_B_addCorner_46 : decode c_B_addCorner 46 = .ok (.aload_n 0, 1) := by decide +kernel
theorem d_B_addCorner_47 : decode c_B_addCorner 47 = .ok (.getfield 44, 3) := by decide +kernel
theorem d_B_addCorner_50 : decode c_B_addCorner 50 = .ok (.lload_n 3, 1) := by decide +kernel
theorem d_B_addCorner_51 : decode c_B_addCorner 51 = .ok (.invokestatic 38, 3) := by decide +kernel
theorem d_B_addCorner_54 : decode c_B_addCorner 54 = .ok (.putfield 44, 3) := by decide +kernel
theorem d_B_addCorner_57 : decode c_B_addCorner 57 = .ok (.aload_n 0, 1) := by decide +kernel
theorem d_B_addCorner_58 : decode c_B_addCorner 58 = .ok (.aload_n 0, 1) := by decide +kernel
theorem d_B_addCorner_59 : decode c_B_addCorner 59 = .ok (.getfield 31, 3) := by decide +kernel
theorem d_B_addCorner_62 : decode c_B_addCorner 62 = .ok (.ifCond .ne 7, 3) := by decide +kernel
theorem d_B_addCorner_65 : decode c_B_addCorner 65 = .ok (.lload_n 1, 1) := by decide +kernel
theorem d_B_addCorner_66 : decode c_B_addCorner 66 = .ok (.goto 11, 3) := by decide +kernel
theorem d_B_addCorner_69 : decode c_B_addCorner 69 = .ok (.aload_n 0, 1) := by decide +kernel
theorem d_B_addCorner_70 : decode c_B_addCorner 70 = .ok (.getfield 47, 3) := by decide +kernel
theorem d_B_addCorner_73 : decode c_B_addCorner 73 = .ok (.lload_n 1, 1) := by decide +kernel
theorem d_B_addCorner_74 : decode c_B_addCorner 74 = .ok (.invokestatic 50, 3) := by decide +kernel
theorem d_B_addCorner_77 : decode c_B_addCorner 77 = .ok (.putfield 47, 3) := by decide +kernel
theorem d_B_addCorner_80 : decode c_B_addCorner 80 = .ok (.aload_n 0, 1) := by decide +kernel
theorem d_B_addCorner_81 : decode c_B_addCorner 81 = .ok (.aload_n 0, 1) := by decide +kernel
theorem d_B_addCorner_82 : decode c_B_addCorner 82 = .ok (.getfield 31, 3) := by decide +kernel
theorem d_B_addCorner_85 : decode c_B_addCorner 85 = .ok (.ifCond .ne 7, 3) := by decide +kernel
theorem d_B_addCorner_88 : decode c_B_addCorner 88 = .ok (.lload_n 3, 1) := by decide +kernel
theorem d_B_addCorner_89 : decode c_B_addCorner 89 = .ok (.goto 11, 3) := by decide +kernel
theorem d_B_addCorner_92 : decode c_B_addCorner 92 = .ok (.aload_n 0, 1) := by decide +kernel
theorem d_B_addCorner_93 : decode c_B_addCorner 93 = .ok (.getfield 53, 3) := by decide +kernel
theorem d_B_addCorner_96 : decode c_B_addCorner 96 = .ok (.lload_n 3, 1) := by decide +kernel
theorem d_B_addCorner_97 : decode c_B_addCorner 97 = .ok (.invokestatic 50, 3) := by decide +kernel
theorem d_B_addCorner_100 : decode c_B_addCorner 100 = .ok (.putfield 53, 3) := by decide +kernel
theorem d_B_addCorner_103 : decode c_B_addCorner 103 = .ok (.aload_n 0, 1) := by decide +kernel
theorem d_B_addCorner_104 : decode c_B_addCorner 104 = .ok (.getfield 9, 3) := by decide +kernel
theorem d_B_addCorner_107 : decode c_B_addCorner 107 = .ok (.aload_n 0, 1) := by decide +kernel
theorem d_B_addCorner_108 : decode c_B_addCorner 108 = .ok (.getfield 31, 3) := by decide +kernel
theorem d_B_addCorner_111 : decode c_B_addCorner 111 = .ok (.lload_n 1, 1) := by decide +kernel
theorem d_B_addCorner_112 : decode c_B_addCorner 112 = .ok (.lastore, 1) := by decide +kernel
theorem d_B_addCorner_113 : decode c_B_addCorner 113 = .ok (.aload_n 0, 1) := by decide +kernel
theorem d_B_addCorner_114 : decode c_B_addCorner 114 = .ok (.getfield 15, 3) := by decide +kernel
theorem d_B_addCorner_117 : decode c_B_addCorner 117 = .ok (.aload_n 0, 1) := by decide +kernel
theorem d_B_addCorner_118 : decode c_B_addCorner 118 = .ok (.getfield 31, 3) := by decide +kernel
theorem d_B_addCorner_121 : decode c_B_addCorner 121 = .ok (.lload_n 3, 1) := by decide +kernel
theorem d_B_addCorner_122 : decode c_B_addCorner 122 = .ok (.lastore, 1) := by decide +kernel
theorem d_B_addCorner_123 : decode c_B_addCorner 123 = .ok (.aload_n 0, 1) := by decide +kernel
theorem d_B_addCorner_124 : decode c_B_addCorner 124 = .ok (.dup, 1) := by decide +kernel
theorem d_B_addCorner_125 : decode c_B_addCorner 125 = .ok (.getfield 31, 3) := by decide +kernel
theorem d_B_addCorner_128 : decode c_B_addCorner 128 = .ok (.iconst 1, 1) := by decide +kernel
theorem d_B_addCorner_129 : decode c_B_addCorner 129 = .ok (.iadd, 1) := by decide +kernel
theorem d_B_addCorner_130 : decode c_B_addCorner 130 = .ok (.putfield 31, 3) := by decide +kernel
theorem d_B_addCorner_133 : decode c_B_addCorner 133 = .ok (.iconst 1, 1) := by decide +kernel
theorem d_B_addCorner_134 : decode c_B_addCorner 134 = .ok (.ireturn, 1) := by decide +kernel
theorem d_B_addPart_0 : decode c_B_addPart 0 = .ok (.aload_n 0, 1) := by decide +kernel
theorem d_B_addPart_1 : decode c_B_addPart 1 = .ok (.getfield 56, 3) := by decide +kernel
theorem d_B_addPart_4 : decode c_B_addPart 4 = .ok (.bipush 10, 2) := by decide +kernel
theorem d_B_addPart_6 : decode c_B_addPart 6 = .ok (.if_icmp .lt 5, 3) := by decide +kernel
theorem d_B_addPart_9 : decode c_B_addPart 9 = .ok (.iconst 0, 1) := by decide +kernel
theorem d_B_addPart_10 : decode c_B_addPart 10 = .ok (.ireturn, 1) := by decide +kernel
theorem d_B_addPart_11 : decode c_B_addPart 11 = .ok (.aload_n 0, 1) := by decide +kernel
theorem d_B_addPart_12 : decode c_B_addPart 12 = .ok (.getfield 18, 3) := by decide +kernel
theorem d_B_addPart_15 : decode c_B_addPart 15 = .ok (.aload_n 0, 1) := by decide +kernel
theorem d_B_addPart_16 : decode c_B_addPart 16 = .ok (.getfield 56, 3) := by decide +kernel
theorem d_B_addPart_19 : decode c_B_addPart 19 = .ok (.lload_n 1, 1) := by decide +kernel
theorem d_B_addPart_20 : decode c_B_addPart 20 = .ok (.lastore, 1) := by decide +kernel
theorem d_B_addPart_21 : decode c_B_addPart 21 = .ok (.aload_n 0, 1) := by decide +kernel
theorem d_B_addPart_22 : decode c_B_addPart 22 = .ok (.getfield 21, 3) := by decide +kernel
theorem d_B_addPart_25 : decode c_B_addPart 25 = .ok (.aload_n 0, 1) := by decide +kernel
theorem d_B_addPart_26 : decode c_B_addPart 26 = .ok (.getfield 56, 3) := by decide +kernel
theorem d_B_addPart_29 : decode c_B_addPart 29 = .ok (.lload_n 3, 1) := by decide +kernel
theorem d_B_addPart_30 : decode c_B_addPart 30 = .ok (.lastore, 1) := by decide +kernel
theorem d_B_addPart_31 : decode c_B_addPart 31 = .ok (.aload_n 0, 1) := by decide +kernel
theorem d_B_addPart_32 : decode c_B_addPart 32 = .ok (.getfield 24, 3) := by decide +kernel
theorem d_B_addPart_35 : decode c_B_addPart 35 = .ok (.aload_n 0, 1) := by decide +kernel
theorem d_B_addPart_36 : decode c_B_addPart 36 = .ok (.getfield 56, 3) := by decide +kernel
theorem d_B_addPart_39 : decode c_B_addPart 39 = .ok (.lload 5, 2) := by decide +kernel
theorem d_B_addPart_41 : decode c_B_addPart 41 = .ok (.lastore, 1) := by decide +kernel
theorem d_B_addPart_42 : decode c_B_addPart 42 = .ok (.aload_n 0, 1) := by decide +kernel
theorem d_B_addPart_43 : decode c_B_addPart 43 = .ok (.dup, 1) := by decide +kernel
theorem d_B_addPart_44 : decode c_B_addPart 44 = .ok (.getfield 56, 3) := by decide +kernel
theorem d_B_addPart_47 : decode c_B_addPart 47 = .ok (.iconst 1, 1) := by decide +kernel
theorem d_B_addPart_48 : decode c_B_addPart 48 = .ok (.iadd, 1) := by decide +kernel
theorem d_B_addPart_49 : decode c_B_addPart 49 = .ok (.putfield 56, 3) := by decide +kernel
theorem d_B_addPart_52 : decode c_B_addPart 52 = .ok (.iconst 1, 1) := by decide +kernel
theorem d_B_addPart_53 : decode c_B_addPart 53 = .ok (.ireturn, 1) := by decide +kernel
theorem d_B_hasArea_0 : decode c_B_hasArea 0 = .ok (.aload_n 0, 1) := by decide +kernel
theorem d_B_hasArea_1 : decode c_B_hasArea 1 = .ok (.getfield 47, 3) := by decide +kernel
theorem d_B_hasArea_4 : decode c_B_hasArea 4 = .ok (.aload_n 0, 1) := by decide +kernel
theorem d_B_hasArea_5 : decode c_B_hasArea 5 = .ok (.getfield 34, 3) := by decide +kernel
theorem d_B_hasArea_8 : decode c_B_hasArea 8 = .ok (.lcmp, 1) := by decide +kernel
theorem d_B_hasArea_9 : decode c_B_hasArea 9 = .ok (.ifCond .le 19, 3) := by decide +kernel
theorem d_B_hasArea_12 : decode c_B_hasArea 12 = .ok (.aload_n 0, 1) := by decide +kernel
theorem d_B_hasArea_13 : decode c_B_hasArea 13 = .ok (.getfield 53, 3) := by decide +kernel
theorem d_B_hasArea_16 : decode c_B_hasArea 16 = .ok (.aload_n 0, 1) := by decide +kernel
theorem d_B_hasArea_17 : decode c_B_hasArea 17 = .ok (.getfield 44, 3) := by decide +kernel
theorem d_B_hasArea_20 : decode c_B_hasArea 20 = .ok (.lcmp, 1) := by decide +kernel
theorem d_B_hasArea_21 : decode c_B_hasArea 21 = .ok (.ifCond .le 7, 3) := by decide +kernel
theorem d_B_hasArea_24 : decode c_B_hasArea 24 = .ok (.iconst 1, 1) := by decide +kernel
theorem d_B_hasArea_25 : decode c_B_hasArea 25 = .ok (.goto 4, 3) := by decide +kernel
theorem d_B_hasArea_28 : decode c_B_hasArea 28 = .ok (.iconst 0, 1) := by decide +kernel
theorem d_B_hasArea_29 : decode c_B_hasArea 29 = .ok (.ireturn, 1) := by decide +kernel
theorem d_B_wide_0 : decode c_B_wide 0 = .ok (.iload_n 1, 1) := by decide +kernel
theorem d_B_wide_1 : decode c_B_wide 1 = .ok (.ifCond .ne 15, 3) := by decide +kernel
theorem d_B_wide_4 : decode c_B_wide 4 = .ok (.aload_n 0, 1) := by decide +kernel
theorem d_B_wide_5 : decode c_B_wide 5 = .ok (.getfield 47, 3) := by decide +kernel
theorem d_B_wide_8 : decode c_B_wide 8 = .ok (.aload_n 0, 1) := by decide +kernel
theorem d_B_wide_9 : decode c_B_wide 9 = .ok (.getfield 34, 3) := by decide +kernel
theorem d_B_wide_12 : decode c_B_wide 12 = .ok (.lsub, 1) := by decide +kernel
theorem d_B_wide_13 : decode c_B_wide 13 = .ok (.goto 12, 3) := by decide +kernel
theorem d_B_wide_16 : decode c_B_wide 16 = .ok (.aload_n 0, 1) := by decide +kernel
theorem d_B_wide_17 : decode c_B_wide 17 = .ok (.getfield 53, 3) := by decide +kernel
theorem d_B_wide_20 : decode c_B_wide 20 = .ok (.aload_n 0, 1) := by decide +kernel
theorem d_B_wide_21 : decode c_B_wide 21 = .ok (.getfield 44, 3) := by decide +kernel
theorem d_B_wide_24 : decode c_B_wide 24 = .ok (.lsub, 1) := by decide +kernel
theorem d_B_wide_25 : decode c_B_wide 25 = .ok (.lreturn, 1) := by decide +kernel
theorem d_B_high_0 : decode c_B_high 0 = .ok (.iload_n 1, 1) := by decide +kernel
theorem d_B_high_1 : decode c_B_high 1 = .ok (.ifCond .ne 15, 3) := by decide +kernel
theorem d_B_high_4 : decode c_B_high 4 = .ok (.aload_n 0, 1) := by decide +kernel
theorem d_B_high_5 : decode c_B_high 5 = .ok (.getfield 53, 3) := by decide +kernel
theorem d_B_high_8 : decode c_B_high 8 = .ok (.aload_n 0, 1) := by decide +kernel
theorem d_B_high_9 : decode c_B_high 9 = .ok (.getfield 44, 3) := by decide +kernel
theorem d_B_high_12 : decode c_B_high 12 = .ok (.lsub, 1) := by decide +kernel
theorem d_B_high_13 : decode c_B_high 13 = .ok (.goto 12, 3) := by decide +kernel
theorem d_B_high_16 : decode c_B_high 16 = .ok (.aload_n 0, 1) := by decide +kernel
theorem d_B_high_17 : decode c_B_high 17 = .ok (.getfield 47, 3) := by decide +kernel
theorem d_B_high_20 : decode c_B_high 20 = .ok (.aload_n 0, 1) := by decide +kernel
theorem d_B_high_21 : decode c_B_high 21 = .ok (.getfield 34, 3) := by decide +kernel
theorem d_B_high_24 : decode c_B_high 24 = .ok (.lsub, 1) := by decide +kernel
theorem d_B_high_25 : decode c_B_high 25 = .ok (.lreturn, 1) := by decide +kernel
theorem d_B_hasPartNear_0 : decode c_B_hasPartNear 0 = .ok (.iconst 0, 1) := by decide +kernel
theorem d_B_hasPartNear_1 : decode c_B_hasPartNear 1 = .ok (.istore 6, 2) := by decide +kernel
theorem d_B_hasPartNear_3 : decode c_B_hasPartNear 3 = .ok (.iload 6, 2) := by decide +kernel
theorem d_B_hasPartNear_5 : decode c_B_hasPartNear 5 = .ok (.aload_n 0, 1) := by decide +kernel
theorem d_B_hasPartNear_6 : decode c_B_hasPartNear 6 = .ok (.getfield 56, 3) := by decide +kernel
theorem d_B_hasPartNear_9 : decode c_B_hasPartNear 9 = .ok (.if_icmp .ge 107, 3) := by decide +kernel
theorem d_B_hasPartNear_12 : decode c_B_hasPartNear 12 = .ok (.aload_n 0, 1) := by decide +kernel
theorem d_B_hasPartNear_13 : decode c_B_hasPartNear 13 = .ok (.getfield 18, 3) := by decide +kernel
theorem d_B_hasPartNear_16 : decode c_B_hasPartNear 16 = .ok (.iload 6, 2) := by decide +kernel
theorem d_B_hasPartNear_18 : decode c_B_hasPartNear 18 = .ok (.laload, 1) := by decide +kernel
theorem d_B_hasPartNear_19 : decode c_B_hasPartNear 19 = .ok (.aload_n 0, 1) := by decide +kernel
theorem d_B_hasPartNear_20 : decode c_B_hasPartNear 20 = .ok (.getfield 34, 3) := by decide +kernel
theorem d_B_hasPartNear_23 : decode c_B_hasPartNear 23 = .ok (.lsub, 1) := by decide +kernel
theorem d_B_hasPartNear_24 : decode c_B_hasPartNear 24 = .ok (.lstore 7, 2) := by decide +kernel
theorem d_B_hasPartNear_26 : decode c_B_hasPartNear 26 = .ok (.aload_n 0, 1) := by decide +kernel
theorem d_B_hasPartNear_27 : decode c_B_hasPartNear 27 = .ok (.getfield 21, 3) := by decide +kernel
theorem d_B_hasPartNear_30 : decode c_B_hasPartNear 30 = .ok (.iload 6, 2) := by decide +kernel
theorem d_B_hasPartNear_32 : decode c_B_hasPartNear 32 = .ok (.laload, 1) := by decide +kernel
theorem d_B_hasPartNear_33 : decode c_B_hasPartNear 33 = .ok (.aload_n 0, 1) := by decide +kernel
theorem d_B_hasPartNear_34 : decode c_B_hasPartNear 34 = .ok (.getfield 44, 3) := by decide +kernel
theorem d_B_hasPartNear_37 : decode c_B_hasPartNear 37 = .ok (.lsub, 1) := by decide +kernel
theorem d_B_hasPartNear_38 : decode c_B_hasPartNear 38 = .ok (.lstore 9, 2) := by decide +kernel
theorem d_B_hasPartNear_40 : decode c_B_hasPartNear 40 = .ok (.lload_n 1, 1) := by decide +kernel
theorem d_B_hasPartNear_41 : decode c_B_hasPartNear 41 = .ok (.iload 5, 2) := by decide +kernel
theorem d_B_hasPartNear_43 : decode c_B_hasPartNear 43 = .ok (.ifCond .ne 8, 3) := by decide +kernel
theorem d_B_hasPartNear_46 : decode c_B_hasPartNear 46 = .ok (.lload 7, 2) := by decide +kernel
theorem d_B_hasPartNear_48 : decode c_B_hasPartNear 48 = .ok (.goto 11, 3) := by decide +kernel
theorem d_B_hasPartNear_51 : decode c_B_hasPartNear 51 = .ok (.aload_n 0, 1) := by decide +kernel
theorem d_B_hasPartNear_52 : decode c_B_hasPartNear 52 = .ok (.iconst 0, 1) := by decide +kernel
theorem d_B_hasPartNear_53 : decode c_B_hasPartNear 53 = .ok (.invokevirtual 59, 3) := by decide +kernel
theorem d_B_hasPartNear_56 : decode c_B_hasPartNear 56 = .ok (.lload 9, 2) := by decide +kernel
theorem d_B_hasPartNear_58 : decode c_B_hasPartNear 58 = .ok (.lsub, 1) := by decide +kernel
theorem d_B_hasPartNear_59 : decode c_B_hasPartNear 59 = .ok (.lsub, 1) := by decide +kernel
theorem d_B_hasPartNear_60 : decode c_B_hasPartNear 60 = .ok (.lstore 11, 2) := by decide +kernel
theorem d_B_hasPartNear_62 : decode c_B_hasPartNear 62 = .ok (.lload_n 3, 1) := by decide +kernel
theorem d_B_hasPartNear_63 : decode c_B_hasPartNear 63 = .ok (.iload 5, 2) := by decide +kernel
theorem d_B_hasPartNear_65 : decode c_B_hasPartNear 65 = .ok (.ifCond .ne 8, 3) := by decide +kernel
theorem d_B_hasPartNear_68 : decode c_B_hasPartNear 68 = .ok (.lload 9, 2) := by decide +kernel
theorem d_B_hasPartNear_70 : decode c_B_hasPartNear 70 = .ok (.goto 5, 3) := by decide +kernel
theorem d_B_hasPartNear_73 : decode c_B_hasPartNear 73 = .ok (.lload 7, 2) := by decide +kernel
theorem d_B_hasPartNear_75 : decode c_B_hasPartNear 75 = .ok (.lsub, 1) := by decide +kernel
theorem d_B_hasPartNear_76 : decode c_B_hasPartNear 76 = .ok (.lstore 13, 2) := by decide +kernel
theorem d_B_hasPartNear_78 : decode c_B_hasPartNear 78 = .ok (.lload 11, 2) := by decide +kernel
theorem d_B_hasPartNear_80 : decode c_B_hasPartNear 80 = .ok (.lload 11, 2) := by decide +kernel
theorem d_B_hasPartNear_82 : decode c_B_hasPartNear 82 = .ok (.lmul, 1) := by decide +kernel
theorem d_B_hasPartNear_83 : decode c_B_hasPartNear 83 = .ok (.lload 13, 2) := by decide +kernel
theorem d_B_hasPartNear_85 : decode c_B_hasPartNear 85 = .ok (.lload 13, 2) := by decide +kernel
theorem d_B_hasPartNear_87 : decode c_B_hasPartNear 87 = .ok (.lmul, 1) := by decide +kernel
theorem d_B_hasPartNear_88 : decode c_B_hasPartNear 88 = .ok (.ladd, 1) := by decide +kernel
theorem d_B_hasPartNear_89 : decode c_B_hasPartNear 89 = .ok (.aload_n 0, 1) := by decide +kernel
theorem d_B_hasPartNear_90 : decode c_B_hasPartNear 90 = .ok (.getfield 24, 3) := by decide +kernel
theorem d_B_hasPartNear_93 : decode c_B_hasPartNear 93 = .ok (.iload 6, 2) := by decide +kernel
theorem d_B_hasPartNear_95 : decode c_B_hasPartNear 95 = .ok (.laload, 1) := by decide +kernel
theorem d_B_hasPartNear_96 : decode c_B_hasPartNear 96 = .ok (.aload_n 0, 1) := by decide +kernel
theorem d_B_hasPartNear_97 : decode c_B_hasPartNear 97 = .ok (.getfield 24, 3) := by decide +kernel
theorem d_B_hasPartNear_100 : decode c_B_hasPartNear 100 = .ok (.iload 6, 2) := by decide +kernel
theorem d_B_hasPartNear_102 : decode c_B_hasPartNear 102 = .ok (.laload, 1) := by decide +kernel
theorem d_B_hasPartNear_103 : decode c_B_hasPartNear 103 = .ok (.lmul, 1) := by decide +kernel
theorem d_B_hasPartNear_104 : decode c_B_hasPartNear 104 = .ok (.lcmp, 1) := by decide +kernel
theorem d_B_hasPartNear_105 : decode c_B_hasPartNear 105 = .ok (.ifCond .ge 5, 3) := by decide +kernel
theorem d_B_hasPartNear_108 : decode c_B_hasPartNear 108 = .ok (.iconst 1, 1) := by decide +kernel
theorem d_B_hasPartNear_109 : decode c_B_hasPartNear 109 = .ok (.ireturn, 1) := by decide +kernel
theorem d_B_hasPartNear_110 : decode c_B_hasPartNear 110 = .ok (.iinc 6 1, 3) := by decide +kernel
theorem d_B_hasPartNear_113 : decode c_B_hasPartNear 113 = .ok (.goto (-110), 3) := by decide +kernel
theorem d_B_hasPartNear_116 : decode c_B_hasPartNear 116 = .ok (.iconst 0, 1) := by decide +kernel
theorem d_B_hasPartNear_117 : decode c_B_hasPartNear 117 = .ok (.ireturn, 1) := by decide +kernel
theorem d_B_twiceArea_0 : decode c_B_twiceArea 0 = .ok (.lconst 0, 1) := by decide +kernel
theorem d_B_twiceArea_1 : decode c_B_twiceArea 1 = .ok (.lstore_n 1, 1) := by decide +kernel
theorem d_B_twiceArea_2 : decode c_B_twiceArea 2 = .ok (.iconst 0, 1) := by decide +kernel
theorem d_B_twiceArea_3 : decode c_B_twiceArea 3 = .ok (.istore_n 3, 1) := by decide +kernel
theorem d_B_twiceArea_4 : decode c_B_twiceArea 4 = .ok (.iload_n 3, 1) := by decide +kernel
theorem d_B_twiceArea_5 : decode c_B_twiceArea 5 = .ok (.aload_n 0, 1) := by decide +kernel
theorem d_B_twiceArea_6 : decode c_B_twiceArea 6 = .ok (.getfield 31, 3) := by decide +kernel
theorem d_B_twiceArea_9 : decode c_B_twiceArea 9 = .ok (.if_icmp .ge 60, 3) := by decide +kernel
theorem d_B_twiceArea_12 : decode c_B_twiceArea 12 = .ok (.iload_n 3, 1) := by decide +kernel
theorem d_B_twiceArea_13 : decode c_B_twiceArea 13 = .ok (.iconst 1, 1) := by decide +kernel
theorem d_B_twiceArea_14 : decode c_B_twiceArea 14 = .ok (.iadd, 1) := by decide +kernel
theorem d_B_twiceArea_15 : decode c_B_twiceArea 15 = .ok (.aload_n 0, 1) := by decide +kernel
theorem d_B_twiceArea_16 : decode c_B_twiceArea 16 = .ok (.getfield 31, 3) := by decide +kernel
theorem d_B_twiceArea_19 : decode c_B_twiceArea 19 = .ok (.if_icmp .ge 9, 3) := by decide +kernel
theorem d_B_twiceArea_22 : decode c_B_twiceArea 22 = .ok (.iload_n 3, 1) := by decide +kernel
theorem d_B_twiceArea_23 : decode c_B_twiceArea 23 = .ok (.iconst 1, 1) := by decide +kernel
theorem d_B_twiceArea_24 : decode c_B_twiceArea 24 = .ok (.iadd, 1) := by decide +kernel
theorem d_B_twiceArea_25 : decode c_B_twiceArea 25 = .ok (.goto 4, 3) := by decide +kernel
theorem d_B_twiceArea_28 : decode c_B_twiceArea 28 = .ok (.iconst 0, 1) := by decide +kernel
theorem d_B_twiceArea_29 : decode c_B_twiceArea 29 = .ok (.istore 4, 2) := by decide +kernel
theorem d_B_twiceArea_31 : decode c_B_twiceArea 31 = .ok (.lload_n 1, 1) := by decide +kernel
theorem d_B_twiceArea_32 : decode c_B_twiceArea 32 = .ok (.aload_n 0, 1) := by decide +kernel
theorem d_B_twiceArea_33 : decode c_B_twiceArea 33 = .ok (.getfield 9, 3) := by decide +kernel
theorem d_B_twiceArea_36 : decode c_B_twiceArea 36 = .ok (.iload_n 3, 1) := by decide +kernel
theorem d_B_twiceArea_37 : decode c_B_twiceArea 37 = .ok (.laload, 1) := by decide +kernel
theorem d_B_twiceArea_38 : decode c_B_twiceArea 38 = .ok (.aload_n 0, 1) := by decide +kernel
theorem d_B_twiceArea_39 : decode c_B_twiceArea 39 = .ok (.getfield 15, 3) := by decide +kernel
theorem d_B_twiceArea_42 : decode c_B_twiceArea 42 = .ok (.iload 4, 2) := by decide +kernel
theorem d_B_twiceArea_44 : decode c_B_twiceArea 44 = .ok (.laload, 1) := by decide +kernel
theorem d_B_twiceArea_45 : decode c_B_twiceArea 45 = .ok (.lmul, 1) := by decide +kernel
theorem d_B_twiceArea_46 : decode c_B_twiceArea 46 = .ok (.aload_n 0, 1) := by decide +kernel
theorem d_B_twiceArea_47 : decode c_B_twiceArea 47 = .ok (.getfield 9, 3) := by decide +kernel
theorem d_B_twiceArea_50 : decode c_B_twiceArea 50 = .ok (.iload 4, 2) := by decide +kernel
theorem d_B_twiceArea_52 : decode c_B_twiceArea 52 = .ok (.laload, 1) := by decide +kernel
theorem d_B_twiceArea_53 : decode c_B_twiceArea 53 = .ok (.aload_n 0, 1) := by decide +kernel
theorem d_B_twiceArea_54 : decode c_B_twiceArea 54 = .ok (.getfield 15, 3) := by decide +kernel
theorem d_B_twiceArea_57 : decode c_B_twiceArea 57 = .ok (.iload_n 3, 1) := by decide +kernel
theorem d_B_twiceArea_58 : decode c_B_twiceArea 58 = .ok (.laload, 1) := by decide +kernel
theorem d_B_twiceArea_59 : decode c_B_twiceArea 59 = .ok (.lmul, 1) := by decide +kernel
theorem d_B_twiceArea_60 : decode c_B_twiceArea 60 = .ok (.lsub, 1) := by decide +kernel
theorem d_B_twiceArea_61 : decode c_B_twiceArea 61 = .ok (.ladd, 1) := by decide +kernel
theorem d_B_twiceArea_62 : decode c_B_twiceArea 62 = .ok (.lstore_n 1, 1) := by decide +kernel
theorem d_B_twiceArea_63 : decode c_B_twiceArea 63 = .ok (.iinc 3 1, 3) := by decide +kernel
theorem d_B_twiceArea_66 : decode c_B_twiceArea 66 = .ok (.goto (-62), 3) := by decide +kernel
theorem d_B_twiceArea_69 : decode c_B_twiceArea 69 = .ok (.lload_n 1, 1) := by decide +kernel
theorem d_B_twiceArea_70 : decode c_B_twiceArea 70 = .ok (.invokestatic 63, 3) := by decide +kernel
theorem d_B_twiceArea_73 : decode c_B_twiceArea 73 = .ok (.lreturn, 1) := by decide +kernel
end
section
theorem d_S_init_0 : decode c_S_init 0 = .ok (.aload_n 0, 1) := by decide +kernel
theorem d_S_init_1 : decode c_S_init 1 = .ok (.invokespecial 3, 3) := by decide +kernel
theorem d_S_init_4 : decode c_S_init 4 = .ok (.aload_n 0, 1) := by decide +kernel
theorem d_S_init_5 : decode c_S_init 5 = .ok (.bipush 8, 2) := by decide +kernel
theorem d_S_init_7 : decode c_S_init 7 = .ok (.newarray .int, 2) := by decide +kernel
theorem d_S_init_9 : decode c_S_init 9 = .ok (.putfield 9, 3) := by decide +kernel
theorem d_S_init_12 : decode c_S_init 12 = .ok (.aload_n 0, 1) := by decide +kernel
theorem d_S_init_13 : decode c_S_init 13 = .ok (.bipush 8, 2) := by decide +kernel
theorem d_S_init_15 : decode c_S_init 15 = .ok (.newarray .long, 2) := by decide +kernel
theorem d_S_init_17 : decode c_S_init 17 = .ok (.putfield 15, 3) := by decide +kernel
theorem d_S_init_20 : decode c_S_init 20 = .ok (.aload_n 0, 1) := by decide +kernel
theorem d_S_init_21 : decode c_S_init 21 = .ok (.iconst 4, 1) := by decide +kernel
theorem d_S_init_22 : decode c_S_init 22 = .ok (.newarray .int, 2) := by decide +kernel
theorem d_S_init_24 : decode c_S_init 24 = .ok (.putfield 19, 3) := by decide +kernel
theorem d_S_init_27 : decode c_S_init 27 = .ok (.aload_n 0, 1) := by decide +kernel
theorem d_S_init_28 : decode c_S_init 28 = .ok (.bipush 9, 2) := by decide +kernel
theorem d_S_init_30 : decode c_S_init 30 = .ok (.newarray .int, 2) := by decide +kernel
theorem d_S_init_32 : decode c_S_init 32 = .ok (.putfield 22, 3) := by decide +kernel
theorem d_S_init_35 : decode c_S_init 35 = .ok (.aload_n 0, 1) := by decide +kernel
theorem d_S_init_36 : decode c_S_init 36 = .ok (.bipush 9, 2) := by decide +kernel
theorem d_S_init_38 : decode c_S_init 38 = .ok (.newarray .int, 2) := by decide +kernel
theorem d_S_init_40 : decode c_S_init 40 = .ok (.putfield 25, 3) := by decide +kernel
theorem d_S_init_43 : decode c_S_init 43 = .ok (.aload_n 0, 1) := by decide +kernel
theorem d_S_init_44 : decode c_S_init 44 = .ok (.bipush 9, 2) := by decide +kernel
theorem d_S_init_46 : decode c_S_init 46 = .ok (.newarray .int, 2) := by decide +kernel
theorem d_S_init_48 : decode c_S_init 48 = .ok (.putfield 28, 3) := by decide +kernel
theorem d_S_init_51 : decode c_S_init 51 = .ok (.aload_n 0, 1) := by decide +kernel
theorem d_S_init_52 : decode c_S_init 52 = .ok (.bipush 9, 2) := by decide +kernel
theorem d_S_init_54 : decode c_S_init 54 = .ok (.newarray .int, 2) := by decide +kernel
theorem d_S_init_56 : decode c_S_init 56 = .ok (.putfield 31, 3) := by decide +kernel
theorem d_S_init_59 : decode c_S_init 59 = .ok (.return_, 1) := by decide +kernel
theorem d_S_begin_0 : decode c_S_begin 0 = .ok (.aload_n 0, 1) := by decide +kernel
theorem d_S_begin_1 : decode c_S_begin 1 = .ok (.lload_n 1, 1) := by decide +kernel
theorem d_S_begin_2 : decode c_S_begin 2 = .ok (.putfield 34, 3) := by decide +kernel
theorem d_S_begin_5 : decode c_S_begin 5 = .ok (.aload_n 0, 1) := by decide +kernel
theorem d_S_begin_6 : decode c_S_begin 6 = .ok (.iconst 0, 1) := by decide +kernel
theorem d_S_begin_7 : decode c_S_begin 7 = .ok (.putfield 38, 3) := by decide +kernel
theorem d_S_begin_10 : decode c_S_begin 10 = .ok (.aload_n 0, 1) := by decide +kernel
theorem d_S_begin_11 : decode c_S_begin 11 = .ok (.iconst 0, 1) := by decide +kernel
theorem d_S_begin_12 : decode c_S_begin 12 = .ok (.putfield 42, 3) := by decide +kernel
theorem d_S_begin_15 : decode c_S_begin 15 = .ok (.aload_n 0, 1) := by decide +kernel
theorem d_S_begin_16 : decode c_S_begin 16 = .ok (.iconst 0, 1) := by decide +kernel
theorem d_S_begin_17 : decode c_S_begin 17 = .ok (.putfield 45, 3) := by decide +kernel
theorem d_S_begin_20 : decode c_S_begin 20 = .ok (.iconst 0, 1) := by decide +kernel
theorem d_S_begin_21 : decode c_S_begin 21 = .ok (.istore_n 3, 1) := by decide +kernel
theorem d_S_begin_22 : decode c_S_begin 22 = .ok (.iload_n 3, 1) := by decide +kernel
theorem d_S_begin_23 : decode c_S_begin 23 = .ok (.bipush 8, 2) := by decide +kernel
theorem d_S_begin_25 : decode c_S_begin 25 = .ok (.if_icmp .ge 16, 3) := by decide +kernel
theorem d_S_begin_28 : decode c_S_begin 28 = .ok (.aload_n 0, 1) := by decide +kernel
theorem d_S_begin_29 : decode c_S_begin 29 = .ok (.getfield 9, 3) := by decide +kernel
theorem d_S_begin_32 : decode c_S_begin 32 = .ok (.iload_n 3, 1) := by decide +kernel
theorem d_S_begin_33 : decode c_S_begin 33 = .ok (.iconst 0, 1) := by decide +kernel
theorem d_S_begin_34 : decode c_S_begin 34 = .ok (.iastore, 1) := by decide +kernel
theorem d_S_begin_35 : decode c_S_begin 35 = .ok (.iinc 3 1, 3) := by decide +kernel
theorem d_S_begin_38 : decode c_S_begin 38 = .ok (.goto (-16), 3) := by decide +kernel
theorem d_S_begin_41 : decode c_S_begin 41 = .ok (.return_, 1) := by decide +kernel
theorem d_S_allowKind_0 : decode c_S_allowKind 0 = .ok (.aload_n 0, 1) := by decide +kernel
theorem d_S_allowKind_1 : decode c_S_allowKind 1 = .ok (.getfield 9, 3) := by decide +kernel
theorem d_S_allowKind_4 : decode c_S_allowKind 4 = .ok (.iload_n 1, 1) := by decide +kernel
theorem d_S_allowKind_5 : decode c_S_allowKind 5 = .ok (.iload_n 2, 1) := by decide +kernel
theorem d_S_allowKind_6 : decode c_S_allowKind 6 = .ok (.iastore, 1) := by decide +kernel
theorem d_S_allowKind_7 : decode c_S_allowKind 7 = .ok (.aload_n 0, 1) := by decide +kernel
theorem d_S_allowKind_8 : decode c_S_allowKind 8 = .ok (.getfield 15, 3) := by decide +kernel
theorem d_S_allowKind_11 : decode c_S_allowKind 11 = .ok (.iload_n 1, 1) := by decide +kernel
theorem d_S_allowKind_12 : decode c_S_allowKind 12 = .ok (.lload_n 3, 1) := by decide +kernel
theorem d_S_allowKind_13 : decode c_S_allowKind 13 = .ok (.lastore, 1) := by decide +kernel
theorem d_S_allowKind_14 : decode c_S_allowKind 14 = .ok (.aload_n 0, 1) := by decide +kernel
theorem d_S_allowKind_15 : decode c_S_allowKind 15 = .ok (.aload_n 0, 1) := by decide +kernel
theorem d_S_allowKind_16 : decode c_S_allowKind 16 = .ok (.getfield 45, 3) := by decide +kernel
theorem d_S_allowKind_19 : decode c_S_allowKind 19 = .ok (.iload_n 2, 1) := by decide +kernel
theorem d_S_allowKind_20 : decode c_S_allowKind 20 = .ok (.invokestatic 48, 3) := by decide +kernel
theorem d_S_allowKind_23 : decode c_S_allowKind 23 = .ok (.putfield 45, 3) := by decide +kernel
theorem d_S_allowKind_26 : decode c_S_allowKind 26 = .ok (.return_, 1) := by decide +kernel
theorem d_S_look_0 : decode c_S_look 0 = .ok (.aload_n 0, 1) := by decide +kernel
theorem d_S_look_1 : decode c_S_look 1 = .ok (.iload_n 1, 1) := by decide +kernel
theorem d_S_look_2 : decode c_S_look 2 = .ok (.bipush 9, 2) := by decide +kernel
theorem d_S_look_4 : decode c_S_look 4 = .ok (.invokestatic 54, 3) := by decide +kernel
theorem d_S_look_7 : decode c_S_look 7 = .ok (.putfield 57, 3) := by decide +kernel
theorem d_S_look_10 : decode c_S_look 10 = .ok (.aload_n 0, 1) := by decide +kernel
theorem d_S_look_11 : decode c_S_look 11 = .ok (.iconst 0, 1) := by decide +kernel
theorem d_S_look_12 : decode c_S_look 12 = .ok (.iconst 0, 1) := by decide +kernel
theorem d_S_look_13 : decode c_S_look 13 = .ok (.iconst 0, 1) := by decide +kernel
theorem d_S_look_14 : decode c_S_look 14 = .ok (.lload_n 2, 1) := by decide +kernel
theorem d_S_look_15 : decode c_S_look 15 = .ok (.invokevirtual 60, 3) := by decide +kernel
theorem d_S_look_18 : decode c_S_look 18 = .ok (.return_, 1) := by decide +kernel
theorem d_S_findsMore_0 : decode c_S_findsMore 0 = .ok (.aload_n 0, 1) := by decide +kernel
theorem d_S_findsMore_1 : decode c_S_findsMore 1 = .ok (.getfield 42, 3) := by decide +kernel
theorem d_S_findsMore_4 : decode c_S_findsMore 4 = .ok (.istore 4, 2) := by decide +kernel
theorem d_S_findsMore_6 : decode c_S_findsMore 6 = .ok (.aload_n 0, 1) := by decide +kernel
theorem d_S_findsMore_7 : decode c_S_findsMore 7 = .ok (.iload_n 1, 1) := by decide +kernel
theorem d_S_findsMore_8 : decode c_S_findsMore 8 = .ok (.lload_n 2, 1) := by decide +kernel
theorem d_S_findsMore_9 : decode c_S_findsMore 9 = .ok (.invokevirtual 64, 3) := by decide +kernel
theorem d_S_findsMore_12 : decode c_S_findsMore 12 = .ok (.aload_n 0, 1) := by decide +kernel
theorem d_S_findsMore_13 : decode c_S_findsMore 13 = .ok (.getfield 42, 3) := by decide +kernel
theorem d_S_findsMore_16 : decode c_S_findsMore 16 = .ok (.iload 4, 2) := by decide +kernel
theorem d_S_findsMore_18 : decode c_S_findsMore 18 = .ok (.if_icmp .le 7, 3) := by decide +kernel
theorem d_S_findsMore_21 : decode c_S_findsMore 21 = .ok (.iconst 1, 1) := by decide +kernel
theorem d_S_findsMore_22 : decode c_S_findsMore 22 = .ok (.goto 4, 3) := by decide +kernel
theorem d_S_findsMore_25 : decode c_S_findsMore 25 = .ok (.iconst 0, 1) := by decide +kernel
theorem d_S_findsMore_26 : decode c_S_findsMore 26 = .ok (.ireturn, 1) := by decide +kernel
theorem d_S_tryRow_0 : decode c_S_tryRow 0 = .ok (.iload_n 1, 1) := by decide +kernel
theorem d_S_tryRow_1 : decode c_S_tryRow 1 = .ok (.aload_n 0, 1) := by decide +kernel
theorem d_S_tryRow_2 : decode c_S_tryRow 2 = .ok (.getfield 57, 3) := by decide +kernel
theorem d_S_tryRow_5 : decode c_S_tryRow 5 = .ok (.if_icmp .ge 23, 3) := by decide +kernel
theorem d_S_tryRow_8 : decode c_S_tryRow 8 = .ok (.iload_n 3, 1) := by decide +kernel
theorem d_S_tryRow_9 : decode c_S_tryRow 9 = .ok (.aload_n 0, 1) := by decide +kernel
theorem d_S_tryRow_10 : decode c_S_tryRow 10 = .ok (.getfield 57, 3) := by decide +kernel
theorem d_S_tryRow_13 : decode c_S_tryRow 13 = .ok (.iload_n 1, 1) := by decide +kernel
theorem d_S_tryRow_14 : decode c_S_tryRow 14 = .ok (.isub, 1) := by decide +kernel
theorem d_S_tryRow_15 : decode c_S_tryRow 15 = .ok (.aload_n 0, 1) := by decide +kernel
theorem d_S_tryRow_16 : decode c_S_tryRow 16 = .ok (.getfield 45, 3) := by decide +kernel
theorem d_S_tryRow_19 : decode c_S_tryRow 19 = .ok (.imul, 1) := by decide +kernel
theorem d_S_tryRow_20 : decode c_S_tryRow 20 = .ok (.iadd, 1) := by decide +kernel
theorem d_S_tryRow_21 : decode c_S_tryRow 21 = .ok (.aload_n 0, 1) := by decide +kernel
theorem d_S_tryRow_22 : decode c_S_tryRow 22 = .ok (.getfield 42, 3) := by decide +kernel
theorem d_S_tryRow_25 : decode c_S_tryRow 25 = .ok (.if_icmp .gt 4, 3) := by decide +kernel
theorem d_S_tryRow_28 : decode c_S_tryRow 28 = .ok (.return_, 1) := by decide +kernel
theorem d_S_tryRow_29 : decode c_S_tryRow 29 = .ok (.iload_n 2, 1) := by decide +kernel
theorem d_S_tryRow_30 : decode c_S_tryRow 30 = .ok (.istore 6, 2) := by decide +kernel
theorem d_S_tryRow_32 : decode c_S_tryRow 32 = .ok (.iload 6, 2) := by decide +kernel
theorem d_S_tryRow_34 : decode c_S_tryRow 34 = .ok (.bipush 8, 2) := by decide +kernel
theorem d_S_tryRow_36 : decode c_S_tryRow 36 = .ok (.if_icmp .ge 131, 3) := by decide +kernel
theorem d_S_tryRow_39 : decode c_S_tryRow 39 = .ok (.iload 6, 2) := by decide +kernel
theorem d_S_tryRow_41 : decode c_S_tryRow 41 = .ok (.iconst 2, 1) := by decide +kernel
theorem d_S_tryRow_42 : decode c_S_tryRow 42 = .ok (.idiv, 1) := by decide +kernel
theorem d_S_tryRow_43 : decode c_S_tryRow 43 = .ok (.istore 7, 2) := by decide +kernel
theorem d_S_tryRow_45 : decode c_S_tryRow 45 = .ok (.aload_n 0, 1) := by decide +kernel
theorem d_S_tryRow_46 : decode c_S_tryRow 46 = .ok (.getfield 9, 3) := by decide +kernel
theorem d_S_tryRow_49 : decode c_S_tryRow 49 = .ok (.iload 6, 2) := by decide +kernel
theorem d_S_tryRow_51 : decode c_S_tryRow 51 = .ok (.iaload, 1) := by decide +kernel
theorem d_S_tryRow_52 : decode c_S_tryRow 52 = .ok (.aload_n 0, 1) := by decide +kernel
theorem d_S_tryRow_53 : decode c_S_tryRow 53 = .ok (.getfield 19, 3) := by decide +kernel
theorem d_S_tryRow_56 : decode c_S_tryRow 56 = .ok (.iload 7, 2) := by decide +kernel
theorem d_S_tryRow_58 : decode c_S_tryRow 58 = .ok (.iaload, 1) := by decide +kernel
theorem d_S_tryRow_59 : decode c_S_tryRow 59 = .ok (.invokestatic 54, 3) := by decide +kernel
theorem d_S_tryRow_62 : decode c_S_tryRow 62 = .ok (.istore 8, 2) := by decide +kernel
theorem d_S_tryRow_64 : decode c_S_tryRow 64 = .ok (.iload 8, 2) := by decide +kernel
theorem d_S_tryRow_66 : decode c_S_tryRow 66 = .ok (.ifCond .le 95, 3) := by decide +kernel
theorem d_S_tryRow_69 : decode c_S_tryRow 69 = .ok (.aload_n 0, 1) := by decide +kernel
theorem d_S_tryRow_70 : decode c_S_tryRow 70 = .ok (.getfield 15, 3) := by decide +kernel
theorem d_S_tryRow_73 : decode c_S_tryRow 73 = .ok (.iload 6, 2) := by decide +kernel
theorem d_S_tryRow_75 : decode c_S_tryRow 75 = .ok (.laload, 1) := by decide +kernel
theorem d_S_tryRow_76 : decode c_S_tryRow 76 = .ok (.lload 4, 2) := by decide +kernel
theorem d_S_tryRow_78 : decode c_S_tryRow 78 = .ok (.lcmp, 1) := by decide +kernel
theorem d_S_tryRow_79 : decode c_S_tryRow 79 = .ok (.ifCond .gt 82, 3) := by decide +kernel
theorem d_S_tryRow_82 : decode c_S_tryRow 82 = .ok (.aload_n 0, 1) := by decide +kernel
theorem d_S_tryRow_83 : decode c_S_tryRow 83 = .ok (.getfield 22, 3) := by decide +kernel
theorem d_S_tryRow_86 : decode c_S_tryRow 86 = .ok (.iload_n 1, 1) := by decide +kernel
theorem d_S_tryRow_87 : decode c_S_tryRow 87 = .ok (.iload 6, 2) := by decide +kernel
theorem d_S_tryRow_89 : decode c_S_tryRow 89 = .ok (.iastore, 1) := by decide +kernel
theorem d_S_tryRow_90 : decode c_S_tryRow 90 = .ok (.aload_n 0, 1) := by decide +kernel
theorem d_S_tryRow_91 : decode c_S_tryRow 91 = .ok (.getfield 25, 3) := by decide +kernel
theorem d_S_tryRow_94 : decode c_S_tryRow 94 = .ok (.iload_n 1, 1) := by decide +kernel
theorem d_S_tryRow_95 : decode c_S_tryRow 95 = .ok (.iload 8, 2) := by decide +kernel
theorem d_S_tryRow_97 : decode c_S_tryRow 97 = .ok (.iastore, 1) := by decide +kernel
theorem d_S_tryRow_98 : decode c_S_tryRow 98 = .ok (.aload_n 0, 1) := by decide +kernel
theorem d_S_tryRow_99 : decode c_S_tryRow 99 = .ok (.getfield 19, 3) := by decide +kernel
theorem d_S_tryRow_102 : decode c_S_tryRow 102 = .ok (.iload 7, 2) := by decide +kernel
theorem d_S_tryRow_104 : decode c_S_tryRow 104 = .ok (.dup2, 1) := by decide +kernel
theorem d_S_tryRow_105 : decode c_S_tryRow 105 = .ok (.iaload, 1) := by decide +kernel
theorem d_S_tryRow_106 : decode c_S_tryRow 106 = .ok (.iload 8, 2) := by decide +kernel
theorem d_S_tryRow_108 : decode c_S_tryRow 108 = .ok (.isub, 1) := by decide +kernel
theorem d_S_tryRow_109 : decode c_S_tryRow 109 = .ok (.iastore, 1) := by decide +kernel
theorem d_S_tryRow_110 : decode c_S_tryRow 110 = .ok (.aload_n 0, 1) := by decide +kernel
theorem d_S_tryRow_111 : decode c_S_tryRow 111 = .ok (.iload_n 1, 1) := by decide +kernel
theorem d_S_tryRow_112 : decode c_S_tryRow 112 = .ok (.iconst 1, 1) := by decide +kernel
theorem d_S_tryRow_113 : decode c_S_tryRow 113 = .ok (.iadd, 1) := by decide +kernel
theorem d_S_tryRow_114 : decode c_S_tryRow 114 = .ok (.iload_n 3, 1) := by decide +kernel
theorem d_S_tryRow_115 : decode c_S_tryRow 115 = .ok (.iload 8, 2) := by decide +kernel
theorem d_S_tryRow_117 : decode c_S_tryRow 117 = .ok (.iadd, 1) := by decide +kernel
theorem d_S_tryRow_118 : decode c_S_tryRow 118 = .ok (.invokevirtual 68, 3) := by decide +kernel
theorem d_S_tryRow_121 : decode c_S_tryRow 121 = .ok (.aload_n 0, 1) := by decide +kernel
theorem d_S_tryRow_122 : decode c_S_tryRow 122 = .ok (.iload_n 1, 1) := by decide +kernel
theorem d_S_tryRow_123 : decode c_S_tryRow 123 = .ok (.iconst 1, 1) := by decide +kernel
theorem d_S_tryRow_124 : decode c_S_tryRow 124 = .ok (.iadd, 1) := by decide +kernel
theorem d_S_tryRow_125 : decode c_S_tryRow 125 = .ok (.iload 6, 2) := by decide +kernel
theorem d_S_tryRow_127 : decode c_S_tryRow 127 = .ok (.iload_n 3, 1) := by decide +kernel
theorem d_S_tryRow_128 : decode c_S_tryRow 128 = .ok (.iload 8, 2) := by decide +kernel
theorem d_S_tryRow_130 : decode c_S_tryRow 130 = .ok (.iadd, 1) := by decide +kernel
theorem d_S_tryRow_131 : decode c_S_tryRow 131 = .ok (.lload 4, 2) := by decide +kernel
theorem d_S_tryRow_133 : decode c_S_tryRow 133 = .ok (.aload_n 0, 1) := by decide +kernel
theorem d_S_tryRow_134 : decode c_S_tryRow 134 = .ok (.getfield 15, 3) := by decide +kernel
theorem d_S_tryRow_137 : decode c_S_tryRow 137 = .ok (.iload 6, 2) := by decide +kernel
theorem d_S_tryRow_139 : decode c_S_tryRow 139 = .ok (.laload, 1) := by decide +kernel
theorem d_S_tryRow_140 : decode c_S_tryRow 140 = .ok (.lsub, 1) := by decide +kernel
theorem d_S_tryRow_141 : decode c_S_tryRow 141 = .ok (.aload_n 0, 1) := by decide +kernel
theorem d_S_tryRow_142 : decode c_S_tryRow 142 = .ok (.getfield 34, 3) := by decide +kernel
theorem d_S_tryRow_145 : decode c_S_tryRow 145 = .ok (.lsub, 1) := by decide +kernel
theorem d_S_tryRow_146 : decode c_S_tryRow 146 = .ok (.invokevirtual 60, 3) := by decide +kernel
theorem d_S_tryRow_149 : decode c_S_tryRow 149 = .ok (.aload_n 0, 1) := by decide +kernel
theorem d_S_tryRow_150 : decode c_S_tryRow 150 = .ok (.getfield 19, 3) := by decide +kernel
theorem d_S_tryRow_153 : decode c_S_tryRow 153 = .ok (.iload 7, 2) := by decide +kernel
theorem d_S_tryRow_155 : decode c_S_tryRow 155 = .ok (.dup2, 1) := by decide +kernel
theorem d_S_tryRow_156 : decode c_S_tryRow 156 = .ok (.iaload, 1) := by decide +kernel
theorem d_S_tryRow_157 : decode c_S_tryRow 157 = .ok (.iload 8, 2) := by decide +kernel
theorem d_S_tryRow_159 : decode c_S_tryRow 159 = .ok (.iadd, 1) := by decide +kernel
theorem d_S_tryRow_160 : decode c_S_tryRow 160 = .ok (.iastore, 1) := by decide +kernel
theorem d_S_tryRow_161 : decode c_S_tryRow 161 = .ok (.iinc 6 1, 3) := by decide +kernel
theorem d_S_tryRow_164 : decode c_S_tryRow 164 = .ok (.goto (-132), 3) := by decide +kernel
theorem d_S_tryRow_167 : decode c_S_tryRow 167 = .ok (.return_, 1) := by decide +kernel
theorem d_S_keepIfBetter_0 : decode c_S_keepIfBetter 0 = .ok (.iload_n 2, 1) := by decide +kernel
theorem d_S_keepIfBetter_1 : decode c_S_keepIfBetter 1 = .ok (.aload_n 0, 1) := by decide +kernel
theorem d_S_keepIfBetter_2 : decode c_S_keepIfBetter 2 = .ok (.getfield 42, 3) := by decide +kernel
theorem d_S_keepIfBetter_5 : decode c_S_keepIfBetter 5 = .ok (.if_icmp .lt 19, 3) := by decide +kernel
theorem d_S_keepIfBetter_8 : decode c_S_keepIfBetter 8 = .ok (.iload_n 2, 1) := by decide +kernel
theorem d_S_keepIfBetter_9 : decode c_S_keepIfBetter 9 = .ok (.aload_n 0, 1) := by decide +kernel
theorem d_S_keepIfBetter_10 : decode c_S_keepIfBetter 10 = .ok (.getfield 42, 3) := by decide +kernel
theorem d_S_keepIfBetter_13 : decode c_S_keepIfBetter 13 = .ok (.if_icmp .ne 12, 3) := by decide +kernel
theorem d_S_keepIfBetter_16 : decode c_S_keepIfBetter 16 = .ok (.iload_n 1, 1) := by decide +kernel
theorem d_S_keepIfBetter_17 : decode c_S_keepIfBetter 17 = .ok (.aload_n 0, 1) := by decide +kernel
theorem d_S_keepIfBetter_18 : decode c_S_keepIfBetter 18 = .ok (.getfield 38, 3) := by decide +kernel
theorem d_S_keepIfBetter_21 : decode c_S_keepIfBetter 21 = .ok (.if_icmp .lt 4, 3) := by decide +kernel
theorem d_S_keepIfBetter_24 : decode c_S_keepIfBetter 24 = .ok (.return_, 1) := by decide +kernel
theorem d_S_keepIfBetter_25 : decode c_S_keepIfBetter 25 = .ok (.aload_n 0, 1) := by decide +kernel
theorem d_S_keepIfBetter_26 : decode c_S_keepIfBetter 26 = .ok (.iload_n 2, 1) := by decide +kernel
theorem d_S_keepIfBetter_27 : decode c_S_keepIfBetter 27 = .ok (.putfield 42, 3) := by decide +kernel
theorem d_S_keepIfBetter_30 : decode c_S_keepIfBetter 30 = .ok (.aload_n 0, 1) := by decide +kernel
theorem d_S_keepIfBetter_31 : decode c_S_keepIfBetter 31 = .ok (.iload_n 1, 1) := by decide +kernel
theorem d_S_keepIfBetter_32 : decode c_S_keepIfBetter 32 = .ok (.putfield 38, 3) := by decide +kernel
theorem d_S_keepIfBetter_35 : decode c_S_keepIfBetter 35 = .ok (.iconst 0, 1) := by decide +kernel
theorem d_S_keepIfBetter_36 : decode c_S_keepIfBetter 36 = .ok (.istore_n 3, 1) := by decide +kernel
theorem d_S_keepIfBetter_37 : decode c_S_keepIfBetter 37 = .ok (.iload_n 3, 1) := by decide +kernel
theorem d_S_keepIfBetter_38 : decode c_S_keepIfBetter 38 = .ok (.iload_n 1, 1) := by decide +kernel
theorem d_S_keepIfBetter_39 : decode c_S_keepIfBetter 39 = .ok (.if_icmp .ge 33, 3) := by decide +kernel
theorem d_S_keepIfBetter_42 : decode c_S_keepIfBetter 42 = .ok (.aload_n 0, 1) := by decide +kernel
theorem d_S_keepIfBetter_43 : decode c_S_keepIfBetter 43 = .ok (.getfield 28, 3) := by decide +kernel
theorem d_S_keepIfBetter_46 : decode c_S_keepIfBetter 46 = .ok (.iload_n 3, 1) := by decide +kernel
theorem d_S_keepIfBetter_47 : decode c_S_keepIfBetter 47 = .ok (.aload_n 0, 1) := by decide +kernel
theorem d_S_keepIfBetter_48 : decode c_S_keepIfBetter 48 = .ok (.getfield 22, 3) := by decide +kernel
theorem d_S_keepIfBetter_51 : decode c_S_keepIfBetter 51 = .ok (.iload_n 3, 1) := by decide +kernel
theorem d_S_keepIfBetter_52 : decode c_S_keepIfBetter 52 = .ok (.iaload, 1) := by decide +kernel
theorem d_S_keepIfBetter_53 : decode c_S_keepIfBetter 53 = .ok (.iastore, 1) := by decide +kernel
theorem d_S_keepIfBetter_54 : decode c_S_keepIfBetter 54 = .ok (.aload_n 0, 1) := by decide +kernel
theorem d_S_keepIfBetter_55 : decode c_S_keepIfBetter 55 = .ok (.getfield 31, 3) := by decide +kernel
theorem d_S_keepIfBetter_58 : decode c_S_keepIfBetter 58 = .ok (.iload_n 3, 1) := by decide +kernel
theorem d_S_keepIfBetter_59 : decode c_S_keepIfBetter 59 = .ok (.aload_n 0, 1) := by decide +kernel
theorem d_S_keepIfBetter_60 : decode c_S_keepIfBetter 60 = .ok (.getfield 25, 3) := by decide +kernel
theorem d_S_keepIfBetter_63 : decode c_S_keepIfBetter 63 = .ok (.iload_n 3, 1) := by decide +kernel
theorem d_S_keepIfBetter_64 : decode c_S_keepIfBetter 64 = .ok (.iaload, 1) := by decide +kernel
theorem d_S_keepIfBetter_65 : decode c_S_keepIfBetter 65 = .ok (.iastore, 1) := by decide +kernel
theorem d_S_keepIfBetter_66 : decode c_S_keepIfBetter 66 = .ok (.iinc 3 1, 3) := by decide +kernel
theorem d_S_keepIfBetter_69 : decode c_S_keepIfBetter 69 = .ok (.goto (-32), 3) := by decide +kernel
theorem d_S_keepIfBetter_72 : decode c_S_keepIfBetter 72 = .ok (.return_, 1) := by decide +kernel
end
section
theorem d_Y_init_0 : decode c_Y_init 0 = .ok (.aload_n 0, 1) := by decide +kernel
theorem d_Y_init_1 : decode c_Y_init 1 = .ok (.invokespecial 3, 3) := by decide +kernel
theorem d_Y_init_4 : decode c_Y_init 4 = .ok (.aload_n 0, 1) := by decide +kernel
theorem d_Y_init_5 : decode c_Y_init 5 = .ok (.bipush 8, 2) := by decide +kernel
theorem d_Y_init_7 : decode c_Y_init 7 = .ok (.newarray .int, 2) := by decide +kernel
theorem d_Y_init_9 : decode c_Y_init 9 = .ok (.putfield 9, 3) := by decide +kernel
theorem d_Y_init_12 : decode c_Y_init 12 = .ok (.aload_n 0, 1) := by decide +kernel
theorem d_Y_init_13 : decode c_Y_init 13 = .ok (.bipush 8, 2) := by decide +kernel
theorem d_Y_init_15 : decode c_Y_init 15 = .ok (.newarray .int, 2) := by decide +kernel
theorem d_Y_init_17 : decode c_Y_init 17 = .ok (.putfield 15, 3) := by decide +kernel
theorem d_Y_init_20 : decode c_Y_init 20 = .ok (.aload_n 0, 1) := by decide +kernel
theorem d_Y_init_21 : decode c_Y_init 21 = .ok (.bipush 8, 2) := by decide +kernel
theorem d_Y_init_23 : decode c_Y_init 23 = .ok (.newarray .int, 2) := by decide +kernel
theorem d_Y_init_25 : decode c_Y_init 25 = .ok (.putfield 18, 3) := by decide +kernel
theorem d_Y_init_28 : decode c_Y_init 28 = .ok (.aload_n 0, 1) := by decide +kernel
theorem d_Y_init_29 : decode c_Y_init 29 = .ok (.bipush 8, 2) := by decide +kernel
theorem d_Y_init_31 : decode c_Y_init 31 = .ok (.newarray .long, 2) := by decide +kernel
theorem d_Y_init_33 : decode c_Y_init 33 = .ok (.putfield 21, 3) := by decide +kernel
theorem d_Y_init_36 : decode c_Y_init 36 = .ok (.aload_n 0, 1) := by decide +kernel
theorem d_Y_init_37 : decode c_Y_init 37 = .ok (.bipush 8, 2) := by decide +kernel
theorem d_Y_init_39 : decode c_Y_init 39 = .ok (.newarray .long, 2) := by decide +kernel
theorem d_Y_init_41 : decode c_Y_init 41 = .ok (.putfield 25, 3) := by decide +kernel
theorem d_Y_init_44 : decode c_Y_init 44 = .ok (.aload_n 0, 1) := by decide +kernel
theorem d_Y_init_45 : decode c_Y_init 45 = .ok (.bipush 8, 2) := by decide +kernel
theorem d_Y_init_47 : decode c_Y_init 47 = .ok (.newarray .long, 2) := by decide +kernel
theorem d_Y_init_49 : decode c_Y_init 49 = .ok (.putfield 28, 3) := by decide +kernel
theorem d_Y_init_52 : decode c_Y_init 52 = .ok (.aload_n 0, 1) := by decide +kernel
theorem d_Y_init_53 : decode c_Y_init 53 = .ok (.sipush 160, 3) := by decide +kernel
theorem d_Y_init_56 : decode c_Y_init 56 = .ok (.newarray .int, 2) := by decide +kernel
theorem d_Y_init_58 : decode c_Y_init 58 = .ok (.putfield 31, 3) := by decide +kernel
theorem d_Y_init_61 : decode c_Y_init 61 = .ok (.aload_n 0, 1) := by decide +kernel
theorem d_Y_init_62 : decode c_Y_init 62 = .ok (.sipush 160, 3) := by decide +kernel
theorem d_Y_init_65 : decode c_Y_init 65 = .ok (.newarray .long, 2) := by decide +kernel
theorem d_Y_init_67 : decode c_Y_init 67 = .ok (.putfield 34, 3) := by decide +kernel
theorem d_Y_init_70 : decode c_Y_init 70 = .ok (.aload_n 0, 1) := by decide +kernel
theorem d_Y_init_71 : decode c_Y_init 71 = .ok (.sipush 160, 3) := by decide +kernel
theorem d_Y_init_74 : decode c_Y_init 74 = .ok (.newarray .boolean, 2) := by decide +kernel
theorem d_Y_init_76 : decode c_Y_init 76 = .ok (.putfield 37, 3) := by decide +kernel
theorem d_Y_init_79 : decode c_Y_init 79 = .ok (.aload_n 0, 1) := by decide +kernel
theorem d_Y_init_80 : decode c_Y_init 80 = .ok (.bipush 16, 2) := by decide +kernel
theorem d_Y_init_82 : decode c_Y_init 82 = .ok (.newarray .long, 2) := by decide +kernel
theorem d_Y_init_84 : decode c_Y_init 84 = .ok (.putfield 41, 3) := by decide +kernel
theorem d_Y_init_87 : decode c_Y_init 87 = .ok (.aload_n 0, 1) := by decide +kernel
theorem d_Y_init_88 : decode c_Y_init 88 = .ok (.bipush 16, 2) := by decide +kernel
theorem d_Y_init_90 : decode c_Y_init 90 = .ok (.newarray .int, 2) := by decide +kernel
theorem d_Y_init_92 : decode c_Y_init 92 = .ok (.putfield 44, 3) := by decide +kernel
theorem d_Y_init_95 : decode c_Y_init 95 = .ok (.return_, 1) := by decide +kernel
theorem d_Y_begin_0 : decode c_Y_begin 0 = .ok (.aload_n 0, 1) := by decide +kernel
theorem d_Y_begin_1 : decode c_Y_begin 1 = .ok (.iconst 0, 1) := by decide +kernel
theorem d_Y_begin_2 : decode c_Y_begin 2 = .ok (.putfield 47, 3) := by decide +kernel
theorem d_Y_begin_5 : decode c_Y_begin 5 = .ok (.aload_n 0, 1) := by decide +kernel
theorem d_Y_begin_6 : decode c_Y_begin 6 = .ok (.iconst 0, 1) := by decide +kernel
theorem d_Y_begin_7 : decode c_Y_begin 7 = .ok (.putfield 51, 3) := by decide +kernel
theorem d_Y_begin_10 : decode c_Y_begin 10 = .ok (.aload_n 0, 1) := by decide +kernel
theorem d_Y_begin_11 : decode c_Y_begin 11 = .ok (.iconst 0, 1) := by decide +kernel
theorem d_Y_begin_12 : decode c_Y_begin 12 = .ok (.putfield 54, 3) := by decide +kernel
theorem d_Y_begin_15 : decode c_Y_begin 15 = .ok (.aload_n 0, 1) := by decide +kernel
theorem d_Y_begin_16 : decode c_Y_begin 16 = .ok (.lload_n 1, 1) := by decide +kernel
theorem d_Y_begin_17 : decode c_Y_begin 17 = .ok (.putfield 57, 3) := by decide +kernel
theorem d_Y_begin_20 : decode c_Y_begin 20 = .ok (.aload_n 0, 1) := by decide +kernel
theorem d_Y_begin_21 : decode c_Y_begin 21 = .ok (.lload_n 3, 1) := by decide +kernel
theorem d_Y_begin_22 : decode c_Y_begin 22 = .ok (.putfield 61, 3) := by decide +kernel
theorem d_Y_begin_25 : decode c_Y_begin 25 = .ok (.aload_n 0, 1) := by decide +kernel
theorem d_Y_begin_26 : decode c_Y_begin 26 = .ok (.lload 5, 2) := by decide +kernel
theorem d_Y_begin_28 : decode c_Y_begin 28 = .ok (.putfield 64, 3) := by decide +kernel
theorem d_Y_begin_31 : decode c_Y_begin 31 = .ok (.return_, 1) := by decide +kernel
theorem d_Y_addRow_0 : decode c_Y_addRow 0 = .ok (.aload_n 0, 1) := by decide +kernel
theorem d_Y_addRow_1 : decode c_Y_addRow 1 = .ok (.getfield 47, 3) := by decide +kernel
theorem d_Y_addRow_4 : decode c_Y_addRow 4 = .ok (.bipush 8, 2) := by decide +kernel
theorem d_Y_addRow_6 : decode c_Y_addRow 6 = .ok (.if_icmp .lt 4, 3) := by decide +kernel
theorem d_Y_addRow_9 : decode c_Y_addRow 9 = .ok (.return_, 1) := by decide +kernel
theorem d_Y_addRow_10 : decode c_Y_addRow 10 = .ok (.aload_n 0, 1) := by decide +kernel
theorem d_Y_addRow_11 : decode c_Y_addRow 11 = .ok (.getfield 9, 3) := by decide +kernel
theorem d_Y_addRow_14 : decode c_Y_addRow 14 = .ok (.aload_n 0, 1) := by decide +kernel
theorem d_Y_addRow_15 : decode c_Y_addRow 15 = .ok (.getfield 47, 3) := by decide +kernel
theorem d_Y_addRow_18 : decode c_Y_addRow 18 = .ok (.iload_n 1, 1) := by decide +kernel
theorem d_Y_addRow_19 : decode c_Y_addRow 19 = .ok (.iastore, 1) := by decide +kernel
theorem d_Y_addRow_20 : decode c_Y_addRow 20 = .ok (.aload_n 0, 1) := by decide +kernel
theorem d_Y_addRow_21 : decode c_Y_addRow 21 = .ok (.getfield 15, 3) := by decide +kernel
theorem d_Y_addRow_24 : decode c_Y_addRow 24 = .ok (.aload_n 0, 1) := by decide +kernel
theorem d_Y_addRow_25 : decode c_Y_addRow 25 = .ok (.getfield 47, 3) := by decide +kernel
theorem d_Y_addRow_28 : decode c_Y_addRow 28 = .ok (.iload_n 2, 1) := by decide +kernel
theorem d_Y_addRow_29 : decode c_Y_addRow 29 = .ok (.iastore, 1) := by decide +kernel
theorem d_Y_addRow_30 : decode c_Y_addRow 30 = .ok (.aload_n 0, 1) := by decide +kernel
theorem d_Y_addRow_31 : decode c_Y_addRow 31 = .ok (.getfield 18, 3) := by decide +kernel
theorem d_Y_addRow_34 : decode c_Y_addRow 34 = .ok (.aload_n 0, 1) := by decide +kernel
theorem d_Y_addRow_35 : decode c_Y_addRow 35 = .ok (.getfield 47, 3) := by decide +kernel
theorem d_Y_addRow_38 : decode c_Y_addRow 38 = .ok (.iload 7, 2) := by decide +kernel
theorem d_Y_addRow_40 : decode c_Y_addRow 40 = .ok (.iastore, 1) := by decide +kernel
theorem d_Y_addRow_41 : decode c_Y_addRow 41 = .ok (.aload_n 0, 1) := by decide +kernel
theorem d_Y_addRow_42 : decode c_Y_addRow 42 = .ok (.getfield 21, 3) := by decide +kernel
theorem d_Y_addRow_45 : decode c_Y_addRow 45 = .ok (.aload_n 0, 1) := by decide +kernel
theorem d_Y_addRow_46 : decode c_Y_addRow 46 = .ok (.getfield 47, 3) := by decide +kernel
theorem d_Y_addRow_49 : decode c_Y_addRow 49 = .ok (.aload_n 0, 1) := by decide +kernel
theorem d_Y_addRow_50 : decode c_Y_addRow 50 = .ok (.getfield 61, 3) := by decide +kernel
theorem d_Y_addRow_53 : decode c_Y_addRow 53 = .ok (.lastore, 1) := by decide +kernel
theorem d_Y_addRow_54 : decode c_Y_addRow 54 = .ok (.aload_n 0, 1) := by decide +kernel
theorem d_Y_addRow_55 : decode c_Y_addRow 55 = .ok (.getfield 25, 3) := by decide +kernel
theorem d_Y_addRow_58 : decode c_Y_addRow 58 = .ok (.aload_n 0, 1) := by decide +kernel
theorem d_Y_addRow_59 : decode c_Y_addRow 59 = .ok (.getfield 47, 3) := by decide +kernel
theorem d_Y_addRow_62 : decode c_Y_addRow 62 = .ok (.lload_n 3, 1) := by decide +kernel
theorem d_Y_addRow_63 : decode c_Y_addRow 63 = .ok (.lastore, 1) := by decide +kernel
theorem d_Y_addRow_64 : decode c_Y_addRow 64 = .ok (.aload_n 0, 1) := by decide +kernel
theorem d_Y_addRow_65 : decode c_Y_addRow 65 = .ok (.getfield 28, 3) := by decide +kernel
theorem d_Y_addRow_68 : decode c_Y_addRow 68 = .ok (.aload_n 0, 1) := by decide +kernel
theorem d_Y_addRow_69 : decode c_Y_addRow 69 = .ok (.getfield 47, 3) := by decide +kernel
theorem d_Y_addRow_72 : decode c_Y_addRow 72 = .ok (.lload 5, 2) := by decide +kernel
theorem d_Y_addRow_74 : decode c_Y_addRow 74 = .ok (.lastore, 1) := by decide +kernel
theorem d_Y_addRow_75 : decode c_Y_addRow 75 = .ok (.aload_n 0, 1) := by decide +kernel
theorem d_Y_addRow_76 : decode c_Y_addRow 76 = .ok (.iload 7, 2) := by decide +kernel
theorem d_Y_addRow_78 : decode c_Y_addRow 78 = .ok (.lload_n 3, 1) := by decide +kernel
theorem d_Y_addRow_79 : decode c_Y_addRow 79 = .ok (.aload_n 0, 1) := by decide +kernel
theorem d_Y_addRow_80 : decode c_Y_addRow 80 = .ok (.getfield 64, 3) := by decide +kernel
theorem d_Y_addRow_83 : decode c_Y_addRow 83 = .ok (.ladd, 1) := by decide +kernel
theorem d_Y_addRow_84 : decode c_Y_addRow 84 = .ok (.invokevirtual 67, 3) := by decide +kernel
theorem d_Y_addRow_87 : decode c_Y_addRow 87 = .ok (.aload_n 0, 1) := by decide +kernel
theorem d_Y_addRow_88 : decode c_Y_addRow 88 = .ok (.aload_n 0, 1) := by decide +kernel
theorem d_Y_addRow_89 : decode c_Y_addRow 89 = .ok (.getfield 61, 3) := by decide +kernel
theorem d_Y_addRow_92 : decode c_Y_addRow 92 = .ok (.iload 7, 2) := by decide +kernel
theorem d_Y_addRow_94 : decode c_Y_addRow 94 = .ok (.invokevirtual 71, 3) := by decide +kernel
theorem d_Y_addRow_97 : decode c_Y_addRow 97 = .ok (.aload_n 0, 1) := by decide +kernel
theorem d_Y_addRow_98 : decode c_Y_addRow 98 = .ok (.aload_n 0, 1) := by decide +kernel
theorem d_Y_addRow_99 : decode c_Y_addRow 99 = .ok (.getfield 61, 3) := by decide +kernel
theorem d_Y_addRow_102 : decode c_Y_addRow 102 = .ok (.lload 5, 2) := by decide +kernel
theorem d_Y_addRow_104 : decode c_Y_addRow 104 = .ok (.ladd, 1) := by decide +kernel
theorem d_Y_addRow_105 : decode c_Y_addRow 105 = .ok (.iload 7, 2) := by decide +kernel
theorem d_Y_addRow_107 : decode c_Y_addRow 107 = .ok (.invokevirtual 71, 3) := by decide +kernel
theorem d_Y_addRow_110 : decode c_Y_addRow 110 = .ok (.aload_n 0, 1) := by decide +kernel
theorem d_Y_addRow_111 : decode c_Y_addRow 111 = .ok (.dup, 1) := by decide +kernel
theorem d_Y_addRow_112 : decode c_Y_addRow 112 = .ok (.getfield 61, 3) := by decide +kernel
theorem d_Y_addRow_115 : decode c_Y_addRow 115 = .ok (.lload 5, 2) := by decide +kernel
theorem d_Y_addRow_117 : decode c_Y_addRow 117 = .ok (.aload_n 0, 1) := by decide +kernel
theorem d_Y_addRow_118 : decode c_Y_addRow 118 = .ok (.getfield 64, 3) := by decide +kernel
theorem d_Y_addRow_121 : decode c_Y_addRow 121 = .ok (.ladd, 1) := by decide +kernel
theorem d_Y_addRow_122 : decode c_Y_addRow 122 = .ok (.ladd, 1) := by decide +kernel
theorem d_Y_addRow_123 : decode c_Y_addRow 123 = .ok (.putfield 61, 3) := by decide +kernel
theorem d_Y_addRow_126 : decode c_Y_addRow 126 = .ok (.aload_n 0, 1) := by decide +kernel
theorem d_Y_addRow_127 : decode c_Y_addRow 127 = .ok (.dup, 1) := by decide +kernel
theorem d_Y_addRow_128 : decode c_Y_addRow 128 = .ok (.getfield 47, 3) := by decide +kernel
theorem d_Y_addRow_131 : decode c_Y_addRow 131 = .ok (.iconst 1, 1) := by decide +kernel
theorem d_Y_addRow_132 : decode c_Y_addRow 132 = .ok (.iadd, 1) := by decide +kernel
theorem d_Y_addRow_133 : decode c_Y_addRow 133 = .ok (.putfield 47, 3) := by decide +kernel
theorem d_Y_addRow_136 : decode c_Y_addRow 136 = .ok (.return_, 1) := by decide +kernel
theorem d_Y_addCopies_0 : decode c_Y_addCopies 0 = .ok (.iconst 0, 1) := by decide +kernel
theorem d_Y_addCopies_1 : decode c_Y_addCopies 1 = .ok (.istore 4, 2) := by decide +kernel
theorem d_Y_addCopies_3 : decode c_Y_addCopies 3 = .ok (.iload 4, 2) := by decide +kernel
theorem d_Y_addCopies_5 : decode c_Y_addCopies 5 = .ok (.iload_n 1, 1) := by decide +kernel
theorem d_Y_addCopies_6 : decode c_Y_addCopies 6 = .ok (.if_icmp .ge 71, 3) := by decide +kernel
theorem d_Y_addCopies_9 : decode c_Y_addCopies 9 = .ok (.aload_n 0, 1) := by decide +kernel
theorem d_Y_addCopies_10 : decode c_Y_addCopies 10 = .ok (.getfield 51, 3) := by decide +kernel
theorem d_Y_addCopies_13 : decode c_Y_addCopies 13 = .ok (.sipush 160, 3) := by decide +kernel
theorem d_Y_addCopies_16 : decode c_Y_addCopies 16 = .ok (.if_icmp .ge 61, 3) := by decide +kernel
theorem d_Y_addCopies_19 : decode c_Y_addCopies 19 = .ok (.aload_n 0, 1) := by decide +kernel
theorem d_Y_addCopies_20 : decode c_Y_addCopies 20 = .ok (.getfield 31, 3) := by decide +kernel
theorem d_Y_addCopies_23 : decode c_Y_addCopies 23 = .ok (.aload_n 0, 1) := by decide +kernel
theorem d_Y_addCopies_24 : decode c_Y_addCopies 24 = .ok (.getfield 51, 3) := by decide +kernel
theorem d_Y_addCopies_27 : decode c_Y_addCopies 27 = .ok (.aload_n 0, 1) := by decide +kernel
theorem d_Y_addCopies_28 : decode c_Y_addCopies 28 = .ok (.getfield 47, 3) := by decide +kernel
theorem d_Y_addCopies_31 : decode c_Y_addCopies 31 = .ok (.iastore, 1) := by decide +kernel
theorem d_Y_addCopies_32 : decode c_Y_addCopies 32 = .ok (.aload_n 0, 1) := by decide +kernel
theorem d_Y_addCopies_33 : decode c_Y_addCopies 33 = .ok (.getfield 34, 3) := by decide +kernel
theorem d_Y_addCopies_36 : decode c_Y_addCopies 36 = .ok (.aload_n 0, 1) := by decide +kernel
theorem d_Y_addCopies_37 : decode c_Y_addCopies 37 = .ok (.getfield 51, 3) := by decide +kernel
theorem d_Y_addCopies_40 : decode c_Y_addCopies 40 = .ok (.aload_n 0, 1) := by decide +kernel
theorem d_Y_addCopies_41 : decode c_Y_addCopies 41 = .ok (.getfield 57, 3) := by decide +kernel
theorem d_Y_addCopies_44 : decode c_Y_addCopies 44 = .ok (.iload 4, 2) := by decide +kernel
theorem d_Y_addCopies_46 : decode c_Y_addCopies 46 = .ok (.i2l, 1) := by decide +kernel
theorem d_Y_addCopies_47 : decode c_Y_addCopies 47 = .ok (.lload_n 2, 1) := by decide +kernel
theorem d_Y_addCopies_48 : decode c_Y_addCopies 48 = .ok (.lmul, 1) := by decide +kernel
theorem d_Y_addCopies_49 : decode c_Y_addCopies 49 = .ok (.ladd, 1) := by decide +kernel
theorem d_Y_addCopies_50 : decode c_Y_addCopies 50 = .ok (.lastore, 1) := by decide +kernel
theorem d_Y_addCopies_51 : decode c_Y_addCopies 51 = .ok (.aload_n 0, 1) := by decide +kernel
theorem d_Y_addCopies_52 : decode c_Y_addCopies 52 = .ok (.getfield 37, 3) := by decide +kernel
theorem d_Y_addCopies_55 : decode c_Y_addCopies 55 = .ok (.aload_n 0, 1) := by decide +kernel
theorem d_Y_addCopies_56 : decode c_Y_addCopies 56 = .ok (.getfield 51, 3) := by decide +kernel
theorem d_Y_addCopies_59 : decode c_Y_addCopies 59 = .ok (.iconst 0, 1) := by decide +kernel
theorem d_Y_addCopies_60 : decode c_Y_addCopies 60 = .ok (.bastore, 1) := by decide +kernel
theorem d_Y_addCopies_61 : decode c_Y_addCopies 61 = .ok (.aload_n 0, 1) := by decide +kernel
theorem d_Y_addCopies_62 : decode c_Y_addCopies 62 = .ok (.dup, 1) := by decide +kernel
theorem d_Y_addCopies_63 : decode c_Y_addCopies 63 = .ok (.getfield 51, 3) := by decide +kernel
theorem d_Y_addCopies_66 : decode c_Y_addCopies 66 = .ok (.iconst 1, 1) := by decide +kernel
theorem d_Y_addCopies_67 : decode c_Y_addCopies 67 = .ok (.iadd, 1) := by decide +kernel
theorem d_Y_addCopies_68 : decode c_Y_addCopies 68 = .ok (.putfield 51, 3) := by decide +kernel
theorem d_Y_addCopies_71 : decode c_Y_addCopies 71 = .ok (.iinc 4 1, 3) := by decide +kernel
theorem d_Y_addCopies_74 : decode c_Y_addCopies 74 = .ok (.goto (-71), 3) := by decide +kernel
theorem d_Y_addCopies_77 : decode c_Y_addCopies 77 = .ok (.return_, 1) := by decide +kernel
theorem d_Y_addScore_0 : decode c_Y_addScore 0 = .ok (.aload_n 0, 1) := by decide +kernel
theorem d_Y_addScore_1 : decode c_Y_addScore 1 = .ok (.getfield 54, 3) := by decide +kernel
theorem d_Y_addScore_4 : decode c_Y_addScore 4 = .ok (.ifCond .le 37, 3) := by decide +kernel
theorem d_Y_addScore_7 : decode c_Y_addScore 7 = .ok (.aload_n 0, 1) := by decide +kernel
theorem d_Y_addScore_8 : decode c_Y_addScore 8 = .ok (.getfield 41, 3) := by decide +kernel
theorem d_Y_addScore_11 : decode c_Y_addScore 11 = .ok (.aload_n 0, 1) := by decide +kernel
theorem d_Y_addScore_12 : decode c_Y_addScore 12 = .ok (.getfield 54, 3) := by decide +kernel
theorem d_Y_addScore_15 : decode c_Y_addScore 15 = .ok (.iconst 1, 1) := by decide +kernel
theorem d_Y_addScore_16 : decode c_Y_addScore 16 = .ok (.isub, 1) := by decide +kernel
theorem d_Y_addScore_17 : decode c_Y_addScore 17 = .ok (.laload, 1) := by decide +kernel
theorem d_Y_addScore_18 : decode c_Y_addScore 18 = .ok (.lload_n 1, 1) := by decide +kernel
theorem d_Y_addScore_19 : decode c_Y_addScore 19 = .ok (.lcmp, 1) := by decide +kernel
theorem d_Y_addScore_20 : decode c_Y_addScore 20 = .ok (.ifCond .ne 21, 3) := by decide +kernel
theorem d_Y_addScore_23 : decode c_Y_addScore 23 = .ok (.aload_n 0, 1) := by decide +kernel
theorem d_Y_addScore_24 : decode c_Y_addScore 24 = .ok (.getfield 44, 3) := by decide +kernel
theorem d_Y_addScore_27 : decode c_Y_addScore 27 = .ok (.aload_n 0, 1) := by decide +kernel
theorem d_Y_addScore_28 : decode c_Y_addScore 28 = .ok (.getfield 54, 3) := by decide +kernel
theorem d_Y_addScore_31 : decode c_Y_addScore 31 = .ok (.iconst 1, 1) := by decide +kernel
theorem d_Y_addScore_32 : decode c_Y_addScore 32 = .ok (.isub, 1) := by decide +kernel
theorem d_Y_addScore_33 : decode c_Y_addScore 33 = .ok (.dup2, 1) := by decide +kernel
theorem d_Y_addScore_34 : decode c_Y_addScore 34 = .ok (.iaload, 1) := by decide +kernel
theorem d_Y_addScore_35 : decode c_Y_addScore 35 = .ok (.iload_n 3, 1) := by decide +kernel
theorem d_Y_addScore_36 : decode c_Y_addScore 36 = .ok (.iadd, 1) := by decide +kernel
theorem d_Y_addScore_37 : decode c_Y_addScore 37 = .ok (.iastore, 1) := by decide +kernel
theorem d_Y_addScore_38 : decode c_Y_addScore 38 = .ok (.goto 45, 3) := by decide +kernel
theorem d_Y_addScore_41 : decode c_Y_addScore 41 = .ok (.aload_n 0, 1) := by decide +kernel
theorem d_Y_addScore_42 : decode c_Y_addScore 42 = .ok (.getfield 54, 3) := by decide +kernel
theorem d_Y_addScore_45 : decode c_Y_addScore 45 = .ok (.aload_n 0, 1) := by decide +kernel
theorem d_Y_addScore_46 : decode c_Y_addScore 46 = .ok (.getfield 41, 3) := by decide +kernel
theorem d_Y_addScore_49 : decode c_Y_addScore 49 = .ok (.arraylength, 1) := by decide +kernel
theorem d_Y_addScore_50 : decode c_Y_addScore 50 = .ok (.if_icmp .ge 33, 3) := by decide +kernel
theorem d_Y_addScore_53 : decode c_Y_addScore 53 = .ok (.aload_n 0, 1) := by decide +kernel
theorem d_Y_addScore_54 : decode c_Y_addScore 54 = .ok (.getfield 41, 3) := by decide +kernel
theorem d_Y_addScore_57 : decode c_Y_addScore 57 = .ok (.aload_n 0, 1) := by decide +kernel
theorem d_Y_addScore_58 : decode c_Y_addScore 58 = .ok (.getfield 54, 3) := by decide +kernel
theorem d_Y_addScore_61 : decode c_Y_addScore 61 = .ok (.lload_n 1, 1) := by decide +kernel
theorem d_Y_addScore_62 : decode c_Y_addScore 62 = .ok (.lastore, 1) := by decide +kernel
theorem d_Y_addScore_63 : decode c_Y_addScore 63 = .ok (.aload_n 0, 1) := by decide +kernel
theorem d_Y_addScore_64 : decode c_Y_addScore 64 = .ok (.getfield 44, 3) := by decide +kernel
theorem d_Y_addScore_67 : decode c_Y_addScore 67 = .ok (.aload_n 0, 1) := by decide +kernel
theorem d_Y_addScore_68 : decode c_Y_addScore 68 = .ok (.getfield 54, 3) := by decide +kernel
theorem d_Y_addScore_71 : decode c_Y_addScore 71 = .ok (.iload_n 3, 1) := by decide +kernel
theorem d_Y_addScore_72 : decode c_Y_addScore 72 = .ok (.iastore, 1) := by decide +kernel
theorem d_Y_addScore_73 : decode c_Y_addScore 73 = .ok (.aload_n 0, 1) := by decide +kernel
theorem d_Y_addScore_74 : decode c_Y_addScore 74 = .ok (.dup, 1) := by decide +kernel
theorem d_Y_addScore_75 : decode c_Y_addScore 75 = .ok (.getfield 54, 3) := by decide +kernel
theorem d_Y_addScore_78 : decode c_Y_addScore 78 = .ok (.iconst 1, 1) := by decide +kernel
theorem d_Y_addScore_79 : decode c_Y_addScore 79 = .ok (.iadd, 1) := by decide +kernel
theorem d_Y_addScore_80 : decode c_Y_addScore 80 = .ok (.putfield 54, 3) := by decide +kernel
theorem d_Y_addScore_83 : decode c_Y_addScore 83 = .ok (.return_, 1) := by decide +kernel
theorem d_Y_copyInOrder_0 : decode c_Y_copyInOrder 0 = .ok (.iload_n 1, 1) := by decide +kernel
theorem d_Y_copyInOrder_1 : decode c_Y_copyInOrder 1 = .ok (.ifCond .lt 11, 3) := by decide +kernel
theorem d_Y_copyInOrder_4 : decode c_Y_copyInOrder 4 = .ok (.iload_n 1, 1) := by decide +kernel
theorem d_Y_copyInOrder_5 : decode c_Y_copyInOrder 5 = .ok (.aload_n 0, 1) := by decide +kernel
theorem d_Y_copyInOrder_6 : decode c_Y_copyInOrder 6 = .ok (.getfield 51, 3) := by decide +kernel
theorem d_Y_copyInOrder_9 : decode c_Y_copyInOrder 9 = .ok (.if_icmp .lt 5, 3) := by decide +kernel
theorem d_Y_copyInOrder_12 : decode c_Y_copyInOrder 12 = .ok (.iconst (-1), 1) := by decide +kernel
theorem d_Y_copyInOrder_13 : decode c_Y_copyInOrder 13 = .ok (.ireturn, 1) := by decide +kernel
theorem d_Y_copyInOrder_14 : decode c_Y_copyInOrder 14 = .ok (.aload_n 0, 1) := by decide +kernel
theorem d_Y_copyInOrder_15 : decode c_Y_copyInOrder 15 = .ok (.iconst 0, 1) := by decide +kernel
theorem d_Y_copyInOrder_16 : decode c_Y_copyInOrder 16 = .ok (.invokevirtual 75, 3) := by decide +kernel
theorem d_Y_copyInOrder_19 : decode c_Y_copyInOrder 19 = .ok (.istore_n 2, 1) := by decide +kernel
theorem d_Y_copyInOrder_20 : decode c_Y_copyInOrder 20 = .ok (.iload_n 1, 1) := by decide +kernel
theorem d_Y_copyInOrder_21 : decode c_Y_copyInOrder 21 = .ok (.iload_n 2, 1) := by decide +kernel
theorem d_Y_copyInOrder_22 : decode c_Y_copyInOrder 22 = .ok (.if_icmp .ge 12, 3) := by decide +kernel
theorem d_Y_copyInOrder_25 : decode c_Y_copyInOrder 25 = .ok (.aload_n 0, 1) := by decide +kernel
theorem d_Y_copyInOrder_26 : decode c_Y_copyInOrder 26 = .ok (.iconst 0, 1) := by decide +kernel
theorem d_Y_copyInOrder_27 : decode c_Y_copyInOrder 27 = .ok (.iload_n 1, 1) := by decide +kernel
theorem d_Y_copyInOrder_28 : decode c_Y_copyInOrder 28 = .ok (.invokevirtual 79, 3) := by decide +kernel
theorem d_Y_copyInOrder_31 : decode c_Y_copyInOrder 31 = .ok (.goto 11, 3) := by decide +kernel
theorem d_Y_copyInOrder_34 : decode c_Y_copyInOrder 34 = .ok (.aload_n 0, 1) := by decide +kernel
theorem d_Y_copyInOrder_35 : decode c_Y_copyInOrder 35 = .ok (.iconst 1, 1) := by decide +kernel
theorem d_Y_copyInOrder_36 : decode c_Y_copyInOrder 36 = .ok (.iload_n 1, 1) := by decide +kernel
theorem d_Y_copyInOrder_37 : decode c_Y_copyInOrder 37 = .ok (.iload_n 2, 1) := by decide +kernel
theorem d_Y_copyInOrder_38 : decode c_Y_copyInOrder 38 = .ok (.isub, 1) := by decide +kernel
theorem d_Y_copyInOrder_39 : decode c_Y_copyInOrder 39 = .ok (.invokevirtual 79, 3) := by decide +kernel
theorem d_Y_copyInOrder_42 : decode c_Y_copyInOrder 42 = .ok (.ireturn, 1) := by decide +kernel
theorem d_Y_countOf_0 : decode c_Y_countOf 0 = .ok (.iconst 0, 1) := by decide +kernel
theorem d_Y_countOf_1 : decode c_Y_countOf 1 = .ok (.istore_n 2, 1) := by decide +kernel
theorem d_Y_countOf_2 : decode c_Y_countOf 2 = .ok (.iconst 0, 1) := by decide +kernel
theorem d_Y_countOf_3 : decode c_Y_countOf 3 = .ok (.istore_n 3, 1) := by decide +kernel
theorem d_Y_countOf_4 : decode c_Y_countOf 4 = .ok (.iload_n 3, 1) := by decide +kernel
theorem d_Y_countOf_5 : decode c_Y_countOf 5 = .ok (.aload_n 0, 1) := by decide +kernel
theorem d_Y_countOf_6 : decode c_Y_countOf 6 = .ok (.getfield 51, 3) := by decide +kernel
theorem d_Y_countOf_9 : decode c_Y_countOf 9 = .ok (.if_icmp .ge 22, 3) := by decide +kernel
theorem d_Y_countOf_12 : decode c_Y_countOf 12 = .ok (.aload_n 0, 1) := by decide +kernel
theorem d_Y_countOf_13 : decode c_Y_countOf 13 = .ok (.getfield 37, 3) := by decide +kernel
theorem d_Y_countOf_16 : decode c_Y_countOf 16 = .ok (.iload_n 3, 1) := by decide +kernel
theorem d_Y_countOf_17 : decode c_Y_countOf 17 = .ok (.baload, 1) := by decide +kernel
theorem d_Y_countOf_18 : decode c_Y_countOf 18 = .ok (.iload_n 1, 1) := by decide +kernel
theorem d_Y_countOf_19 : decode c_Y_countOf 19 = .ok (.if_icmp .ne 6, 3) := by decide +kernel
theorem d_Y_countOf_22 : decode c_Y_countOf 22 = .ok (.iinc 2 1, 3) := by decide +kernel
theorem d_Y_countOf_25 : decode c_Y_countOf 25 = .ok (.iinc 3 1, 3) := by decide +kernel
theorem d_Y_countOf_28 : decode c_Y_countOf 28 = .ok (.goto (-24), 3) := by decide +kernel
theorem d_Y_countOf_31 : decode c_Y_countOf 31 = .ok (.iload_n 2, 1) := by decide +kernel
theorem d_Y_countOf_32 : decode c_Y_countOf 32 = .ok (.ireturn, 1) := by decide +kernel
theorem d_Y_nthOf_0 : decode c_Y_nthOf 0 = .ok (.iload_n 2, 1) := by decide +kernel
theorem d_Y_nthOf_1 : decode c_Y_nthOf 1 = .ok (.istore_n 3, 1) := by decide +kernel
theorem d_Y_nthOf_2 : decode c_Y_nthOf 2 = .ok (.iconst 0, 1) := by decide +kernel
theorem d_Y_nthOf_3 : decode c_Y_nthOf 3 = .ok (.istore 4, 2) := by decide +kernel
theorem d_Y_nthOf_5 : decode c_Y_nthOf 5 = .ok (.iload 4, 2) := by decide +kernel
theorem d_Y_nthOf_7 : decode c_Y_nthOf 7 = .ok (.aload_n 0, 1) := by decide +kernel
theorem d_Y_nthOf_8 : decode c_Y_nthOf 8 = .ok (.getfield 51, 3) := by decide +kernel
theorem d_Y_nthOf_11 : decode c_Y_nthOf 11 = .ok (.if_icmp .ge 30, 3) := by decide +kernel
theorem d_Y_nthOf_14 : decode c_Y_nthOf 14 = .ok (.aload_n 0, 1) := by decide +kernel
theorem d_Y_nthOf_15 : decode c_Y_nthOf 15 = .ok (.getfield 37, 3) := by decide +kernel
theorem d_Y_nthOf_18 : decode c_Y_nthOf 18 = .ok (.iload 4, 2) := by decide +kernel
theorem d_Y_nthOf_20 : decode c_Y_nthOf 20 = .ok (.baload, 1) := by decide +kernel
theorem d_Y_nthOf_21 : decode c_Y_nthOf 21 = .ok (.iload_n 1, 1) := by decide +kernel
theorem d_Y_nthOf_22 : decode c_Y_nthOf 22 = .ok (.if_icmp .ne 13, 3) := by decide +kernel
theorem d_Y_nthOf_25 : decode c_Y_nthOf 25 = .ok (.iload_n 3, 1) := by decide +kernel
theorem d_Y_nthOf_26 : decode c_Y_nthOf 26 = .ok (.ifCond .ne 6, 3) := by decide +kernel
theorem d_Y_nthOf_29 : decode c_Y_nthOf 29 = .ok (.iload 4, 2) := by decide +kernel
theorem d_Y_nthOf_31 : decode c_Y_nthOf 31 = .ok (.ireturn, 1) := by decide +kernel
theorem d_Y_nthOf_32 : decode c_Y_nthOf 32 = .ok (.iinc 3 (-1), 3) := by decide +kernel
theorem d_Y_nthOf_35 : decode c_Y_nthOf 35 = .ok (.iinc 4 1, 3) := by decide +kernel
theorem d_Y_nthOf_38 : decode c_Y_nthOf 38 = .ok (.goto (-33), 3) := by decide +kernel
theorem d_Y_nthOf_41 : decode c_Y_nthOf 41 = .ok (.iconst (-1), 1) := by decide +kernel
theorem d_Y_nthOf_42 : decode c_Y_nthOf 42 = .ok (.ireturn, 1) := by decide +kernel
end
section
theorem d_P_init_0 : decode c_P_init 0 = .ok (.aload_n 0, 1) := by decide +kernel
theorem d_P_init_1 : decode c_P_init 1 = .ok (.invokespecial 3, 3) := by decide +kernel
theorem d_P_init_4 : decode c_P_init 4 = .ok (.aload_n 0, 1) := by decide +kernel
theorem d_P_init_5 : decode c_P_init 5 = .ok (.lload_n 1, 1) := by decide +kernel
theorem d_P_init_6 : decode c_P_init 6 = .ok (.invokestatic 9, 3) := by decide +kernel
theorem d_P_init_9 : decode c_P_init 9 = .ok (.putfield 13, 3) := by decide +kernel
theorem d_P_init_12 : decode c_P_init 12 = .ok (.aload_n 0, 1) := by decide +kernel
theorem d_P_init_13 : decode c_P_init 13 = .ok (.lload_n 3, 1) := by decide +kernel
theorem d_P_init_14 : decode c_P_init 14 = .ok (.invokestatic 9, 3) := by decide +kernel
theorem d_P_init_17 : decode c_P_init 17 = .ok (.putfield 17, 3) := by decide +kernel
theorem d_P_init_20 : decode c_P_init 20 = .ok (.aload_n 0, 1) := by decide +kernel
theorem d_P_init_21 : decode c_P_init 21 = .ok (.iconst 4, 1) := by decide +kernel
theorem d_P_init_22 : decode c_P_init 22 = .ok (.anewarray 20, 3) := by decide +kernel
theorem d_P_init_25 : decode c_P_init 25 = .ok (.putfield 22, 3) := by decide +kernel
theorem d_P_init_28 : decode c_P_init 28 = .ok (.iconst 0, 1) := by decide +kernel
theorem d_P_init_29 : decode c_P_init 29 = .ok (.istore 5, 2) := by decide +kernel
theorem d_P_init_31 : decode c_P_init 31 = .ok (.iload 5, 2) := by decide +kernel
theorem d_P_init_33 : decode c_P_init 33 = .ok (.iconst 4, 1) := by decide +kernel
theorem d_P_init_34 : decode c_P_init 34 = .ok (.if_icmp .ge 23, 3) := by decide +kernel
theorem d_P_init_37 : decode c_P_init 37 = .ok (.aload_n 0, 1) := by decide +kernel
theorem d_P_init_38 : decode c_P_init 38 = .ok (.getfield 22, 3) := by decide +kernel
theorem d_P_init_41 : decode c_P_init 41 = .ok (.iload 5, 2) := by decide +kernel
theorem d_P_init_43 : decode c_P_init 43 = .ok (.new 20, 3) := by decide +kernel
theorem d_P_init_46 : decode c_P_init 46 = .ok (.dup, 1) := by decide +kernel
theorem d_P_init_47 : decode c_P_init 47 = .ok (.invokespecial 26, 3) := by decide +kernel
theorem d_P_init_50 : decode c_P_init 50 = .ok (.aastore, 1) := by decide +kernel
theorem d_P_init_51 : decode c_P_init 51 = .ok (.iinc 5 1, 3) := by decide +kernel
theorem d_P_init_54 : decode c_P_init 54 = .ok (.goto (-23), 3) := by decide +kernel
theorem d_P_init_57 : decode c_P_init 57 = .ok (.aload_n 0, 1) := by decide +kernel
theorem d_P_init_58 : decode c_P_init 58 = .ok (.iconst 4, 1) := by decide +kernel
theorem d_P_init_59 : decode c_P_init 59 = .ok (.newarray .long, 2) := by decide +kernel
theorem d_P_init_61 : decode c_P_init 61 = .ok (.putfield 27, 3) := by decide +kernel
theorem d_P_init_64 : decode c_P_init 64 = .ok (.aload_n 0, 1) := by decide +kernel
theorem d_P_init_65 : decode c_P_init 65 = .ok (.new 31, 3) := by decide +kernel
theorem d_P_init_68 : decode c_P_init 68 = .ok (.dup, 1) := by decide +kernel
theorem d_P_init_69 : decode c_P_init 69 = .ok (.invokespecial 33, 3) := by decide +kernel
theorem d_P_init_72 : decode c_P_init 72 = .ok (.putfield 34, 3) := by decide +kernel
theorem d_P_init_75 : decode c_P_init 75 = .ok (.aload_n 0, 1) := by decide +kernel
theorem d_P_init_76 : decode c_P_init 76 = .ok (.new 38, 3) := by decide +kernel
theorem d_P_init_79 : decode c_P_init 79 = .ok (.dup, 1) := by decide +kernel
theorem d_P_init_80 : decode c_P_init 80 = .ok (.invokespecial 40, 3) := by decide +kernel
theorem d_P_init_83 : decode c_P_init 83 = .ok (.putfield 41, 3) := by decide +kernel
theorem d_P_init_86 : decode c_P_init 86 = .ok (.return_, 1) := by decide +kernel
theorem d_P_board_0 : decode c_P_board 0 = .ok (.aload_n 0, 1) := by decide +kernel
theorem d_P_board_1 : decode c_P_board 1 = .ok (.getfield 45, 3) := by decide +kernel
theorem d_P_board_4 : decode c_P_board 4 = .ok (.iconst 4, 1) := by decide +kernel
theorem d_P_board_5 : decode c_P_board 5 = .ok (.if_icmp .lt 5, 3) := by decide +kernel
theorem d_P_board_8 : decode c_P_board 8 = .ok (.iconst (-1), 1) := by decide +kernel
theorem d_P_board_9 : decode c_P_board 9 = .ok (.ireturn, 1) := by decide +kernel
theorem d_P_board_10 : decode c_P_board 10 = .ok (.aload_n 0, 1) := by decide +kernel
theorem d_P_board_11 : decode c_P_board 11 = .ok (.dup, 1) := by decide +kernel
theorem d_P_board_12 : decode c_P_board 12 = .ok (.getfield 45, 3) := by decide +kernel
theorem d_P_board_15 : decode c_P_board 15 = .ok (.iconst 1, 1) := by decide +kernel
theorem d_P_board_16 : decode c_P_board 16 = .ok (.iadd, 1) := by decide +kernel
theorem d_P_board_17 : decode c_P_board 17 = .ok (.putfield 45, 3) := by decide +kernel
theorem d_P_board_20 : decode c_P_board 20 = .ok (.aload_n 0, 1) := by decide +kernel
theorem d_P_board_21 : decode c_P_board 21 = .ok (.getfield 45, 3) := by decide +kernel
theorem d_P_board_24 : decode c_P_board 24 = .ok (.iconst 1, 1) := by decide +kernel
theorem d_P_board_25 : decode c_P_board 25 = .ok (.isub, 1) := by decide +kernel
theorem d_P_board_26 : decode c_P_board 26 = .ok (.ireturn, 1) := by decide +kernel
theorem d_P_corner_0 : decode c_P_corner 0 = .ok (.aload_n 0, 1) := by decide +kernel
theorem d_P_corner_1 : decode c_P_corner 1 = .ok (.iload_n 1, 1) := by decide +kernel
theorem d_P_corner_2 : decode c_P_corner 2 = .ok (.invokevirtual 49, 3) := by decide +kernel
theorem d_P_corner_5 : decode c_P_corner 5 = .ok (.lload_n 2, 1) := by decide +kernel
theorem d_P_corner_6 : decode c_P_corner 6 = .ok (.invokestatic 53, 3) := by decide +kernel
theorem d_P_corner_9 : decode c_P_corner 9 = .ok (.lload 4, 2) := by decide +kernel
theorem d_P_corner_11 : decode c_P_corner 11 = .ok (.invokestatic 53, 3) := by decide +kernel
theorem d_P_corner_14 : decode c_P_corner 14 = .ok (.aload_n 0, 1) := by decide +kernel
theorem d_P_corner_15 : decode c_P_corner 15 = .ok (.getfield 22, 3) := by decide +kernel
theorem d_P_corner_18 : decode c_P_corner 18 = .ok (.iload_n 1, 1) := by decide +kernel
theorem d_P_corner_19 : decode c_P_corner 19 = .ok (.aaload, 1) := by decide +kernel
theorem d_P_corner_20 : decode c_P_corner 20 = .ok (.lload_n 2, 1) := by decide +kernel
theorem d_P_corner_21 : decode c_P_corner 21 = .ok (.lload 4, 2) := by decide +kernel
theorem d_P_corner_23 : decode c_P_corner 23 = .ok (.invokevirtual 57, 3) := by decide +kernel
theorem d_P_corner_26 : decode c_P_corner 26 = .ok (.ireturn, 1) := by decide +kernel
theorem d_P_run_0 : decode c_P_run 0 = .ok (.iload_n 1, 1) := by decide +kernel
theorem d_P_run_1 : decode c_P_run 1 = .ok (.i2l, 1) := by decide +kernel
theorem d_P_run_2 : decode c_P_run 2 = .ok (.lconst 0, 1) := by decide +kernel
theorem d_P_run_3 : decode c_P_run 3 = .ok (.ldc2_w 61, 3) := by decide +kernel
theorem d_P_run_6 : decode c_P_run 6 = .ok (.invokestatic 63, 3) := by decide +kernel
theorem d_P_run_9 : decode c_P_run 9 = .ok (.ifCond .eq 14, 3) := by decide +kernel
theorem d_P_run_12 : decode c_P_run 12 = .ok (.lload_n 2, 1) := by decide +kernel
theorem d_P_run_13 : decode c_P_run 13 = .ok (.lconst 0, 1) := by decide +kernel
theorem d_P_run_14 : decode c_P_run 14 = .ok (.ldc2_w 67, 3) := by decide +kernel
theorem d_P_run_17 : decode c_P_run 17 = .ok (.invokestatic 63, 3) := by decide +kernel
theorem d_P_run_20 : decode c_P_run 20 = .ok (.ifCond .ne 13, 3) := by decide +kernel
theorem d_P_run_23 : decode c_P_run 23 = .ok (.new 69, 3) := by decide +kernel
theorem d_P_run_26 : decode c_P_run 26 = .ok (.dup, 1) := by decide +kernel
theorem d_P_run_27 : decode c_P_run 27 = .ok (.ldc 71, 2) := by decide +kernel
theorem d_P_run_29 : decode c_P_run 29 = .ok (.invokespecial 73, 3) := by decide +kernel
theorem d_P_run_32 : decode c_P_run 32 = .ok (.athrow, 1) := by decide +kernel
theorem d_P_run_33 : decode c_P_run 33 = .ok (.lload_n 2, 1) := by decide +kernel
theorem d_P_run_34 : decode c_P_run 34 = .ok (.l2i, 1) := by decide +kernel
theorem d_P_run_35 : decode c_P_run 35 = .ok (.istore 4, 2) := by decide +kernel
theorem d_P_run_37 : decode c_P_run 37 = .ok (.iload_n 1, 1) := by decide +kernel
theorem d_P_run_38 : decode c_P_run 38 = .ok (.aload_n 0, 1) := by decide +kernel
theorem d_P_run_39 : decode c_P_run 39 = .ok (.getfield 45, 3) := by decide +kernel
theorem d_P_run_42 : decode c_P_run 42 = .ok (.invokestatic 76, 3) := by decide +kernel
theorem d_P_run_45 : decode c_P_run 45 = .ok (.istore 5, 2) := by decide +kernel
theorem d_P_run_47 : decode c_P_run 47 = .ok (.aload_n 0, 1) := by decide +kernel
theorem d_P_run_48 : decode c_P_run 48 = .ok (.getfield 17, 3) := by decide +kernel
theorem d_P_run_51 : decode c_P_run 51 = .ok (.aload_n 0, 1) := by decide +kernel
theorem d_P_run_52 : decode c_P_run 52 = .ok (.getfield 27, 3) := by decide +kernel
theorem d_P_run_55 : decode c_P_run 55 = .ok (.iconst 1, 1) := by decide +kernel
theorem d_P_run_56 : decode c_P_run 56 = .ok (.laload, 1) := by decide +kernel
theorem d_P_run_57 : decode c_P_run 57 = .ok (.lsub, 1) := by decide +kernel
theorem d_P_run_58 : decode c_P_run 58 = .ok (.aload_n 0, 1) := by decide +kernel
theorem d_P_run_59 : decode c_P_run 59 = .ok (.getfield 27, 3) := by decide +kernel
theorem d_P_run_62 : decode c_P_run 62 = .ok (.iconst 3, 1) := by decide +kernel
theorem d_P_run_63 : decode c_P_run 63 = .ok (.laload, 1) := by decide +kernel
theorem d_P_run_64 : decode c_P_run 64 = .ok (.lsub, 1) := by decide +kernel
theorem d_P_run_65 : decode c_P_run 65 = .ok (.lstore 6, 2) := by decide +kernel
theorem d_P_run_67 : decode c_P_run 67 = .ok (.aload_n 0, 1) := by decide +kernel
theorem d_P_run_68 : decode c_P_run 68 = .ok (.iload 5, 2) := by decide +kernel
theorem d_P_run_70 : decode c_P_run 70 = .ok (.invokevirtual 82, 3) := by decide +kernel
theorem d_P_run_73 : decode c_P_run 73 = .ok (.aload_n 0, 1) := by decide +kernel
theorem d_P_run_74 : decode c_P_run 74 = .ok (.getfield 34, 3) := by decide +kernel
theorem d_P_run_77 : decode c_P_run 77 = .ok (.iload 4, 2) := by decide +kernel
theorem d_P_run_79 : decode c_P_run 79 = .ok (.lload 6, 2) := by decide +kernel
theorem d_P_run_81 : decode c_P_run 81 = .ok (.invokevirtual 85, 3) := by decide +kernel
theorem d_P_run_84 : decode c_P_run 84 = .ok (.aload_n 0, 1) := by decide +kernel
theorem d_P_run_85 : decode c_P_run 85 = .ok (.invokevirtual 89, 3) := by decide +kernel
theorem d_P_run_88 : decode c_P_run 88 = .ok (.aload_n 0, 1) := by decide +kernel
theorem d_P_run_89 : decode c_P_run 89 = .ok (.iload 5, 2) := by decide +kernel
theorem d_P_run_91 : decode c_P_run 91 = .ok (.aload_n 0, 1) := by decide +kernel
theorem d_P_run_92 : decode c_P_run 92 = .ok (.getfield 45, 3) := by decide +kernel
theorem d_P_run_95 : decode c_P_run 95 = .ok (.if_icmp .ne 23, 3) := by decide +kernel
theorem d_P_run_98 : decode c_P_run 98 = .ok (.aload_n 0, 1) := by decide +kernel
theorem d_P_run_99 : decode c_P_run 99 = .ok (.getfield 34, 3) := by decide +kernel
theorem d_P_run_102 : decode c_P_run 102 = .ok (.iload 4, 2) := by decide +kernel
theorem d_P_run_104 : decode c_P_run 104 = .ok (.iconst 1, 1) := by decide +kernel
theorem d_P_run_105 : decode c_P_run 105 = .ok (.iadd, 1) := by decide +kernel
theorem d_P_run_106 : decode c_P_run 106 = .ok (.lload 6, 2) := by decide +kernel
theorem d_P_run_108 : decode c_P_run 108 = .ok (.invokevirtual 92, 3) := by decide +kernel
theorem d_P_run_111 : decode c_P_run 111 = .ok (.ifCond .ne 7, 3) := by decide +kernel
theorem d_P_run_114 : decode c_P_run 114 = .ok (.iconst 1, 1) := by decide +kernel
theorem d_P_run_115 : decode c_P_run 115 = .ok (.goto 4, 3) := by decide +kernel
theorem d_P_run_118 : decode c_P_run 118 = .ok (.iconst 0, 1) := by decide +kernel
theorem d_P_run_119 : decode c_P_run 119 = .ok (.putfield 96, 3) := by decide +kernel
theorem d_P_run_122 : decode c_P_run 122 = .ok (.aload_n 0, 1) := by decide +kernel
theorem d_P_run_123 : decode c_P_run 123 = .ok (.getfield 41, 3) := by decide +kernel
theorem d_P_run_126 : decode c_P_run 126 = .ok (.getfield 100, 3) := by decide +kernel
theorem d_P_run_129 : decode c_P_run 129 = .ok (.ireturn, 1) := by decide +kernel
theorem d_P_at_0 : decode c_P_at 0 = .ok (.aload_n 0, 1) := by decide +kernel
theorem d_P_at_1 : decode c_P_at 1 = .ok (.iload_n 1, 1) := by decide +kernel
theorem d_P_at_2 : decode c_P_at 2 = .ok (.invokevirtual 103, 3) := by decide +kernel
theorem d_P_at_5 : decode c_P_at 5 = .ok (.aload_n 0, 1) := by decide +kernel
theorem d_P_at_6 : decode c_P_at 6 = .ok (.getfield 41, 3) := by decide +kernel
theorem d_P_at_9 : decode c_P_at 9 = .ok (.getfield 106, 3) := by decide +kernel
theorem d_P_at_12 : decode c_P_at 12 = .ok (.iload_n 1, 1) := by decide +kernel
theorem d_P_at_13 : decode c_P_at 13 = .ok (.iaload, 1) := by decide +kernel
theorem d_P_at_14 : decode c_P_at 14 = .ok (.istore_n 3, 1) := by decide +kernel
theorem d_P_at_15 : decode c_P_at 15 = .ok (.iload_n 2, 1) := by decide +kernel
theorem d_P_at_16 : decode c_P_at 16 = .ok (.tableswitch 102 0 5 #[40, 51, 61, 71, 82, 92], 40) := by decide +kernel
theorem d_P_at_56 : decode c_P_at 56 = .ok (.aload_n 0, 1) := by decide +kernel
theorem d_P_at_57 : decode c_P_at 57 = .ok (.getfield 41, 3) := by decide +kernel
theorem d_P_at_60 : decode c_P_at 60 = .ok (.getfield 110, 3) := by decide +kernel
theorem d_P_at_63 : decode c_P_at 63 = .ok (.iload_n 3, 1) := by decide +kernel
theorem d_P_at_64 : decode c_P_at 64 = .ok (.iaload, 1) := by decide +kernel
theorem d_P_at_65 : decode c_P_at 65 = .ok (.i2l, 1) := by decide +kernel
theorem d_P_at_66 : decode c_P_at 66 = .ok (.lreturn, 1) := by decide +kernel
theorem d_P_at_67 : decode c_P_at 67 = .ok (.aload_n 0, 1) := by decide +kernel
theorem d_P_at_68 : decode c_P_at 68 = .ok (.getfield 41, 3) := by decide +kernel
theorem d_P_at_71 : decode c_P_at 71 = .ok (.getfield 113, 3) := by decide +kernel
theorem d_P_at_74 : decode c_P_at 74 = .ok (.iload_n 1, 1) := by decide +kernel
theorem d_P_at_75 : decode c_P_at 75 = .ok (.laload, 1) := by decide +kernel
theorem d_P_at_76 : decode c_P_at 76 = .ok (.lreturn, 1) := by decide +kernel
theorem d_P_at_77 : decode c_P_at 77 = .ok (.aload_n 0, 1) := by decide +kernel
theorem d_P_at_78 : decode c_P_at 78 = .ok (.getfield 41, 3) := by decide +kernel
theorem d_P_at_81 : decode c_P_at 81 = .ok (.getfield 116, 3) := by decide +kernel
theorem d_P_at_84 : decode c_P_at 84 = .ok (.iload_n 3, 1) := by decide +kernel
theorem d_P_at_85 : decode c_P_at 85 = .ok (.laload, 1) := by decide +kernel
theorem d_P_at_86 : decode c_P_at 86 = .ok (.lreturn, 1) := by decide +kernel
theorem d_P_at_87 : decode c_P_at 87 = .ok (.aload_n 0, 1) := by decide +kernel
theorem d_P_at_88 : decode c_P_at 88 = .ok (.getfield 41, 3) := by decide +kernel
theorem d_P_at_91 : decode c_P_at 91 = .ok (.getfield 119, 3) := by decide +kernel
theorem d_P_at_94 : decode c_P_at 94 = .ok (.iload_n 3, 1) := by decide +kernel
theorem d_P_at_95 : decode c_P_at 95 = .ok (.iaload, 1) := by decide +kernel
theorem d_P_at_96 : decode c_P_at 96 = .ok (.i2l, 1) := by decide +kernel
theorem d_P_at_97 : decode c_P_at 97 = .ok (.lreturn, 1) := by decide +kernel
theorem d_P_at_98 : decode c_P_at 98 = .ok (.aload_n 0, 1) := by decide +kernel
theorem d_P_at_99 : decode c_P_at 99 = .ok (.getfield 41, 3) := by decide +kernel
theorem d_P_at_102 : decode c_P_at 102 = .ok (.getfield 122, 3) := by decide +kernel
theorem d_P_at_105 : decode c_P_at 105 = .ok (.iload_n 3, 1) := by decide +kernel
theorem d_P_at_106 : decode c_P_at 106 = .ok (.laload, 1) := by decide +kernel
theorem d_P_at_107 : decode c_P_at 107 = .ok (.lreturn, 1) := by decide +kernel
theorem d_P_at_108 : decode c_P_at 108 = .ok (.aload_n 0, 1) := by decide +kernel
theorem d_P_at_109 : decode c_P_at 109 = .ok (.getfield 41, 3) := by decide +kernel
theorem d_P_at_112 : decode c_P_at 112 = .ok (.getfield 125, 3) := by decide +kernel
theorem d_P_at_115 : decode c_P_at 115 = .ok (.iload_n 3, 1) := by decide +kernel
theorem d_P_at_116 : decode c_P_at 116 = .ok (.laload, 1) := by decide +kernel
theorem d_P_at_117 : decode c_P_at 117 = .ok (.lreturn, 1) := by decide +kernel
theorem d_P_at_118 : decode c_P_at 118 = .ok (.new 128, 3) := by decide +kernel
theorem d_P_at_121 : decode c_P_at 121 = .ok (.dup, 1) := by decide +kernel
theorem d_P_at_122 : decode c_P_at 122 = .ok (.ldc 130, 2) := by decide +kernel
theorem d_P_at_124 : decode c_P_at 124 = .ok (.invokespecial 132, 3) := by decide +kernel
theorem d_P_at_127 : decode c_P_at 127 = .ok (.athrow, 1) := by decide +kernel
theorem d_P_proved_0 : decode c_P_proved 0 = .ok (.aload_n 0, 1) := by decide +kernel
theorem d_P_proved_1 : decode c_P_proved 1 = .ok (.getfield 96, 3) := by decide +kernel
theorem d_P_proved_4 : decode c_P_proved 4 = .ok (.ireturn, 1) := by decide +kernel
theorem d_P_gap_0 : decode c_P_gap 0 = .ok (.lload_n 1, 1) := by decide +kernel
theorem d_P_gap_1 : decode c_P_gap 1 = .ok (.invokestatic 53, 3) := by decide +kernel
theorem d_P_gap_4 : decode c_P_gap 4 = .ok (.aload_n 0, 1) := by decide +kernel
theorem d_P_gap_5 : decode c_P_gap 5 = .ok (.getfield 133, 3) := by decide +kernel
theorem d_P_gap_8 : decode c_P_gap 8 = .ok (.lload_n 1, 1) := by decide +kernel
theorem d_P_gap_9 : decode c_P_gap 9 = .ok (.lcmp, 1) := by decide +kernel
theorem d_P_gap_10 : decode c_P_gap 10 = .ok (.ifCond .eq 7, 3) := by decide +kernel
theorem d_P_gap_13 : decode c_P_gap 13 = .ok (.iconst 1, 1) := by decide +kernel
theorem d_P_gap_14 : decode c_P_gap 14 = .ok (.goto 4, 3) := by decide +kernel
theorem d_P_gap_17 : decode c_P_gap 17 = .ok (.iconst 0, 1) := by decide +kernel
theorem d_P_gap_18 : decode c_P_gap 18 = .ok (.istore_n 3, 1) := by decide +kernel
theorem d_P_gap_19 : decode c_P_gap 19 = .ok (.aload_n 0, 1) := by decide +kernel
theorem d_P_gap_20 : decode c_P_gap 20 = .ok (.lload_n 1, 1) := by decide +kernel
theorem d_P_gap_21 : decode c_P_gap 21 = .ok (.putfield 133, 3) := by decide +kernel
theorem d_P_gap_24 : decode c_P_gap 24 = .ok (.iload_n 3, 1) := by decide +kernel
theorem d_P_gap_25 : decode c_P_gap 25 = .ok (.ireturn, 1) := by decide +kernel
theorem d_P_tab_0 : decode c_P_tab 0 = .ok (.aload_n 0, 1) := by decide +kernel
theorem d_P_tab_1 : decode c_P_tab 1 = .ok (.iload_n 1, 1) := by decide +kernel
theorem d_P_tab_2 : decode c_P_tab 2 = .ok (.invokevirtual 103, 3) := by decide +kernel
theorem d_P_tab_5 : decode c_P_tab 5 = .ok (.iload_n 2, 1) := by decide +kernel
theorem d_P_tab_6 : decode c_P_tab 6 = .ok (.invokestatic 136, 3) := by decide +kernel
theorem d_P_tab_9 : decode c_P_tab 9 = .ok (.iload_n 3, 1) := by decide +kernel
theorem d_P_tab_10 : decode c_P_tab 10 = .ok (.invokestatic 139, 3) := by decide +kernel
theorem d_P_tab_13 : decode c_P_tab 13 = .ok (.aload_n 0, 1) := by decide +kernel
theorem d_P_tab_14 : decode c_P_tab 14 = .ok (.getfield 41, 3) := by decide +kernel
theorem d_P_tab_17 : decode c_P_tab 17 = .ok (.getfield 106, 3) := by decide +kernel
theorem d_P_tab_20 : decode c_P_tab 20 = .ok (.iload_n 1, 1) := by decide +kernel
theorem d_P_tab_21 : decode c_P_tab 21 = .ok (.iaload, 1) := by decide +kernel
theorem d_P_tab_22 : decode c_P_tab 22 = .ok (.istore 4, 2) := by decide +kernel
theorem d_P_tab_24 : decode c_P_tab 24 = .ok (.iload_n 2, 1) := by decide +kernel
theorem d_P_tab_25 : decode c_P_tab 25 = .ok (.iconst 0, 1) := by decide +kernel
theorem d_P_tab_26 : decode c_P_tab 26 = .ok (.iconst 2, 1) := by decide +kernel
theorem d_P_tab_27 : decode c_P_tab 27 = .ok (.aload_n 0, 1) := by decide +kernel
theorem d_P_tab_28 : decode c_P_tab 28 = .ok (.getfield 41, 3) := by decide +kernel
theorem d_P_tab_31 : decode c_P_tab 31 = .ok (.getfield 122, 3) := by decide +kernel
theorem d_P_tab_34 : decode c_P_tab 34 = .ok (.iload 4, 2) := by decide +kernel
theorem d_P_tab_36 : decode c_P_tab 36 = .ok (.laload, 1) := by decide +kernel
theorem d_P_tab_37 : decode c_P_tab 37 = .ok (.invokestatic 142, 3) := by decide +kernel
theorem d_P_tab_40 : decode c_P_tab 40 = .ok (.lstore 5, 2) := by decide +kernel
theorem d_P_tab_42 : decode c_P_tab 42 = .ok (.iload_n 2, 1) := by decide +kernel
theorem d_P_tab_43 : decode c_P_tab 43 = .ok (.iconst 1, 1) := by decide +kernel
theorem d_P_tab_44 : decode c_P_tab 44 = .ok (.iconst 3, 1) := by decide +kernel
theorem d_P_tab_45 : decode c_P_tab 45 = .ok (.aload_n 0, 1) := by decide +kernel
theorem d_P_tab_46 : decode c_P_tab 46 = .ok (.getfield 41, 3) := by decide +kernel
theorem d_P_tab_49 : decode c_P_tab 49 = .ok (.getfield 125, 3) := by decide +kernel
theorem d_P_tab_52 : decode c_P_tab 52 = .ok (.iload 4, 2) := by decide +kernel
theorem d_P_tab_54 : decode c_P_tab 54 = .ok (.laload, 1) := by decide +kernel
theorem d_P_tab_55 : decode c_P_tab 55 = .ok (.invokestatic 142, 3) := by decide +kernel
theorem d_P_tab_58 : decode c_P_tab 58 = .ok (.lstore 7, 2) := by decide +kernel
theorem d_P_tab_60 : decode c_P_tab 60 = .ok (.aload_n 0, 1) := by decide +kernel
theorem d_P_tab_61 : decode c_P_tab 61 = .ok (.getfield 22, 3) := by decide +kernel
theorem d_P_tab_64 : decode c_P_tab 64 = .ok (.aload_n 0, 1) := by decide +kernel
theorem d_P_tab_65 : decode c_P_tab 65 = .ok (.getfield 41, 3) := by decide +kernel
theorem d_P_tab_68 : decode c_P_tab 68 = .ok (.getfield 110, 3) := by decide +kernel
theorem d_P_tab_71 : decode c_P_tab 71 = .ok (.iload 4, 2) := by decide +kernel
theorem d_P_tab_73 : decode c_P_tab 73 = .ok (.iaload, 1) := by decide +kernel
theorem d_P_tab_74 : decode c_P_tab 74 = .ok (.aaload, 1) := by decide +kernel
theorem d_P_tab_75 : decode c_P_tab 75 = .ok (.lload 5, 2) := by decide +kernel
theorem d_P_tab_77 : decode c_P_tab 77 = .ok (.lload 7, 2) := by decide +kernel
theorem d_P_tab_79 : decode c_P_tab 79 = .ok (.aload_n 0, 1) := by decide +kernel
theorem d_P_tab_80 : decode c_P_tab 80 = .ok (.getfield 41, 3) := by decide +kernel
theorem d_P_tab_83 : decode c_P_tab 83 = .ok (.getfield 119, 3) := by decide +kernel
theorem d_P_tab_86 : decode c_P_tab 86 = .ok (.iload 4, 2) := by decide +kernel
theorem d_P_tab_88 : decode c_P_tab 88 = .ok (.iaload, 1) := by decide +kernel
theorem d_P_tab_89 : decode c_P_tab 89 = .ok (.invokevirtual 146, 3) := by decide +kernel
theorem d_P_tab_92 : decode c_P_tab 92 = .ok (.ifCond .eq 13, 3) := by decide +kernel
theorem d_P_tab_95 : decode c_P_tab 95 = .ok (.new 150, 3) := by decide +kernel
theorem d_P_tab_98 : decode c_P_tab 98 = .ok (.dup, 1) := by decide +kernel
theorem d_P_tab_99 : decode c_P_tab 99 = .ok (.ldc 152, 2) := by decide +kernel
theorem d_P_tab_101 : decode c_P_tab 101 = .ok (.invokespecial 154, 3) := by decide +kernel
theorem d_P_tab_104 : decode c_P_tab 104 = .ok (.athrow, 1) := by decide +kernel
theorem d_P_tab_105 : decode c_P_tab 105 = .ok (.iload_n 3, 1) := by decide +kernel
theorem d_P_tab_106 : decode c_P_tab 106 = .ok (.ifCond .ne 18, 3) := by decide +kernel
theorem d_P_tab_109 : decode c_P_tab 109 = .ok (.aload_n 0, 1) := by decide +kernel
theorem d_P_tab_110 : decode c_P_tab 110 = .ok (.getfield 41, 3) := by decide +kernel
theorem d_P_tab_113 : decode c_P_tab 113 = .ok (.getfield 113, 3) := by decide +kernel
theorem d_P_tab_116 : decode c_P_tab 116 = .ok (.iload_n 1, 1) := by decide +kernel
theorem d_P_tab_117 : decode c_P_tab 117 = .ok (.laload, 1) := by decide +kernel
theorem d_P_tab_118 : decode c_P_tab 118 = .ok (.lload 5, 2) := by decide +kernel
theorem d_P_tab_120 : decode c_P_tab 120 = .ok (.ladd, 1) := by decide +kernel
theorem d_P_tab_121 : decode c_P_tab 121 = .ok (.goto 16, 3) := by decide +kernel
theorem d_P_tab_124 : decode c_P_tab 124 = .ok (.aload_n 0, 1) := by decide +kernel
theorem d_P_tab_125 : decode c_P_tab 125 = .ok (.getfield 41, 3) := by decide +kernel
theorem d_P_tab_128 : decode c_P_tab 128 = .ok (.getfield 116, 3) := by decide +kernel
theorem d_P_tab_131 : decode c_P_tab 131 = .ok (.iload 4, 2) := by decide +kernel
theorem d_P_tab_133 : decode c_P_tab 133 = .ok (.laload, 1) := by decide +kernel
theorem d_P_tab_134 : decode c_P_tab 134 = .ok (.lload 7, 2) := by decide +kernel
theorem d_P_tab_136 : decode c_P_tab 136 = .ok (.ladd, 1) := by decide +kernel
theorem d_P_tab_137 : decode c_P_tab 137 = .ok (.lreturn, 1) := by decide +kernel
theorem d_P_score_0 : decode c_P_score 0 = .ok (.iload_n 1, 1) := by decide +kernel
theorem d_P_score_1 : decode c_P_score 1 = .ok (.i2l, 1) := by decide +kernel
theorem d_P_score_2 : decode c_P_score 2 = .ok (.lconst 0, 1) := by decide +kernel
theorem d_P_score_3 : decode c_P_score 3 = .ok (.aload_n 0, 1) := by decide +kernel
theorem d_P_score_4 : decode c_P_score 4 = .ok (.getfield 41, 3) := by decide +kernel
theorem d_P_score_7 : decode c_P_score 7 = .ok (.getfield 155, 3) := by decide +kernel
theorem d_P_score_10 : decode c_P_score 10 = .ok (.iconst 1, 1) := by decide +kernel
theorem d_P_score_11 : decode c_P_score 11 = .ok (.isub, 1) := by decide +kernel
theorem d_P_score_12 : decode c_P_score 12 = .ok (.i2l, 1) := by decide +kernel
theorem d_P_score_13 : decode c_P_score 13 = .ok (.invokestatic 63, 3) := by decide +kernel
theorem d_P_score_16 : decode c_P_score 16 = .ok (.ifCond .ne 13, 3) := by decide +kernel
theorem d_P_score_19 : decode c_P_score 19 = .ok (.new 128, 3) := by decide +kernel
theorem d_P_score_22 : decode c_P_score 22 = .ok (.dup, 1) := by decide +kernel
theorem d_P_score_23 : decode c_P_score 23 = .ok (.ldc 158, 2) := by decide +kernel
theorem d_P_score_25 : decode c_P_score 25 = .ok (.invokespecial 132, 3) := by decide +kernel
theorem d_P_score_28 : decode c_P_score 28 = .ok (.athrow, 1) := by decide +kernel
theorem d_P_score_29 : decode c_P_score 29 = .ok (.iload_n 2, 1) := by decide +kernel
theorem d_P_score_30 : decode c_P_score 30 = .ok (.invokestatic 139, 3) := by decide +kernel
theorem d_P_score_33 : decode c_P_score 33 = .ok (.iload_n 2, 1) := by decide +kernel
theorem d_P_score_34 : decode c_P_score 34 = .ok (.ifCond .ne 15, 3) := by decide +kernel
theorem d_P_score_37 : decode c_P_score 37 = .ok (.aload_n 0, 1) := by decide +kernel
theorem d_P_score_38 : decode c_P_score 38 = .ok (.getfield 41, 3) := by decide +kernel
theorem d_P_score_41 : decode c_P_score 41 = .ok (.getfield 160, 3) := by decide +kernel
theorem d_P_score_44 : decode c_P_score 44 = .ok (.iload_n 1, 1) := by decide +kernel
theorem d_P_score_45 : decode c_P_score 45 = .ok (.laload, 1) := by decide +kernel
theorem d_P_score_46 : decode c_P_score 46 = .ok (.goto 13, 3) := by decide +kernel
theorem d_P_score_49 : decode c_P_score 49 = .ok (.aload_n 0, 1) := by decide +kernel
theorem d_P_score_50 : decode c_P_score 50 = .ok (.getfield 41, 3) := by decide +kernel
theorem d_P_score_53 : decode c_P_score 53 = .ok (.getfield 163, 3) := by decide +kernel
theorem d_P_score_56 : decode c_P_score 56 = .ok (.iload_n 1, 1) := by decide +kernel
theorem d_P_score_57 : decode c_P_score 57 = .ok (.iaload, 1) := by decide +kernel
theorem d_P_score_58 : decode c_P_score 58 = .ok (.i2l, 1) := by decide +kernel
theorem d_P_score_59 : decode c_P_score 59 = .ok (.lreturn, 1) := by decide +kernel
end
section
theorem d_P_part_0 : decode c_P_part 0 = .ok (.aload_n 0, 1) := by decide +kernel
theorem d_P_part_1 : decode c_P_part 1 = .ok (.iload_n 1, 1) := by decide +kernel
theorem d_P_part_2 : decode c_P_part 2 = .ok (.invokevirtual 49, 3) := by decide +kernel
theorem d_P_part_5 : decode c_P_part 5 = .ok (.lload_n 2, 1) := by decide +kernel
theorem d_P_part_6 : decode c_P_part 6 = .ok (.invokestatic 53, 3) := by decide +kernel
theorem d_P_part_9 : decode c_P_part 9 = .ok (.lload 4, 2) := by decide +kernel
theorem d_P_part_11 : decode c_P_part 11 = .ok (.invokestatic 53, 3) := by decide +kernel
theorem d_P_part_14 : decode c_P_part 14 = .ok (.lload 6, 2) := by decide +kernel
theorem d_P_part_16 : decode c_P_part 16 = .ok (.invokestatic 53, 3) := by decide +kernel
theorem d_P_part_19 : decode c_P_part 19 = .ok (.lload 6, 2) := by decide +kernel
theorem d_P_part_21 : decode c_P_part 21 = .ok (.lconst 0, 1) := by decide +kernel
theorem d_P_part_22 : decode c_P_part 22 = .ok (.lcmp, 1) := by decide +kernel
theorem d_P_part_23 : decode c_P_part 23 = .ok (.ifCond .ne 13, 3) := by decide +kernel
theorem d_P_part_26 : decode c_P_part 26 = .ok (.new 69, 3) := by decide +kernel
theorem d_P_part_29 : decode c_P_part 29 = .ok (.dup, 1) := by decide +kernel
theorem d_P_part_30 : decode c_P_part 30 = .ok (.ldc 166, 2) := by decide +kernel
theorem d_P_part_32 : decode c_P_part 32 = .ok (.invokespecial 73, 3) := by decide +kernel
theorem d_P_part_35 : decode c_P_part 35 = .ok (.athrow, 1) := by decide +kernel
theorem d_P_part_36 : decode c_P_part 36 = .ok (.aload_n 0, 1) := by decide +kernel
theorem d_P_part_37 : decode c_P_part 37 = .ok (.getfield 22, 3) := by decide +kernel
theorem d_P_part_40 : decode c_P_part 40 = .ok (.iload_n 1, 1) := by decide +kernel
theorem d_P_part_41 : decode c_P_part 41 = .ok (.aaload, 1) := by decide +kernel
theorem d_P_part_42 : decode c_P_part 42 = .ok (.lload_n 2, 1) := by decide +kernel
theorem d_P_part_43 : decode c_P_part 43 = .ok (.lload 4, 2) := by decide +kernel
theorem d_P_part_45 : decode c_P_part 45 = .ok (.lload 6, 2) := by decide +kernel
theorem d_P_part_47 : decode c_P_part 47 = .ok (.invokevirtual 168, 3) := by decide +kernel
theorem d_P_part_50 : decode c_P_part 50 = .ok (.ireturn, 1) := by decide +kernel
theorem d_P_waste_0 : decode c_P_waste 0 = .ok (.iload_n 1, 1) := by decide +kernel
theorem d_P_waste_1 : decode c_P_waste 1 = .ok (.invokestatic 139, 3) := by decide +kernel
theorem d_P_waste_4 : decode c_P_waste 4 = .ok (.ldc2_w 171, 3) := by decide +kernel
theorem d_P_waste_7 : decode c_P_waste 7 = .ok (.aload_n 0, 1) := by decide +kernel
theorem d_P_waste_8 : decode c_P_waste 8 = .ok (.getfield 13, 3) := by decide +kernel
theorem d_P_waste_11 : decode c_P_waste 11 = .ok (.lmul, 1) := by decide +kernel
theorem d_P_waste_12 : decode c_P_waste 12 = .ok (.aload_n 0, 1) := by decide +kernel
theorem d_P_waste_13 : decode c_P_waste 13 = .ok (.getfield 17, 3) := by decide +kernel
theorem d_P_waste_16 : decode c_P_waste 16 = .ok (.lmul, 1) := by decide +kernel
theorem d_P_waste_17 : decode c_P_waste 17 = .ok (.lstore_n 2, 1) := by decide +kernel
theorem d_P_waste_18 : decode c_P_waste 18 = .ok (.lload_n 2, 1) := by decide +kernel
theorem d_P_waste_19 : decode c_P_waste 19 = .ok (.aload_n 0, 1) := by decide +kernel
theorem d_P_waste_20 : decode c_P_waste 20 = .ok (.invokevirtual 173, 3) := by decide +kernel
theorem d_P_waste_23 : decode c_P_waste 23 = .ok (.lsub, 1) := by decide +kernel
theorem d_P_waste_24 : decode c_P_waste 24 = .ok (.lstore 4, 2) := by decide +kernel
theorem d_P_waste_26 : decode c_P_waste 26 = .ok (.lload 4, 2) := by decide +kernel
theorem d_P_waste_28 : decode c_P_waste 28 = .ok (.invokestatic 177, 3) := by decide +kernel
theorem d_P_waste_31 : decode c_P_waste 31 = .ok (.lload_n 2, 1) := by decide +kernel
theorem d_P_waste_32 : decode c_P_waste 32 = .ok (.invokestatic 180, 3) := by decide +kernel
theorem d_P_waste_35 : decode c_P_waste 35 = .ok (.lstore 6, 2) := by decide +kernel
theorem d_P_waste_37 : decode c_P_waste 37 = .ok (.iload_n 1, 1) := by decide +kernel
theorem d_P_waste_38 : decode c_P_waste 38 = .ok (.ifCond .ne 8, 3) := by decide +kernel
theorem d_P_waste_41 : decode c_P_waste 41 = .ok (.lload 4, 2) := by decide +kernel
theorem d_P_waste_43 : decode c_P_waste 43 = .ok (.goto 4, 3) := by decide +kernel
theorem d_P_waste_46 : decode c_P_waste 46 = .ok (.lload_n 2, 1) := by decide +kernel
theorem d_P_waste_47 : decode c_P_waste 47 = .ok (.lload 6, 2) := by decide +kernel
theorem d_P_waste_49 : decode c_P_waste 49 = .ok (.ldiv, 1) := by decide +kernel
theorem d_P_waste_50 : decode c_P_waste 50 = .ok (.lreturn, 1) := by decide +kernel
theorem d_P_mill_0 : decode c_P_mill 0 = .ok (.iload_n 1, 1) := by decide +kernel
theorem d_P_mill_1 : decode c_P_mill 1 = .ok (.ifCond .ge 7, 3) := by decide +kernel
theorem d_P_mill_4 : decode c_P_mill 4 = .ok (.iconst (-1), 1) := by decide +kernel
theorem d_P_mill_5 : decode c_P_mill 5 = .ok (.goto 13, 3) := by decide +kernel
theorem d_P_mill_8 : decode c_P_mill 8 = .ok (.aload_n 0, 1) := by decide +kernel
theorem d_P_mill_9 : decode c_P_mill 9 = .ok (.getfield 41, 3) := by decide +kernel
theorem d_P_mill_12 : decode c_P_mill 12 = .ok (.iload_n 1, 1) := by decide +kernel
theorem d_P_mill_13 : decode c_P_mill 13 = .ok (.iconst 4, 1) := by decide +kernel
theorem d_P_mill_14 : decode c_P_mill 14 = .ok (.idiv, 1) := by decide +kernel
theorem d_P_mill_15 : decode c_P_mill 15 = .ok (.invokevirtual 184, 3) := by decide +kernel
theorem d_P_mill_18 : decode c_P_mill 18 = .ok (.istore_n 3, 1) := by decide +kernel
theorem d_P_mill_19 : decode c_P_mill 19 = .ok (.iload_n 3, 1) := by decide +kernel
theorem d_P_mill_20 : decode c_P_mill 20 = .ok (.iconst (-1), 1) := by decide +kernel
theorem d_P_mill_21 : decode c_P_mill 21 = .ok (.if_icmp .ne 13, 3) := by decide +kernel
theorem d_P_mill_24 : decode c_P_mill 24 = .ok (.new 128, 3) := by decide +kernel
theorem d_P_mill_27 : decode c_P_mill 27 = .ok (.dup, 1) := by decide +kernel
theorem d_P_mill_28 : decode c_P_mill 28 = .ok (.ldc 188, 2) := by decide +kernel
theorem d_P_mill_30 : decode c_P_mill 30 = .ok (.invokespecial 132, 3) := by decide +kernel
theorem d_P_mill_33 : decode c_P_mill 33 = .ok (.athrow, 1) := by decide +kernel
theorem d_P_mill_34 : decode c_P_mill 34 = .ok (.iload_n 2, 1) := by decide +kernel
theorem d_P_mill_35 : decode c_P_mill 35 = .ok (.invokestatic 139, 3) := by decide +kernel
theorem d_P_mill_38 : decode c_P_mill 38 = .ok (.aload_n 0, 1) := by decide +kernel
theorem d_P_mill_39 : decode c_P_mill 39 = .ok (.getfield 41, 3) := by decide +kernel
theorem d_P_mill_42 : decode c_P_mill 42 = .ok (.getfield 106, 3) := by decide +kernel
theorem d_P_mill_45 : decode c_P_mill 45 = .ok (.iload_n 3, 1) := by decide +kernel
theorem d_P_mill_46 : decode c_P_mill 46 = .ok (.iaload, 1) := by decide +kernel
theorem d_P_mill_47 : decode c_P_mill 47 = .ok (.istore 4, 2) := by decide +kernel
theorem d_P_mill_49 : decode c_P_mill 49 = .ok (.iload_n 1, 1) := by decide +kernel
theorem d_P_mill_50 : decode c_P_mill 50 = .ok (.iconst 4, 1) := by decide +kernel
theorem d_P_mill_51 : decode c_P_mill 51 = .ok (.irem, 1) := by decide +kernel
theorem d_P_mill_52 : decode c_P_mill 52 = .ok (.istore 5, 2) := by decide +kernel
theorem d_P_mill_54 : decode c_P_mill 54 = .ok (.iload_n 2, 1) := by decide +kernel
theorem d_P_mill_55 : decode c_P_mill 55 = .ok (.ifCond .ne 48, 3) := by decide +kernel
theorem d_P_mill_58 : decode c_P_mill 58 = .ok (.iload 5, 2) := by decide +kernel
theorem d_P_mill_60 : decode c_P_mill 60 = .ok (.iconst 1, 1) := by decide +kernel
theorem d_P_mill_61 : decode c_P_mill 61 = .ok (.if_icmp .eq 9, 3) := by decide +kernel
theorem d_P_mill_64 : decode c_P_mill 64 = .ok (.iload 5, 2) := by decide +kernel
theorem d_P_mill_66 : decode c_P_mill 66 = .ok (.iconst 2, 1) := by decide +kernel
theorem d_P_mill_67 : decode c_P_mill 67 = .ok (.if_icmp .ne 7, 3) := by decide +kernel
theorem d_P_mill_70 : decode c_P_mill 70 = .ok (.iconst 1, 1) := by decide +kernel
theorem d_P_mill_71 : decode c_P_mill 71 = .ok (.goto 4, 3) := by decide +kernel
theorem d_P_mill_74 : decode c_P_mill 74 = .ok (.iconst 0, 1) := by decide +kernel
theorem d_P_mill_75 : decode c_P_mill 75 = .ok (.istore 6, 2) := by decide +kernel
theorem d_P_mill_77 : decode c_P_mill 77 = .ok (.aload_n 0, 1) := by decide +kernel
theorem d_P_mill_78 : decode c_P_mill 78 = .ok (.aload_n 0, 1) := by decide +kernel
theorem d_P_mill_79 : decode c_P_mill 79 = .ok (.getfield 41, 3) := by decide +kernel
theorem d_P_mill_82 : decode c_P_mill 82 = .ok (.getfield 113, 3) := by decide +kernel
theorem d_P_mill_85 : decode c_P_mill 85 = .ok (.iload_n 3, 1) := by decide +kernel
theorem d_P_mill_86 : decode c_P_mill 86 = .ok (.laload, 1) := by decide +kernel
theorem d_P_mill_87 : decode c_P_mill 87 = .ok (.aload_n 0, 1) := by decide +kernel
theorem d_P_mill_88 : decode c_P_mill 88 = .ok (.getfield 41, 3) := by decide +kernel
theorem d_P_mill_91 : decode c_P_mill 91 = .ok (.getfield 122, 3) := by decide +kernel
theorem d_P_mill_94 : decode c_P_mill 94 = .ok (.iload 4, 2) := by decide +kernel
theorem d_P_mill_96 : decode c_P_mill 96 = .ok (.laload, 1) := by decide +kernel
theorem d_P_mill_97 : decode c_P_mill 97 = .ok (.iload 6, 2) := by decide +kernel
theorem d_P_mill_99 : decode c_P_mill 99 = .ok (.invokevirtual 190, 3) := by decide +kernel
theorem d_P_mill_102 : decode c_P_mill 102 = .ok (.lreturn, 1) := by decide +kernel
theorem d_P_mill_103 : decode c_P_mill 103 = .ok (.iload 5, 2) := by decide +kernel
theorem d_P_mill_105 : decode c_P_mill 105 = .ok (.iconst 2, 1) := by decide +kernel
theorem d_P_mill_106 : decode c_P_mill 106 = .ok (.if_icmp .eq 9, 3) := by decide +kernel
theorem d_P_mill_109 : decode c_P_mill 109 = .ok (.iload 5, 2) := by decide +kernel
theorem d_P_mill_111 : decode c_P_mill 111 = .ok (.iconst 3, 1) := by decide +kernel
theorem d_P_mill_112 : decode c_P_mill 112 = .ok (.if_icmp .ne 7, 3) := by decide +kernel
theorem d_P_mill_115 : decode c_P_mill 115 = .ok (.iconst 1, 1) := by decide +kernel
theorem d_P_mill_116 : decode c_P_mill 116 = .ok (.goto 4, 3) := by decide +kernel
theorem d_P_mill_119 : decode c_P_mill 119 = .ok (.iconst 0, 1) := by decide +kernel
theorem d_P_mill_120 : decode c_P_mill 120 = .ok (.istore 6, 2) := by decide +kernel
theorem d_P_mill_122 : decode c_P_mill 122 = .ok (.aload_n 0, 1) := by decide +kernel
theorem d_P_mill_123 : decode c_P_mill 123 = .ok (.aload_n 0, 1) := by decide +kernel
theorem d_P_mill_124 : decode c_P_mill 124 = .ok (.getfield 41, 3) := by decide +kernel
theorem d_P_mill_127 : decode c_P_mill 127 = .ok (.getfield 116, 3) := by decide +kernel
theorem d_P_mill_130 : decode c_P_mill 130 = .ok (.iload 4, 2) := by decide +kernel
theorem d_P_mill_132 : decode c_P_mill 132 = .ok (.laload, 1) := by decide +kernel
theorem d_P_mill_133 : decode c_P_mill 133 = .ok (.aload_n 0, 1) := by decide +kernel
theorem d_P_mill_134 : decode c_P_mill 134 = .ok (.getfield 41, 3) := by decide +kernel
theorem d_P_mill_137 : decode c_P_mill 137 = .ok (.getfield 125, 3) := by decide +kernel
theorem d_P_mill_140 : decode c_P_mill 140 = .ok (.iload 4, 2) := by decide +kernel
theorem d_P_mill_142 : decode c_P_mill 142 = .ok (.laload, 1) := by decide +kernel
theorem d_P_mill_143 : decode c_P_mill 143 = .ok (.iload 6, 2) := by decide +kernel
theorem d_P_mill_145 : decode c_P_mill 145 = .ok (.invokevirtual 190, 3) := by decide +kernel
theorem d_P_mill_148 : decode c_P_mill 148 = .ok (.lreturn, 1) := by decide +kernel
theorem d_P_radius_0 : decode c_P_radius 0 = .ok (.lload_n 1, 1) := by decide +kernel
theorem d_P_radius_1 : decode c_P_radius 1 = .ok (.invokestatic 53, 3) := by decide +kernel
theorem d_P_radius_4 : decode c_P_radius 4 = .ok (.aload_n 0, 1) := by decide +kernel
theorem d_P_radius_5 : decode c_P_radius 5 = .ok (.getfield 194, 3) := by decide +kernel
theorem d_P_radius_8 : decode c_P_radius 8 = .ok (.lload_n 1, 1) := by decide +kernel
theorem d_P_radius_9 : decode c_P_radius 9 = .ok (.lcmp, 1) := by decide +kernel
theorem d_P_radius_10 : decode c_P_radius 10 = .ok (.ifCond .eq 7, 3) := by decide +kernel
theorem d_P_radius_13 : decode c_P_radius 13 = .ok (.iconst 1, 1) := by decide +kernel
theorem d_P_radius_14 : decode c_P_radius 14 = .ok (.goto 4, 3) := by decide +kernel
theorem d_P_radius_17 : decode c_P_radius 17 = .ok (.iconst 0, 1) := by decide +kernel
theorem d_P_radius_18 : decode c_P_radius 18 = .ok (.istore_n 3, 1) := by decide +kernel
theorem d_P_radius_19 : decode c_P_radius 19 = .ok (.aload_n 0, 1) := by decide +kernel
theorem d_P_radius_20 : decode c_P_radius 20 = .ok (.lload_n 1, 1) := by decide +kernel
theorem d_P_radius_21 : decode c_P_radius 21 = .ok (.putfield 194, 3) := by decide +kernel
theorem d_P_radius_24 : decode c_P_radius 24 = .ok (.iload_n 3, 1) := by decide +kernel
theorem d_P_radius_25 : decode c_P_radius 25 = .ok (.ireturn, 1) := by decide +kernel
theorem d_P_bad_0 : decode c_P_bad 0 = .ok (.aload_n 0, 1) := by decide +kernel
theorem d_P_bad_1 : decode c_P_bad 1 = .ok (.iload_n 1, 1) := by decide +kernel
theorem d_P_bad_2 : decode c_P_bad 2 = .ok (.invokevirtual 103, 3) := by decide +kernel
theorem d_P_bad_5 : decode c_P_bad 5 = .ok (.aload_n 0, 1) := by decide +kernel
theorem d_P_bad_6 : decode c_P_bad 6 = .ok (.getfield 41, 3) := by decide +kernel
theorem d_P_bad_9 : decode c_P_bad 9 = .ok (.getfield 197, 3) := by decide +kernel
theorem d_P_bad_12 : decode c_P_bad 12 = .ok (.iload_n 1, 1) := by decide +kernel
theorem d_P_bad_13 : decode c_P_bad 13 = .ok (.baload, 1) := by decide +kernel
theorem d_P_bad_14 : decode c_P_bad 14 = .ok (.iload_n 2, 1) := by decide +kernel
theorem d_P_bad_15 : decode c_P_bad 15 = .ok (.if_icmp .eq 7, 3) := by decide +kernel
theorem d_P_bad_18 : decode c_P_bad 18 = .ok (.iconst 1, 1) := by decide +kernel
theorem d_P_bad_19 : decode c_P_bad 19 = .ok (.goto 4, 3) := by decide +kernel
theorem d_P_bad_22 : decode c_P_bad 22 = .ok (.iconst 0, 1) := by decide +kernel
theorem d_P_bad_23 : decode c_P_bad 23 = .ok (.istore_n 3, 1) := by decide +kernel
theorem d_P_bad_24 : decode c_P_bad 24 = .ok (.aload_n 0, 1) := by decide +kernel
theorem d_P_bad_25 : decode c_P_bad 25 = .ok (.getfield 41, 3) := by decide +kernel
theorem d_P_bad_28 : decode c_P_bad 28 = .ok (.getfield 197, 3) := by decide +kernel
theorem d_P_bad_31 : decode c_P_bad 31 = .ok (.iload_n 1, 1) := by decide +kernel
theorem d_P_bad_32 : decode c_P_bad 32 = .ok (.iload_n 2, 1) := by decide +kernel
theorem d_P_bad_33 : decode c_P_bad 33 = .ok (.bastore, 1) := by decide +kernel
theorem d_P_bad_34 : decode c_P_bad 34 = .ok (.iload_n 3, 1) := by decide +kernel
theorem d_P_bad_35 : decode c_P_bad 35 = .ok (.ireturn, 1) := by decide +kernel
theorem d_P_rail_0 : decode c_P_rail 0 = .ok (.iload_n 1, 1) := by decide +kernel
theorem d_P_rail_1 : decode c_P_rail 1 = .ok (.invokestatic 136, 3) := by decide +kernel
theorem d_P_rail_4 : decode c_P_rail 4 = .ok (.lload_n 2, 1) := by decide +kernel
theorem d_P_rail_5 : decode c_P_rail 5 = .ok (.invokestatic 53, 3) := by decide +kernel
theorem d_P_rail_8 : decode c_P_rail 8 = .ok (.aload_n 0, 1) := by decide +kernel
theorem d_P_rail_9 : decode c_P_rail 9 = .ok (.getfield 27, 3) := by decide +kernel
theorem d_P_rail_12 : decode c_P_rail 12 = .ok (.iload_n 1, 1) := by decide +kernel
theorem d_P_rail_13 : decode c_P_rail 13 = .ok (.laload, 1) := by decide +kernel
theorem d_P_rail_14 : decode c_P_rail 14 = .ok (.lload_n 2, 1) := by decide +kernel
theorem d_P_rail_15 : decode c_P_rail 15 = .ok (.lcmp, 1) := by decide +kernel
theorem d_P_rail_16 : decode c_P_rail 16 = .ok (.ifCond .eq 7, 3) := by decide +kernel
theorem d_P_rail_19 : decode c_P_rail 19 = .ok (.iconst 1, 1) := by decide +kernel
theorem d_P_rail_20 : decode c_P_rail 20 = .ok (.goto 4, 3) := by decide +kernel
theorem d_P_rail_23 : decode c_P_rail 23 = .ok (.iconst 0, 1) := by decide +kernel
theorem d_P_rail_24 : decode c_P_rail 24 = .ok (.istore 4, 2) := by decide +kernel
theorem d_P_rail_26 : decode c_P_rail 26 = .ok (.aload_n 0, 1) := by decide +kernel
theorem d_P_rail_27 : decode c_P_rail 27 = .ok (.getfield 27, 3) := by decide +kernel
theorem d_P_rail_30 : decode c_P_rail 30 = .ok (.iload_n 1, 1) := by decide +kernel
theorem d_P_rail_31 : decode c_P_rail 31 = .ok (.lload_n 2, 1) := by decide +kernel
theorem d_P_rail_32 : decode c_P_rail 32 = .ok (.lastore, 1) := by decide +kernel
theorem d_P_rail_33 : decode c_P_rail 33 = .ok (.iload 4, 2) := by decide +kernel
theorem d_P_rail_35 : decode c_P_rail 35 = .ok (.ireturn, 1) := by decide +kernel
theorem d_P_overlaps_0 : decode c_P_overlaps 0 = .ok (.iconst 0, 1) := by decide +kernel
theorem d_P_overlaps_1 : decode c_P_overlaps 1 = .ok (.ireturn, 1) := by decide +kernel
theorem d_P_order_0 : decode c_P_order 0 = .ok (.aload_n 0, 1) := by decide +kernel
theorem d_P_order_1 : decode c_P_order 1 = .ok (.getfield 41, 3) := by decide +kernel
theorem d_P_order_4 : decode c_P_order 4 = .ok (.iload_n 1, 1) := by decide +kernel
theorem d_P_order_5 : decode c_P_order 5 = .ok (.invokevirtual 184, 3) := by decide +kernel
theorem d_P_order_8 : decode c_P_order 8 = .ok (.ireturn, 1) := by decide +kernel
theorem d_P_wants_0 : decode c_P_wants 0 = .ok (.aload_n 0, 1) := by decide +kernel
theorem d_P_wants_1 : decode c_P_wants 1 = .ok (.iload_n 1, 1) := by decide +kernel
theorem d_P_wants_2 : decode c_P_wants 2 = .ok (.invokevirtual 49, 3) := by decide +kernel
theorem d_P_wants_5 : decode c_P_wants 5 = .ok (.iload_n 2, 1) := by decide +kernel
theorem d_P_wants_6 : decode c_P_wants 6 = .ok (.i2l, 1) := by decide +kernel
theorem d_P_wants_7 : decode c_P_wants 7 = .ok (.lconst 0, 1) := by decide +kernel
theorem d_P_wants_8 : decode c_P_wants 8 = .ok (.ldc2_w 201, 3) := by decide +kernel
theorem d_P_wants_11 : decode c_P_wants 11 = .ok (.invokestatic 63, 3) := by decide +kernel
theorem d_P_wants_14 : decode c_P_wants 14 = .ok (.ifCond .ne 13, 3) := by decide +kernel
theorem d_P_wants_17 : decode c_P_wants 17 = .ok (.new 69, 3) := by decide +kernel
theorem d_P_wants_20 : decode c_P_wants 20 = .ok (.dup, 1) := by decide +kernel
theorem d_P_wants_21 : decode c_P_wants 21 = .ok (.ldc 203, 2) := by decide +kernel
theorem d_P_wants_23 : decode c_P_wants 23 = .ok (.invokespecial 73, 3) := by decide +kernel
theorem d_P_wants_26 : decode c_P_wants 26 = .ok (.athrow, 1) := by decide +kernel
theorem d_P_wants_27 : decode c_P_wants 27 = .ok (.aload_n 0, 1) := by decide +kernel
theorem d_P_wants_28 : decode c_P_wants 28 = .ok (.getfield 22, 3) := by decide +kernel
theorem d_P_wants_31 : decode c_P_wants 31 = .ok (.iload_n 1, 1) := by decide +kernel
theorem d_P_wants_32 : decode c_P_wants 32 = .ok (.aaload, 1) := by decide +kernel
theorem d_P_wants_33 : decode c_P_wants 33 = .ok (.getfield 205, 3) := by decide +kernel
theorem d_P_wants_36 : decode c_P_wants 36 = .ok (.iload_n 2, 1) := by decide +kernel
theorem d_P_wants_37 : decode c_P_wants 37 = .ok (.if_icmp .eq 7, 3) := by decide +kernel
theorem d_P_wants_40 : decode c_P_wants 40 = .ok (.iconst 1, 1) := by decide +kernel
theorem d_P_wants_41 : decode c_P_wants 41 = .ok (.goto 4, 3) := by decide +kernel
theorem d_P_wants_44 : decode c_P_wants 44 = .ok (.iconst 0, 1) := by decide +kernel
theorem d_P_wants_45 : decode c_P_wants 45 = .ok (.istore_n 3, 1) := by decide +kernel
theorem d_P_wants_46 : decode c_P_wants 46 = .ok (.aload_n 0, 1) := by decide +kernel
theorem d_P_wants_47 : decode c_P_wants 47 = .ok (.getfield 22, 3) := by decide +kernel
theorem d_P_wants_50 : decode c_P_wants 50 = .ok (.iload_n 1, 1) := by decide +kernel
theorem d_P_wants_51 : decode c_P_wants 51 = .ok (.aaload, 1) := by decide +kernel
theorem d_P_wants_52 : decode c_P_wants 52 = .ok (.iload_n 2, 1) := by decide +kernel
theorem d_P_wants_53 : decode c_P_wants 53 = .ok (.putfield 205, 3) := by decide +kernel
theorem d_P_wants_56 : decode c_P_wants 56 = .ok (.iload_n 3, 1) := by decide +kernel
theorem d_P_wants_57 : decode c_P_wants 57 = .ok (.ireturn, 1) := by decide +kernel
theorem d_P_asPanelLength_0 : decode c_P_asPanelLength 0 = .ok (.lconst 1, 1) := by decide +kernel
theorem d_P_asPanelLength_1 : decode c_P_asPanelLength 1 = .ok (.lload_n 0, 1) := by decide +kernel
theorem d_P_asPanelLength_2 : decode c_P_asPanelLength 2 = .ok (.ldc2_w 208, 3) := by decide +kernel
theorem d_P_asPanelLength_5 : decode c_P_asPanelLength 5 = .ok (.invokestatic 210, 3) := by decide +kernel
theorem d_P_asPanelLength_8 : decode c_P_asPanelLength 8 = .ok (.invokestatic 212, 3) := by decide +kernel
theorem d_P_asPanelLength_11 : decode c_P_asPanelLength 11 = .ok (.lreturn, 1) := by decide +kernel
theorem d_P_isWithin_0 : decode c_P_isWithin 0 = .ok (.lload_n 0, 1) := by decide +kernel
theorem d_P_isWithin_1 : decode c_P_isWithin 1 = .ok (.lload_n 2, 1) := by decide +kernel
theorem d_P_isWithin_2 : decode c_P_isWithin 2 = .ok (.lcmp, 1) := by decide +kernel
theorem d_P_isWithin_3 : decode c_P_isWithin 3 = .ok (.ifCond .lt 14, 3) := by decide +kernel
theorem d_P_isWithin_6 : decode c_P_isWithin 6 = .ok (.lload_n 0, 1) := by decide +kernel
theorem d_P_isWithin_7 : decode c_P_isWithin 7 = .ok (.lload 4, 2) := by decide +kernel
theorem d_P_isWithin_9 : decode c_P_isWithin 9 = .ok (.lcmp, 1) := by decide +kernel
theorem d_P_isWithin_10 : decode c_P_isWithin 10 = .ok (.ifCond .gt 7, 3) := by decide +kernel
theorem d_P_isWithin_13 : decode c_P_isWithin 13 = .ok (.iconst 1, 1) := by decide +kernel
theorem d_P_isWithin_14 : decode c_P_isWithin 14 = .ok (.goto 4, 3) := by decide +kernel
theorem d_P_isWithin_17 : decode c_P_isWithin 17 = .ok (.iconst 0, 1) := by decide +kernel
theorem d_P_isWithin_18 : decode c_P_isWithin 18 = .ok (.ireturn, 1) := by decide +kernel
theorem d_P_checkLength_0 : decode c_P_checkLength 0 = .ok (.lload_n 0, 1) := by decide +kernel
theorem d_P_checkLength_1 : decode c_P_checkLength 1 = .ok (.lconst 0, 1) := by decide +kernel
theorem d_P_checkLength_2 : decode c_P_checkLength 2 = .ok (.ldc2_w 208, 3) := by decide +kernel
theorem d_P_checkLength_5 : decode c_P_checkLength 5 = .ok (.invokestatic 63, 3) := by decide +kernel
theorem d_P_checkLength_8 : decode c_P_checkLength 8 = .ok (.ifCond .ne 13, 3) := by decide +kernel
theorem d_P_checkLength_11 : decode c_P_checkLength 11 = .ok (.new 69, 3) := by decide +kernel
theorem d_P_checkLength_14 : decode c_P_checkLength 14 = .ok (.dup, 1) := by decide +kernel
theorem d_P_checkLength_15 : decode c_P_checkLength 15 = .ok (.ldc 215, 2) := by decide +kernel
theorem d_P_checkLength_17 : decode c_P_checkLength 17 = .ok (.invokespecial 73, 3) := by decide +kernel
theorem d_P_checkLength_20 : decode c_P_checkLength 20 = .ok (.athrow, 1) := by decide +kernel
theorem d_P_checkLength_21 : decode c_P_checkLength 21 = .ok (.return_, 1) := by decide +kernel
theorem d_P_checkSide_0 : decode c_P_checkSide 0 = .ok (.iload_n 0, 1) := by decide +kernel
theorem d_P_checkSide_1 : decode c_P_checkSide 1 = .ok (.i2l, 1) := by decide +kernel
theorem d_P_checkSide_2 : decode c_P_checkSide 2 = .ok (.lconst 0, 1) := by decide +kernel
theorem d_P_checkSide_3 : decode c_P_checkSide 3 = .ok (.ldc2_w 217, 3) := by decide +kernel
theorem d_P_checkSide_6 : decode c_P_checkSide 6 = .ok (.invokestatic 63, 3) := by decide +kernel
theorem d_P_checkSide_9 : decode c_P_checkSide 9 = .ok (.ifCond .ne 13, 3) := by decide +kernel
theorem d_P_checkSide_12 : decode c_P_checkSide 12 = .ok (.new 128, 3) := by decide +kernel
theorem d_P_checkSide_15 : decode c_P_checkSide 15 = .ok (.dup, 1) := by decide +kernel
theorem d_P_checkSide_16 : decode c_P_checkSide 16 = .ok (.ldc 219, 2) := by decide +kernel
theorem d_P_checkSide_18 : decode c_P_checkSide 18 = .ok (.invokespecial 132, 3) := by decide +kernel
theorem d_P_checkSide_21 : decode c_P_checkSide 21 = .ok (.athrow, 1) := by decide +kernel
theorem d_P_checkSide_22 : decode c_P_checkSide 22 = .ok (.return_, 1) := by decide +kernel
theorem d_P_checkOneOfTwo_0 : decode c_P_checkOneOfTwo 0 = .ok (.iload_n 0, 1) := by decide +kernel
theorem d_P_checkOneOfTwo_1 : decode c_P_checkOneOfTwo 1 = .ok (.i2l, 1) := by decide +kernel
theorem d_P_checkOneOfTwo_2 : decode c_P_checkOneOfTwo 2 = .ok (.lconst 0, 1) := by decide +kernel
theorem d_P_checkOneOfTwo_3 : decode c_P_checkOneOfTwo 3 = .ok (.lconst 1, 1) := by decide +kernel
theorem d_P_checkOneOfTwo_4 : decode c_P_checkOneOfTwo 4 = .ok (.invokestatic 63, 3) := by decide +kernel
theorem d_P_checkOneOfTwo_7 : decode c_P_checkOneOfTwo 7 = .ok (.ifCond .ne 13, 3) := by decide +kernel
theorem d_P_checkOneOfTwo_10 : decode c_P_checkOneOfTwo 10 = .ok (.new 128, 3) := by decide +kernel
theorem d_P_checkOneOfTwo_13 : decode c_P_checkOneOfTwo 13 = .ok (.dup, 1) := by decide +kernel
theorem d_P_checkOneOfTwo_14 : decode c_P_checkOneOfTwo 14 = .ok (.ldc 221, 2) := by decide +kernel
theorem d_P_checkOneOfTwo_16 : decode c_P_checkOneOfTwo 16 = .ok (.invokespecial 132, 3) := by decide +kernel
theorem d_P_checkOneOfTwo_19 : decode c_P_checkOneOfTwo 19 = .ok (.athrow, 1) := by decide +kernel
theorem d_P_checkOneOfTwo_20 : decode c_P_checkOneOfTwo 20 = .ok (.return_, 1) := by decide +kernel
theorem d_P_checkBoard_0 : decode c_P_checkBoard 0 = .ok (.iload_n 1, 1) := by decide +kernel
theorem d_P_checkBoard_1 : decode c_P_checkBoard 1 = .ok (.i2l, 1) := by decide +kernel
theorem d_P_checkBoard_2 : decode c_P_checkBoard 2 = .ok (.lconst 0, 1) := by decide +kernel
theorem d_P_checkBoard_3 : decode c_P_checkBoard 3 = .ok (.aload_n 0, 1) := by decide +kernel
theorem d_P_checkBoard_4 : decode c_P_checkBoard 4 = .ok (.getfield 45, 3) := by decide +kernel
theorem d_P_checkBoard_7 : decode c_P_checkBoard 7 = .ok (.iconst 1, 1) := by decide +kernel
theorem d_P_checkBoard_8 : decode c_P_checkBoard 8 = .ok (.isub, 1) := by decide +kernel
theorem d_P_checkBoard_9 : decode c_P_checkBoard 9 = .ok (.i2l, 1) := by decide +kernel
theorem d_P_checkBoard_10 : decode c_P_checkBoard 10 = .ok (.invokestatic 63, 3) := by decide +kernel
theorem d_P_checkBoard_13 : decode c_P_checkBoard 13 = .ok (.ifCond .ne 13, 3) := by decide +kernel
theorem d_P_checkBoard_16 : decode c_P_checkBoard 16 = .ok (.new 128, 3) := by decide +kernel
theorem d_P_checkBoard_19 : decode c_P_checkBoard 19 = .ok (.dup, 1) := by decide +kernel
theorem d_P_checkBoard_20 : decode c_P_checkBoard 20 = .ok (.ldc 223, 2) := by decide +kernel
theorem d_P_checkBoard_22 : decode c_P_checkBoard 22 = .ok (.invokespecial 132, 3) := by decide +kernel
theorem d_P_checkBoard_25 : decode c_P_checkBoard 25 = .ok (.athrow, 1) := by decide +kernel
theorem d_P_checkBoard_26 : decode c_P_checkBoard 26 = .ok (.return_, 1) := by decide +kernel
theorem d_P_checkCopy_0 : decode c_P_checkCopy 0 = .ok (.iload_n 1, 1) := by decide +kernel
theorem d_P_checkCopy_1 : decode c_P_checkCopy 1 = .ok (.i2l, 1) := by decide +kernel
theorem d_P_checkCopy_2 : decode c_P_checkCopy 2 = .ok (.lconst 0, 1) := by decide +kernel
theorem d_P_checkCopy_3 : decode c_P_checkCopy 3 = .ok (.aload_n 0, 1) := by decide +kernel
theorem d_P_checkCopy_4 : decode c_P_checkCopy 4 = .ok (.getfield 41, 3) := by decide +kernel
theorem d_P_checkCopy_7 : decode c_P_checkCopy 7 = .ok (.getfield 100, 3) := by decide +kernel
theorem d_P_checkCopy_10 : decode c_P_checkCopy 10 = .ok (.iconst 1, 1) := by decide +kernel
theorem d_P_checkCopy_11 : decode c_P_checkCopy 11 = .ok (.isub, 1) := by decide +kernel
theorem d_P_checkCopy_12 : decode c_P_checkCopy 12 = .ok (.i2l, 1) := by decide +kernel
theorem d_P_checkCopy_13 : decode c_P_checkCopy 13 = .ok (.invokestatic 63, 3) := by decide +kernel
theorem d_P_checkCopy_16 : decode c_P_checkCopy 16 = .ok (.ifCond .ne 13, 3) := by decide +kernel
theorem d_P_checkCopy_19 : decode c_P_checkCopy 19 = .ok (.new 128, 3) := by decide +kernel
theorem d_P_checkCopy_22 : decode c_P_checkCopy 22 = .ok (.dup, 1) := by decide +kernel
theorem d_P_checkCopy_23 : decode c_P_checkCopy 23 = .ok (.ldc 225, 2) := by decide +kernel
theorem d_P_checkCopy_25 : decode c_P_checkCopy 25 = .ok (.invokespecial 132, 3) := by decide +kernel
theorem d_P_checkCopy_28 : decode c_P_checkCopy 28 = .ok (.athrow, 1) := by decide +kernel
theorem d_P_checkCopy_29 : decode c_P_checkCopy 29 = .ok (.return_, 1) := by decide +kernel
theorem d_P_prepareSearch_0 : decode c_P_prepareSearch 0 = .ok (.aload_n 0, 1) := by decide +kernel
theorem d_P_prepareSearch_1 : decode c_P_prepareSearch 1 = .ok (.getfield 13, 3) := by decide +kernel
theorem d_P_prepareSearch_4 : decode c_P_prepareSearch 4 = .ok (.aload_n 0, 1) := by decide +kernel
theorem d_P_prepareSearch_5 : decode c_P_prepareSearch 5 = .ok (.getfield 27, 3) := by decide +kernel
theorem d_P_prepareSearch_8 : decode c_P_prepareSearch 8 = .ok (.iconst 0, 1) := by decide +kernel
theorem d_P_prepareSearch_9 : decode c_P_prepareSearch 9 = .ok (.laload, 1) := by decide +kernel
theorem d_P_prepareSearch_10 : decode c_P_prepareSearch 10 = .ok (.lsub, 1) := by decide +kernel
theorem d_P_prepareSearch_11 : decode c_P_prepareSearch 11 = .ok (.aload_n 0, 1) := by decide +kernel
theorem d_P_prepareSearch_12 : decode c_P_prepareSearch 12 = .ok (.getfield 27, 3) := by decide +kernel
theorem d_P_prepareSearch_15 : decode c_P_prepareSearch 15 = .ok (.iconst 2, 1) := by decide +kernel
theorem d_P_prepareSearch_16 : decode c_P_prepareSearch 16 = .ok (.laload, 1) := by decide +kernel
theorem d_P_prepareSearch_17 : decode c_P_prepareSearch 17 = .ok (.lsub, 1) := by decide +kernel
theorem d_P_prepareSearch_18 : decode c_P_prepareSearch 18 = .ok (.lstore_n 2, 1) := by decide +kernel
theorem d_P_prepareSearch_19 : decode c_P_prepareSearch 19 = .ok (.aload_n 0, 1) := by decide +kernel
theorem d_P_prepareSearch_20 : decode c_P_prepareSearch 20 = .ok (.getfield 34, 3) := by decide +kernel
theorem d_P_prepareSearch_23 : decode c_P_prepareSearch 23 = .ok (.aload_n 0, 1) := by decide +kernel
theorem d_P_prepareSearch_24 : decode c_P_prepareSearch 24 = .ok (.getfield 133, 3) := by decide +kernel
theorem d_P_prepareSearch_27 : decode c_P_prepareSearch 27 = .ok (.invokevirtual 227, 3) := by decide +kernel
theorem d_P_prepareSearch_30 : decode c_P_prepareSearch 30 = .ok (.iconst 0, 1) := by decide +kernel
theorem d_P_prepareSearch_31 : decode c_P_prepareSearch 31 = .ok (.istore 4, 2) := by decide +kernel
theorem d_P_prepareSearch_33 : decode c_P_prepareSearch 33 = .ok (.iload 4, 2) := by decide +kernel
theorem d_P_prepareSearch_35 : decode c_P_prepareSearch 35 = .ok (.iload_n 1, 1) := by decide +kernel
theorem d_P_prepareSearch_36 : decode c_P_prepareSearch 36 = .ok (.if_icmp .ge 96, 3) := by decide +kernel
theorem d_P_prepareSearch_39 : decode c_P_prepareSearch 39 = .ok (.aload_n 0, 1) := by decide +kernel
theorem d_P_prepareSearch_40 : decode c_P_prepareSearch 40 = .ok (.getfield 22, 3) := by decide +kernel
theorem d_P_prepareSearch_43 : decode c_P_prepareSearch 43 = .ok (.iload 4, 2) := by decide +kernel
theorem d_P_prepareSearch_45 : decode c_P_prepareSearch 45 = .ok (.aaload, 1) := by decide +kernel
theorem d_P_prepareSearch_46 : decode c_P_prepareSearch 46 = .ok (.astore 5, 2) := by decide +kernel
theorem d_P_prepareSearch_48 : decode c_P_prepareSearch 48 = .ok (.aload 5, 2) := by decide +kernel
theorem d_P_prepareSearch_50 : decode c_P_prepareSearch 50 = .ok (.invokevirtual 230, 3) := by decide +kernel
theorem d_P_prepareSearch_53 : decode c_P_prepareSearch 53 = .ok (.ifCond .eq 73, 3) := by decide +kernel
theorem d_P_prepareSearch_56 : decode c_P_prepareSearch 56 = .ok (.aload_n 0, 1) := by decide +kernel
theorem d_P_prepareSearch_57 : decode c_P_prepareSearch 57 = .ok (.getfield 34, 3) := by decide +kernel
theorem d_P_prepareSearch_60 : decode c_P_prepareSearch 60 = .ok (.getfield 234, 3) := by decide +kernel
theorem d_P_prepareSearch_63 : decode c_P_prepareSearch 63 = .ok (.iload 4, 2) := by decide +kernel
theorem d_P_prepareSearch_65 : decode c_P_prepareSearch 65 = .ok (.aload 5, 2) := by decide +kernel
theorem d_P_prepareSearch_67 : decode c_P_prepareSearch 67 = .ok (.getfield 205, 3) := by decide +kernel
theorem d_P_prepareSearch_70 : decode c_P_prepareSearch 70 = .ok (.iastore, 1) := by decide +kernel
theorem d_P_prepareSearch_71 : decode c_P_prepareSearch 71 = .ok (.iconst 0, 1) := by decide +kernel
theorem d_P_prepareSearch_72 : decode c_P_prepareSearch 72 = .ok (.istore 6, 2) := by decide +kernel
theorem d_P_prepareSearch_74 : decode c_P_prepareSearch 74 = .ok (.iload 6, 2) := by decide +kernel
theorem d_P_prepareSearch_76 : decode c_P_prepareSearch 76 = .ok (.iconst 2, 1) := by decide +kernel
theorem d_P_prepareSearch_77 : decode c_P_prepareSearch 77 = .ok (.if_icmp .ge 49, 3) := by decide +kernel
theorem d_P_prepareSearch_80 : decode c_P_prepareSearch 80 = .ok (.lload_n 2, 1) := by decide +kernel
theorem d_P_prepareSearch_81 : decode c_P_prepareSearch 81 = .ok (.aload 5, 2) := by decide +kernel
theorem d_P_prepareSearch_83 : decode c_P_prepareSearch 83 = .ok (.iload 6, 2) := by decide +kernel
theorem d_P_prepareSearch_85 : decode c_P_prepareSearch 85 = .ok (.invokevirtual 237, 3) := by decide +kernel
theorem d_P_prepareSearch_88 : decode c_P_prepareSearch 88 = .ok (.aload_n 0, 1) := by decide +kernel
theorem d_P_prepareSearch_89 : decode c_P_prepareSearch 89 = .ok (.getfield 133, 3) := by decide +kernel
theorem d_P_prepareSearch_92 : decode c_P_prepareSearch 92 = .ok (.invokestatic 241, 3) := by decide +kernel
theorem d_P_prepareSearch_95 : decode c_P_prepareSearch 95 = .ok (.istore 7, 2) := by decide +kernel
theorem d_P_prepareSearch_97 : decode c_P_prepareSearch 97 = .ok (.aload_n 0, 1) := by decide +kernel
theorem d_P_prepareSearch_98 : decode c_P_prepareSearch 98 = .ok (.getfield 34, 3) := by decide +kernel
theorem d_P_prepareSearch_101 : decode c_P_prepareSearch 101 = .ok (.iload 4, 2) := by decide +kernel
theorem d_P_prepareSearch_103 : decode c_P_prepareSearch 103 = .ok (.iconst 2, 1) := by decide +kernel
theorem d_P_prepareSearch_104 : decode c_P_prepareSearch 104 = .ok (.imul, 1) := by decide +kernel
theorem d_P_prepareSearch_105 : decode c_P_prepareSearch 105 = .ok (.iload 6, 2) := by decide +kernel
theorem d_P_prepareSearch_107 : decode c_P_prepareSearch 107 = .ok (.iadd, 1) := by decide +kernel
theorem d_P_prepareSearch_108 : decode c_P_prepareSearch 108 = .ok (.iload 7, 2) := by decide +kernel
theorem d_P_prepareSearch_110 : decode c_P_prepareSearch 110 = .ok (.aload 5, 2) := by decide +kernel
theorem d_P_prepareSearch_112 : decode c_P_prepareSearch 112 = .ok (.iload 6, 2) := by decide +kernel
theorem d_P_prepareSearch_114 : decode c_P_prepareSearch 114 = .ok (.invokevirtual 245, 3) := by decide +kernel
theorem d_P_prepareSearch_117 : decode c_P_prepareSearch 117 = .ok (.invokevirtual 248, 3) := by decide +kernel
theorem d_P_prepareSearch_120 : decode c_P_prepareSearch 120 = .ok (.iinc 6 1, 3) := by decide +kernel
theorem d_P_prepareSearch_123 : decode c_P_prepareSearch 123 = .ok (.goto (-49), 3) := by decide +kernel
theorem d_P_prepareSearch_126 : decode c_P_prepareSearch 126 = .ok (.iinc 4 1, 3) := by decide +kernel
theorem d_P_prepareSearch_129 : decode c_P_prepareSearch 129 = .ok (.goto (-96), 3) := by decide +kernel
theorem d_P_prepareSearch_132 : decode c_P_prepareSearch 132 = .ok (.return_, 1) := by decide +kernel
theorem d_P_roomInRow_0 : decode c_P_roomInRow 0 = .ok (.lload_n 2, 1) := by decide +kernel
theorem d_P_roomInRow_1 : decode c_P_roomInRow 1 = .ok (.lload 4, 2) := by decide +kernel
theorem d_P_roomInRow_3 : decode c_P_roomInRow 3 = .ok (.ladd, 1) := by decide +kernel
theorem d_P_roomInRow_4 : decode c_P_roomInRow 4 = .ok (.lstore 6, 2) := by decide +kernel
theorem d_P_roomInRow_6 : decode c_P_roomInRow 6 = .ok (.lload_n 0, 1) := by decide +kernel
theorem d_P_roomInRow_7 : decode c_P_roomInRow 7 = .ok (.lload_n 2, 1) := by decide +kernel
theorem d_P_roomInRow_8 : decode c_P_roomInRow 8 = .ok (.lcmp, 1) := by decide +kernel
theorem d_P_roomInRow_9 : decode c_P_roomInRow 9 = .ok (.ifCond .lt 10, 3) := by decide +kernel
theorem d_P_roomInRow_12 : decode c_P_roomInRow 12 = .ok (.lload 6, 2) := by decide +kernel
theorem d_P_roomInRow_14 : decode c_P_roomInRow 14 = .ok (.lconst 0, 1) := by decide +kernel
theorem d_P_roomInRow_15 : decode c_P_roomInRow 15 = .ok (.lcmp, 1) := by decide +kernel
theorem d_P_roomInRow_16 : decode c_P_roomInRow 16 = .ok (.ifCond .gt 5, 3) := by decide +kernel
theorem d_P_roomInRow_19 : decode c_P_roomInRow 19 = .ok (.iconst 0, 1) := by decide +kernel
theorem d_P_roomInRow_20 : decode c_P_roomInRow 20 = .ok (.ireturn, 1) := by decide +kernel
theorem d_P_roomInRow_21 : decode c_P_roomInRow 21 = .ok (.lload_n 0, 1) := by decide +kernel
theorem d_P_roomInRow_22 : decode c_P_roomInRow 22 = .ok (.lload 4, 2) := by decide +kernel
theorem d_P_roomInRow_24 : decode c_P_roomInRow 24 = .ok (.ladd, 1) := by decide +kernel
theorem d_P_roomInRow_25 : decode c_P_roomInRow 25 = .ok (.lload 6, 2) := by decide +kernel
theorem d_P_roomInRow_27 : decode c_P_roomInRow 27 = .ok (.ldiv, 1) := by decide +kernel
theorem d_P_roomInRow_28 : decode c_P_roomInRow 28 = .ok (.ldc2_w 252, 3) := by decide +kernel
theorem d_P_roomInRow_31 : decode c_P_roomInRow 31 = .ok (.invokestatic 210, 3) := by decide +kernel
theorem d_P_roomInRow_34 : decode c_P_roomInRow 34 = .ok (.l2i, 1) := by decide +kernel
theorem d_P_roomInRow_35 : decode c_P_roomInRow 35 = .ok (.ireturn, 1) := by decide +kernel
theorem d_P_layOutBest_0 : decode c_P_layOutBest 0 = .ok (.aload_n 0, 1) := by decide +kernel
theorem d_P_layOutBest_1 : decode c_P_layOutBest 1 = .ok (.getfield 41, 3) := by decide +kernel
theorem d_P_layOutBest_4 : decode c_P_layOutBest 4 = .ok (.aload_n 0, 1) := by decide +kernel
theorem d_P_layOutBest_5 : decode c_P_layOutBest 5 = .ok (.getfield 27, 3) := by decide +kernel
theorem d_P_layOutBest_8 : decode c_P_layOutBest 8 = .ok (.iconst 0, 1) := by decide +kernel
theorem d_P_layOutBest_9 : decode c_P_layOutBest 9 = .ok (.laload, 1) := by decide +kernel
theorem d_P_layOutBest_10 : decode c_P_layOutBest 10 = .ok (.aload_n 0, 1) := by decide +kernel
theorem d_P_layOutBest_11 : decode c_P_layOutBest 11 = .ok (.getfield 27, 3) := by decide +kernel
theorem d_P_layOutBest_14 : decode c_P_layOutBest 14 = .ok (.iconst 1, 1) := by decide +kernel
theorem d_P_layOutBest_15 : decode c_P_layOutBest 15 = .ok (.laload, 1) := by decide +kernel
theorem d_P_layOutBest_16 : decode c_P_layOutBest 16 = .ok (.aload_n 0, 1) := by decide +kernel
theorem d_P_layOutBest_17 : decode c_P_layOutBest 17 = .ok (.getfield 133, 3) := by decide +kernel
theorem d_P_layOutBest_20 : decode c_P_layOutBest 20 = .ok (.invokevirtual 254, 3) := by decide +kernel
theorem d_P_layOutBest_23 : decode c_P_layOutBest 23 = .ok (.iconst 0, 1) := by decide +kernel
theorem d_P_layOutBest_24 : decode c_P_layOutBest 24 = .ok (.istore_n 1, 1) := by decide +kernel
theorem d_P_layOutBest_25 : decode c_P_layOutBest 25 = .ok (.iload_n 1, 1) := by decide +kernel
theorem d_P_layOutBest_26 : decode c_P_layOutBest 26 = .ok (.aload_n 0, 1) := by decide +kernel
theorem d_P_layOutBest_27 : decode c_P_layOutBest 27 = .ok (.getfield 34, 3) := by decide +kernel
theorem d_P_layOutBest_30 : decode c_P_layOutBest 30 = .ok (.getfield 257, 3) := by decide +kernel
theorem d_P_layOutBest_33 : decode c_P_layOutBest 33 = .ok (.if_icmp .ge 69, 3) := by decide +kernel
theorem d_P_layOutBest_36 : decode c_P_layOutBest 36 = .ok (.aload_n 0, 1) := by decide +kernel
theorem d_P_layOutBest_37 : decode c_P_layOutBest 37 = .ok (.getfield 34, 3) := by decide +kernel
theorem d_P_layOutBest_40 : decode c_P_layOutBest 40 = .ok (.getfield 260, 3) := by decide +kernel
theorem d_P_layOutBest_43 : decode c_P_layOutBest 43 = .ok (.iload_n 1, 1) := by decide +kernel
theorem d_P_layOutBest_44 : decode c_P_layOutBest 44 = .ok (.iaload, 1) := by decide +kernel
theorem d_P_layOutBest_45 : decode c_P_layOutBest 45 = .ok (.istore_n 2, 1) := by decide +kernel
theorem d_P_layOutBest_46 : decode c_P_layOutBest 46 = .ok (.iload_n 2, 1) := by decide +kernel
theorem d_P_layOutBest_47 : decode c_P_layOutBest 47 = .ok (.iconst 2, 1) := by decide +kernel
theorem d_P_layOutBest_48 : decode c_P_layOutBest 48 = .ok (.idiv, 1) := by decide +kernel
theorem d_P_layOutBest_49 : decode c_P_layOutBest 49 = .ok (.istore_n 3, 1) := by decide +kernel
theorem d_P_layOutBest_50 : decode c_P_layOutBest 50 = .ok (.iload_n 2, 1) := by decide +kernel
theorem d_P_layOutBest_51 : decode c_P_layOutBest 51 = .ok (.iconst 2, 1) := by decide +kernel
theorem d_P_layOutBest_52 : decode c_P_layOutBest 52 = .ok (.irem, 1) := by decide +kernel
theorem d_P_layOutBest_53 : decode c_P_layOutBest 53 = .ok (.istore 4, 2) := by decide +kernel
theorem d_P_layOutBest_55 : decode c_P_layOutBest 55 = .ok (.aload_n 0, 1) := by decide +kernel
theorem d_P_layOutBest_56 : decode c_P_layOutBest 56 = .ok (.getfield 41, 3) := by decide +kernel
theorem d_P_layOutBest_59 : decode c_P_layOutBest 59 = .ok (.iload_n 3, 1) := by decide +kernel
theorem d_P_layOutBest_60 : decode c_P_layOutBest 60 = .ok (.iload 4, 2) := by decide +kernel
theorem d_P_layOutBest_62 : decode c_P_layOutBest 62 = .ok (.aload_n 0, 1) := by decide +kernel
theorem d_P_layOutBest_63 : decode c_P_layOutBest 63 = .ok (.getfield 22, 3) := by decide +kernel
theorem d_P_layOutBest_66 : decode c_P_layOutBest 66 = .ok (.iload_n 3, 1) := by decide +kernel
theorem d_P_layOutBest_67 : decode c_P_layOutBest 67 = .ok (.aaload, 1) := by decide +kernel
theorem d_P_layOutBest_68 : decode c_P_layOutBest 68 = .ok (.iload 4, 2) := by decide +kernel
theorem d_P_layOutBest_70 : decode c_P_layOutBest 70 = .ok (.invokevirtual 237, 3) := by decide +kernel
theorem d_P_layOutBest_73 : decode c_P_layOutBest 73 = .ok (.aload_n 0, 1) := by decide +kernel
theorem d_P_layOutBest_74 : decode c_P_layOutBest 74 = .ok (.getfield 22, 3) := by decide +kernel
theorem d_P_layOutBest_77 : decode c_P_layOutBest 77 = .ok (.iload_n 3, 1) := by decide +kernel
theorem d_P_layOutBest_78 : decode c_P_layOutBest 78 = .ok (.aaload, 1) := by decide +kernel
theorem d_P_layOutBest_79 : decode c_P_layOutBest 79 = .ok (.iload 4, 2) := by decide +kernel
theorem d_P_layOutBest_81 : decode c_P_layOutBest 81 = .ok (.invokevirtual 245, 3) := by decide +kernel
theorem d_P_layOutBest_84 : decode c_P_layOutBest 84 = .ok (.aload_n 0, 1) := by decide +kernel
theorem d_P_layOutBest_85 : decode c_P_layOutBest 85 = .ok (.getfield 34, 3) := by decide +kernel
theorem d_P_layOutBest_88 : decode c_P_layOutBest 88 = .ok (.getfield 263, 3) := by decide +kernel
theorem d_P_layOutBest_91 : decode c_P_layOutBest 91 = .ok (.iload_n 1, 1) := by decide +kernel
theorem d_P_layOutBest_92 : decode c_P_layOutBest 92 = .ok (.iaload, 1) := by decide +kernel
theorem d_P_layOutBest_93 : decode c_P_layOutBest 93 = .ok (.invokevirtual 266, 3) := by decide +kernel
theorem d_P_layOutBest_96 : decode c_P_layOutBest 96 = .ok (.iinc 1 1, 3) := by decide +kernel
theorem d_P_layOutBest_99 : decode c_P_layOutBest 99 = .ok (.goto (-74), 3) := by decide +kernel
theorem d_P_layOutBest_102 : decode c_P_layOutBest 102 = .ok (.return_, 1) := by decide +kernel
theorem d_P_tabOffset_0 : decode c_P_tabOffset 0 = .ok (.iload_n 0, 1) := by decide +kernel
theorem d_P_tabOffset_1 : decode c_P_tabOffset 1 = .ok (.iload_n 1, 1) := by decide +kernel
theorem d_P_tabOffset_2 : decode c_P_tabOffset 2 = .ok (.if_icmp .ne 5, 3) := by decide +kernel
theorem d_P_tabOffset_5 : decode c_P_tabOffset 5 = .ok (.lconst 0, 1) := by decide +kernel
theorem d_P_tabOffset_6 : decode c_P_tabOffset 6 = .ok (.lreturn, 1) := by decide +kernel
theorem d_P_tabOffset_7 : decode c_P_tabOffset 7 = .ok (.iload_n 0, 1) := by decide +kernel
theorem d_P_tabOffset_8 : decode c_P_tabOffset 8 = .ok (.iload_n 2, 1) := by decide +kernel
theorem d_P_tabOffset_9 : decode c_P_tabOffset 9 = .ok (.if_icmp .ne 7, 3) := by decide +kernel
theorem d_P_tabOffset_12 : decode c_P_tabOffset 12 = .ok (.lload_n 3, 1) := by decide +kernel
theorem d_P_tabOffset_13 : decode c_P_tabOffset 13 = .ok (.goto 8, 3) := by decide +kernel
theorem d_P_tabOffset_16 : decode c_P_tabOffset 16 = .ok (.lload_n 3, 1) := by decide +kernel
theorem d_P_tabOffset_17 : decode c_P_tabOffset 17 = .ok (.ldc2_w 171, 3) := by decide +kernel
theorem d_P_tabOffset_20 : decode c_P_tabOffset 20 = .ok (.ldiv, 1) := by decide +kernel
theorem d_P_tabOffset_21 : decode c_P_tabOffset 21 = .ok (.lreturn, 1) := by decide +kernel
theorem d_P_grownEnd_0 : decode c_P_grownEnd 0 = .ok (.iload 5, 2) := by decide +kernel
theorem d_P_grownEnd_2 : decode c_P_grownEnd 2 = .ok (.ifCond .eq 14, 3) := by decide +kernel
theorem d_P_grownEnd_5 : decode c_P_grownEnd 5 = .ok (.lload_n 1, 1) := by decide +kernel
theorem d_P_grownEnd_6 : decode c_P_grownEnd 6 = .ok (.lload_n 3, 1) := by decide +kernel
theorem d_P_grownEnd_7 : decode c_P_grownEnd 7 = .ok (.ladd, 1) := by decide +kernel
theorem d_P_grownEnd_8 : decode c_P_grownEnd 8 = .ok (.aload_n 0, 1) := by decide +kernel
theorem d_P_grownEnd_9 : decode c_P_grownEnd 9 = .ok (.getfield 194, 3) := by decide +kernel
theorem d_P_grownEnd_12 : decode c_P_grownEnd 12 = .ok (.ladd, 1) := by decide +kernel
theorem d_P_grownEnd_13 : decode c_P_grownEnd 13 = .ok (.goto 9, 3) := by decide +kernel
theorem d_P_grownEnd_16 : decode c_P_grownEnd 16 = .ok (.lload_n 1, 1) := by decide +kernel
theorem d_P_grownEnd_17 : decode c_P_grownEnd 17 = .ok (.aload_n 0, 1) := by decide +kernel
theorem d_P_grownEnd_18 : decode c_P_grownEnd 18 = .ok (.getfield 194, 3) := by decide +kernel
theorem d_P_grownEnd_21 : decode c_P_grownEnd 21 = .ok (.lsub, 1) := by decide +kernel
theorem d_P_grownEnd_22 : decode c_P_grownEnd 22 = .ok (.lreturn, 1) := by decide +kernel
theorem d_P_twiceAreaOfCopies_0 : decode c_P_twiceAreaOfCopies 0 = .ok (.lconst 0, 1) := by decide +kernel
theorem d_P_twiceAreaOfCopies_1 : decode c_P_twiceAreaOfCopies 1 = .ok (.lstore_n 1, 1) := by decide +kernel
theorem d_P_twiceAreaOfCopies_2 : decode c_P_twiceAreaOfCopies 2 = .ok (.iconst 0, 1) := by decide +kernel
theorem d_P_twiceAreaOfCopies_3 : decode c_P_twiceAreaOfCopies 3 = .ok (.istore_n 3, 1) := by decide +kernel
theorem d_P_twiceAreaOfCopies_4 : decode c_P_twiceAreaOfCopies 4 = .ok (.iload_n 3, 1) := by decide +kernel
theorem d_P_twiceAreaOfCopies_5 : decode c_P_twiceAreaOfCopies 5 = .ok (.aload_n 0, 1) := by decide +kernel
theorem d_P_twiceAreaOfCopies_6 : decode c_P_twiceAreaOfCopies 6 = .ok (.getfield 41, 3) := by decide +kernel
theorem d_P_twiceAreaOfCopies_9 : decode c_P_twiceAreaOfCopies 9 = .ok (.getfield 270, 3) := by decide +kernel
theorem d_P_twiceAreaOfCopies_12 : decode c_P_twiceAreaOfCopies 12 = .ok (.if_icmp .ge 40, 3) := by decide +kernel
theorem d_P_twiceAreaOfCopies_15 : decode c_P_twiceAreaOfCopies 15 = .ok (.lload_n 1, 1) := by decide +kernel
theorem d_P_twiceAreaOfCopies_16 : decode c_P_twiceAreaOfCopies 16 = .ok (.aload_n 0, 1) := by decide +kernel
theorem d_P_twiceAreaOfCopies_17 : decode c_P_twiceAreaOfCopies 17 = .ok (.getfield 41, 3) := by decide +kernel
theorem d_P_twiceAreaOfCopies_20 : decode c_P_twiceAreaOfCopies 20 = .ok (.getfield 273, 3) := by decide +kernel
theorem d_P_twiceAreaOfCopies_23 : decode c_P_twiceAreaOfCopies 23 = .ok (.iload_n 3, 1) := by decide +kernel
theorem d_P_twiceAreaOfCopies_24 : decode c_P_twiceAreaOfCopies 24 = .ok (.iaload, 1) := by decide +kernel
theorem d_P_twiceAreaOfCopies_25 : decode c_P_twiceAreaOfCopies 25 = .ok (.i2l, 1) := by decide +kernel
theorem d_P_twiceAreaOfCopies_26 : decode c_P_twiceAreaOfCopies 26 = .ok (.aload_n 0, 1) := by decide +kernel
theorem d_P_twiceAreaOfCopies_27 : decode c_P_twiceAreaOfCopies 27 = .ok (.getfield 22, 3) := by decide +kernel
theorem d_P_twiceAreaOfCopies_30 : decode c_P_twiceAreaOfCopies 30 = .ok (.aload_n 0, 1) := by decide +kernel
theorem d_P_twiceAreaOfCopies_31 : decode c_P_twiceAreaOfCopies 31 = .ok (.getfield 41, 3) := by decide +kernel
theorem d_P_twiceAreaOfCopies_34 : decode c_P_twiceAreaOfCopies 34 = .ok (.getfield 110, 3) := by decide +kernel
theorem d_P_twiceAreaOfCopies_37 : decode c_P_twiceAreaOfCopies 37 = .ok (.iload_n 3, 1) := by decide +kernel
theorem d_P_twiceAreaOfCopies_38 : decode c_P_twiceAreaOfCopies 38 = .ok (.iaload, 1) := by decide +kernel
theorem d_P_twiceAreaOfCopies_39 : decode c_P_twiceAreaOfCopies 39 = .ok (.aaload, 1) := by decide +kernel
theorem d_P_twiceAreaOfCopies_40 : decode c_P_twiceAreaOfCopies 40 = .ok (.invokevirtual 276, 3) := by decide +kernel
theorem d_P_twiceAreaOfCopies_43 : decode c_P_twiceAreaOfCopies 43 = .ok (.lmul, 1) := by decide +kernel
theorem d_P_twiceAreaOfCopies_44 : decode c_P_twiceAreaOfCopies 44 = .ok (.ladd, 1) := by decide +kernel
theorem d_P_twiceAreaOfCopies_45 : decode c_P_twiceAreaOfCopies 45 = .ok (.lstore_n 1, 1) := by decide +kernel
theorem d_P_twiceAreaOfCopies_46 : decode c_P_twiceAreaOfCopies 46 = .ok (.iinc 3 1, 3) := by decide +kernel
theorem d_P_twiceAreaOfCopies_49 : decode c_P_twiceAreaOfCopies 49 = .ok (.goto (-45), 3) := by decide +kernel
theorem d_P_twiceAreaOfCopies_52 : decode c_P_twiceAreaOfCopies 52 = .ok (.lload_n 1, 1) := by decide +kernel
theorem d_P_twiceAreaOfCopies_53 : decode c_P_twiceAreaOfCopies 53 = .ok (.lreturn, 1) := by decide +kernel
theorem d_P_commonDivisor_0 : decode c_P_commonDivisor 0 = .ok (.lload_n 0, 1) := by decide +kernel
theorem d_P_commonDivisor_1 : decode c_P_commonDivisor 1 = .ok (.lstore 4, 2) := by decide +kernel
theorem d_P_commonDivisor_3 : decode c_P_commonDivisor 3 = .ok (.lload_n 2, 1) := by decide +kernel
theorem d_P_commonDivisor_4 : decode c_P_commonDivisor 4 = .ok (.lstore 6, 2) := by decide +kernel
theorem d_P_commonDivisor_6 : decode c_P_commonDivisor 6 = .ok (.iconst 0, 1) := by decide +kernel
theorem d_P_commonDivisor_7 : decode c_P_commonDivisor 7 = .ok (.istore 8, 2) := by decide +kernel
theorem d_P_commonDivisor_9 : decode c_P_commonDivisor 9 = .ok (.iload 8, 2) := by decide +kernel
theorem d_P_commonDivisor_11 : decode c_P_commonDivisor 11 = .ok (.sipush 200, 3) := by decide +kernel
theorem d_P_commonDivisor_14 : decode c_P_commonDivisor 14 = .ok (.if_icmp .ge 31, 3) := by decide +kernel
theorem d_P_commonDivisor_17 : decode c_P_commonDivisor 17 = .ok (.lload 6, 2) := by decide +kernel
theorem d_P_commonDivisor_19 : decode c_P_commonDivisor 19 = .ok (.lconst 0, 1) := by decide +kernel
theorem d_P_commonDivisor_20 : decode c_P_commonDivisor 20 = .ok (.lcmp, 1) := by decide +kernel
theorem d_P_commonDivisor_21 : decode c_P_commonDivisor 21 = .ok (.ifCond .eq 24, 3) := by decide +kernel
theorem d_P_commonDivisor_24 : decode c_P_commonDivisor 24 = .ok (.lload 4, 2) := by decide +kernel
theorem d_P_commonDivisor_26 : decode c_P_commonDivisor 26 = .ok (.lload 6, 2) := by decide +kernel
theorem d_P_commonDivisor_28 : decode c_P_commonDivisor 28 = .ok (.lrem, 1) := by decide +kernel
theorem d_P_commonDivisor_29 : decode c_P_commonDivisor 29 = .ok (.lstore 9, 2) := by decide +kernel
theorem d_P_commonDivisor_31 : decode c_P_commonDivisor 31 = .ok (.lload 6, 2) := by decide +kernel
theorem d_P_commonDivisor_33 : decode c_P_commonDivisor 33 = .ok (.lstore 4, 2) := by decide +kernel
theorem d_P_commonDivisor_35 : decode c_P_commonDivisor 35 = .ok (.lload 9, 2) := by decide +kernel
theorem d_P_commonDivisor_37 : decode c_P_commonDivisor 37 = .ok (.lstore 6, 2) := by decide +kernel
theorem d_P_commonDivisor_39 : decode c_P_commonDivisor 39 = .ok (.iinc 8 1, 3) := by decide +kernel
theorem d_P_commonDivisor_42 : decode c_P_commonDivisor 42 = .ok (.goto (-33), 3) := by decide +kernel
theorem d_P_commonDivisor_45 : decode c_P_commonDivisor 45 = .ok (.lconst 1, 1) := by decide +kernel
theorem d_P_commonDivisor_46 : decode c_P_commonDivisor 46 = .ok (.lload 4, 2) := by decide +kernel
theorem d_P_commonDivisor_48 : decode c_P_commonDivisor 48 = .ok (.invokestatic 212, 3) := by decide +kernel
theorem d_P_commonDivisor_51 : decode c_P_commonDivisor 51 = .ok (.lreturn, 1) := by decide +kernel
end
section
theorem d_M_init_0 : decode c_M_init 0 = .ok (.aload_n 0, 1) := by decide +kernel
theorem d_M_init_1 : decode c_M_init 1 = .ok (.invokespecial 1, 3) := by decide +kernel
theorem d_M_init_4 : decode c_M_init 4 = .ok (.aload_n 0, 1) := by decide +kernel
theorem d_M_init_5 : decode c_M_init 5 = .ok (.iconst 4, 1) := by decide +kernel
theorem d_M_init_6 : decode c_M_init 6 = .ok (.newarray .int, 2) := by decide +kernel
theorem d_M_init_8 : decode c_M_init 8 = .ok (.putfield 7, 3) := by decide +kernel
theorem d_M_init_11 : decode c_M_init 11 = .ok (.aload_n 0, 1) := by decide +kernel
theorem d_M_init_12 : decode c_M_init 12 = .ok (.bipush 48, 2) := by decide +kernel
theorem d_M_init_14 : decode c_M_init 14 = .ok (.newarray .long, 2) := by decide +kernel
theorem d_M_init_16 : decode c_M_init 16 = .ok (.putfield 13, 3) := by decide +kernel
theorem d_M_init_19 : decode c_M_init 19 = .ok (.aload_n 0, 1) := by decide +kernel
theorem d_M_init_20 : decode c_M_init 20 = .ok (.bipush 48, 2) := by decide +kernel
theorem d_M_init_22 : decode c_M_init 22 = .ok (.newarray .long, 2) := by decide +kernel
theorem d_M_init_24 : decode c_M_init 24 = .ok (.putfield 17, 3) := by decide +kernel
theorem d_M_init_27 : decode c_M_init 27 = .ok (.aload_n 0, 1) := by decide +kernel
theorem d_M_init_28 : decode c_M_init 28 = .ok (.iconst 4, 1) := by decide +kernel
theorem d_M_init_29 : decode c_M_init 29 = .ok (.newarray .int, 2) := by decide +kernel
theorem d_M_init_31 : decode c_M_init 31 = .ok (.putfield 20, 3) := by decide +kernel
theorem d_M_init_34 : decode c_M_init 34 = .ok (.aload_n 0, 1) := by decide +kernel
theorem d_M_init_35 : decode c_M_init 35 = .ok (.iconst 4, 1) := by decide +kernel
theorem d_M_init_36 : decode c_M_init 36 = .ok (.newarray .int, 2) := by decide +kernel
theorem d_M_init_38 : decode c_M_init 38 = .ok (.putfield 23, 3) := by decide +kernel
theorem d_M_init_41 : decode c_M_init 41 = .ok (.aload_n 0, 1) := by decide +kernel
theorem d_M_init_42 : decode c_M_init 42 = .ok (.bipush 120, 2) := by decide +kernel
theorem d_M_init_44 : decode c_M_init 44 = .ok (.newarray .long, 2) := by decide +kernel
theorem d_M_init_46 : decode c_M_init 46 = .ok (.putfield 26, 3) := by decide +kernel
theorem d_M_init_49 : decode c_M_init 49 = .ok (.aload_n 0, 1) := by decide +kernel
theorem d_M_init_50 : decode c_M_init 50 = .ok (.iconst 4, 1) := by decide +kernel
theorem d_M_init_51 : decode c_M_init 51 = .ok (.newarray .long, 2) := by decide +kernel
theorem d_M_init_53 : decode c_M_init 53 = .ok (.putfield 29, 3) := by decide +kernel
theorem d_M_init_56 : decode c_M_init 56 = .ok (.aload_n 0, 1) := by decide +kernel
theorem d_M_init_57 : decode c_M_init 57 = .ok (.sipush 1200, 3) := by decide +kernel
theorem d_M_init_60 : decode c_M_init 60 = .ok (.newarray .long, 2) := by decide +kernel
theorem d_M_init_62 : decode c_M_init 62 = .ok (.putfield 32, 3) := by decide +kernel
theorem d_M_init_65 : decode c_M_init 65 = .ok (.aload_n 0, 1) := by decide +kernel
theorem d_M_init_66 : decode c_M_init 66 = .ok (.sipush 200, 3) := by decide +kernel
theorem d_M_init_69 : decode c_M_init 69 = .ok (.newarray .boolean, 2) := by decide +kernel
theorem d_M_init_71 : decode c_M_init 71 = .ok (.putfield 35, 3) := by decide +kernel
theorem d_M_init_74 : decode c_M_init 74 = .ok (.aload_n 0, 1) := by decide +kernel
theorem d_M_init_75 : decode c_M_init 75 = .ok (.iconst 4, 1) := by decide +kernel
theorem d_M_init_76 : decode c_M_init 76 = .ok (.newarray .long, 2) := by decide +kernel
theorem d_M_init_78 : decode c_M_init 78 = .ok (.putfield 39, 3) := by decide +kernel
theorem d_M_init_81 : decode c_M_init 81 = .ok (.aload_n 0, 1) := by decide +kernel
theorem d_M_init_82 : decode c_M_init 82 = .ok (.iconst 4, 1) := by decide +kernel
theorem d_M_init_83 : decode c_M_init 83 = .ok (.newarray .long, 2) := by decide +kernel
theorem d_M_init_85 : decode c_M_init 85 = .ok (.putfield 42, 3) := by decide +kernel
theorem d_M_init_88 : decode c_M_init 88 = .ok (.aload_n 0, 1) := by decide +kernel
theorem d_M_init_89 : decode c_M_init 89 = .ok (.iconst 4, 1) := by decide +kernel
theorem d_M_init_90 : decode c_M_init 90 = .ok (.newarray .long, 2) := by decide +kernel
theorem d_M_init_92 : decode c_M_init 92 = .ok (.putfield 45, 3) := by decide +kernel
theorem d_M_init_95 : decode c_M_init 95 = .ok (.aload_n 0, 1) := by decide +kernel
theorem d_M_init_96 : decode c_M_init 96 = .ok (.iconst 4, 1) := by decide +kernel
theorem d_M_init_97 : decode c_M_init 97 = .ok (.newarray .long, 2) := by decide +kernel
theorem d_M_init_99 : decode c_M_init 99 = .ok (.putfield 48, 3) := by decide +kernel
theorem d_M_init_102 : decode c_M_init 102 = .ok (.aload_n 0, 1) := by decide +kernel
theorem d_M_init_103 : decode c_M_init 103 = .ok (.bipush 8, 2) := by decide +kernel
theorem d_M_init_105 : decode c_M_init 105 = .ok (.newarray .int, 2) := by decide +kernel
theorem d_M_init_107 : decode c_M_init 107 = .ok (.putfield 51, 3) := by decide +kernel
theorem d_M_init_110 : decode c_M_init 110 = .ok (.aload_n 0, 1) := by decide +kernel
theorem d_M_init_111 : decode c_M_init 111 = .ok (.bipush 8, 2) := by decide +kernel
theorem d_M_init_113 : decode c_M_init 113 = .ok (.newarray .int, 2) := by decide +kernel
theorem d_M_init_115 : decode c_M_init 115 = .ok (.putfield 54, 3) := by decide +kernel
theorem d_M_init_118 : decode c_M_init 118 = .ok (.aload_n 0, 1) := by decide +kernel
theorem d_M_init_119 : decode c_M_init 119 = .ok (.bipush 8, 2) := by decide +kernel
theorem d_M_init_121 : decode c_M_init 121 = .ok (.newarray .int, 2) := by decide +kernel
theorem d_M_init_123 : decode c_M_init 123 = .ok (.putfield 57, 3) := by decide +kernel
theorem d_M_init_126 : decode c_M_init 126 = .ok (.aload_n 0, 1) := by decide +kernel
theorem d_M_init_127 : decode c_M_init 127 = .ok (.lload_n 1, 1) := by decide +kernel
theorem d_M_init_128 : decode c_M_init 128 = .ok (.lconst 1, 1) := by decide +kernel
theorem d_M_init_129 : decode c_M_init 129 = .ok (.lcmp, 1) := by decide +kernel
theorem d_M_init_130 : decode c_M_init 130 = .ok (.ifCond .ge 7, 3) := by decide +kernel
theorem d_M_init_133 : decode c_M_init 133 = .ok (.lconst 1, 1) := by decide +kernel
theorem d_M_init_134 : decode c_M_init 134 = .ok (.goto 18, 3) := by decide +kernel
theorem d_M_init_137 : decode c_M_init 137 = .ok (.lload_n 1, 1) := by decide +kernel
theorem d_M_init_138 : decode c_M_init 138 = .ok (.ldc2_w 60, 3) := by decide +kernel
theorem d_M_init_141 : decode c_M_init 141 = .ok (.lcmp, 1) := by decide +kernel
theorem d_M_init_142 : decode c_M_init 142 = .ok (.ifCond .le 9, 3) := by decide +kernel
theorem d_M_init_145 : decode c_M_init 145 = .ok (.ldc2_w 60, 3) := by decide +kernel
theorem d_M_init_148 : decode c_M_init 148 = .ok (.goto 4, 3) := by decide +kernel
theorem d_M_init_151 : decode c_M_init 151 = .ok (.lload_n 1, 1) := by decide +kernel
theorem d_M_init_152 : decode c_M_init 152 = .ok (.putfield 62, 3) := by decide +kernel
theorem d_M_init_155 : decode c_M_init 155 = .ok (.aload_n 0, 1) := by decide +kernel
theorem d_M_init_156 : decode c_M_init 156 = .ok (.lload_n 3, 1) := by decide +kernel
theorem d_M_init_157 : decode c_M_init 157 = .ok (.lconst 1, 1) := by decide +kernel
theorem d_M_init_158 : decode c_M_init 158 = .ok (.lcmp, 1) := by decide +kernel
theorem d_M_init_159 : decode c_M_init 159 = .ok (.ifCond .ge 7, 3) := by decide +kernel
theorem d_M_init_162 : decode c_M_init 162 = .ok (.lconst 1, 1) := by decide +kernel
theorem d_M_init_163 : decode c_M_init 163 = .ok (.goto 18, 3) := by decide +kernel
theorem d_M_init_166 : decode c_M_init 166 = .ok (.lload_n 3, 1) := by decide +kernel
theorem d_M_init_167 : decode c_M_init 167 = .ok (.ldc2_w 60, 3) := by decide +kernel
theorem d_M_init_170 : decode c_M_init 170 = .ok (.lcmp, 1) := by decide +kernel
theorem d_M_init_171 : decode c_M_init 171 = .ok (.ifCond .le 9, 3) := by decide +kernel
theorem d_M_init_174 : decode c_M_init 174 = .ok (.ldc2_w 60, 3) := by decide +kernel
theorem d_M_init_177 : decode c_M_init 177 = .ok (.goto 4, 3) := by decide +kernel
theorem d_M_init_180 : decode c_M_init 180 = .ok (.lload_n 3, 1) := by decide +kernel
theorem d_M_init_181 : decode c_M_init 181 = .ok (.putfield 66, 3) := by decide +kernel
theorem d_M_init_184 : decode c_M_init 184 = .ok (.iconst 0, 1) := by decide +kernel
theorem d_M_init_185 : decode c_M_init 185 = .ok (.istore 5, 2) := by decide +kernel
theorem d_M_init_187 : decode c_M_init 187 = .ok (.iload 5, 2) := by decide +kernel
theorem d_M_init_189 : decode c_M_init 189 = .ok (.iconst 4, 1) := by decide +kernel
theorem d_M_init_190 : decode c_M_init 190 = .ok (.if_icmp .ge 19, 3) := by decide +kernel
theorem d_M_init_193 : decode c_M_init 193 = .ok (.aload_n 0, 1) := by decide +kernel
theorem d_M_init_194 : decode c_M_init 194 = .ok (.getfield 20, 3) := by decide +kernel
theorem d_M_init_197 : decode c_M_init 197 = .ok (.iload 5, 2) := by decide +kernel
theorem d_M_init_199 : decode c_M_init 199 = .ok (.sipush 200, 3) := by decide +kernel
theorem d_M_init_202 : decode c_M_init 202 = .ok (.iastore, 1) := by decide +kernel
theorem d_M_init_203 : decode c_M_init 203 = .ok (.iinc 5 1, 3) := by decide +kernel
theorem d_M_init_206 : decode c_M_init 206 = .ok (.goto (-19), 3) := by decide +kernel
theorem d_M_init_209 : decode c_M_init 209 = .ok (.return_, 1) := by decide +kernel
theorem d_M_thrown_0 : decode c_M_thrown 0 = .ok (.aload_n 0, 1) := by decide +kernel
theorem d_M_thrown_1 : decode c_M_thrown 1 = .ok (.getfield 69, 3) := by decide +kernel
theorem d_M_thrown_4 : decode c_M_thrown 4 = .ok (.ireturn, 1) := by decide +kernel
theorem d_M_isBoard_0 : decode c_M_isBoard 0 = .ok (.iload_n 1, 1) := by decide +kernel
theorem d_M_isBoard_1 : decode c_M_isBoard 1 = .ok (.ifCond .lt 15, 3) := by decide +kernel
theorem d_M_isBoard_4 : decode c_M_isBoard 4 = .ok (.iload_n 1, 1) := by decide +kernel
theorem d_M_isBoard_5 : decode c_M_isBoard 5 = .ok (.aload_n 0, 1) := by decide +kernel
theorem d_M_isBoard_6 : decode c_M_isBoard 6 = .ok (.getfield 73, 3) := by decide +kernel
theorem d_M_isBoard_9 : decode c_M_isBoard 9 = .ok (.if_icmp .ge 7, 3) := by decide +kernel
theorem d_M_isBoard_12 : decode c_M_isBoard 12 = .ok (.iconst 1, 1) := by decide +kernel
theorem d_M_isBoard_13 : decode c_M_isBoard 13 = .ok (.goto 4, 3) := by decide +kernel
theorem d_M_isBoard_16 : decode c_M_isBoard 16 = .ok (.iconst 0, 1) := by decide +kernel
theorem d_M_isBoard_17 : decode c_M_isBoard 17 = .ok (.ireturn, 1) := by decide +kernel
theorem d_M_isSize_0 : decode c_M_isSize 0 = .ok (.lload_n 0, 1) := by decide +kernel
theorem d_M_isSize_1 : decode c_M_isSize 1 = .ok (.lconst 0, 1) := by decide +kernel
theorem d_M_isSize_2 : decode c_M_isSize 2 = .ok (.lcmp, 1) := by decide +kernel
theorem d_M_isSize_3 : decode c_M_isSize 3 = .ok (.ifCond .lt 15, 3) := by decide +kernel
theorem d_M_isSize_6 : decode c_M_isSize 6 = .ok (.lload_n 0, 1) := by decide +kernel
theorem d_M_isSize_7 : decode c_M_isSize 7 = .ok (.ldc2_w 60, 3) := by decide +kernel
theorem d_M_isSize_10 : decode c_M_isSize 10 = .ok (.lcmp, 1) := by decide +kernel
theorem d_M_isSize_11 : decode c_M_isSize 11 = .ok (.ifCond .gt 7, 3) := by decide +kernel
theorem d_M_isSize_14 : decode c_M_isSize 14 = .ok (.iconst 1, 1) := by decide +kernel
theorem d_M_isSize_15 : decode c_M_isSize 15 = .ok (.goto 4, 3) := by decide +kernel
theorem d_M_isSize_18 : decode c_M_isSize 18 = .ok (.iconst 0, 1) := by decide +kernel
theorem d_M_isSize_19 : decode c_M_isSize 19 = .ok (.ireturn, 1) := by decide +kernel
theorem d_M_board_0 : decode c_M_board 0 = .ok (.aload_n 0, 1) := by decide +kernel
theorem d_M_board_1 : decode c_M_board 1 = .ok (.iconst 0, 1) := by decide +kernel
theorem d_M_board_2 : decode c_M_board 2 = .ok (.putfield 69, 3) := by decide +kernel
theorem d_M_board_5 : decode c_M_board 5 = .ok (.aload_n 0, 1) := by decide +kernel
theorem d_M_board_6 : decode c_M_board 6 = .ok (.getfield 73, 3) := by decide +kernel
theorem d_M_board_9 : decode c_M_board 9 = .ok (.iconst 4, 1) := by decide +kernel
theorem d_M_board_10 : decode c_M_board 10 = .ok (.if_icmp .ne 5, 3) := by decide +kernel
theorem d_M_board_13 : decode c_M_board 13 = .ok (.iconst (-1), 1) := by decide +kernel
theorem d_M_board_14 : decode c_M_board 14 = .ok (.ireturn, 1) := by decide +kernel
theorem d_M_board_15 : decode c_M_board 15 = .ok (.aload_n 0, 1) := by decide +kernel
theorem d_M_board_16 : decode c_M_board 16 = .ok (.dup, 1) := by decide +kernel
theorem d_M_board_17 : decode c_M_board 17 = .ok (.getfield 73, 3) := by decide +kernel
theorem d_M_board_20 : decode c_M_board 20 = .ok (.iconst 1, 1) := by decide +kernel
theorem d_M_board_21 : decode c_M_board 21 = .ok (.iadd, 1) := by decide +kernel
theorem d_M_board_22 : decode c_M_board 22 = .ok (.putfield 73, 3) := by decide +kernel
theorem d_M_board_25 : decode c_M_board 25 = .ok (.aload_n 0, 1) := by decide +kernel
theorem d_M_board_26 : decode c_M_board 26 = .ok (.getfield 73, 3) := by decide +kernel
theorem d_M_board_29 : decode c_M_board 29 = .ok (.iconst 1, 1) := by decide +kernel
theorem d_M_board_30 : decode c_M_board 30 = .ok (.isub, 1) := by decide +kernel
theorem d_M_board_31 : decode c_M_board 31 = .ok (.ireturn, 1) := by decide +kernel
theorem d_M_corner_0 : decode c_M_corner 0 = .ok (.aload_n 0, 1) := by decide +kernel
theorem d_M_corner_1 : decode c_M_corner 1 = .ok (.aload_n 0, 1) := by decide +kernel
theorem d_M_corner_2 : decode c_M_corner 2 = .ok (.iload_n 1, 1) := by decide +kernel
theorem d_M_corner_3 : decode c_M_corner 3 = .ok (.invokevirtual 76, 3) := by decide +kernel
theorem d_M_corner_6 : decode c_M_corner 6 = .ok (.ifCond .ne 7, 3) := by decide +kernel
theorem d_M_corner_9 : decode c_M_corner 9 = .ok (.iconst 1, 1) := by decide +kernel
theorem d_M_corner_10 : decode c_M_corner 10 = .ok (.goto 23, 3) := by decide +kernel
theorem d_M_corner_13 : decode c_M_corner 13 = .ok (.lload_n 2, 1) := by decide +kernel
theorem d_M_corner_14 : decode c_M_corner 14 = .ok (.invokestatic 80, 3) := by decide +kernel
theorem d_M_corner_17 : decode c_M_corner 17 = .ok (.ifCond .eq 15, 3) := by decide +kernel
theorem d_M_corner_20 : decode c_M_corner 20 = .ok (.lload 4, 2) := by decide +kernel
theorem d_M_corner_22 : decode c_M_corner 22 = .ok (.invokestatic 80, 3) := by decide +kernel
theorem d_M_corner_25 : decode c_M_corner 25 = .ok (.ifCond .eq 7, 3) := by decide +kernel
theorem d_M_corner_28 : decode c_M_corner 28 = .ok (.iconst 0, 1) := by decide +kernel
theorem d_M_corner_29 : decode c_M_corner 29 = .ok (.goto 4, 3) := by decide +kernel
theorem d_M_corner_32 : decode c_M_corner 32 = .ok (.iconst 2, 1) := by decide +kernel
theorem d_M_corner_33 : decode c_M_corner 33 = .ok (.putfield 69, 3) := by decide +kernel
theorem d_M_corner_36 : decode c_M_corner 36 = .ok (.aload_n 0, 1) := by decide +kernel
theorem d_M_corner_37 : decode c_M_corner 37 = .ok (.getfield 69, 3) := by decide +kernel
theorem d_M_corner_40 : decode c_M_corner 40 = .ok (.ifCond .ne 14, 3) := by decide +kernel
theorem d_M_corner_43 : decode c_M_corner 43 = .ok (.aload_n 0, 1) := by decide +kernel
theorem d_M_corner_44 : decode c_M_corner 44 = .ok (.getfield 7, 3) := by decide +kernel
theorem d_M_corner_47 : decode c_M_corner 47 = .ok (.iload_n 1, 1) := by decide +kernel
theorem d_M_corner_48 : decode c_M_corner 48 = .ok (.iaload, 1) := by decide +kernel
theorem d_M_corner_49 : decode c_M_corner 49 = .ok (.bipush 12, 2) := by decide +kernel
theorem d_M_corner_51 : decode c_M_corner 51 = .ok (.if_icmp .ne 5, 3) := by decide +kernel
theorem d_M_corner_54 : decode c_M_corner 54 = .ok (.iconst 0, 1) := by decide +kernel
theorem d_M_corner_55 : decode c_M_corner 55 = .ok (.ireturn, 1) := by decide +kernel
theorem d_M_corner_56 : decode c_M_corner 56 = .ok (.aload_n 0, 1) := by decide +kernel
theorem d_M_corner_57 : decode c_M_corner 57 = .ok (.getfield 13, 3) := by decide +kernel
theorem d_M_corner_60 : decode c_M_corner 60 = .ok (.bipush 12, 2) := by decide +kernel
theorem d_M_corner_62 : decode c_M_corner 62 = .ok (.iload_n 1, 1) := by decide +kernel
theorem d_M_corner_63 : decode c_M_corner 63 = .ok (.imul, 1) := by decide +kernel
theorem d_M_corner_64 : decode c_M_corner 64 = .ok (.aload_n 0, 1) := by decide +kernel
theorem d_M_corner_65 : decode c_M_corner 65 = .ok (.getfield 7, 3) := by decide +kernel
theorem d_M_corner_68 : decode c_M_corner 68 = .ok (.iload_n 1, 1) := by decide +kernel
theorem d_M_corner_69 : decode c_M_corner 69 = .ok (.iaload, 1) := by decide +kernel
theorem d_M_corner_70 : decode c_M_corner 70 = .ok (.iadd, 1) := by decide +kernel
theorem d_M_corner_71 : decode c_M_corner 71 = .ok (.lload_n 2, 1) := by decide +kernel
theorem d_M_corner_72 : decode c_M_corner 72 = .ok (.lastore, 1) := by decide +kernel
theorem d_M_corner_73 : decode c_M_corner 73 = .ok (.aload_n 0, 1) := by decide +kernel
theorem d_M_corner_74 : decode c_M_corner 74 = .ok (.getfield 17, 3) := by decide +kernel
theorem d_M_corner_77 : decode c_M_corner 77 = .ok (.bipush 12, 2) := by decide +kernel
theorem d_M_corner_79 : decode c_M_corner 79 = .ok (.iload_n 1, 1) := by decide +kernel
theorem d_M_corner_80 : decode c_M_corner 80 = .ok (.imul, 1) := by decide +kernel
theorem d_M_corner_81 : decode c_M_corner 81 = .ok (.aload_n 0, 1) := by decide +kernel
theorem d_M_corner_82 : decode c_M_corner 82 = .ok (.getfield 7, 3) := by decide +kernel
theorem d_M_corner_85 : decode c_M_corner 85 = .ok (.iload_n 1, 1) := by decide +kernel
theorem d_M_corner_86 : decode c_M_corner 86 = .ok (.iaload, 1) := by decide +kernel
theorem d_M_corner_87 : decode c_M_corner 87 = .ok (.iadd, 1) := by decide +kernel
theorem d_M_corner_88 : decode c_M_corner 88 = .ok (.lload 4, 2) := by decide +kernel
theorem d_M_corner_90 : decode c_M_corner 90 = .ok (.lastore, 1) := by decide +kernel
theorem d_M_corner_91 : decode c_M_corner 91 = .ok (.aload_n 0, 1) := by decide +kernel
theorem d_M_corner_92 : decode c_M_corner 92 = .ok (.getfield 7, 3) := by decide +kernel
theorem d_M_corner_95 : decode c_M_corner 95 = .ok (.iload_n 1, 1) := by decide +kernel
theorem d_M_corner_96 : decode c_M_corner 96 = .ok (.dup2, 1) := by decide +kernel
theorem d_M_corner_97 : decode c_M_corner 97 = .ok (.iaload, 1) := by decide +kernel
theorem d_M_corner_98 : decode c_M_corner 98 = .ok (.iconst 1, 1) := by decide +kernel
theorem d_M_corner_99 : decode c_M_corner 99 = .ok (.iadd, 1) := by decide +kernel
theorem d_M_corner_100 : decode c_M_corner 100 = .ok (.iastore, 1) := by decide +kernel
theorem d_M_corner_101 : decode c_M_corner 101 = .ok (.iconst 1, 1) := by decide +kernel
theorem d_M_corner_102 : decode c_M_corner 102 = .ok (.ireturn, 1) := by decide +kernel
theorem d_M_part_0 : decode c_M_part 0 = .ok (.aload_n 0, 1) := by decide +kernel
theorem d_M_part_1 : decode c_M_part 1 = .ok (.aload_n 0, 1) := by decide +kernel
theorem d_M_part_2 : decode c_M_part 2 = .ok (.iload_n 1, 1) := by decide +kernel
theorem d_M_part_3 : decode c_M_part 3 = .ok (.invokevirtual 76, 3) := by decide +kernel
theorem d_M_part_6 : decode c_M_part 6 = .ok (.ifCond .ne 7, 3) := by decide +kernel
theorem d_M_part_9 : decode c_M_part 9 = .ok (.iconst 1, 1) := by decide +kernel
theorem d_M_part_10 : decode c_M_part 10 = .ok (.goto 39, 3) := by decide +kernel
theorem d_M_part_13 : decode c_M_part 13 = .ok (.lload_n 2, 1) := by decide +kernel
theorem d_M_part_14 : decode c_M_part 14 = .ok (.invokestatic 80, 3) := by decide +kernel
theorem d_M_part_17 : decode c_M_part 17 = .ok (.ifCond .eq 31, 3) := by decide +kernel
theorem d_M_part_20 : decode c_M_part 20 = .ok (.lload 4, 2) := by decide +kernel
theorem d_M_part_22 : decode c_M_part 22 = .ok (.invokestatic 80, 3) := by decide +kernel
theorem d_M_part_25 : decode c_M_part 25 = .ok (.ifCond .eq 23, 3) := by decide +kernel
theorem d_M_part_28 : decode c_M_part 28 = .ok (.lload 6, 2) := by decide +kernel
theorem d_M_part_30 : decode c_M_part 30 = .ok (.lconst 1, 1) := by decide +kernel
theorem d_M_part_31 : decode c_M_part 31 = .ok (.lcmp, 1) := by decide +kernel
theorem d_M_part_32 : decode c_M_part 32 = .ok (.ifCond .lt 16, 3) := by decide +kernel
theorem d_M_part_35 : decode c_M_part 35 = .ok (.lload 6, 2) := by decide +kernel
theorem d_M_part_37 : decode c_M_part 37 = .ok (.ldc2_w 60, 3) := by decide +kernel
theorem d_M_part_40 : decode c_M_part 40 = .ok (.lcmp, 1) := by decide +kernel
theorem d_M_part_41 : decode c_M_part 41 = .ok (.ifCond .gt 7, 3) := by decide +kernel
theorem d_M_part_44 : decode c_M_part 44 = .ok (.iconst 0, 1) := by decide +kernel
theorem d_M_part_45 : decode c_M_part 45 = .ok (.goto 4, 3) := by decide +kernel
theorem d_M_part_48 : decode c_M_part 48 = .ok (.iconst 2, 1) := by decide +kernel
theorem d_M_part_49 : decode c_M_part 49 = .ok (.putfield 69, 3) := by decide +kernel
theorem d_M_part_52 : decode c_M_part 52 = .ok (.aload_n 0, 1) := by decide +kernel
theorem d_M_part_53 : decode c_M_part 53 = .ok (.getfield 69, 3) := by decide +kernel
theorem d_M_part_56 : decode c_M_part 56 = .ok (.ifCond .ne 14, 3) := by decide +kernel
theorem d_M_part_59 : decode c_M_part 59 = .ok (.aload_n 0, 1) := by decide +kernel
theorem d_M_part_60 : decode c_M_part 60 = .ok (.getfield 23, 3) := by decide +kernel
theorem d_M_part_63 : decode c_M_part 63 = .ok (.iload_n 1, 1) := by decide +kernel
theorem d_M_part_64 : decode c_M_part 64 = .ok (.iaload, 1) := by decide +kernel
theorem d_M_part_65 : decode c_M_part 65 = .ok (.bipush 10, 2) := by decide +kernel
theorem d_M_part_67 : decode c_M_part 67 = .ok (.if_icmp .ne 5, 3) := by decide +kernel
theorem d_M_part_70 : decode c_M_part 70 = .ok (.iconst 0, 1) := by decide +kernel
theorem d_M_part_71 : decode c_M_part 71 = .ok (.ireturn, 1) := by decide +kernel
theorem d_M_part_72 : decode c_M_part 72 = .ok (.bipush 30, 2) := by decide +kernel
theorem d_M_part_74 : decode c_M_part 74 = .ok (.iload_n 1, 1) := by decide +kernel
theorem d_M_part_75 : decode c_M_part 75 = .ok (.imul, 1) := by decide +kernel
theorem d_M_part_76 : decode c_M_part 76 = .ok (.iconst 3, 1) := by decide +kernel
theorem d_M_part_77 : decode c_M_part 77 = .ok (.aload_n 0, 1) := by decide +kernel
theorem d_M_part_78 : decode c_M_part 78 = .ok (.getfield 23, 3) := by decide +kernel
theorem d_M_part_81 : decode c_M_part 81 = .ok (.iload_n 1, 1) := by decide +kernel
theorem d_M_part_82 : decode c_M_part 82 = .ok (.iaload, 1) := by decide +kernel
theorem d_M_part_83 : decode c_M_part 83 = .ok (.imul, 1) := by decide +kernel
theorem d_M_part_84 : decode c_M_part 84 = .ok (.iadd, 1) := by decide +kernel
theorem d_M_part_85 : decode c_M_part 85 = .ok (.istore 8, 2) := by decide +kernel
theorem d_M_part_87 : decode c_M_part 87 = .ok (.aload_n 0, 1) := by decide +kernel
theorem d_M_part_88 : decode c_M_part 88 = .ok (.getfield 26, 3) := by decide +kernel
theorem d_M_part_91 : decode c_M_part 91 = .ok (.iload 8, 2) := by decide +kernel
theorem d_M_part_93 : decode c_M_part 93 = .ok (.lload_n 2, 1) := by decide +kernel
theorem d_M_part_94 : decode c_M_part 94 = .ok (.lastore, 1) := by decide +kernel
theorem d_M_part_95 : decode c_M_part 95 = .ok (.aload_n 0, 1) := by decide +kernel
theorem d_M_part_96 : decode c_M_part 96 = .ok (.getfield 26, 3) := by decide +kernel
theorem d_M_part_99 : decode c_M_part 99 = .ok (.iload 8, 2) := by decide +kernel
theorem d_M_part_101 : decode c_M_part 101 = .ok (.iconst 1, 1) := by decide +kernel
theorem d_M_part_102 : decode c_M_part 102 = .ok (.iadd, 1) := by decide +kernel
theorem d_M_part_103 : decode c_M_part 103 = .ok (.lload 4, 2) := by decide +kernel
theorem d_M_part_105 : decode c_M_part 105 = .ok (.lastore, 1) := by decide +kernel
theorem d_M_part_106 : decode c_M_part 106 = .ok (.aload_n 0, 1) := by decide +kernel
theorem d_M_part_107 : decode c_M_part 107 = .ok (.getfield 26, 3) := by decide +kernel
theorem d_M_part_110 : decode c_M_part 110 = .ok (.iload 8, 2) := by decide +kernel
theorem d_M_part_112 : decode c_M_part 112 = .ok (.iconst 2, 1) := by decide +kernel
theorem d_M_part_113 : decode c_M_part 113 = .ok (.iadd, 1) := by decide +kernel
theorem d_M_part_114 : decode c_M_part 114 = .ok (.lload 6, 2) := by decide +kernel
theorem d_M_part_116 : decode c_M_part 116 = .ok (.lastore, 1) := by decide +kernel
theorem d_M_part_117 : decode c_M_part 117 = .ok (.aload_n 0, 1) := by decide +kernel
theorem d_M_part_118 : decode c_M_part 118 = .ok (.getfield 23, 3) := by decide +kernel
theorem d_M_part_121 : decode c_M_part 121 = .ok (.iload_n 1, 1) := by decide +kernel
theorem d_M_part_122 : decode c_M_part 122 = .ok (.dup2, 1) := by decide +kernel
theorem d_M_part_123 : decode c_M_part 123 = .ok (.iaload, 1) := by decide +kernel
theorem d_M_part_124 : decode c_M_part 124 = .ok (.iconst 1, 1) := by decide +kernel
theorem d_M_part_125 : decode c_M_part 125 = .ok (.iadd, 1) := by decide +kernel
theorem d_M_part_126 : decode c_M_part 126 = .ok (.iastore, 1) := by decide +kernel
theorem d_M_part_127 : decode c_M_part 127 = .ok (.iconst 1, 1) := by decide +kernel
theorem d_M_part_128 : decode c_M_part 128 = .ok (.ireturn, 1) := by decide +kernel
theorem d_M_gap_0 : decode c_M_gap 0 = .ok (.aload_n 0, 1) := by decide +kernel
theorem d_M_gap_1 : decode c_M_gap 1 = .ok (.lload_n 1, 1) := by decide +kernel
theorem d_M_gap_2 : decode c_M_gap 2 = .ok (.invokestatic 80, 3) := by decide +kernel
theorem d_M_gap_5 : decode c_M_gap 5 = .ok (.ifCond .eq 7, 3) := by decide +kernel
theorem d_M_gap_8 : decode c_M_gap 8 = .ok (.iconst 0, 1) := by decide +kernel
theorem d_M_gap_9 : decode c_M_gap 9 = .ok (.goto 4, 3) := by decide +kernel
theorem d_M_gap_12 : decode c_M_gap 12 = .ok (.iconst 1, 1) := by decide +kernel
theorem d_M_gap_13 : decode c_M_gap 13 = .ok (.putfield 69, 3) := by decide +kernel
theorem d_M_gap_16 : decode c_M_gap 16 = .ok (.aload_n 0, 1) := by decide +kernel
theorem d_M_gap_17 : decode c_M_gap 17 = .ok (.getfield 69, 3) := by decide +kernel
theorem d_M_gap_20 : decode c_M_gap 20 = .ok (.ifCond .ne 12, 3) := by decide +kernel
theorem d_M_gap_23 : decode c_M_gap 23 = .ok (.aload_n 0, 1) := by decide +kernel
theorem d_M_gap_24 : decode c_M_gap 24 = .ok (.getfield 84, 3) := by decide +kernel
theorem d_M_gap_27 : decode c_M_gap 27 = .ok (.lload_n 1, 1) := by decide +kernel
theorem d_M_gap_28 : decode c_M_gap 28 = .ok (.lcmp, 1) := by decide +kernel
theorem d_M_gap_29 : decode c_M_gap 29 = .ok (.ifCond .ne 5, 3) := by decide +kernel
theorem d_M_gap_32 : decode c_M_gap 32 = .ok (.iconst 0, 1) := by decide +kernel
theorem d_M_gap_33 : decode c_M_gap 33 = .ok (.ireturn, 1) := by decide +kernel
theorem d_M_gap_34 : decode c_M_gap 34 = .ok (.aload_n 0, 1) := by decide +kernel
theorem d_M_gap_35 : decode c_M_gap 35 = .ok (.lload_n 1, 1) := by decide +kernel
theorem d_M_gap_36 : decode c_M_gap 36 = .ok (.putfield 84, 3) := by decide +kernel
theorem d_M_gap_39 : decode c_M_gap 39 = .ok (.iconst 1, 1) := by decide +kernel
theorem d_M_gap_40 : decode c_M_gap 40 = .ok (.ireturn, 1) := by decide +kernel
theorem d_M_radius_0 : decode c_M_radius 0 = .ok (.aload_n 0, 1) := by decide +kernel
theorem d_M_radius_1 : decode c_M_radius 1 = .ok (.lload_n 1, 1) := by decide +kernel
theorem d_M_radius_2 : decode c_M_radius 2 = .ok (.invokestatic 80, 3) := by decide +kernel
theorem d_M_radius_5 : decode c_M_radius 5 = .ok (.ifCond .eq 7, 3) := by decide +kernel
theorem d_M_radius_8 : decode c_M_radius 8 = .ok (.iconst 0, 1) := by decide +kernel
theorem d_M_radius_9 : decode c_M_radius 9 = .ok (.goto 4, 3) := by decide +kernel
theorem d_M_radius_12 : decode c_M_radius 12 = .ok (.iconst 1, 1) := by decide +kernel
theorem d_M_radius_13 : decode c_M_radius 13 = .ok (.putfield 69, 3) := by decide +kernel
theorem d_M_radius_16 : decode c_M_radius 16 = .ok (.aload_n 0, 1) := by decide +kernel
theorem d_M_radius_17 : decode c_M_radius 17 = .ok (.getfield 69, 3) := by decide +kernel
theorem d_M_radius_20 : decode c_M_radius 20 = .ok (.ifCond .ne 12, 3) := by decide +kernel
theorem d_M_radius_23 : decode c_M_radius 23 = .ok (.aload_n 0, 1) := by decide +kernel
theorem d_M_radius_24 : decode c_M_radius 24 = .ok (.getfield 87, 3) := by decide +kernel
theorem d_M_radius_27 : decode c_M_radius 27 = .ok (.lload_n 1, 1) := by decide +kernel
theorem d_M_radius_28 : decode c_M_radius 28 = .ok (.lcmp, 1) := by decide +kernel
theorem d_M_radius_29 : decode c_M_radius 29 = .ok (.ifCond .ne 5, 3) := by decide +kernel
theorem d_M_radius_32 : decode c_M_radius 32 = .ok (.iconst 0, 1) := by decide +kernel
theorem d_M_radius_33 : decode c_M_radius 33 = .ok (.ireturn, 1) := by decide +kernel
theorem d_M_radius_34 : decode c_M_radius 34 = .ok (.aload_n 0, 1) := by decide +kernel
theorem d_M_radius_35 : decode c_M_radius 35 = .ok (.lload_n 1, 1) := by decide +kernel
theorem d_M_radius_36 : decode c_M_radius 36 = .ok (.putfield 87, 3) := by decide +kernel
theorem d_M_radius_39 : decode c_M_radius 39 = .ok (.iconst 1, 1) := by decide +kernel
theorem d_M_radius_40 : decode c_M_radius 40 = .ok (.ireturn, 1) := by decide +kernel
theorem d_M_rail_0 : decode c_M_rail 0 = .ok (.aload_n 0, 1) := by decide +kernel
theorem d_M_rail_1 : decode c_M_rail 1 = .ok (.iload_n 1, 1) := by decide +kernel
theorem d_M_rail_2 : decode c_M_rail 2 = .ok (.ifCond .lt 8, 3) := by decide +kernel
theorem d_M_rail_5 : decode c_M_rail 5 = .ok (.iload_n 1, 1) := by decide +kernel
theorem d_M_rail_6 : decode c_M_rail 6 = .ok (.iconst 3, 1) := by decide +kernel
theorem d_M_rail_7 : decode c_M_rail 7 = .ok (.if_icmp .le 7, 3) := by decide +kernel
theorem d_M_rail_10 : decode c_M_rail 10 = .ok (.iconst 1, 1) := by decide +kernel
theorem d_M_rail_11 : decode c_M_rail 11 = .ok (.goto 15, 3) := by decide +kernel
theorem d_M_rail_14 : decode c_M_rail 14 = .ok (.lload_n 2, 1) := by decide +kernel
theorem d_M_rail_15 : decode c_M_rail 15 = .ok (.invokestatic 80, 3) := by decide +kernel
theorem d_M_rail_18 : decode c_M_rail 18 = .ok (.ifCond .eq 7, 3) := by decide +kernel
theorem d_M_rail_21 : decode c_M_rail 21 = .ok (.iconst 0, 1) := by decide +kernel
theorem d_M_rail_22 : decode c_M_rail 22 = .ok (.goto 4, 3) := by decide +kernel
theorem d_M_rail_25 : decode c_M_rail 25 = .ok (.iconst 2, 1) := by decide +kernel
theorem d_M_rail_26 : decode c_M_rail 26 = .ok (.putfield 69, 3) := by decide +kernel
theorem d_M_rail_29 : decode c_M_rail 29 = .ok (.aload_n 0, 1) := by decide +kernel
theorem d_M_rail_30 : decode c_M_rail 30 = .ok (.getfield 69, 3) := by decide +kernel
theorem d_M_rail_33 : decode c_M_rail 33 = .ok (.ifCond .ne 14, 3) := by decide +kernel
theorem d_M_rail_36 : decode c_M_rail 36 = .ok (.aload_n 0, 1) := by decide +kernel
theorem d_M_rail_37 : decode c_M_rail 37 = .ok (.getfield 29, 3) := by decide +kernel
theorem d_M_rail_40 : decode c_M_rail 40 = .ok (.iload_n 1, 1) := by decide +kernel
theorem d_M_rail_41 : decode c_M_rail 41 = .ok (.laload, 1) := by decide +kernel
theorem d_M_rail_42 : decode c_M_rail 42 = .ok (.lload_n 2, 1) := by decide +kernel
theorem d_M_rail_43 : decode c_M_rail 43 = .ok (.lcmp, 1) := by decide +kernel
theorem d_M_rail_44 : decode c_M_rail 44 = .ok (.ifCond .ne 5, 3) := by decide +kernel
theorem d_M_rail_47 : decode c_M_rail 47 = .ok (.iconst 0, 1) := by decide +kernel
theorem d_M_rail_48 : decode c_M_rail 48 = .ok (.ireturn, 1) := by decide +kernel
theorem d_M_rail_49 : decode c_M_rail 49 = .ok (.aload_n 0, 1) := by decide +kernel
theorem d_M_rail_50 : decode c_M_rail 50 = .ok (.getfield 29, 3) := by decide +kernel
theorem d_M_rail_53 : decode c_M_rail 53 = .ok (.iload_n 1, 1) := by decide +kernel
theorem d_M_rail_54 : decode c_M_rail 54 = .ok (.lload_n 2, 1) := by decide +kernel
theorem d_M_rail_55 : decode c_M_rail 55 = .ok (.lastore, 1) := by decide +kernel
theorem d_M_rail_56 : decode c_M_rail 56 = .ok (.iconst 1, 1) := by decide +kernel
theorem d_M_rail_57 : decode c_M_rail 57 = .ok (.ireturn, 1) := by decide +kernel
theorem d_M_wants_0 : decode c_M_wants 0 = .ok (.aload_n 0, 1) := by decide +kernel
theorem d_M_wants_1 : decode c_M_wants 1 = .ok (.aload_n 0, 1) := by decide +kernel
theorem d_M_wants_2 : decode c_M_wants 2 = .ok (.iload_n 1, 1) := by decide +kernel
theorem d_M_wants_3 : decode c_M_wants 3 = .ok (.invokevirtual 76, 3) := by decide +kernel
theorem d_M_wants_6 : decode c_M_wants 6 = .ok (.ifCond .ne 7, 3) := by decide +kernel
theorem d_M_wants_9 : decode c_M_wants 9 = .ok (.iconst 1, 1) := by decide +kernel
theorem d_M_wants_10 : decode c_M_wants 10 = .ok (.goto 19, 3) := by decide +kernel
theorem d_M_wants_13 : decode c_M_wants 13 = .ok (.iload_n 2, 1) := by decide +kernel
theorem d_M_wants_14 : decode c_M_wants 14 = .ok (.ifCond .lt 10, 3) := by decide +kernel
theorem d_M_wants_17 : decode c_M_wants 17 = .ok (.iload_n 2, 1) := by decide +kernel
theorem d_M_wants_18 : decode c_M_wants 18 = .ok (.sipush 200, 3) := by decide +kernel
theorem d_M_wants_21 : decode c_M_wants 21 = .ok (.if_icmp .le 7, 3) := by decide +kernel
theorem d_M_wants_24 : decode c_M_wants 24 = .ok (.iconst 2, 1) := by decide +kernel
theorem d_M_wants_25 : decode c_M_wants 25 = .ok (.goto 4, 3) := by decide +kernel
theorem d_M_wants_28 : decode c_M_wants 28 = .ok (.iconst 0, 1) := by decide +kernel
theorem d_M_wants_29 : decode c_M_wants 29 = .ok (.putfield 69, 3) := by decide +kernel
theorem d_M_wants_32 : decode c_M_wants 32 = .ok (.aload_n 0, 1) := by decide +kernel
theorem d_M_wants_33 : decode c_M_wants 33 = .ok (.getfield 69, 3) := by decide +kernel
theorem d_M_wants_36 : decode c_M_wants 36 = .ok (.ifCond .ne 13, 3) := by decide +kernel
theorem d_M_wants_39 : decode c_M_wants 39 = .ok (.aload_n 0, 1) := by decide +kernel
theorem d_M_wants_40 : decode c_M_wants 40 = .ok (.getfield 20, 3) := by decide +kernel
theorem d_M_wants_43 : decode c_M_wants 43 = .ok (.iload_n 1, 1) := by decide +kernel
theorem d_M_wants_44 : decode c_M_wants 44 = .ok (.iaload, 1) := by decide +kernel
theorem d_M_wants_45 : decode c_M_wants 45 = .ok (.iload_n 2, 1) := by decide +kernel
theorem d_M_wants_46 : decode c_M_wants 46 = .ok (.if_icmp .ne 5, 3) := by decide +kernel
theorem d_M_wants_49 : decode c_M_wants 49 = .ok (.iconst 0, 1) := by decide +kernel
theorem d_M_wants_50 : decode c_M_wants 50 = .ok (.ireturn, 1) := by decide +kernel
theorem d_M_wants_51 : decode c_M_wants 51 = .ok (.aload_n 0, 1) := by decide +kernel
theorem d_M_wants_52 : decode c_M_wants 52 = .ok (.getfield 20, 3) := by decide +kernel
theorem d_M_wants_55 : decode c_M_wants 55 = .ok (.iload_n 1, 1) := by decide +kernel
theorem d_M_wants_56 : decode c_M_wants 56 = .ok (.iload_n 2, 1) := by decide +kernel
theorem d_M_wants_57 : decode c_M_wants 57 = .ok (.iastore, 1) := by decide +kernel
theorem d_M_wants_58 : decode c_M_wants 58 = .ok (.iconst 1, 1) := by decide +kernel
theorem d_M_wants_59 : decode c_M_wants 59 = .ok (.ireturn, 1) := by decide +kernel
theorem d_M_findBox_0 : decode c_M_findBox 0 = .ok (.aload_n 0, 1) := by decide +kernel
theorem d_M_findBox_1 : decode c_M_findBox 1 = .ok (.getfield 45, 3) := by decide +kernel
theorem d_M_findBox_4 : decode c_M_findBox 4 = .ok (.iload_n 1, 1) := by decide +kernel
theorem d_M_findBox_5 : decode c_M_findBox 5 = .ok (.lconst 0, 1) := by decide +kernel
theorem d_M_findBox_6 : decode c_M_findBox 6 = .ok (.lastore, 1) := by decide +kernel
theorem d_M_findBox_7 : decode c_M_findBox 7 = .ok (.aload_n 0, 1) := by decide +kernel
theorem d_M_findBox_8 : decode c_M_findBox 8 = .ok (.getfield 48, 3) := by decide +kernel
theorem d_M_findBox_11 : decode c_M_findBox 11 = .ok (.iload_n 1, 1) := by decide +kernel
theorem d_M_findBox_12 : decode c_M_findBox 12 = .ok (.lconst 0, 1) := by decide +kernel
theorem d_M_findBox_13 : decode c_M_findBox 13 = .ok (.lastore, 1) := by decide +kernel
theorem d_M_findBox_14 : decode c_M_findBox 14 = .ok (.lconst 0, 1) := by decide +kernel
theorem d_M_findBox_15 : decode c_M_findBox 15 = .ok (.lstore_n 2, 1) := by decide +kernel
theorem d_M_findBox_16 : decode c_M_findBox 16 = .ok (.lconst 0, 1) := by decide +kernel
theorem d_M_findBox_17 : decode c_M_findBox 17 = .ok (.lstore 4, 2) := by decide +kernel
theorem d_M_findBox_19 : decode c_M_findBox 19 = .ok (.bipush 12, 2) := by decide +kernel
theorem d_M_findBox_21 : decode c_M_findBox 21 = .ok (.iload_n 1, 1) := by decide +kernel
theorem d_M_findBox_22 : decode c_M_findBox 22 = .ok (.imul, 1) := by decide +kernel
theorem d_M_findBox_23 : decode c_M_findBox 23 = .ok (.istore 6, 2) := by decide +kernel
theorem d_M_findBox_25 : decode c_M_findBox 25 = .ok (.iload 6, 2) := by decide +kernel
theorem d_M_findBox_27 : decode c_M_findBox 27 = .ok (.bipush 12, 2) := by decide +kernel
theorem d_M_findBox_29 : decode c_M_findBox 29 = .ok (.iload_n 1, 1) := by decide +kernel
theorem d_M_findBox_30 : decode c_M_findBox 30 = .ok (.imul, 1) := by decide +kernel
theorem d_M_findBox_31 : decode c_M_findBox 31 = .ok (.aload_n 0, 1) := by decide +kernel
theorem d_M_findBox_32 : decode c_M_findBox 32 = .ok (.getfield 7, 3) := by decide +kernel
theorem d_M_findBox_35 : decode c_M_findBox 35 = .ok (.iload_n 1, 1) := by decide +kernel
theorem d_M_findBox_36 : decode c_M_findBox 36 = .ok (.iaload, 1) := by decide +kernel
theorem d_M_findBox_37 : decode c_M_findBox 37 = .ok (.iadd, 1) := by decide +kernel
theorem d_M_findBox_38 : decode c_M_findBox 38 = .ok (.if_icmp .ge 203, 3) := by decide +kernel
theorem d_M_findBox_41 : decode c_M_findBox 41 = .ok (.iload 6, 2) := by decide +kernel
theorem d_M_findBox_43 : decode c_M_findBox 43 = .ok (.bipush 12, 2) := by decide +kernel
theorem d_M_findBox_45 : decode c_M_findBox 45 = .ok (.iload_n 1, 1) := by decide +kernel
theorem d_M_findBox_46 : decode c_M_findBox 46 = .ok (.imul, 1) := by decide +kernel
theorem d_M_findBox_47 : decode c_M_findBox 47 = .ok (.if_icmp .ne 7, 3) := by decide +kernel
theorem d_M_findBox_50 : decode c_M_findBox 50 = .ok (.iconst 1, 1) := by decide +kernel
theorem d_M_findBox_51 : decode c_M_findBox 51 = .ok (.goto 4, 3) := by decide +kernel
theorem d_M_findBox_54 : decode c_M_findBox 54 = .ok (.iconst 0, 1) := by decide +kernel
theorem d_M_findBox_55 : decode c_M_findBox 55 = .ok (.istore 7, 2) := by decide +kernel
theorem d_M_findBox_57 : decode c_M_findBox 57 = .ok (.aload_n 0, 1) := by decide +kernel
theorem d_M_findBox_58 : decode c_M_findBox 58 = .ok (.getfield 39, 3) := by decide +kernel
theorem d_M_findBox_61 : decode c_M_findBox 61 = .ok (.iload_n 1, 1) := by decide +kernel
theorem d_M_findBox_62 : decode c_M_findBox 62 = .ok (.iload 7, 2) := by decide +kernel
theorem d_M_findBox_64 : decode c_M_findBox 64 = .ok (.ifCond .ne 20, 3) := by decide +kernel
theorem d_M_findBox_67 : decode c_M_findBox 67 = .ok (.aload_n 0, 1) := by decide +kernel
theorem d_M_findBox_68 : decode c_M_findBox 68 = .ok (.getfield 13, 3) := by decide +kernel
theorem d_M_findBox_71 : decode c_M_findBox 71 = .ok (.iload 6, 2) := by decide +kernel
theorem d_M_findBox_73 : decode c_M_findBox 73 = .ok (.laload, 1) := by decide +kernel
theorem d_M_findBox_74 : decode c_M_findBox 74 = .ok (.aload_n 0, 1) := by decide +kernel
theorem d_M_findBox_75 : decode c_M_findBox 75 = .ok (.getfield 39, 3) := by decide +kernel
theorem d_M_findBox_78 : decode c_M_findBox 78 = .ok (.iload_n 1, 1) := by decide +kernel
theorem d_M_findBox_79 : decode c_M_findBox 79 = .ok (.laload, 1) := by decide +kernel
theorem d_M_findBox_80 : decode c_M_findBox 80 = .ok (.lcmp, 1) := by decide +kernel
theorem d_M_findBox_81 : decode c_M_findBox 81 = .ok (.ifCond .ge 13, 3) := by decide +kernel
theorem d_M_findBox_84 : decode c_M_findBox 84 = .ok (.aload_n 0, 1) := by decide +kernel
theorem d_M_findBox_85 : decode c_M_findBox 85 = .ok (.getfield 13, 3) := by decide +kernel
theorem d_M_findBox_88 : decode c_M_findBox 88 = .ok (.iload 6, 2) := by decide +kernel
theorem d_M_findBox_90 : decode c_M_findBox 90 = .ok (.laload, 1) := by decide +kernel
theorem d_M_findBox_91 : decode c_M_findBox 91 = .ok (.goto 9, 3) := by decide +kernel
theorem d_M_findBox_94 : decode c_M_findBox 94 = .ok (.aload_n 0, 1) := by decide +kernel
theorem d_M_findBox_95 : decode c_M_findBox 95 = .ok (.getfield 39, 3) := by decide +kernel
theorem d_M_findBox_98 : decode c_M_findBox 98 = .ok (.iload_n 1, 1) := by decide +kernel
theorem d_M_findBox_99 : decode c_M_findBox 99 = .ok (.laload, 1) := by decide +kernel
theorem d_M_findBox_100 : decode c_M_findBox 100 = .ok (.lastore, 1) := by decide +kernel
theorem d_M_findBox_101 : decode c_M_findBox 101 = .ok (.aload_n 0, 1) := by decide +kernel
theorem d_M_findBox_102 : decode c_M_findBox 102 = .ok (.getfield 42, 3) := by decide +kernel
theorem d_M_findBox_105 : decode c_M_findBox 105 = .ok (.iload_n 1, 1) := by decide +kernel
theorem d_M_findBox_106 : decode c_M_findBox 106 = .ok (.iload 7, 2) := by decide +kernel
theorem d_M_findBox_108 : decode c_M_findBox 108 = .ok (.ifCond .ne 20, 3) := by decide +kernel
theorem d_M_findBox_111 : decode c_M_findBox 111 = .ok (.aload_n 0, 1) := by decide +kernel
theorem d_M_findBox_112 : decode c_M_findBox 112 = .ok (.getfield 17, 3) := by decide +kernel
theorem d_M_findBox_115 : decode c_M_findBox 115 = .ok (.iload 6, 2) := by decide +kernel
theorem d_M_findBox_117 : decode c_M_findBox 117 = .ok (.laload, 1) := by decide +kernel
theorem d_M_findBox_118 : decode c_M_findBox 118 = .ok (.aload_n 0, 1) := by decide +kernel
theorem d_M_findBox_119 : decode c_M_findBox 119 = .ok (.getfield 42, 3) := by decide +kernel
theorem d_M_findBox_122 : decode c_M_findBox 122 = .ok (.iload_n 1, 1) := by decide +kernel
theorem d_M_findBox_123 : decode c_M_findBox 123 = .ok (.laload, 1) := by decide +kernel
theorem d_M_findBox_124 : decode c_M_findBox 124 = .ok (.lcmp, 1) := by decide +kernel
theorem d_M_findBox_125 : decode c_M_findBox 125 = .ok (.ifCond .ge 13, 3) := by decide +kernel
theorem d_M_findBox_128 : decode c_M_findBox 128 = .ok (.aload_n 0, 1) := by decide +kernel
theorem d_M_findBox_129 : decode c_M_findBox 129 = .ok (.getfield 17, 3) := by decide +kernel
theorem d_M_findBox_132 : decode c_M_findBox 132 = .ok (.iload 6, 2) := by decide +kernel
theorem d_M_findBox_134 : decode c_M_findBox 134 = .ok (.laload, 1) := by decide +kernel
theorem d_M_findBox_135 : decode c_M_findBox 135 = .ok (.goto 9, 3) := by decide +kernel
theorem d_M_findBox_138 : decode c_M_findBox 138 = .ok (.aload_n 0, 1) := by decide +kernel
theorem d_M_findBox_139 : decode c_M_findBox 139 = .ok (.getfield 42, 3) := by decide +kernel
theorem d_M_findBox_142 : decode c_M_findBox 142 = .ok (.iload_n 1, 1) := by decide +kernel
theorem d_M_findBox_143 : decode c_M_findBox 143 = .ok (.laload, 1) := by decide +kernel
theorem d_M_findBox_144 : decode c_M_findBox 144 = .ok (.lastore, 1) := by decide +kernel
theorem d_M_findBox_145 : decode c_M_findBox 145 = .ok (.iload 7, 2) := by decide +kernel
theorem d_M_findBox_147 : decode c_M_findBox 147 = .ok (.ifCond .ne 15, 3) := by decide +kernel
theorem d_M_findBox_150 : decode c_M_findBox 150 = .ok (.aload_n 0, 1) := by decide +kernel
theorem d_M_findBox_151 : decode c_M_findBox 151 = .ok (.getfield 13, 3) := by decide +kernel
theorem d_M_findBox_154 : decode c_M_findBox 154 = .ok (.iload 6, 2) := by decide +kernel
theorem d_M_findBox_156 : decode c_M_findBox 156 = .ok (.laload, 1) := by decide +kernel
theorem d_M_findBox_157 : decode c_M_findBox 157 = .ok (.lload_n 2, 1) := by decide +kernel
theorem d_M_findBox_158 : decode c_M_findBox 158 = .ok (.lcmp, 1) := by decide +kernel
theorem d_M_findBox_159 : decode c_M_findBox 159 = .ok (.ifCond .le 13, 3) := by decide +kernel
theorem d_M_findBox_162 : decode c_M_findBox 162 = .ok (.aload_n 0, 1) := by decide +kernel
theorem d_M_findBox_163 : decode c_M_findBox 163 = .ok (.getfield 13, 3) := by decide +kernel
theorem d_M_findBox_166 : decode c_M_findBox 166 = .ok (.iload 6, 2) := by decide +kernel
theorem d_M_findBox_168 : decode c_M_findBox 168 = .ok (.laload, 1) := by decide +kernel
theorem d_M_findBox_169 : decode c_M_findBox 169 = .ok (.goto 4, 3) := by decide +kernel
theorem d_M_findBox_172 : decode c_M_findBox 172 = .ok (.lload_n 2, 1) := by decide +kernel
theorem d_M_findBox_173 : decode c_M_findBox 173 = .ok (.lstore_n 2, 1) := by decide +kernel
theorem d_M_findBox_174 : decode c_M_findBox 174 = .ok (.iload 7, 2) := by decide +kernel
theorem d_M_findBox_176 : decode c_M_findBox 176 = .ok (.ifCond .ne 16, 3) := by decide +kernel
theorem d_M_findBox_179 : decode c_M_findBox 179 = .ok (.aload_n 0, 1) := by decide +kernel
theorem d_M_findBox_180 : decode c_M_findBox 180 = .ok (.getfield 17, 3) := by decide +kernel
theorem d_M_findBox_183 : decode c_M_findBox 183 = .ok (.iload 6, 2) := by decide +kernel
theorem d_M_findBox_185 : decode c_M_findBox 185 = .ok (.laload, 1) := by decide +kernel
theorem d_M_findBox_186 : decode c_M_findBox 186 = .ok (.lload 4, 2) := by decide +kernel
theorem d_M_findBox_188 : decode c_M_findBox 188 = .ok (.lcmp, 1) := by decide +kernel
theorem d_M_findBox_189 : decode c_M_findBox 189 = .ok (.ifCond .le 13, 3) := by decide +kernel
theorem d_M_findBox_192 : decode c_M_findBox 192 = .ok (.aload_n 0, 1) := by decide +kernel
theorem d_M_findBox_193 : decode c_M_findBox 193 = .ok (.getfield 17, 3) := by decide +kernel
theorem d_M_findBox_196 : decode c_M_findBox 196 = .ok (.iload 6, 2) := by decide +kernel
theorem d_M_findBox_198 : decode c_M_findBox 198 = .ok (.laload, 1) := by decide +kernel
theorem d_M_findBox_199 : decode c_M_findBox 199 = .ok (.goto 5, 3) := by decide +kernel
theorem d_M_findBox_202 : decode c_M_findBox 202 = .ok (.lload 4, 2) := by decide +kernel
theorem d_M_findBox_204 : decode c_M_findBox 204 = .ok (.lstore 4, 2) := by decide +kernel
theorem d_M_findBox_206 : decode c_M_findBox 206 = .ok (.aload_n 0, 1) := by decide +kernel
theorem d_M_findBox_207 : decode c_M_findBox 207 = .ok (.getfield 45, 3) := by decide +kernel
theorem d_M_findBox_210 : decode c_M_findBox 210 = .ok (.iload_n 1, 1) := by decide +kernel
theorem d_M_findBox_211 : decode c_M_findBox 211 = .ok (.lload_n 2, 1) := by decide +kernel
theorem d_M_findBox_212 : decode c_M_findBox 212 = .ok (.aload_n 0, 1) := by decide +kernel
theorem d_M_findBox_213 : decode c_M_findBox 213 = .ok (.getfield 39, 3) := by decide +kernel
theorem d_M_findBox_216 : decode c_M_findBox 216 = .ok (.iload_n 1, 1) := by decide +kernel
theorem d_M_findBox_217 : decode c_M_findBox 217 = .ok (.laload, 1) := by decide +kernel
theorem d_M_findBox_218 : decode c_M_findBox 218 = .ok (.lsub, 1) := by decide +kernel
theorem d_M_findBox_219 : decode c_M_findBox 219 = .ok (.lastore, 1) := by decide +kernel
theorem d_M_findBox_220 : decode c_M_findBox 220 = .ok (.aload_n 0, 1) := by decide +kernel
theorem d_M_findBox_221 : decode c_M_findBox 221 = .ok (.getfield 48, 3) := by decide +kernel
theorem d_M_findBox_224 : decode c_M_findBox 224 = .ok (.iload_n 1, 1) := by decide +kernel
theorem d_M_findBox_225 : decode c_M_findBox 225 = .ok (.lload 4, 2) := by decide +kernel
theorem d_M_findBox_227 : decode c_M_findBox 227 = .ok (.aload_n 0, 1) := by decide +kernel
theorem d_M_findBox_228 : decode c_M_findBox 228 = .ok (.getfield 42, 3) := by decide +kernel
theorem d_M_findBox_231 : decode c_M_findBox 231 = .ok (.iload_n 1, 1) := by decide +kernel
theorem d_M_findBox_232 : decode c_M_findBox 232 = .ok (.laload, 1) := by decide +kernel
theorem d_M_findBox_233 : decode c_M_findBox 233 = .ok (.lsub, 1) := by decide +kernel
theorem d_M_findBox_234 : decode c_M_findBox 234 = .ok (.lastore, 1) := by decide +kernel
theorem d_M_findBox_235 : decode c_M_findBox 235 = .ok (.iinc 6 1, 3) := by decide +kernel
theorem d_M_findBox_238 : decode c_M_findBox 238 = .ok (.goto (-213), 3) := by decide +kernel
theorem d_M_findBox_241 : decode c_M_findBox 241 = .ok (.return_, 1) := by decide +kernel
theorem d_M_wideOf_0 : decode c_M_wideOf 0 = .ok (.iload_n 1, 1) := by decide +kernel
theorem d_M_wideOf_1 : decode c_M_wideOf 1 = .ok (.iconst 2, 1) := by decide +kernel
theorem d_M_wideOf_2 : decode c_M_wideOf 2 = .ok (.irem, 1) := by decide +kernel
theorem d_M_wideOf_3 : decode c_M_wideOf 3 = .ok (.ifCond .ne 14, 3) := by decide +kernel
theorem d_M_wideOf_6 : decode c_M_wideOf 6 = .ok (.aload_n 0, 1) := by decide +kernel
theorem d_M_wideOf_7 : decode c_M_wideOf 7 = .ok (.getfield 45, 3) := by decide +kernel
theorem d_M_wideOf_10 : decode c_M_wideOf 10 = .ok (.iload_n 1, 1) := by decide +kernel
theorem d_M_wideOf_11 : decode c_M_wideOf 11 = .ok (.iconst 2, 1) := by decide +kernel
theorem d_M_wideOf_12 : decode c_M_wideOf 12 = .ok (.idiv, 1) := by decide +kernel
theorem d_M_wideOf_13 : decode c_M_wideOf 13 = .ok (.laload, 1) := by decide +kernel
theorem d_M_wideOf_14 : decode c_M_wideOf 14 = .ok (.goto 11, 3) := by decide +kernel
theorem d_M_wideOf_17 : decode c_M_wideOf 17 = .ok (.aload_n 0, 1) := by decide +kernel
theorem d_M_wideOf_18 : decode c_M_wideOf 18 = .ok (.getfield 48, 3) := by decide +kernel
theorem d_M_wideOf_21 : decode c_M_wideOf 21 = .ok (.iload_n 1, 1) := by decide +kernel
theorem d_M_wideOf_22 : decode c_M_wideOf 22 = .ok (.iconst 2, 1) := by decide +kernel
theorem d_M_wideOf_23 : decode c_M_wideOf 23 = .ok (.idiv, 1) := by decide +kernel
theorem d_M_wideOf_24 : decode c_M_wideOf 24 = .ok (.laload, 1) := by decide +kernel
theorem d_M_wideOf_25 : decode c_M_wideOf 25 = .ok (.lreturn, 1) := by decide +kernel
theorem d_M_highOf_0 : decode c_M_highOf 0 = .ok (.iload_n 1, 1) := by decide +kernel
theorem d_M_highOf_1 : decode c_M_highOf 1 = .ok (.iconst 2, 1) := by decide +kernel
theorem d_M_highOf_2 : decode c_M_highOf 2 = .ok (.irem, 1) := by decide +kernel
theorem d_M_highOf_3 : decode c_M_highOf 3 = .ok (.ifCond .ne 14, 3) := by decide +kernel
theorem d_M_highOf_6 : decode c_M_highOf 6 = .ok (.aload_n 0, 1) := by decide +kernel
theorem d_M_highOf_7 : decode c_M_highOf 7 = .ok (.getfield 48, 3) := by decide +kernel
theorem d_M_highOf_10 : decode c_M_highOf 10 = .ok (.iload_n 1, 1) := by decide +kernel
theorem d_M_highOf_11 : decode c_M_highOf 11 = .ok (.iconst 2, 1) := by decide +kernel
theorem d_M_highOf_12 : decode c_M_highOf 12 = .ok (.idiv, 1) := by decide +kernel
theorem d_M_highOf_13 : decode c_M_highOf 13 = .ok (.laload, 1) := by decide +kernel
theorem d_M_highOf_14 : decode c_M_highOf 14 = .ok (.goto 11, 3) := by decide +kernel
theorem d_M_highOf_17 : decode c_M_highOf 17 = .ok (.aload_n 0, 1) := by decide +kernel
theorem d_M_highOf_18 : decode c_M_highOf 18 = .ok (.getfield 45, 3) := by decide +kernel
theorem d_M_highOf_21 : decode c_M_highOf 21 = .ok (.iload_n 1, 1) := by decide +kernel
theorem d_M_highOf_22 : decode c_M_highOf 22 = .ok (.iconst 2, 1) := by decide +kernel
theorem d_M_highOf_23 : decode c_M_highOf 23 = .ok (.idiv, 1) := by decide +kernel
theorem d_M_highOf_24 : decode c_M_highOf 24 = .ok (.laload, 1) := by decide +kernel
theorem d_M_highOf_25 : decode c_M_highOf 25 = .ok (.lreturn, 1) := by decide +kernel
end
section
theorem d_M_fitsAlong_0 : decode c_M_fitsAlong 0 = .ok (.iload_n 1, 1) := by decide +kernel
theorem d_M_fitsAlong_1 : decode c_M_fitsAlong 1 = .ok (.iconst 2, 1) := by decide +kernel
theorem d_M_fitsAlong_2 : decode c_M_fitsAlong 2 = .ok (.idiv, 1) := by decide +kernel
theorem d_M_fitsAlong_3 : decode c_M_fitsAlong 3 = .ok (.istore_n 3, 1) := by decide +kernel
theorem d_M_fitsAlong_4 : decode c_M_fitsAlong 4 = .ok (.iload_n 3, 1) := by decide +kernel
theorem d_M_fitsAlong_5 : decode c_M_fitsAlong 5 = .ok (.iload_n 2, 1) := by decide +kernel
theorem d_M_fitsAlong_6 : decode c_M_fitsAlong 6 = .ok (.if_icmp .ge 33, 3) := by decide +kernel
theorem d_M_fitsAlong_9 : decode c_M_fitsAlong 9 = .ok (.iload_n 3, 1) := by decide +kernel
theorem d_M_fitsAlong_10 : decode c_M_fitsAlong 10 = .ok (.aload_n 0, 1) := by decide +kernel
theorem d_M_fitsAlong_11 : decode c_M_fitsAlong 11 = .ok (.getfield 73, 3) := by decide +kernel
theorem d_M_fitsAlong_14 : decode c_M_fitsAlong 14 = .ok (.if_icmp .ge 25, 3) := by decide +kernel
theorem d_M_fitsAlong_17 : decode c_M_fitsAlong 17 = .ok (.aload_n 0, 1) := by decide +kernel
theorem d_M_fitsAlong_18 : decode c_M_fitsAlong 18 = .ok (.getfield 45, 3) := by decide +kernel
theorem d_M_fitsAlong_21 : decode c_M_fitsAlong 21 = .ok (.iload_n 3, 1) := by decide +kernel
theorem d_M_fitsAlong_22 : decode c_M_fitsAlong 22 = .ok (.laload, 1) := by decide +kernel
theorem d_M_fitsAlong_23 : decode c_M_fitsAlong 23 = .ok (.lconst 0, 1) := by decide +kernel
theorem d_M_fitsAlong_24 : decode c_M_fitsAlong 24 = .ok (.lcmp, 1) := by decide +kernel
theorem d_M_fitsAlong_25 : decode c_M_fitsAlong 25 = .ok (.ifCond .eq 14, 3) := by decide +kernel
theorem d_M_fitsAlong_28 : decode c_M_fitsAlong 28 = .ok (.aload_n 0, 1) := by decide +kernel
theorem d_M_fitsAlong_29 : decode c_M_fitsAlong 29 = .ok (.getfield 48, 3) := by decide +kernel
theorem d_M_fitsAlong_32 : decode c_M_fitsAlong 32 = .ok (.iload_n 3, 1) := by decide +kernel
theorem d_M_fitsAlong_33 : decode c_M_fitsAlong 33 = .ok (.laload, 1) := by decide +kernel
theorem d_M_fitsAlong_34 : decode c_M_fitsAlong 34 = .ok (.lconst 0, 1) := by decide +kernel
theorem d_M_fitsAlong_35 : decode c_M_fitsAlong 35 = .ok (.lcmp, 1) := by decide +kernel
theorem d_M_fitsAlong_36 : decode c_M_fitsAlong 36 = .ok (.ifCond .ne 5, 3) := by decide +kernel
theorem d_M_fitsAlong_39 : decode c_M_fitsAlong 39 = .ok (.iconst 0, 1) := by decide +kernel
theorem d_M_fitsAlong_40 : decode c_M_fitsAlong 40 = .ok (.ireturn, 1) := by decide +kernel
theorem d_M_fitsAlong_41 : decode c_M_fitsAlong 41 = .ok (.aload_n 0, 1) := by decide +kernel
theorem d_M_fitsAlong_42 : decode c_M_fitsAlong 42 = .ok (.getfield 62, 3) := by decide +kernel
theorem d_M_fitsAlong_45 : decode c_M_fitsAlong 45 = .ok (.aload_n 0, 1) := by decide +kernel
theorem d_M_fitsAlong_46 : decode c_M_fitsAlong 46 = .ok (.getfield 29, 3) := by decide +kernel
theorem d_M_fitsAlong_49 : decode c_M_fitsAlong 49 = .ok (.iconst 0, 1) := by decide +kernel
theorem d_M_fitsAlong_50 : decode c_M_fitsAlong 50 = .ok (.laload, 1) := by decide +kernel
theorem d_M_fitsAlong_51 : decode c_M_fitsAlong 51 = .ok (.lsub, 1) := by decide +kernel
theorem d_M_fitsAlong_52 : decode c_M_fitsAlong 52 = .ok (.aload_n 0, 1) := by decide +kernel
theorem d_M_fitsAlong_53 : decode c_M_fitsAlong 53 = .ok (.getfield 29, 3) := by decide +kernel
theorem d_M_fitsAlong_56 : decode c_M_fitsAlong 56 = .ok (.iconst 2, 1) := by decide +kernel
theorem d_M_fitsAlong_57 : decode c_M_fitsAlong 57 = .ok (.laload, 1) := by decide +kernel
theorem d_M_fitsAlong_58 : decode c_M_fitsAlong 58 = .ok (.lsub, 1) := by decide +kernel
theorem d_M_fitsAlong_59 : decode c_M_fitsAlong 59 = .ok (.lstore 4, 2) := by decide +kernel
theorem d_M_fitsAlong_61 : decode c_M_fitsAlong 61 = .ok (.aload_n 0, 1) := by decide +kernel
theorem d_M_fitsAlong_62 : decode c_M_fitsAlong 62 = .ok (.iload_n 1, 1) := by decide +kernel
theorem d_M_fitsAlong_63 : decode c_M_fitsAlong 63 = .ok (.invokevirtual 90, 3) := by decide +kernel
theorem d_M_fitsAlong_66 : decode c_M_fitsAlong 66 = .ok (.lstore 6, 2) := by decide +kernel
theorem d_M_fitsAlong_68 : decode c_M_fitsAlong 68 = .ok (.lload 4, 2) := by decide +kernel
theorem d_M_fitsAlong_70 : decode c_M_fitsAlong 70 = .ok (.lload 6, 2) := by decide +kernel
theorem d_M_fitsAlong_72 : decode c_M_fitsAlong 72 = .ok (.lcmp, 1) := by decide +kernel
theorem d_M_fitsAlong_73 : decode c_M_fitsAlong 73 = .ok (.ifCond .ge 5, 3) := by decide +kernel
theorem d_M_fitsAlong_76 : decode c_M_fitsAlong 76 = .ok (.iconst 0, 1) := by decide +kernel
theorem d_M_fitsAlong_77 : decode c_M_fitsAlong 77 = .ok (.ireturn, 1) := by decide +kernel
theorem d_M_fitsAlong_78 : decode c_M_fitsAlong 78 = .ok (.lload 4, 2) := by decide +kernel
theorem d_M_fitsAlong_80 : decode c_M_fitsAlong 80 = .ok (.aload_n 0, 1) := by decide +kernel
theorem d_M_fitsAlong_81 : decode c_M_fitsAlong 81 = .ok (.getfield 84, 3) := by decide +kernel
theorem d_M_fitsAlong_84 : decode c_M_fitsAlong 84 = .ok (.ladd, 1) := by decide +kernel
theorem d_M_fitsAlong_85 : decode c_M_fitsAlong 85 = .ok (.lload 6, 2) := by decide +kernel
theorem d_M_fitsAlong_87 : decode c_M_fitsAlong 87 = .ok (.aload_n 0, 1) := by decide +kernel
theorem d_M_fitsAlong_88 : decode c_M_fitsAlong 88 = .ok (.getfield 84, 3) := by decide +kernel
theorem d_M_fitsAlong_91 : decode c_M_fitsAlong 91 = .ok (.ladd, 1) := by decide +kernel
theorem d_M_fitsAlong_92 : decode c_M_fitsAlong 92 = .ok (.ldiv, 1) := by decide +kernel
theorem d_M_fitsAlong_93 : decode c_M_fitsAlong 93 = .ok (.lstore 8, 2) := by decide +kernel
theorem d_M_fitsAlong_95 : decode c_M_fitsAlong 95 = .ok (.lload 8, 2) := by decide +kernel
theorem d_M_fitsAlong_97 : decode c_M_fitsAlong 97 = .ok (.ldc2_w 94, 3) := by decide +kernel
theorem d_M_fitsAlong_100 : decode c_M_fitsAlong 100 = .ok (.lcmp, 1) := by decide +kernel
theorem d_M_fitsAlong_101 : decode c_M_fitsAlong 101 = .ok (.ifCond .le 8, 3) := by decide +kernel
theorem d_M_fitsAlong_104 : decode c_M_fitsAlong 104 = .ok (.bipush 20, 2) := by decide +kernel
theorem d_M_fitsAlong_106 : decode c_M_fitsAlong 106 = .ok (.goto 6, 3) := by decide +kernel
theorem d_M_fitsAlong_109 : decode c_M_fitsAlong 109 = .ok (.lload 8, 2) := by decide +kernel
theorem d_M_fitsAlong_111 : decode c_M_fitsAlong 111 = .ok (.l2i, 1) := by decide +kernel
theorem d_M_fitsAlong_112 : decode c_M_fitsAlong 112 = .ok (.ireturn, 1) := by decide +kernel
theorem d_M_rowsOf_0 : decode c_M_rowsOf 0 = .ok (.iconst 0, 1) := by decide +kernel
theorem d_M_rowsOf_1 : decode c_M_rowsOf 1 = .ok (.istore_n 1, 1) := by decide +kernel
theorem d_M_rowsOf_2 : decode c_M_rowsOf 2 = .ok (.iconst 0, 1) := by decide +kernel
theorem d_M_rowsOf_3 : decode c_M_rowsOf 3 = .ok (.istore_n 2, 1) := by decide +kernel
theorem d_M_rowsOf_4 : decode c_M_rowsOf 4 = .ok (.iload_n 2, 1) := by decide +kernel
theorem d_M_rowsOf_5 : decode c_M_rowsOf 5 = .ok (.bipush 8, 2) := by decide +kernel
theorem d_M_rowsOf_7 : decode c_M_rowsOf 7 = .ok (.if_icmp .ge 18, 3) := by decide +kernel
theorem d_M_rowsOf_10 : decode c_M_rowsOf 10 = .ok (.iload_n 1, 1) := by decide +kernel
theorem d_M_rowsOf_11 : decode c_M_rowsOf 11 = .ok (.aload_n 0, 1) := by decide +kernel
theorem d_M_rowsOf_12 : decode c_M_rowsOf 12 = .ok (.getfield 54, 3) := by decide +kernel
theorem d_M_rowsOf_15 : decode c_M_rowsOf 15 = .ok (.iload_n 2, 1) := by decide +kernel
theorem d_M_rowsOf_16 : decode c_M_rowsOf 16 = .ok (.iaload, 1) := by decide +kernel
theorem d_M_rowsOf_17 : decode c_M_rowsOf 17 = .ok (.iadd, 1) := by decide +kernel
theorem d_M_rowsOf_18 : decode c_M_rowsOf 18 = .ok (.istore_n 1, 1) := by decide +kernel
theorem d_M_rowsOf_19 : decode c_M_rowsOf 19 = .ok (.iinc 2 1, 3) := by decide +kernel
theorem d_M_rowsOf_22 : decode c_M_rowsOf 22 = .ok (.goto (-18), 3) := by decide +kernel
theorem d_M_rowsOf_25 : decode c_M_rowsOf 25 = .ok (.iload_n 1, 1) := by decide +kernel
theorem d_M_rowsOf_26 : decode c_M_rowsOf 26 = .ok (.ireturn, 1) := by decide +kernel
theorem d_M_isLow_0 : decode c_M_isLow 0 = .ok (.lconst 0, 1) := by decide +kernel
theorem d_M_isLow_1 : decode c_M_isLow 1 = .ok (.lstore_n 1, 1) := by decide +kernel
theorem d_M_isLow_2 : decode c_M_isLow 2 = .ok (.iconst 0, 1) := by decide +kernel
theorem d_M_isLow_3 : decode c_M_isLow 3 = .ok (.istore_n 3, 1) := by decide +kernel
theorem d_M_isLow_4 : decode c_M_isLow 4 = .ok (.iload_n 3, 1) := by decide +kernel
theorem d_M_isLow_5 : decode c_M_isLow 5 = .ok (.bipush 8, 2) := by decide +kernel
theorem d_M_isLow_7 : decode c_M_isLow 7 = .ok (.if_icmp .ge 30, 3) := by decide +kernel
theorem d_M_isLow_10 : decode c_M_isLow 10 = .ok (.lload_n 1, 1) := by decide +kernel
theorem d_M_isLow_11 : decode c_M_isLow 11 = .ok (.aload_n 0, 1) := by decide +kernel
theorem d_M_isLow_12 : decode c_M_isLow 12 = .ok (.getfield 54, 3) := by decide +kernel
theorem d_M_isLow_15 : decode c_M_isLow 15 = .ok (.iload_n 3, 1) := by decide +kernel
theorem d_M_isLow_16 : decode c_M_isLow 16 = .ok (.iaload, 1) := by decide +kernel
theorem d_M_isLow_17 : decode c_M_isLow 17 = .ok (.i2l, 1) := by decide +kernel
theorem d_M_isLow_18 : decode c_M_isLow 18 = .ok (.aload_n 0, 1) := by decide +kernel
theorem d_M_isLow_19 : decode c_M_isLow 19 = .ok (.iload_n 3, 1) := by decide +kernel
theorem d_M_isLow_20 : decode c_M_isLow 20 = .ok (.invokevirtual 96, 3) := by decide +kernel
theorem d_M_isLow_23 : decode c_M_isLow 23 = .ok (.aload_n 0, 1) := by decide +kernel
theorem d_M_isLow_24 : decode c_M_isLow 24 = .ok (.getfield 84, 3) := by decide +kernel
theorem d_M_isLow_27 : decode c_M_isLow 27 = .ok (.ladd, 1) := by decide +kernel
theorem d_M_isLow_28 : decode c_M_isLow 28 = .ok (.lmul, 1) := by decide +kernel
theorem d_M_isLow_29 : decode c_M_isLow 29 = .ok (.ladd, 1) := by decide +kernel
theorem d_M_isLow_30 : decode c_M_isLow 30 = .ok (.lstore_n 1, 1) := by decide +kernel
theorem d_M_isLow_31 : decode c_M_isLow 31 = .ok (.iinc 3 1, 3) := by decide +kernel
theorem d_M_isLow_34 : decode c_M_isLow 34 = .ok (.goto (-30), 3) := by decide +kernel
theorem d_M_isLow_37 : decode c_M_isLow 37 = .ok (.lload_n 1, 1) := by decide +kernel
theorem d_M_isLow_38 : decode c_M_isLow 38 = .ok (.lconst 0, 1) := by decide +kernel
theorem d_M_isLow_39 : decode c_M_isLow 39 = .ok (.lcmp, 1) := by decide +kernel
theorem d_M_isLow_40 : decode c_M_isLow 40 = .ok (.ifCond .eq 31, 3) := by decide +kernel
theorem d_M_isLow_43 : decode c_M_isLow 43 = .ok (.lload_n 1, 1) := by decide +kernel
theorem d_M_isLow_44 : decode c_M_isLow 44 = .ok (.aload_n 0, 1) := by decide +kernel
theorem d_M_isLow_45 : decode c_M_isLow 45 = .ok (.getfield 84, 3) := by decide +kernel
theorem d_M_isLow_48 : decode c_M_isLow 48 = .ok (.lsub, 1) := by decide +kernel
theorem d_M_isLow_49 : decode c_M_isLow 49 = .ok (.aload_n 0, 1) := by decide +kernel
theorem d_M_isLow_50 : decode c_M_isLow 50 = .ok (.getfield 66, 3) := by decide +kernel
theorem d_M_isLow_53 : decode c_M_isLow 53 = .ok (.aload_n 0, 1) := by decide +kernel
theorem d_M_isLow_54 : decode c_M_isLow 54 = .ok (.getfield 29, 3) := by decide +kernel
theorem d_M_isLow_57 : decode c_M_isLow 57 = .ok (.iconst 1, 1) := by decide +kernel
theorem d_M_isLow_58 : decode c_M_isLow 58 = .ok (.laload, 1) := by decide +kernel
theorem d_M_isLow_59 : decode c_M_isLow 59 = .ok (.lsub, 1) := by decide +kernel
theorem d_M_isLow_60 : decode c_M_isLow 60 = .ok (.aload_n 0, 1) := by decide +kernel
theorem d_M_isLow_61 : decode c_M_isLow 61 = .ok (.getfield 29, 3) := by decide +kernel
theorem d_M_isLow_64 : decode c_M_isLow 64 = .ok (.iconst 3, 1) := by decide +kernel
theorem d_M_isLow_65 : decode c_M_isLow 65 = .ok (.laload, 1) := by decide +kernel
theorem d_M_isLow_66 : decode c_M_isLow 66 = .ok (.lsub, 1) := by decide +kernel
theorem d_M_isLow_67 : decode c_M_isLow 67 = .ok (.lcmp, 1) := by decide +kernel
theorem d_M_isLow_68 : decode c_M_isLow 68 = .ok (.ifCond .gt 7, 3) := by decide +kernel
theorem d_M_isLow_71 : decode c_M_isLow 71 = .ok (.iconst 1, 1) := by decide +kernel
theorem d_M_isLow_72 : decode c_M_isLow 72 = .ok (.goto 4, 3) := by decide +kernel
theorem d_M_isLow_75 : decode c_M_isLow 75 = .ok (.iconst 0, 1) := by decide +kernel
theorem d_M_isLow_76 : decode c_M_isLow 76 = .ok (.ireturn, 1) := by decide +kernel
theorem d_M_copiesOf_0 : decode c_M_copiesOf 0 = .ok (.iconst 0, 1) := by decide +kernel
theorem d_M_copiesOf_1 : decode c_M_copiesOf 1 = .ok (.istore_n 1, 1) := by decide +kernel
theorem d_M_copiesOf_2 : decode c_M_copiesOf 2 = .ok (.iconst 0, 1) := by decide +kernel
theorem d_M_copiesOf_3 : decode c_M_copiesOf 3 = .ok (.istore_n 2, 1) := by decide +kernel
theorem d_M_copiesOf_4 : decode c_M_copiesOf 4 = .ok (.iload_n 2, 1) := by decide +kernel
theorem d_M_copiesOf_5 : decode c_M_copiesOf 5 = .ok (.iconst 4, 1) := by decide +kernel
theorem d_M_copiesOf_6 : decode c_M_copiesOf 6 = .ok (.if_icmp .ge 101, 3) := by decide +kernel
theorem d_M_copiesOf_9 : decode c_M_copiesOf 9 = .ok (.aload_n 0, 1) := by decide +kernel
theorem d_M_copiesOf_10 : decode c_M_copiesOf 10 = .ok (.getfield 20, 3) := by decide +kernel
theorem d_M_copiesOf_13 : decode c_M_copiesOf 13 = .ok (.iload_n 2, 1) := by decide +kernel
theorem d_M_copiesOf_14 : decode c_M_copiesOf 14 = .ok (.iaload, 1) := by decide +kernel
theorem d_M_copiesOf_15 : decode c_M_copiesOf 15 = .ok (.istore_n 3, 1) := by decide +kernel
theorem d_M_copiesOf_16 : decode c_M_copiesOf 16 = .ok (.iconst 0, 1) := by decide +kernel
theorem d_M_copiesOf_17 : decode c_M_copiesOf 17 = .ok (.istore 4, 2) := by decide +kernel
theorem d_M_copiesOf_19 : decode c_M_copiesOf 19 = .ok (.iload 4, 2) := by decide +kernel
theorem d_M_copiesOf_21 : decode c_M_copiesOf 21 = .ok (.iconst 2, 1) := by decide +kernel
theorem d_M_copiesOf_22 : decode c_M_copiesOf 22 = .ok (.if_icmp .ge 79, 3) := by decide +kernel
theorem d_M_copiesOf_25 : decode c_M_copiesOf 25 = .ok (.iconst 2, 1) := by decide +kernel
theorem d_M_copiesOf_26 : decode c_M_copiesOf 26 = .ok (.iload_n 2, 1) := by decide +kernel
theorem d_M_copiesOf_27 : decode c_M_copiesOf 27 = .ok (.imul, 1) := by decide +kernel
theorem d_M_copiesOf_28 : decode c_M_copiesOf 28 = .ok (.iload 4, 2) := by decide +kernel
theorem d_M_copiesOf_30 : decode c_M_copiesOf 30 = .ok (.iadd, 1) := by decide +kernel
theorem d_M_copiesOf_31 : decode c_M_copiesOf 31 = .ok (.istore 5, 2) := by decide +kernel
theorem d_M_copiesOf_33 : decode c_M_copiesOf 33 = .ok (.iconst 0, 1) := by decide +kernel
theorem d_M_copiesOf_34 : decode c_M_copiesOf 34 = .ok (.istore 6, 2) := by decide +kernel
theorem d_M_copiesOf_36 : decode c_M_copiesOf 36 = .ok (.iload 6, 2) := by decide +kernel
theorem d_M_copiesOf_38 : decode c_M_copiesOf 38 = .ok (.aload_n 0, 1) := by decide +kernel
theorem d_M_copiesOf_39 : decode c_M_copiesOf 39 = .ok (.getfield 54, 3) := by decide +kernel
theorem d_M_copiesOf_42 : decode c_M_copiesOf 42 = .ok (.iload 5, 2) := by decide +kernel
theorem d_M_copiesOf_44 : decode c_M_copiesOf 44 = .ok (.iaload, 1) := by decide +kernel
theorem d_M_copiesOf_45 : decode c_M_copiesOf 45 = .ok (.if_icmp .ge 50, 3) := by decide +kernel
theorem d_M_copiesOf_48 : decode c_M_copiesOf 48 = .ok (.aload_n 0, 1) := by decide +kernel
theorem d_M_copiesOf_49 : decode c_M_copiesOf 49 = .ok (.getfield 51, 3) := by decide +kernel
theorem d_M_copiesOf_52 : decode c_M_copiesOf 52 = .ok (.iload 5, 2) := by decide +kernel
theorem d_M_copiesOf_54 : decode c_M_copiesOf 54 = .ok (.iaload, 1) := by decide +kernel
theorem d_M_copiesOf_55 : decode c_M_copiesOf 55 = .ok (.iload_n 3, 1) := by decide +kernel
theorem d_M_copiesOf_56 : decode c_M_copiesOf 56 = .ok (.if_icmp .ge 13, 3) := by decide +kernel
theorem d_M_copiesOf_59 : decode c_M_copiesOf 59 = .ok (.aload_n 0, 1) := by decide +kernel
theorem d_M_copiesOf_60 : decode c_M_copiesOf 60 = .ok (.getfield 51, 3) := by decide +kernel
theorem d_M_copiesOf_63 : decode c_M_copiesOf 63 = .ok (.iload 5, 2) := by decide +kernel
theorem d_M_copiesOf_65 : decode c_M_copiesOf 65 = .ok (.iaload, 1) := by decide +kernel
theorem d_M_copiesOf_66 : decode c_M_copiesOf 66 = .ok (.goto 4, 3) := by decide +kernel
theorem d_M_copiesOf_69 : decode c_M_copiesOf 69 = .ok (.iload_n 3, 1) := by decide +kernel
theorem d_M_copiesOf_70 : decode c_M_copiesOf 70 = .ok (.istore 7, 2) := by decide +kernel
theorem d_M_copiesOf_72 : decode c_M_copiesOf 72 = .ok (.iload 7, 2) := by decide +kernel
theorem d_M_copiesOf_74 : decode c_M_copiesOf 74 = .ok (.ifCond .ne 5, 3) := by decide +kernel
theorem d_M_copiesOf_77 : decode c_M_copiesOf 77 = .ok (.iconst (-1), 1) := by decide +kernel
theorem d_M_copiesOf_78 : decode c_M_copiesOf 78 = .ok (.ireturn, 1) := by decide +kernel
theorem d_M_copiesOf_79 : decode c_M_copiesOf 79 = .ok (.iload_n 3, 1) := by decide +kernel
theorem d_M_copiesOf_80 : decode c_M_copiesOf 80 = .ok (.iload 7, 2) := by decide +kernel
theorem d_M_copiesOf_82 : decode c_M_copiesOf 82 = .ok (.isub, 1) := by decide +kernel
theorem d_M_copiesOf_83 : decode c_M_copiesOf 83 = .ok (.istore_n 3, 1) := by decide +kernel
theorem d_M_copiesOf_84 : decode c_M_copiesOf 84 = .ok (.iload_n 1, 1) := by decide +kernel
theorem d_M_copiesOf_85 : decode c_M_copiesOf 85 = .ok (.iload 7, 2) := by decide +kernel
theorem d_M_copiesOf_87 : decode c_M_copiesOf 87 = .ok (.iadd, 1) := by decide +kernel
theorem d_M_copiesOf_88 : decode c_M_copiesOf 88 = .ok (.istore_n 1, 1) := by decide +kernel
theorem d_M_copiesOf_89 : decode c_M_copiesOf 89 = .ok (.iinc 6 1, 3) := by decide +kernel
theorem d_M_copiesOf_92 : decode c_M_copiesOf 92 = .ok (.goto (-56), 3) := by decide +kernel
theorem d_M_copiesOf_95 : decode c_M_copiesOf 95 = .ok (.iinc 4 1, 3) := by decide +kernel
theorem d_M_copiesOf_98 : decode c_M_copiesOf 98 = .ok (.goto (-79), 3) := by decide +kernel
theorem d_M_copiesOf_101 : decode c_M_copiesOf 101 = .ok (.iinc 2 1, 3) := by decide +kernel
theorem d_M_copiesOf_104 : decode c_M_copiesOf 104 = .ok (.goto (-100), 3) := by decide +kernel
theorem d_M_copiesOf_107 : decode c_M_copiesOf 107 = .ok (.iload_n 1, 1) := by decide +kernel
theorem d_M_copiesOf_108 : decode c_M_copiesOf 108 = .ok (.ireturn, 1) := by decide +kernel
theorem d_M_isAhead_0 : decode c_M_isAhead 0 = .ok (.iconst 0, 1) := by decide +kernel
theorem d_M_isAhead_1 : decode c_M_isAhead 1 = .ok (.istore_n 1, 1) := by decide +kernel
theorem d_M_isAhead_2 : decode c_M_isAhead 2 = .ok (.iload_n 1, 1) := by decide +kernel
theorem d_M_isAhead_3 : decode c_M_isAhead 3 = .ok (.bipush 8, 2) := by decide +kernel
theorem d_M_isAhead_5 : decode c_M_isAhead 5 = .ok (.if_icmp .ge 45, 3) := by decide +kernel
theorem d_M_isAhead_8 : decode c_M_isAhead 8 = .ok (.aload_n 0, 1) := by decide +kernel
theorem d_M_isAhead_9 : decode c_M_isAhead 9 = .ok (.getfield 54, 3) := by decide +kernel
theorem d_M_isAhead_12 : decode c_M_isAhead 12 = .ok (.iload_n 1, 1) := by decide +kernel
theorem d_M_isAhead_13 : decode c_M_isAhead 13 = .ok (.iaload, 1) := by decide +kernel
theorem d_M_isAhead_14 : decode c_M_isAhead 14 = .ok (.aload_n 0, 1) := by decide +kernel
theorem d_M_isAhead_15 : decode c_M_isAhead 15 = .ok (.getfield 57, 3) := by decide +kernel
theorem d_M_isAhead_18 : decode c_M_isAhead 18 = .ok (.iload_n 1, 1) := by decide +kernel
theorem d_M_isAhead_19 : decode c_M_isAhead 19 = .ok (.iaload, 1) := by decide +kernel
theorem d_M_isAhead_20 : decode c_M_isAhead 20 = .ok (.if_icmp .eq 24, 3) := by decide +kernel
theorem d_M_isAhead_23 : decode c_M_isAhead 23 = .ok (.aload_n 0, 1) := by decide +kernel
theorem d_M_isAhead_24 : decode c_M_isAhead 24 = .ok (.getfield 54, 3) := by decide +kernel
theorem d_M_isAhead_27 : decode c_M_isAhead 27 = .ok (.iload_n 1, 1) := by decide +kernel
theorem d_M_isAhead_28 : decode c_M_isAhead 28 = .ok (.iaload, 1) := by decide +kernel
theorem d_M_isAhead_29 : decode c_M_isAhead 29 = .ok (.aload_n 0, 1) := by decide +kernel
theorem d_M_isAhead_30 : decode c_M_isAhead 30 = .ok (.getfield 57, 3) := by decide +kernel
theorem d_M_isAhead_33 : decode c_M_isAhead 33 = .ok (.iload_n 1, 1) := by decide +kernel
theorem d_M_isAhead_34 : decode c_M_isAhead 34 = .ok (.iaload, 1) := by decide +kernel
theorem d_M_isAhead_35 : decode c_M_isAhead 35 = .ok (.if_icmp .le 7, 3) := by decide +kernel
theorem d_M_isAhead_38 : decode c_M_isAhead 38 = .ok (.iconst 1, 1) := by decide +kernel
theorem d_M_isAhead_39 : decode c_M_isAhead 39 = .ok (.goto 4, 3) := by decide +kernel
theorem d_M_isAhead_42 : decode c_M_isAhead 42 = .ok (.iconst 0, 1) := by decide +kernel
theorem d_M_isAhead_43 : decode c_M_isAhead 43 = .ok (.ireturn, 1) := by decide +kernel
theorem d_M_isAhead_44 : decode c_M_isAhead 44 = .ok (.iinc 1 1, 3) := by decide +kernel
theorem d_M_isAhead_47 : decode c_M_isAhead 47 = .ok (.goto (-45), 3) := by decide +kernel
theorem d_M_isAhead_50 : decode c_M_isAhead 50 = .ok (.iconst 0, 1) := by decide +kernel
theorem d_M_isAhead_51 : decode c_M_isAhead 51 = .ok (.ireturn, 1) := by decide +kernel
theorem d_M_weigh_0 : decode c_M_weigh 0 = .ok (.aload_n 0, 1) := by decide +kernel
theorem d_M_weigh_1 : decode c_M_weigh 1 = .ok (.invokevirtual 99, 3) := by decide +kernel
theorem d_M_weigh_4 : decode c_M_weigh 4 = .ok (.istore_n 1, 1) := by decide +kernel
theorem d_M_weigh_5 : decode c_M_weigh 5 = .ok (.iload_n 1, 1) := by decide +kernel
theorem d_M_weigh_6 : decode c_M_weigh 6 = .ok (.aload_n 0, 1) := by decide +kernel
theorem d_M_weigh_7 : decode c_M_weigh 7 = .ok (.getfield 103, 3) := by decide +kernel
theorem d_M_weigh_10 : decode c_M_weigh 10 = .ok (.if_icmp .lt 10, 3) := by decide +kernel
theorem d_M_weigh_13 : decode c_M_weigh 13 = .ok (.aload_n 0, 1) := by decide +kernel
theorem d_M_weigh_14 : decode c_M_weigh 14 = .ok (.invokevirtual 106, 3) := by decide +kernel
theorem d_M_weigh_17 : decode c_M_weigh 17 = .ok (.ifCond .ne 4, 3) := by decide +kernel
theorem d_M_weigh_20 : decode c_M_weigh 20 = .ok (.return_, 1) := by decide +kernel
theorem d_M_weigh_21 : decode c_M_weigh 21 = .ok (.aload_n 0, 1) := by decide +kernel
theorem d_M_weigh_22 : decode c_M_weigh 22 = .ok (.invokevirtual 110, 3) := by decide +kernel
theorem d_M_weigh_25 : decode c_M_weigh 25 = .ok (.istore_n 2, 1) := by decide +kernel
theorem d_M_weigh_26 : decode c_M_weigh 26 = .ok (.iload_n 1, 1) := by decide +kernel
theorem d_M_weigh_27 : decode c_M_weigh 27 = .ok (.aload_n 0, 1) := by decide +kernel
theorem d_M_weigh_28 : decode c_M_weigh 28 = .ok (.getfield 103, 3) := by decide +kernel
theorem d_M_weigh_31 : decode c_M_weigh 31 = .ok (.if_icmp .ne 27, 3) := by decide +kernel
theorem d_M_weigh_34 : decode c_M_weigh 34 = .ok (.iload_n 2, 1) := by decide +kernel
theorem d_M_weigh_35 : decode c_M_weigh 35 = .ok (.aload_n 0, 1) := by decide +kernel
theorem d_M_weigh_36 : decode c_M_weigh 36 = .ok (.getfield 113, 3) := by decide +kernel
theorem d_M_weigh_39 : decode c_M_weigh 39 = .ok (.if_icmp .gt 18, 3) := by decide +kernel
theorem d_M_weigh_42 : decode c_M_weigh 42 = .ok (.iload_n 2, 1) := by decide +kernel
theorem d_M_weigh_43 : decode c_M_weigh 43 = .ok (.aload_n 0, 1) := by decide +kernel
theorem d_M_weigh_44 : decode c_M_weigh 44 = .ok (.getfield 113, 3) := by decide +kernel
theorem d_M_weigh_47 : decode c_M_weigh 47 = .ok (.if_icmp .ne 11, 3) := by decide +kernel
theorem d_M_weigh_50 : decode c_M_weigh 50 = .ok (.aload_n 0, 1) := by decide +kernel
theorem d_M_weigh_51 : decode c_M_weigh 51 = .ok (.invokevirtual 116, 3) := by decide +kernel
theorem d_M_weigh_54 : decode c_M_weigh 54 = .ok (.ifCond .ne 4, 3) := by decide +kernel
theorem d_M_weigh_57 : decode c_M_weigh 57 = .ok (.return_, 1) := by decide +kernel
theorem d_M_weigh_58 : decode c_M_weigh 58 = .ok (.aload_n 0, 1) := by decide +kernel
theorem d_M_weigh_59 : decode c_M_weigh 59 = .ok (.iload_n 1, 1) := by decide +kernel
theorem d_M_weigh_60 : decode c_M_weigh 60 = .ok (.putfield 103, 3) := by decide +kernel
theorem d_M_weigh_63 : decode c_M_weigh 63 = .ok (.aload_n 0, 1) := by decide +kernel
theorem d_M_weigh_64 : decode c_M_weigh 64 = .ok (.iload_n 2, 1) := by decide +kernel
theorem d_M_weigh_65 : decode c_M_weigh 65 = .ok (.putfield 113, 3) := by decide +kernel
theorem d_M_weigh_68 : decode c_M_weigh 68 = .ok (.iconst 0, 1) := by decide +kernel
theorem d_M_weigh_69 : decode c_M_weigh 69 = .ok (.istore_n 3, 1) := by decide +kernel
theorem d_M_weigh_70 : decode c_M_weigh 70 = .ok (.iload_n 3, 1) := by decide +kernel
theorem d_M_weigh_71 : decode c_M_weigh 71 = .ok (.bipush 8, 2) := by decide +kernel
theorem d_M_weigh_73 : decode c_M_weigh 73 = .ok (.if_icmp .ge 21, 3) := by decide +kernel
theorem d_M_weigh_76 : decode c_M_weigh 76 = .ok (.aload_n 0, 1) := by decide +kernel
theorem d_M_weigh_77 : decode c_M_weigh 77 = .ok (.getfield 57, 3) := by decide +kernel
theorem d_M_weigh_80 : decode c_M_weigh 80 = .ok (.iload_n 3, 1) := by decide +kernel
theorem d_M_weigh_81 : decode c_M_weigh 81 = .ok (.aload_n 0, 1) := by decide +kernel
theorem d_M_weigh_82 : decode c_M_weigh 82 = .ok (.getfield 54, 3) := by decide +kernel
theorem d_M_weigh_85 : decode c_M_weigh 85 = .ok (.iload_n 3, 1) := by decide +kernel
theorem d_M_weigh_86 : decode c_M_weigh 86 = .ok (.iaload, 1) := by decide +kernel
theorem d_M_weigh_87 : decode c_M_weigh 87 = .ok (.iastore, 1) := by decide +kernel
theorem d_M_weigh_88 : decode c_M_weigh 88 = .ok (.iinc 3 1, 3) := by decide +kernel
theorem d_M_weigh_91 : decode c_M_weigh 91 = .ok (.goto (-21), 3) := by decide +kernel
theorem d_M_weigh_94 : decode c_M_weigh 94 = .ok (.return_, 1) := by decide +kernel
theorem d_M_search_0 : decode c_M_search 0 = .ok (.aload_n 0, 1) := by decide +kernel
theorem d_M_search_1 : decode c_M_search 1 = .ok (.iconst 0, 1) := by decide +kernel
theorem d_M_search_2 : decode c_M_search 2 = .ok (.putfield 103, 3) := by decide +kernel
theorem d_M_search_5 : decode c_M_search 5 = .ok (.aload_n 0, 1) := by decide +kernel
theorem d_M_search_6 : decode c_M_search 6 = .ok (.iconst 0, 1) := by decide +kernel
theorem d_M_search_7 : decode c_M_search 7 = .ok (.putfield 113, 3) := by decide +kernel
theorem d_M_search_10 : decode c_M_search 10 = .ok (.iconst 0, 1) := by decide +kernel
theorem d_M_search_11 : decode c_M_search 11 = .ok (.istore_n 2, 1) := by decide +kernel
theorem d_M_search_12 : decode c_M_search 12 = .ok (.iload_n 2, 1) := by decide +kernel
theorem d_M_search_13 : decode c_M_search 13 = .ok (.bipush 8, 2) := by decide +kernel
theorem d_M_search_15 : decode c_M_search 15 = .ok (.if_icmp .ge 23, 3) := by decide +kernel
theorem d_M_search_18 : decode c_M_search 18 = .ok (.aload_n 0, 1) := by decide +kernel
theorem d_M_search_19 : decode c_M_search 19 = .ok (.getfield 54, 3) := by decide +kernel
theorem d_M_search_22 : decode c_M_search 22 = .ok (.iload_n 2, 1) := by decide +kernel
theorem d_M_search_23 : decode c_M_search 23 = .ok (.iconst 0, 1) := by decide +kernel
theorem d_M_search_24 : decode c_M_search 24 = .ok (.iastore, 1) := by decide +kernel
theorem d_M_search_25 : decode c_M_search 25 = .ok (.aload_n 0, 1) := by decide +kernel
theorem d_M_search_26 : decode c_M_search 26 = .ok (.getfield 57, 3) := by decide +kernel
theorem d_M_search_29 : decode c_M_search 29 = .ok (.iload_n 2, 1) := by decide +kernel
theorem d_M_search_30 : decode c_M_search 30 = .ok (.iconst 0, 1) := by decide +kernel
theorem d_M_search_31 : decode c_M_search 31 = .ok (.iastore, 1) := by decide +kernel
theorem d_M_search_32 : decode c_M_search 32 = .ok (.iinc 2 1, 3) := by decide +kernel
theorem d_M_search_35 : decode c_M_search 35 = .ok (.goto (-23), 3) := by decide +kernel
theorem d_M_search_38 : decode c_M_search 38 = .ok (.iload_n 1, 1) := by decide +kernel
theorem d_M_search_39 : decode c_M_search 39 = .ok (.ifCond .le 7, 3) := by decide +kernel
theorem d_M_search_42 : decode c_M_search 42 = .ok (.iconst 1, 1) := by decide +kernel
theorem d_M_search_43 : decode c_M_search 43 = .ok (.goto 4, 3) := by decide +kernel
theorem d_M_search_46 : decode c_M_search 46 = .ok (.iconst 0, 1) := by decide +kernel
theorem d_M_search_47 : decode c_M_search 47 = .ok (.istore_n 2, 1) := by decide +kernel
theorem d_M_search_48 : decode c_M_search 48 = .ok (.iload_n 2, 1) := by decide +kernel
theorem d_M_search_49 : decode c_M_search 49 = .ok (.ifCond .eq 20, 3) := by decide +kernel
theorem d_M_search_52 : decode c_M_search 52 = .ok (.aload_n 0, 1) := by decide +kernel
theorem d_M_search_53 : decode c_M_search 53 = .ok (.iload_n 1, 1) := by decide +kernel
theorem d_M_search_54 : decode c_M_search 54 = .ok (.invokevirtual 119, 3) := by decide +kernel
theorem d_M_search_57 : decode c_M_search 57 = .ok (.istore_n 2, 1) := by decide +kernel
theorem d_M_search_58 : decode c_M_search 58 = .ok (.iload_n 2, 1) := by decide +kernel
theorem d_M_search_59 : decode c_M_search 59 = .ok (.ifCond .eq (-11), 3) := by decide +kernel
theorem d_M_search_62 : decode c_M_search 62 = .ok (.aload_n 0, 1) := by decide +kernel
theorem d_M_search_63 : decode c_M_search 63 = .ok (.invokevirtual 122, 3) := by decide +kernel
theorem d_M_search_66 : decode c_M_search 66 = .ok (.goto (-18), 3) := by decide +kernel
theorem d_M_search_69 : decode c_M_search 69 = .ok (.return_, 1) := by decide +kernel
theorem d_M_goOn_0 : decode c_M_goOn 0 = .ok (.iconst 0, 1) := by decide +kernel
theorem d_M_goOn_1 : decode c_M_goOn 1 = .ok (.istore_n 2, 1) := by decide +kernel
theorem d_M_goOn_2 : decode c_M_goOn 2 = .ok (.iload_n 2, 1) := by decide +kernel
theorem d_M_goOn_3 : decode c_M_goOn 3 = .ok (.bipush 8, 2) := by decide +kernel
theorem d_M_goOn_5 : decode c_M_goOn 5 = .ok (.if_icmp .ge 45, 3) := by decide +kernel
theorem d_M_goOn_8 : decode c_M_goOn 8 = .ok (.aload_n 0, 1) := by decide +kernel
theorem d_M_goOn_9 : decode c_M_goOn 9 = .ok (.getfield 51, 3) := by decide +kernel
theorem d_M_goOn_12 : decode c_M_goOn 12 = .ok (.iload_n 2, 1) := by decide +kernel
theorem d_M_goOn_13 : decode c_M_goOn 13 = .ok (.iaload, 1) := by decide +kernel
theorem d_M_goOn_14 : decode c_M_goOn 14 = .ok (.ifCond .le 23, 3) := by decide +kernel
theorem d_M_goOn_17 : decode c_M_goOn 17 = .ok (.aload_n 0, 1) := by decide +kernel
theorem d_M_goOn_18 : decode c_M_goOn 18 = .ok (.invokevirtual 110, 3) := by decide +kernel
theorem d_M_goOn_21 : decode c_M_goOn 21 = .ok (.iload_n 1, 1) := by decide +kernel
theorem d_M_goOn_22 : decode c_M_goOn 22 = .ok (.if_icmp .ge 15, 3) := by decide +kernel
theorem d_M_goOn_25 : decode c_M_goOn 25 = .ok (.aload_n 0, 1) := by decide +kernel
theorem d_M_goOn_26 : decode c_M_goOn 26 = .ok (.getfield 54, 3) := by decide +kernel
theorem d_M_goOn_29 : decode c_M_goOn 29 = .ok (.iload_n 2, 1) := by decide +kernel
theorem d_M_goOn_30 : decode c_M_goOn 30 = .ok (.dup2, 1) := by decide +kernel
theorem d_M_goOn_31 : decode c_M_goOn 31 = .ok (.iaload, 1) := by decide +kernel
theorem d_M_goOn_32 : decode c_M_goOn 32 = .ok (.iconst 1, 1) := by decide +kernel
theorem d_M_goOn_33 : decode c_M_goOn 33 = .ok (.iadd, 1) := by decide +kernel
theorem d_M_goOn_34 : decode c_M_goOn 34 = .ok (.iastore, 1) := by decide +kernel
theorem d_M_goOn_35 : decode c_M_goOn 35 = .ok (.iconst 1, 1) := by decide +kernel
theorem d_M_goOn_36 : decode c_M_goOn 36 = .ok (.ireturn, 1) := by decide +kernel
theorem d_M_goOn_37 : decode c_M_goOn 37 = .ok (.aload_n 0, 1) := by decide +kernel
theorem d_M_goOn_38 : decode c_M_goOn 38 = .ok (.getfield 54, 3) := by decide +kernel
theorem d_M_goOn_41 : decode c_M_goOn 41 = .ok (.iload_n 2, 1) := by decide +kernel
theorem d_M_goOn_42 : decode c_M_goOn 42 = .ok (.iconst 0, 1) := by decide +kernel
theorem d_M_goOn_43 : decode c_M_goOn 43 = .ok (.iastore, 1) := by decide +kernel
theorem d_M_goOn_44 : decode c_M_goOn 44 = .ok (.iinc 2 1, 3) := by decide +kernel
theorem d_M_goOn_47 : decode c_M_goOn 47 = .ok (.goto (-45), 3) := by decide +kernel
theorem d_M_goOn_50 : decode c_M_goOn 50 = .ok (.iconst 0, 1) := by decide +kernel
theorem d_M_goOn_51 : decode c_M_goOn 51 = .ok (.ireturn, 1) := by decide +kernel
theorem d_M_layOut_0 : decode c_M_layOut 0 = .ok (.aload_n 0, 1) := by decide +kernel
theorem d_M_layOut_1 : decode c_M_layOut 1 = .ok (.iconst 0, 1) := by decide +kernel
theorem d_M_layOut_2 : decode c_M_layOut 2 = .ok (.putfield 125, 3) := by decide +kernel
theorem d_M_layOut_5 : decode c_M_layOut 5 = .ok (.aload_n 0, 1) := by decide +kernel
theorem d_M_layOut_6 : decode c_M_layOut 6 = .ok (.getfield 29, 3) := by decide +kernel
theorem d_M_layOut_9 : decode c_M_layOut 9 = .ok (.iconst 1, 1) := by decide +kernel
theorem d_M_layOut_10 : decode c_M_layOut 10 = .ok (.laload, 1) := by decide +kernel
theorem d_M_layOut_11 : decode c_M_layOut 11 = .ok (.lstore_n 1, 1) := by decide +kernel
theorem d_M_layOut_12 : decode c_M_layOut 12 = .ok (.iconst 0, 1) := by decide +kernel
theorem d_M_layOut_13 : decode c_M_layOut 13 = .ok (.istore_n 3, 1) := by decide +kernel
theorem d_M_layOut_14 : decode c_M_layOut 14 = .ok (.iload_n 3, 1) := by decide +kernel
theorem d_M_layOut_15 : decode c_M_layOut 15 = .ok (.iconst 4, 1) := by decide +kernel
theorem d_M_layOut_16 : decode c_M_layOut 16 = .ok (.if_icmp .ge 166, 3) := by decide +kernel
theorem d_M_layOut_19 : decode c_M_layOut 19 = .ok (.aload_n 0, 1) := by decide +kernel
theorem d_M_layOut_20 : decode c_M_layOut 20 = .ok (.getfield 20, 3) := by decide +kernel
theorem d_M_layOut_23 : decode c_M_layOut 23 = .ok (.iload_n 3, 1) := by decide +kernel
theorem d_M_layOut_24 : decode c_M_layOut 24 = .ok (.iaload, 1) := by decide +kernel
theorem d_M_layOut_25 : decode c_M_layOut 25 = .ok (.istore 4, 2) := by decide +kernel
theorem d_M_layOut_27 : decode c_M_layOut 27 = .ok (.iconst 0, 1) := by decide +kernel
theorem d_M_layOut_28 : decode c_M_layOut 28 = .ok (.istore 5, 2) := by decide +kernel
theorem d_M_layOut_30 : decode c_M_layOut 30 = .ok (.iload 5, 2) := by decide +kernel
theorem d_M_layOut_32 : decode c_M_layOut 32 = .ok (.iconst 2, 1) := by decide +kernel
theorem d_M_layOut_33 : decode c_M_layOut 33 = .ok (.if_icmp .ge 143, 3) := by decide +kernel
theorem d_M_layOut_36 : decode c_M_layOut 36 = .ok (.iconst 2, 1) := by decide +kernel
theorem d_M_layOut_37 : decode c_M_layOut 37 = .ok (.iload_n 3, 1) := by decide +kernel
theorem d_M_layOut_38 : decode c_M_layOut 38 = .ok (.imul, 1) := by decide +kernel
theorem d_M_layOut_39 : decode c_M_layOut 39 = .ok (.iload 5, 2) := by decide +kernel
theorem d_M_layOut_41 : decode c_M_layOut 41 = .ok (.iadd, 1) := by decide +kernel
theorem d_M_layOut_42 : decode c_M_layOut 42 = .ok (.istore 6, 2) := by decide +kernel
theorem d_M_layOut_44 : decode c_M_layOut 44 = .ok (.iconst 0, 1) := by decide +kernel
theorem d_M_layOut_45 : decode c_M_layOut 45 = .ok (.istore 7, 2) := by decide +kernel
theorem d_M_layOut_47 : decode c_M_layOut 47 = .ok (.iload 7, 2) := by decide +kernel
theorem d_M_layOut_49 : decode c_M_layOut 49 = .ok (.aload_n 0, 1) := by decide +kernel
theorem d_M_layOut_50 : decode c_M_layOut 50 = .ok (.getfield 57, 3) := by decide +kernel
theorem d_M_layOut_53 : decode c_M_layOut 53 = .ok (.iload 6, 2) := by decide +kernel
theorem d_M_layOut_55 : decode c_M_layOut 55 = .ok (.iaload, 1) := by decide +kernel
theorem d_M_layOut_56 : decode c_M_layOut 56 = .ok (.if_icmp .ge 114, 3) := by decide +kernel
theorem d_M_layOut_59 : decode c_M_layOut 59 = .ok (.aload_n 0, 1) := by decide +kernel
theorem d_M_layOut_60 : decode c_M_layOut 60 = .ok (.getfield 51, 3) := by decide +kernel
theorem d_M_layOut_63 : decode c_M_layOut 63 = .ok (.iload 6, 2) := by decide +kernel
theorem d_M_layOut_65 : decode c_M_layOut 65 = .ok (.iaload, 1) := by decide +kernel
theorem d_M_layOut_66 : decode c_M_layOut 66 = .ok (.iload 4, 2) := by decide +kernel
theorem d_M_layOut_68 : decode c_M_layOut 68 = .ok (.if_icmp .ge 13, 3) := by decide +kernel
theorem d_M_layOut_71 : decode c_M_layOut 71 = .ok (.aload_n 0, 1) := by decide +kernel
theorem d_M_layOut_72 : decode c_M_layOut 72 = .ok (.getfield 51, 3) := by decide +kernel
theorem d_M_layOut_75 : decode c_M_layOut 75 = .ok (.iload 6, 2) := by decide +kernel
theorem d_M_layOut_77 : decode c_M_layOut 77 = .ok (.iaload, 1) := by decide +kernel
theorem d_M_layOut_78 : decode c_M_layOut 78 = .ok (.goto 5, 3) := by decide +kernel
theorem d_M_layOut_81 : decode c_M_layOut 81 = .ok (.iload 4, 2) := by decide +kernel
theorem d_M_layOut_83 : decode c_M_layOut 83 = .ok (.istore 8, 2) := by decide +kernel
theorem d_M_layOut_85 : decode c_M_layOut 85 = .ok (.iload 4, 2) := by decide +kernel
theorem d_M_layOut_87 : decode c_M_layOut 87 = .ok (.iload 8, 2) := by decide +kernel
theorem d_M_layOut_89 : decode c_M_layOut 89 = .ok (.isub, 1) := by decide +kernel
theorem d_M_layOut_90 : decode c_M_layOut 90 = .ok (.istore 4, 2) := by decide +kernel
theorem d_M_layOut_92 : decode c_M_layOut 92 = .ok (.iconst 0, 1) := by decide +kernel
theorem d_M_layOut_93 : decode c_M_layOut 93 = .ok (.istore 9, 2) := by decide +kernel
theorem d_M_layOut_95 : decode c_M_layOut 95 = .ok (.iload 9, 2) := by decide +kernel
theorem d_M_layOut_97 : decode c_M_layOut 97 = .ok (.iload 8, 2) := by decide +kernel
theorem d_M_layOut_99 : decode c_M_layOut 99 = .ok (.if_icmp .ge 51, 3) := by decide +kernel
theorem d_M_layOut_102 : decode c_M_layOut 102 = .ok (.aload_n 0, 1) := by decide +kernel
theorem d_M_layOut_103 : decode c_M_layOut 103 = .ok (.iload_n 3, 1) := by decide +kernel
theorem d_M_layOut_104 : decode c_M_layOut 104 = .ok (.aload_n 0, 1) := by decide +kernel
theorem d_M_layOut_105 : decode c_M_layOut 105 = .ok (.getfield 29, 3) := by decide +kernel
theorem d_M_layOut_108 : decode c_M_layOut 108 = .ok (.iconst 0, 1) := by decide +kernel
theorem d_M_layOut_109 : decode c_M_layOut 109 = .ok (.laload, 1) := by decide +kernel
theorem d_M_layOut_110 : decode c_M_layOut 110 = .ok (.iload 9, 2) := by decide +kernel
theorem d_M_layOut_112 : decode c_M_layOut 112 = .ok (.i2l, 1) := by decide +kernel
theorem d_M_layOut_113 : decode c_M_layOut 113 = .ok (.aload_n 0, 1) := by decide +kernel
theorem d_M_layOut_114 : decode c_M_layOut 114 = .ok (.iload 6, 2) := by decide +kernel
theorem d_M_layOut_116 : decode c_M_layOut 116 = .ok (.invokevirtual 90, 3) := by decide +kernel
theorem d_M_layOut_119 : decode c_M_layOut 119 = .ok (.aload_n 0, 1) := by decide +kernel
theorem d_M_layOut_120 : decode c_M_layOut 120 = .ok (.getfield 84, 3) := by decide +kernel
theorem d_M_layOut_123 : decode c_M_layOut 123 = .ok (.ladd, 1) := by decide +kernel
theorem d_M_layOut_124 : decode c_M_layOut 124 = .ok (.lmul, 1) := by decide +kernel
theorem d_M_layOut_125 : decode c_M_layOut 125 = .ok (.ladd, 1) := by decide +kernel
theorem d_M_layOut_126 : decode c_M_layOut 126 = .ok (.lload_n 1, 1) := by decide +kernel
theorem d_M_layOut_127 : decode c_M_layOut 127 = .ok (.iload 5, 2) := by decide +kernel
theorem d_M_layOut_129 : decode c_M_layOut 129 = .ok (.aload_n 0, 1) := by decide +kernel
theorem d_M_layOut_130 : decode c_M_layOut 130 = .ok (.iload 6, 2) := by decide +kernel
theorem d_M_layOut_132 : decode c_M_layOut 132 = .ok (.invokevirtual 90, 3) := by decide +kernel
theorem d_M_layOut_135 : decode c_M_layOut 135 = .ok (.aload_n 0, 1) := by decide +kernel
theorem d_M_layOut_136 : decode c_M_layOut 136 = .ok (.iload 6, 2) := by decide +kernel
theorem d_M_layOut_138 : decode c_M_layOut 138 = .ok (.invokevirtual 96, 3) := by decide +kernel
theorem d_M_layOut_141 : decode c_M_layOut 141 = .ok (.invokevirtual 128, 3) := by decide +kernel
theorem d_M_layOut_144 : decode c_M_layOut 144 = .ok (.iinc 9 1, 3) := by decide +kernel
theorem d_M_layOut_147 : decode c_M_layOut 147 = .ok (.goto (-52), 3) := by decide +kernel
theorem d_M_layOut_150 : decode c_M_layOut 150 = .ok (.lload_n 1, 1) := by decide +kernel
theorem d_M_layOut_151 : decode c_M_layOut 151 = .ok (.aload_n 0, 1) := by decide +kernel
theorem d_M_layOut_152 : decode c_M_layOut 152 = .ok (.iload 6, 2) := by decide +kernel
theorem d_M_layOut_154 : decode c_M_layOut 154 = .ok (.invokevirtual 96, 3) := by decide +kernel
theorem d_M_layOut_157 : decode c_M_layOut 157 = .ok (.aload_n 0, 1) := by decide +kernel
theorem d_M_layOut_158 : decode c_M_layOut 158 = .ok (.getfield 84, 3) := by decide +kernel
theorem d_M_layOut_161 : decode c_M_layOut 161 = .ok (.ladd, 1) := by decide +kernel
theorem d_M_layOut_162 : decode c_M_layOut 162 = .ok (.ladd, 1) := by decide +kernel
theorem d_M_layOut_163 : decode c_M_layOut 163 = .ok (.lstore_n 1, 1) := by decide +kernel
theorem d_M_layOut_164 : decode c_M_layOut 164 = .ok (.iinc 7 1, 3) := by decide +kernel
theorem d_M_layOut_167 : decode c_M_layOut 167 = .ok (.goto (-120), 3) := by decide +kernel
theorem d_M_layOut_170 : decode c_M_layOut 170 = .ok (.iinc 5 1, 3) := by decide +kernel
theorem d_M_layOut_173 : decode c_M_layOut 173 = .ok (.goto (-143), 3) := by decide +kernel
theorem d_M_layOut_176 : decode c_M_layOut 176 = .ok (.iinc 3 1, 3) := by decide +kernel
theorem d_M_layOut_179 : decode c_M_layOut 179 = .ok (.goto (-165), 3) := by decide +kernel
theorem d_M_layOut_182 : decode c_M_layOut 182 = .ok (.return_, 1) := by decide +kernel
theorem d_M_put_0 : decode c_M_put 0 = .ok (.bipush 6, 2) := by decide +kernel
theorem d_M_put_2 : decode c_M_put 2 = .ok (.aload_n 0, 1) := by decide +kernel
theorem d_M_put_3 : decode c_M_put 3 = .ok (.getfield 125, 3) := by decide +kernel
theorem d_M_put_6 : decode c_M_put 6 = .ok (.imul, 1) := by decide +kernel
theorem d_M_put_7 : decode c_M_put 7 = .ok (.istore 11, 2) := by decide +kernel
theorem d_M_put_9 : decode c_M_put 9 = .ok (.aload_n 0, 1) := by decide +kernel
theorem d_M_put_10 : decode c_M_put 10 = .ok (.getfield 32, 3) := by decide +kernel
theorem d_M_put_13 : decode c_M_put 13 = .ok (.iload 11, 2) := by decide +kernel
theorem d_M_put_15 : decode c_M_put 15 = .ok (.iload_n 1, 1) := by decide +kernel
theorem d_M_put_16 : decode c_M_put 16 = .ok (.i2l, 1) := by decide +kernel
theorem d_M_put_17 : decode c_M_put 17 = .ok (.lastore, 1) := by decide +kernel
theorem d_M_put_18 : decode c_M_put 18 = .ok (.aload_n 0, 1) := by decide +kernel
theorem d_M_put_19 : decode c_M_put 19 = .ok (.getfield 32, 3) := by decide +kernel
theorem d_M_put_22 : decode c_M_put 22 = .ok (.iload 11, 2) := by decide +kernel
theorem d_M_put_24 : decode c_M_put 24 = .ok (.iconst 1, 1) := by decide +kernel
theorem d_M_put_25 : decode c_M_put 25 = .ok (.iadd, 1) := by decide +kernel
theorem d_M_put_26 : decode c_M_put 26 = .ok (.lload_n 2, 1) := by decide +kernel
theorem d_M_put_27 : decode c_M_put 27 = .ok (.lastore, 1) := by decide +kernel
theorem d_M_put_28 : decode c_M_put 28 = .ok (.aload_n 0, 1) := by decide +kernel
theorem d_M_put_29 : decode c_M_put 29 = .ok (.getfield 32, 3) := by decide +kernel
theorem d_M_put_32 : decode c_M_put 32 = .ok (.iload 11, 2) := by decide +kernel
theorem d_M_put_34 : decode c_M_put 34 = .ok (.iconst 2, 1) := by decide +kernel
theorem d_M_put_35 : decode c_M_put 35 = .ok (.iadd, 1) := by decide +kernel
theorem d_M_put_36 : decode c_M_put 36 = .ok (.lload 4, 2) := by decide +kernel
theorem d_M_put_38 : decode c_M_put 38 = .ok (.lastore, 1) := by decide +kernel
theorem d_M_put_39 : decode c_M_put 39 = .ok (.aload_n 0, 1) := by decide +kernel
theorem d_M_put_40 : decode c_M_put 40 = .ok (.getfield 32, 3) := by decide +kernel
theorem d_M_put_43 : decode c_M_put 43 = .ok (.iload 11, 2) := by decide +kernel
theorem d_M_put_45 : decode c_M_put 45 = .ok (.iconst 3, 1) := by decide +kernel
theorem d_M_put_46 : decode c_M_put 46 = .ok (.iadd, 1) := by decide +kernel
theorem d_M_put_47 : decode c_M_put 47 = .ok (.iload 6, 2) := by decide +kernel
theorem d_M_put_49 : decode c_M_put 49 = .ok (.i2l, 1) := by decide +kernel
theorem d_M_put_50 : decode c_M_put 50 = .ok (.lastore, 1) := by decide +kernel
theorem d_M_put_51 : decode c_M_put 51 = .ok (.aload_n 0, 1) := by decide +kernel
theorem d_M_put_52 : decode c_M_put 52 = .ok (.getfield 32, 3) := by decide +kernel
theorem d_M_put_55 : decode c_M_put 55 = .ok (.iload 11, 2) := by decide +kernel
theorem d_M_put_57 : decode c_M_put 57 = .ok (.iconst 4, 1) := by decide +kernel
theorem d_M_put_58 : decode c_M_put 58 = .ok (.iadd, 1) := by decide +kernel
theorem d_M_put_59 : decode c_M_put 59 = .ok (.lload 7, 2) := by decide +kernel
theorem d_M_put_61 : decode c_M_put 61 = .ok (.lastore, 1) := by decide +kernel
theorem d_M_put_62 : decode c_M_put 62 = .ok (.aload_n 0, 1) := by decide +kernel
theorem d_M_put_63 : decode c_M_put 63 = .ok (.getfield 32, 3) := by decide +kernel
theorem d_M_put_66 : decode c_M_put 66 = .ok (.iload 11, 2) := by decide +kernel
theorem d_M_put_68 : decode c_M_put 68 = .ok (.iconst 5, 1) := by decide +kernel
theorem d_M_put_69 : decode c_M_put 69 = .ok (.iadd, 1) := by decide +kernel
theorem d_M_put_70 : decode c_M_put 70 = .ok (.lload 9, 2) := by decide +kernel
theorem d_M_put_72 : decode c_M_put 72 = .ok (.lastore, 1) := by decide +kernel
theorem d_M_put_73 : decode c_M_put 73 = .ok (.aload_n 0, 1) := by decide +kernel
theorem d_M_put_74 : decode c_M_put 74 = .ok (.getfield 35, 3) := by decide +kernel
theorem d_M_put_77 : decode c_M_put 77 = .ok (.aload_n 0, 1) := by decide +kernel
theorem d_M_put_78 : decode c_M_put 78 = .ok (.getfield 125, 3) := by decide +kernel
theorem d_M_put_81 : decode c_M_put 81 = .ok (.iconst 0, 1) := by decide +kernel
theorem d_M_put_82 : decode c_M_put 82 = .ok (.bastore, 1) := by decide +kernel
theorem d_M_put_83 : decode c_M_put 83 = .ok (.aload_n 0, 1) := by decide +kernel
theorem d_M_put_84 : decode c_M_put 84 = .ok (.dup, 1) := by decide +kernel
theorem d_M_put_85 : decode c_M_put 85 = .ok (.getfield 125, 3) := by decide +kernel
theorem d_M_put_88 : decode c_M_put 88 = .ok (.iconst 1, 1) := by decide +kernel
theorem d_M_put_89 : decode c_M_put 89 = .ok (.iadd, 1) := by decide +kernel
theorem d_M_put_90 : decode c_M_put 90 = .ok (.putfield 125, 3) := by decide +kernel
theorem d_M_put_93 : decode c_M_put 93 = .ok (.return_, 1) := by decide +kernel
theorem d_M_run_0 : decode c_M_run 0 = .ok (.aload_n 0, 1) := by decide +kernel
theorem d_M_run_1 : decode c_M_run 1 = .ok (.iload_n 1, 1) := by decide +kernel
theorem d_M_run_2 : decode c_M_run 2 = .ok (.ifCond .lt 26, 3) := by decide +kernel
theorem d_M_run_5 : decode c_M_run 5 = .ok (.iload_n 1, 1) := by decide +kernel
theorem d_M_run_6 : decode c_M_run 6 = .ok (.iconst 4, 1) := by decide +kernel
theorem d_M_run_7 : decode c_M_run 7 = .ok (.if_icmp .gt 21, 3) := by decide +kernel
theorem d_M_run_10 : decode c_M_run 10 = .ok (.lload_n 2, 1) := by decide +kernel
theorem d_M_run_11 : decode c_M_run 11 = .ok (.lconst 0, 1) := by decide +kernel
theorem d_M_run_12 : decode c_M_run 12 = .ok (.lcmp, 1) := by decide +kernel
theorem d_M_run_13 : decode c_M_run 13 = .ok (.ifCond .lt 15, 3) := by decide +kernel
theorem d_M_run_16 : decode c_M_run 16 = .ok (.lload_n 2, 1) := by decide +kernel
theorem d_M_run_17 : decode c_M_run 17 = .ok (.ldc2_w 132, 3) := by decide +kernel
theorem d_M_run_20 : decode c_M_run 20 = .ok (.lcmp, 1) := by decide +kernel
theorem d_M_run_21 : decode c_M_run 21 = .ok (.ifCond .gt 7, 3) := by decide +kernel
theorem d_M_run_24 : decode c_M_run 24 = .ok (.iconst 0, 1) := by decide +kernel
theorem d_M_run_25 : decode c_M_run 25 = .ok (.goto 4, 3) := by decide +kernel
theorem d_M_run_28 : decode c_M_run 28 = .ok (.iconst 1, 1) := by decide +kernel
theorem d_M_run_29 : decode c_M_run 29 = .ok (.putfield 69, 3) := by decide +kernel
theorem d_M_run_32 : decode c_M_run 32 = .ok (.aload_n 0, 1) := by decide +kernel
theorem d_M_run_33 : decode c_M_run 33 = .ok (.getfield 69, 3) := by decide +kernel
theorem d_M_run_36 : decode c_M_run 36 = .ok (.ifCond .eq 5, 3) := by decide +kernel
theorem d_M_run_39 : decode c_M_run 39 = .ok (.iconst 0, 1) := by decide +kernel
theorem d_M_run_40 : decode c_M_run 40 = .ok (.ireturn, 1) := by decide +kernel
theorem d_M_run_41 : decode c_M_run 41 = .ok (.iconst 0, 1) := by decide +kernel
theorem d_M_run_42 : decode c_M_run 42 = .ok (.istore 4, 2) := by decide +kernel
theorem d_M_run_44 : decode c_M_run 44 = .ok (.iload 4, 2) := by decide +kernel
theorem d_M_run_46 : decode c_M_run 46 = .ok (.aload_n 0, 1) := by decide +kernel
theorem d_M_run_47 : decode c_M_run 47 = .ok (.getfield 73, 3) := by decide +kernel
theorem d_M_run_50 : decode c_M_run 50 = .ok (.if_icmp .ge 15, 3) := by decide +kernel
theorem d_M_run_53 : decode c_M_run 53 = .ok (.aload_n 0, 1) := by decide +kernel
theorem d_M_run_54 : decode c_M_run 54 = .ok (.iload 4, 2) := by decide +kernel
theorem d_M_run_56 : decode c_M_run 56 = .ok (.invokevirtual 134, 3) := by decide +kernel
theorem d_M_run_59 : decode c_M_run 59 = .ok (.iinc 4 1, 3) := by decide +kernel
theorem d_M_run_62 : decode c_M_run 62 = .ok (.goto (-18), 3) := by decide +kernel
theorem d_M_run_65 : decode c_M_run 65 = .ok (.iconst 0, 1) := by decide +kernel
theorem d_M_run_66 : decode c_M_run 66 = .ok (.istore 4, 2) := by decide +kernel
theorem d_M_run_68 : decode c_M_run 68 = .ok (.iload 4, 2) := by decide +kernel
theorem d_M_run_70 : decode c_M_run 70 = .ok (.bipush 8, 2) := by decide +kernel
theorem d_M_run_72 : decode c_M_run 72 = .ok (.if_icmp .ge 23, 3) := by decide +kernel
theorem d_M_run_75 : decode c_M_run 75 = .ok (.aload_n 0, 1) := by decide +kernel
theorem d_M_run_76 : decode c_M_run 76 = .ok (.getfield 51, 3) := by decide +kernel
theorem d_M_run_79 : decode c_M_run 79 = .ok (.iload 4, 2) := by decide +kernel
theorem d_M_run_81 : decode c_M_run 81 = .ok (.aload_n 0, 1) := by decide +kernel
theorem d_M_run_82 : decode c_M_run 82 = .ok (.iload 4, 2) := by decide +kernel
theorem d_M_run_84 : decode c_M_run 84 = .ok (.iload_n 1, 1) := by decide +kernel
theorem d_M_run_85 : decode c_M_run 85 = .ok (.invokevirtual 138, 3) := by decide +kernel
theorem d_M_run_88 : decode c_M_run 88 = .ok (.iastore, 1) := by decide +kernel
theorem d_M_run_89 : decode c_M_run 89 = .ok (.iinc 4 1, 3) := by decide +kernel
theorem d_M_run_92 : decode c_M_run 92 = .ok (.goto (-24), 3) := by decide +kernel
theorem d_M_run_95 : decode c_M_run 95 = .ok (.aload_n 0, 1) := by decide +kernel
theorem d_M_run_96 : decode c_M_run 96 = .ok (.lload_n 2, 1) := by decide +kernel
theorem d_M_run_97 : decode c_M_run 97 = .ok (.l2i, 1) := by decide +kernel
theorem d_M_run_98 : decode c_M_run 98 = .ok (.iconst 1, 1) := by decide +kernel
theorem d_M_run_99 : decode c_M_run 99 = .ok (.iadd, 1) := by decide +kernel
theorem d_M_run_100 : decode c_M_run 100 = .ok (.invokevirtual 142, 3) := by decide +kernel
theorem d_M_run_103 : decode c_M_run 103 = .ok (.aload_n 0, 1) := by decide +kernel
theorem d_M_run_104 : decode c_M_run 104 = .ok (.getfield 103, 3) := by decide +kernel
theorem d_M_run_107 : decode c_M_run 107 = .ok (.istore 4, 2) := by decide +kernel
theorem d_M_run_109 : decode c_M_run 109 = .ok (.aload_n 0, 1) := by decide +kernel
theorem d_M_run_110 : decode c_M_run 110 = .ok (.lload_n 2, 1) := by decide +kernel
theorem d_M_run_111 : decode c_M_run 111 = .ok (.l2i, 1) := by decide +kernel
theorem d_M_run_112 : decode c_M_run 112 = .ok (.invokevirtual 142, 3) := by decide +kernel
theorem d_M_run_115 : decode c_M_run 115 = .ok (.aload_n 0, 1) := by decide +kernel
theorem d_M_run_116 : decode c_M_run 116 = .ok (.invokevirtual 145, 3) := by decide +kernel
theorem d_M_run_119 : decode c_M_run 119 = .ok (.aload_n 0, 1) := by decide +kernel
theorem d_M_run_120 : decode c_M_run 120 = .ok (.iload_n 1, 1) := by decide +kernel
theorem d_M_run_121 : decode c_M_run 121 = .ok (.aload_n 0, 1) := by decide +kernel
theorem d_M_run_122 : decode c_M_run 122 = .ok (.getfield 73, 3) := by decide +kernel
theorem d_M_run_125 : decode c_M_run 125 = .ok (.if_icmp .lt 16, 3) := by decide +kernel
theorem d_M_run_128 : decode c_M_run 128 = .ok (.iload 4, 2) := by decide +kernel
theorem d_M_run_130 : decode c_M_run 130 = .ok (.aload_n 0, 1) := by decide +kernel
theorem d_M_run_131 : decode c_M_run 131 = .ok (.getfield 103, 3) := by decide +kernel
theorem d_M_run_134 : decode c_M_run 134 = .ok (.if_icmp .ne 7, 3) := by decide +kernel
theorem d_M_run_137 : decode c_M_run 137 = .ok (.iconst 1, 1) := by decide +kernel
theorem d_M_run_138 : decode c_M_run 138 = .ok (.goto 4, 3) := by decide +kernel
theorem d_M_run_141 : decode c_M_run 141 = .ok (.iconst 0, 1) := by decide +kernel
theorem d_M_run_142 : decode c_M_run 142 = .ok (.putfield 148, 3) := by decide +kernel
theorem d_M_run_145 : decode c_M_run 145 = .ok (.aload_n 0, 1) := by decide +kernel
theorem d_M_run_146 : decode c_M_run 146 = .ok (.getfield 125, 3) := by decide +kernel
theorem d_M_run_149 : decode c_M_run 149 = .ok (.ireturn, 1) := by decide +kernel
theorem d_M_proved_0 : decode c_M_proved 0 = .ok (.aload_n 0, 1) := by decide +kernel
theorem d_M_proved_1 : decode c_M_proved 1 = .ok (.iconst 0, 1) := by decide +kernel
theorem d_M_proved_2 : decode c_M_proved 2 = .ok (.putfield 69, 3) := by decide +kernel
theorem d_M_proved_5 : decode c_M_proved 5 = .ok (.aload_n 0, 1) := by decide +kernel
theorem d_M_proved_6 : decode c_M_proved 6 = .ok (.getfield 148, 3) := by decide +kernel
theorem d_M_proved_9 : decode c_M_proved 9 = .ok (.ireturn, 1) := by decide +kernel
end
section
theorem d_M_isCopy_0 : decode c_M_isCopy 0 = .ok (.iload_n 1, 1) := by decide +kernel
theorem d_M_isCopy_1 : decode c_M_isCopy 1 = .ok (.ifCond .lt 15, 3) := by decide +kernel
theorem d_M_isCopy_4 : decode c_M_isCopy 4 = .ok (.iload_n 1, 1) := by decide +kernel
theorem d_M_isCopy_5 : decode c_M_isCopy 5 = .ok (.aload_n 0, 1) := by decide +kernel
theorem d_M_isCopy_6 : decode c_M_isCopy 6 = .ok (.getfield 125, 3) := by decide +kernel
theorem d_M_isCopy_9 : decode c_M_isCopy 9 = .ok (.if_icmp .ge 7, 3) := by decide +kernel
theorem d_M_isCopy_12 : decode c_M_isCopy 12 = .ok (.iconst 1, 1) := by decide +kernel
theorem d_M_isCopy_13 : decode c_M_isCopy 13 = .ok (.goto 4, 3) := by decide +kernel
theorem d_M_isCopy_16 : decode c_M_isCopy 16 = .ok (.iconst 0, 1) := by decide +kernel
theorem d_M_isCopy_17 : decode c_M_isCopy 17 = .ok (.ireturn, 1) := by decide +kernel
theorem d_M_at_0 : decode c_M_at 0 = .ok (.aload_n 0, 1) := by decide +kernel
theorem d_M_at_1 : decode c_M_at 1 = .ok (.aload_n 0, 1) := by decide +kernel
theorem d_M_at_2 : decode c_M_at 2 = .ok (.iload_n 1, 1) := by decide +kernel
theorem d_M_at_3 : decode c_M_at 3 = .ok (.invokevirtual 152, 3) := by decide +kernel
theorem d_M_at_6 : decode c_M_at 6 = .ok (.ifCond .eq 17, 3) := by decide +kernel
theorem d_M_at_9 : decode c_M_at 9 = .ok (.iload_n 2, 1) := by decide +kernel
theorem d_M_at_10 : decode c_M_at 10 = .ok (.ifCond .lt 13, 3) := by decide +kernel
theorem d_M_at_13 : decode c_M_at 13 = .ok (.iload_n 2, 1) := by decide +kernel
theorem d_M_at_14 : decode c_M_at 14 = .ok (.bipush 6, 2) := by decide +kernel
theorem d_M_at_16 : decode c_M_at 16 = .ok (.if_icmp .ge 7, 3) := by decide +kernel
theorem d_M_at_19 : decode c_M_at 19 = .ok (.iconst 0, 1) := by decide +kernel
theorem d_M_at_20 : decode c_M_at 20 = .ok (.goto 4, 3) := by decide +kernel
theorem d_M_at_23 : decode c_M_at 23 = .ok (.iconst 1, 1) := by decide +kernel
theorem d_M_at_24 : decode c_M_at 24 = .ok (.putfield 69, 3) := by decide +kernel
theorem d_M_at_27 : decode c_M_at 27 = .ok (.aload_n 0, 1) := by decide +kernel
theorem d_M_at_28 : decode c_M_at 28 = .ok (.getfield 69, 3) := by decide +kernel
theorem d_M_at_31 : decode c_M_at 31 = .ok (.ifCond .ne 17, 3) := by decide +kernel
theorem d_M_at_34 : decode c_M_at 34 = .ok (.aload_n 0, 1) := by decide +kernel
theorem d_M_at_35 : decode c_M_at 35 = .ok (.getfield 32, 3) := by decide +kernel
theorem d_M_at_38 : decode c_M_at 38 = .ok (.bipush 6, 2) := by decide +kernel
theorem d_M_at_40 : decode c_M_at 40 = .ok (.iload_n 1, 1) := by decide +kernel
theorem d_M_at_41 : decode c_M_at 41 = .ok (.imul, 1) := by decide +kernel
theorem d_M_at_42 : decode c_M_at 42 = .ok (.iload_n 2, 1) := by decide +kernel
theorem d_M_at_43 : decode c_M_at 43 = .ok (.iadd, 1) := by decide +kernel
theorem d_M_at_44 : decode c_M_at 44 = .ok (.laload, 1) := by decide +kernel
theorem d_M_at_45 : decode c_M_at 45 = .ok (.goto 4, 3) := by decide +kernel
theorem d_M_at_48 : decode c_M_at 48 = .ok (.lconst 0, 1) := by decide +kernel
theorem d_M_at_49 : decode c_M_at 49 = .ok (.lreturn, 1) := by decide +kernel
theorem d_M_tab_0 : decode c_M_tab 0 = .ok (.aload_n 0, 1) := by decide +kernel
theorem d_M_tab_1 : decode c_M_tab 1 = .ok (.iload_n 1, 1) := by decide +kernel
theorem d_M_tab_2 : decode c_M_tab 2 = .ok (.invokevirtual 152, 3) := by decide +kernel
theorem d_M_tab_5 : decode c_M_tab 5 = .ok (.ifCond .eq 25, 3) := by decide +kernel
theorem d_M_tab_8 : decode c_M_tab 8 = .ok (.iload_n 2, 1) := by decide +kernel
theorem d_M_tab_9 : decode c_M_tab 9 = .ok (.ifCond .lt 21, 3) := by decide +kernel
theorem d_M_tab_12 : decode c_M_tab 12 = .ok (.iload_n 2, 1) := by decide +kernel
theorem d_M_tab_13 : decode c_M_tab 13 = .ok (.iconst 4, 1) := by decide +kernel
theorem d_M_tab_14 : decode c_M_tab 14 = .ok (.if_icmp .ge 16, 3) := by decide +kernel
theorem d_M_tab_17 : decode c_M_tab 17 = .ok (.iload_n 3, 1) := by decide +kernel
theorem d_M_tab_18 : decode c_M_tab 18 = .ok (.ifCond .eq 8, 3) := by decide +kernel
theorem d_M_tab_21 : decode c_M_tab 21 = .ok (.iload_n 3, 1) := by decide +kernel
theorem d_M_tab_22 : decode c_M_tab 22 = .ok (.iconst 1, 1) := by decide +kernel
theorem d_M_tab_23 : decode c_M_tab 23 = .ok (.if_icmp .ne 7, 3) := by decide +kernel
theorem d_M_tab_26 : decode c_M_tab 26 = .ok (.iconst 1, 1) := by decide +kernel
theorem d_M_tab_27 : decode c_M_tab 27 = .ok (.goto 4, 3) := by decide +kernel
theorem d_M_tab_30 : decode c_M_tab 30 = .ok (.iconst 0, 1) := by decide +kernel
theorem d_M_tab_31 : decode c_M_tab 31 = .ok (.istore 4, 2) := by decide +kernel
theorem d_M_tab_33 : decode c_M_tab 33 = .ok (.aload_n 0, 1) := by decide +kernel
theorem d_M_tab_34 : decode c_M_tab 34 = .ok (.iload 4, 2) := by decide +kernel
theorem d_M_tab_36 : decode c_M_tab 36 = .ok (.ifCond .eq 7, 3) := by decide +kernel
theorem d_M_tab_39 : decode c_M_tab 39 = .ok (.iconst 0, 1) := by decide +kernel
theorem d_M_tab_40 : decode c_M_tab 40 = .ok (.goto 4, 3) := by decide +kernel
theorem d_M_tab_43 : decode c_M_tab 43 = .ok (.iconst 1, 1) := by decide +kernel
theorem d_M_tab_44 : decode c_M_tab 44 = .ok (.putfield 69, 3) := by decide +kernel
theorem d_M_tab_47 : decode c_M_tab 47 = .ok (.aload_n 0, 1) := by decide +kernel
theorem d_M_tab_48 : decode c_M_tab 48 = .ok (.getfield 69, 3) := by decide +kernel
theorem d_M_tab_51 : decode c_M_tab 51 = .ok (.ifCond .eq 5, 3) := by decide +kernel
theorem d_M_tab_54 : decode c_M_tab 54 = .ok (.lconst 0, 1) := by decide +kernel
theorem d_M_tab_55 : decode c_M_tab 55 = .ok (.lreturn, 1) := by decide +kernel
theorem d_M_tab_56 : decode c_M_tab 56 = .ok (.bipush 6, 2) := by decide +kernel
theorem d_M_tab_58 : decode c_M_tab 58 = .ok (.iload_n 1, 1) := by decide +kernel
theorem d_M_tab_59 : decode c_M_tab 59 = .ok (.imul, 1) := by decide +kernel
theorem d_M_tab_60 : decode c_M_tab 60 = .ok (.istore 5, 2) := by decide +kernel
theorem d_M_tab_62 : decode c_M_tab 62 = .ok (.aload_n 0, 1) := by decide +kernel
theorem d_M_tab_63 : decode c_M_tab 63 = .ok (.getfield 32, 3) := by decide +kernel
theorem d_M_tab_66 : decode c_M_tab 66 = .ok (.iload 5, 2) := by decide +kernel
theorem d_M_tab_68 : decode c_M_tab 68 = .ok (.iconst 1, 1) := by decide +kernel
theorem d_M_tab_69 : decode c_M_tab 69 = .ok (.iadd, 1) := by decide +kernel
theorem d_M_tab_70 : decode c_M_tab 70 = .ok (.laload, 1) := by decide +kernel
theorem d_M_tab_71 : decode c_M_tab 71 = .ok (.iload_n 2, 1) := by decide +kernel
theorem d_M_tab_72 : decode c_M_tab 72 = .ok (.ifCond .ne 7, 3) := by decide +kernel
theorem d_M_tab_75 : decode c_M_tab 75 = .ok (.lconst 0, 1) := by decide +kernel
theorem d_M_tab_76 : decode c_M_tab 76 = .ok (.goto 33, 3) := by decide +kernel
theorem d_M_tab_79 : decode c_M_tab 79 = .ok (.iload_n 2, 1) := by decide +kernel
theorem d_M_tab_80 : decode c_M_tab 80 = .ok (.iconst 2, 1) := by decide +kernel
theorem d_M_tab_81 : decode c_M_tab 81 = .ok (.if_icmp .ne 15, 3) := by decide +kernel
theorem d_M_tab_84 : decode c_M_tab 84 = .ok (.aload_n 0, 1) := by decide +kernel
theorem d_M_tab_85 : decode c_M_tab 85 = .ok (.getfield 32, 3) := by decide +kernel
theorem d_M_tab_88 : decode c_M_tab 88 = .ok (.iload 5, 2) := by decide +kernel
theorem d_M_tab_90 : decode c_M_tab 90 = .ok (.iconst 4, 1) := by decide +kernel
theorem d_M_tab_91 : decode c_M_tab 91 = .ok (.iadd, 1) := by decide +kernel
theorem d_M_tab_92 : decode c_M_tab 92 = .ok (.laload, 1) := by decide +kernel
theorem d_M_tab_93 : decode c_M_tab 93 = .ok (.goto 16, 3) := by decide +kernel
theorem d_M_tab_96 : decode c_M_tab 96 = .ok (.aload_n 0, 1) := by decide +kernel
theorem d_M_tab_97 : decode c_M_tab 97 = .ok (.getfield 32, 3) := by decide +kernel
theorem d_M_tab_100 : decode c_M_tab 100 = .ok (.iload 5, 2) := by decide +kernel
theorem d_M_tab_102 : decode c_M_tab 102 = .ok (.iconst 4, 1) := by decide +kernel
theorem d_M_tab_103 : decode c_M_tab 103 = .ok (.iadd, 1) := by decide +kernel
theorem d_M_tab_104 : decode c_M_tab 104 = .ok (.laload, 1) := by decide +kernel
theorem d_M_tab_105 : decode c_M_tab 105 = .ok (.ldc2_w 155, 3) := by decide +kernel
theorem d_M_tab_108 : decode c_M_tab 108 = .ok (.ldiv, 1) := by decide +kernel
theorem d_M_tab_109 : decode c_M_tab 109 = .ok (.ladd, 1) := by decide +kernel
theorem d_M_tab_110 : decode c_M_tab 110 = .ok (.lstore 6, 2) := by decide +kernel
theorem d_M_tab_112 : decode c_M_tab 112 = .ok (.aload_n 0, 1) := by decide +kernel
theorem d_M_tab_113 : decode c_M_tab 113 = .ok (.getfield 32, 3) := by decide +kernel
theorem d_M_tab_116 : decode c_M_tab 116 = .ok (.iload 5, 2) := by decide +kernel
theorem d_M_tab_118 : decode c_M_tab 118 = .ok (.iconst 2, 1) := by decide +kernel
theorem d_M_tab_119 : decode c_M_tab 119 = .ok (.iadd, 1) := by decide +kernel
theorem d_M_tab_120 : decode c_M_tab 120 = .ok (.laload, 1) := by decide +kernel
theorem d_M_tab_121 : decode c_M_tab 121 = .ok (.iload_n 2, 1) := by decide +kernel
theorem d_M_tab_122 : decode c_M_tab 122 = .ok (.iconst 1, 1) := by decide +kernel
theorem d_M_tab_123 : decode c_M_tab 123 = .ok (.if_icmp .ne 7, 3) := by decide +kernel
theorem d_M_tab_126 : decode c_M_tab 126 = .ok (.lconst 0, 1) := by decide +kernel
theorem d_M_tab_127 : decode c_M_tab 127 = .ok (.goto 33, 3) := by decide +kernel
theorem d_M_tab_130 : decode c_M_tab 130 = .ok (.iload_n 2, 1) := by decide +kernel
theorem d_M_tab_131 : decode c_M_tab 131 = .ok (.iconst 3, 1) := by decide +kernel
theorem d_M_tab_132 : decode c_M_tab 132 = .ok (.if_icmp .ne 15, 3) := by decide +kernel
theorem d_M_tab_135 : decode c_M_tab 135 = .ok (.aload_n 0, 1) := by decide +kernel
theorem d_M_tab_136 : decode c_M_tab 136 = .ok (.getfield 32, 3) := by decide +kernel
theorem d_M_tab_139 : decode c_M_tab 139 = .ok (.iload 5, 2) := by decide +kernel
theorem d_M_tab_141 : decode c_M_tab 141 = .ok (.iconst 5, 1) := by decide +kernel
theorem d_M_tab_142 : decode c_M_tab 142 = .ok (.iadd, 1) := by decide +kernel
theorem d_M_tab_143 : decode c_M_tab 143 = .ok (.laload, 1) := by decide +kernel
theorem d_M_tab_144 : decode c_M_tab 144 = .ok (.goto 16, 3) := by decide +kernel
theorem d_M_tab_147 : decode c_M_tab 147 = .ok (.aload_n 0, 1) := by decide +kernel
theorem d_M_tab_148 : decode c_M_tab 148 = .ok (.getfield 32, 3) := by decide +kernel
theorem d_M_tab_151 : decode c_M_tab 151 = .ok (.iload 5, 2) := by decide +kernel
theorem d_M_tab_153 : decode c_M_tab 153 = .ok (.iconst 5, 1) := by decide +kernel
theorem d_M_tab_154 : decode c_M_tab 154 = .ok (.iadd, 1) := by decide +kernel
theorem d_M_tab_155 : decode c_M_tab 155 = .ok (.laload, 1) := by decide +kernel
theorem d_M_tab_156 : decode c_M_tab 156 = .ok (.ldc2_w 155, 3) := by decide +kernel
theorem d_M_tab_159 : decode c_M_tab 159 = .ok (.ldiv, 1) := by decide +kernel
theorem d_M_tab_160 : decode c_M_tab 160 = .ok (.ladd, 1) := by decide +kernel
theorem d_M_tab_161 : decode c_M_tab 161 = .ok (.lstore 8, 2) := by decide +kernel
theorem d_M_tab_163 : decode c_M_tab 163 = .ok (.aload_n 0, 1) := by decide +kernel
theorem d_M_tab_164 : decode c_M_tab 164 = .ok (.getfield 32, 3) := by decide +kernel
theorem d_M_tab_167 : decode c_M_tab 167 = .ok (.iload 5, 2) := by decide +kernel
theorem d_M_tab_169 : decode c_M_tab 169 = .ok (.laload, 1) := by decide +kernel
theorem d_M_tab_170 : decode c_M_tab 170 = .ok (.l2i, 1) := by decide +kernel
theorem d_M_tab_171 : decode c_M_tab 171 = .ok (.istore 10, 2) := by decide +kernel
theorem d_M_tab_173 : decode c_M_tab 173 = .ok (.aload_n 0, 1) := by decide +kernel
theorem d_M_tab_174 : decode c_M_tab 174 = .ok (.iload 10, 2) := by decide +kernel
theorem d_M_tab_176 : decode c_M_tab 176 = .ok (.invokevirtual 134, 3) := by decide +kernel
theorem d_M_tab_179 : decode c_M_tab 179 = .ok (.bipush 30, 2) := by decide +kernel
theorem d_M_tab_181 : decode c_M_tab 181 = .ok (.iload 10, 2) := by decide +kernel
theorem d_M_tab_183 : decode c_M_tab 183 = .ok (.imul, 1) := by decide +kernel
theorem d_M_tab_184 : decode c_M_tab 184 = .ok (.istore 11, 2) := by decide +kernel
theorem d_M_tab_186 : decode c_M_tab 186 = .ok (.iload 11, 2) := by decide +kernel
theorem d_M_tab_188 : decode c_M_tab 188 = .ok (.bipush 30, 2) := by decide +kernel
theorem d_M_tab_190 : decode c_M_tab 190 = .ok (.iload 10, 2) := by decide +kernel
theorem d_M_tab_192 : decode c_M_tab 192 = .ok (.imul, 1) := by decide +kernel
theorem d_M_tab_193 : decode c_M_tab 193 = .ok (.iconst 3, 1) := by decide +kernel
theorem d_M_tab_194 : decode c_M_tab 194 = .ok (.aload_n 0, 1) := by decide +kernel
theorem d_M_tab_195 : decode c_M_tab 195 = .ok (.getfield 23, 3) := by decide +kernel
theorem d_M_tab_198 : decode c_M_tab 198 = .ok (.iload 10, 2) := by decide +kernel
theorem d_M_tab_200 : decode c_M_tab 200 = .ok (.iaload, 1) := by decide +kernel
theorem d_M_tab_201 : decode c_M_tab 201 = .ok (.imul, 1) := by decide +kernel
theorem d_M_tab_202 : decode c_M_tab 202 = .ok (.iadd, 1) := by decide +kernel
theorem d_M_tab_203 : decode c_M_tab 203 = .ok (.if_icmp .ge 170, 3) := by decide +kernel
theorem d_M_tab_206 : decode c_M_tab 206 = .ok (.aload_n 0, 1) := by decide +kernel
theorem d_M_tab_207 : decode c_M_tab 207 = .ok (.getfield 26, 3) := by decide +kernel
theorem d_M_tab_210 : decode c_M_tab 210 = .ok (.iload 11, 2) := by decide +kernel
theorem d_M_tab_212 : decode c_M_tab 212 = .ok (.laload, 1) := by decide +kernel
theorem d_M_tab_213 : decode c_M_tab 213 = .ok (.aload_n 0, 1) := by decide +kernel
theorem d_M_tab_214 : decode c_M_tab 214 = .ok (.getfield 39, 3) := by decide +kernel
theorem d_M_tab_217 : decode c_M_tab 217 = .ok (.iload 10, 2) := by decide +kernel
theorem d_M_tab_219 : decode c_M_tab 219 = .ok (.laload, 1) := by decide +kernel
theorem d_M_tab_220 : decode c_M_tab 220 = .ok (.lsub, 1) := by decide +kernel
theorem d_M_tab_221 : decode c_M_tab 221 = .ok (.lstore 12, 2) := by decide +kernel
theorem d_M_tab_223 : decode c_M_tab 223 = .ok (.aload_n 0, 1) := by decide +kernel
theorem d_M_tab_224 : decode c_M_tab 224 = .ok (.getfield 26, 3) := by decide +kernel
theorem d_M_tab_227 : decode c_M_tab 227 = .ok (.iload 11, 2) := by decide +kernel
theorem d_M_tab_229 : decode c_M_tab 229 = .ok (.iconst 1, 1) := by decide +kernel
theorem d_M_tab_230 : decode c_M_tab 230 = .ok (.iadd, 1) := by decide +kernel
theorem d_M_tab_231 : decode c_M_tab 231 = .ok (.laload, 1) := by decide +kernel
theorem d_M_tab_232 : decode c_M_tab 232 = .ok (.aload_n 0, 1) := by decide +kernel
theorem d_M_tab_233 : decode c_M_tab 233 = .ok (.getfield 42, 3) := by decide +kernel
theorem d_M_tab_236 : decode c_M_tab 236 = .ok (.iload 10, 2) := by decide +kernel
theorem d_M_tab_238 : decode c_M_tab 238 = .ok (.laload, 1) := by decide +kernel
theorem d_M_tab_239 : decode c_M_tab 239 = .ok (.lsub, 1) := by decide +kernel
theorem d_M_tab_240 : decode c_M_tab 240 = .ok (.lstore 14, 2) := by decide +kernel
theorem d_M_tab_242 : decode c_M_tab 242 = .ok (.aload_n 0, 1) := by decide +kernel
theorem d_M_tab_243 : decode c_M_tab 243 = .ok (.getfield 32, 3) := by decide +kernel
theorem d_M_tab_246 : decode c_M_tab 246 = .ok (.iload 5, 2) := by decide +kernel
theorem d_M_tab_248 : decode c_M_tab 248 = .ok (.iconst 1, 1) := by decide +kernel
theorem d_M_tab_249 : decode c_M_tab 249 = .ok (.iadd, 1) := by decide +kernel
theorem d_M_tab_250 : decode c_M_tab 250 = .ok (.laload, 1) := by decide +kernel
theorem d_M_tab_251 : decode c_M_tab 251 = .ok (.aload_n 0, 1) := by decide +kernel
theorem d_M_tab_252 : decode c_M_tab 252 = .ok (.getfield 32, 3) := by decide +kernel
theorem d_M_tab_255 : decode c_M_tab 255 = .ok (.iload 5, 2) := by decide +kernel
theorem d_M_tab_257 : decode c_M_tab 257 = .ok (.iconst 3, 1) := by decide +kernel
theorem d_M_tab_258 : decode c_M_tab 258 = .ok (.iadd, 1) := by decide +kernel
theorem d_M_tab_259 : decode c_M_tab 259 = .ok (.laload, 1) := by decide +kernel
theorem d_M_tab_260 : decode c_M_tab 260 = .ok (.lconst 0, 1) := by decide +kernel
theorem d_M_tab_261 : decode c_M_tab 261 = .ok (.lcmp, 1) := by decide +kernel
theorem d_M_tab_262 : decode c_M_tab 262 = .ok (.ifCond .ne 8, 3) := by decide +kernel
theorem d_M_tab_265 : decode c_M_tab 265 = .ok (.lload 12, 2) := by decide +kernel
theorem d_M_tab_267 : decode c_M_tab 267 = .ok (.goto 13, 3) := by decide +kernel
theorem d_M_tab_270 : decode c_M_tab 270 = .ok (.aload_n 0, 1) := by decide +kernel
theorem d_M_tab_271 : decode c_M_tab 271 = .ok (.getfield 48, 3) := by decide +kernel
theorem d_M_tab_274 : decode c_M_tab 274 = .ok (.iload 10, 2) := by decide +kernel
theorem d_M_tab_276 : decode c_M_tab 276 = .ok (.laload, 1) := by decide +kernel
theorem d_M_tab_277 : decode c_M_tab 277 = .ok (.lload 14, 2) := by decide +kernel
theorem d_M_tab_279 : decode c_M_tab 279 = .ok (.lsub, 1) := by decide +kernel
theorem d_M_tab_280 : decode c_M_tab 280 = .ok (.ladd, 1) := by decide +kernel
theorem d_M_tab_281 : decode c_M_tab 281 = .ok (.lstore 16, 2) := by decide +kernel
theorem d_M_tab_283 : decode c_M_tab 283 = .ok (.aload_n 0, 1) := by decide +kernel
theorem d_M_tab_284 : decode c_M_tab 284 = .ok (.getfield 32, 3) := by decide +kernel
theorem d_M_tab_287 : decode c_M_tab 287 = .ok (.iload 5, 2) := by decide +kernel
theorem d_M_tab_289 : decode c_M_tab 289 = .ok (.iconst 2, 1) := by decide +kernel
theorem d_M_tab_290 : decode c_M_tab 290 = .ok (.iadd, 1) := by decide +kernel
theorem d_M_tab_291 : decode c_M_tab 291 = .ok (.laload, 1) := by decide +kernel
theorem d_M_tab_292 : decode c_M_tab 292 = .ok (.aload_n 0, 1) := by decide +kernel
theorem d_M_tab_293 : decode c_M_tab 293 = .ok (.getfield 32, 3) := by decide +kernel
theorem d_M_tab_296 : decode c_M_tab 296 = .ok (.iload 5, 2) := by decide +kernel
theorem d_M_tab_298 : decode c_M_tab 298 = .ok (.iconst 3, 1) := by decide +kernel
theorem d_M_tab_299 : decode c_M_tab 299 = .ok (.iadd, 1) := by decide +kernel
theorem d_M_tab_300 : decode c_M_tab 300 = .ok (.laload, 1) := by decide +kernel
theorem d_M_tab_301 : decode c_M_tab 301 = .ok (.lconst 0, 1) := by decide +kernel
theorem d_M_tab_302 : decode c_M_tab 302 = .ok (.lcmp, 1) := by decide +kernel
theorem d_M_tab_303 : decode c_M_tab 303 = .ok (.ifCond .ne 8, 3) := by decide +kernel
theorem d_M_tab_306 : decode c_M_tab 306 = .ok (.lload 14, 2) := by decide +kernel
theorem d_M_tab_308 : decode c_M_tab 308 = .ok (.goto 5, 3) := by decide +kernel
theorem d_M_tab_311 : decode c_M_tab 311 = .ok (.lload 12, 2) := by decide +kernel
theorem d_M_tab_313 : decode c_M_tab 313 = .ok (.ladd, 1) := by decide +kernel
theorem d_M_tab_314 : decode c_M_tab 314 = .ok (.lstore 18, 2) := by decide +kernel
theorem d_M_tab_316 : decode c_M_tab 316 = .ok (.lload 16, 2) := by decide +kernel
theorem d_M_tab_318 : decode c_M_tab 318 = .ok (.lload 6, 2) := by decide +kernel
theorem d_M_tab_320 : decode c_M_tab 320 = .ok (.lsub, 1) := by decide +kernel
theorem d_M_tab_321 : decode c_M_tab 321 = .ok (.lload 16, 2) := by decide +kernel
theorem d_M_tab_323 : decode c_M_tab 323 = .ok (.lload 6, 2) := by decide +kernel
theorem d_M_tab_325 : decode c_M_tab 325 = .ok (.lsub, 1) := by decide +kernel
theorem d_M_tab_326 : decode c_M_tab 326 = .ok (.lmul, 1) := by decide +kernel
theorem d_M_tab_327 : decode c_M_tab 327 = .ok (.lload 18, 2) := by decide +kernel
theorem d_M_tab_329 : decode c_M_tab 329 = .ok (.lload 8, 2) := by decide +kernel
theorem d_M_tab_331 : decode c_M_tab 331 = .ok (.lsub, 1) := by decide +kernel
theorem d_M_tab_332 : decode c_M_tab 332 = .ok (.lload 18, 2) := by decide +kernel
theorem d_M_tab_334 : decode c_M_tab 334 = .ok (.lload 8, 2) := by decide +kernel
theorem d_M_tab_336 : decode c_M_tab 336 = .ok (.lsub, 1) := by decide +kernel
theorem d_M_tab_337 : decode c_M_tab 337 = .ok (.lmul, 1) := by decide +kernel
theorem d_M_tab_338 : decode c_M_tab 338 = .ok (.ladd, 1) := by decide +kernel
theorem d_M_tab_339 : decode c_M_tab 339 = .ok (.aload_n 0, 1) := by decide +kernel
theorem d_M_tab_340 : decode c_M_tab 340 = .ok (.getfield 26, 3) := by decide +kernel
theorem d_M_tab_343 : decode c_M_tab 343 = .ok (.iload 11, 2) := by decide +kernel
theorem d_M_tab_345 : decode c_M_tab 345 = .ok (.iconst 2, 1) := by decide +kernel
theorem d_M_tab_346 : decode c_M_tab 346 = .ok (.iadd, 1) := by decide +kernel
theorem d_M_tab_347 : decode c_M_tab 347 = .ok (.laload, 1) := by decide +kernel
theorem d_M_tab_348 : decode c_M_tab 348 = .ok (.aload_n 0, 1) := by decide +kernel
theorem d_M_tab_349 : decode c_M_tab 349 = .ok (.getfield 26, 3) := by decide +kernel
theorem d_M_tab_352 : decode c_M_tab 352 = .ok (.iload 11, 2) := by decide +kernel
theorem d_M_tab_354 : decode c_M_tab 354 = .ok (.iconst 2, 1) := by decide +kernel
theorem d_M_tab_355 : decode c_M_tab 355 = .ok (.iadd, 1) := by decide +kernel
theorem d_M_tab_356 : decode c_M_tab 356 = .ok (.laload, 1) := by decide +kernel
theorem d_M_tab_357 : decode c_M_tab 357 = .ok (.lmul, 1) := by decide +kernel
theorem d_M_tab_358 : decode c_M_tab 358 = .ok (.lcmp, 1) := by decide +kernel
theorem d_M_tab_359 : decode c_M_tab 359 = .ok (.ifCond .ge 8, 3) := by decide +kernel
theorem d_M_tab_362 : decode c_M_tab 362 = .ok (.aload_n 0, 1) := by decide +kernel
theorem d_M_tab_363 : decode c_M_tab 363 = .ok (.iconst 2, 1) := by decide +kernel
theorem d_M_tab_364 : decode c_M_tab 364 = .ok (.putfield 69, 3) := by decide +kernel
theorem d_M_tab_367 : decode c_M_tab 367 = .ok (.iinc 11 3, 3) := by decide +kernel
theorem d_M_tab_370 : decode c_M_tab 370 = .ok (.goto (-184), 3) := by decide +kernel
theorem d_M_tab_373 : decode c_M_tab 373 = .ok (.aload_n 0, 1) := by decide +kernel
theorem d_M_tab_374 : decode c_M_tab 374 = .ok (.getfield 69, 3) := by decide +kernel
theorem d_M_tab_377 : decode c_M_tab 377 = .ok (.ifCond .eq 7, 3) := by decide +kernel
theorem d_M_tab_380 : decode c_M_tab 380 = .ok (.lconst 0, 1) := by decide +kernel
theorem d_M_tab_381 : decode c_M_tab 381 = .ok (.goto 14, 3) := by decide +kernel
theorem d_M_tab_384 : decode c_M_tab 384 = .ok (.iload_n 3, 1) := by decide +kernel
theorem d_M_tab_385 : decode c_M_tab 385 = .ok (.ifCond .ne 8, 3) := by decide +kernel
theorem d_M_tab_388 : decode c_M_tab 388 = .ok (.lload 6, 2) := by decide +kernel
theorem d_M_tab_390 : decode c_M_tab 390 = .ok (.goto 5, 3) := by decide +kernel
theorem d_M_tab_393 : decode c_M_tab 393 = .ok (.lload 8, 2) := by decide +kernel
theorem d_M_tab_395 : decode c_M_tab 395 = .ok (.lreturn, 1) := by decide +kernel
theorem d_M_nextScore_0 : decode c_M_nextScore 0 = .ok (.ldc2_w 157, 3) := by decide +kernel
theorem d_M_nextScore_3 : decode c_M_nextScore 3 = .ok (.lstore_n 3, 1) := by decide +kernel
theorem d_M_nextScore_4 : decode c_M_nextScore 4 = .ok (.iconst 0, 1) := by decide +kernel
theorem d_M_nextScore_5 : decode c_M_nextScore 5 = .ok (.istore 5, 2) := by decide +kernel
theorem d_M_nextScore_7 : decode c_M_nextScore 7 = .ok (.iload 5, 2) := by decide +kernel
theorem d_M_nextScore_9 : decode c_M_nextScore 9 = .ok (.bipush 6, 2) := by decide +kernel
theorem d_M_nextScore_11 : decode c_M_nextScore 11 = .ok (.aload_n 0, 1) := by decide +kernel
theorem d_M_nextScore_12 : decode c_M_nextScore 12 = .ok (.getfield 125, 3) := by decide +kernel
theorem d_M_nextScore_15 : decode c_M_nextScore 15 = .ok (.imul, 1) := by decide +kernel
theorem d_M_nextScore_16 : decode c_M_nextScore 16 = .ok (.if_icmp .ge 88, 3) := by decide +kernel
theorem d_M_nextScore_19 : decode c_M_nextScore 19 = .ok (.aload_n 0, 1) := by decide +kernel
theorem d_M_nextScore_20 : decode c_M_nextScore 20 = .ok (.getfield 32, 3) := by decide +kernel
theorem d_M_nextScore_23 : decode c_M_nextScore 23 = .ok (.iload 5, 2) := by decide +kernel
theorem d_M_nextScore_25 : decode c_M_nextScore 25 = .ok (.iconst 2, 1) := by decide +kernel
theorem d_M_nextScore_26 : decode c_M_nextScore 26 = .ok (.iadd, 1) := by decide +kernel
theorem d_M_nextScore_27 : decode c_M_nextScore 27 = .ok (.laload, 1) := by decide +kernel
theorem d_M_nextScore_28 : decode c_M_nextScore 28 = .ok (.lstore 6, 2) := by decide +kernel
theorem d_M_nextScore_30 : decode c_M_nextScore 30 = .ok (.lload 6, 2) := by decide +kernel
theorem d_M_nextScore_32 : decode c_M_nextScore 32 = .ok (.lload_n 1, 1) := by decide +kernel
theorem d_M_nextScore_33 : decode c_M_nextScore 33 = .ok (.lcmp, 1) := by decide +kernel
theorem d_M_nextScore_34 : decode c_M_nextScore 34 = .ok (.ifCond .le 21, 3) := by decide +kernel
theorem d_M_nextScore_37 : decode c_M_nextScore 37 = .ok (.lload_n 3, 1) := by decide +kernel
theorem d_M_nextScore_38 : decode c_M_nextScore 38 = .ok (.lconst 0, 1) := by decide +kernel
theorem d_M_nextScore_39 : decode c_M_nextScore 39 = .ok (.lcmp, 1) := by decide +kernel
theorem d_M_nextScore_40 : decode c_M_nextScore 40 = .ok (.ifCond .lt 10, 3) := by decide +kernel
theorem d_M_nextScore_43 : decode c_M_nextScore 43 = .ok (.lload 6, 2) := by decide +kernel
theorem d_M_nextScore_45 : decode c_M_nextScore 45 = .ok (.lload_n 3, 1) := by decide +kernel
theorem d_M_nextScore_46 : decode c_M_nextScore 46 = .ok (.lcmp, 1) := by decide +kernel
theorem d_M_nextScore_47 : decode c_M_nextScore 47 = .ok (.ifCond .ge 8, 3) := by decide +kernel
theorem d_M_nextScore_50 : decode c_M_nextScore 50 = .ok (.lload 6, 2) := by decide +kernel
theorem d_M_nextScore_52 : decode c_M_nextScore 52 = .ok (.goto 4, 3) := by decide +kernel
theorem d_M_nextScore_55 : decode c_M_nextScore 55 = .ok (.lload_n 3, 1) := by decide +kernel
theorem d_M_nextScore_56 : decode c_M_nextScore 56 = .ok (.lstore_n 3, 1) := by decide +kernel
theorem d_M_nextScore_57 : decode c_M_nextScore 57 = .ok (.lload 6, 2) := by decide +kernel
theorem d_M_nextScore_59 : decode c_M_nextScore 59 = .ok (.aload_n 0, 1) := by decide +kernel
theorem d_M_nextScore_60 : decode c_M_nextScore 60 = .ok (.getfield 32, 3) := by decide +kernel
theorem d_M_nextScore_63 : decode c_M_nextScore 63 = .ok (.iload 5, 2) := by decide +kernel
theorem d_M_nextScore_65 : decode c_M_nextScore 65 = .ok (.iconst 5, 1) := by decide +kernel
theorem d_M_nextScore_66 : decode c_M_nextScore 66 = .ok (.iadd, 1) := by decide +kernel
theorem d_M_nextScore_67 : decode c_M_nextScore 67 = .ok (.laload, 1) := by decide +kernel
theorem d_M_nextScore_68 : decode c_M_nextScore 68 = .ok (.ladd, 1) := by decide +kernel
theorem d_M_nextScore_69 : decode c_M_nextScore 69 = .ok (.lstore 6, 2) := by decide +kernel
theorem d_M_nextScore_71 : decode c_M_nextScore 71 = .ok (.lload 6, 2) := by decide +kernel
theorem d_M_nextScore_73 : decode c_M_nextScore 73 = .ok (.lload_n 1, 1) := by decide +kernel
theorem d_M_nextScore_74 : decode c_M_nextScore 74 = .ok (.lcmp, 1) := by decide +kernel
theorem d_M_nextScore_75 : decode c_M_nextScore 75 = .ok (.ifCond .le 21, 3) := by decide +kernel
theorem d_M_nextScore_78 : decode c_M_nextScore 78 = .ok (.lload_n 3, 1) := by decide +kernel
theorem d_M_nextScore_79 : decode c_M_nextScore 79 = .ok (.lconst 0, 1) := by decide +kernel
theorem d_M_nextScore_80 : decode c_M_nextScore 80 = .ok (.lcmp, 1) := by decide +kernel
theorem d_M_nextScore_81 : decode c_M_nextScore 81 = .ok (.ifCond .lt 10, 3) := by decide +kernel
theorem d_M_nextScore_84 : decode c_M_nextScore 84 = .ok (.lload 6, 2) := by decide +kernel
theorem d_M_nextScore_86 : decode c_M_nextScore 86 = .ok (.lload_n 3, 1) := by decide +kernel
theorem d_M_nextScore_87 : decode c_M_nextScore 87 = .ok (.lcmp, 1) := by decide +kernel
theorem d_M_nextScore_88 : decode c_M_nextScore 88 = .ok (.ifCond .ge 8, 3) := by decide +kernel
theorem d_M_nextScore_91 : decode c_M_nextScore 91 = .ok (.lload 6, 2) := by decide +kernel
theorem d_M_nextScore_93 : decode c_M_nextScore 93 = .ok (.goto 4, 3) := by decide +kernel
theorem d_M_nextScore_96 : decode c_M_nextScore 96 = .ok (.lload_n 3, 1) := by decide +kernel
theorem d_M_nextScore_97 : decode c_M_nextScore 97 = .ok (.lstore_n 3, 1) := by decide +kernel
theorem d_M_nextScore_98 : decode c_M_nextScore 98 = .ok (.iinc 5 6, 3) := by decide +kernel
theorem d_M_nextScore_101 : decode c_M_nextScore 101 = .ok (.goto (-94), 3) := by decide +kernel
theorem d_M_nextScore_104 : decode c_M_nextScore 104 = .ok (.lload_n 3, 1) := by decide +kernel
theorem d_M_nextScore_105 : decode c_M_nextScore 105 = .ok (.lreturn, 1) := by decide +kernel
theorem d_M_score_0 : decode c_M_score 0 = .ok (.ldc2_w 157, 3) := by decide +kernel
theorem d_M_score_3 : decode c_M_score 3 = .ok (.lstore_n 3, 1) := by decide +kernel
theorem d_M_score_4 : decode c_M_score 4 = .ok (.iload_n 1, 1) := by decide +kernel
theorem d_M_score_5 : decode c_M_score 5 = .ok (.ifCond .lt 7, 3) := by decide +kernel
theorem d_M_score_8 : decode c_M_score 8 = .ok (.iconst 1, 1) := by decide +kernel
theorem d_M_score_9 : decode c_M_score 9 = .ok (.goto 4, 3) := by decide +kernel
theorem d_M_score_12 : decode c_M_score 12 = .ok (.iconst 0, 1) := by decide +kernel
theorem d_M_score_13 : decode c_M_score 13 = .ok (.istore 5, 2) := by decide +kernel
theorem d_M_score_15 : decode c_M_score 15 = .ok (.iconst 0, 1) := by decide +kernel
theorem d_M_score_16 : decode c_M_score 16 = .ok (.istore 6, 2) := by decide +kernel
theorem d_M_score_18 : decode c_M_score 18 = .ok (.iload 6, 2) := by decide +kernel
theorem d_M_score_20 : decode c_M_score 20 = .ok (.iload_n 1, 1) := by decide +kernel
theorem d_M_score_21 : decode c_M_score 21 = .ok (.if_icmp .gt 33, 3) := by decide +kernel
theorem d_M_score_24 : decode c_M_score 24 = .ok (.iload 5, 2) := by decide +kernel
theorem d_M_score_26 : decode c_M_score 26 = .ok (.ifCond .eq 28, 3) := by decide +kernel
theorem d_M_score_29 : decode c_M_score 29 = .ok (.aload_n 0, 1) := by decide +kernel
theorem d_M_score_30 : decode c_M_score 30 = .ok (.lload_n 3, 1) := by decide +kernel
theorem d_M_score_31 : decode c_M_score 31 = .ok (.invokevirtual 159, 3) := by decide +kernel
theorem d_M_score_34 : decode c_M_score 34 = .ok (.lstore_n 3, 1) := by decide +kernel
theorem d_M_score_35 : decode c_M_score 35 = .ok (.lload_n 3, 1) := by decide +kernel
theorem d_M_score_36 : decode c_M_score 36 = .ok (.lconst 0, 1) := by decide +kernel
theorem d_M_score_37 : decode c_M_score 37 = .ok (.lcmp, 1) := by decide +kernel
theorem d_M_score_38 : decode c_M_score 38 = .ok (.ifCond .lt 7, 3) := by decide +kernel
theorem d_M_score_41 : decode c_M_score 41 = .ok (.iconst 1, 1) := by decide +kernel
theorem d_M_score_42 : decode c_M_score 42 = .ok (.goto 4, 3) := by decide +kernel
theorem d_M_score_45 : decode c_M_score 45 = .ok (.iconst 0, 1) := by decide +kernel
theorem d_M_score_46 : decode c_M_score 46 = .ok (.istore 5, 2) := by decide +kernel
theorem d_M_score_48 : decode c_M_score 48 = .ok (.iinc 6 1, 3) := by decide +kernel
theorem d_M_score_51 : decode c_M_score 51 = .ok (.goto (-33), 3) := by decide +kernel
theorem d_M_score_54 : decode c_M_score 54 = .ok (.aload_n 0, 1) := by decide +kernel
theorem d_M_score_55 : decode c_M_score 55 = .ok (.iload 5, 2) := by decide +kernel
theorem d_M_score_57 : decode c_M_score 57 = .ok (.ifCond .eq 16, 3) := by decide +kernel
theorem d_M_score_60 : decode c_M_score 60 = .ok (.iload_n 2, 1) := by decide +kernel
theorem d_M_score_61 : decode c_M_score 61 = .ok (.ifCond .eq 8, 3) := by decide +kernel
theorem d_M_score_64 : decode c_M_score 64 = .ok (.iload_n 2, 1) := by decide +kernel
theorem d_M_score_65 : decode c_M_score 65 = .ok (.iconst 1, 1) := by decide +kernel
theorem d_M_score_66 : decode c_M_score 66 = .ok (.if_icmp .ne 7, 3) := by decide +kernel
theorem d_M_score_69 : decode c_M_score 69 = .ok (.iconst 0, 1) := by decide +kernel
theorem d_M_score_70 : decode c_M_score 70 = .ok (.goto 4, 3) := by decide +kernel
theorem d_M_score_73 : decode c_M_score 73 = .ok (.iconst 1, 1) := by decide +kernel
theorem d_M_score_74 : decode c_M_score 74 = .ok (.putfield 69, 3) := by decide +kernel
theorem d_M_score_77 : decode c_M_score 77 = .ok (.aload_n 0, 1) := by decide +kernel
theorem d_M_score_78 : decode c_M_score 78 = .ok (.getfield 69, 3) := by decide +kernel
theorem d_M_score_81 : decode c_M_score 81 = .ok (.ifCond .eq 5, 3) := by decide +kernel
theorem d_M_score_84 : decode c_M_score 84 = .ok (.lconst 0, 1) := by decide +kernel
theorem d_M_score_85 : decode c_M_score 85 = .ok (.lreturn, 1) := by decide +kernel
theorem d_M_score_86 : decode c_M_score 86 = .ok (.lconst 0, 1) := by decide +kernel
theorem d_M_score_87 : decode c_M_score 87 = .ok (.lstore 6, 2) := by decide +kernel
theorem d_M_score_89 : decode c_M_score 89 = .ok (.iconst 0, 1) := by decide +kernel
theorem d_M_score_90 : decode c_M_score 90 = .ok (.istore 8, 2) := by decide +kernel
theorem d_M_score_92 : decode c_M_score 92 = .ok (.iload 8, 2) := by decide +kernel
theorem d_M_score_94 : decode c_M_score 94 = .ok (.bipush 6, 2) := by decide +kernel
theorem d_M_score_96 : decode c_M_score 96 = .ok (.aload_n 0, 1) := by decide +kernel
theorem d_M_score_97 : decode c_M_score 97 = .ok (.getfield 125, 3) := by decide +kernel
theorem d_M_score_100 : decode c_M_score 100 = .ok (.imul, 1) := by decide +kernel
theorem d_M_score_101 : decode c_M_score 101 = .ok (.if_icmp .ge 63, 3) := by decide +kernel
theorem d_M_score_104 : decode c_M_score 104 = .ok (.lload 6, 2) := by decide +kernel
theorem d_M_score_106 : decode c_M_score 106 = .ok (.aload_n 0, 1) := by decide +kernel
theorem d_M_score_107 : decode c_M_score 107 = .ok (.getfield 32, 3) := by decide +kernel
theorem d_M_score_110 : decode c_M_score 110 = .ok (.iload 8, 2) := by decide +kernel
theorem d_M_score_112 : decode c_M_score 112 = .ok (.iconst 2, 1) := by decide +kernel
theorem d_M_score_113 : decode c_M_score 113 = .ok (.iadd, 1) := by decide +kernel
theorem d_M_score_114 : decode c_M_score 114 = .ok (.laload, 1) := by decide +kernel
theorem d_M_score_115 : decode c_M_score 115 = .ok (.lload_n 3, 1) := by decide +kernel
theorem d_M_score_116 : decode c_M_score 116 = .ok (.lcmp, 1) := by decide +kernel
theorem d_M_score_117 : decode c_M_score 117 = .ok (.ifCond .ne 7, 3) := by decide +kernel
theorem d_M_score_120 : decode c_M_score 120 = .ok (.lconst 1, 1) := by decide +kernel
theorem d_M_score_121 : decode c_M_score 121 = .ok (.goto 4, 3) := by decide +kernel
theorem d_M_score_124 : decode c_M_score 124 = .ok (.lconst 0, 1) := by decide +kernel
theorem d_M_score_125 : decode c_M_score 125 = .ok (.aload_n 0, 1) := by decide +kernel
theorem d_M_score_126 : decode c_M_score 126 = .ok (.getfield 32, 3) := by decide +kernel
theorem d_M_score_129 : decode c_M_score 129 = .ok (.iload 8, 2) := by decide +kernel
theorem d_M_score_131 : decode c_M_score 131 = .ok (.iconst 2, 1) := by decide +kernel
theorem d_M_score_132 : decode c_M_score 132 = .ok (.iadd, 1) := by decide +kernel
theorem d_M_score_133 : decode c_M_score 133 = .ok (.laload, 1) := by decide +kernel
theorem d_M_score_134 : decode c_M_score 134 = .ok (.aload_n 0, 1) := by decide +kernel
theorem d_M_score_135 : decode c_M_score 135 = .ok (.getfield 32, 3) := by decide +kernel
theorem d_M_score_138 : decode c_M_score 138 = .ok (.iload 8, 2) := by decide +kernel
theorem d_M_score_140 : decode c_M_score 140 = .ok (.iconst 5, 1) := by decide +kernel
theorem d_M_score_141 : decode c_M_score 141 = .ok (.iadd, 1) := by decide +kernel
theorem d_M_score_142 : decode c_M_score 142 = .ok (.laload, 1) := by decide +kernel
theorem d_M_score_143 : decode c_M_score 143 = .ok (.ladd, 1) := by decide +kernel
theorem d_M_score_144 : decode c_M_score 144 = .ok (.lload_n 3, 1) := by decide +kernel
theorem d_M_score_145 : decode c_M_score 145 = .ok (.lcmp, 1) := by decide +kernel
theorem d_M_score_146 : decode c_M_score 146 = .ok (.ifCond .ne 7, 3) := by decide +kernel
theorem d_M_score_149 : decode c_M_score 149 = .ok (.lconst 1, 1) := by decide +kernel
theorem d_M_score_150 : decode c_M_score 150 = .ok (.goto 4, 3) := by decide +kernel
theorem d_M_score_153 : decode c_M_score 153 = .ok (.lconst 0, 1) := by decide +kernel
theorem d_M_score_154 : decode c_M_score 154 = .ok (.ladd, 1) := by decide +kernel
theorem d_M_score_155 : decode c_M_score 155 = .ok (.ladd, 1) := by decide +kernel
theorem d_M_score_156 : decode c_M_score 156 = .ok (.lstore 6, 2) := by decide +kernel
theorem d_M_score_158 : decode c_M_score 158 = .ok (.iinc 8 6, 3) := by decide +kernel
theorem d_M_score_161 : decode c_M_score 161 = .ok (.goto (-69), 3) := by decide +kernel
theorem d_M_score_164 : decode c_M_score 164 = .ok (.iload_n 2, 1) := by decide +kernel
theorem d_M_score_165 : decode c_M_score 165 = .ok (.ifCond .ne 7, 3) := by decide +kernel
theorem d_M_score_168 : decode c_M_score 168 = .ok (.lload_n 3, 1) := by decide +kernel
theorem d_M_score_169 : decode c_M_score 169 = .ok (.goto 5, 3) := by decide +kernel
theorem d_M_score_172 : decode c_M_score 172 = .ok (.lload 6, 2) := by decide +kernel
theorem d_M_score_174 : decode c_M_score 174 = .ok (.lreturn, 1) := by decide +kernel
theorem d_M_areaOf_0 : decode c_M_areaOf 0 = .ok (.lconst 0, 1) := by decide +kernel
theorem d_M_areaOf_1 : decode c_M_areaOf 1 = .ok (.lstore_n 2, 1) := by decide +kernel
theorem d_M_areaOf_2 : decode c_M_areaOf 2 = .ok (.bipush 12, 2) := by decide +kernel
theorem d_M_areaOf_4 : decode c_M_areaOf 4 = .ok (.iload_n 1, 1) := by decide +kernel
theorem d_M_areaOf_5 : decode c_M_areaOf 5 = .ok (.imul, 1) := by decide +kernel
theorem d_M_areaOf_6 : decode c_M_areaOf 6 = .ok (.istore 4, 2) := by decide +kernel
theorem d_M_areaOf_8 : decode c_M_areaOf 8 = .ok (.aload_n 0, 1) := by decide +kernel
theorem d_M_areaOf_9 : decode c_M_areaOf 9 = .ok (.getfield 7, 3) := by decide +kernel
theorem d_M_areaOf_12 : decode c_M_areaOf 12 = .ok (.iload_n 1, 1) := by decide +kernel
theorem d_M_areaOf_13 : decode c_M_areaOf 13 = .ok (.iaload, 1) := by decide +kernel
theorem d_M_areaOf_14 : decode c_M_areaOf 14 = .ok (.istore 5, 2) := by decide +kernel
theorem d_M_areaOf_16 : decode c_M_areaOf 16 = .ok (.iconst 0, 1) := by decide +kernel
theorem d_M_areaOf_17 : decode c_M_areaOf 17 = .ok (.istore 6, 2) := by decide +kernel
theorem d_M_areaOf_19 : decode c_M_areaOf 19 = .ok (.iload 6, 2) := by decide +kernel
theorem d_M_areaOf_21 : decode c_M_areaOf 21 = .ok (.iload 5, 2) := by decide +kernel
theorem d_M_areaOf_23 : decode c_M_areaOf 23 = .ok (.if_icmp .ge 74, 3) := by decide +kernel
theorem d_M_areaOf_26 : decode c_M_areaOf 26 = .ok (.iload 6, 2) := by decide +kernel
theorem d_M_areaOf_28 : decode c_M_areaOf 28 = .ok (.iconst 1, 1) := by decide +kernel
theorem d_M_areaOf_29 : decode c_M_areaOf 29 = .ok (.iadd, 1) := by decide +kernel
theorem d_M_areaOf_30 : decode c_M_areaOf 30 = .ok (.iload 5, 2) := by decide +kernel
theorem d_M_areaOf_32 : decode c_M_areaOf 32 = .ok (.if_icmp .ge 10, 3) := by decide +kernel
theorem d_M_areaOf_35 : decode c_M_areaOf 35 = .ok (.iload 6, 2) := by decide +kernel
theorem d_M_areaOf_37 : decode c_M_areaOf 37 = .ok (.iconst 1, 1) := by decide +kernel
theorem d_M_areaOf_38 : decode c_M_areaOf 38 = .ok (.iadd, 1) := by decide +kernel
theorem d_M_areaOf_39 : decode c_M_areaOf 39 = .ok (.goto 4, 3) := by decide +kernel
theorem d_M_areaOf_42 : decode c_M_areaOf 42 = .ok (.iconst 0, 1) := by decide +kernel
theorem d_M_areaOf_43 : decode c_M_areaOf 43 = .ok (.istore 7, 2) := by decide +kernel
theorem d_M_areaOf_45 : decode c_M_areaOf 45 = .ok (.lload_n 2, 1) := by decide +kernel
theorem d_M_areaOf_46 : decode c_M_areaOf 46 = .ok (.aload_n 0, 1) := by decide +kernel
theorem d_M_areaOf_47 : decode c_M_areaOf 47 = .ok (.getfield 13, 3) := by decide +kernel
theorem d_M_areaOf_50 : decode c_M_areaOf 50 = .ok (.iload 4, 2) := by decide +kernel
theorem d_M_areaOf_52 : decode c_M_areaOf 52 = .ok (.iload 6, 2) := by decide +kernel
theorem d_M_areaOf_54 : decode c_M_areaOf 54 = .ok (.iadd, 1) := by decide +kernel
theorem d_M_areaOf_55 : decode c_M_areaOf 55 = .ok (.laload, 1) := by decide +kernel
theorem d_M_areaOf_56 : decode c_M_areaOf 56 = .ok (.aload_n 0, 1) := by decide +kernel
theorem d_M_areaOf_57 : decode c_M_areaOf 57 = .ok (.getfield 17, 3) := by decide +kernel
theorem d_M_areaOf_60 : decode c_M_areaOf 60 = .ok (.iload 4, 2) := by decide +kernel
theorem d_M_areaOf_62 : decode c_M_areaOf 62 = .ok (.iload 7, 2) := by decide +kernel
theorem d_M_areaOf_64 : decode c_M_areaOf 64 = .ok (.iadd, 1) := by decide +kernel
theorem d_M_areaOf_65 : decode c_M_areaOf 65 = .ok (.laload, 1) := by decide +kernel
theorem d_M_areaOf_66 : decode c_M_areaOf 66 = .ok (.lmul, 1) := by decide +kernel
theorem d_M_areaOf_67 : decode c_M_areaOf 67 = .ok (.aload_n 0, 1) := by decide +kernel
theorem d_M_areaOf_68 : decode c_M_areaOf 68 = .ok (.getfield 17, 3) := by decide +kernel
theorem d_M_areaOf_71 : decode c_M_areaOf 71 = .ok (.iload 4, 2) := by decide +kernel
theorem d_M_areaOf_73 : decode c_M_areaOf 73 = .ok (.iload 6, 2) := by decide +kernel
theorem d_M_areaOf_75 : decode c_M_areaOf 75 = .ok (.iadd, 1) := by decide +kernel
theorem d_M_areaOf_76 : decode c_M_areaOf 76 = .ok (.laload, 1) := by decide +kernel
theorem d_M_areaOf_77 : decode c_M_areaOf 77 = .ok (.aload_n 0, 1) := by decide +kernel
theorem d_M_areaOf_78 : decode c_M_areaOf 78 = .ok (.getfield 13, 3) := by decide +kernel
theorem d_M_areaOf_81 : decode c_M_areaOf 81 = .ok (.iload 4, 2) := by decide +kernel
theorem d_M_areaOf_83 : decode c_M_areaOf 83 = .ok (.iload 7, 2) := by decide +kernel
theorem d_M_areaOf_85 : decode c_M_areaOf 85 = .ok (.iadd, 1) := by decide +kernel
theorem d_M_areaOf_86 : decode c_M_areaOf 86 = .ok (.laload, 1) := by decide +kernel
theorem d_M_areaOf_87 : decode c_M_areaOf 87 = .ok (.lmul, 1) := by decide +kernel
theorem d_M_areaOf_88 : decode c_M_areaOf 88 = .ok (.lsub, 1) := by decide +kernel
theorem d_M_areaOf_89 : decode c_M_areaOf 89 = .ok (.ladd, 1) := by decide +kernel
theorem d_M_areaOf_90 : decode c_M_areaOf 90 = .ok (.lstore_n 2, 1) := by decide +kernel
theorem d_M_areaOf_91 : decode c_M_areaOf 91 = .ok (.iinc 6 1, 3) := by decide +kernel
theorem d_M_areaOf_94 : decode c_M_areaOf 94 = .ok (.goto (-75), 3) := by decide +kernel
theorem d_M_areaOf_97 : decode c_M_areaOf 97 = .ok (.lload_n 2, 1) := by decide +kernel
theorem d_M_areaOf_98 : decode c_M_areaOf 98 = .ok (.lconst 0, 1) := by decide +kernel
theorem d_M_areaOf_99 : decode c_M_areaOf 99 = .ok (.lcmp, 1) := by decide +kernel
theorem d_M_areaOf_100 : decode c_M_areaOf 100 = .ok (.ifCond .ge 9, 3) := by decide +kernel
theorem d_M_areaOf_103 : decode c_M_areaOf 103 = .ok (.lconst 0, 1) := by decide +kernel
theorem d_M_areaOf_104 : decode c_M_areaOf 104 = .ok (.lload_n 2, 1) := by decide +kernel
theorem d_M_areaOf_105 : decode c_M_areaOf 105 = .ok (.lsub, 1) := by decide +kernel
theorem d_M_areaOf_106 : decode c_M_areaOf 106 = .ok (.goto 4, 3) := by decide +kernel
theorem d_M_areaOf_109 : decode c_M_areaOf 109 = .ok (.lload_n 2, 1) := by decide +kernel
theorem d_M_areaOf_110 : decode c_M_areaOf 110 = .ok (.lreturn, 1) := by decide +kernel
theorem d_M_waste_0 : decode c_M_waste 0 = .ok (.aload_n 0, 1) := by decide +kernel
theorem d_M_waste_1 : decode c_M_waste 1 = .ok (.iload_n 1, 1) := by decide +kernel
theorem d_M_waste_2 : decode c_M_waste 2 = .ok (.ifCond .eq 8, 3) := by decide +kernel
theorem d_M_waste_5 : decode c_M_waste 5 = .ok (.iload_n 1, 1) := by decide +kernel
theorem d_M_waste_6 : decode c_M_waste 6 = .ok (.iconst 1, 1) := by decide +kernel
theorem d_M_waste_7 : decode c_M_waste 7 = .ok (.if_icmp .ne 7, 3) := by decide +kernel
theorem d_M_waste_10 : decode c_M_waste 10 = .ok (.iconst 0, 1) := by decide +kernel
theorem d_M_waste_11 : decode c_M_waste 11 = .ok (.goto 4, 3) := by decide +kernel
theorem d_M_waste_14 : decode c_M_waste 14 = .ok (.iconst 1, 1) := by decide +kernel
theorem d_M_waste_15 : decode c_M_waste 15 = .ok (.putfield 69, 3) := by decide +kernel
theorem d_M_waste_18 : decode c_M_waste 18 = .ok (.aload_n 0, 1) := by decide +kernel
theorem d_M_waste_19 : decode c_M_waste 19 = .ok (.getfield 69, 3) := by decide +kernel
theorem d_M_waste_22 : decode c_M_waste 22 = .ok (.ifCond .eq 5, 3) := by decide +kernel
theorem d_M_waste_25 : decode c_M_waste 25 = .ok (.lconst 0, 1) := by decide +kernel
theorem d_M_waste_26 : decode c_M_waste 26 = .ok (.lreturn, 1) := by decide +kernel
theorem d_M_waste_27 : decode c_M_waste 27 = .ok (.ldc2_w 155, 3) := by decide +kernel
theorem d_M_waste_30 : decode c_M_waste 30 = .ok (.aload_n 0, 1) := by decide +kernel
theorem d_M_waste_31 : decode c_M_waste 31 = .ok (.getfield 62, 3) := by decide +kernel
theorem d_M_waste_34 : decode c_M_waste 34 = .ok (.lmul, 1) := by decide +kernel
theorem d_M_waste_35 : decode c_M_waste 35 = .ok (.aload_n 0, 1) := by decide +kernel
theorem d_M_waste_36 : decode c_M_waste 36 = .ok (.getfield 66, 3) := by decide +kernel
theorem d_M_waste_39 : decode c_M_waste 39 = .ok (.lmul, 1) := by decide +kernel
theorem d_M_waste_40 : decode c_M_waste 40 = .ok (.lstore_n 2, 1) := by decide +kernel
theorem d_M_waste_41 : decode c_M_waste 41 = .ok (.lload_n 2, 1) := by decide +kernel
theorem d_M_waste_42 : decode c_M_waste 42 = .ok (.lstore 4, 2) := by decide +kernel
theorem d_M_waste_44 : decode c_M_waste 44 = .ok (.iconst 0, 1) := by decide +kernel
theorem d_M_waste_45 : decode c_M_waste 45 = .ok (.istore 6, 2) := by decide +kernel
theorem d_M_waste_47 : decode c_M_waste 47 = .ok (.iload 6, 2) := by decide +kernel
theorem d_M_waste_49 : decode c_M_waste 49 = .ok (.bipush 6, 2) := by decide +kernel
theorem d_M_waste_51 : decode c_M_waste 51 = .ok (.aload_n 0, 1) := by decide +kernel
theorem d_M_waste_52 : decode c_M_waste 52 = .ok (.getfield 125, 3) := by decide +kernel
theorem d_M_waste_55 : decode c_M_waste 55 = .ok (.imul, 1) := by decide +kernel
theorem d_M_waste_56 : decode c_M_waste 56 = .ok (.if_icmp .ge 26, 3) := by decide +kernel
theorem d_M_waste_59 : decode c_M_waste 59 = .ok (.lload 4, 2) := by decide +kernel
theorem d_M_waste_61 : decode c_M_waste 61 = .ok (.aload_n 0, 1) := by decide +kernel
theorem d_M_waste_62 : decode c_M_waste 62 = .ok (.aload_n 0, 1) := by decide +kernel
theorem d_M_waste_63 : decode c_M_waste 63 = .ok (.getfield 32, 3) := by decide +kernel
theorem d_M_waste_66 : decode c_M_waste 66 = .ok (.iload 6, 2) := by decide +kernel
theorem d_M_waste_68 : decode c_M_waste 68 = .ok (.laload, 1) := by decide +kernel
theorem d_M_waste_69 : decode c_M_waste 69 = .ok (.l2i, 1) := by decide +kernel
theorem d_M_waste_70 : decode c_M_waste 70 = .ok (.invokevirtual 163, 3) := by decide +kernel
theorem d_M_waste_73 : decode c_M_waste 73 = .ok (.lsub, 1) := by decide +kernel
theorem d_M_waste_74 : decode c_M_waste 74 = .ok (.lstore 4, 2) := by decide +kernel
theorem d_M_waste_76 : decode c_M_waste 76 = .ok (.iinc 6 6, 3) := by decide +kernel
theorem d_M_waste_79 : decode c_M_waste 79 = .ok (.goto (-32), 3) := by decide +kernel
theorem d_M_waste_82 : decode c_M_waste 82 = .ok (.lload 4, 2) := by decide +kernel
theorem d_M_waste_84 : decode c_M_waste 84 = .ok (.lconst 0, 1) := by decide +kernel
theorem d_M_waste_85 : decode c_M_waste 85 = .ok (.lcmp, 1) := by decide +kernel
theorem d_M_waste_86 : decode c_M_waste 86 = .ok (.ifCond .ge 10, 3) := by decide +kernel
theorem d_M_waste_89 : decode c_M_waste 89 = .ok (.lconst 0, 1) := by decide +kernel
theorem d_M_waste_90 : decode c_M_waste 90 = .ok (.lload 4, 2) := by decide +kernel
theorem d_M_waste_92 : decode c_M_waste 92 = .ok (.lsub, 1) := by decide +kernel
theorem d_M_waste_93 : decode c_M_waste 93 = .ok (.goto 5, 3) := by decide +kernel
theorem d_M_waste_96 : decode c_M_waste 96 = .ok (.lload 4, 2) := by decide +kernel
theorem d_M_waste_98 : decode c_M_waste 98 = .ok (.lstore 6, 2) := by decide +kernel
theorem d_M_waste_100 : decode c_M_waste 100 = .ok (.lload_n 2, 1) := by decide +kernel
theorem d_M_waste_101 : decode c_M_waste 101 = .ok (.lstore 8, 2) := by decide +kernel
theorem d_M_waste_103 : decode c_M_waste 103 = .ok (.lload 8, 2) := by decide +kernel
theorem d_M_waste_105 : decode c_M_waste 105 = .ok (.lconst 0, 1) := by decide +kernel
theorem d_M_waste_106 : decode c_M_waste 106 = .ok (.lcmp, 1) := by decide +kernel
theorem d_M_waste_107 : decode c_M_waste 107 = .ok (.ifCond .eq 21, 3) := by decide +kernel
theorem d_M_waste_110 : decode c_M_waste 110 = .ok (.lload 6, 2) := by decide +kernel
theorem d_M_waste_112 : decode c_M_waste 112 = .ok (.lload 8, 2) := by decide +kernel
theorem d_M_waste_114 : decode c_M_waste 114 = .ok (.lrem, 1) := by decide +kernel
theorem d_M_waste_115 : decode c_M_waste 115 = .ok (.lstore 10, 2) := by decide +kernel
theorem d_M_waste_117 : decode c_M_waste 117 = .ok (.lload 8, 2) := by decide +kernel
theorem d_M_waste_119 : decode c_M_waste 119 = .ok (.lstore 6, 2) := by decide +kernel
theorem d_M_waste_121 : decode c_M_waste 121 = .ok (.lload 10, 2) := by decide +kernel
theorem d_M_waste_123 : decode c_M_waste 123 = .ok (.lstore 8, 2) := by decide +kernel
theorem d_M_waste_125 : decode c_M_waste 125 = .ok (.goto (-22), 3) := by decide +kernel
theorem d_M_waste_128 : decode c_M_waste 128 = .ok (.iload_n 1, 1) := by decide +kernel
theorem d_M_waste_129 : decode c_M_waste 129 = .ok (.ifCond .ne 11, 3) := by decide +kernel
theorem d_M_waste_132 : decode c_M_waste 132 = .ok (.lload 4, 2) := by decide +kernel
theorem d_M_waste_134 : decode c_M_waste 134 = .ok (.lload 6, 2) := by decide +kernel
theorem d_M_waste_136 : decode c_M_waste 136 = .ok (.ldiv, 1) := by decide +kernel
theorem d_M_waste_137 : decode c_M_waste 137 = .ok (.goto 7, 3) := by decide +kernel
theorem d_M_waste_140 : decode c_M_waste 140 = .ok (.lload_n 2, 1) := by decide +kernel
theorem d_M_waste_141 : decode c_M_waste 141 = .ok (.lload 6, 2) := by decide +kernel
theorem d_M_waste_143 : decode c_M_waste 143 = .ok (.ldiv, 1) := by decide +kernel
theorem d_M_waste_144 : decode c_M_waste 144 = .ok (.lreturn, 1) := by decide +kernel
theorem d_M_orderOf_0 : decode c_M_orderOf 0 = .ok (.iload_n 1, 1) := by decide +kernel
theorem d_M_orderOf_1 : decode c_M_orderOf 1 = .ok (.istore_n 2, 1) := by decide +kernel
theorem d_M_orderOf_2 : decode c_M_orderOf 2 = .ok (.iconst 0, 1) := by decide +kernel
theorem d_M_orderOf_3 : decode c_M_orderOf 3 = .ok (.istore_n 3, 1) := by decide +kernel
theorem d_M_orderOf_4 : decode c_M_orderOf 4 = .ok (.iload_n 3, 1) := by decide +kernel
theorem d_M_orderOf_5 : decode c_M_orderOf 5 = .ok (.iconst 2, 1) := by decide +kernel
theorem d_M_orderOf_6 : decode c_M_orderOf 6 = .ok (.if_icmp .ge 64, 3) := by decide +kernel
theorem d_M_orderOf_9 : decode c_M_orderOf 9 = .ok (.iload_n 1, 1) := by decide +kernel
theorem d_M_orderOf_10 : decode c_M_orderOf 10 = .ok (.ifCond .lt 60, 3) := by decide +kernel
theorem d_M_orderOf_13 : decode c_M_orderOf 13 = .ok (.iconst 0, 1) := by decide +kernel
theorem d_M_orderOf_14 : decode c_M_orderOf 14 = .ok (.istore 4, 2) := by decide +kernel
theorem d_M_orderOf_16 : decode c_M_orderOf 16 = .ok (.iload 4, 2) := by decide +kernel
theorem d_M_orderOf_18 : decode c_M_orderOf 18 = .ok (.aload_n 0, 1) := by decide +kernel
theorem d_M_orderOf_19 : decode c_M_orderOf 19 = .ok (.getfield 125, 3) := by decide +kernel
theorem d_M_orderOf_22 : decode c_M_orderOf 22 = .ok (.if_icmp .ge 42, 3) := by decide +kernel
theorem d_M_orderOf_25 : decode c_M_orderOf 25 = .ok (.aload_n 0, 1) := by decide +kernel
theorem d_M_orderOf_26 : decode c_M_orderOf 26 = .ok (.getfield 35, 3) := by decide +kernel
theorem d_M_orderOf_29 : decode c_M_orderOf 29 = .ok (.iload 4, 2) := by decide +kernel
theorem d_M_orderOf_31 : decode c_M_orderOf 31 = .ok (.baload, 1) := by decide +kernel
theorem d_M_orderOf_32 : decode c_M_orderOf 32 = .ok (.iload_n 3, 1) := by decide +kernel
theorem d_M_orderOf_33 : decode c_M_orderOf 33 = .ok (.iconst 1, 1) := by decide +kernel
theorem d_M_orderOf_34 : decode c_M_orderOf 34 = .ok (.if_icmp .ne 7, 3) := by decide +kernel
theorem d_M_orderOf_37 : decode c_M_orderOf 37 = .ok (.iconst 1, 1) := by decide +kernel
theorem d_M_orderOf_38 : decode c_M_orderOf 38 = .ok (.goto 4, 3) := by decide +kernel
theorem d_M_orderOf_41 : decode c_M_orderOf 41 = .ok (.iconst 0, 1) := by decide +kernel
theorem d_M_orderOf_42 : decode c_M_orderOf 42 = .ok (.if_icmp .eq 6, 3) := by decide +kernel
theorem d_M_orderOf_45 : decode c_M_orderOf 45 = .ok (.goto 13, 3) := by decide +kernel
theorem d_M_orderOf_48 : decode c_M_orderOf 48 = .ok (.iload_n 2, 1) := by decide +kernel
theorem d_M_orderOf_49 : decode c_M_orderOf 49 = .ok (.ifCond .ne 6, 3) := by decide +kernel
theorem d_M_orderOf_52 : decode c_M_orderOf 52 = .ok (.iload 4, 2) := by decide +kernel
theorem d_M_orderOf_54 : decode c_M_orderOf 54 = .ok (.ireturn, 1) := by decide +kernel
theorem d_M_orderOf_55 : decode c_M_orderOf 55 = .ok (.iinc 2 (-1), 3) := by decide +kernel
theorem d_M_orderOf_58 : decode c_M_orderOf 58 = .ok (.iinc 4 1, 3) := by decide +kernel
theorem d_M_orderOf_61 : decode c_M_orderOf 61 = .ok (.goto (-45), 3) := by decide +kernel
theorem d_M_orderOf_64 : decode c_M_orderOf 64 = .ok (.iinc 3 1, 3) := by decide +kernel
theorem d_M_orderOf_67 : decode c_M_orderOf 67 = .ok (.goto (-63), 3) := by decide +kernel
theorem d_M_orderOf_70 : decode c_M_orderOf 70 = .ok (.iconst (-1), 1) := by decide +kernel
theorem d_M_orderOf_71 : decode c_M_orderOf 71 = .ok (.ireturn, 1) := by decide +kernel
theorem d_M_order_0 : decode c_M_order 0 = .ok (.aload_n 0, 1) := by decide +kernel
theorem d_M_order_1 : decode c_M_order 1 = .ok (.iconst 0, 1) := by decide +kernel
theorem d_M_order_2 : decode c_M_order 2 = .ok (.putfield 69, 3) := by decide +kernel
theorem d_M_order_5 : decode c_M_order 5 = .ok (.aload_n 0, 1) := by decide +kernel
theorem d_M_order_6 : decode c_M_order 6 = .ok (.iload_n 1, 1) := by decide +kernel
theorem d_M_order_7 : decode c_M_order 7 = .ok (.invokevirtual 166, 3) := by decide +kernel
theorem d_M_order_10 : decode c_M_order 10 = .ok (.ireturn, 1) := by decide +kernel
theorem d_M_mill_0 : decode c_M_mill 0 = .ok (.iload_n 1, 1) := by decide +kernel
theorem d_M_mill_1 : decode c_M_mill 1 = .ok (.ifCond .ge 7, 3) := by decide +kernel
theorem d_M_mill_4 : decode c_M_mill 4 = .ok (.iconst (-1), 1) := by decide +kernel
theorem d_M_mill_5 : decode c_M_mill 5 = .ok (.goto 10, 3) := by decide +kernel
theorem d_M_mill_8 : decode c_M_mill 8 = .ok (.aload_n 0, 1) := by decide +kernel
theorem d_M_mill_9 : decode c_M_mill 9 = .ok (.iload_n 1, 1) := by decide +kernel
theorem d_M_mill_10 : decode c_M_mill 10 = .ok (.iconst 4, 1) := by decide +kernel
theorem d_M_mill_11 : decode c_M_mill 11 = .ok (.idiv, 1) := by decide +kernel
theorem d_M_mill_12 : decode c_M_mill 12 = .ok (.invokevirtual 166, 3) := by decide +kernel
theorem d_M_mill_15 : decode c_M_mill 15 = .ok (.istore_n 3, 1) := by decide +kernel
theorem d_M_mill_16 : decode c_M_mill 16 = .ok (.aload_n 0, 1) := by decide +kernel
theorem d_M_mill_17 : decode c_M_mill 17 = .ok (.iload_n 3, 1) := by decide +kernel
theorem d_M_mill_18 : decode c_M_mill 18 = .ok (.iconst (-1), 1) := by decide +kernel
theorem d_M_mill_19 : decode c_M_mill 19 = .ok (.if_icmp .eq 16, 3) := by decide +kernel
theorem d_M_mill_22 : decode c_M_mill 22 = .ok (.iload_n 2, 1) := by decide +kernel
theorem d_M_mill_23 : decode c_M_mill 23 = .ok (.ifCond .eq 8, 3) := by decide +kernel
theorem d_M_mill_26 : decode c_M_mill 26 = .ok (.iload_n 2, 1) := by decide +kernel
theorem d_M_mill_27 : decode c_M_mill 27 = .ok (.iconst 1, 1) := by decide +kernel
theorem d_M_mill_28 : decode c_M_mill 28 = .ok (.if_icmp .ne 7, 3) := by decide +kernel
theorem d_M_mill_31 : decode c_M_mill 31 = .ok (.iconst 0, 1) := by decide +kernel
theorem d_M_mill_32 : decode c_M_mill 32 = .ok (.goto 4, 3) := by decide +kernel
theorem d_M_mill_35 : decode c_M_mill 35 = .ok (.iconst 1, 1) := by decide +kernel
theorem d_M_mill_36 : decode c_M_mill 36 = .ok (.putfield 69, 3) := by decide +kernel
theorem d_M_mill_39 : decode c_M_mill 39 = .ok (.aload_n 0, 1) := by decide +kernel
theorem d_M_mill_40 : decode c_M_mill 40 = .ok (.getfield 69, 3) := by decide +kernel
theorem d_M_mill_43 : decode c_M_mill 43 = .ok (.ifCond .eq 5, 3) := by decide +kernel
theorem d_M_mill_46 : decode c_M_mill 46 = .ok (.lconst 0, 1) := by decide +kernel
theorem d_M_mill_47 : decode c_M_mill 47 = .ok (.lreturn, 1) := by decide +kernel
theorem d_M_mill_48 : decode c_M_mill 48 = .ok (.bipush 6, 2) := by decide +kernel
theorem d_M_mill_50 : decode c_M_mill 50 = .ok (.iload_n 3, 1) := by decide +kernel
theorem d_M_mill_51 : decode c_M_mill 51 = .ok (.imul, 1) := by decide +kernel
theorem d_M_mill_52 : decode c_M_mill 52 = .ok (.istore 4, 2) := by decide +kernel
theorem d_M_mill_54 : decode c_M_mill 54 = .ok (.iload_n 1, 1) := by decide +kernel
theorem d_M_mill_55 : decode c_M_mill 55 = .ok (.iconst 4, 1) := by decide +kernel
theorem d_M_mill_56 : decode c_M_mill 56 = .ok (.irem, 1) := by decide +kernel
theorem d_M_mill_57 : decode c_M_mill 57 = .ok (.istore 5, 2) := by decide +kernel
theorem d_M_mill_59 : decode c_M_mill 59 = .ok (.iload_n 2, 1) := by decide +kernel
theorem d_M_mill_60 : decode c_M_mill 60 = .ok (.ifCond .ne 56, 3) := by decide +kernel
theorem d_M_mill_63 : decode c_M_mill 63 = .ok (.iload 5, 2) := by decide +kernel
theorem d_M_mill_65 : decode c_M_mill 65 = .ok (.ifCond .eq 9, 3) := by decide +kernel
theorem d_M_mill_68 : decode c_M_mill 68 = .ok (.iload 5, 2) := by decide +kernel
theorem d_M_mill_70 : decode c_M_mill 70 = .ok (.iconst 3, 1) := by decide +kernel
theorem d_M_mill_71 : decode c_M_mill 71 = .ok (.if_icmp .ne 20, 3) := by decide +kernel
theorem d_M_mill_74 : decode c_M_mill 74 = .ok (.aload_n 0, 1) := by decide +kernel
theorem d_M_mill_75 : decode c_M_mill 75 = .ok (.getfield 32, 3) := by decide +kernel
theorem d_M_mill_78 : decode c_M_mill 78 = .ok (.iload 4, 2) := by decide +kernel
theorem d_M_mill_80 : decode c_M_mill 80 = .ok (.iconst 1, 1) := by decide +kernel
theorem d_M_mill_81 : decode c_M_mill 81 = .ok (.iadd, 1) := by decide +kernel
theorem d_M_mill_82 : decode c_M_mill 82 = .ok (.laload, 1) := by decide +kernel
theorem d_M_mill_83 : decode c_M_mill 83 = .ok (.aload_n 0, 1) := by decide +kernel
theorem d_M_mill_84 : decode c_M_mill 84 = .ok (.getfield 87, 3) := by decide +kernel
theorem d_M_mill_87 : decode c_M_mill 87 = .ok (.lsub, 1) := by decide +kernel
theorem d_M_mill_88 : decode c_M_mill 88 = .ok (.goto 27, 3) := by decide +kernel
theorem d_M_mill_91 : decode c_M_mill 91 = .ok (.aload_n 0, 1) := by decide +kernel
theorem d_M_mill_92 : decode c_M_mill 92 = .ok (.getfield 32, 3) := by decide +kernel
theorem d_M_mill_95 : decode c_M_mill 95 = .ok (.iload 4, 2) := by decide +kernel
theorem d_M_mill_97 : decode c_M_mill 97 = .ok (.iconst 1, 1) := by decide +kernel
theorem d_M_mill_98 : decode c_M_mill 98 = .ok (.iadd, 1) := by decide +kernel
theorem d_M_mill_99 : decode c_M_mill 99 = .ok (.laload, 1) := by decide +kernel
theorem d_M_mill_100 : decode c_M_mill 100 = .ok (.aload_n 0, 1) := by decide +kernel
theorem d_M_mill_101 : decode c_M_mill 101 = .ok (.getfield 32, 3) := by decide +kernel
theorem d_M_mill_104 : decode c_M_mill 104 = .ok (.iload 4, 2) := by decide +kernel
theorem d_M_mill_106 : decode c_M_mill 106 = .ok (.iconst 4, 1) := by decide +kernel
theorem d_M_mill_107 : decode c_M_mill 107 = .ok (.iadd, 1) := by decide +kernel
theorem d_M_mill_108 : decode c_M_mill 108 = .ok (.laload, 1) := by decide +kernel
theorem d_M_mill_109 : decode c_M_mill 109 = .ok (.ladd, 1) := by decide +kernel
theorem d_M_mill_110 : decode c_M_mill 110 = .ok (.aload_n 0, 1) := by decide +kernel
theorem d_M_mill_111 : decode c_M_mill 111 = .ok (.getfield 87, 3) := by decide +kernel
theorem d_M_mill_114 : decode c_M_mill 114 = .ok (.ladd, 1) := by decide +kernel
theorem d_M_mill_115 : decode c_M_mill 115 = .ok (.lreturn, 1) := by decide +kernel
theorem d_M_mill_116 : decode c_M_mill 116 = .ok (.iload 5, 2) := by decide +kernel
theorem d_M_mill_118 : decode c_M_mill 118 = .ok (.iconst 2, 1) := by decide +kernel
theorem d_M_mill_119 : decode c_M_mill 119 = .ok (.if_icmp .ge 20, 3) := by decide +kernel
theorem d_M_mill_122 : decode c_M_mill 122 = .ok (.aload_n 0, 1) := by decide +kernel
theorem d_M_mill_123 : decode c_M_mill 123 = .ok (.getfield 32, 3) := by decide +kernel
theorem d_M_mill_126 : decode c_M_mill 126 = .ok (.iload 4, 2) := by decide +kernel
theorem d_M_mill_128 : decode c_M_mill 128 = .ok (.iconst 2, 1) := by decide +kernel
theorem d_M_mill_129 : decode c_M_mill 129 = .ok (.iadd, 1) := by decide +kernel
theorem d_M_mill_130 : decode c_M_mill 130 = .ok (.laload, 1) := by decide +kernel
theorem d_M_mill_131 : decode c_M_mill 131 = .ok (.aload_n 0, 1) := by decide +kernel
theorem d_M_mill_132 : decode c_M_mill 132 = .ok (.getfield 87, 3) := by decide +kernel
theorem d_M_mill_135 : decode c_M_mill 135 = .ok (.lsub, 1) := by decide +kernel
theorem d_M_mill_136 : decode c_M_mill 136 = .ok (.goto 27, 3) := by decide +kernel
theorem d_M_mill_139 : decode c_M_mill 139 = .ok (.aload_n 0, 1) := by decide +kernel
theorem d_M_mill_140 : decode c_M_mill 140 = .ok (.getfield 32, 3) := by decide +kernel
theorem d_M_mill_143 : decode c_M_mill 143 = .ok (.iload 4, 2) := by decide +kernel
theorem d_M_mill_145 : decode c_M_mill 145 = .ok (.iconst 2, 1) := by decide +kernel
theorem d_M_mill_146 : decode c_M_mill 146 = .ok (.iadd, 1) := by decide +kernel
theorem d_M_mill_147 : decode c_M_mill 147 = .ok (.laload, 1) := by decide +kernel
theorem d_M_mill_148 : decode c_M_mill 148 = .ok (.aload_n 0, 1) := by decide +kernel
theorem d_M_mill_149 : decode c_M_mill 149 = .ok (.getfield 32, 3) := by decide +kernel
theorem d_M_mill_152 : decode c_M_mill 152 = .ok (.iload 4, 2) := by decide +kernel
theorem d_M_mill_154 : decode c_M_mill 154 = .ok (.iconst 5, 1) := by decide +kernel
theorem d_M_mill_155 : decode c_M_mill 155 = .ok (.iadd, 1) := by decide +kernel
theorem d_M_mill_156 : decode c_M_mill 156 = .ok (.laload, 1) := by decide +kernel
theorem d_M_mill_157 : decode c_M_mill 157 = .ok (.ladd, 1) := by decide +kernel
theorem d_M_mill_158 : decode c_M_mill 158 = .ok (.aload_n 0, 1) := by decide +kernel
theorem d_M_mill_159 : decode c_M_mill 159 = .ok (.getfield 87, 3) := by decide +kernel
theorem d_M_mill_162 : decode c_M_mill 162 = .ok (.ladd, 1) := by decide +kernel
theorem d_M_mill_163 : decode c_M_mill 163 = .ok (.lreturn, 1) := by decide +kernel
theorem d_M_bad_0 : decode c_M_bad 0 = .ok (.aload_n 0, 1) := by decide +kernel
theorem d_M_bad_1 : decode c_M_bad 1 = .ok (.aload_n 0, 1) := by decide +kernel
theorem d_M_bad_2 : decode c_M_bad 2 = .ok (.iload_n 1, 1) := by decide +kernel
theorem d_M_bad_3 : decode c_M_bad 3 = .ok (.invokevirtual 152, 3) := by decide +kernel
theorem d_M_bad_6 : decode c_M_bad 6 = .ok (.ifCond .eq 7, 3) := by decide +kernel
theorem d_M_bad_9 : decode c_M_bad 9 = .ok (.iconst 0, 1) := by decide +kernel
theorem d_M_bad_10 : decode c_M_bad 10 = .ok (.goto 4, 3) := by decide +kernel
theorem d_M_bad_13 : decode c_M_bad 13 = .ok (.iconst 1, 1) := by decide +kernel
theorem d_M_bad_14 : decode c_M_bad 14 = .ok (.putfield 69, 3) := by decide +kernel
theorem d_M_bad_17 : decode c_M_bad 17 = .ok (.aload_n 0, 1) := by decide +kernel
theorem d_M_bad_18 : decode c_M_bad 18 = .ok (.getfield 69, 3) := by decide +kernel
theorem d_M_bad_21 : decode c_M_bad 21 = .ok (.ifCond .ne 13, 3) := by decide +kernel
theorem d_M_bad_24 : decode c_M_bad 24 = .ok (.aload_n 0, 1) := by decide +kernel
theorem d_M_bad_25 : decode c_M_bad 25 = .ok (.getfield 35, 3) := by decide +kernel
theorem d_M_bad_28 : decode c_M_bad 28 = .ok (.iload_n 1, 1) := by decide +kernel
theorem d_M_bad_29 : decode c_M_bad 29 = .ok (.baload, 1) := by decide +kernel
theorem d_M_bad_30 : decode c_M_bad 30 = .ok (.iload_n 2, 1) := by decide +kernel
theorem d_M_bad_31 : decode c_M_bad 31 = .ok (.if_icmp .ne 5, 3) := by decide +kernel
theorem d_M_bad_34 : decode c_M_bad 34 = .ok (.iconst 0, 1) := by decide +kernel
theorem d_M_bad_35 : decode c_M_bad 35 = .ok (.ireturn, 1) := by decide +kernel
theorem d_M_bad_36 : decode c_M_bad 36 = .ok (.aload_n 0, 1) := by decide +kernel
theorem d_M_bad_37 : decode c_M_bad 37 = .ok (.getfield 35, 3) := by decide +kernel
theorem d_M_bad_40 : decode c_M_bad 40 = .ok (.iload_n 1, 1) := by decide +kernel
theorem d_M_bad_41 : decode c_M_bad 41 = .ok (.iload_n 2, 1) := by decide +kernel
theorem d_M_bad_42 : decode c_M_bad 42 = .ok (.bastore, 1) := by decide +kernel
theorem d_M_bad_43 : decode c_M_bad 43 = .ok (.iconst 1, 1) := by decide +kernel
theorem d_M_bad_44 : decode c_M_bad 44 = .ok (.ireturn, 1) := by decide +kernel
theorem d_M_overlaps_0 : decode c_M_overlaps 0 = .ok (.aload_n 0, 1) := by decide +kernel
theorem d_M_overlaps_1 : decode c_M_overlaps 1 = .ok (.iconst 0, 1) := by decide +kernel
theorem d_M_overlaps_2 : decode c_M_overlaps 2 = .ok (.putfield 69, 3) := by decide +kernel
theorem d_M_overlaps_5 : decode c_M_overlaps 5 = .ok (.iconst 0, 1) := by decide +kernel
theorem d_M_overlaps_6 : decode c_M_overlaps 6 = .ok (.ireturn, 1) := by decide +kernel
end
section
/-! the worlds of the five classes: an object with its arrays; a 0 its address, a (k + 1) that of the array in its field k -/
def w_B (a cA : Nat → Nat) (ii : Nat → Int32) (li : Nat → Int64) (ia : Nat → Nat → Int32) (la : Nat → Nat → Int64) : va_W := [(a 0, .inr (2, [.ref (a 1), .ref (a 2), .ref (a 3), .ref (a 4), .ref (a 5), .int (ii 5), .int (ii 6), .long (li 7), .long (li 8), .long (li 9), .long (li 10), .int (ii 11)])), (a 1, .inl (cA 1, 12, .inr (.inl (la 0)))), (a 2, .inl (cA 1, 12, .inr (.inl (la 1)))), (a 3, .inl (cA 1, 10, .inr (.inl (la 2)))), (a 4, .inl (cA 1, 10, .inr (.inl (la 3)))), (a 5, .inl (cA 1, 10, .inr (.inl (la 4))))]
def w_S (a cA : Nat → Nat) (ii : Nat → Int32) (li : Nat → Int64) (ia : Nat → Nat → Int32) (la : Nat → Nat → Int64) : va_W := [(a 0, .inr (4, [.ref (a 1), .ref (a 2), .ref (a 3), .ref (a 4), .ref (a 5), .ref (a 6), .ref (a 7), .int (ii 7), .int (ii 8), .int (ii 9), .int (ii 10), .long (li 11)])), (a 1, .inl (cA 0, 8, .inl (ia 0))), (a 2, .inl (cA 1, 8, .inr (.inl (la 1)))), (a 3, .inl (cA 0, 4, .inl (ia 2))), (a 4, .inl (cA 0, 9, .inl (ia 3))), (a 5, .inl (cA 0, 9, .inl (ia 4))), (a 6, .inl (cA 0, 9, .inl (ia 5))), (a 7, .inl (cA 0, 9, .inl (ia 6)))]
def w_Y (a cA : Nat → Nat) (ii : Nat → Int32) (li : Nat → Int64) (ia : Nat → Nat → Int32) (la : Nat → Nat → Int64) : va_W := [(a 0, .inr (3, [.ref (a 1), .ref (a 2), .ref (a 3), .ref (a 4), .ref (a 5), .ref (a 6), .ref (a 7), .ref (a 8), .ref (a 9), .ref (a 10), .ref (a 11), .int (ii 11), .int (ii 12), .int (ii 13), .long (li 14), .long (li 15), .long (li 16)])), (a 1, .inl (cA 0, 8, .inl (ia 0))), (a 2, .inl (cA 0, 8, .inl (ia 1))), (a 3, .inl (cA 0, 8, .inl (ia 2))), (a 4, .inl (cA 1, 8, .inr (.inl (la 3)))), (a 5, .inl (cA 1, 8, .inr (.inl (la 4)))), (a 6, .inl (cA 1, 8, .inr (.inl (la 5)))), (a 7, .inl (cA 0, 160, .inl (ia 6))), (a 8, .inl (cA 1, 160, .inr (.inl (la 7)))), (a 9, .inl (cA 2, 160, .inl (ia 8))), (a 10, .inl (cA 1, 16, .inr (.inl (la 9)))), (a 11, .inl (cA 0, 16, .inl (ia 10)))]
def w_P (a cA : Nat → Nat) (ii : Nat → Int32) (li : Nat → Int64) (ia : Nat → Nat → Int32) (la : Nat → Nat → Int64) (bd : Nat → Nat) : va_W := [(a 0, .inr (0, [.long (li 0), .long (li 1), .ref (a 3), .ref (a 4), .ref (a 5), .ref (a 6), .int (ii 6), .long (li 7), .long (li 8), .int (ii 9)])), (a 3, .inl (cA 3, 4, .inr (.inr (.inr (.inr (fun j => some (bd j))))))), (a 4, .inl (cA 1, 4, .inr (.inl (la 3))))]
def w_M (a cA : Nat → Nat) (ii : Nat → Int32) (li : Nat → Int64) (ia : Nat → Nat → Int32) (la : Nat → Nat → Int64) : va_W := [(a 0, .inr (1, [.int (ii 0), .long (li 1), .long (li 2), .int (ii 3), .ref (a 5), .ref (a 6), .ref (a 7), .ref (a 8), .ref (a 9), .ref (a 10), .ref (a 11), .long (li 11), .long (li 12), .int (ii 13), .ref (a 15), .ref (a 16), .int (ii 16), .ref (a 18), .ref (a 19), .ref (a 20), .ref (a 21), .ref (a 22), .ref (a 23), .ref (a 24), .int (ii 24), .int (ii 25)])), (a 5, .inl (cA 0, 4, .inl (ia 4))), (a 6, .inl (cA 1, 48, .inr (.inl (la 5)))), (a 7, .inl (cA 1, 48, .inr (.inl (la 6)))), (a 8, .inl (cA 0, 4, .inl (ia 7))), (a 9, .inl (cA 0, 4, .inl (ia 8))), (a 10, .inl (cA 1, 120, .inr (.inl (la 9)))), (a 11, .inl (cA 1, 4, .inr (.inl (la 10)))), (a 15, .inl (cA 1, 1200, .inr (.inl (la 14)))), (a 16, .inl (cA 2, 200, .inl (ia 15))), (a 18, .inl (cA 1, 4, .inr (.inl (la 17)))), (a 19, .inl (cA 1, 4, .inr (.inl (la 18)))), (a 20, .inl (cA 1, 4, .inr (.inl (la 19)))), (a 21, .inl (cA 1, 4, .inr (.inl (la 20)))), (a 22, .inl (cA 0, 8, .inl (ia 21))), (a 23, .inl (cA 0, 8, .inl (ia 22))), (a 24, .inl (cA 0, 8, .inl (ia 23)))]
abbrev St : Type := (Nat → Int32) × (Nat → Int64) × (Nat → Nat → Int32) × (Nat → Nat → Int64)

set_option maxHeartbeats 4000000 in
set_option maxRecDepth 100000 in
theorem m_B_hasArea {l : Launch} {s0 : State} {D : va_G} {cA sa : Nat → Nat} (Z : zE l s0 D cA sa) (a : Nat → Nat) (ii : Nat → Int32) (li : Nat → Int64) (ia : Nat → Nat → Int32) (la : Nat → Nat → Int64) (sz : Nat) : Met l y_B_hasArea [.code y_B_hasArea c_B_hasArea 1 (some .boolean)] ({ frames := 0, cells := 0, slots := 0, locals := 0 }) (wP s0 D [.ref (a 0)] (w_B a cA ii li ia la) sz) (va_Qi (fun r (_ : Unit) => r = if li 7 < li 9 ∧ li 8 < li 10 then 1 else 0) (wB D (va_A (w_B a cA ii li ia la) sz) (fun _ => w_B a cA ii li ia la)) (va_A (w_B a cA ii li ia la) sz)) 0 0 (va_A (w_B a cA ii li ia la) sz) := by
  refine wMet Z (by decide) (Nat.le_of_ble_eq_true rfl) ?_
  intro p e s m below meth c hx hb hr hml hown hlk hin hg hK hsz hP hD hA hlo hS ls hl
  subst hsz
  have hown : s.vm.findClass R_B = some m.cls := hown
  refine lv_aload_n hx hb d_B_hasArea_0 rfl (lv_at hl 0 rfl) ?_
  refine va_get (D := D) (ci := 2) (v := .long (li 9)) (C := R_B) (T := T_B) (N := 12) hx hb (uw_B Z.1 hg.1) (fun _ h => h) hown hK hP 0 rfl rfl 9 (by decide) (kw47 Z.1 _ _ hg.1) (fun _ h9 => h9) rfl d_B_hasArea_1 ?_
  refine lv_aload_n hx hb d_B_hasArea_4 rfl (lv_at hl 0 rfl) ?_
  refine va_get (D := D) (ci := 2) (v := .long (li 7)) (C := R_B) (T := T_B) (N := 12) hx hb (uw_B Z.1 hg.1) (fun _ h => h) hown hK hP 0 rfl rfl 7 (by decide) (kw45 Z.1 _ _ hg.1) (fun _ h9 => h9) rfl d_B_hasArea_5 ?_
  refine W.lcmp hx hb d_B_hasArea_8 ?_
  refine lv_if_le (tgt := 28) hx hb d_B_hasArea_9 (by decide) (fun c1 => ?_) (fun c1 => ?_)
  · refine lv_iconst (v := 0) hx hb d_B_hasArea_28 (by decide) ?_
    exact w_zret hx hb hr rfl hlk hP hD hS () rfl (by rw [if_neg (fun q => absurd ((lg_cmp_le _ _).mp c1) (Int64.not_le.mpr q.1))]) d_B_hasArea_29
  · refine lv_aload_n hx hb d_B_hasArea_12 rfl (lv_at hl 0 rfl) ?_
    refine va_get (D := D) (ci := 2) (v := .long (li 10)) (C := R_B) (T := T_B) (N := 12) hx hb (uw_B Z.1 hg.1) (fun _ h => h) hown hK hP 0 rfl rfl 10 (by decide) (kw48 Z.1 _ _ hg.1) (fun _ h9 => h9) rfl d_B_hasArea_13 ?_
    refine lv_aload_n hx hb d_B_hasArea_16 rfl (lv_at hl 0 rfl) ?_
    refine va_get (D := D) (ci := 2) (v := .long (li 8)) (C := R_B) (T := T_B) (N := 12) hx hb (uw_B Z.1 hg.1) (fun _ h => h) hown hK hP 0 rfl rfl 8 (by decide) (kw46 Z.1 _ _ hg.1) (fun _ h9 => h9) rfl d_B_hasArea_17 ?_
    refine W.lcmp hx hb d_B_hasArea_20 ?_
    refine lv_if_le (tgt := 28) hx hb d_B_hasArea_21 (by decide) (fun c2 => ?_) (fun c2 => ?_)
    · refine lv_iconst (v := 0) hx hb d_B_hasArea_28 (by decide) ?_
      exact w_zret hx hb hr rfl hlk hP hD hS () rfl (by rw [if_neg (fun q => absurd ((lg_cmp_le _ _).mp c2) (Int64.not_le.mpr q.2))]) d_B_hasArea_29
    · refine lv_iconst (v := 1) hx hb d_B_hasArea_24 (by decide) ?_
      refine lv_goto (tgt := 29) hx hb d_B_hasArea_25 (by decide) ?_
      exact w_zret hx hb hr rfl hlk hP hD hS () rfl (by rw [if_pos ⟨Int64.not_le.mp (fun q => c1 ((lg_cmp_le _ _).mpr q)), Int64.not_le.mp (fun q => c2 ((lg_cmp_le _ _).mpr q))⟩]) d_B_hasArea_29
set_option maxHeartbeats 4000000 in
set_option maxRecDepth 100000 in
theorem m_B_wide {l : Launch} {s0 : State} {D : va_G} {cA sa : Nat → Nat} (Z : zE l s0 D cA sa) (a : Nat → Nat) (ii : Nat → Int32) (li : Nat → Int64) (ia : Nat → Nat → Int32) (la : Nat → Nat → Int64) (tn : Int32) (sz : Nat) : Met l y_B_wide [.code y_B_wide c_B_wide 2 (some .long)] ({ frames := 0, cells := 0, slots := 0, locals := 0 }) (wP s0 D [.ref (a 0), .int tn] (w_B a cA ii li ia la) sz) (va_Ql (fun r (_ : Unit) => r = if tn = 0 then li 9 - li 7 else li 10 - li 8) (wB D (va_A (w_B a cA ii li ia la) sz) (fun _ => w_B a cA ii li ia la)) (va_A (w_B a cA ii li ia la) sz)) 0 0 (va_A (w_B a cA ii li ia la) sz) := by
  refine wMet Z (by decide) (Nat.le_of_ble_eq_true rfl) ?_
  intro p e s m below meth c hx hb hr hml hown hlk hin hg hK hsz hP hD hA hlo hS ls hl
  subst hsz
  have hown : s.vm.findClass R_B = some m.cls := hown
  refine lv_iload_n hx hb d_B_wide_0 rfl (lv_at hl 1 rfl) ?_
  refine lv_if_ne (tgt := 16) hx hb d_B_wide_1 (by decide) (fun c1 => ?_) (fun c1 => ?_)
  · refine lv_aload_n hx hb d_B_wide_16 rfl (lv_at hl 0 rfl) ?_
    refine va_get (D := D) (ci := 2) (v := .long (li 10)) (C := R_B) (T := T_B) (N := 12) hx hb (uw_B Z.1 hg.1) (fun _ h => h) hown hK hP 0 rfl rfl 10 (by decide) (kw48 Z.1 _ _ hg.1) (fun _ h9 => h9) rfl d_B_wide_17 ?_
    refine lv_aload_n hx hb d_B_wide_20 rfl (lv_at hl 0 rfl) ?_
    refine va_get (D := D) (ci := 2) (v := .long (li 8)) (C := R_B) (T := T_B) (N := 12) hx hb (uw_B Z.1 hg.1) (fun _ h => h) hown hK hP 0 rfl rfl 8 (by decide) (kw46 Z.1 _ _ hg.1) (fun _ h9 => h9) rfl d_B_wide_21 ?_
    refine lv_lsub hx hb d_B_wide_24 ?_
    exact w_lret hx hb hr hlk hP hD hS () rfl (by rw [if_neg c1]) d_B_wide_25
  · refine lv_aload_n hx hb d_B_wide_4 rfl (lv_at hl 0 rfl) ?_
    refine va_get (D := D) (ci := 2) (v := .long (li 9)) (C := R_B) (T := T_B) (N := 12) hx hb (uw_B Z.1 hg.1) (fun _ h => h) hown hK hP 0 rfl rfl 9 (by decide) (kw47 Z.1 _ _ hg.1) (fun _ h9 => h9) rfl d_B_wide_5 ?_
    refine lv_aload_n hx hb d_B_wide_8 rfl (lv_at hl 0 rfl) ?_
    refine va_get (D := D) (ci := 2) (v := .long (li 7)) (C := R_B) (T := T_B) (N := 12) hx hb (uw_B Z.1 hg.1) (fun _ h => h) hown hK hP 0 rfl rfl 7 (by decide) (kw45 Z.1 _ _ hg.1) (fun _ h9 => h9) rfl d_B_wide_9 ?_
    refine lv_lsub hx hb d_B_wide_12 ?_
    refine lv_goto (tgt := 25) hx hb d_B_wide_13 (by decide) ?_
    exact w_lret hx hb hr hlk hP hD hS () rfl (by rw [if_pos c1]) d_B_wide_25
set_option maxHeartbeats 4000000 in
set_option maxRecDepth 100000 in
theorem m_B_high {l : Launch} {s0 : State} {D : va_G} {cA sa : Nat → Nat} (Z : zE l s0 D cA sa) (a : Nat → Nat) (ii : Nat → Int32) (li : Nat → Int64) (ia : Nat → Nat → Int32) (la : Nat → Nat → Int64) (tn : Int32) (sz : Nat) : Met l y_B_high [.code y_B_high c_B_high 2 (some .long)] ({ frames := 0, cells := 0, slots := 0, locals := 0 }) (wP s0 D [.ref (a 0), .int tn] (w_B a cA ii li ia la) sz) (va_Ql (fun r (_ : Unit) => r = if tn = 0 then li 10 - li 8 else li 9 - li 7) (wB D (va_A (w_B a cA ii li ia la) sz) (fun _ => w_B a cA ii li ia la)) (va_A (w_B a cA ii li ia la) sz)) 0 0 (va_A (w_B a cA ii li ia la) sz) := by
  refine wMet Z (by decide) (Nat.le_of_ble_eq_true rfl) ?_
  intro p e s m below meth c hx hb hr hml hown hlk hin hg hK hsz hP hD hA hlo hS ls hl
  subst hsz
  have hown : s.vm.findClass R_B = some m.cls := hown
  refine lv_iload_n hx hb d_B_high_0 rfl (lv_at hl 1 rfl) ?_
  refine lv_if_ne (tgt := 16) hx hb d_B_high_1 (by decide) (fun c1 => ?_) (fun c1 => ?_)
  · refine lv_aload_n hx hb d_B_high_16 rfl (lv_at hl 0 rfl) ?_
    refine va_get (D := D) (ci := 2) (v := .long (li 9)) (C := R_B) (T := T_B) (N := 12) hx hb (uw_B Z.1 hg.1) (fun _ h => h) hown hK hP 0 rfl rfl 9 (by decide) (kw47 Z.1 _ _ hg.1) (fun _ h9 => h9) rfl d_B_high_17 ?_
    refine lv_aload_n hx hb d_B_high_20 rfl (lv_at hl 0 rfl) ?_
    refine va_get (D := D) (ci := 2) (v := .long (li 7)) (C := R_B) (T := T_B) (N := 12) hx hb (uw_B Z.1 hg.1) (fun _ h => h) hown hK hP 0 rfl rfl 7 (by decide) (kw45 Z.1 _ _ hg.1) (fun _ h9 => h9) rfl d_B_high_21 ?_
    refine lv_lsub hx hb d_B_high_24 ?_
    exact w_lret hx hb hr hlk hP hD hS () rfl (by rw [if_neg c1]) d_B_high_25
  · refine lv_aload_n hx hb d_B_high_4 rfl (lv_at hl 0 rfl) ?_
    refine va_get (D := D) (ci := 2) (v := .long (li 10)) (C := R_B) (T := T_B) (N := 12) hx hb (uw_B Z.1 hg.1) (fun _ h => h) hown hK hP 0 rfl rfl 10 (by decide) (kw48 Z.1 _ _ hg.1) (fun _ h9 => h9) rfl d_B_high_5 ?_
    refine lv_aload_n hx hb d_B_high_8 rfl (lv_at hl 0 rfl) ?_
    refine va_get (D := D) (ci := 2) (v := .long (li 8)) (C := R_B) (T := T_B) (N := 12) hx hb (uw_B Z.1 hg.1) (fun _ h => h) hown hK hP 0 rfl rfl 8 (by decide) (kw46 Z.1 _ _ hg.1) (fun _ h9 => h9) rfl d_B_high_9 ?_
    refine lv_lsub hx hb d_B_high_12 ?_
    refine lv_goto (tgt := 25) hx hb d_B_high_13 (by decide) ?_
    exact w_lret hx hb hr hlk hP hD hS () rfl (by rw [if_pos c1]) d_B_high_25
def bc_li (li : Nat → Int64) (n : Int32) (x y : Int64) : Nat → Int64 := if n = 0 then va_up (va_up (va_up (va_up li 7 x) 8 y) 9 x) 10 y else va_up (va_up (va_up (va_up li 7 (if x < li 7 then x else li 7)) 8 (if y < li 8 then y else li 8)) 9 (if x < li 9 then li 9 else x)) 10 (if y < li 10 then li 10 else y)
set_option maxHeartbeats 4000000 in
set_option maxRecDepth 100000 in
theorem m_B_addCorner {l : Launch} {s0 : State} {D : va_G} {cA sa : Nat → Nat} (Z : zE l s0 D cA sa) (a : Nat → Nat) (ii : Nat → Int32) (li : Nat → Int64) (ia : Nat → Nat → Int32) (la : Nat → Nat → Int64) (x y : Int64) (n : Nat) (hn : ii 5 = nI n) (hn2 : n ≤ 12) (sz : Nat) : Met l y_B_addCorner [.code y_B_addCorner c_B_addCorner 5 (some .boolean)] ({ frames := 1, cells := 0, slots := 0, locals := 30 }) (wP s0 D [.ref (a 0), .long x, .long y] (w_B a cA ii li ia la) sz) (va_Qi (fun r (u : St) => if n < 12 then r = 1 ∧ u = (va_up ii 5 (ii 5 + 1), bc_li li (ii 5) x y, ia, va_up (va_up la 0 (vp_updL (la 0) n x)) 1 (vp_updL (la 1) n y)) else r = 0 ∧ u = (ii, li, ia, la)) (wB D (va_A (w_B a cA ii li ia la) sz) (fun u => w_B a cA u.1 u.2.1 u.2.2.1 u.2.2.2)) (va_A (w_B a cA ii li ia la) sz)) 0 0 (va_A (w_B a cA ii li ia la) sz) := by
  refine wMet Z (by decide) (Nat.le_of_ble_eq_true rfl) ?_
  intro p e s m below meth c hx hb hr hml hown hlk hin hg hK hsz hP hD hA hlo hS ls hl
  subst hsz
  have hown : s.vm.findClass R_B = some m.cls := hown
  refine lv_aload_n hx hb d_B_addCorner_0 rfl (lv_at hl 0 rfl) ?_
  refine va_get (D := D) (ci := 2) (v := .int (ii 5)) (C := R_B) (T := T_B) (N := 12) hx hb (uw_B Z.1 hg.1) (fun _ h => h) hown hK hP 0 rfl rfl 5 (by decide) (kw43 Z.1 _ _ hg.1) (fun _ h9 => h9) rfl d_B_addCorner_1 ?_
  refine lv_bipush (v := 12) hx hb d_B_addCorner_4 (by decide) ?_
  refine lv_icmp_lt (tgt := 11) hx hb d_B_addCorner_6 (by decide) (fun c1 => ?_) (fun c1 => ?_)
  · have hlt : n < 12 := (nI_ltI (b := 12) (by omega) (by decide)).mp (by rw [← hn]; exact c1)
    have h_in : vp_in (ii 5) 12 := by rw [hn]; exact vp_in_nI hlt (by decide)
    have h_cl : (ii 5).toNatClampNeg = n := by rw [hn]; exact nI_clamp (by omega)
    refine lv_aload_n hx hb d_B_addCorner_11 rfl (lv_at hl 0 rfl) ?_
    refine lv_aload_n hx hb d_B_addCorner_12 rfl (lv_at hl 0 rfl) ?_
    refine va_get (D := D) (ci := 2) (v := .int (ii 5)) (C := R_B) (T := T_B) (N := 12) hx hb (uw_B Z.1 hg.1) (fun _ h => h) hown hK hP 0 rfl rfl 5 (by decide) (kw43 Z.1 _ _ hg.1) (fun _ h9 => h9) rfl d_B_addCorner_13 ?_
    refine lv_if_ne (tgt := 23) hx hb d_B_addCorner_16 (by decide) (fun z2 => ?_) (fun z2 => ?_)
    · refine lv_aload_n hx hb d_B_addCorner_23 rfl (lv_at hl 0 rfl) ?_
      refine va_get (D := D) (ci := 2) (v := .long (li 7)) (C := R_B) (T := T_B) (N := 12) hx hb (uw_B Z.1 hg.1) (fun _ h => h) hown hK hP 0 rfl rfl 7 (by decide) (kw45 Z.1 _ _ hg.1) (fun _ h9 => h9) rfl d_B_addCorner_24 ?_
      refine lv_lload_n hx hb d_B_addCorner_27 rfl (lv_at hl 1 rfl) ?_
      refine va_mmin_long hx hb (hml.trans hl.1.symm) hown (kw367 Z.1 _ _ hg.1) (kw26 Z.1 _ _ hg.1) (kw2 Z.1 _ _ hg.1) (kw27 Z.1 _ _ hg.1) (Nat.le_of_ble_eq_true rfl) (Nat.le_of_ble_eq_true rfl) (Nat.le_of_ble_eq_true rfl) (Nat.le_of_ble_eq_true rfl) d_B_addCorner_28 ?_
      refine lv_topl (fun z3 ez3 => ?_)
      refine va_put (D := D) (ci := 2) (v := .long z3) (ty := t_B 7) (C := R_B) (T := T_B) (N := 12) hx hb (uw_B Z.1 hg.1) (fun _ h => h) t_B t_B_ok n_B hown hK hP hD hS 0 rfl rfl 7 (by decide) (kw45 Z.1 _ _ hg.1) (fun _ h9 => h9) rfl (by decide +kernel) rfl rfl (Nat.le_of_ble_eq_true rfl) d_B_addCorner_31 (fun H locs hP hD hS => ?_)
      have hP : va_P D ncl (w_B a cA ii (va_up li 7 z3) ia la) H := hP
      have hD : va_D _ (w_B a cA ii (va_up li 7 z3) ia la) := hD
      refine lv_aload_n hx hb d_B_addCorner_34 rfl (lv_at hl 0 rfl) ?_
      refine lv_aload_n hx hb d_B_addCorner_35 rfl (lv_at hl 0 rfl) ?_
      refine va_get (D := D) (ci := 2) (v := .int (ii 5)) (C := R_B) (T := T_B) (N := 12) hx hb (uw_B Z.1 hg.1) (fun _ h => h) hown hK hP 0 rfl rfl 5 (by decide) (kw43 Z.1 _ _ hg.1) (fun _ h9 => h9) rfl d_B_addCorner_36 ?_
      refine lv_if_ne (tgt := 46) hx hb d_B_addCorner_39 (by decide) (fun _ => ?_) (fun k4 => by first | exact absurd z2 k4 | exact absurd k4 z2)
      refine lv_aload_n hx hb d_B_addCorner_46 rfl (lv_at hl 0 rfl) ?_
      refine va_get (D := D) (ci := 2) (v := .long (li 8)) (C := R_B) (T := T_B) (N := 12) hx hb (uw_B Z.1 hg.1) (fun _ h => h) hown hK hP 0 rfl rfl 8 (by decide) (kw46 Z.1 _ _ hg.1) (fun _ h9 => h9) rfl d_B_addCorner_47 ?_
      refine lv_lload_n hx hb d_B_addCorner_50 rfl (lv_at hl 2 rfl) ?_
      refine va_mmin_long hx hb (hml.trans hl.1.symm) hown (kw367 Z.1 _ _ hg.1) (kw26 Z.1 _ _ hg.1) (kw2 Z.1 _ _ hg.1) (kw27 Z.1 _ _ hg.1) (Nat.le_of_ble_eq_true rfl) (Nat.le_of_ble_eq_true rfl) (Nat.le_of_ble_eq_true rfl) (Nat.le_of_ble_eq_true rfl) d_B_addCorner_51 ?_
      refine lv_topl (fun z5 ez5 => ?_)
      refine va_put (D := D) (ci := 2) (v := .long z5) (ty := t_B 8) (C := R_B) (T := T_B) (N := 12) hx hb (uw_B Z.1 hg.1) (fun _ h => h) t_B t_B_ok n_B hown hK hP hD hS 0 rfl rfl 8 (by decide) (kw46 Z.1 _ _ hg.1) (fun _ h9 => h9) rfl (by decide +kernel) rfl rfl (Nat.le_of_ble_eq_true rfl) d_B_addCorner_54 (fun H locs hP hD hS => ?_)
      have hP : va_P D ncl (w_B a cA ii (va_up (va_up li 7 z3) 8 z5) ia la) H := hP
      have hD : va_D _ (w_B a cA ii (va_up (va_up li 7 z3) 8 z5) ia la) := hD
      refine lv_aload_n hx hb d_B_addCorner_57 rfl (lv_at hl 0 rfl) ?_
      refine lv_aload_n hx hb d_B_addCorner_58 rfl (lv_at hl 0 rfl) ?_
      refine va_get (D := D) (ci := 2) (v := .int (ii 5)) (C := R_B) (T := T_B) (N := 12) hx hb (uw_B Z.1 hg.1) (fun _ h => h) hown hK hP 0 rfl rfl 5 (by decide) (kw43 Z.1 _ _ hg.1) (fun _ h9 => h9) rfl d_B_addCorner_59 ?_
      refine lv_if_ne (tgt := 69) hx hb d_B_addCorner_62 (by decide) (fun _ => ?_) (fun k6 => by first | exact absurd z2 k6 | exact absurd k6 z2)
      refine lv_aload_n hx hb d_B_addCorner_69 rfl (lv_at hl 0 rfl) ?_
      refine va_get (D := D) (ci := 2) (v := .long (li 9)) (C := R_B) (T := T_B) (N := 12) hx hb (uw_B Z.1 hg.1) (fun _ h => h) hown hK hP 0 rfl rfl 9 (by decide) (kw47 Z.1 _ _ hg.1) (fun _ h9 => h9) rfl d_B_addCorner_70 ?_
      refine lv_lload_n hx hb d_B_addCorner_73 rfl (lv_at hl 1 rfl) ?_
      refine va_mmax_long hx hb (hml.trans hl.1.symm) hown (kw368 Z.1 _ _ hg.1) (kw29 Z.1 _ _ hg.1) (kw2 Z.1 _ _ hg.1) (kw30 Z.1 _ _ hg.1) (Nat.le_of_ble_eq_true rfl) (Nat.le_of_ble_eq_true rfl) (Nat.le_of_ble_eq_true rfl) (Nat.le_of_ble_eq_true rfl) d_B_addCorner_74 ?_
      refine lv_topl (fun z7 ez7 => ?_)
      refine va_put (D := D) (ci := 2) (v := .long z7) (ty := t_B 9) (C := R_B) (T := T_B) (N := 12) hx hb (uw_B Z.1 hg.1) (fun _ h => h) t_B t_B_ok n_B hown hK hP hD hS 0 rfl rfl 9 (by decide) (kw47 Z.1 _ _ hg.1) (fun _ h9 => h9) rfl (by decide +kernel) rfl rfl (Nat.le_of_ble_eq_true rfl) d_B_addCorner_77 (fun H locs hP hD hS => ?_)
      have hP : va_P D ncl (w_B a cA ii (va_up (va_up (va_up li 7 z3) 8 z5) 9 z7) ia la) H := hP
      have hD : va_D _ (w_B a cA ii (va_up (va_up (va_up li 7 z3) 8 z5) 9 z7) ia la) := hD
      refine lv_aload_n hx hb d_B_addCorner_80 rfl (lv_at hl 0 rfl) ?_
      refine lv_aload_n hx hb d_B_addCorner_81 rfl (lv_at hl 0 rfl) ?_
      refine va_get (D := D) (ci := 2) (v := .int (ii 5)) (C := R_B) (T := T_B) (N := 12) hx hb (uw_B Z.1 hg.1) (fun _ h => h) hown hK hP 0 rfl rfl 5 (by decide) (kw43 Z.1 _ _ hg.1) (fun _ h9 => h9) rfl d_B_addCorner_82 ?_
      refine lv_if_ne (tgt := 92) hx hb d_B_addCorner_85 (by decide) (fun _ => ?_) (fun k8 => by first | exact absurd z2 k8 | exact absurd k8 z2)
      refine lv_aload_n hx hb d_B_addCorner_92 rfl (lv_at hl 0 rfl) ?_
      refine va_get (D := D) (ci := 2) (v := .long (li 10)) (C := R_B) (T := T_B) (N := 12) hx hb (uw_B Z.1 hg.1) (fun _ h => h) hown hK hP 0 rfl rfl 10 (by decide) (kw48 Z.1 _ _ hg.1) (fun _ h9 => h9) rfl d_B_addCorner_93 ?_
      refine lv_lload_n hx hb d_B_addCorner_96 rfl (lv_at hl 2 rfl) ?_
      refine va_mmax_long hx hb (hml.trans hl.1.symm) hown (kw368 Z.1 _ _ hg.1) (kw29 Z.1 _ _ hg.1) (kw2 Z.1 _ _ hg.1) (kw30 Z.1 _ _ hg.1) (Nat.le_of_ble_eq_true rfl) (Nat.le_of_ble_eq_true rfl) (Nat.le_of_ble_eq_true rfl) (Nat.le_of_ble_eq_true rfl) d_B_addCorner_97 ?_
      refine lv_topl (fun z9 ez9 => ?_)
      refine va_put (D := D) (ci := 2) (v := .long z9) (ty := t_B 10) (C := R_B) (T := T_B) (N := 12) hx hb (uw_B Z.1 hg.1) (fun _ h => h) t_B t_B_ok n_B hown hK hP hD hS 0 rfl rfl 10 (by decide) (kw48 Z.1 _ _ hg.1) (fun _ h9 => h9) rfl (by decide +kernel) rfl rfl (Nat.le_of_ble_eq_true rfl) d_B_addCorner_100 (fun H locs hP hD hS => ?_)
      have hP : va_P D ncl (w_B a cA ii (va_up (va_up (va_up (va_up li 7 z3) 8 z5) 9 z7) 10 z9) ia la) H := hP
      have hD : va_D _ (w_B a cA ii (va_up (va_up (va_up (va_up li 7 z3) 8 z5) 9 z7) 10 z9) ia la) := hD
      refine lv_aload_n hx hb d_B_addCorner_103 rfl (lv_at hl 0 rfl) ?_
      refine va_get (D := D) (ci := 2) (v := .ref (a 1)) (C := R_B) (T := T_B) (N := 12) hx hb (uw_B Z.1 hg.1) (fun _ h => h) hown hK hP 0 rfl rfl 0 (by decide) (kw38 Z.1 _ _ hg.1) (fun _ h9 => h9) rfl d_B_addCorner_104 ?_
      refine lv_aload_n hx hb d_B_addCorner_107 rfl (lv_at hl 0 rfl) ?_
      refine va_get (D := D) (ci := 2) (v := .int (ii 5)) (C := R_B) (T := T_B) (N := 12) hx hb (uw_B Z.1 hg.1) (fun _ h => h) hown hK hP 0 rfl rfl 5 (by decide) (kw43 Z.1 _ _ hg.1) (fun _ h9 => h9) rfl d_B_addCorner_108 ?_
      refine lv_lload_n hx hb d_B_addCorner_111 rfl (lv_at hl 1 rfl) ?_
      refine va_last hx hb hK hP hD hS 1 1 rfl rfl h_in d_B_addCorner_112 (fun H locs hP hD hS => ?_)
      have hP : va_P D ncl (w_B a cA ii (va_up (va_up (va_up (va_up li 7 z3) 8 z5) 9 z7) 10 z9) ia (va_up la 0 (vp_updL (la 0) (Int32.toNatClampNeg (ii 5)) x))) H := hP
      have hD : va_D _ (w_B a cA ii (va_up (va_up (va_up (va_up li 7 z3) 8 z5) 9 z7) 10 z9) ia (va_up la 0 (vp_updL (la 0) (Int32.toNatClampNeg (ii 5)) x))) := hD
      refine lv_aload_n hx hb d_B_addCorner_113 rfl (lv_at hl 0 rfl) ?_
      refine va_get (D := D) (ci := 2) (v := .ref (a 2)) (C := R_B) (T := T_B) (N := 12) hx hb (uw_B Z.1 hg.1) (fun _ h => h) hown hK hP 0 rfl rfl 1 (by decide) (kw39 Z.1 _ _ hg.1) (fun _ h9 => h9) rfl d_B_addCorner_114 ?_
      refine lv_aload_n hx hb d_B_addCorner_117 rfl (lv_at hl 0 rfl) ?_
      refine va_get (D := D) (ci := 2) (v := .int (ii 5)) (C := R_B) (T := T_B) (N := 12) hx hb (uw_B Z.1 hg.1) (fun _ h => h) hown hK hP 0 rfl rfl 5 (by decide) (kw43 Z.1 _ _ hg.1) (fun _ h9 => h9) rfl d_B_addCorner_118 ?_
      refine lv_lload_n hx hb d_B_addCorner_121 rfl (lv_at hl 2 rfl) ?_
      refine va_last hx hb hK hP hD hS 2 1 rfl rfl h_in d_B_addCorner_122 (fun H locs hP hD hS => ?_)
      have hP : va_P D ncl (w_B a cA ii (va_up (va_up (va_up (va_up li 7 z3) 8 z5) 9 z7) 10 z9) ia (va_up (va_up la 0 (vp_updL (la 0) (Int32.toNatClampNeg (ii 5)) x)) 1 (vp_updL (la 1) (Int32.toNatClampNeg (ii 5)) y))) H := hP
      have hD : va_D _ (w_B a cA ii (va_up (va_up (va_up (va_up li 7 z3) 8 z5) 9 z7) 10 z9) ia (va_up (va_up la 0 (vp_updL (la 0) (Int32.toNatClampNeg (ii 5)) x)) 1 (vp_updL (la 1) (Int32.toNatClampNeg (ii 5)) y))) := hD
      refine lv_aload_n hx hb d_B_addCorner_123 rfl (lv_at hl 0 rfl) ?_
      refine lv_dup hx hb d_B_addCorner_124 rfl ?_
      refine va_get (D := D) (ci := 2) (v := .int (ii 5)) (C := R_B) (T := T_B) (N := 12) hx hb (uw_B Z.1 hg.1) (fun _ h => h) hown hK hP 0 rfl rfl 5 (by decide) (kw43 Z.1 _ _ hg.1) (fun _ h9 => h9) rfl d_B_addCorner_125 ?_
      refine lv_iconst (v := 1) hx hb d_B_addCorner_128 (by decide) ?_
      refine lv_iadd hx hb d_B_addCorner_129 ?_
      refine va_put (D := D) (ci := 2) (v := .int ((ii 5) + 1)) (ty := t_B 5) (C := R_B) (T := T_B) (N := 12) hx hb (uw_B Z.1 hg.1) (fun _ h => h) t_B t_B_ok n_B hown hK hP hD hS 0 rfl rfl 5 (by decide) (kw43 Z.1 _ _ hg.1) (fun _ h9 => h9) rfl (by decide +kernel) rfl rfl (Nat.le_of_ble_eq_true rfl) d_B_addCorner_130 (fun H locs hP hD hS => ?_)
      have hP : va_P D ncl (w_B a cA (va_up ii 5 ((ii 5) + 1)) (va_up (va_up (va_up (va_up li 7 z3) 8 z5) 9 z7) 10 z9) ia (va_up (va_up la 0 (vp_updL (la 0) (Int32.toNatClampNeg (ii 5)) x)) 1 (vp_updL (la 1) (Int32.toNatClampNeg (ii 5)) y))) H := hP
      have hD : va_D _ (w_B a cA (va_up ii 5 ((ii 5) + 1)) (va_up (va_up (va_up (va_up li 7 z3) 8 z5) 9 z7) 10 z9) ia (va_up (va_up la 0 (vp_updL (la 0) (Int32.toNatClampNeg (ii 5)) x)) 1 (vp_updL (la 1) (Int32.toNatClampNeg (ii 5)) y))) := hD
      refine lv_iconst (v := 1) hx hb d_B_addCorner_133 (by decide) ?_
      exact w_zret hx hb hr rfl hlk hP hD hS ((va_up ii 5 ((ii 5) + 1)), (va_up (va_up (va_up (va_up li 7 z3) 8 z5) 9 z7) 10 z9), ia, (va_up (va_up la 0 (vp_updL (la 0) (Int32.toNatClampNeg (ii 5)) x)) 1 (vp_updL (la 1) (Int32.toNatClampNeg (ii 5)) y))) rfl (by rw [if_pos hlt]; refine ⟨rfl, ?_⟩; unfold bc_li; rw [if_neg z2, h_cl, ez3, ez5, ez7, ez9]) d_B_addCorner_134
    · refine lv_lload_n hx hb d_B_addCorner_19 rfl (lv_at hl 1 rfl) ?_
      refine lv_goto (tgt := 31) hx hb d_B_addCorner_20 (by decide) ?_
      refine va_put (D := D) (ci := 2) (v := .long x) (ty := t_B 7) (C := R_B) (T := T_B) (N := 12) hx hb (uw_B Z.1 hg.1) (fun _ h => h) t_B t_B_ok n_B hown hK hP hD hS 0 rfl rfl 7 (by decide) (kw45 Z.1 _ _ hg.1) (fun _ h9 => h9) rfl (by decide +kernel) rfl rfl (Nat.le_of_ble_eq_true rfl) d_B_addCorner_31 (fun H locs hP hD hS => ?_)
      have hP : va_P D ncl (w_B a cA ii (va_up li 7 x) ia la) H := hP
      have hD : va_D _ (w_B a cA ii (va_up li 7 x) ia la) := hD
      refine lv_aload_n hx hb d_B_addCorner_34 rfl (lv_at hl 0 rfl) ?_
      refine lv_aload_n hx hb d_B_addCorner_35 rfl (lv_at hl 0 rfl) ?_
      refine va_get (D := D) (ci := 2) (v := .int (ii 5)) (C := R_B) (T := T_B) (N := 12) hx hb (uw_B Z.1 hg.1) (fun _ h => h) hown hK hP 0 rfl rfl 5 (by decide) (kw43 Z.1 _ _ hg.1) (fun _ h9 => h9) rfl d_B_addCorner_36 ?_
      refine lv_if_ne (tgt := 46) hx hb d_B_addCorner_39 (by decide) (fun k10 => by first | exact absurd z2 k10 | exact absurd k10 z2) (fun _ => ?_)
      refine lv_lload_n hx hb d_B_addCorner_42 rfl (lv_at hl 2 rfl) ?_
      refine lv_goto (tgt := 54) hx hb d_B_addCorner_43 (by decide) ?_
      refine va_put (D := D) (ci := 2) (v := .long y) (ty := t_B 8) (C := R_B) (T := T_B) (N := 12) hx hb (uw_B Z.1 hg.1) (fun _ h => h) t_B t_B_ok n_B hown hK hP hD hS 0 rfl rfl 8 (by decide) (kw46 Z.1 _ _ hg.1) (fun _ h9 => h9) rfl (by decide +kernel) rfl rfl (Nat.le_of_ble_eq_true rfl) d_B_addCorner_54 (fun H locs hP hD hS => ?_)
      have hP : va_P D ncl (w_B a cA ii (va_up (va_up li 7 x) 8 y) ia la) H := hP
      have hD : va_D _ (w_B a cA ii (va_up (va_up li 7 x) 8 y) ia la) := hD
      refine lv_aload_n hx hb d_B_addCorner_57 rfl (lv_at hl 0 rfl) ?_
      refine lv_aload_n hx hb d_B_addCorner_58 rfl (lv_at hl 0 rfl) ?_
      refine va_get (D := D) (ci := 2) (v := .int (ii 5)) (C := R_B) (T := T_B) (N := 12) hx hb (uw_B Z.1 hg.1) (fun _ h => h) hown hK hP 0 rfl rfl 5 (by decide) (kw43 Z.1 _ _ hg.1) (fun _ h9 => h9) rfl d_B_addCorner_59 ?_
      refine lv_if_ne (tgt := 69) hx hb d_B_addCorner_62 (by decide) (fun k11 => by first | exact absurd z2 k11 | exact absurd k11 z2) (fun _ => ?_)
      refine lv_lload_n hx hb d_B_addCorner_65 rfl (lv_at hl 1 rfl) ?_
      refine lv_goto (tgt := 77) hx hb d_B_addCorner_66 (by decide) ?_
      refine va_put (D := D) (ci := 2) (v := .long x) (ty := t_B 9) (C := R_B) (T := T_B) (N := 12) hx hb (uw_B Z.1 hg.1) (fun _ h => h) t_B t_B_ok n_B hown hK hP hD hS 0 rfl rfl 9 (by decide) (kw47 Z.1 _ _ hg.1) (fun _ h9 => h9) rfl (by decide +kernel) rfl rfl (Nat.le_of_ble_eq_true rfl) d_B_addCorner_77 (fun H locs hP hD hS => ?_)
      have hP : va_P D ncl (w_B a cA ii (va_up (va_up (va_up li 7 x) 8 y) 9 x) ia la) H := hP
      have hD : va_D _ (w_B a cA ii (va_up (va_up (va_up li 7 x) 8 y) 9 x) ia la) := hD
      refine lv_aload_n hx hb d_B_addCorner_80 rfl (lv_at hl 0 rfl) ?_
      refine lv_aload_n hx hb d_B_addCorner_81 rfl (lv_at hl 0 rfl) ?_
      refine va_get (D := D) (ci := 2) (v := .int (ii 5)) (C := R_B) (T := T_B) (N := 12) hx hb (uw_B Z.1 hg.1) (fun _ h => h) hown hK hP 0 rfl rfl 5 (by decide) (kw43 Z.1 _ _ hg.1) (fun _ h9 => h9) rfl d_B_addCorner_82 ?_
      refine lv_if_ne (tgt := 92) hx hb d_B_addCorner_85 (by decide) (fun k12 => by first | exact absurd z2 k12 | exact absurd k12 z2) (fun _ => ?_)
      refine lv_lload_n hx hb d_B_addCorner_88 rfl (lv_at hl 2 rfl) ?_
      refine lv_goto (tgt := 100) hx hb d_B_addCorner_89 (by decide) ?_
      refine va_put (D := D) (ci := 2) (v := .long y) (ty := t_B 10) (C := R_B) (T := T_B) (N := 12) hx hb (uw_B Z.1 hg.1) (fun _ h => h) t_B t_B_ok n_B hown hK hP hD hS 0 rfl rfl 10 (by decide) (kw48 Z.1 _ _ hg.1) (fun _ h9 => h9) rfl (by decide +kernel) rfl rfl (Nat.le_of_ble_eq_true rfl) d_B_addCorner_100 (fun H locs hP hD hS => ?_)
      have hP : va_P D ncl (w_B a cA ii (va_up (va_up (va_up (va_up li 7 x) 8 y) 9 x) 10 y) ia la) H := hP
      have hD : va_D _ (w_B a cA ii (va_up (va_up (va_up (va_up li 7 x) 8 y) 9 x) 10 y) ia la) := hD
      refine lv_aload_n hx hb d_B_addCorner_103 rfl (lv_at hl 0 rfl) ?_
      refine va_get (D := D) (ci := 2) (v := .ref (a 1)) (C := R_B) (T := T_B) (N := 12) hx hb (uw_B Z.1 hg.1) (fun _ h => h) hown hK hP 0 rfl rfl 0 (by decide) (kw38 Z.1 _ _ hg.1) (fun _ h9 => h9) rfl d_B_addCorner_104 ?_
      refine lv_aload_n hx hb d_B_addCorner_107 rfl (lv_at hl 0 rfl) ?_
      refine va_get (D := D) (ci := 2) (v := .int (ii 5)) (C := R_B) (T := T_B) (N := 12) hx hb (uw_B Z.1 hg.1) (fun _ h => h) hown hK hP 0 rfl rfl 5 (by decide) (kw43 Z.1 _ _ hg.1) (fun _ h9 => h9) rfl d_B_addCorner_108 ?_
      refine lv_lload_n hx hb d_B_addCorner_111 rfl (lv_at hl 1 rfl) ?_
      refine va_last hx hb hK hP hD hS 1 1 rfl rfl h_in d_B_addCorner_112 (fun H locs hP hD hS => ?_)
      have hP : va_P D ncl (w_B a cA ii (va_up (va_up (va_up (va_up li 7 x) 8 y) 9 x) 10 y) ia (va_up la 0 (vp_updL (la 0) (Int32.toNatClampNeg (ii 5)) x))) H := hP
      have hD : va_D _ (w_B a cA ii (va_up (va_up (va_up (va_up li 7 x) 8 y) 9 x) 10 y) ia (va_up la 0 (vp_updL (la 0) (Int32.toNatClampNeg (ii 5)) x))) := hD
      refine lv_aload_n hx hb d_B_addCorner_113 rfl (lv_at hl 0 rfl) ?_
      refine va_get (D := D) (ci := 2) (v := .ref (a 2)) (C := R_B) (T := T_B) (N := 12) hx hb (uw_B Z.1 hg.1) (fun _ h => h) hown hK hP 0 rfl rfl 1 (by decide) (kw39 Z.1 _ _ hg.1) (fun _ h9 => h9) rfl d_B_addCorner_114 ?_
      refine lv_aload_n hx hb d_B_addCorner_117 rfl (lv_at hl 0 rfl) ?_
      refine va_get (D := D) (ci := 2) (v := .int (ii 5)) (C := R_B) (T := T_B) (N := 12) hx hb (uw_B Z.1 hg.1) (fun _ h => h) hown hK hP 0 rfl rfl 5 (by decide) (kw43 Z.1 _ _ hg.1) (fun _ h9 => h9) rfl d_B_addCorner_118 ?_
      refine lv_lload_n hx hb d_B_addCorner_121 rfl (lv_at hl 2 rfl) ?_
      refine va_last hx hb hK hP hD hS 2 1 rfl rfl h_in d_B_addCorner_122 (fun H locs hP hD hS => ?_)
      have hP : va_P D ncl (w_B a cA ii (va_up (va_up (va_up (va_up li 7 x) 8 y) 9 x) 10 y) ia (va_up (va_up la 0 (vp_updL (la 0) (Int32.toNatClampNeg (ii 5)) x)) 1 (vp_updL (la 1) (Int32.toNatClampNeg (ii 5)) y))) H := hP
      have hD : va_D _ (w_B a cA ii (va_up (va_up (va_up (va_up li 7 x) 8 y) 9 x) 10 y) ia (va_up (va_up la 0 (vp_updL (la 0) (Int32.toNatClampNeg (ii 5)) x)) 1 (vp_updL (la 1) (Int32.toNatClampNeg (ii 5)) y))) := hD
      refine lv_aload_n hx hb d_B_addCorner_123 rfl (lv_at hl 0 rfl) ?_
      refine lv_dup hx hb d_B_addCorner_124 rfl ?_
      refine va_get (D := D) (ci := 2) (v := .int (ii 5)) (C := R_B) (T := T_B) (N := 12) hx hb (uw_B Z.1 hg.1) (fun _ h => h) hown hK hP 0 rfl rfl 5 (by decide) (kw43 Z.1 _ _ hg.1) (fun _ h9 => h9) rfl d_B_addCorner_125 ?_
      refine lv_iconst (v := 1) hx hb d_B_addCorner_128 (by decide) ?_
      refine lv_iadd hx hb d_B_addCorner_129 ?_
      refine va_put (D := D) (ci := 2) (v := .int ((ii 5) + 1)) (ty := t_B 5) (C := R_B) (T := T_B) (N := 12) hx hb (uw_B Z.1 hg.1) (fun _ h => h) t_B t_B_ok n_B hown hK hP hD hS 0 rfl rfl 5 (by decide) (kw43 Z.1 _ _ hg.1) (fun _ h9 => h9) rfl (by decide +kernel) rfl rfl (Nat.le_of_ble_eq_true rfl) d_B_addCorner_130 (fun H locs hP hD hS => ?_)
      have hP : va_P D ncl (w_B a cA (va_up ii 5 ((ii 5) + 1)) (va_up (va_up (va_up (va_up li 7 x) 8 y) 9 x) 10 y) ia (va_up (va_up la 0 (vp_updL (la 0) (Int32.toNatClampNeg (ii 5)) x)) 1 (vp_updL (la 1) (Int32.toNatClampNeg (ii 5)) y))) H := hP
      have hD : va_D _ (w_B a cA (va_up ii 5 ((ii 5) + 1)) (va_up (va_up (va_up (va_up li 7 x) 8 y) 9 x) 10 y) ia (va_up (va_up la 0 (vp_updL (la 0) (Int32.toNatClampNeg (ii 5)) x)) 1 (vp_updL (la 1) (Int32.toNatClampNeg (ii 5)) y))) := hD
      refine lv_iconst (v := 1) hx hb d_B_addCorner_133 (by decide) ?_
      exact w_zret hx hb hr rfl hlk hP hD hS ((va_up ii 5 ((ii 5) + 1)), (va_up (va_up (va_up (va_up li 7 x) 8 y) 9 x) 10 y), ia, (va_up (va_up la 0 (vp_updL (la 0) (Int32.toNatClampNeg (ii 5)) x)) 1 (vp_updL (la 1) (Int32.toNatClampNeg (ii 5)) y))) rfl (by rw [if_pos hlt]; refine ⟨rfl, ?_⟩; unfold bc_li; rw [if_pos z2, h_cl]) d_B_addCorner_134
  · refine lv_iconst (v := 0) hx hb d_B_addCorner_9 (by decide) ?_
    exact w_zret hx hb hr rfl hlk hP hD hS (ii, li, ia, la) rfl (by rw [if_neg (fun q => c1 (by rw [hn]; exact (nI_ltI (by omega) (by decide)).mpr q))]; exact ⟨rfl, rfl⟩) d_B_addCorner_10
set_option maxHeartbeats 4000000 in
set_option maxRecDepth 100000 in
theorem m_B_addPart {l : Launch} {s0 : State} {D : va_G} {cA sa : Nat → Nat} (Z : zE l s0 D cA sa) (a : Nat → Nat) (ii : Nat → Int32) (li : Nat → Int64) (ia : Nat → Nat → Int32) (la : Nat → Nat → Int64) (x y r0 : Int64) (n : Nat) (hn : ii 6 = nI n) (hn2 : n ≤ 10) (sz : Nat) : Met l y_B_addPart [.code y_B_addPart c_B_addPart 7 (some .boolean)] ({ frames := 0, cells := 0, slots := 0, locals := 0 }) (wP s0 D [.ref (a 0), .long x, .long y, .long r0] (w_B a cA ii li ia la) sz) (va_Qi (fun r (u : St) => if n < 10 then r = 1 ∧ u = (va_up ii 6 (ii 6 + 1), li, ia, va_up (va_up (va_up la 2 (vp_updL (la 2) n x)) 3 (vp_updL (la 3) n y)) 4 (vp_updL (la 4) n r0)) else r = 0 ∧ u = (ii, li, ia, la)) (wB D (va_A (w_B a cA ii li ia la) sz) (fun u => w_B a cA u.1 u.2.1 u.2.2.1 u.2.2.2)) (va_A (w_B a cA ii li ia la) sz)) 0 0 (va_A (w_B a cA ii li ia la) sz) := by
  refine wMet Z (by decide) (Nat.le_of_ble_eq_true rfl) ?_
  intro p e s m below meth c hx hb hr hml hown hlk hin hg hK hsz hP hD hA hlo hS ls hl
  subst hsz
  have hown : s.vm.findClass R_B = some m.cls := hown
  refine lv_aload_n hx hb d_B_addPart_0 rfl (lv_at hl 0 rfl) ?_
  refine va_get (D := D) (ci := 2) (v := .int (ii 6)) (C := R_B) (T := T_B) (N := 12) hx hb (uw_B Z.1 hg.1) (fun _ h => h) hown hK hP 0 rfl rfl 6 (by decide) (kw44 Z.1 _ _ hg.1) (fun _ h9 => h9) rfl d_B_addPart_1 ?_
  refine lv_bipush (v := 10) hx hb d_B_addPart_4 (by decide) ?_
  refine lv_icmp_lt (tgt := 11) hx hb d_B_addPart_6 (by decide) (fun c1 => ?_) (fun c1 => ?_)
  · have hlt : n < 10 := (nI_ltI (b := 10) (by omega) (by decide)).mp (by rw [← hn]; exact c1)
    have h_in : vp_in (ii 6) 10 := by rw [hn]; exact vp_in_nI hlt (by decide)
    have h_cl : (ii 6).toNatClampNeg = n := by rw [hn]; exact nI_clamp (by omega)
    refine lv_aload_n hx hb d_B_addPart_11 rfl (lv_at hl 0 rfl) ?_
    refine va_get (D := D) (ci := 2) (v := .ref (a 3)) (C := R_B) (T := T_B) (N := 12) hx hb (uw_B Z.1 hg.1) (fun _ h => h) hown hK hP 0 rfl rfl 2 (by decide) (kw40 Z.1 _ _ hg.1) (fun _ h9 => h9) rfl d_B_addPart_12 ?_
    refine lv_aload_n hx hb d_B_addPart_15 rfl (lv_at hl 0 rfl) ?_
    refine va_get (D := D) (ci := 2) (v := .int (ii 6)) (C := R_B) (T := T_B) (N := 12) hx hb (uw_B Z.1 hg.1) (fun _ h => h) hown hK hP 0 rfl rfl 6 (by decide) (kw44 Z.1 _ _ hg.1) (fun _ h9 => h9) rfl d_B_addPart_16 ?_
    refine lv_lload_n hx hb d_B_addPart_19 rfl (lv_at hl 1 rfl) ?_
    refine va_last hx hb hK hP hD hS 3 1 rfl rfl h_in d_B_addPart_20 (fun H locs hP hD hS => ?_)
    have hP : va_P D ncl (w_B a cA ii li ia (va_up la 2 (vp_updL (la 2) (Int32.toNatClampNeg (ii 6)) x))) H := hP
    have hD : va_D _ (w_B a cA ii li ia (va_up la 2 (vp_updL (la 2) (Int32.toNatClampNeg (ii 6)) x))) := hD
    refine lv_aload_n hx hb d_B_addPart_21 rfl (lv_at hl 0 rfl) ?_
    refine va_get (D := D) (ci := 2) (v := .ref (a 4)) (C := R_B) (T := T_B) (N := 12) hx hb (uw_B Z.1 hg.1) (fun _ h => h) hown hK hP 0 rfl rfl 3 (by decide) (kw41 Z.1 _ _ hg.1) (fun _ h9 => h9) rfl d_B_addPart_22 ?_
    refine lv_aload_n hx hb d_B_addPart_25 rfl (lv_at hl 0 rfl) ?_
    refine va_get (D := D) (ci := 2) (v := .int (ii 6)) (C := R_B) (T := T_B) (N := 12) hx hb (uw_B Z.1 hg.1) (fun _ h => h) hown hK hP 0 rfl rfl 6 (by decide) (kw44 Z.1 _ _ hg.1) (fun _ h9 => h9) rfl d_B_addPart_26 ?_
    refine lv_lload_n hx hb d_B_addPart_29 rfl (lv_at hl 2 rfl) ?_
    refine va_last hx hb hK hP hD hS 4 1 rfl rfl h_in d_B_addPart_30 (fun H locs hP hD hS => ?_)
    have hP : va_P D ncl (w_B a cA ii li ia (va_up (va_up la 2 (vp_updL (la 2) (Int32.toNatClampNeg (ii 6)) x)) 3 (vp_updL (la 3) (Int32.toNatClampNeg (ii 6)) y))) H := hP
    have hD : va_D _ (w_B a cA ii li ia (va_up (va_up la 2 (vp_updL (la 2) (Int32.toNatClampNeg (ii 6)) x)) 3 (vp_updL (la 3) (Int32.toNatClampNeg (ii 6)) y))) := hD
    refine lv_aload_n hx hb d_B_addPart_31 rfl (lv_at hl 0 rfl) ?_
    refine va_get (D := D) (ci := 2) (v := .ref (a 5)) (C := R_B) (T := T_B) (N := 12) hx hb (uw_B Z.1 hg.1) (fun _ h => h) hown hK hP 0 rfl rfl 4 (by decide) (kw42 Z.1 _ _ hg.1) (fun _ h9 => h9) rfl d_B_addPart_32 ?_
    refine lv_aload_n hx hb d_B_addPart_35 rfl (lv_at hl 0 rfl) ?_
    refine va_get (D := D) (ci := 2) (v := .int (ii 6)) (C := R_B) (T := T_B) (N := 12) hx hb (uw_B Z.1 hg.1) (fun _ h => h) hown hK hP 0 rfl rfl 6 (by decide) (kw44 Z.1 _ _ hg.1) (fun _ h9 => h9) rfl d_B_addPart_36 ?_
    refine lv_lload hx hb d_B_addPart_39 (lv_at hl 3 rfl) ?_
    refine va_last hx hb hK hP hD hS 5 1 rfl rfl h_in d_B_addPart_41 (fun H locs hP hD hS => ?_)
    have hP : va_P D ncl (w_B a cA ii li ia (va_up (va_up (va_up la 2 (vp_updL (la 2) (Int32.toNatClampNeg (ii 6)) x)) 3 (vp_updL (la 3) (Int32.toNatClampNeg (ii 6)) y)) 4 (vp_updL (la 4) (Int32.toNatClampNeg (ii 6)) r0))) H := hP
    have hD : va_D _ (w_B a cA ii li ia (va_up (va_up (va_up la 2 (vp_updL (la 2) (Int32.toNatClampNeg (ii 6)) x)) 3 (vp_updL (la 3) (Int32.toNatClampNeg (ii 6)) y)) 4 (vp_updL (la 4) (Int32.toNatClampNeg (ii 6)) r0))) := hD
    refine lv_aload_n hx hb d_B_addPart_42 rfl (lv_at hl 0 rfl) ?_
    refine lv_dup hx hb d_B_addPart_43 rfl ?_
    refine va_get (D := D) (ci := 2) (v := .int (ii 6)) (C := R_B) (T := T_B) (N := 12) hx hb (uw_B Z.1 hg.1) (fun _ h => h) hown hK hP 0 rfl rfl 6 (by decide) (kw44 Z.1 _ _ hg.1) (fun _ h9 => h9) rfl d_B_addPart_44 ?_
    refine lv_iconst (v := 1) hx hb d_B_addPart_47 (by decide) ?_
    refine lv_iadd hx hb d_B_addPart_48 ?_
    refine va_put (D := D) (ci := 2) (v := .int ((ii 6) + 1)) (ty := t_B 6) (C := R_B) (T := T_B) (N := 12) hx hb (uw_B Z.1 hg.1) (fun _ h => h) t_B t_B_ok n_B hown hK hP hD hS 0 rfl rfl 6 (by decide) (kw44 Z.1 _ _ hg.1) (fun _ h9 => h9) rfl (by decide +kernel) rfl rfl (Nat.le_of_ble_eq_true rfl) d_B_addPart_49 (fun H locs hP hD hS => ?_)
    have hP : va_P D ncl (w_B a cA (va_up ii 6 ((ii 6) + 1)) li ia (va_up (va_up (va_up la 2 (vp_updL (la 2) (Int32.toNatClampNeg (ii 6)) x)) 3 (vp_updL (la 3) (Int32.toNatClampNeg (ii 6)) y)) 4 (vp_updL (la 4) (Int32.toNatClampNeg (ii 6)) r0))) H := hP
    have hD : va_D _ (w_B a cA (va_up ii 6 ((ii 6) + 1)) li ia (va_up (va_up (va_up la 2 (vp_updL (la 2) (Int32.toNatClampNeg (ii 6)) x)) 3 (vp_updL (la 3) (Int32.toNatClampNeg (ii 6)) y)) 4 (vp_updL (la 4) (Int32.toNatClampNeg (ii 6)) r0))) := hD
    refine lv_iconst (v := 1) hx hb d_B_addPart_52 (by decide) ?_
    exact w_zret hx hb hr rfl hlk hP hD hS ((va_up ii 6 ((ii 6) + 1)), li, ia, (va_up (va_up (va_up la 2 (vp_updL (la 2) (Int32.toNatClampNeg (ii 6)) x)) 3 (vp_updL (la 3) (Int32.toNatClampNeg (ii 6)) y)) 4 (vp_updL (la 4) (Int32.toNatClampNeg (ii 6)) r0))) rfl (by rw [if_pos hlt]; refine ⟨rfl, ?_⟩; rw [h_cl]) d_B_addPart_53
  · refine lv_iconst (v := 0) hx hb d_B_addPart_9 (by decide) ?_
    exact w_zret hx hb hr rfl hlk hP hD hS (ii, li, ia, la) rfl (by rw [if_neg (fun q => c1 (by rw [hn]; exact (nI_ltI (by omega) (by decide)).mpr q))]; exact ⟨rfl, rfl⟩) d_B_addPart_10
end
section
def ba_nx (n k : Nat) : Nat := if k + 1 < n then k + 1 else 0
def ba_sum (la : Nat → Nat → Int64) (n : Nat) : Nat → Int64
  | 0 => 0
  | k + 1 => ba_sum la n k + (la 0 k * la 1 (ba_nx n k) - la 0 (ba_nx n k) * la 1 k)
set_option maxHeartbeats 4000000 in
set_option maxRecDepth 100000 in
theorem m_B_twiceArea {l : Launch} {s0 : State} {D : va_G} {cA sa : Nat → Nat} (Z : zE l s0 D cA sa) (a : Nat → Nat) (ii : Nat → Int32) (li : Nat → Int64) (ia : Nat → Nat → Int32) (la : Nat → Nat → Int64) (n : Nat) (hn : ii 5 = nI n) (hn2 : n ≤ 12) (sz : Nat) : Met l y_B_twiceArea [.code y_B_twiceArea c_B_twiceArea 5 (some .long)] ({ frames := 1, cells := 0, slots := 0, locals := 30 }) (wP s0 D [.ref (a 0)] (w_B a cA ii li ia la) sz) (va_Ql (fun r (_ : Unit) => r = if 0 < ba_sum la n n then ba_sum la n n else -ba_sum la n n) (wB D (va_A (w_B a cA ii li ia la) sz) (fun _ => w_B a cA ii li ia la)) (va_A (w_B a cA ii li ia la) sz)) 0 0 (va_A (w_B a cA ii li ia la) sz) := by
  refine wMet Z (by decide) (Nat.le_of_ble_eq_true rfl) ?_
  intro p e s m below meth c hx hb hr hml hown hlk hin hg hK hsz hP hD hA hlo hS ls hl
  subst hsz
  have hown : s.vm.findClass R_B = some m.cls := hown
  refine lv_lconst (v := 0) hx hb d_B_twiceArea_0 (by decide) ?_
  refine lv_lstore_n (lv' := [(1, .long 0), (0, .ref (a 0))]) hx hb d_B_twiceArea_1 rfl hl (by decide) rfl (fun ls hl => ?_)
  refine lv_iconst (v := 0) hx hb d_B_twiceArea_2 (by decide) ?_
  refine lv_istore_n (lv' := [(3, .int 0), (1, .long 0), (0, .ref (a 0))]) hx hb d_B_twiceArea_3 rfl hl (by decide) rfl (fun ls hl => ?_)
  have loop : ∀ (f : Nat) (k : Nat) (sm : Int64), n - k < f → k ≤ n → sm = ba_sum la n k → ∀ (H : Heap) (locs : List Loc), va_P D ncl (w_B a cA ii li ia la) H → va_D (va_A (w_B a cA ii li ia la) s.heap.size) (w_B a cA ii li ia la) → va_S (va_A (w_B a cA ii li ia la) s.heap.size) s.heap H locs → ∀ (ls : Array Slot), lv_has ls 5 [(0, .ref (a 0)), (1, .long sm), (3, .int (nI k))] → W p l e ({ frames := 1, cells := 0, slots := 0, locals := 30 }) s m ([.ref (a 0)] : List Value).toArray below meth c H locs 0 0 (MQ below (va_Ql (fun r (_ : Unit) => r = if 0 < ba_sum la n n then ba_sum la n n else -ba_sum la n n) (wB D (va_A (w_B a cA ii li ia la) s.heap.size) (fun _ => w_B a cA ii li ia la)) (va_A (w_B a cA ii li ia la) s.heap.size)) ([.ref (a 0)] : List Value).toArray s 0 0 (va_A (w_B a cA ii li ia la) s.heap.size)) (F0 m 4 ls []) := by
    intro f
    induction f with
    | zero => intro k sm h; exact absurd h (Nat.not_lt_zero _)
    | succ f ih =>
      intro k sm hf hk hsm H locs hP hD hS ls hl
      refine lv_iload_n hx hb d_B_twiceArea_4 rfl (lv_at hl 2 rfl) ?_
      refine lv_aload_n hx hb d_B_twiceArea_5 rfl (lv_at hl 0 rfl) ?_
      refine va_get (D := D) (ci := 2) (v := .int (ii 5)) (C := R_B) (T := T_B) (N := 12) hx hb (uw_B Z.1 hg.1) (fun _ h => h) hown hK hP 0 rfl rfl 5 (by decide) (kw43 Z.1 _ _ hg.1) (fun _ h9 => h9) rfl d_B_twiceArea_6 ?_
      refine lv_icmp_ge (tgt := 69) hx hb d_B_twiceArea_9 (by decide) (fun c1 => ?_) (fun c1 => ?_)
      · have hkn : k = n := by rw [hn] at c1; have := (nI_leI (by omega) (by omega)).mp c1; omega
        refine lv_lload_n hx hb d_B_twiceArea_69 rfl (lv_at hl 1 rfl) ?_
        refine va_mabs_long hx hb (hml.trans hl.1.symm) hown (kw548 Z.1 _ _ hg.1) (kw549 Z.1 _ _ hg.1) (kw2 Z.1 _ _ hg.1) (kw550 Z.1 _ _ hg.1) (Nat.le_of_ble_eq_true rfl) (Nat.le_of_ble_eq_true rfl) (Nat.le_of_ble_eq_true rfl) (Nat.le_of_ble_eq_true rfl) d_B_twiceArea_70 ?_
        refine lv_topl (fun z2 ez2 => ?_)
        exact w_lret hx hb hr hlk hP hD hS () rfl (by rw [ez2, hsm, hkn]) d_B_twiceArea_73
      · have hkn : k < n := by rw [hn] at c1; exact Nat.lt_of_not_le (fun q => c1 ((nI_leI (by omega) (by omega)).mpr q))
        refine lv_iload_n hx hb d_B_twiceArea_12 rfl (lv_at hl 2 rfl) ?_
        refine lv_iconst (v := 1) hx hb d_B_twiceArea_13 (by decide) ?_
        refine lv_iadd hx hb d_B_twiceArea_14 ?_
        refine lv_topi (fun z3 ez3 => ?_)
        obtain rfl : z3 = (nI (k + 1)) := by rw [ez3]; exact nI_1 k
        refine lv_aload_n hx hb d_B_twiceArea_15 rfl (lv_at hl 0 rfl) ?_
        refine va_get (D := D) (ci := 2) (v := .int (ii 5)) (C := R_B) (T := T_B) (N := 12) hx hb (uw_B Z.1 hg.1) (fun _ h => h) hown hK hP 0 rfl rfl 5 (by decide) (kw43 Z.1 _ _ hg.1) (fun _ h9 => h9) rfl d_B_twiceArea_16 ?_
        refine lv_icmp_ge (tgt := 28) hx hb d_B_twiceArea_19 (by decide) (fun d4 => ?_) (fun d4 => ?_)
        · have hx2 : ba_nx n k = 0 := if_neg (fun z => by rw [hn] at d4; exact absurd ((nI_leI (by omega) (by omega)).mp d4) (Nat.not_le.mpr z))
          refine lv_iconst (v := 0) hx hb d_B_twiceArea_28 (by decide) ?_
          refine lv_topi (fun z5 ez5 => ?_)
          obtain rfl : z5 = (nI 0) := by rw [ez5]; rfl
          refine lv_istore (lv' := [(4, .int (nI 0)), (0, .ref (a 0)), (1, .long sm), (3, .int (nI k))]) hx hb d_B_twiceArea_29 hl (by decide) rfl (fun ls hl => ?_)
          refine lv_lload_n hx hb d_B_twiceArea_31 rfl (lv_at hl 2 rfl) ?_
          refine lv_aload_n hx hb d_B_twiceArea_32 rfl (lv_at hl 1 rfl) ?_
          refine va_get (D := D) (ci := 2) (v := .ref (a 1)) (C := R_B) (T := T_B) (N := 12) hx hb (uw_B Z.1 hg.1) (fun _ h => h) hown hK hP 0 rfl rfl 0 (by decide) (kw38 Z.1 _ _ hg.1) (fun _ h9 => h9) rfl d_B_twiceArea_33 ?_
          refine lv_iload_n hx hb d_B_twiceArea_36 rfl (lv_at hl 3 rfl) ?_
          refine va_lald hx hb hK hP 1 1 rfl rfl (vp_in_nI (n := k) (N := 12) (by omega) (by decide)) d_B_twiceArea_37 ?_
          refine lv_topl (fun z6 ez6 => ?_)
          obtain rfl : z6 = ((la 0) k) := by rw [ez6, nI_clamp (by omega)]
          refine lv_aload_n hx hb d_B_twiceArea_38 rfl (lv_at hl 1 rfl) ?_
          refine va_get (D := D) (ci := 2) (v := .ref (a 2)) (C := R_B) (T := T_B) (N := 12) hx hb (uw_B Z.1 hg.1) (fun _ h => h) hown hK hP 0 rfl rfl 1 (by decide) (kw39 Z.1 _ _ hg.1) (fun _ h9 => h9) rfl d_B_twiceArea_39 ?_
          refine lv_iload hx hb d_B_twiceArea_42 (lv_at hl 0 rfl) ?_
          refine va_lald hx hb hK hP 2 1 rfl rfl (vp_in_nI (N := 12) (by omega) (by decide)) d_B_twiceArea_44 ?_
          refine lv_topl (fun z7 ez7 => ?_)
          obtain rfl : z7 = ((la 1) 0) := by rw [ez7, nI_clamp (by omega)]
          refine lv_lmul hx hb d_B_twiceArea_45 ?_
          refine lv_aload_n hx hb d_B_twiceArea_46 rfl (lv_at hl 1 rfl) ?_
          refine va_get (D := D) (ci := 2) (v := .ref (a 1)) (C := R_B) (T := T_B) (N := 12) hx hb (uw_B Z.1 hg.1) (fun _ h => h) hown hK hP 0 rfl rfl 0 (by decide) (kw38 Z.1 _ _ hg.1) (fun _ h9 => h9) rfl d_B_twiceArea_47 ?_
          refine lv_iload hx hb d_B_twiceArea_50 (lv_at hl 0 rfl) ?_
          refine va_lald hx hb hK hP 1 1 rfl rfl (vp_in_nI (N := 12) (by omega) (by decide)) d_B_twiceArea_52 ?_
          refine lv_topl (fun z8 ez8 => ?_)
          obtain rfl : z8 = ((la 0) 0) := by rw [ez8, nI_clamp (by omega)]
          refine lv_aload_n hx hb d_B_twiceArea_53 rfl (lv_at hl 1 rfl) ?_
          refine va_get (D := D) (ci := 2) (v := .ref (a 2)) (C := R_B) (T := T_B) (N := 12) hx hb (uw_B Z.1 hg.1) (fun _ h => h) hown hK hP 0 rfl rfl 1 (by decide) (kw39 Z.1 _ _ hg.1) (fun _ h9 => h9) rfl d_B_twiceArea_54 ?_
          refine lv_iload_n hx hb d_B_twiceArea_57 rfl (lv_at hl 3 rfl) ?_
          refine va_lald hx hb hK hP 2 1 rfl rfl (vp_in_nI (n := k) (N := 12) (by omega) (by decide)) d_B_twiceArea_58 ?_
          refine lv_topl (fun z9 ez9 => ?_)
          obtain rfl : z9 = ((la 1) k) := by rw [ez9, nI_clamp (by omega)]
          refine lv_lmul hx hb d_B_twiceArea_59 ?_
          refine lv_lsub hx hb d_B_twiceArea_60 ?_
          refine lv_ladd hx hb d_B_twiceArea_61 ?_
          refine lv_topl (fun y10 ey10 => ?_)
          refine lv_lstore_n (lv' := [(1, .long y10), (4, .int (nI 0)), (0, .ref (a 0)), (3, .int (nI k))]) hx hb d_B_twiceArea_62 rfl hl (by decide) rfl (fun ls hl => ?_)
          obtain ⟨v11, ev11⟩ : ∃ y : Int32, y = (nI k) + 1 := ⟨_, rfl⟩
          refine lv_iinc (v := v11) (lv' := [(3, .int v11), (1, .long y10), (4, .int (nI 0)), (0, .ref (a 0))]) hx hb d_B_twiceArea_63 hl (k := 3) rfl (by rw [ev11]; rfl) (by decide) rfl (fun ls hl => ?_)
          refine lv_goto (tgt := 4) hx hb d_B_twiceArea_66 (by decide) ?_
          obtain rfl : v11 = nI (k + 1) := by rw [ev11]; exact nI_1 k
          exact ih (k + 1) y10 (by omega) (by omega) (by rw [ey10, hsm]; show _ = ba_sum la n k + (la 0 k * la 1 (ba_nx n k) - la 0 (ba_nx n k) * la 1 k); rw [hx2]) _ _ hP hD hS ls (lv_sub hl [3, 1, 0] rfl)
        · have hx2 : ba_nx n k = k + 1 := if_pos (Nat.lt_of_not_le (fun z => d4 (by rw [hn]; exact (nI_leI (by omega) (by omega)).mpr z)))
          have hx3 : k + 1 < n := Nat.lt_of_not_le (fun z => d4 (by rw [hn]; exact (nI_leI (by omega) (by omega)).mpr z))
          refine lv_iload_n hx hb d_B_twiceArea_22 rfl (lv_at hl 2 rfl) ?_
          refine lv_iconst (v := 1) hx hb d_B_twiceArea_23 (by decide) ?_
          refine lv_iadd hx hb d_B_twiceArea_24 ?_
          refine lv_topi (fun z12 ez12 => ?_)
          obtain rfl : z12 = (nI (k + 1)) := by rw [ez12]; exact nI_1 k
          refine lv_goto (tgt := 29) hx hb d_B_twiceArea_25 (by decide) ?_
          refine lv_istore (lv' := [(4, .int (nI (k + 1))), (0, .ref (a 0)), (1, .long sm), (3, .int (nI k))]) hx hb d_B_twiceArea_29 hl (by decide) rfl (fun ls hl => ?_)
          refine lv_lload_n hx hb d_B_twiceArea_31 rfl (lv_at hl 2 rfl) ?_
          refine lv_aload_n hx hb d_B_twiceArea_32 rfl (lv_at hl 1 rfl) ?_
          refine va_get (D := D) (ci := 2) (v := .ref (a 1)) (C := R_B) (T := T_B) (N := 12) hx hb (uw_B Z.1 hg.1) (fun _ h => h) hown hK hP 0 rfl rfl 0 (by decide) (kw38 Z.1 _ _ hg.1) (fun _ h9 => h9) rfl d_B_twiceArea_33 ?_
          refine lv_iload_n hx hb d_B_twiceArea_36 rfl (lv_at hl 3 rfl) ?_
          refine va_lald hx hb hK hP 1 1 rfl rfl (vp_in_nI (n := k) (N := 12) (by omega) (by decide)) d_B_twiceArea_37 ?_
          refine lv_topl (fun z13 ez13 => ?_)
          obtain rfl : z13 = ((la 0) k) := by rw [ez13, nI_clamp (by omega)]
          refine lv_aload_n hx hb d_B_twiceArea_38 rfl (lv_at hl 1 rfl) ?_
          refine va_get (D := D) (ci := 2) (v := .ref (a 2)) (C := R_B) (T := T_B) (N := 12) hx hb (uw_B Z.1 hg.1) (fun _ h => h) hown hK hP 0 rfl rfl 1 (by decide) (kw39 Z.1 _ _ hg.1) (fun _ h9 => h9) rfl d_B_twiceArea_39 ?_
          refine lv_iload hx hb d_B_twiceArea_42 (lv_at hl 0 rfl) ?_
          refine va_lald hx hb hK hP 2 1 rfl rfl (vp_in_nI (N := 12) (by omega) (by decide)) d_B_twiceArea_44 ?_
          refine lv_topl (fun z14 ez14 => ?_)
          obtain rfl : z14 = ((la 1) (k + 1)) := by rw [ez14, nI_clamp (by omega)]
          refine lv_lmul hx hb d_B_twiceArea_45 ?_
          refine lv_aload_n hx hb d_B_twiceArea_46 rfl (lv_at hl 1 rfl) ?_
          refine va_get (D := D) (ci := 2) (v := .ref (a 1)) (C := R_B) (T := T_B) (N := 12) hx hb (uw_B Z.1 hg.1) (fun _ h => h) hown hK hP 0 rfl rfl 0 (by decide) (kw38 Z.1 _ _ hg.1) (fun _ h9 => h9) rfl d_B_twiceArea_47 ?_
          refine lv_iload hx hb d_B_twiceArea_50 (lv_at hl 0 rfl) ?_
          refine va_lald hx hb hK hP 1 1 rfl rfl (vp_in_nI (N := 12) (by omega) (by decide)) d_B_twiceArea_52 ?_
          refine lv_topl (fun z15 ez15 => ?_)
          obtain rfl : z15 = ((la 0) (k + 1)) := by rw [ez15, nI_clamp (by omega)]
          refine lv_aload_n hx hb d_B_twiceArea_53 rfl (lv_at hl 1 rfl) ?_
          refine va_get (D := D) (ci := 2) (v := .ref (a 2)) (C := R_B) (T := T_B) (N := 12) hx hb (uw_B Z.1 hg.1) (fun _ h => h) hown hK hP 0 rfl rfl 1 (by decide) (kw39 Z.1 _ _ hg.1) (fun _ h9 => h9) rfl d_B_twiceArea_54 ?_
          refine lv_iload_n hx hb d_B_twiceArea_57 rfl (lv_at hl 3 rfl) ?_
          refine va_lald hx hb hK hP 2 1 rfl rfl (vp_in_nI (n := k) (N := 12) (by omega) (by decide)) d_B_twiceArea_58 ?_
          refine lv_topl (fun z16 ez16 => ?_)
          obtain rfl : z16 = ((la 1) k) := by rw [ez16, nI_clamp (by omega)]
          refine lv_lmul hx hb d_B_twiceArea_59 ?_
          refine lv_lsub hx hb d_B_twiceArea_60 ?_
          refine lv_ladd hx hb d_B_twiceArea_61 ?_
          refine lv_topl (fun y17 ey17 => ?_)
          refine lv_lstore_n (lv' := [(1, .long y17), (4, .int (nI (k + 1))), (0, .ref (a 0)), (3, .int (nI k))]) hx hb d_B_twiceArea_62 rfl hl (by decide) rfl (fun ls hl => ?_)
          obtain ⟨v18, ev18⟩ : ∃ y : Int32, y = (nI k) + 1 := ⟨_, rfl⟩
          refine lv_iinc (v := v18) (lv' := [(3, .int v18), (1, .long y17), (4, .int (nI (k + 1))), (0, .ref (a 0))]) hx hb d_B_twiceArea_63 hl (k := 3) rfl (by rw [ev18]; rfl) (by decide) rfl (fun ls hl => ?_)
          refine lv_goto (tgt := 4) hx hb d_B_twiceArea_66 (by decide) ?_
          obtain rfl : v18 = nI (k + 1) := by rw [ev18]; exact nI_1 k
          exact ih (k + 1) y17 (by omega) (by omega) (by rw [ey17, hsm]; show _ = ba_sum la n k + (la 0 k * la 1 (ba_nx n k) - la 0 (ba_nx n k) * la 1 k); rw [hx2]) _ _ hP hD hS ls (lv_sub hl [3, 1, 0] rfl)
  exact loop (n + 1) 0 0 (by omega) (by omega) rfl _ _ hP hD hS ls (lv_sub hl [2, 1, 0] rfl)
end
section
def bn_x (la : Nat → Nat → Int64) (li : Nat → Int64) (x : Int64) (tn : Int32) (j : Nat) : Int64 := x - (if tn = 0 then la 2 j - li 7 else (li 10 - li 8) - (la 3 j - li 8))
def bn_y (la : Nat → Nat → Int64) (li : Nat → Int64) (y : Int64) (tn : Int32) (j : Nat) : Int64 := y - (if tn = 0 then la 3 j - li 8 else la 2 j - li 7)
def bn (la : Nat → Nat → Int64) (li : Nat → Int64) (x y : Int64) (tn : Int32) (j : Nat) : Bool := decide (bn_x la li x tn j * bn_x la li x tn j + bn_y la li y tn j * bn_y la li y tn j < la 4 j * la 4 j)
set_option maxHeartbeats 4000000 in
set_option maxRecDepth 100000 in
theorem m_B_hasPartNear {l : Launch} {s0 : State} {D : va_G} {cA sa : Nat → Nat} (Z : zE l s0 D cA sa) (a : Nat → Nat) (ii : Nat → Int32) (li : Nat → Int64) (ia : Nat → Nat → Int32) (la : Nat → Nat → Int64) (x y : Int64) (tn : Int32) (n : Nat) (hn : ii 6 = nI n) (hn2 : n ≤ 10) (sz : Nat) : Met l y_B_hasPartNear [.code y_B_hasPartNear c_B_hasPartNear 15 (some .boolean)] ({ frames := 1, cells := 0, slots := 0, locals := 30 }) (wP s0 D [.ref (a 0), .long x, .long y, .int tn] (w_B a cA ii li ia la) sz) (va_Qi (fun r (_ : Unit) => r = if (List.range n).any (bn la li x y tn) = true then 1 else 0) (wB D (va_A (w_B a cA ii li ia la) sz) (fun _ => w_B a cA ii li ia la)) (va_A (w_B a cA ii li ia la) sz)) 0 0 (va_A (w_B a cA ii li ia la) sz) := by
  refine wMet Z (by decide) (Nat.le_of_ble_eq_true rfl) ?_
  intro p e s m below meth c hx hb hr hml hown hlk hin hg hK hsz hP hD hA hlo hS ls hl
  subst hsz
  have hown : s.vm.findClass R_B = some m.cls := hown
  refine lv_iconst (v := 0) hx hb d_B_hasPartNear_0 (by decide) ?_
  refine lv_topi (fun z1 ez1 => ?_)
  obtain rfl : z1 = (nI 0) := by rw [ez1]; rfl
  refine lv_istore (lv' := [(6, .int (nI 0)), (0, .ref (a 0)), (1, .long x), (3, .long y), (5, .int tn)]) hx hb d_B_hasPartNear_1 hl (by decide) rfl (fun ls hl => ?_)
  have loop : ∀ (f : Nat) (k : Nat), n - k < f → k ≤ n → (∀ j, j < k → bn la li x y tn j = false) → ∀ (H : Heap) (locs : List Loc), va_P D ncl (w_B a cA ii li ia la) H → va_D (va_A (w_B a cA ii li ia la) s.heap.size) (w_B a cA ii li ia la) → va_S (va_A (w_B a cA ii li ia la) s.heap.size) s.heap H locs → ∀ (ls : Array Slot), lv_has ls 15 [(0, .ref (a 0)), (1, .long x), (3, .long y), (5, .int tn), (6, .int (nI k))] → W p l e ({ frames := 1, cells := 0, slots := 0, locals := 30 }) s m ([.ref (a 0), .long x, .long y, .int tn] : List Value).toArray below meth c H locs 0 0 (MQ below (va_Qi (fun r (_ : Unit) => r = if (List.range n).any (bn la li x y tn) = true then 1 else 0) (wB D (va_A (w_B a cA ii li ia la) s.heap.size) (fun _ => w_B a cA ii li ia la)) (va_A (w_B a cA ii li ia la) s.heap.size)) ([.ref (a 0), .long x, .long y, .int tn] : List Value).toArray s 0 0 (va_A (w_B a cA ii li ia la) s.heap.size)) (F0 m 3 ls []) := by
    intro f
    induction f with
    | zero => intro k h; exact absurd h (Nat.not_lt_zero _)
    | succ f ih =>
      intro k hf hk hno H locs hP hD hS ls hl
      refine lv_iload hx hb d_B_hasPartNear_3 (lv_at hl 4 rfl) ?_
      refine lv_aload_n hx hb d_B_hasPartNear_5 rfl (lv_at hl 0 rfl) ?_
      refine va_get (D := D) (ci := 2) (v := .int (ii 6)) (C := R_B) (T := T_B) (N := 12) hx hb (uw_B Z.1 hg.1) (fun _ h => h) hown hK hP 0 rfl rfl 6 (by decide) (kw44 Z.1 _ _ hg.1) (fun _ h9 => h9) rfl d_B_hasPartNear_6 ?_
      refine lv_icmp_ge (tgt := 116) hx hb d_B_hasPartNear_9 (by decide) (fun c2 => ?_) (fun c2 => ?_)
      · have hkn : k = n := by rw [hn] at c2; have := (nI_leI (by omega) (by omega)).mp c2; omega
        refine lv_iconst (v := 0) hx hb d_B_hasPartNear_116 (by decide) ?_
        exact w_zret hx hb hr rfl hlk hP hD hS () rfl (by rw [if_neg]; intro q; obtain ⟨j, hj, hj2⟩ := List.any_eq_true.mp q; rw [hno j (by rw [hkn]; exact List.mem_range.mp hj)] at hj2; cases hj2) d_B_hasPartNear_117
      · have hkn : k < n := by rw [hn] at c2; exact Nat.lt_of_not_le (fun q => c2 ((nI_leI (by omega) (by omega)).mpr q))
        refine lv_aload_n hx hb d_B_hasPartNear_12 rfl (lv_at hl 0 rfl) ?_
        refine va_get (D := D) (ci := 2) (v := .ref (a 3)) (C := R_B) (T := T_B) (N := 12) hx hb (uw_B Z.1 hg.1) (fun _ h => h) hown hK hP 0 rfl rfl 2 (by decide) (kw40 Z.1 _ _ hg.1) (fun _ h9 => h9) rfl d_B_hasPartNear_13 ?_
        refine lv_iload hx hb d_B_hasPartNear_16 (lv_at hl 4 rfl) ?_
        refine va_lald hx hb hK hP 3 1 rfl rfl (vp_in_nI (n := k) (N := 10) (by omega) (by decide)) d_B_hasPartNear_18 ?_
        refine lv_topl (fun z3 ez3 => ?_)
        obtain rfl : z3 = ((la 2) k) := by rw [ez3, nI_clamp (by omega)]
        refine lv_aload_n hx hb d_B_hasPartNear_19 rfl (lv_at hl 0 rfl) ?_
        refine va_get (D := D) (ci := 2) (v := .long (li 7)) (C := R_B) (T := T_B) (N := 12) hx hb (uw_B Z.1 hg.1) (fun _ h => h) hown hK hP 0 rfl rfl 7 (by decide) (kw45 Z.1 _ _ hg.1) (fun _ h9 => h9) rfl d_B_hasPartNear_20 ?_
        refine lv_lsub hx hb d_B_hasPartNear_23 ?_
        refine lv_topl (fun p4 ep4 => ?_)
        refine lv_lstore (lv' := [(7, .long p4), (0, .ref (a 0)), (1, .long x), (3, .long y), (5, .int tn), (6, .int (nI k))]) hx hb d_B_hasPartNear_24 hl (by decide) rfl (fun ls hl => ?_)
        refine lv_aload_n hx hb d_B_hasPartNear_26 rfl (lv_at hl 1 rfl) ?_
        refine va_get (D := D) (ci := 2) (v := .ref (a 4)) (C := R_B) (T := T_B) (N := 12) hx hb (uw_B Z.1 hg.1) (fun _ h => h) hown hK hP 0 rfl rfl 3 (by decide) (kw41 Z.1 _ _ hg.1) (fun _ h9 => h9) rfl d_B_hasPartNear_27 ?_
        refine lv_iload hx hb d_B_hasPartNear_30 (lv_at hl 5 rfl) ?_
        refine va_lald hx hb hK hP 4 1 rfl rfl (vp_in_nI (n := k) (N := 10) (by omega) (by decide)) d_B_hasPartNear_32 ?_
        refine lv_topl (fun z5 ez5 => ?_)
        obtain rfl : z5 = ((la 3) k) := by rw [ez5, nI_clamp (by omega)]
        refine lv_aload_n hx hb d_B_hasPartNear_33 rfl (lv_at hl 1 rfl) ?_
        refine va_get (D := D) (ci := 2) (v := .long (li 8)) (C := R_B) (T := T_B) (N := 12) hx hb (uw_B Z.1 hg.1) (fun _ h => h) hown hK hP 0 rfl rfl 8 (by decide) (kw46 Z.1 _ _ hg.1) (fun _ h9 => h9) rfl d_B_hasPartNear_34 ?_
        refine lv_lsub hx hb d_B_hasPartNear_37 ?_
        refine lv_topl (fun p6 ep6 => ?_)
        refine lv_lstore (lv' := [(9, .long p6), (7, .long p4), (0, .ref (a 0)), (1, .long x), (3, .long y), (5, .int tn), (6, .int (nI k))]) hx hb d_B_hasPartNear_38 hl (by decide) rfl (fun ls hl => ?_)
        refine lv_lload_n hx hb d_B_hasPartNear_40 rfl (lv_at hl 3 rfl) ?_
        refine lv_iload hx hb d_B_hasPartNear_41 (lv_at hl 5 rfl) ?_
        refine lv_if_ne (tgt := 51) hx hb d_B_hasPartNear_43 (by decide) (fun d7 => ?_) (fun d7 => ?_)
        · refine lv_aload_n hx hb d_B_hasPartNear_51 rfl (lv_at hl 2 rfl) ?_
          refine lv_iconst (v := 0) hx hb d_B_hasPartNear_52 (by decide) ?_
          refine w_calll (wr := ([] : va_W)) (w_runV (rest := [.long x]) hx hb hml hown hl.1 hg hlo hK hP hD hS (m_B_high Z a ii li ia la 0 H.size) (kw496 Z.1) (kw404 Z.1) (kp_B_high Z.1) (kw405 Z.1) (kw3 Z.1) (by decide +kernel) ⟨Nat.le_of_ble_eq_true rfl, Nat.le_of_ble_eq_true rfl⟩ [0, 1, 2, 3, 4, 5] rfl rfl (ci := 2) (q0 := 0) rfl rfl rfl (Nat.le_of_ble_eq_true rfl) d_B_hasPartNear_53 ⟨Nat.le_of_ble_eq_true rfl, Nat.le_of_ble_eq_true rfl⟩) hP hD hS hA [0, 1, 2, 3, 4, 5] [] rfl rfl rfl (by decide) (fun _ => w_B a cA ii li ia la) [0, 1, 2, 3, 4, 5] rfl (fun _ => rfl) (fun r8 u H locs hq hP hD hS => ?_)
          refine W.widen (k := 0) (n := 0) (by decide) (by decide) ?_
          refine lv_lload hx hb d_B_hasPartNear_56 (lv_at hl 0 rfl) ?_
          refine lv_lsub hx hb d_B_hasPartNear_58 ?_
          refine lv_lsub hx hb d_B_hasPartNear_59 ?_
          refine lv_topl (fun p9 ep9 => ?_)
          refine lv_lstore (lv' := [(11, .long p9), (9, .long p6), (7, .long p4), (0, .ref (a 0)), (1, .long x), (3, .long y), (5, .int tn), (6, .int (nI k))]) hx hb d_B_hasPartNear_60 hl (by decide) rfl (fun ls hl => ?_)
          refine lv_lload_n hx hb d_B_hasPartNear_62 rfl (lv_at hl 5 rfl) ?_
          refine lv_iload hx hb d_B_hasPartNear_63 (lv_at hl 6 rfl) ?_
          refine lv_if_ne (tgt := 73) hx hb d_B_hasPartNear_65 (by decide) (fun _ => ?_) (fun k10 => by first | exact absurd d7 k10 | exact absurd k10 d7)
          refine lv_lload hx hb d_B_hasPartNear_73 (lv_at hl 2 rfl) ?_
          refine lv_lsub hx hb d_B_hasPartNear_75 ?_
          refine lv_topl (fun p11 ep11 => ?_)
          refine lv_lstore (lv' := [(13, .long p11), (11, .long p9), (9, .long p6), (7, .long p4), (0, .ref (a 0)), (1, .long x), (3, .long y), (5, .int tn), (6, .int (nI k))]) hx hb d_B_hasPartNear_76 hl (by decide) rfl (fun ls hl => ?_)
          refine lv_lload hx hb d_B_hasPartNear_78 (lv_at hl 1 rfl) ?_
          refine lv_lload hx hb d_B_hasPartNear_80 (lv_at hl 1 rfl) ?_
          refine lv_lmul hx hb d_B_hasPartNear_82 ?_
          refine lv_lload hx hb d_B_hasPartNear_83 (lv_at hl 0 rfl) ?_
          refine lv_lload hx hb d_B_hasPartNear_85 (lv_at hl 0 rfl) ?_
          refine lv_lmul hx hb d_B_hasPartNear_87 ?_
          refine lv_ladd hx hb d_B_hasPartNear_88 ?_
          refine lv_aload_n hx hb d_B_hasPartNear_89 rfl (lv_at hl 4 rfl) ?_
          refine va_get (D := D) (ci := 2) (v := .ref (a 5)) (C := R_B) (T := T_B) (N := 12) hx hb (uw_B Z.1 hg.1) (fun _ h => h) hown hK hP 0 rfl rfl 4 (by decide) (kw42 Z.1 _ _ hg.1) (fun _ h9 => h9) rfl d_B_hasPartNear_90 ?_
          refine lv_iload hx hb d_B_hasPartNear_93 (lv_at hl 8 rfl) ?_
          refine va_lald hx hb hK hP 5 1 rfl rfl (vp_in_nI (n := k) (N := 10) (by omega) (by decide)) d_B_hasPartNear_95 ?_
          refine lv_topl (fun z12 ez12 => ?_)
          obtain rfl : z12 = ((la 4) k) := by rw [ez12, nI_clamp (by omega)]
          refine lv_aload_n hx hb d_B_hasPartNear_96 rfl (lv_at hl 4 rfl) ?_
          refine va_get (D := D) (ci := 2) (v := .ref (a 5)) (C := R_B) (T := T_B) (N := 12) hx hb (uw_B Z.1 hg.1) (fun _ h => h) hown hK hP 0 rfl rfl 4 (by decide) (kw42 Z.1 _ _ hg.1) (fun _ h9 => h9) rfl d_B_hasPartNear_97 ?_
          refine lv_iload hx hb d_B_hasPartNear_100 (lv_at hl 8 rfl) ?_
          refine va_lald hx hb hK hP 5 1 rfl rfl (vp_in_nI (n := k) (N := 10) (by omega) (by decide)) d_B_hasPartNear_102 ?_
          refine lv_topl (fun z13 ez13 => ?_)
          obtain rfl : z13 = ((la 4) k) := by rw [ez13, nI_clamp (by omega)]
          refine lv_lmul hx hb d_B_hasPartNear_103 ?_
          refine W.lcmp hx hb d_B_hasPartNear_104 ?_
          refine lv_if_ge (tgt := 110) hx hb d_B_hasPartNear_105 (by decide) (fun g14 => ?_) (fun g14 => ?_)
          · have e3 : p9 = bn_x la li x tn k := by unfold bn_x; rw [if_neg d7, ep9, hq, if_pos rfl, ep6]
            have e4 : p11 = bn_y la li y tn k := by unfold bn_y; rw [if_neg d7, ep11, ep4]
            have hb0 : bn la li x y tn k = false := decide_eq_false (by rw [← e3, ← e4]; exact Int64.not_lt.mpr ((lg_cmp_ge _ _).mp g14))
            obtain ⟨v15, ev15⟩ : ∃ y : Int32, y = (nI k) + 1 := ⟨_, rfl⟩
            refine lv_iinc (v := v15) (lv' := [(6, .int v15), (13, .long p11), (11, .long p9), (9, .long p6), (7, .long p4), (0, .ref (a 0)), (1, .long x), (3, .long y), (5, .int tn)]) hx hb d_B_hasPartNear_110 hl (k := 8) rfl (by rw [ev15]; rfl) (by decide) rfl (fun ls hl => ?_)
            refine lv_goto (tgt := 3) hx hb d_B_hasPartNear_113 (by decide) ?_
            obtain rfl : v15 = nI (k + 1) := by rw [ev15]; exact nI_1 k
            exact ih (k + 1) (by omega) (by omega) (lt_s hno hb0) _ _ hP hD hS ls (lv_sub hl [5, 6, 7, 8, 0] rfl)
          · have e3 : p9 = bn_x la li x tn k := by unfold bn_x; rw [if_neg d7, ep9, hq, if_pos rfl, ep6]
            have e4 : p11 = bn_y la li y tn k := by unfold bn_y; rw [if_neg d7, ep11, ep4]
            have hb1 : bn la li x y tn k = true := decide_eq_true (by rw [← e3, ← e4]; exact Int64.not_le.mp (fun z => g14 ((lg_cmp_ge _ _).mpr z)))
            refine lv_iconst (v := 1) hx hb d_B_hasPartNear_108 (by decide) ?_
            exact w_zret hx hb hr rfl hlk hP hD hS () rfl (by rw [if_pos (List.any_eq_true.mpr ⟨k, List.mem_range.mpr hkn, hb1⟩)]) d_B_hasPartNear_109
        · refine lv_lload hx hb d_B_hasPartNear_46 (lv_at hl 1 rfl) ?_
          refine lv_goto (tgt := 59) hx hb d_B_hasPartNear_48 (by decide) ?_
          refine lv_lsub hx hb d_B_hasPartNear_59 ?_
          refine lv_topl (fun p16 ep16 => ?_)
          refine lv_lstore (lv' := [(11, .long p16), (9, .long p6), (7, .long p4), (0, .ref (a 0)), (1, .long x), (3, .long y), (5, .int tn), (6, .int (nI k))]) hx hb d_B_hasPartNear_60 hl (by decide) rfl (fun ls hl => ?_)
          refine lv_lload_n hx hb d_B_hasPartNear_62 rfl (lv_at hl 5 rfl) ?_
          refine lv_iload hx hb d_B_hasPartNear_63 (lv_at hl 6 rfl) ?_
          refine lv_if_ne (tgt := 73) hx hb d_B_hasPartNear_65 (by decide) (fun k17 => by first | exact absurd d7 k17 | exact absurd k17 d7) (fun _ => ?_)
          refine lv_lload hx hb d_B_hasPartNear_68 (lv_at hl 1 rfl) ?_
          refine lv_goto (tgt := 75) hx hb d_B_hasPartNear_70 (by decide) ?_
          refine lv_lsub hx hb d_B_hasPartNear_75 ?_
          refine lv_topl (fun p18 ep18 => ?_)
          refine lv_lstore (lv' := [(13, .long p18), (11, .long p16), (9, .long p6), (7, .long p4), (0, .ref (a 0)), (1, .long x), (3, .long y), (5, .int tn), (6, .int (nI k))]) hx hb d_B_hasPartNear_76 hl (by decide) rfl (fun ls hl => ?_)
          refine lv_lload hx hb d_B_hasPartNear_78 (lv_at hl 1 rfl) ?_
          refine lv_lload hx hb d_B_hasPartNear_80 (lv_at hl 1 rfl) ?_
          refine lv_lmul hx hb d_B_hasPartNear_82 ?_
          refine lv_lload hx hb d_B_hasPartNear_83 (lv_at hl 0 rfl) ?_
          refine lv_lload hx hb d_B_hasPartNear_85 (lv_at hl 0 rfl) ?_
          refine lv_lmul hx hb d_B_hasPartNear_87 ?_
          refine lv_ladd hx hb d_B_hasPartNear_88 ?_
          refine lv_aload_n hx hb d_B_hasPartNear_89 rfl (lv_at hl 4 rfl) ?_
          refine va_get (D := D) (ci := 2) (v := .ref (a 5)) (C := R_B) (T := T_B) (N := 12) hx hb (uw_B Z.1 hg.1) (fun _ h => h) hown hK hP 0 rfl rfl 4 (by decide) (kw42 Z.1 _ _ hg.1) (fun _ h9 => h9) rfl d_B_hasPartNear_90 ?_
          refine lv_iload hx hb d_B_hasPartNear_93 (lv_at hl 8 rfl) ?_
          refine va_lald hx hb hK hP 5 1 rfl rfl (vp_in_nI (n := k) (N := 10) (by omega) (by decide)) d_B_hasPartNear_95 ?_
          refine lv_topl (fun z19 ez19 => ?_)
          obtain rfl : z19 = ((la 4) k) := by rw [ez19, nI_clamp (by omega)]
          refine lv_aload_n hx hb d_B_hasPartNear_96 rfl (lv_at hl 4 rfl) ?_
          refine va_get (D := D) (ci := 2) (v := .ref (a 5)) (C := R_B) (T := T_B) (N := 12) hx hb (uw_B Z.1 hg.1) (fun _ h => h) hown hK hP 0 rfl rfl 4 (by decide) (kw42 Z.1 _ _ hg.1) (fun _ h9 => h9) rfl d_B_hasPartNear_97 ?_
          refine lv_iload hx hb d_B_hasPartNear_100 (lv_at hl 8 rfl) ?_
          refine va_lald hx hb hK hP 5 1 rfl rfl (vp_in_nI (n := k) (N := 10) (by omega) (by decide)) d_B_hasPartNear_102 ?_
          refine lv_topl (fun z20 ez20 => ?_)
          obtain rfl : z20 = ((la 4) k) := by rw [ez20, nI_clamp (by omega)]
          refine lv_lmul hx hb d_B_hasPartNear_103 ?_
          refine W.lcmp hx hb d_B_hasPartNear_104 ?_
          refine lv_if_ge (tgt := 110) hx hb d_B_hasPartNear_105 (by decide) (fun g21 => ?_) (fun g21 => ?_)
          · have e3 : p16 = bn_x la li x tn k := by unfold bn_x; rw [if_pos d7, ep16, ep4]
            have e4 : p18 = bn_y la li y tn k := by unfold bn_y; rw [if_pos d7, ep18, ep6]
            have hb0 : bn la li x y tn k = false := decide_eq_false (by rw [← e3, ← e4]; exact Int64.not_lt.mpr ((lg_cmp_ge _ _).mp g21))
            obtain ⟨v22, ev22⟩ : ∃ y : Int32, y = (nI k) + 1 := ⟨_, rfl⟩
            refine lv_iinc (v := v22) (lv' := [(6, .int v22), (13, .long p18), (11, .long p16), (9, .long p6), (7, .long p4), (0, .ref (a 0)), (1, .long x), (3, .long y), (5, .int tn)]) hx hb d_B_hasPartNear_110 hl (k := 8) rfl (by rw [ev22]; rfl) (by decide) rfl (fun ls hl => ?_)
            refine lv_goto (tgt := 3) hx hb d_B_hasPartNear_113 (by decide) ?_
            obtain rfl : v22 = nI (k + 1) := by rw [ev22]; exact nI_1 k
            exact ih (k + 1) (by omega) (by omega) (lt_s hno hb0) _ _ hP hD hS ls (lv_sub hl [5, 6, 7, 8, 0] rfl)
          · have e3 : p16 = bn_x la li x tn k := by unfold bn_x; rw [if_pos d7, ep16, ep4]
            have e4 : p18 = bn_y la li y tn k := by unfold bn_y; rw [if_pos d7, ep18, ep6]
            have hb1 : bn la li x y tn k = true := decide_eq_true (by rw [← e3, ← e4]; exact Int64.not_le.mp (fun z => g21 ((lg_cmp_ge _ _).mpr z)))
            refine lv_iconst (v := 1) hx hb d_B_hasPartNear_108 (by decide) ?_
            exact w_zret hx hb hr rfl hlk hP hD hS () rfl (by rw [if_pos (List.any_eq_true.mpr ⟨k, List.mem_range.mpr hkn, hb1⟩)]) d_B_hasPartNear_109
  exact loop (n + 1) 0 (by omega) (by omega) lt_0 _ _ hP hD hS ls (lv_sub hl [1, 2, 3, 4, 0] rfl)
end
section
/-- what the searcher's cells hold: room and height of each kind, what is wanted, most rows and room, the gap, the rows laid, the best ones -/
def sR (room hi wl : Nat → Nat) (M mr gap : Nat) (pre best : List (Nat × Nat)) (u : St) : Prop :=
  (∀ k, k < 8 → u.2.2.1 0 k = nI (room k) ∧ room k ≤ 20 ∧ u.2.2.2 1 k = lN (hi k) ∧ hi k ≤ 65536) ∧ (∀ b, b < 4 → u.2.2.1 2 b = nI (wl b) ∧ wl b ≤ 200) ∧ (u.1 7 = nI best.length ∧ u.1 8 = nI (sr_cop best) ∧ best.length ≤ 9 ∧ sr_cop best ≤ 180) ∧ (u.1 9 = nI M ∧ M ≤ 9 ∧ u.1 10 = nI mr ∧ mr ≤ 20 ∧ u.2.1 11 = lN gap ∧ gap ≤ 65536) ∧
  (∀ j, j < pre.length → u.2.2.1 3 j = nI (pre.getD j (0, 0)).1 ∧ u.2.2.1 4 j = nI (pre.getD j (0, 0)).2) ∧ (∀ j, j < best.length → u.2.2.1 5 j = nI (best.getD j (0, 0)).1 ∧ u.2.2.1 6 j = nI (best.getD j (0, 0)).2)
set_option maxHeartbeats 4000000 in
set_option maxRecDepth 100000 in
theorem m_S_keepIfBetter {l : Launch} {s0 : State} {D : va_G} {cA sa : Nat → Nat} (Z : zE l s0 D cA sa) (a : Nat → Nat) (ii : Nat → Int32) (li : Nat → Int64) (ia : Nat → Nat → Int32) (la : Nat → Nat → Int64) (room hi wl : Nat → Nat) (M mr gap : Nat) (pre best : List (Nat × Nat)) (hu : sR room hi wl M mr gap pre best (ii, li, ia, la)) (hp : pre.length ≤ 9) (hc : sr_cop pre ≤ 180) (sz : Nat) : Met l y_S_keepIfBetter [.code y_S_keepIfBetter c_S_keepIfBetter 4 none] ({ frames := 0, cells := 0, slots := 0, locals := 0 }) (wP s0 D [.ref (a 0), .int (nI pre.length), .int (nI (sr_cop pre))] (w_S a cA ii li ia la) sz) (va_Qv (fun u => sR room hi wl M mr gap pre (sr_keep best pre) u) (wB D (va_A (w_S a cA ii li ia la) sz) (fun u => w_S a cA u.1 u.2.1 u.2.2.1 u.2.2.2)) (va_A (w_S a cA ii li ia la) sz)) 0 0 (va_A (w_S a cA ii li ia la) sz) := by
  refine wMet Z (by decide) (Nat.le_of_ble_eq_true rfl) ?_
  intro p e s m below meth c hx hb hr hml hown hlk hin hg hK hsz hP hD hA hlo hS ls hl
  subst hsz
  have hown : s.vm.findClass R_S = some m.cls := hown
  obtain ⟨u1, u2, ⟨u3, u4, u5, u6⟩, u7, u8, u9⟩ := id hu
  dsimp only at u3 u4
  refine lv_iload_n hx hb d_S_keepIfBetter_0 rfl (lv_at hl 2 rfl) ?_
  refine lv_aload_n hx hb d_S_keepIfBetter_1 rfl (lv_at hl 0 rfl) ?_
  refine va_get (D := D) (ci := 4) (v := .int (ii 8)) (C := R_S) (T := T_S) (N := 12) hx hb (uw_S Z.1 hg.1) (fun _ h => h) hown hK hP 0 rfl rfl 8 (by decide) (kw95 Z.1 _ _ hg.1) (fun _ h9 => h9) rfl d_S_keepIfBetter_2 ?_
  refine lv_icmp_lt (tgt := 24) hx hb d_S_keepIfBetter_5 (by decide) (fun c1 => ?_) (fun c1 => ?_)
  · have h1 : sr_cop pre < sr_cop best := by rw [u4] at c1; exact (nI_ltI (by omega) (by omega)).mp c1
    exact w_vret hx hb hr hlk hP hD hS (ii, li, ia, la) rfl (by have e : sr_keep best pre = best := if_neg (by simp only [sr_bet, Bool.or_eq_true, Bool.and_eq_true, decide_eq_true_eq]; omega); rw [e]; exact hu) d_S_keepIfBetter_24
  · have h1 : ¬ sr_cop pre < sr_cop best := fun q => c1 (by rw [u4]; exact (nI_ltI (by omega) (by omega)).mpr q)
    refine lv_iload_n hx hb d_S_keepIfBetter_8 rfl (lv_at hl 2 rfl) ?_
    refine lv_aload_n hx hb d_S_keepIfBetter_9 rfl (lv_at hl 0 rfl) ?_
    refine va_get (D := D) (ci := 4) (v := .int (ii 8)) (C := R_S) (T := T_S) (N := 12) hx hb (uw_S Z.1 hg.1) (fun _ h => h) hown hK hP 0 rfl rfl 8 (by decide) (kw95 Z.1 _ _ hg.1) (fun _ h9 => h9) rfl d_S_keepIfBetter_10 ?_
    refine lv_icmp_ne (tgt := 25) hx hb d_S_keepIfBetter_13 (by decide) (fun d2 => ?_) (fun d2 => ?_)
    · have h2 : ¬ sr_cop pre = sr_cop best := fun q => d2 (by rw [u4, q])
      have hbt : sr_keep best pre = pre := if_pos (by simp only [sr_bet, Bool.or_eq_true, Bool.and_eq_true, decide_eq_true_eq]; omega)
      refine lv_aload_n hx hb d_S_keepIfBetter_25 rfl (lv_at hl 0 rfl) ?_
      refine lv_iload_n hx hb d_S_keepIfBetter_26 rfl (lv_at hl 2 rfl) ?_
      refine va_put (D := D) (ci := 4) (v := .int (nI (sr_cop pre))) (ty := t_S 8) (C := R_S) (T := T_S) (N := 12) hx hb (uw_S Z.1 hg.1) (fun _ h => h) t_S t_S_ok n_S hown hK hP hD hS 0 rfl rfl 8 (by decide) (kw95 Z.1 _ _ hg.1) (fun _ h9 => h9) rfl (by decide +kernel) rfl rfl (Nat.le_of_ble_eq_true rfl) d_S_keepIfBetter_27 (fun H locs hP hD hS => ?_)
      have hP : va_P D ncl (w_S a cA (va_up ii 8 (nI (sr_cop pre))) li ia la) H := hP
      have hD : va_D _ (w_S a cA (va_up ii 8 (nI (sr_cop pre))) li ia la) := hD
      refine lv_aload_n hx hb d_S_keepIfBetter_30 rfl (lv_at hl 0 rfl) ?_
      refine lv_iload_n hx hb d_S_keepIfBetter_31 rfl (lv_at hl 1 rfl) ?_
      refine va_put (D := D) (ci := 4) (v := .int (nI pre.length)) (ty := t_S 7) (C := R_S) (T := T_S) (N := 12) hx hb (uw_S Z.1 hg.1) (fun _ h => h) t_S t_S_ok n_S hown hK hP hD hS 0 rfl rfl 7 (by decide) (kw93 Z.1 _ _ hg.1) (fun _ h9 => h9) rfl (by decide +kernel) rfl rfl (Nat.le_of_ble_eq_true rfl) d_S_keepIfBetter_32 (fun H locs hP hD hS => ?_)
      have hP : va_P D ncl (w_S a cA (va_up (va_up ii 8 (nI (sr_cop pre))) 7 (nI pre.length)) li ia la) H := hP
      have hD : va_D _ (w_S a cA (va_up (va_up ii 8 (nI (sr_cop pre))) 7 (nI pre.length)) li ia la) := hD
      refine lv_iconst (v := 0) hx hb d_S_keepIfBetter_35 (by decide) ?_
      refine lv_topi (fun z9 ez9 => ?_)
      obtain rfl : z9 = (nI 0) := by rw [ez9]; rfl
      refine lv_istore_n (lv' := [(3, .int (nI 0)), (0, .ref (a 0)), (1, .int (nI pre.length)), (2, .int (nI (sr_cop pre)))]) hx hb d_S_keepIfBetter_36 rfl hl (by decide) rfl (fun ls hl => ?_)
      have loop : ∀ (f : Nat) (k : Nat) (ib : Nat → Nat → Int32), pre.length - k < f → k ≤ pre.length → (∀ z, z ≠ 5 → z ≠ 6 → ib z = ia z) → (∀ j, j < k → ib 5 j = ia 3 j ∧ ib 6 j = ia 4 j) → ∀ (H : Heap) (locs : List Loc), va_P D ncl (w_S a cA (va_up (va_up ii 8 (nI (sr_cop pre))) 7 (nI pre.length)) li ib la) H → va_D (va_A (w_S a cA ii li ia la) s.heap.size) (w_S a cA (va_up (va_up ii 8 (nI (sr_cop pre))) 7 (nI pre.length)) li ib la) → va_S (va_A (w_S a cA ii li ia la) s.heap.size) s.heap H locs → ∀ (ls : Array Slot), lv_has ls 4 [(0, .ref (a 0)), (1, .int (nI pre.length)), (3, .int (nI k))] → W p l e ({ frames := 0, cells := 0, slots := 0, locals := 0 }) s m ([.ref (a 0), .int (nI pre.length), .int (nI (sr_cop pre))] : List Value).toArray below meth c H locs 0 0 (MQ below (va_Qv (fun u => sR room hi wl M mr gap pre (sr_keep best pre) u) (wB D (va_A (w_S a cA ii li ia la) s.heap.size) (fun u => w_S a cA u.1 u.2.1 u.2.2.1 u.2.2.2)) (va_A (w_S a cA ii li ia la) s.heap.size)) ([.ref (a 0), .int (nI pre.length), .int (nI (sr_cop pre))] : List Value).toArray s 0 0 (va_A (w_S a cA ii li ia la) s.heap.size)) (F0 m 37 ls []) := by
        intro f
        induction f with
        | zero => intro k ib h; exact absurd h (Nat.not_lt_zero _)
        | succ f ih =>
          intro k ib hf hk h5 h6 H locs hP hD hS ls hl
          refine lv_iload_n hx hb d_S_keepIfBetter_37 rfl (lv_at hl 2 rfl) ?_
          refine lv_iload_n hx hb d_S_keepIfBetter_38 rfl (lv_at hl 1 rfl) ?_
          refine lv_icmp_ge (tgt := 72) hx hb d_S_keepIfBetter_39 (by decide) (fun e10 => ?_) (fun e10 => ?_)
          · have hkn : k = pre.length := by have := (nI_leI (by omega) (by omega)).mp e10; omega
            exact w_vret hx hb hr hlk hP hD hS ((va_up (va_up ii 8 (nI (sr_cop pre))) 7 (nI pre.length)), li, ib, la) rfl (by rw [hbt]; exact ⟨fun z hz => by rw [show ((va_up (va_up ii 8 (nI (sr_cop pre))) 7 (nI pre.length)), li, ib, la).2.2.1 = ib from rfl, h5 0 (by decide) (by decide)]; exact u1 z hz, fun z hz => by rw [show ((va_up (va_up ii 8 (nI (sr_cop pre))) 7 (nI pre.length)), li, ib, la).2.2.1 = ib from rfl, h5 2 (by decide) (by decide)]; exact u2 z hz, ⟨rfl, rfl, hp, hc⟩, u7, fun j hj => by rw [show ((va_up (va_up ii 8 (nI (sr_cop pre))) 7 (nI pre.length)), li, ib, la).2.2.1 = ib from rfl, h5 3 (by decide) (by decide), h5 4 (by decide) (by decide)]; exact u8 j hj, fun j hj => by have := h6 j (by omega); rw [show ((va_up (va_up ii 8 (nI (sr_cop pre))) 7 (nI pre.length)), li, ib, la).2.2.1 = ib from rfl, this.1, this.2]; exact u8 j hj⟩) d_S_keepIfBetter_72
          · have hkn : k < pre.length := Nat.lt_of_not_le (fun z => e10 ((nI_leI (by omega) (by omega)).mpr z))
            refine lv_aload_n hx hb d_S_keepIfBetter_42 rfl (lv_at hl 0 rfl) ?_
            refine va_get (D := D) (ci := 4) (v := .ref (a 6)) (C := R_S) (T := T_S) (N := 12) hx hb (uw_S Z.1 hg.1) (fun _ h => h) hown hK hP 0 rfl rfl 5 (by decide) (kw89 Z.1 _ _ hg.1) (fun _ h9 => h9) rfl d_S_keepIfBetter_43 ?_
            refine lv_iload_n hx hb d_S_keepIfBetter_46 rfl (lv_at hl 2 rfl) ?_
            refine lv_aload_n hx hb d_S_keepIfBetter_47 rfl (lv_at hl 0 rfl) ?_
            refine va_get (D := D) (ci := 4) (v := .ref (a 4)) (C := R_S) (T := T_S) (N := 12) hx hb (uw_S Z.1 hg.1) (fun _ h => h) hown hK hP 0 rfl rfl 3 (by decide) (kw87 Z.1 _ _ hg.1) (fun _ h9 => h9) rfl d_S_keepIfBetter_48 ?_
            refine lv_iload_n hx hb d_S_keepIfBetter_51 rfl (lv_at hl 2 rfl) ?_
            refine va_iald hx hb hK hP 4 0 rfl rfl (vp_in_nI (n := k) (N := 9) (by omega) (by decide)) d_S_keepIfBetter_52 ?_
            refine lv_topi (fun z11 ez11 => ?_)
            rw [nI_clamp (n := k) (by omega)] at ez11
            obtain rfl : z11 = ((ib 3) k) := ez11
            refine va_iast hx hb hK hP hD hS 6 0 rfl rfl (vp_in_nI (n := k) (N := 9) (by omega) (by decide)) d_S_keepIfBetter_53 (fun H locs hP hD hS => ?_)
            rw [nI_clamp (n := k) (by omega)] at hP hD
            have hP : va_P D ncl (w_S a cA (va_up (va_up ii 8 (nI (sr_cop pre))) 7 (nI pre.length)) li (va_up ib 5 (upd (ib 5) k ((ib 3) k))) la) H := hP
            have hD : va_D _ (w_S a cA (va_up (va_up ii 8 (nI (sr_cop pre))) 7 (nI pre.length)) li (va_up ib 5 (upd (ib 5) k ((ib 3) k))) la) := hD
            refine lv_aload_n hx hb d_S_keepIfBetter_54 rfl (lv_at hl 0 rfl) ?_
            refine va_get (D := D) (ci := 4) (v := .ref (a 7)) (C := R_S) (T := T_S) (N := 12) hx hb (uw_S Z.1 hg.1) (fun _ h => h) hown hK hP 0 rfl rfl 6 (by decide) (kw91 Z.1 _ _ hg.1) (fun _ h9 => h9) rfl d_S_keepIfBetter_55 ?_
            refine lv_iload_n hx hb d_S_keepIfBetter_58 rfl (lv_at hl 2 rfl) ?_
            refine lv_aload_n hx hb d_S_keepIfBetter_59 rfl (lv_at hl 0 rfl) ?_
            refine va_get (D := D) (ci := 4) (v := .ref (a 5)) (C := R_S) (T := T_S) (N := 12) hx hb (uw_S Z.1 hg.1) (fun _ h => h) hown hK hP 0 rfl rfl 4 (by decide) (kw88 Z.1 _ _ hg.1) (fun _ h9 => h9) rfl d_S_keepIfBetter_60 ?_
            refine lv_iload_n hx hb d_S_keepIfBetter_63 rfl (lv_at hl 2 rfl) ?_
            refine va_iald hx hb hK hP 5 0 rfl rfl (vp_in_nI (n := k) (N := 9) (by omega) (by decide)) d_S_keepIfBetter_64 ?_
            refine lv_topi (fun z12 ez12 => ?_)
            rw [nI_clamp (n := k) (by omega)] at ez12
            obtain rfl : z12 = ((ib 4) k) := ez12
            refine va_iast hx hb hK hP hD hS 7 0 rfl rfl (vp_in_nI (n := k) (N := 9) (by omega) (by decide)) d_S_keepIfBetter_65 (fun H locs hP hD hS => ?_)
            rw [nI_clamp (n := k) (by omega)] at hP hD
            have hP : va_P D ncl (w_S a cA (va_up (va_up ii 8 (nI (sr_cop pre))) 7 (nI pre.length)) li (va_up (va_up ib 5 (upd (ib 5) k ((ib 3) k))) 6 (upd (ib 6) k ((ib 4) k))) la) H := hP
            have hD : va_D _ (w_S a cA (va_up (va_up ii 8 (nI (sr_cop pre))) 7 (nI pre.length)) li (va_up (va_up ib 5 (upd (ib 5) k ((ib 3) k))) 6 (upd (ib 6) k ((ib 4) k))) la) := hD
            obtain ⟨v13, ev13⟩ : ∃ y : Int32, y = (nI k) + 1 := ⟨_, rfl⟩
            refine lv_iinc (v := v13) (lv' := [(3, .int v13), (0, .ref (a 0)), (1, .int (nI pre.length))]) hx hb d_S_keepIfBetter_66 hl (k := 2) rfl (by rw [ev13]; rfl) (by decide) rfl (fun ls hl => ?_)
            refine lv_goto (tgt := 37) hx hb d_S_keepIfBetter_69 (by decide) ?_
            obtain rfl : v13 = nI (k + 1) := by rw [ev13]; exact nI_1 k
            exact ih (k + 1) _ (by omega) (by omega) (fun z h1 h2 => by rw [up_n _ _ h2, up_n _ _ h1]; exact h5 z h1 h2) (fun j hj => by rw [up_n _ _ (by decide), up_s, up_s]; rcases Nat.lt_or_ge j k with q | q; (rw [upd_n _ _ (by omega), upd_n _ _ (by omega)]; exact h6 j q); (have : j = k := by omega); subst this; rw [upd_s, upd_s, h5 3 (by decide) (by decide), h5 4 (by decide) (by decide)]; exact ⟨rfl, rfl⟩) _ _ hP hD hS ls (lv_sub hl [1, 2, 0] rfl)
      exact loop (pre.length + 1) 0 ia (by omega) (by omega) (fun _ _ _ => rfl) lt_0 _ _ hP hD hS ls (lv_sub hl [1, 2, 0] rfl)
    · have h2 : sr_cop pre = sr_cop best := by rw [u4] at d2; exact (nI_eq (by omega) (by omega)).mp d2
      refine lv_iload_n hx hb d_S_keepIfBetter_16 rfl (lv_at hl 1 rfl) ?_
      refine lv_aload_n hx hb d_S_keepIfBetter_17 rfl (lv_at hl 0 rfl) ?_
      refine va_get (D := D) (ci := 4) (v := .int (ii 7)) (C := R_S) (T := T_S) (N := 12) hx hb (uw_S Z.1 hg.1) (fun _ h => h) hown hK hP 0 rfl rfl 7 (by decide) (kw93 Z.1 _ _ hg.1) (fun _ h9 => h9) rfl d_S_keepIfBetter_18 ?_
      refine lv_icmp_lt (tgt := 25) hx hb d_S_keepIfBetter_21 (by decide) (fun g3 => ?_) (fun g3 => ?_)
      · have h3 : pre.length < best.length := by rw [u3] at g3; exact (nI_ltI (by omega) (by omega)).mp g3
        have hbt : sr_keep best pre = pre := if_pos (by simp only [sr_bet, Bool.or_eq_true, Bool.and_eq_true, decide_eq_true_eq]; omega)
        refine lv_aload_n hx hb d_S_keepIfBetter_25 rfl (lv_at hl 0 rfl) ?_
        refine lv_iload_n hx hb d_S_keepIfBetter_26 rfl (lv_at hl 2 rfl) ?_
        refine va_put (D := D) (ci := 4) (v := .int (nI (sr_cop pre))) (ty := t_S 8) (C := R_S) (T := T_S) (N := 12) hx hb (uw_S Z.1 hg.1) (fun _ h => h) t_S t_S_ok n_S hown hK hP hD hS 0 rfl rfl 8 (by decide) (kw95 Z.1 _ _ hg.1) (fun _ h9 => h9) rfl (by decide +kernel) rfl rfl (Nat.le_of_ble_eq_true rfl) d_S_keepIfBetter_27 (fun H locs hP hD hS => ?_)
        have hP : va_P D ncl (w_S a cA (va_up ii 8 (nI (sr_cop pre))) li ia la) H := hP
        have hD : va_D _ (w_S a cA (va_up ii 8 (nI (sr_cop pre))) li ia la) := hD
        refine lv_aload_n hx hb d_S_keepIfBetter_30 rfl (lv_at hl 0 rfl) ?_
        refine lv_iload_n hx hb d_S_keepIfBetter_31 rfl (lv_at hl 1 rfl) ?_
        refine va_put (D := D) (ci := 4) (v := .int (nI pre.length)) (ty := t_S 7) (C := R_S) (T := T_S) (N := 12) hx hb (uw_S Z.1 hg.1) (fun _ h => h) t_S t_S_ok n_S hown hK hP hD hS 0 rfl rfl 7 (by decide) (kw93 Z.1 _ _ hg.1) (fun _ h9 => h9) rfl (by decide +kernel) rfl rfl (Nat.le_of_ble_eq_true rfl) d_S_keepIfBetter_32 (fun H locs hP hD hS => ?_)
        have hP : va_P D ncl (w_S a cA (va_up (va_up ii 8 (nI (sr_cop pre))) 7 (nI pre.length)) li ia la) H := hP
        have hD : va_D _ (w_S a cA (va_up (va_up ii 8 (nI (sr_cop pre))) 7 (nI pre.length)) li ia la) := hD
        refine lv_iconst (v := 0) hx hb d_S_keepIfBetter_35 (by decide) ?_
        refine lv_topi (fun z4 ez4 => ?_)
        obtain rfl : z4 = (nI 0) := by rw [ez4]; rfl
        refine lv_istore_n (lv' := [(3, .int (nI 0)), (0, .ref (a 0)), (1, .int (nI pre.length)), (2, .int (nI (sr_cop pre)))]) hx hb d_S_keepIfBetter_36 rfl hl (by decide) rfl (fun ls hl => ?_)
        have loop : ∀ (f : Nat) (k : Nat) (ib : Nat → Nat → Int32), pre.length - k < f → k ≤ pre.length → (∀ z, z ≠ 5 → z ≠ 6 → ib z = ia z) → (∀ j, j < k → ib 5 j = ia 3 j ∧ ib 6 j = ia 4 j) → ∀ (H : Heap) (locs : List Loc), va_P D ncl (w_S a cA (va_up (va_up ii 8 (nI (sr_cop pre))) 7 (nI pre.length)) li ib la) H → va_D (va_A (w_S a cA ii li ia la) s.heap.size) (w_S a cA (va_up (va_up ii 8 (nI (sr_cop pre))) 7 (nI pre.length)) li ib la) → va_S (va_A (w_S a cA ii li ia la) s.heap.size) s.heap H locs → ∀ (ls : Array Slot), lv_has ls 4 [(0, .ref (a 0)), (1, .int (nI pre.length)), (3, .int (nI k))] → W p l e ({ frames := 0, cells := 0, slots := 0, locals := 0 }) s m ([.ref (a 0), .int (nI pre.length), .int (nI (sr_cop pre))] : List Value).toArray below meth c H locs 0 0 (MQ below (va_Qv (fun u => sR room hi wl M mr gap pre (sr_keep best pre) u) (wB D (va_A (w_S a cA ii li ia la) s.heap.size) (fun u => w_S a cA u.1 u.2.1 u.2.2.1 u.2.2.2)) (va_A (w_S a cA ii li ia la) s.heap.size)) ([.ref (a 0), .int (nI pre.length), .int (nI (sr_cop pre))] : List Value).toArray s 0 0 (va_A (w_S a cA ii li ia la) s.heap.size)) (F0 m 37 ls []) := by
          intro f
          induction f with
          | zero => intro k ib h; exact absurd h (Nat.not_lt_zero _)
          | succ f ih =>
            intro k ib hf hk h5 h6 H locs hP hD hS ls hl
            refine lv_iload_n hx hb d_S_keepIfBetter_37 rfl (lv_at hl 2 rfl) ?_
            refine lv_iload_n hx hb d_S_keepIfBetter_38 rfl (lv_at hl 1 rfl) ?_
            refine lv_icmp_ge (tgt := 72) hx hb d_S_keepIfBetter_39 (by decide) (fun e5 => ?_) (fun e5 => ?_)
            · have hkn : k = pre.length := by have := (nI_leI (by omega) (by omega)).mp e5; omega
              exact w_vret hx hb hr hlk hP hD hS ((va_up (va_up ii 8 (nI (sr_cop pre))) 7 (nI pre.length)), li, ib, la) rfl (by rw [hbt]; exact ⟨fun z hz => by rw [show ((va_up (va_up ii 8 (nI (sr_cop pre))) 7 (nI pre.length)), li, ib, la).2.2.1 = ib from rfl, h5 0 (by decide) (by decide)]; exact u1 z hz, fun z hz => by rw [show ((va_up (va_up ii 8 (nI (sr_cop pre))) 7 (nI pre.length)), li, ib, la).2.2.1 = ib from rfl, h5 2 (by decide) (by decide)]; exact u2 z hz, ⟨rfl, rfl, hp, hc⟩, u7, fun j hj => by rw [show ((va_up (va_up ii 8 (nI (sr_cop pre))) 7 (nI pre.length)), li, ib, la).2.2.1 = ib from rfl, h5 3 (by decide) (by decide), h5 4 (by decide) (by decide)]; exact u8 j hj, fun j hj => by have := h6 j (by omega); rw [show ((va_up (va_up ii 8 (nI (sr_cop pre))) 7 (nI pre.length)), li, ib, la).2.2.1 = ib from rfl, this.1, this.2]; exact u8 j hj⟩) d_S_keepIfBetter_72
            · have hkn : k < pre.length := Nat.lt_of_not_le (fun z => e5 ((nI_leI (by omega) (by omega)).mpr z))
              refine lv_aload_n hx hb d_S_keepIfBetter_42 rfl (lv_at hl 0 rfl) ?_
              refine va_get (D := D) (ci := 4) (v := .ref (a 6)) (C := R_S) (T := T_S) (N := 12) hx hb (uw_S Z.1 hg.1) (fun _ h => h) hown hK hP 0 rfl rfl 5 (by decide) (kw89 Z.1 _ _ hg.1) (fun _ h9 => h9) rfl d_S_keepIfBetter_43 ?_
              refine lv_iload_n hx hb d_S_keepIfBetter_46 rfl (lv_at hl 2 rfl) ?_
              refine lv_aload_n hx hb d_S_keepIfBetter_47 rfl (lv_at hl 0 rfl) ?_
              refine va_get (D := D) (ci := 4) (v := .ref (a 4)) (C := R_S) (T := T_S) (N := 12) hx hb (uw_S Z.1 hg.1) (fun _ h => h) hown hK hP 0 rfl rfl 3 (by decide) (kw87 Z.1 _ _ hg.1) (fun _ h9 => h9) rfl d_S_keepIfBetter_48 ?_
              refine lv_iload_n hx hb d_S_keepIfBetter_51 rfl (lv_at hl 2 rfl) ?_
              refine va_iald hx hb hK hP 4 0 rfl rfl (vp_in_nI (n := k) (N := 9) (by omega) (by decide)) d_S_keepIfBetter_52 ?_
              refine lv_topi (fun z6 ez6 => ?_)
              rw [nI_clamp (n := k) (by omega)] at ez6
              obtain rfl : z6 = ((ib 3) k) := ez6
              refine va_iast hx hb hK hP hD hS 6 0 rfl rfl (vp_in_nI (n := k) (N := 9) (by omega) (by decide)) d_S_keepIfBetter_53 (fun H locs hP hD hS => ?_)
              rw [nI_clamp (n := k) (by omega)] at hP hD
              have hP : va_P D ncl (w_S a cA (va_up (va_up ii 8 (nI (sr_cop pre))) 7 (nI pre.length)) li (va_up ib 5 (upd (ib 5) k ((ib 3) k))) la) H := hP
              have hD : va_D _ (w_S a cA (va_up (va_up ii 8 (nI (sr_cop pre))) 7 (nI pre.length)) li (va_up ib 5 (upd (ib 5) k ((ib 3) k))) la) := hD
              refine lv_aload_n hx hb d_S_keepIfBetter_54 rfl (lv_at hl 0 rfl) ?_
              refine va_get (D := D) (ci := 4) (v := .ref (a 7)) (C := R_S) (T := T_S) (N := 12) hx hb (uw_S Z.1 hg.1) (fun _ h => h) hown hK hP 0 rfl rfl 6 (by decide) (kw91 Z.1 _ _ hg.1) (fun _ h9 => h9) rfl d_S_keepIfBetter_55 ?_
              refine lv_iload_n hx hb d_S_keepIfBetter_58 rfl (lv_at hl 2 rfl) ?_
              refine lv_aload_n hx hb d_S_keepIfBetter_59 rfl (lv_at hl 0 rfl) ?_
              refine va_get (D := D) (ci := 4) (v := .ref (a 5)) (C := R_S) (T := T_S) (N := 12) hx hb (uw_S Z.1 hg.1) (fun _ h => h) hown hK hP 0 rfl rfl 4 (by decide) (kw88 Z.1 _ _ hg.1) (fun _ h9 => h9) rfl d_S_keepIfBetter_60 ?_
              refine lv_iload_n hx hb d_S_keepIfBetter_63 rfl (lv_at hl 2 rfl) ?_
              refine va_iald hx hb hK hP 5 0 rfl rfl (vp_in_nI (n := k) (N := 9) (by omega) (by decide)) d_S_keepIfBetter_64 ?_
              refine lv_topi (fun z7 ez7 => ?_)
              rw [nI_clamp (n := k) (by omega)] at ez7
              obtain rfl : z7 = ((ib 4) k) := ez7
              refine va_iast hx hb hK hP hD hS 7 0 rfl rfl (vp_in_nI (n := k) (N := 9) (by omega) (by decide)) d_S_keepIfBetter_65 (fun H locs hP hD hS => ?_)
              rw [nI_clamp (n := k) (by omega)] at hP hD
              have hP : va_P D ncl (w_S a cA (va_up (va_up ii 8 (nI (sr_cop pre))) 7 (nI pre.length)) li (va_up (va_up ib 5 (upd (ib 5) k ((ib 3) k))) 6 (upd (ib 6) k ((ib 4) k))) la) H := hP
              have hD : va_D _ (w_S a cA (va_up (va_up ii 8 (nI (sr_cop pre))) 7 (nI pre.length)) li (va_up (va_up ib 5 (upd (ib 5) k ((ib 3) k))) 6 (upd (ib 6) k ((ib 4) k))) la) := hD
              obtain ⟨v8, ev8⟩ : ∃ y : Int32, y = (nI k) + 1 := ⟨_, rfl⟩
              refine lv_iinc (v := v8) (lv' := [(3, .int v8), (0, .ref (a 0)), (1, .int (nI pre.length))]) hx hb d_S_keepIfBetter_66 hl (k := 2) rfl (by rw [ev8]; rfl) (by decide) rfl (fun ls hl => ?_)
              refine lv_goto (tgt := 37) hx hb d_S_keepIfBetter_69 (by decide) ?_
              obtain rfl : v8 = nI (k + 1) := by rw [ev8]; exact nI_1 k
              exact ih (k + 1) _ (by omega) (by omega) (fun z h1 h2 => by rw [up_n _ _ h2, up_n _ _ h1]; exact h5 z h1 h2) (fun j hj => by rw [up_n _ _ (by decide), up_s, up_s]; rcases Nat.lt_or_ge j k with q | q; (rw [upd_n _ _ (by omega), upd_n _ _ (by omega)]; exact h6 j q); (have : j = k := by omega); subst this; rw [upd_s, upd_s, h5 3 (by decide) (by decide), h5 4 (by decide) (by decide)]; exact ⟨rfl, rfl⟩) _ _ hP hD hS ls (lv_sub hl [1, 2, 0] rfl)
        exact loop (pre.length + 1) 0 ia (by omega) (by omega) (fun _ _ _ => rfl) lt_0 _ _ hP hD hS ls (lv_sub hl [1, 2, 0] rfl)
      · have h3 : ¬ pre.length < best.length := fun q => g3 (by rw [u3]; exact (nI_ltI (by omega) (by omega)).mpr q)
        exact w_vret hx hb hr hlk hP hD hS (ii, li, ia, la) rfl (by have e : sr_keep best pre = best := if_neg (by simp only [sr_bet, Bool.or_eq_true, Bool.and_eq_true, decide_eq_true_eq]; omega); rw [e]; exact hu) d_S_keepIfBetter_24
end
section
theorem gd_l {α : Type} (x y : List α) (d : α) {j : Nat} (h : j < x.length) : (x ++ y).getD j d = x.getD j d := by
  simp [List.getD_eq_getElem?_getD, List.getElem?_append_left h]
theorem gd_r {α : Type} (x : List α) (y d : α) : (x ++ [y]).getD x.length d = y := by
  simp [List.getD_eq_getElem?_getD]
set_option maxHeartbeats 4000000 in
set_option maxRecDepth 100000 in
theorem m_S_tryRow {l : Launch} {s0 : State} {D : va_G} {cA sa : Nat → Nat} (Z : zE l s0 D cA sa) (a : Nat → Nat) (room hi : Nat → Nat) (M mr gap : Nat) : ∀ (f : Nat) (ii : Nat → Int32) (li : Nat → Int64) (ia : Nat → Nat → Int32) (la : Nat → Nat → Int64) (wl : Nat → Nat) (pre best : List (Nat × Nat)) (first : Nat) (free : Int) (_ : sR room hi wl M mr gap pre best (ii, li, ia, la)) (_ : pre.length + f = M) (_ : first ≤ 8) (_ : sr_cop pre ≤ 20 * pre.length) (_ : -200000 ≤ free) (_ : free ≤ 65536) (sz : Nat), Met l y_S_tryRow [.code y_S_tryRow c_S_tryRow 9 none] ({ frames := f + 1, cells := 0, slots := 0, locals := 40 * f + 40 }) (wP s0 D [.ref (a 0), .int (nI pre.length), .int (nI first), .int (nI (sr_cop pre)), .long (lZ free)] (w_S a cA ii li ia la) sz) (va_Qv (fun u => sR room hi wl M mr gap pre (sr_try room (fun k => (hi k : Int)) gap mr f pre first free wl best) u) (wB D (va_A (w_S a cA ii li ia la) sz) (fun u => w_S a cA u.1 u.2.1 u.2.2.1 u.2.2.2)) (va_A (w_S a cA ii li ia la) sz)) 0 0 (va_A (w_S a cA ii li ia la) sz) := by
  intro f
  induction f with
  | zero =>
    intro ii li ia la wl pre best first free hu hM hfi hcp hf1 hf2 sz
    refine wMet Z (by decide) (Nat.le_of_ble_eq_true rfl) ?_
    intro p e s m below meth c hx hb hr hml hown hlk hin hg hK hsz hP hD hA hlo hS ls hl
    subst hsz
    have hown : s.vm.findClass R_S = some m.cls := hown
    obtain ⟨u1, u2, ⟨u3, u4, u5, u6⟩, ⟨u7, u7a, u7b, u7c, u7d, u7e⟩, u8, u9⟩ := id hu
    dsimp only at u3 u4 u7 u7b u7d
    refine lv_iload_n hx hb d_S_tryRow_0 rfl (lv_at hl 1 rfl) ?_
    refine lv_aload_n hx hb d_S_tryRow_1 rfl (lv_at hl 0 rfl) ?_
    refine va_get (D := D) (ci := 4) (v := .int (ii 9)) (C := R_S) (T := T_S) (N := 12) hx hb (uw_S Z.1 hg.1) (fun _ h => h) hown hK hP 0 rfl rfl 9 (by decide) (kw96 Z.1 _ _ hg.1) (fun _ h9 => h9) rfl d_S_tryRow_2 ?_
    refine lv_icmp_ge (tgt := 28) hx hb d_S_tryRow_5 (by decide) (fun _ => ?_) (fun k1 => by first | exact absurd (show ii 9 ≤ nI pre.length by rw [u7]; exact nI_le (by omega) (by omega)) k1 | exact absurd k1 (show ii 9 ≤ nI pre.length by rw [u7]; exact nI_le (by omega) (by omega)))
    exact w_vret hx hb hr hlk hP hD hS (ii, li, ia, la) rfl (show sR room hi wl M mr gap pre best (ii, li, ia, la) from hu) d_S_tryRow_28
  | succ f ih =>
    intro ii li ia la wl pre best first free hu hM hfi hcp hf1 hf2 sz
    refine wMet Z (by decide) (Nat.le_of_ble_eq_true rfl) ?_
    intro p e s m below meth c hx hb hr hml hown hlk hin hg hK hsz hP hD hA hlo hS ls hl
    subst hsz
    have hown : s.vm.findClass R_S = some m.cls := hown
    obtain ⟨u1, u2, ⟨u3, u4, u5, u6⟩, ⟨u7, u7a, u7b, u7c, u7d, u7e⟩, u8, u9⟩ := id hu
    dsimp only at u3 u4 u7 u7b u7d
    refine lv_iload_n hx hb d_S_tryRow_0 rfl (lv_at hl 1 rfl) ?_
    refine lv_aload_n hx hb d_S_tryRow_1 rfl (lv_at hl 0 rfl) ?_
    refine va_get (D := D) (ci := 4) (v := .int (ii 9)) (C := R_S) (T := T_S) (N := 12) hx hb (uw_S Z.1 hg.1) (fun _ h => h) hown hK hP 0 rfl rfl 9 (by decide) (kw96 Z.1 _ _ hg.1) (fun _ h9 => h9) rfl d_S_tryRow_2 ?_
    refine lv_icmp_ge (tgt := 28) hx hb d_S_tryRow_5 (by decide) (fun k1 => by first | exact absurd (show ¬ ii 9 ≤ nI pre.length by rw [u7]; exact nI_ge (by omega) (by omega)) k1 | exact absurd k1 (show ¬ ii 9 ≤ nI pre.length by rw [u7]; exact nI_ge (by omega) (by omega))) (fun _ => ?_)
    refine lv_iload_n hx hb d_S_tryRow_8 rfl (lv_at hl 3 rfl) ?_
    refine lv_aload_n hx hb d_S_tryRow_9 rfl (lv_at hl 0 rfl) ?_
    refine va_get (D := D) (ci := 4) (v := .int (ii 9)) (C := R_S) (T := T_S) (N := 12) hx hb (uw_S Z.1 hg.1) (fun _ h => h) hown hK hP 0 rfl rfl 9 (by decide) (kw96 Z.1 _ _ hg.1) (fun _ h9 => h9) rfl d_S_tryRow_10 ?_
    refine lv_iload_n hx hb d_S_tryRow_13 rfl (lv_at hl 1 rfl) ?_
    rw [u7]
    refine lv_isub hx hb d_S_tryRow_14 ?_
    refine lv_topi (fun z2 ez2 => ?_)
    obtain rfl : z2 = (nI (f + 1)) := by rw [ez2]; rw [nI_sub (by omega)]; congr 1; omega
    refine lv_aload_n hx hb d_S_tryRow_15 rfl (lv_at hl 0 rfl) ?_
    refine va_get (D := D) (ci := 4) (v := .int (ii 10)) (C := R_S) (T := T_S) (N := 12) hx hb (uw_S Z.1 hg.1) (fun _ h => h) hown hK hP 0 rfl rfl 10 (by decide) (kw97 Z.1 _ _ hg.1) (fun _ h9 => h9) rfl d_S_tryRow_16 ?_
    rw [u7b]
    refine lv_imul hx hb d_S_tryRow_19 ?_
    refine lv_topi (fun z3 ez3 => ?_)
    obtain rfl : z3 = (nI ((f + 1) * mr)) := by rw [ez3]; exact pk_mul _ _
    refine lv_iadd hx hb d_S_tryRow_20 ?_
    refine lv_topi (fun z4 ez4 => ?_)
    obtain rfl : z4 = (nI (sr_cop pre + (f + 1) * mr)) := by rw [ez4]; exact nI_add _ _
    have hmu : (f + 1) * mr ≤ 9 * 20 := Nat.mul_le_mul (by omega) u7c
    refine lv_aload_n hx hb d_S_tryRow_21 rfl (lv_at hl 0 rfl) ?_
    refine va_get (D := D) (ci := 4) (v := .int (ii 8)) (C := R_S) (T := T_S) (N := 12) hx hb (uw_S Z.1 hg.1) (fun _ h => h) hown hK hP 0 rfl rfl 8 (by decide) (kw95 Z.1 _ _ hg.1) (fun _ h9 => h9) rfl d_S_tryRow_22 ?_
    rw [u4]
    refine lv_icmp_gt (tgt := 29) hx hb d_S_tryRow_25 (by decide) (fun c5 => ?_) (fun c5 => ?_)
    · have hcut : ¬ sr_cop pre + (f + 1) * mr ≤ sr_cop best := Nat.not_le.mpr ((nI_ltI (by omega) (by omega)).mp c5)
      obtain ⟨FI, hFI⟩ : ∃ z, z = sr_try room (fun k => (hi k : Int)) gap mr (f + 1) pre first free wl best := ⟨_, rfl⟩
      have hFI2 := hFI
      rw [sr_try, if_neg hcut] at hFI2
      obtain ⟨ST, hST⟩ : ∃ z : List (Nat × Nat) → Nat → List (Nat × Nat), z = (fun b k => if 0 < min (room k) (wl (k / 2)) ∧ (fun k => (hi k : Int)) k ≤ free then sr_try room (fun k => (hi k : Int)) gap mr f (pre ++ [(k, min (room k) (wl (k / 2)))]) k (free - (fun k => (hi k : Int)) k - gap) (va_up wl (k / 2) (wl (k / 2) - min (room k) (wl (k / 2)))) (sr_keep b (pre ++ [(k, min (room k) (wl (k / 2)))])) else b) := ⟨_, rfl⟩
      rw [← hST] at hFI2
      refine lv_iload_n hx hb d_S_tryRow_29 rfl (lv_at hl 2 rfl) ?_
      refine lv_istore (lv' := [(6, .int (nI first)), (0, .ref (a 0)), (1, .int (nI pre.length)), (2, .int (nI first)), (3, .int (nI (sr_cop pre))), (4, .long (lZ free))]) hx hb d_S_tryRow_30 hl (by decide) rfl (fun ls hl => ?_)
      have loop : ∀ (f2 : Nat) (k : Nat) (b : List (Nat × Nat)) (v : St), 8 - k < f2 → k ≤ 8 → sR room hi wl M mr gap pre b v → (List.range' k (8 - k)).foldl ST b = FI → ∀ (H : Heap) (locs : List Loc), va_P D ncl (w_S a cA v.1 v.2.1 v.2.2.1 v.2.2.2) H → va_D (va_A (w_S a cA ii li ia la) s.heap.size) (w_S a cA v.1 v.2.1 v.2.2.1 v.2.2.2) → va_S (va_A (w_S a cA ii li ia la) s.heap.size) s.heap H locs → ∀ (ls : Array Slot), lv_has ls 9 [(0, .ref (a 0)), (1, .int (nI pre.length)), (3, .int (nI (sr_cop pre))), (4, .long (lZ free)), (6, .int (nI k))] → W p l e ({ frames := (f + 1) + 1, cells := 0, slots := 0, locals := 40 * (f + 1) + 40 }) s m ([.ref (a 0), .int (nI pre.length), .int (nI first), .int (nI (sr_cop pre)), .long (lZ free)] : List Value).toArray below meth c H locs 0 0 (MQ below (va_Qv (fun u => sR room hi wl M mr gap pre (sr_try room (fun k => (hi k : Int)) gap mr (f + 1) pre first free wl best) u) (wB D (va_A (w_S a cA ii li ia la) s.heap.size) (fun u => w_S a cA u.1 u.2.1 u.2.2.1 u.2.2.2)) (va_A (w_S a cA ii li ia la) s.heap.size)) ([.ref (a 0), .int (nI pre.length), .int (nI first), .int (nI (sr_cop pre)), .long (lZ free)] : List Value).toArray s 0 0 (va_A (w_S a cA ii li ia la) s.heap.size)) (F0 m 32 ls []) := by
        intro f2
        induction f2 with
        | zero => intro k b v h; exact absurd h (Nat.not_lt_zero _)
        | succ f2 ih2 =>
          intro k b v hf hk hv hfo H locs hP hD hS ls hl
          refine lv_iload hx hb d_S_tryRow_32 (lv_at hl 4 rfl) ?_
          refine lv_bipush (v := 8) hx hb d_S_tryRow_34 (by decide) ?_
          refine lv_icmp_ge (tgt := 167) hx hb d_S_tryRow_36 (by decide) (fun d6 => ?_) (fun d6 => ?_)
          · obtain rfl : k = 8 := by have := (nI_leI (a := 8) (by decide) (by omega)).mp d6; omega
            exact w_vret hx hb hr hlk hP hD hS v rfl (by show sR room hi wl M mr gap pre (sr_try room (fun k => (hi k : Int)) gap mr (f + 1) pre first free wl best) _; rw [← hFI, ← hfo]; exact hv) d_S_tryRow_167
          · have hkn : k < 8 := Nat.lt_of_not_le (fun z => d6 ((nI_leI (a := 8) (by decide) (by omega)).mpr z))
            have hfo2 : (List.range' (k + 1) (8 - (k + 1))).foldl ST (ST b k) = FI := by rw [← hfo, show 8 - k = (8 - (k + 1)) + 1 by omega, List.range'_succ, List.foldl_cons]
            obtain ⟨v1, v2, ⟨v3, v4, v5, v6⟩, ⟨v7, v7a, v7b, v7c, v7d, v7e⟩, v8, v9⟩ := id hv
            obtain ⟨mo, hmo⟩ : ∃ z, z = min (room k) (wl (k / 2)) := ⟨_, rfl⟩
            have hr20 := (v1 k hkn).2.1
            have hw200 := (v2 (k / 2) (by omega)).2
            have hmo20 : mo ≤ 20 ∧ mo ≤ wl (k / 2) := by omega
            refine lv_iload hx hb d_S_tryRow_39 (lv_at hl 4 rfl) ?_
            refine lv_iconst (v := 2) hx hb d_S_tryRow_41 (by decide) ?_
            refine lv_idiv hx hb d_S_tryRow_42 (by decide) ?_
            refine lv_topi (fun z7 ez7 => ?_)
            obtain rfl : z7 = (nI (k / 2)) := by rw [ez7]; exact pk_div (d := 2) (by omega) (by decide) (by decide)
            refine lv_istore (lv' := [(7, .int (nI (k / 2))), (0, .ref (a 0)), (1, .int (nI pre.length)), (3, .int (nI (sr_cop pre))), (4, .long (lZ free)), (6, .int (nI k))]) hx hb d_S_tryRow_43 hl (by decide) rfl (fun ls hl => ?_)
            refine lv_aload_n hx hb d_S_tryRow_45 rfl (lv_at hl 1 rfl) ?_
            refine va_get (D := D) (ci := 4) (v := .ref (a 1)) (C := R_S) (T := T_S) (N := 12) hx hb (uw_S Z.1 hg.1) (fun _ h => h) hown hK hP 0 rfl rfl 0 (by decide) (kw83 Z.1 _ _ hg.1) (fun _ h9 => h9) rfl d_S_tryRow_46 ?_
            refine lv_iload hx hb d_S_tryRow_49 (lv_at hl 5 rfl) ?_
            refine va_iald hx hb hK hP 1 0 rfl rfl (vp_in_nI (n := k) (N := 8) (by omega) (by decide)) d_S_tryRow_51 ?_
            refine lv_topi (fun z8 ez8 => ?_)
            rw [nI_clamp (n := k) (by omega)] at ez8
            obtain rfl : z8 = ((v.2.2.1 0) k) := ez8
            refine lv_topi (fun z9 ez9 => ?_)
            obtain rfl : z9 = (nI (room k)) := by rw [ez9]; exact (v1 k hkn).1
            refine lv_aload_n hx hb d_S_tryRow_52 rfl (lv_at hl 1 rfl) ?_
            refine va_get (D := D) (ci := 4) (v := .ref (a 3)) (C := R_S) (T := T_S) (N := 12) hx hb (uw_S Z.1 hg.1) (fun _ h => h) hown hK hP 0 rfl rfl 2 (by decide) (kw85 Z.1 _ _ hg.1) (fun _ h9 => h9) rfl d_S_tryRow_53 ?_
            refine lv_iload hx hb d_S_tryRow_56 (lv_at hl 0 rfl) ?_
            refine va_iald hx hb hK hP 3 0 rfl rfl (vp_in_nI (n := k / 2) (N := 4) (by omega) (by decide)) d_S_tryRow_58 ?_
            refine lv_topi (fun z10 ez10 => ?_)
            rw [nI_clamp (n := (k / 2)) (by omega)] at ez10
            obtain rfl : z10 = ((v.2.2.1 2) (k / 2)) := ez10
            refine lv_topi (fun z11 ez11 => ?_)
            obtain rfl : z11 = (nI (wl (k / 2))) := by rw [ez11]; exact (v2 (k / 2) (by omega)).1
            refine va_mmin hx hb (hml.trans hl.1.symm) hown (kw417 Z.1 _ _ hg.1) (kw380 Z.1 _ _ hg.1) (kw2 Z.1 _ _ hg.1) (kw381 Z.1 _ _ hg.1) (by show 1 ≤ f + 1 + 1; omega) (by show 13 ≤ 40 * (f + 1) + 40; omega) (Nat.le_of_ble_eq_true rfl) (Nat.le_of_ble_eq_true rfl) d_S_tryRow_59 ?_
            refine lv_topi (fun z12 ez12 => ?_)
            refine lv_topi (fun z13 ez13 => ?_)
            obtain rfl : z13 = (nI mo) := by rw [ez13, ez12]; rw [hmo]; exact mmin_n (a := room k) (b := wl (k / 2)) (by omega) (by omega)
            refine lv_istore (lv' := [(8, .int (nI mo)), (7, .int (nI (k / 2))), (0, .ref (a 0)), (1, .int (nI pre.length)), (3, .int (nI (sr_cop pre))), (4, .long (lZ free)), (6, .int (nI k))]) hx hb d_S_tryRow_62 hl (by decide) rfl (fun ls hl => ?_)
            refine lv_iload hx hb d_S_tryRow_64 (lv_at hl 0 rfl) ?_
            refine lv_if_le (tgt := 161) hx hb d_S_tryRow_66 (by decide) (fun g14 => ?_) (fun g14 => ?_)
            · have hm0 : mo = 0 := by have := (nI_leI (b := 0) (by omega) (by decide)).mp g14; omega
              have hsk : ST b k = b := by rw [hST]; exact if_neg (fun z => by have h1 := z.1; have h2 : (hi k : Int) ≤ free := z.2; omega)
              obtain ⟨v15, ev15⟩ : ∃ y : Int32, y = (nI k) + 1 := ⟨_, rfl⟩
              refine lv_iinc (v := v15) (lv' := [(6, .int v15), (8, .int (nI mo)), (7, .int (nI (k / 2))), (0, .ref (a 0)), (1, .int (nI pre.length)), (3, .int (nI (sr_cop pre))), (4, .long (lZ free))]) hx hb d_S_tryRow_161 hl (k := 6) rfl (by rw [ev15]; rfl) (by decide) rfl (fun ls hl => ?_)
              refine lv_goto (tgt := 32) hx hb d_S_tryRow_164 (by decide) ?_
              obtain rfl : v15 = nI (k + 1) := by rw [ev15]; exact nI_1 k
              exact ih2 (k + 1) b v (by omega) (by omega) hv (by rw [← hfo2, hsk]) _ _ hP hD hS ls (lv_sub hl [3, 4, 5, 6, 0] rfl)
            · have hm1 : 0 < mo := Nat.lt_of_not_le (fun z => g14 ((nI_leI (b := 0) (by omega) (by decide)).mpr z))
              refine lv_aload_n hx hb d_S_tryRow_69 rfl (lv_at hl 2 rfl) ?_
              refine va_get (D := D) (ci := 4) (v := .ref (a 2)) (C := R_S) (T := T_S) (N := 12) hx hb (uw_S Z.1 hg.1) (fun _ h => h) hown hK hP 0 rfl rfl 1 (by decide) (kw84 Z.1 _ _ hg.1) (fun _ h9 => h9) rfl d_S_tryRow_70 ?_
              refine lv_iload hx hb d_S_tryRow_73 (lv_at hl 6 rfl) ?_
              refine va_lald hx hb hK hP 2 1 rfl rfl (vp_in_nI (n := k) (N := 8) (by omega) (by decide)) d_S_tryRow_75 ?_
              refine lv_topl (fun z16 ez16 => ?_)
              rw [nI_clamp (n := k) (by omega)] at ez16
              obtain rfl : z16 = ((v.2.2.2 1) k) := ez16
              refine lv_topl (fun z17 ez17 => ?_)
              obtain rfl : z17 = (lN (hi k)) := by rw [ez17]; exact (v1 k hkn).2.2.1
              have hh := (v1 k hkn).2.2.2
              refine lv_lload hx hb d_S_tryRow_76 (lv_at hl 5 rfl) ?_
              refine W.lcmp hx hb d_S_tryRow_78 ?_
              refine lv_if_gt (tgt := 161) hx hb d_S_tryRow_79 (by decide) (fun w18 => ?_) (fun w18 => ?_)
              · have hgt : free < hi k := by have := (lg_cmp_gt _ _).mp w18; rw [← lZ_nat] at this; exact (lZ_lt (by omega) (by omega) (by omega) (by omega)).mp this
                have hsk : ST b k = b := by rw [hST]; exact if_neg (fun z => by have h1 := z.1; have h2 : (hi k : Int) ≤ free := z.2; omega)
                obtain ⟨v19, ev19⟩ : ∃ y : Int32, y = (nI k) + 1 := ⟨_, rfl⟩
                refine lv_iinc (v := v19) (lv' := [(6, .int v19), (8, .int (nI mo)), (7, .int (nI (k / 2))), (0, .ref (a 0)), (1, .int (nI pre.length)), (3, .int (nI (sr_cop pre))), (4, .long (lZ free))]) hx hb d_S_tryRow_161 hl (k := 6) rfl (by rw [ev19]; rfl) (by decide) rfl (fun ls hl => ?_)
                refine lv_goto (tgt := 32) hx hb d_S_tryRow_164 (by decide) ?_
                obtain rfl : v19 = nI (k + 1) := by rw [ev19]; exact nI_1 k
                exact ih2 (k + 1) b v (by omega) (by omega) hv (by rw [← hfo2, hsk]) _ _ hP hD hS ls (lv_sub hl [3, 4, 5, 6, 0] rfl)
              · have hle : (hi k : Int) ≤ free := Int.not_lt.mp (fun z => w18 ((lg_cmp_gt _ _).mpr (by rw [← lZ_nat]; exact (lZ_lt (by omega) (by omega) (by omega) (by omega)).mpr z)))
                obtain ⟨pq, hpq⟩ : ∃ z, z = pre ++ [(k, mo)] := ⟨_, rfl⟩
                obtain ⟨wq, hwq⟩ : ∃ z, z = va_up wl (k / 2) (wl (k / 2) - mo) := ⟨_, rfl⟩
                have hpl : pq.length = pre.length + 1 := by rw [hpq]; simp
                have hpc : sr_cop pq = sr_cop pre + mo := by rw [hpq, sr_cop_app]; simp [sr_cop]
                have hgo : ST b k = sr_try room (fun k => (hi k : Int)) gap mr f pq k (free - hi k - gap) wq (sr_keep b pq) := by rw [hST, hpq, hwq, hmo]; exact if_pos ⟨by omega, hle⟩
                refine lv_aload_n hx hb d_S_tryRow_82 rfl (lv_at hl 2 rfl) ?_
                refine va_get (D := D) (ci := 4) (v := .ref (a 4)) (C := R_S) (T := T_S) (N := 12) hx hb (uw_S Z.1 hg.1) (fun _ h => h) hown hK hP 0 rfl rfl 3 (by decide) (kw87 Z.1 _ _ hg.1) (fun _ h9 => h9) rfl d_S_tryRow_83 ?_
                refine lv_iload_n hx hb d_S_tryRow_86 rfl (lv_at hl 3 rfl) ?_
                refine lv_iload hx hb d_S_tryRow_87 (lv_at hl 6 rfl) ?_
                refine va_iast hx hb hK hP hD hS 4 0 rfl rfl (vp_in_nI (n := pre.length) (N := 9) (by omega) (by decide)) d_S_tryRow_89 (fun H locs hP hD hS => ?_)
                rw [nI_clamp (n := pre.length) (by omega)] at hP hD
                have hP : va_P D ncl (w_S a cA v.1 v.2.1 (va_up v.2.2.1 3 (upd (v.2.2.1 3) pre.length (nI k))) v.2.2.2) H := hP
                have hD : va_D _ (w_S a cA v.1 v.2.1 (va_up v.2.2.1 3 (upd (v.2.2.1 3) pre.length (nI k))) v.2.2.2) := hD
                refine lv_aload_n hx hb d_S_tryRow_90 rfl (lv_at hl 2 rfl) ?_
                refine va_get (D := D) (ci := 4) (v := .ref (a 5)) (C := R_S) (T := T_S) (N := 12) hx hb (uw_S Z.1 hg.1) (fun _ h => h) hown hK hP 0 rfl rfl 4 (by decide) (kw88 Z.1 _ _ hg.1) (fun _ h9 => h9) rfl d_S_tryRow_91 ?_
                refine lv_iload_n hx hb d_S_tryRow_94 rfl (lv_at hl 3 rfl) ?_
                refine lv_iload hx hb d_S_tryRow_95 (lv_at hl 0 rfl) ?_
                refine va_iast hx hb hK hP hD hS 5 0 rfl rfl (vp_in_nI (n := pre.length) (N := 9) (by omega) (by decide)) d_S_tryRow_97 (fun H locs hP hD hS => ?_)
                rw [nI_clamp (n := pre.length) (by omega)] at hP hD
                have hP : va_P D ncl (w_S a cA v.1 v.2.1 (va_up (va_up v.2.2.1 3 (upd (v.2.2.1 3) pre.length (nI k))) 4 (upd (v.2.2.1 4) pre.length (nI mo))) v.2.2.2) H := hP
                have hD : va_D _ (w_S a cA v.1 v.2.1 (va_up (va_up v.2.2.1 3 (upd (v.2.2.1 3) pre.length (nI k))) 4 (upd (v.2.2.1 4) pre.length (nI mo))) v.2.2.2) := hD
                refine lv_aload_n hx hb d_S_tryRow_98 rfl (lv_at hl 2 rfl) ?_
                refine va_get (D := D) (ci := 4) (v := .ref (a 3)) (C := R_S) (T := T_S) (N := 12) hx hb (uw_S Z.1 hg.1) (fun _ h => h) hown hK hP 0 rfl rfl 2 (by decide) (kw85 Z.1 _ _ hg.1) (fun _ h9 => h9) rfl d_S_tryRow_99 ?_
                refine lv_iload hx hb d_S_tryRow_102 (lv_at hl 1 rfl) ?_
                refine lv_dup2_11 hx hb d_S_tryRow_104 rfl rfl ?_
                refine va_iald hx hb hK hP 3 0 rfl rfl (vp_in_nI (n := k / 2) (N := 4) (by omega) (by decide)) d_S_tryRow_105 ?_
                refine lv_topi (fun z20 ez20 => ?_)
                rw [nI_clamp (n := (k / 2)) (by omega)] at ez20
                obtain rfl : z20 = ((v.2.2.1 2) (k / 2)) := ez20
                refine lv_topi (fun z21 ez21 => ?_)
                obtain rfl : z21 = (nI (wl (k / 2))) := by rw [ez21]; exact (v2 (k / 2) (by omega)).1
                refine lv_iload hx hb d_S_tryRow_106 (lv_at hl 0 rfl) ?_
                refine lv_isub hx hb d_S_tryRow_108 ?_
                refine lv_topi (fun z22 ez22 => ?_)
                obtain rfl : z22 = (nI (wl (k / 2) - mo)) := by rw [ez22]; exact nI_sub hmo20.2
                refine va_iast hx hb hK hP hD hS 3 0 rfl rfl (vp_in_nI (n := k / 2) (N := 4) (by omega) (by decide)) d_S_tryRow_109 (fun H locs hP hD hS => ?_)
                rw [nI_clamp (n := (k / 2)) (by omega)] at hP hD
                have hP : va_P D ncl (w_S a cA v.1 v.2.1 (va_up (va_up (va_up v.2.2.1 3 (upd (v.2.2.1 3) pre.length (nI k))) 4 (upd (v.2.2.1 4) pre.length (nI mo))) 2 (upd (v.2.2.1 2) (k / 2) (nI (wl (k / 2) - mo)))) v.2.2.2) H := hP
                have hD : va_D _ (w_S a cA v.1 v.2.1 (va_up (va_up (va_up v.2.2.1 3 (upd (v.2.2.1 3) pre.length (nI k))) 4 (upd (v.2.2.1 4) pre.length (nI mo))) 2 (upd (v.2.2.1 2) (k / 2) (nI (wl (k / 2) - mo)))) v.2.2.2) := hD
                refine lv_aload_n hx hb d_S_tryRow_110 rfl (lv_at hl 2 rfl) ?_
                refine lv_iload_n hx hb d_S_tryRow_111 rfl (lv_at hl 3 rfl) ?_
                refine lv_iconst (v := 1) hx hb d_S_tryRow_112 (by decide) ?_
                refine lv_iadd hx hb d_S_tryRow_113 ?_
                refine lv_topi (fun z23 ez23 => ?_)
                obtain rfl : z23 = (nI pq.length) := by rw [ez23]; rw [hpl]; exact nI_1 _
                refine lv_iload_n hx hb d_S_tryRow_114 rfl (lv_at hl 4 rfl) ?_
                refine lv_iload hx hb d_S_tryRow_115 (lv_at hl 0 rfl) ?_
                refine lv_iadd hx hb d_S_tryRow_117 ?_
                refine lv_topi (fun z24 ez24 => ?_)
                obtain rfl : z24 = (nI (sr_cop pq)) := by rw [ez24]; rw [hpc]; exact nI_add _ _
                have hu5 : sR room hi wq M mr gap pq b (v.1, v.2.1, (va_up (va_up (va_up v.2.2.1 3 (upd (v.2.2.1 3) pre.length (nI k))) 4 (upd (v.2.2.1 4) pre.length (nI mo))) 2 (upd (v.2.2.1 2) (k / 2) (nI (wl (k / 2) - mo)))), v.2.2.2) := by
                  refine ⟨v1, fun z hz => ?_, ⟨v3, v4, v5, v6⟩, ⟨v7, v7a, v7b, v7c, v7d, v7e⟩, fun j hj => ?_, v9⟩
                  · show upd (v.2.2.1 2) (k / 2) (nI (wl (k / 2) - mo)) z = nI (wq z) ∧ wq z ≤ 200
                    rw [hwq]
                    by_cases hz2 : z = k / 2
                    · subst hz2; rw [upd_s, up_s]; exact ⟨rfl, by omega⟩
                    · rw [upd_n _ _ hz2, up_n _ _ hz2]; exact v2 z hz
                  · show upd (v.2.2.1 3) pre.length (nI k) j = nI (pq.getD j (0, 0)).1 ∧ upd (v.2.2.1 4) pre.length (nI mo) j = nI (pq.getD j (0, 0)).2
                    rw [hpq]
                    rcases Nat.lt_or_ge j pre.length with h | h
                    · rw [upd_n _ _ (by omega), upd_n _ _ (by omega), gd_l _ _ _ h]; exact v8 j h
                    · obtain rfl : j = pre.length := by omega
                      rw [upd_s, upd_s, gd_r]; exact ⟨rfl, rfl⟩
                refine w_callv (wr := ([] : va_W)) (w_runV (rest := []) hx hb hml hown hl.1 hg hlo hK hP hD hS (m_S_keepIfBetter Z a _ _ _ _ room hi wq M mr gap pq b hu5 (by omega) (by omega) H.size) (kw422 Z.1) (kw424 Z.1) (kp_S_keepIfBetter Z.1) (kw425 Z.1) (kw4 Z.1) ⟨by decide, by decide, (by decide +kernel : (parseMethodDescriptor y_S_keepIfBetter.desc).map (fun d => d.parameters.length) = some 2)⟩ ⟨by show 0 + 1 ≤ f + 1 + 1; omega, by show 8 + (4 + 11) + (0) ≤ 40 * (f + 1) + 40; omega⟩ [0, 1, 2, 3, 4, 5, 6, 7] rfl rfl (ci := 4) (q0 := 0) rfl rfl rfl (Nat.le_of_ble_eq_true rfl) d_S_tryRow_118 ⟨Nat.le_of_ble_eq_true rfl, Nat.le_of_ble_eq_true rfl⟩) hP hD hS hA [0, 1, 2, 3, 4, 5, 6, 7] [] rfl rfl rfl (by decide) (fun u => w_S a cA u.1 u.2.1 u.2.2.1 u.2.2.2) [0, 1, 2, 3, 4, 5, 6, 7] rfl (fun _ => rfl) (fun u5 H locs hq5 hP hD hS => ?_)
                refine W.widen (k := 0) (n := 0) (Nat.le_of_ble_eq_true rfl) (Nat.le_of_ble_eq_true rfl) ?_
                refine lv_aload_n hx hb d_S_tryRow_121 rfl (lv_at hl 2 rfl) ?_
                refine lv_iload_n hx hb d_S_tryRow_122 rfl (lv_at hl 3 rfl) ?_
                refine lv_iconst (v := 1) hx hb d_S_tryRow_123 (by decide) ?_
                refine lv_iadd hx hb d_S_tryRow_124 ?_
                refine lv_topi (fun z26 ez26 => ?_)
                obtain rfl : z26 = (nI pq.length) := by rw [ez26]; rw [hpl]; exact nI_1 _
                refine lv_iload hx hb d_S_tryRow_125 (lv_at hl 6 rfl) ?_
                refine lv_iload_n hx hb d_S_tryRow_127 rfl (lv_at hl 4 rfl) ?_
                refine lv_iload hx hb d_S_tryRow_128 (lv_at hl 0 rfl) ?_
                refine lv_iadd hx hb d_S_tryRow_130 ?_
                refine lv_topi (fun z27 ez27 => ?_)
                obtain rfl : z27 = (nI (sr_cop pq)) := by rw [ez27]; rw [hpc]; exact nI_add _ _
                refine lv_lload hx hb d_S_tryRow_131 (lv_at hl 5 rfl) ?_
                refine lv_aload_n hx hb d_S_tryRow_133 rfl (lv_at hl 2 rfl) ?_
                refine va_get (D := D) (ci := 4) (v := .ref (a 2)) (C := R_S) (T := T_S) (N := 12) hx hb (uw_S Z.1 hg.1) (fun _ h => h) hown hK hP 0 rfl rfl 1 (by decide) (kw84 Z.1 _ _ hg.1) (fun _ h9 => h9) rfl d_S_tryRow_134 ?_
                refine lv_iload hx hb d_S_tryRow_137 (lv_at hl 6 rfl) ?_
                refine va_lald hx hb hK hP 2 1 rfl rfl (vp_in_nI (n := k) (N := 8) (by omega) (by decide)) d_S_tryRow_139 ?_
                refine lv_topl (fun z28 ez28 => ?_)
                rw [nI_clamp (n := k) (by omega)] at ez28
                obtain rfl : z28 = ((u5.2.2.2 1) k) := ez28
                refine lv_topl (fun z29 ez29 => ?_)
                obtain rfl : z29 = (lN (hi k)) := by rw [ez29]; exact (hq5.1 k hkn).2.2.1
                refine lv_lsub hx hb d_S_tryRow_140 ?_
                refine lv_aload_n hx hb d_S_tryRow_141 rfl (lv_at hl 2 rfl) ?_
                refine va_get (D := D) (ci := 4) (v := .long (u5.2.1 11)) (C := R_S) (T := T_S) (N := 12) hx hb (uw_S Z.1 hg.1) (fun _ h => h) hown hK hP 0 rfl rfl 11 (by decide) (kw98 Z.1 _ _ hg.1) (fun _ h9 => h9) rfl d_S_tryRow_142 ?_
                refine lv_topl (fun z30 ez30 => ?_)
                obtain rfl : z30 = (lN gap) := by rw [ez30]; exact hq5.2.2.2.1.2.2.2.2.1
                refine lv_lsub hx hb d_S_tryRow_145 ?_
                refine lv_topl (fun z31 ez31 => ?_)
                obtain rfl : z31 = (lZ (free - hi k - gap)) := by rw [ez31]; rw [← lZ_nat, ← lZ_nat, lZ_sub, lZ_sub]
                refine w_callv (wr := ([] : va_W)) (w_runV (rest := []) hx hb hml hown hl.1 hg hlo hK hP hD hS (ih _ _ _ _ wq pq (sr_keep b pq) k (free - hi k - gap) hq5 (by omega) (by omega) (by omega) (by omega) (by omega) H.size) (kw418 Z.1) (kw420 Z.1) (kp_S_tryRow Z.1) (kw421 Z.1) (kw4 Z.1) ⟨by decide, by decide, (by decide +kernel : (parseMethodDescriptor y_S_tryRow.desc).map (fun d => d.parameters.length) = some 4)⟩ ⟨by show (f + 1) + 1 ≤ f + 1 + 1; omega, by show 8 + (9 + 11) + (40 * f + 40) ≤ 40 * (f + 1) + 40; omega⟩ [0, 1, 2, 3, 4, 5, 6, 7] rfl rfl (ci := 4) (q0 := 0) rfl rfl rfl (Nat.le_of_ble_eq_true rfl) d_S_tryRow_146 ⟨Nat.le_of_ble_eq_true rfl, Nat.le_of_ble_eq_true rfl⟩) hP hD hS hA [0, 1, 2, 3, 4, 5, 6, 7] [] rfl rfl rfl (by decide) (fun u => w_S a cA u.1 u.2.1 u.2.2.1 u.2.2.2) [0, 1, 2, 3, 4, 5, 6, 7] rfl (fun _ => rfl) (fun u6 H locs hq6 hP hD hS => ?_)
                refine W.widen (k := 0) (n := 0) (Nat.le_of_ble_eq_true rfl) (Nat.le_of_ble_eq_true rfl) ?_
                obtain ⟨g1, g2, ⟨g3, g4, g5, g6⟩, g7, g8, g9⟩ := id hq6
                have hwk : wq (k / 2) = wl (k / 2) - mo := by rw [hwq, up_s]
                refine lv_aload_n hx hb d_S_tryRow_149 rfl (lv_at hl 2 rfl) ?_
                refine va_get (D := D) (ci := 4) (v := .ref (a 3)) (C := R_S) (T := T_S) (N := 12) hx hb (uw_S Z.1 hg.1) (fun _ h => h) hown hK hP 0 rfl rfl 2 (by decide) (kw85 Z.1 _ _ hg.1) (fun _ h9 => h9) rfl d_S_tryRow_150 ?_
                refine lv_iload hx hb d_S_tryRow_153 (lv_at hl 1 rfl) ?_
                refine lv_dup2_11 hx hb d_S_tryRow_155 rfl rfl ?_
                refine va_iald hx hb hK hP 3 0 rfl rfl (vp_in_nI (n := k / 2) (N := 4) (by omega) (by decide)) d_S_tryRow_156 ?_
                refine lv_topi (fun z33 ez33 => ?_)
                rw [nI_clamp (n := (k / 2)) (by omega)] at ez33
                obtain rfl : z33 = ((u6.2.2.1 2) (k / 2)) := ez33
                refine lv_topi (fun z34 ez34 => ?_)
                obtain rfl : z34 = (nI (wl (k / 2) - mo)) := by rw [ez34]; rw [← hwk]; exact (g2 (k / 2) (by omega)).1
                refine lv_iload hx hb d_S_tryRow_157 (lv_at hl 0 rfl) ?_
                refine lv_iadd hx hb d_S_tryRow_159 ?_
                refine lv_topi (fun z35 ez35 => ?_)
                obtain rfl : z35 = (nI (wl (k / 2))) := by rw [ez35]; rw [nI_add]; congr 1; omega
                refine va_iast hx hb hK hP hD hS 3 0 rfl rfl (vp_in_nI (n := k / 2) (N := 4) (by omega) (by decide)) d_S_tryRow_160 (fun H locs hP hD hS => ?_)
                rw [nI_clamp (n := (k / 2)) (by omega)] at hP hD
                have hP : va_P D ncl (w_S a cA u6.1 u6.2.1 (va_up u6.2.2.1 2 (upd (u6.2.2.1 2) (k / 2) (nI (wl (k / 2))))) u6.2.2.2) H := hP
                have hD : va_D _ (w_S a cA u6.1 u6.2.1 (va_up u6.2.2.1 2 (upd (u6.2.2.1 2) (k / 2) (nI (wl (k / 2))))) u6.2.2.2) := hD
                have hu7 : sR room hi wl M mr gap pre (ST b k) (u6.1, u6.2.1, (va_up u6.2.2.1 2 (upd (u6.2.2.1 2) (k / 2) (nI (wl (k / 2))))), u6.2.2.2) := by
                  rw [hgo]
                  refine ⟨g1, fun z hz => ?_, ⟨g3, g4, g5, g6⟩, g7, fun j hj => ?_, g9⟩
                  · show upd (u6.2.2.1 2) (k / 2) (nI (wl (k / 2))) z = nI (wl z) ∧ wl z ≤ 200
                    by_cases hz2 : z = k / 2
                    · subst hz2; rw [upd_s]; exact ⟨rfl, by omega⟩
                    · rw [upd_n _ _ hz2]; have := g2 z hz; rw [hwq, up_n _ _ hz2] at this; exact this
                  · have := g8 j (by omega)
                    rw [hpq, gd_l _ _ _ hj] at this; exact this
                obtain ⟨v36, ev36⟩ : ∃ y : Int32, y = (nI k) + 1 := ⟨_, rfl⟩
                refine lv_iinc (v := v36) (lv' := [(6, .int v36), (8, .int (nI mo)), (7, .int (nI (k / 2))), (0, .ref (a 0)), (1, .int (nI pre.length)), (3, .int (nI (sr_cop pre))), (4, .long (lZ free))]) hx hb d_S_tryRow_161 hl (k := 6) rfl (by rw [ev36]; rfl) (by decide) rfl (fun ls hl => ?_)
                refine lv_goto (tgt := 32) hx hb d_S_tryRow_164 (by decide) ?_
                obtain rfl : v36 = nI (k + 1) := by rw [ev36]; exact nI_1 k
                exact ih2 (k + 1) (ST b k) (u6.1, u6.2.1, (va_up u6.2.2.1 2 (upd (u6.2.2.1 2) (k / 2) (nI (wl (k / 2))))), u6.2.2.2) (by omega) (by omega) hu7 hfo2 _ _ hP hD hS ls (lv_sub hl [3, 4, 5, 6, 0] rfl)
      exact loop 9 first best (ii, li, ia, la) (by omega) hfi hu (by rw [hFI2]) _ _ hP hD hS ls (lv_sub hl [1, 2, 4, 5, 0] rfl)
    · have hcut : sr_cop pre + (f + 1) * mr ≤ sr_cop best := Nat.le_of_not_lt (fun q => c5 ((nI_ltI (by omega) (by omega)).mpr q))
      exact w_vret hx hb hr hlk hP hD hS (ii, li, ia, la) rfl (by show sR room hi wl M mr gap pre (sr_try room (fun k => (hi k : Int)) gap mr (f + 1) pre first free wl best) _; rw [sr_try, if_pos hcut]; exact hu) d_S_tryRow_28
end
section
set_option maxHeartbeats 4000000 in
set_option maxRecDepth 100000 in
theorem m_S_begin {l : Launch} {s0 : State} {D : va_G} {cA sa : Nat → Nat} (Z : zE l s0 D cA sa) (a : Nat → Nat) (ii : Nat → Int32) (li : Nat → Int64) (ia : Nat → Nat → Int32) (la : Nat → Nat → Int64) (g : Int64) (sz : Nat) : Met l y_S_begin [.code y_S_begin c_S_begin 4 none] ({ frames := 0, cells := 0, slots := 0, locals := 0 }) (wP s0 D [.ref (a 0), .long g] (w_S a cA ii li ia la) sz) (va_Qv (fun (u : St) => u.1 = va_up (va_up (va_up ii 7 0) 8 0) 10 0 ∧ u.2.1 = va_up li 11 g ∧ (∀ z, z ≠ 0 → u.2.2.1 z = ia z) ∧ (∀ k, k < 8 → u.2.2.1 0 k = 0) ∧ u.2.2.2 = la) (wB D (va_A (w_S a cA ii li ia la) sz) (fun (u : St) => w_S a cA u.1 u.2.1 u.2.2.1 u.2.2.2)) (va_A (w_S a cA ii li ia la) sz)) 0 0 (va_A (w_S a cA ii li ia la) sz) := by
  refine wMet Z (by decide) (Nat.le_of_ble_eq_true rfl) ?_
  intro p e s m below meth c hx hb hr hml hown hlk hin hg hK hsz hP hD hA hlo hS ls hl
  subst hsz
  have hown : s.vm.findClass R_S = some m.cls := hown
  refine lv_aload_n hx hb d_S_begin_0 rfl (lv_at hl 0 rfl) ?_
  refine lv_lload_n hx hb d_S_begin_1 rfl (lv_at hl 1 rfl) ?_
  refine va_put (D := D) (ci := 4) (v := .long g) (ty := t_S 11) (C := R_S) (T := T_S) (N := 12) hx hb (uw_S Z.1 hg.1) (fun _ h => h) t_S t_S_ok n_S hown hK hP hD hS 0 rfl rfl 11 (by decide) (kw98 Z.1 _ _ hg.1) (fun _ h9 => h9) rfl (by decide +kernel) rfl rfl (Nat.le_of_ble_eq_true rfl) d_S_begin_2 (fun H locs hP hD hS => ?_)
  have hP : va_P D ncl (w_S a cA ii (va_up li 11 g) ia la) H := hP
  have hD : va_D _ (w_S a cA ii (va_up li 11 g) ia la) := hD
  refine lv_aload_n hx hb d_S_begin_5 rfl (lv_at hl 0 rfl) ?_
  refine lv_iconst (v := 0) hx hb d_S_begin_6 (by decide) ?_
  refine va_put (D := D) (ci := 4) (v := .int 0) (ty := t_S 7) (C := R_S) (T := T_S) (N := 12) hx hb (uw_S Z.1 hg.1) (fun _ h => h) t_S t_S_ok n_S hown hK hP hD hS 0 rfl rfl 7 (by decide) (kw93 Z.1 _ _ hg.1) (fun _ h9 => h9) rfl (by decide +kernel) rfl rfl (Nat.le_of_ble_eq_true rfl) d_S_begin_7 (fun H locs hP hD hS => ?_)
  have hP : va_P D ncl (w_S a cA (va_up ii 7 0) (va_up li 11 g) ia la) H := hP
  have hD : va_D _ (w_S a cA (va_up ii 7 0) (va_up li 11 g) ia la) := hD
  refine lv_aload_n hx hb d_S_begin_10 rfl (lv_at hl 0 rfl) ?_
  refine lv_iconst (v := 0) hx hb d_S_begin_11 (by decide) ?_
  refine va_put (D := D) (ci := 4) (v := .int 0) (ty := t_S 8) (C := R_S) (T := T_S) (N := 12) hx hb (uw_S Z.1 hg.1) (fun _ h => h) t_S t_S_ok n_S hown hK hP hD hS 0 rfl rfl 8 (by decide) (kw95 Z.1 _ _ hg.1) (fun _ h9 => h9) rfl (by decide +kernel) rfl rfl (Nat.le_of_ble_eq_true rfl) d_S_begin_12 (fun H locs hP hD hS => ?_)
  have hP : va_P D ncl (w_S a cA (va_up (va_up ii 7 0) 8 0) (va_up li 11 g) ia la) H := hP
  have hD : va_D _ (w_S a cA (va_up (va_up ii 7 0) 8 0) (va_up li 11 g) ia la) := hD
  refine lv_aload_n hx hb d_S_begin_15 rfl (lv_at hl 0 rfl) ?_
  refine lv_iconst (v := 0) hx hb d_S_begin_16 (by decide) ?_
  refine va_put (D := D) (ci := 4) (v := .int 0) (ty := t_S 10) (C := R_S) (T := T_S) (N := 12) hx hb (uw_S Z.1 hg.1) (fun _ h => h) t_S t_S_ok n_S hown hK hP hD hS 0 rfl rfl 10 (by decide) (kw97 Z.1 _ _ hg.1) (fun _ h9 => h9) rfl (by decide +kernel) rfl rfl (Nat.le_of_ble_eq_true rfl) d_S_begin_17 (fun H locs hP hD hS => ?_)
  have hP : va_P D ncl (w_S a cA (va_up (va_up (va_up ii 7 0) 8 0) 10 0) (va_up li 11 g) ia la) H := hP
  have hD : va_D _ (w_S a cA (va_up (va_up (va_up ii 7 0) 8 0) 10 0) (va_up li 11 g) ia la) := hD
  refine lv_iconst (v := 0) hx hb d_S_begin_20 (by decide) ?_
  refine lv_topi (fun z1 ez1 => ?_)
  obtain rfl : z1 = (nI 0) := by rw [ez1]; rfl
  refine lv_istore_n (lv' := [(3, .int (nI 0)), (0, .ref (a 0)), (1, .long g)]) hx hb d_S_begin_21 rfl hl (by decide) rfl (fun ls hl => ?_)
  have loop : ∀ (f : Nat) (k : Nat) (ib : Nat → Nat → Int32), 8 - k < f → k ≤ 8 → (∀ z, z ≠ 0 → ib z = ia z) → (∀ j, j < k → ib 0 j = 0) → ∀ (H : Heap) (locs : List Loc), va_P D ncl (w_S a cA (va_up (va_up (va_up ii 7 0) 8 0) 10 0) (va_up li 11 g) ib la) H → va_D (va_A (w_S a cA ii li ia la) s.heap.size) (w_S a cA (va_up (va_up (va_up ii 7 0) 8 0) 10 0) (va_up li 11 g) ib la) → va_S (va_A (w_S a cA ii li ia la) s.heap.size) s.heap H locs → ∀ (ls : Array Slot), lv_has ls 4 [(0, .ref (a 0)), (3, .int (nI k))] → W p l e ({ frames := 0, cells := 0, slots := 0, locals := 0 }) s m ([.ref (a 0), .long g] : List Value).toArray below meth c H locs 0 0 (MQ below (va_Qv (fun (u : St) => u.1 = va_up (va_up (va_up ii 7 0) 8 0) 10 0 ∧ u.2.1 = va_up li 11 g ∧ (∀ z, z ≠ 0 → u.2.2.1 z = ia z) ∧ (∀ k, k < 8 → u.2.2.1 0 k = 0) ∧ u.2.2.2 = la) (wB D (va_A (w_S a cA ii li ia la) s.heap.size) (fun (u : St) => w_S a cA u.1 u.2.1 u.2.2.1 u.2.2.2)) (va_A (w_S a cA ii li ia la) s.heap.size)) ([.ref (a 0), .long g] : List Value).toArray s 0 0 (va_A (w_S a cA ii li ia la) s.heap.size)) (F0 m 22 ls []) := by
    intro f
    induction f with
    | zero => intro k ib h; exact absurd h (Nat.not_lt_zero _)
    | succ f ih =>
      intro k ib hf hk h5 h6 H locs hP hD hS ls hl
      refine lv_iload_n hx hb d_S_begin_22 rfl (lv_at hl 1 rfl) ?_
      refine lv_bipush (v := 8) hx hb d_S_begin_23 (by decide) ?_
      refine lv_icmp_ge (tgt := 41) hx hb d_S_begin_25 (by decide) (fun c2 => ?_) (fun c2 => ?_)
      · obtain rfl : k = 8 := by have := (nI_leI (a := 8) (by decide) (by omega)).mp c2; omega
        exact w_vret hx hb hr hlk hP hD hS ((va_up (va_up (va_up ii 7 0) 8 0) 10 0), (va_up li 11 g), ib, la) rfl ⟨rfl, rfl, h5, h6, rfl⟩ d_S_begin_41
      · have hkn : k < 8 := Nat.lt_of_not_le (fun z => c2 ((nI_leI (a := 8) (by decide) (by omega)).mpr z))
        refine lv_aload_n hx hb d_S_begin_28 rfl (lv_at hl 0 rfl) ?_
        refine va_get (D := D) (ci := 4) (v := .ref (a 1)) (C := R_S) (T := T_S) (N := 12) hx hb (uw_S Z.1 hg.1) (fun _ h => h) hown hK hP 0 rfl rfl 0 (by decide) (kw83 Z.1 _ _ hg.1) (fun _ h9 => h9) rfl d_S_begin_29 ?_
        refine lv_iload_n hx hb d_S_begin_32 rfl (lv_at hl 1 rfl) ?_
        refine lv_iconst (v := 0) hx hb d_S_begin_33 (by decide) ?_
        refine va_iast hx hb hK hP hD hS 1 0 rfl rfl (vp_in_nI (n := k) (N := 8) (by omega) (by decide)) d_S_begin_34 (fun H locs hP hD hS => ?_)
        rw [nI_clamp (n := k) (by omega)] at hP hD
        have hP : va_P D ncl (w_S a cA (va_up (va_up (va_up ii 7 0) 8 0) 10 0) (va_up li 11 g) (va_up ib 0 (upd (ib 0) k 0)) la) H := hP
        have hD : va_D _ (w_S a cA (va_up (va_up (va_up ii 7 0) 8 0) 10 0) (va_up li 11 g) (va_up ib 0 (upd (ib 0) k 0)) la) := hD
        obtain ⟨v3, ev3⟩ : ∃ y : Int32, y = (nI k) + 1 := ⟨_, rfl⟩
        refine lv_iinc (v := v3) (lv' := [(3, .int v3), (0, .ref (a 0))]) hx hb d_S_begin_35 hl (k := 1) rfl (by rw [ev3]; rfl) (by decide) rfl (fun ls hl => ?_)
        refine lv_goto (tgt := 22) hx hb d_S_begin_38 (by decide) ?_
        obtain rfl : v3 = nI (k + 1) := by rw [ev3]; exact nI_1 k
        exact ih (k + 1) _ (by omega) (by omega) (fun z h1 => by rw [up_n _ _ h1]; exact h5 z h1) (fun j hj => by rw [up_s]; rcases Nat.lt_or_ge j k with q | q; (rw [upd_n _ _ (by omega)]; exact h6 j q); (have : j = k := by omega); subst this; rw [upd_s]) _ _ hP hD hS ls (lv_sub hl [1, 0] rfl)
  exact loop 9 0 ia (by omega) (by omega) (fun _ _ => rfl) lt_0 _ _ hP hD hS ls (lv_sub hl [1, 0] rfl)
set_option maxHeartbeats 4000000 in
set_option maxRecDepth 100000 in
theorem m_S_allowKind {l : Launch} {s0 : State} {D : va_G} {cA sa : Nat → Nat} (Z : zE l s0 D cA sa) (a : Nat → Nat) (ii : Nat → Int32) (li : Nat → Int64) (ia : Nat → Nat → Int32) (la : Nat → Nat → Int64) (k c0 mr : Nat) (h : Int64) (hk : k < 8) (hc : c0 ≤ 20) (hmr : mr ≤ 20) (h10 : ii 10 = nI mr) (sz : Nat) : Met l y_S_allowKind [.code y_S_allowKind c_S_allowKind 5 none] ({ frames := 1, cells := 0, slots := 0, locals := 30 }) (wP s0 D [.ref (a 0), .int (nI k), .int (nI c0), .long h] (w_S a cA ii li ia la) sz) (va_Qv (fun (u : St) => u = (va_up ii 10 (nI (max mr c0)), li, va_up ia 0 (upd (ia 0) k (nI c0)), va_up la 1 (vp_updL (la 1) k h))) (wB D (va_A (w_S a cA ii li ia la) sz) (fun (u : St) => w_S a cA u.1 u.2.1 u.2.2.1 u.2.2.2)) (va_A (w_S a cA ii li ia la) sz)) 0 0 (va_A (w_S a cA ii li ia la) sz) := by
  refine wMet Z (by decide) (Nat.le_of_ble_eq_true rfl) ?_
  intro p e s m below meth c hx hb hr hml hown hlk hin hg hK hsz hP hD hA hlo hS ls hl
  subst hsz
  have hown : s.vm.findClass R_S = some m.cls := hown
  refine lv_aload_n hx hb d_S_allowKind_0 rfl (lv_at hl 0 rfl) ?_
  refine va_get (D := D) (ci := 4) (v := .ref (a 1)) (C := R_S) (T := T_S) (N := 12) hx hb (uw_S Z.1 hg.1) (fun _ h => h) hown hK hP 0 rfl rfl 0 (by decide) (kw83 Z.1 _ _ hg.1) (fun _ h9 => h9) rfl d_S_allowKind_1 ?_
  refine lv_iload_n hx hb d_S_allowKind_4 rfl (lv_at hl 1 rfl) ?_
  refine lv_iload_n hx hb d_S_allowKind_5 rfl (lv_at hl 2 rfl) ?_
  refine va_iast hx hb hK hP hD hS 1 0 rfl rfl (vp_in_nI (n := k) (N := 8) (by omega) (by decide)) d_S_allowKind_6 (fun H locs hP hD hS => ?_)
  rw [nI_clamp (n := k) (by omega)] at hP hD
  have hP : va_P D ncl (w_S a cA ii li (va_up ia 0 (upd (ia 0) k (nI c0))) la) H := hP
  have hD : va_D _ (w_S a cA ii li (va_up ia 0 (upd (ia 0) k (nI c0))) la) := hD
  refine lv_aload_n hx hb d_S_allowKind_7 rfl (lv_at hl 0 rfl) ?_
  refine va_get (D := D) (ci := 4) (v := .ref (a 2)) (C := R_S) (T := T_S) (N := 12) hx hb (uw_S Z.1 hg.1) (fun _ h => h) hown hK hP 0 rfl rfl 1 (by decide) (kw84 Z.1 _ _ hg.1) (fun _ h9 => h9) rfl d_S_allowKind_8 ?_
  refine lv_iload_n hx hb d_S_allowKind_11 rfl (lv_at hl 1 rfl) ?_
  refine lv_lload_n hx hb d_S_allowKind_12 rfl (lv_at hl 3 rfl) ?_
  refine va_last hx hb hK hP hD hS 2 1 rfl rfl (vp_in_nI (n := k) (N := 8) (by omega) (by decide)) d_S_allowKind_13 (fun H locs hP hD hS => ?_)
  rw [nI_clamp (n := k) (by omega)] at hP hD
  have hP : va_P D ncl (w_S a cA ii li (va_up ia 0 (upd (ia 0) k (nI c0))) (va_up la 1 (vp_updL (la 1) k h))) H := hP
  have hD : va_D _ (w_S a cA ii li (va_up ia 0 (upd (ia 0) k (nI c0))) (va_up la 1 (vp_updL (la 1) k h))) := hD
  refine lv_aload_n hx hb d_S_allowKind_14 rfl (lv_at hl 0 rfl) ?_
  refine lv_aload_n hx hb d_S_allowKind_15 rfl (lv_at hl 0 rfl) ?_
  refine va_get (D := D) (ci := 4) (v := .int (ii 10)) (C := R_S) (T := T_S) (N := 12) hx hb (uw_S Z.1 hg.1) (fun _ h => h) hown hK hP 0 rfl rfl 10 (by decide) (kw97 Z.1 _ _ hg.1) (fun _ h9 => h9) rfl d_S_allowKind_16 ?_
  refine lv_iload_n hx hb d_S_allowKind_19 rfl (lv_at hl 2 rfl) ?_
  refine va_mmax hx hb (hml.trans hl.1.symm) hown (kw410 Z.1 _ _ hg.1) (kw411 Z.1 _ _ hg.1) (kw2 Z.1 _ _ hg.1) (kw412 Z.1 _ _ hg.1) (Nat.le_of_ble_eq_true rfl) (Nat.le_of_ble_eq_true rfl) (Nat.le_of_ble_eq_true rfl) (Nat.le_of_ble_eq_true rfl) d_S_allowKind_20 ?_
  refine lv_topi (fun z1 ez1 => ?_)
  refine lv_topi (fun z2 ez2 => ?_)
  obtain rfl : z2 = (nI (max mr c0)) := by rw [ez2, ez1]; rw [h10]; exact mmax_n (a := mr) (b := c0) (by omega) (by omega)
  refine va_put (D := D) (ci := 4) (v := .int (nI (max mr c0))) (ty := t_S 10) (C := R_S) (T := T_S) (N := 12) hx hb (uw_S Z.1 hg.1) (fun _ h => h) t_S t_S_ok n_S hown hK hP hD hS 0 rfl rfl 10 (by decide) (kw97 Z.1 _ _ hg.1) (fun _ h9 => h9) rfl (by decide +kernel) rfl rfl (Nat.le_of_ble_eq_true rfl) d_S_allowKind_23 (fun H locs hP hD hS => ?_)
  have hP : va_P D ncl (w_S a cA (va_up ii 10 (nI (max mr c0))) li (va_up ia 0 (upd (ia 0) k (nI c0))) (va_up la 1 (vp_updL (la 1) k h))) H := hP
  have hD : va_D _ (w_S a cA (va_up ii 10 (nI (max mr c0))) li (va_up ia 0 (upd (ia 0) k (nI c0))) (va_up la 1 (vp_updL (la 1) k h))) := hD
  exact w_vret hx hb hr hlk hP hD hS ((va_up ii 10 (nI (max mr c0))), li, (va_up ia 0 (upd (ia 0) k (nI c0))), (va_up la 1 (vp_updL (la 1) k h))) rfl rfl d_S_allowKind_26
set_option maxHeartbeats 4000000 in
set_option maxRecDepth 100000 in
theorem m_S_look {l : Launch} {s0 : State} {D : va_G} {cA sa : Nat → Nat} (Z : zE l s0 D cA sa) (a : Nat → Nat) (ii : Nat → Int32) (li : Nat → Int64) (ia : Nat → Nat → Int32) (la : Nat → Nat → Int64) (room hi wl : Nat → Nat) (M mr gap : Nat) (best : List (Nat × Nat)) (r : Nat) (free : Int) (hu : sR room hi wl M mr gap [] best (ii, li, ia, la)) (hr9 : r ≤ 9) (hf1 : -200000 ≤ free) (hf2 : free ≤ 65536) (sz : Nat) : Met l y_S_look [.code y_S_look c_S_look 4 none] ({ frames := 12, cells := 0, slots := 0, locals := 500 }) (wP s0 D [.ref (a 0), .int (nI r), .long (lZ free)] (w_S a cA ii li ia la) sz) (va_Qv (fun u => sR room hi wl r mr gap [] (sr_try room (fun k => (hi k : Int)) gap mr r [] 0 free wl best) u) (wB D (va_A (w_S a cA ii li ia la) sz) (fun (u : St) => w_S a cA u.1 u.2.1 u.2.2.1 u.2.2.2)) (va_A (w_S a cA ii li ia la) sz)) 0 0 (va_A (w_S a cA ii li ia la) sz) := by
  refine wMet Z (by decide) (Nat.le_of_ble_eq_true rfl) ?_
  intro p e s m below meth c hx hb hr hml hown hlk hin hg hK hsz hP hD hA hlo hS ls hl
  subst hsz
  have hown : s.vm.findClass R_S = some m.cls := hown
  refine lv_aload_n hx hb d_S_look_0 rfl (lv_at hl 0 rfl) ?_
  refine lv_iload_n hx hb d_S_look_1 rfl (lv_at hl 1 rfl) ?_
  refine lv_bipush (v := 9) hx hb d_S_look_2 (by decide) ?_
  refine va_mmin hx hb (hml.trans hl.1.symm) hown (kw417 Z.1 _ _ hg.1) (kw380 Z.1 _ _ hg.1) (kw2 Z.1 _ _ hg.1) (kw381 Z.1 _ _ hg.1) (Nat.le_of_ble_eq_true rfl) (Nat.le_of_ble_eq_true rfl) (Nat.le_of_ble_eq_true rfl) (Nat.le_of_ble_eq_true rfl) d_S_look_4 ?_
  refine lv_topi (fun z1 ez1 => ?_)
  refine lv_topi (fun z2 ez2 => ?_)
  obtain rfl : z2 = (nI r) := by rw [ez2, ez1]; rw [show (9 : Int32) = nI 9 from rfl, mmin_n (a := r) (b := 9) (by omega) (by decide), Nat.min_eq_left hr9]
  refine va_put (D := D) (ci := 4) (v := .int (nI r)) (ty := t_S 9) (C := R_S) (T := T_S) (N := 12) hx hb (uw_S Z.1 hg.1) (fun _ h => h) t_S t_S_ok n_S hown hK hP hD hS 0 rfl rfl 9 (by decide) (kw96 Z.1 _ _ hg.1) (fun _ h9 => h9) rfl (by decide +kernel) rfl rfl (Nat.le_of_ble_eq_true rfl) d_S_look_7 (fun H locs hP hD hS => ?_)
  have hP : va_P D ncl (w_S a cA (va_up ii 9 (nI r)) li ia la) H := hP
  have hD : va_D _ (w_S a cA (va_up ii 9 (nI r)) li ia la) := hD
  refine lv_aload_n hx hb d_S_look_10 rfl (lv_at hl 0 rfl) ?_
  refine lv_iconst (v := 0) hx hb d_S_look_11 (by decide) ?_
  refine lv_topi (fun z3 ez3 => ?_)
  obtain rfl : z3 = (nI ([] : List (Nat × Nat)).length) := by rw [ez3]; rfl
  refine lv_iconst (v := 0) hx hb d_S_look_12 (by decide) ?_
  refine lv_topi (fun z4 ez4 => ?_)
  obtain rfl : z4 = (nI 0) := by rw [ez4]; rfl
  refine lv_iconst (v := 0) hx hb d_S_look_13 (by decide) ?_
  refine lv_topi (fun z5 ez5 => ?_)
  obtain rfl : z5 = (nI (sr_cop [])) := by rw [ez5]; rfl
  refine lv_lload_n hx hb d_S_look_14 rfl (lv_at hl 2 rfl) ?_
  obtain ⟨u1, u2, u3, ⟨u7, u7a, u7b, u7c, u7d, u7e⟩, u8, u9⟩ := id hu
  refine w_callv (wr := ([] : va_W)) (w_runV (rest := []) hx hb hml hown hl.1 hg hlo hK hP hD hS (m_S_tryRow Z a room hi r mr gap r _ _ _ _ wl [] best 0 free (show sR room hi wl r mr gap [] best ((va_up ii 9 (nI r)), li, ia, la) from ⟨u1, u2, u3, ⟨rfl, hr9, u7b, u7c, u7d, u7e⟩, u8, u9⟩) (by simp) (by omega) (by simp [sr_cop]) hf1 hf2 H.size) (kw418 Z.1) (kw420 Z.1) (kp_S_tryRow Z.1) (kw421 Z.1) (kw4 Z.1) ⟨by decide, by decide, (by decide +kernel : (parseMethodDescriptor y_S_tryRow.desc).map (fun d => d.parameters.length) = some 4)⟩ ⟨by show (r + 1) + 1 ≤ 12; omega, by show 8 + (9 + 11) + (40 * r + 40) ≤ 500; omega⟩ [0, 1, 2, 3, 4, 5, 6, 7] rfl rfl (ci := 4) (q0 := 0) rfl rfl rfl (Nat.le_of_ble_eq_true rfl) d_S_look_15 ⟨Nat.le_of_ble_eq_true rfl, Nat.le_of_ble_eq_true rfl⟩) hP hD hS hA [0, 1, 2, 3, 4, 5, 6, 7] [] rfl rfl rfl (by decide) (fun (u : St) => w_S a cA u.1 u.2.1 u.2.2.1 u.2.2.2) [0, 1, 2, 3, 4, 5, 6, 7] rfl (fun _ => rfl) (fun u5 H locs hq5 hP hD hS => ?_)
  refine W.widen (k := 0) (n := 0) (Nat.le_of_ble_eq_true rfl) (Nat.le_of_ble_eq_true rfl) ?_
  exact w_vret hx hb hr hlk hP hD hS u5 rfl hq5 d_S_look_18
set_option maxHeartbeats 4000000 in
set_option maxRecDepth 100000 in
theorem m_S_findsMore {l : Launch} {s0 : State} {D : va_G} {cA sa : Nat → Nat} (Z : zE l s0 D cA sa) (a : Nat → Nat) (ii : Nat → Int32) (li : Nat → Int64) (ia : Nat → Nat → Int32) (la : Nat → Nat → Int64) (room hi wl : Nat → Nat) (M mr gap : Nat) (best : List (Nat × Nat)) (r : Nat) (free : Int) (hu : sR room hi wl M mr gap [] best (ii, li, ia, la)) (hr9 : r ≤ 9) (hf1 : -200000 ≤ free) (hf2 : free ≤ 65536) (sz : Nat) : Met l y_S_findsMore [.code y_S_findsMore c_S_findsMore 5 (some .boolean)] ({ frames := 13, cells := 0, slots := 0, locals := 540 }) (wP s0 D [.ref (a 0), .int (nI r), .long (lZ free)] (w_S a cA ii li ia la) sz) (va_Qi (fun (z : Int32) (u : St) => z = (if sr_cop best < sr_cop (sr_try room (fun k => (hi k : Int)) gap mr r [] 0 free wl best) then 1 else 0) ∧ sR room hi wl r mr gap [] (sr_try room (fun k => (hi k : Int)) gap mr r [] 0 free wl best) u) (wB D (va_A (w_S a cA ii li ia la) sz) (fun (u : St) => w_S a cA u.1 u.2.1 u.2.2.1 u.2.2.2)) (va_A (w_S a cA ii li ia la) sz)) 0 0 (va_A (w_S a cA ii li ia la) sz) := by
  refine wMet Z (by decide) (Nat.le_of_ble_eq_true rfl) ?_
  intro p e s m below meth c hx hb hr hml hown hlk hin hg hK hsz hP hD hA hlo hS ls hl
  subst hsz
  have hown : s.vm.findClass R_S = some m.cls := hown
  have u4 : ii 8 = nI (sr_cop best) := hu.2.2.1.2.1
  have u6 := hu.2.2.1.2.2.2
  refine lv_aload_n hx hb d_S_findsMore_0 rfl (lv_at hl 0 rfl) ?_
  refine va_get (D := D) (ci := 4) (v := .int (ii 8)) (C := R_S) (T := T_S) (N := 12) hx hb (uw_S Z.1 hg.1) (fun _ h => h) hown hK hP 0 rfl rfl 8 (by decide) (kw95 Z.1 _ _ hg.1) (fun _ h9 => h9) rfl d_S_findsMore_1 ?_
  refine lv_topi (fun z1 ez1 => ?_)
  obtain rfl : z1 = (nI (sr_cop best)) := by rw [ez1]; exact u4
  refine lv_istore (lv' := [(4, .int (nI (sr_cop best))), (0, .ref (a 0)), (1, .int (nI r)), (2, .long (lZ free))]) hx hb d_S_findsMore_4 hl (by decide) rfl (fun ls hl => ?_)
  refine lv_aload_n hx hb d_S_findsMore_6 rfl (lv_at hl 1 rfl) ?_
  refine lv_iload_n hx hb d_S_findsMore_7 rfl (lv_at hl 2 rfl) ?_
  refine lv_lload_n hx hb d_S_findsMore_8 rfl (lv_at hl 3 rfl) ?_
  refine w_callv (wr := ([] : va_W)) (w_runV (rest := []) hx hb hml hown hl.1 hg hlo hK hP hD hS (m_S_look Z a _ _ _ _ room hi wl M mr gap best r free hu hr9 hf1 hf2 s.heap.size) (kw450 Z.1) (kw415 Z.1) (kp_S_look Z.1) (kw416 Z.1) (kw4 Z.1) ⟨by decide, by decide, (by decide +kernel : (parseMethodDescriptor y_S_look.desc).map (fun d => d.parameters.length) = some 2)⟩ ⟨Nat.le_of_ble_eq_true rfl, Nat.le_of_ble_eq_true rfl⟩ [0, 1, 2, 3, 4, 5, 6, 7] rfl rfl (ci := 4) (q0 := 0) rfl rfl rfl (Nat.le_of_ble_eq_true rfl) d_S_findsMore_9 ⟨Nat.le_of_ble_eq_true rfl, Nat.le_of_ble_eq_true rfl⟩) hP hD hS hA [0, 1, 2, 3, 4, 5, 6, 7] [] rfl rfl rfl (by decide) (fun (u : St) => w_S a cA u.1 u.2.1 u.2.2.1 u.2.2.2) [0, 1, 2, 3, 4, 5, 6, 7] rfl (fun _ => rfl) (fun u5 H locs hq5 hP hD hS => ?_)
  refine W.widen (k := 0) (n := 0) (Nat.le_of_ble_eq_true rfl) (Nat.le_of_ble_eq_true rfl) ?_
  have h4 : u5.1 8 = nI (sr_cop (sr_try room (fun k => (hi k : Int)) gap mr r [] 0 free wl best)) := hq5.2.2.1.2.1
  have h6 := hq5.2.2.1.2.2.2
  refine lv_aload_n hx hb d_S_findsMore_12 rfl (lv_at hl 1 rfl) ?_
  refine va_get (D := D) (ci := 4) (v := .int (u5.1 8)) (C := R_S) (T := T_S) (N := 12) hx hb (uw_S Z.1 hg.1) (fun _ h => h) hown hK hP 0 rfl rfl 8 (by decide) (kw95 Z.1 _ _ hg.1) (fun _ h9 => h9) rfl d_S_findsMore_13 ?_
  refine lv_topi (fun z3 ez3 => ?_)
  obtain rfl : z3 = (nI (sr_cop (sr_try room (fun k => (hi k : Int)) gap mr r [] 0 free wl best))) := by rw [ez3]; exact h4
  refine lv_iload hx hb d_S_findsMore_16 (lv_at hl 0 rfl) ?_
  refine lv_icmp_le (tgt := 25) hx hb d_S_findsMore_18 (by decide) (fun c4 => ?_) (fun c4 => ?_)
  · have h7 := (nI_leI (by omega) (by omega)).mp c4
    refine lv_iconst (v := 0) hx hb d_S_findsMore_25 (by decide) ?_
    exact w_zret hx hb hr rfl hlk hP hD hS u5 rfl ⟨by rw [if_neg (by omega)], hq5⟩ d_S_findsMore_26
  · have h7 : sr_cop best < sr_cop (sr_try room (fun k => (hi k : Int)) gap mr r [] 0 free wl best) := Nat.lt_of_not_le (fun z => c4 ((nI_leI (by omega) (by omega)).mpr z))
    refine lv_iconst (v := 1) hx hb d_S_findsMore_21 (by decide) ?_
    refine lv_goto (tgt := 26) hx hb d_S_findsMore_22 (by decide) ?_
    exact w_zret hx hb hr rfl hlk hP hD hS u5 rfl ⟨by rw [if_pos h7], hq5⟩ d_S_findsMore_26
end
section
set_option maxHeartbeats 4000000 in
set_option maxRecDepth 100000 in
theorem m_Y_begin {l : Launch} {s0 : State} {D : va_G} {cA sa : Nat → Nat} (Z : zE l s0 D cA sa) (a : Nat → Nat) (ii : Nat → Int32) (li : Nat → Int64) (ia : Nat → Nat → Int32) (la : Nat → Nat → Int64) (l0 y0 g : Int64) (sz : Nat) : Met l y_Y_begin [.code y_Y_begin c_Y_begin 7 none] ({ frames := 0, cells := 0, slots := 0, locals := 0 }) (wP s0 D [.ref (a 0), .long l0, .long y0, .long g] (w_Y a cA ii li ia la) sz) (va_Qv (fun (u : St) => u = (va_up (va_up (va_up ii 11 0) 12 0) 13 0, va_up (va_up (va_up li 14 l0) 15 y0) 16 g, ia, la)) (wB D (va_A (w_Y a cA ii li ia la) sz) (fun (u : St) => w_Y a cA u.1 u.2.1 u.2.2.1 u.2.2.2)) (va_A (w_Y a cA ii li ia la) sz)) 0 0 (va_A (w_Y a cA ii li ia la) sz) := by
  refine wMet Z (by decide) (Nat.le_of_ble_eq_true rfl) ?_
  intro p e s m below meth c hx hb hr hml hown hlk hin hg hK hsz hP hD hA hlo hS ls hl
  subst hsz
  have hown : s.vm.findClass R_Y = some m.cls := hown
  refine lv_aload_n hx hb d_Y_begin_0 rfl (lv_at hl 0 rfl) ?_
  refine lv_iconst (v := 0) hx hb d_Y_begin_1 (by decide) ?_
  refine va_put (D := D) (ci := 3) (v := .int 0) (ty := t_Y 11) (C := R_Y) (T := T_Y) (N := 17) hx hb (uw_Y Z.1 hg.1) (fun _ h => h) t_Y t_Y_ok n_Y hown hK hP hD hS 0 rfl rfl 11 (by decide) (kw153 Z.1 _ _ hg.1) (fun _ h9 => h9) rfl (by decide +kernel) rfl rfl (Nat.le_of_ble_eq_true rfl) d_Y_begin_2 (fun H locs hP hD hS => ?_)
  have hP : va_P D ncl (w_Y a cA (va_up ii 11 0) li ia la) H := hP
  have hD : va_D _ (w_Y a cA (va_up ii 11 0) li ia la) := hD
  refine lv_aload_n hx hb d_Y_begin_5 rfl (lv_at hl 0 rfl) ?_
  refine lv_iconst (v := 0) hx hb d_Y_begin_6 (by decide) ?_
  refine va_put (D := D) (ci := 3) (v := .int 0) (ty := t_Y 12) (C := R_Y) (T := T_Y) (N := 17) hx hb (uw_Y Z.1 hg.1) (fun _ h => h) t_Y t_Y_ok n_Y hown hK hP hD hS 0 rfl rfl 12 (by decide) (kw155 Z.1 _ _ hg.1) (fun _ h9 => h9) rfl (by decide +kernel) rfl rfl (Nat.le_of_ble_eq_true rfl) d_Y_begin_7 (fun H locs hP hD hS => ?_)
  have hP : va_P D ncl (w_Y a cA (va_up (va_up ii 11 0) 12 0) li ia la) H := hP
  have hD : va_D _ (w_Y a cA (va_up (va_up ii 11 0) 12 0) li ia la) := hD
  refine lv_aload_n hx hb d_Y_begin_10 rfl (lv_at hl 0 rfl) ?_
  refine lv_iconst (v := 0) hx hb d_Y_begin_11 (by decide) ?_
  refine va_put (D := D) (ci := 3) (v := .int 0) (ty := t_Y 13) (C := R_Y) (T := T_Y) (N := 17) hx hb (uw_Y Z.1 hg.1) (fun _ h => h) t_Y t_Y_ok n_Y hown hK hP hD hS 0 rfl rfl 13 (by decide) (kw157 Z.1 _ _ hg.1) (fun _ h9 => h9) rfl (by decide +kernel) rfl rfl (Nat.le_of_ble_eq_true rfl) d_Y_begin_12 (fun H locs hP hD hS => ?_)
  have hP : va_P D ncl (w_Y a cA (va_up (va_up (va_up ii 11 0) 12 0) 13 0) li ia la) H := hP
  have hD : va_D _ (w_Y a cA (va_up (va_up (va_up ii 11 0) 12 0) 13 0) li ia la) := hD
  refine lv_aload_n hx hb d_Y_begin_15 rfl (lv_at hl 0 rfl) ?_
  refine lv_lload_n hx hb d_Y_begin_16 rfl (lv_at hl 1 rfl) ?_
  refine va_put (D := D) (ci := 3) (v := .long l0) (ty := t_Y 14) (C := R_Y) (T := T_Y) (N := 17) hx hb (uw_Y Z.1 hg.1) (fun _ h => h) t_Y t_Y_ok n_Y hown hK hP hD hS 0 rfl rfl 14 (by decide) (kw159 Z.1 _ _ hg.1) (fun _ h9 => h9) rfl (by decide +kernel) rfl rfl (Nat.le_of_ble_eq_true rfl) d_Y_begin_17 (fun H locs hP hD hS => ?_)
  have hP : va_P D ncl (w_Y a cA (va_up (va_up (va_up ii 11 0) 12 0) 13 0) (va_up li 14 l0) ia la) H := hP
  have hD : va_D _ (w_Y a cA (va_up (va_up (va_up ii 11 0) 12 0) 13 0) (va_up li 14 l0) ia la) := hD
  refine lv_aload_n hx hb d_Y_begin_20 rfl (lv_at hl 0 rfl) ?_
  refine lv_lload_n hx hb d_Y_begin_21 rfl (lv_at hl 2 rfl) ?_
  refine va_put (D := D) (ci := 3) (v := .long y0) (ty := t_Y 15) (C := R_Y) (T := T_Y) (N := 17) hx hb (uw_Y Z.1 hg.1) (fun _ h => h) t_Y t_Y_ok n_Y hown hK hP hD hS 0 rfl rfl 15 (by decide) (kw160 Z.1 _ _ hg.1) (fun _ h9 => h9) rfl (by decide +kernel) rfl rfl (Nat.le_of_ble_eq_true rfl) d_Y_begin_22 (fun H locs hP hD hS => ?_)
  have hP : va_P D ncl (w_Y a cA (va_up (va_up (va_up ii 11 0) 12 0) 13 0) (va_up (va_up li 14 l0) 15 y0) ia la) H := hP
  have hD : va_D _ (w_Y a cA (va_up (va_up (va_up ii 11 0) 12 0) 13 0) (va_up (va_up li 14 l0) 15 y0) ia la) := hD
  refine lv_aload_n hx hb d_Y_begin_25 rfl (lv_at hl 0 rfl) ?_
  refine lv_lload hx hb d_Y_begin_26 (lv_at hl 3 rfl) ?_
  refine va_put (D := D) (ci := 3) (v := .long g) (ty := t_Y 16) (C := R_Y) (T := T_Y) (N := 17) hx hb (uw_Y Z.1 hg.1) (fun _ h => h) t_Y t_Y_ok n_Y hown hK hP hD hS 0 rfl rfl 16 (by decide) (kw161 Z.1 _ _ hg.1) (fun _ h9 => h9) rfl (by decide +kernel) rfl rfl (Nat.le_of_ble_eq_true rfl) d_Y_begin_28 (fun H locs hP hD hS => ?_)
  have hP : va_P D ncl (w_Y a cA (va_up (va_up (va_up ii 11 0) 12 0) 13 0) (va_up (va_up (va_up li 14 l0) 15 y0) 16 g) ia la) H := hP
  have hD : va_D _ (w_Y a cA (va_up (va_up (va_up ii 11 0) 12 0) 13 0) (va_up (va_up (va_up li 14 l0) 15 y0) 16 g) ia la) := hD
  exact w_vret hx hb hr hlk hP hD hS ((va_up (va_up (va_up ii 11 0) 12 0) 13 0), (va_up (va_up (va_up li 14 l0) 15 y0) 16 g), ia, la) rfl rfl d_Y_begin_31
set_option maxHeartbeats 4000000 in
set_option maxRecDepth 100000 in
theorem m_Y_addCopies {l : Launch} {s0 : State} {D : va_G} {cA sa : Nat → Nat} (Z : zE l s0 D cA sa) (a : Nat → Nat) (ii : Nat → Int32) (li : Nat → Int64) (ia : Nat → Nat → Int32) (la : Nat → Nat → Int64) (c0 n : Nat) (st : Int64) (h12 : ii 12 = nI n) (hn : n + c0 ≤ 160) (sz : Nat) : Met l y_Y_addCopies [.code y_Y_addCopies c_Y_addCopies 5 none] ({ frames := 0, cells := 0, slots := 0, locals := 0 }) (wP s0 D [.ref (a 0), .int (nI c0), .long st] (w_Y a cA ii li ia la) sz) (va_Qv (fun (u : St) => u.1 = va_up ii 12 (nI (n + c0)) ∧ u.2.1 = li ∧ (∀ z, z ≠ 6 → z ≠ 8 → u.2.2.1 z = ia z) ∧ (∀ z, z ≠ 7 → u.2.2.2 z = la z) ∧ (∀ j, j < n → u.2.2.1 6 j = ia 6 j ∧ u.2.2.1 8 j = ia 8 j ∧ u.2.2.2 7 j = la 7 j) ∧ (∀ i, i < c0 → u.2.2.1 6 (n + i) = ii 11 ∧ u.2.2.1 8 (n + i) = 0 ∧ u.2.2.2 7 (n + i) = li 14 + lZ i * st)) (wB D (va_A (w_Y a cA ii li ia la) sz) (fun (u : St) => w_Y a cA u.1 u.2.1 u.2.2.1 u.2.2.2)) (va_A (w_Y a cA ii li ia la) sz)) 0 0 (va_A (w_Y a cA ii li ia la) sz) := by
  refine wMet Z (by decide) (Nat.le_of_ble_eq_true rfl) ?_
  intro p e s m below meth c hx hb hr hml hown hlk hin hg hK hsz hP hD hA hlo hS ls hl
  subst hsz
  have hown : s.vm.findClass R_Y = some m.cls := hown
  refine lv_iconst (v := 0) hx hb d_Y_addCopies_0 (by decide) ?_
  refine lv_topi (fun z1 ez1 => ?_)
  obtain rfl : z1 = (nI 0) := by rw [ez1]; rfl
  refine lv_istore (lv' := [(4, .int (nI 0)), (0, .ref (a 0)), (1, .int (nI c0)), (2, .long st)]) hx hb d_Y_addCopies_1 hl (by decide) rfl (fun ls hl => ?_)
  have loop : ∀ (f : Nat) (k : Nat) (v : St), c0 - k < f → k ≤ c0 → v.1 = va_up ii 12 (nI (n + k)) → v.2.1 = li → (∀ z, z ≠ 6 → z ≠ 8 → v.2.2.1 z = ia z) → (∀ z, z ≠ 7 → v.2.2.2 z = la z) → (∀ j, j < n → v.2.2.1 6 j = ia 6 j ∧ v.2.2.1 8 j = ia 8 j ∧ v.2.2.2 7 j = la 7 j) → (∀ i, i < k → v.2.2.1 6 (n + i) = ii 11 ∧ v.2.2.1 8 (n + i) = 0 ∧ v.2.2.2 7 (n + i) = li 14 + lZ i * st) → ∀ (H : Heap) (locs : List Loc), va_P D ncl (w_Y a cA v.1 v.2.1 v.2.2.1 v.2.2.2) H → va_D (va_A (w_Y a cA ii li ia la) s.heap.size) (w_Y a cA v.1 v.2.1 v.2.2.1 v.2.2.2) → va_S (va_A (w_Y a cA ii li ia la) s.heap.size) s.heap H locs → ∀ (ls : Array Slot), lv_has ls 5 [(0, .ref (a 0)), (1, .int (nI c0)), (2, .long st), (4, .int (nI k))] → W p l e ({ frames := 0, cells := 0, slots := 0, locals := 0 }) s m ([.ref (a 0), .int (nI c0), .long st] : List Value).toArray below meth c H locs 0 0 (MQ below (va_Qv (fun (u : St) => u.1 = va_up ii 12 (nI (n + c0)) ∧ u.2.1 = li ∧ (∀ z, z ≠ 6 → z ≠ 8 → u.2.2.1 z = ia z) ∧ (∀ z, z ≠ 7 → u.2.2.2 z = la z) ∧ (∀ j, j < n → u.2.2.1 6 j = ia 6 j ∧ u.2.2.1 8 j = ia 8 j ∧ u.2.2.2 7 j = la 7 j) ∧ (∀ i, i < c0 → u.2.2.1 6 (n + i) = ii 11 ∧ u.2.2.1 8 (n + i) = 0 ∧ u.2.2.2 7 (n + i) = li 14 + lZ i * st)) (wB D (va_A (w_Y a cA ii li ia la) s.heap.size) (fun (u : St) => w_Y a cA u.1 u.2.1 u.2.2.1 u.2.2.2)) (va_A (w_Y a cA ii li ia la) s.heap.size)) ([.ref (a 0), .int (nI c0), .long st] : List Value).toArray s 0 0 (va_A (w_Y a cA ii li ia la) s.heap.size)) (F0 m 3 ls []) := by
    intro f
    induction f with
    | zero => intro k v h; exact absurd h (Nat.not_lt_zero _)
    | succ f ih =>
      intro k v hf hk h1 h2 h3 h4 h5 h6 H locs hP hD hS ls hl
      refine lv_iload hx hb d_Y_addCopies_3 (lv_at hl 3 rfl) ?_
      refine lv_iload_n hx hb d_Y_addCopies_5 rfl (lv_at hl 1 rfl) ?_
      refine lv_icmp_ge (tgt := 77) hx hb d_Y_addCopies_6 (by decide) (fun c2 => ?_) (fun c2 => ?_)
      · obtain rfl : k = c0 := by have := (nI_leI (by omega) (by omega)).mp c2; omega
        exact w_vret hx hb hr hlk hP hD hS v rfl ⟨h1, h2, h3, h4, h5, h6⟩ d_Y_addCopies_77
      · have hkn : k < c0 := Nat.lt_of_not_le (fun z => c2 ((nI_leI (by omega) (by omega)).mpr z))
        have hc2 : v.1 12 = nI (n + k) := by rw [h1, up_s]
        have hr2 : v.1 11 = ii 11 := by rw [h1, up_n _ _ (by decide)]
        refine lv_aload_n hx hb d_Y_addCopies_9 rfl (lv_at hl 0 rfl) ?_
        refine va_get (D := D) (ci := 3) (v := .int (v.1 12)) (C := R_Y) (T := T_Y) (N := 17) hx hb (uw_Y Z.1 hg.1) (fun _ h => h) hown hK hP 0 rfl rfl 12 (by decide) (kw155 Z.1 _ _ hg.1) (fun _ h9 => h9) rfl d_Y_addCopies_10 ?_
        refine lv_sipush (v := 160) hx hb d_Y_addCopies_13 (by decide) ?_
        refine lv_icmp_ge (tgt := 77) hx hb d_Y_addCopies_16 (by decide) (fun k3 => by first | exact absurd (show ¬ (160 : Int32) ≤ v.1 12 by rw [hc2]; exact nI_ge (b := 160) (by omega) (by decide)) k3 | exact absurd k3 (show ¬ (160 : Int32) ≤ v.1 12 by rw [hc2]; exact nI_ge (b := 160) (by omega) (by decide))) (fun _ => ?_)
        have hcl : (v.1 12).toNatClampNeg = n + k := by rw [hc2]; exact nI_clamp (by omega)
        refine lv_aload_n hx hb d_Y_addCopies_19 rfl (lv_at hl 0 rfl) ?_
        refine va_get (D := D) (ci := 3) (v := .ref (a 7)) (C := R_Y) (T := T_Y) (N := 17) hx hb (uw_Y Z.1 hg.1) (fun _ h => h) hown hK hP 0 rfl rfl 6 (by decide) (kw143 Z.1 _ _ hg.1) (fun _ h9 => h9) rfl d_Y_addCopies_20 ?_
        refine lv_aload_n hx hb d_Y_addCopies_23 rfl (lv_at hl 0 rfl) ?_
        refine va_get (D := D) (ci := 3) (v := .int (v.1 12)) (C := R_Y) (T := T_Y) (N := 17) hx hb (uw_Y Z.1 hg.1) (fun _ h => h) hown hK hP 0 rfl rfl 12 (by decide) (kw155 Z.1 _ _ hg.1) (fun _ h9 => h9) rfl d_Y_addCopies_24 ?_
        refine lv_aload_n hx hb d_Y_addCopies_27 rfl (lv_at hl 0 rfl) ?_
        refine va_get (D := D) (ci := 3) (v := .int (v.1 11)) (C := R_Y) (T := T_Y) (N := 17) hx hb (uw_Y Z.1 hg.1) (fun _ h => h) hown hK hP 0 rfl rfl 11 (by decide) (kw153 Z.1 _ _ hg.1) (fun _ h9 => h9) rfl d_Y_addCopies_28 ?_
        refine va_iast hx hb hK hP hD hS 7 0 rfl rfl (by rw [hc2]; exact vp_in_nI (N := 160) (by omega) (by decide)) d_Y_addCopies_31 (fun H locs hP hD hS => ?_)
        have hP : va_P D ncl (w_Y a cA v.1 v.2.1 (va_up v.2.2.1 6 (upd (v.2.2.1 6) (Int32.toNatClampNeg (v.1 12)) (v.1 11))) v.2.2.2) H := hP
        have hD : va_D _ (w_Y a cA v.1 v.2.1 (va_up v.2.2.1 6 (upd (v.2.2.1 6) (Int32.toNatClampNeg (v.1 12)) (v.1 11))) v.2.2.2) := hD
        refine lv_aload_n hx hb d_Y_addCopies_32 rfl (lv_at hl 0 rfl) ?_
        refine va_get (D := D) (ci := 3) (v := .ref (a 8)) (C := R_Y) (T := T_Y) (N := 17) hx hb (uw_Y Z.1 hg.1) (fun _ h => h) hown hK hP 0 rfl rfl 7 (by decide) (kw145 Z.1 _ _ hg.1) (fun _ h9 => h9) rfl d_Y_addCopies_33 ?_
        refine lv_aload_n hx hb d_Y_addCopies_36 rfl (lv_at hl 0 rfl) ?_
        refine va_get (D := D) (ci := 3) (v := .int (v.1 12)) (C := R_Y) (T := T_Y) (N := 17) hx hb (uw_Y Z.1 hg.1) (fun _ h => h) hown hK hP 0 rfl rfl 12 (by decide) (kw155 Z.1 _ _ hg.1) (fun _ h9 => h9) rfl d_Y_addCopies_37 ?_
        refine lv_aload_n hx hb d_Y_addCopies_40 rfl (lv_at hl 0 rfl) ?_
        refine va_get (D := D) (ci := 3) (v := .long (v.2.1 14)) (C := R_Y) (T := T_Y) (N := 17) hx hb (uw_Y Z.1 hg.1) (fun _ h => h) hown hK hP 0 rfl rfl 14 (by decide) (kw159 Z.1 _ _ hg.1) (fun _ h9 => h9) rfl d_Y_addCopies_41 ?_
        refine lv_iload hx hb d_Y_addCopies_44 (lv_at hl 3 rfl) ?_
        refine lv_i2l hx hb d_Y_addCopies_46 rfl ?_
        refine lv_lload_n hx hb d_Y_addCopies_47 rfl (lv_at hl 2 rfl) ?_
        refine lv_lmul hx hb d_Y_addCopies_48 ?_
        refine lv_topl (fun z4 ez4 => ?_)
        obtain rfl : z4 = (lZ k * st) := by rw [ez4]; rw [iN_i2l (by omega)]
        refine lv_ladd hx hb d_Y_addCopies_49 ?_
        refine va_last hx hb hK hP hD hS 8 1 rfl rfl (by rw [hc2]; exact vp_in_nI (N := 160) (by omega) (by decide)) d_Y_addCopies_50 (fun H locs hP hD hS => ?_)
        have hP : va_P D ncl (w_Y a cA v.1 v.2.1 (va_up v.2.2.1 6 (upd (v.2.2.1 6) (Int32.toNatClampNeg (v.1 12)) (v.1 11))) (va_up v.2.2.2 7 (vp_updL (v.2.2.2 7) (Int32.toNatClampNeg (v.1 12)) ((v.2.1 14) + (lZ k * st))))) H := hP
        have hD : va_D _ (w_Y a cA v.1 v.2.1 (va_up v.2.2.1 6 (upd (v.2.2.1 6) (Int32.toNatClampNeg (v.1 12)) (v.1 11))) (va_up v.2.2.2 7 (vp_updL (v.2.2.2 7) (Int32.toNatClampNeg (v.1 12)) ((v.2.1 14) + (lZ k * st))))) := hD
        refine lv_aload_n hx hb d_Y_addCopies_51 rfl (lv_at hl 0 rfl) ?_
        refine va_get (D := D) (ci := 3) (v := .ref (a 9)) (C := R_Y) (T := T_Y) (N := 17) hx hb (uw_Y Z.1 hg.1) (fun _ h => h) hown hK hP 0 rfl rfl 8 (by decide) (kw147 Z.1 _ _ hg.1) (fun _ h9 => h9) rfl d_Y_addCopies_52 ?_
        refine lv_aload_n hx hb d_Y_addCopies_55 rfl (lv_at hl 0 rfl) ?_
        refine va_get (D := D) (ci := 3) (v := .int (v.1 12)) (C := R_Y) (T := T_Y) (N := 17) hx hb (uw_Y Z.1 hg.1) (fun _ h => h) hown hK hP 0 rfl rfl 12 (by decide) (kw155 Z.1 _ _ hg.1) (fun _ h9 => h9) rfl d_Y_addCopies_56 ?_
        refine lv_iconst (v := 0) hx hb d_Y_addCopies_59 (by decide) ?_
        refine va_zast hx hb hK hP hD hS 9 2 rfl rfl (by rw [hc2]; exact vp_in_nI (N := 160) (by omega) (by decide)) d_Y_addCopies_60 (fun H locs hP hD hS => ?_)
        have hP : va_P D ncl (w_Y a cA v.1 v.2.1 (va_up (va_up v.2.2.1 6 (upd (v.2.2.1 6) (Int32.toNatClampNeg (v.1 12)) (v.1 11))) 8 (upd (v.2.2.1 8) (Int32.toNatClampNeg (v.1 12)) (vp_nar .boolean 0))) (va_up v.2.2.2 7 (vp_updL (v.2.2.2 7) (Int32.toNatClampNeg (v.1 12)) ((v.2.1 14) + (lZ k * st))))) H := hP
        have hD : va_D _ (w_Y a cA v.1 v.2.1 (va_up (va_up v.2.2.1 6 (upd (v.2.2.1 6) (Int32.toNatClampNeg (v.1 12)) (v.1 11))) 8 (upd (v.2.2.1 8) (Int32.toNatClampNeg (v.1 12)) (vp_nar .boolean 0))) (va_up v.2.2.2 7 (vp_updL (v.2.2.2 7) (Int32.toNatClampNeg (v.1 12)) ((v.2.1 14) + (lZ k * st))))) := hD
        refine lv_aload_n hx hb d_Y_addCopies_61 rfl (lv_at hl 0 rfl) ?_
        refine lv_dup hx hb d_Y_addCopies_62 rfl ?_
        refine va_get (D := D) (ci := 3) (v := .int (v.1 12)) (C := R_Y) (T := T_Y) (N := 17) hx hb (uw_Y Z.1 hg.1) (fun _ h => h) hown hK hP 0 rfl rfl 12 (by decide) (kw155 Z.1 _ _ hg.1) (fun _ h9 => h9) rfl d_Y_addCopies_63 ?_
        refine lv_iconst (v := 1) hx hb d_Y_addCopies_66 (by decide) ?_
        refine lv_iadd hx hb d_Y_addCopies_67 ?_
        refine va_put (D := D) (ci := 3) (v := .int ((v.1 12) + 1)) (ty := t_Y 12) (C := R_Y) (T := T_Y) (N := 17) hx hb (uw_Y Z.1 hg.1) (fun _ h => h) t_Y t_Y_ok n_Y hown hK hP hD hS 0 rfl rfl 12 (by decide) (kw155 Z.1 _ _ hg.1) (fun _ h9 => h9) rfl (by decide +kernel) rfl rfl (Nat.le_of_ble_eq_true rfl) d_Y_addCopies_68 (fun H locs hP hD hS => ?_)
        have hP : va_P D ncl (w_Y a cA (va_up v.1 12 ((v.1 12) + 1)) v.2.1 (va_up (va_up v.2.2.1 6 (upd (v.2.2.1 6) (Int32.toNatClampNeg (v.1 12)) (v.1 11))) 8 (upd (v.2.2.1 8) (Int32.toNatClampNeg (v.1 12)) (vp_nar .boolean 0))) (va_up v.2.2.2 7 (vp_updL (v.2.2.2 7) (Int32.toNatClampNeg (v.1 12)) ((v.2.1 14) + (lZ k * st))))) H := hP
        have hD : va_D _ (w_Y a cA (va_up v.1 12 ((v.1 12) + 1)) v.2.1 (va_up (va_up v.2.2.1 6 (upd (v.2.2.1 6) (Int32.toNatClampNeg (v.1 12)) (v.1 11))) 8 (upd (v.2.2.1 8) (Int32.toNatClampNeg (v.1 12)) (vp_nar .boolean 0))) (va_up v.2.2.2 7 (vp_updL (v.2.2.2 7) (Int32.toNatClampNeg (v.1 12)) ((v.2.1 14) + (lZ k * st))))) := hD
        obtain ⟨v5, ev5⟩ : ∃ y : Int32, y = (nI k) + 1 := ⟨_, rfl⟩
        refine lv_iinc (v := v5) (lv' := [(4, .int v5), (0, .ref (a 0)), (1, .int (nI c0)), (2, .long st)]) hx hb d_Y_addCopies_71 hl (k := 3) rfl (by rw [ev5]; rfl) (by decide) rfl (fun ls hl => ?_)
        refine lv_goto (tgt := 3) hx hb d_Y_addCopies_74 (by decide) ?_
        obtain rfl : v5 = nI (k + 1) := by rw [ev5]; exact nI_1 k
        have e6 : (va_up (va_up v.2.2.1 6 (upd (v.2.2.1 6) (Int32.toNatClampNeg (v.1 12)) (v.1 11))) 8 (upd (v.2.2.1 8) (Int32.toNatClampNeg (v.1 12)) (vp_nar .boolean 0))) 6 = upd (v.2.2.1 6) (n + k) (ii 11) := by rw [up_n _ _ (by decide), up_s, hcl, hr2]
        have e8 : (va_up (va_up v.2.2.1 6 (upd (v.2.2.1 6) (Int32.toNatClampNeg (v.1 12)) (v.1 11))) 8 (upd (v.2.2.1 8) (Int32.toNatClampNeg (v.1 12)) (vp_nar .boolean 0))) 8 = upd (v.2.2.1 8) (n + k) 0 := by rw [up_s, hcl]; rfl
        have e7 : (va_up v.2.2.2 7 (vp_updL (v.2.2.2 7) (Int32.toNatClampNeg (v.1 12)) ((v.2.1 14) + (lZ k * st)))) 7 = vp_updL (v.2.2.2 7) (n + k) (li 14 + lZ k * st) := by rw [up_s, hcl, h2]
        refine ih (k + 1) ((va_up v.1 12 ((v.1 12) + 1)), v.2.1, (va_up (va_up v.2.2.1 6 (upd (v.2.2.1 6) (Int32.toNatClampNeg (v.1 12)) (v.1 11))) 8 (upd (v.2.2.1 8) (Int32.toNatClampNeg (v.1 12)) (vp_nar .boolean 0))), (va_up v.2.2.2 7 (vp_updL (v.2.2.2 7) (Int32.toNatClampNeg (v.1 12)) ((v.2.1 14) + (lZ k * st))))) (by omega) (by omega) ?_ h2 ?_ ?_ ?_ ?_ _ _ hP hD hS ls (lv_sub hl [1, 2, 3, 0] rfl)
        · show (va_up v.1 12 ((v.1 12) + 1)) = _
          rw [hc2, nI_1, h1]; exact bx_uu _ _ _ _
        · intro z z1 z2
          show (va_up (va_up v.2.2.1 6 (upd (v.2.2.1 6) (Int32.toNatClampNeg (v.1 12)) (v.1 11))) 8 (upd (v.2.2.1 8) (Int32.toNatClampNeg (v.1 12)) (vp_nar .boolean 0))) z = _
          rw [up_n _ _ z2, up_n _ _ z1]; exact h3 z z1 z2
        · intro z z1
          show (va_up v.2.2.2 7 (vp_updL (v.2.2.2 7) (Int32.toNatClampNeg (v.1 12)) ((v.2.1 14) + (lZ k * st)))) z = _
          rw [up_n _ _ z1]; exact h4 z z1
        · intro j hj
          show (va_up (va_up v.2.2.1 6 (upd (v.2.2.1 6) (Int32.toNatClampNeg (v.1 12)) (v.1 11))) 8 (upd (v.2.2.1 8) (Int32.toNatClampNeg (v.1 12)) (vp_nar .boolean 0))) 6 j = _ ∧ (va_up (va_up v.2.2.1 6 (upd (v.2.2.1 6) (Int32.toNatClampNeg (v.1 12)) (v.1 11))) 8 (upd (v.2.2.1 8) (Int32.toNatClampNeg (v.1 12)) (vp_nar .boolean 0))) 8 j = _ ∧ (va_up v.2.2.2 7 (vp_updL (v.2.2.2 7) (Int32.toNatClampNeg (v.1 12)) ((v.2.1 14) + (lZ k * st)))) 7 j = _
          rw [e6, e8, e7, upd_n _ _ (by omega), upd_n _ _ (by omega), updL_n _ _ (by omega)]; exact h5 j hj
        · intro i hi
          show (va_up (va_up v.2.2.1 6 (upd (v.2.2.1 6) (Int32.toNatClampNeg (v.1 12)) (v.1 11))) 8 (upd (v.2.2.1 8) (Int32.toNatClampNeg (v.1 12)) (vp_nar .boolean 0))) 6 (n + i) = _ ∧ (va_up (va_up v.2.2.1 6 (upd (v.2.2.1 6) (Int32.toNatClampNeg (v.1 12)) (v.1 11))) 8 (upd (v.2.2.1 8) (Int32.toNatClampNeg (v.1 12)) (vp_nar .boolean 0))) 8 (n + i) = _ ∧ (va_up v.2.2.2 7 (vp_updL (v.2.2.2 7) (Int32.toNatClampNeg (v.1 12)) ((v.2.1 14) + (lZ k * st)))) 7 (n + i) = _
          rw [e6, e8, e7]
          rcases Nat.lt_or_ge i k with q | q
          · rw [upd_n _ _ (by omega), upd_n _ _ (by omega), updL_n _ _ (by omega)]; exact h6 i q
          · obtain rfl : i = k := by omega
            rw [upd_s, upd_s, updL_s]; exact ⟨rfl, rfl, rfl⟩
  exact loop (c0 + 1) 0 (ii, li, ia, la) (by omega) (by omega) (by show ii = _; rw [Nat.add_zero, ← h12]; funext z; by_cases hz : z = 12; (subst hz; rw [up_s]); rw [up_n _ _ hz]) rfl (fun _ _ _ => rfl) (fun _ _ => rfl) (fun _ _ => ⟨rfl, rfl, rfl⟩) (fun _ h => absurd h (Nat.not_lt_zero _)) _ _ hP hD hS ls (lv_sub hl [1, 2, 3, 0] rfl)
end
section
set_option maxHeartbeats 4000000 in
set_option maxRecDepth 100000 in
theorem m_Y_addScore {l : Launch} {s0 : State} {D : va_G} {cA sa : Nat → Nat} (Z : zE l s0 D cA sa) (a : Nat → Nat) (ii : Nat → Int32) (li : Nat → Int64) (ia : Nat → Nat → Int32) (la : Nat → Nat → Int64) (y : Int64) (bx : Int32) (k : Nat) (h13 : ii 13 = nI k) (hk : k < 16) (sz : Nat) : Met l y_Y_addScore [.code y_Y_addScore c_Y_addScore 4 none] ({ frames := 0, cells := 0, slots := 0, locals := 0 }) (wP s0 D [.ref (a 0), .long y, .int bx] (w_Y a cA ii li ia la) sz) (va_Qv (fun (u : St) => u = if 0 < k ∧ la 9 (k - 1) = y then (ii, li, va_up ia 10 (upd (ia 10) (k - 1) (ia 10 (k - 1) + bx)), la) else (va_up ii 13 (nI (k + 1)), li, va_up ia 10 (upd (ia 10) k bx), va_up la 9 (vp_updL (la 9) k y))) (wB D (va_A (w_Y a cA ii li ia la) sz) (fun (u : St) => w_Y a cA u.1 u.2.1 u.2.2.1 u.2.2.2)) (va_A (w_Y a cA ii li ia la) sz)) 0 0 (va_A (w_Y a cA ii li ia la) sz) := by
  refine wMet Z (by decide) (Nat.le_of_ble_eq_true rfl) ?_
  intro p e s m below meth c hx hb hr hml hown hlk hin hg hK hsz hP hD hA hlo hS ls hl
  subst hsz
  have hown : s.vm.findClass R_Y = some m.cls := hown
  refine lv_aload_n hx hb d_Y_addScore_0 rfl (lv_at hl 0 rfl) ?_
  refine va_get (D := D) (ci := 3) (v := .int (ii 13)) (C := R_Y) (T := T_Y) (N := 17) hx hb (uw_Y Z.1 hg.1) (fun _ h => h) hown hK hP 0 rfl rfl 13 (by decide) (kw157 Z.1 _ _ hg.1) (fun _ h9 => h9) rfl d_Y_addScore_1 ?_
  refine lv_if_le (tgt := 41) hx hb d_Y_addScore_4 (by decide) (fun c1 => ?_) (fun c1 => ?_)
  · have h0 : k = 0 := by rw [h13] at c1; have := (nI_leI (b := 0) (by omega) (by decide)).mp c1; omega
    have hcl : (ii 13).toNatClampNeg = k := by rw [h13]; exact nI_clamp (by omega)
    refine lv_aload_n hx hb d_Y_addScore_41 rfl (lv_at hl 0 rfl) ?_
    refine va_get (D := D) (ci := 3) (v := .int (ii 13)) (C := R_Y) (T := T_Y) (N := 17) hx hb (uw_Y Z.1 hg.1) (fun _ h => h) hown hK hP 0 rfl rfl 13 (by decide) (kw157 Z.1 _ _ hg.1) (fun _ h9 => h9) rfl d_Y_addScore_42 ?_
    refine lv_aload_n hx hb d_Y_addScore_45 rfl (lv_at hl 0 rfl) ?_
    refine va_get (D := D) (ci := 3) (v := .ref (a 10)) (C := R_Y) (T := T_Y) (N := 17) hx hb (uw_Y Z.1 hg.1) (fun _ h => h) hown hK hP 0 rfl rfl 9 (by decide) (kw149 Z.1 _ _ hg.1) (fun _ h9 => h9) rfl d_Y_addScore_46 ?_
    refine va_alen hx hb hK hP 10 1 rfl rfl (v := 16) rfl d_Y_addScore_49 ?_
    refine lv_icmp_ge (tgt := 83) hx hb d_Y_addScore_50 (by decide) (fun k2 => by first | exact absurd (show ¬ (16 : Int32) ≤ ii 13 by rw [h13]; exact nI_ge (b := 16) hk (by decide)) k2 | exact absurd k2 (show ¬ (16 : Int32) ≤ ii 13 by rw [h13]; exact nI_ge (b := 16) hk (by decide))) (fun _ => ?_)
    refine lv_aload_n hx hb d_Y_addScore_53 rfl (lv_at hl 0 rfl) ?_
    refine va_get (D := D) (ci := 3) (v := .ref (a 10)) (C := R_Y) (T := T_Y) (N := 17) hx hb (uw_Y Z.1 hg.1) (fun _ h => h) hown hK hP 0 rfl rfl 9 (by decide) (kw149 Z.1 _ _ hg.1) (fun _ h9 => h9) rfl d_Y_addScore_54 ?_
    refine lv_aload_n hx hb d_Y_addScore_57 rfl (lv_at hl 0 rfl) ?_
    refine va_get (D := D) (ci := 3) (v := .int (ii 13)) (C := R_Y) (T := T_Y) (N := 17) hx hb (uw_Y Z.1 hg.1) (fun _ h => h) hown hK hP 0 rfl rfl 13 (by decide) (kw157 Z.1 _ _ hg.1) (fun _ h9 => h9) rfl d_Y_addScore_58 ?_
    refine lv_lload_n hx hb d_Y_addScore_61 rfl (lv_at hl 1 rfl) ?_
    refine va_last hx hb hK hP hD hS 10 1 rfl rfl (by rw [h13]; exact vp_in_nI (N := 16) hk (by decide)) d_Y_addScore_62 (fun H locs hP hD hS => ?_)
    have hP : va_P D ncl (w_Y a cA ii li ia (va_up la 9 (vp_updL (la 9) (Int32.toNatClampNeg (ii 13)) y))) H := hP
    have hD : va_D _ (w_Y a cA ii li ia (va_up la 9 (vp_updL (la 9) (Int32.toNatClampNeg (ii 13)) y))) := hD
    refine lv_aload_n hx hb d_Y_addScore_63 rfl (lv_at hl 0 rfl) ?_
    refine va_get (D := D) (ci := 3) (v := .ref (a 11)) (C := R_Y) (T := T_Y) (N := 17) hx hb (uw_Y Z.1 hg.1) (fun _ h => h) hown hK hP 0 rfl rfl 10 (by decide) (kw151 Z.1 _ _ hg.1) (fun _ h9 => h9) rfl d_Y_addScore_64 ?_
    refine lv_aload_n hx hb d_Y_addScore_67 rfl (lv_at hl 0 rfl) ?_
    refine va_get (D := D) (ci := 3) (v := .int (ii 13)) (C := R_Y) (T := T_Y) (N := 17) hx hb (uw_Y Z.1 hg.1) (fun _ h => h) hown hK hP 0 rfl rfl 13 (by decide) (kw157 Z.1 _ _ hg.1) (fun _ h9 => h9) rfl d_Y_addScore_68 ?_
    refine lv_iload_n hx hb d_Y_addScore_71 rfl (lv_at hl 2 rfl) ?_
    refine va_iast hx hb hK hP hD hS 11 0 rfl rfl (by rw [h13]; exact vp_in_nI (N := 16) hk (by decide)) d_Y_addScore_72 (fun H locs hP hD hS => ?_)
    have hP : va_P D ncl (w_Y a cA ii li (va_up ia 10 (upd (ia 10) (Int32.toNatClampNeg (ii 13)) bx)) (va_up la 9 (vp_updL (la 9) (Int32.toNatClampNeg (ii 13)) y))) H := hP
    have hD : va_D _ (w_Y a cA ii li (va_up ia 10 (upd (ia 10) (Int32.toNatClampNeg (ii 13)) bx)) (va_up la 9 (vp_updL (la 9) (Int32.toNatClampNeg (ii 13)) y))) := hD
    refine lv_aload_n hx hb d_Y_addScore_73 rfl (lv_at hl 0 rfl) ?_
    refine lv_dup hx hb d_Y_addScore_74 rfl ?_
    refine va_get (D := D) (ci := 3) (v := .int (ii 13)) (C := R_Y) (T := T_Y) (N := 17) hx hb (uw_Y Z.1 hg.1) (fun _ h => h) hown hK hP 0 rfl rfl 13 (by decide) (kw157 Z.1 _ _ hg.1) (fun _ h9 => h9) rfl d_Y_addScore_75 ?_
    refine lv_iconst (v := 1) hx hb d_Y_addScore_78 (by decide) ?_
    refine lv_iadd hx hb d_Y_addScore_79 ?_
    refine va_put (D := D) (ci := 3) (v := .int ((ii 13) + 1)) (ty := t_Y 13) (C := R_Y) (T := T_Y) (N := 17) hx hb (uw_Y Z.1 hg.1) (fun _ h => h) t_Y t_Y_ok n_Y hown hK hP hD hS 0 rfl rfl 13 (by decide) (kw157 Z.1 _ _ hg.1) (fun _ h9 => h9) rfl (by decide +kernel) rfl rfl (Nat.le_of_ble_eq_true rfl) d_Y_addScore_80 (fun H locs hP hD hS => ?_)
    have hP : va_P D ncl (w_Y a cA (va_up ii 13 ((ii 13) + 1)) li (va_up ia 10 (upd (ia 10) (Int32.toNatClampNeg (ii 13)) bx)) (va_up la 9 (vp_updL (la 9) (Int32.toNatClampNeg (ii 13)) y))) H := hP
    have hD : va_D _ (w_Y a cA (va_up ii 13 ((ii 13) + 1)) li (va_up ia 10 (upd (ia 10) (Int32.toNatClampNeg (ii 13)) bx)) (va_up la 9 (vp_updL (la 9) (Int32.toNatClampNeg (ii 13)) y))) := hD
    exact w_vret hx hb hr hlk hP hD hS ((va_up ii 13 ((ii 13) + 1)), li, (va_up ia 10 (upd (ia 10) (Int32.toNatClampNeg (ii 13)) bx)), (va_up la 9 (vp_updL (la 9) (Int32.toNatClampNeg (ii 13)) y))) rfl (by rw [if_neg (fun z => by omega), hcl, h13, nI_1]) d_Y_addScore_83
  · have h0 : 0 < k := Nat.lt_of_not_le (fun z => c1 (by rw [h13]; exact (nI_leI (b := 0) (by omega) (by decide)).mpr z))
    refine lv_aload_n hx hb d_Y_addScore_7 rfl (lv_at hl 0 rfl) ?_
    refine va_get (D := D) (ci := 3) (v := .ref (a 10)) (C := R_Y) (T := T_Y) (N := 17) hx hb (uw_Y Z.1 hg.1) (fun _ h => h) hown hK hP 0 rfl rfl 9 (by decide) (kw149 Z.1 _ _ hg.1) (fun _ h9 => h9) rfl d_Y_addScore_8 ?_
    refine lv_aload_n hx hb d_Y_addScore_11 rfl (lv_at hl 0 rfl) ?_
    refine va_get (D := D) (ci := 3) (v := .int (ii 13)) (C := R_Y) (T := T_Y) (N := 17) hx hb (uw_Y Z.1 hg.1) (fun _ h => h) hown hK hP 0 rfl rfl 13 (by decide) (kw157 Z.1 _ _ hg.1) (fun _ h9 => h9) rfl d_Y_addScore_12 ?_
    refine lv_iconst (v := 1) hx hb d_Y_addScore_15 (by decide) ?_
    refine lv_isub hx hb d_Y_addScore_16 ?_
    refine lv_topi (fun z3 ez3 => ?_)
    obtain rfl : z3 = (nI (k - 1)) := by rw [ez3]; rw [h13]; exact nI_sub (b := 1) (by omega)
    refine va_lald hx hb hK hP 10 1 rfl rfl (vp_in_nI (N := 16) (by omega) (by decide)) d_Y_addScore_17 ?_
    refine lv_topl (fun z4 ez4 => ?_)
    rw [nI_clamp (n := (k - 1)) (by omega)] at ez4
    obtain rfl : z4 = ((la 9) (k - 1)) := ez4
    refine lv_lload_n hx hb d_Y_addScore_18 rfl (lv_at hl 1 rfl) ?_
    refine W.lcmp hx hb d_Y_addScore_19 ?_
    refine lv_if_ne (tgt := 41) hx hb d_Y_addScore_20 (by decide) (fun d5 => ?_) (fun d5 => ?_)
    · have hcl : (ii 13).toNatClampNeg = k := by rw [h13]; exact nI_clamp (by omega)
      refine lv_aload_n hx hb d_Y_addScore_41 rfl (lv_at hl 0 rfl) ?_
      refine va_get (D := D) (ci := 3) (v := .int (ii 13)) (C := R_Y) (T := T_Y) (N := 17) hx hb (uw_Y Z.1 hg.1) (fun _ h => h) hown hK hP 0 rfl rfl 13 (by decide) (kw157 Z.1 _ _ hg.1) (fun _ h9 => h9) rfl d_Y_addScore_42 ?_
      refine lv_aload_n hx hb d_Y_addScore_45 rfl (lv_at hl 0 rfl) ?_
      refine va_get (D := D) (ci := 3) (v := .ref (a 10)) (C := R_Y) (T := T_Y) (N := 17) hx hb (uw_Y Z.1 hg.1) (fun _ h => h) hown hK hP 0 rfl rfl 9 (by decide) (kw149 Z.1 _ _ hg.1) (fun _ h9 => h9) rfl d_Y_addScore_46 ?_
      refine va_alen hx hb hK hP 10 1 rfl rfl (v := 16) rfl d_Y_addScore_49 ?_
      refine lv_icmp_ge (tgt := 83) hx hb d_Y_addScore_50 (by decide) (fun k6 => by first | exact absurd (show ¬ (16 : Int32) ≤ ii 13 by rw [h13]; exact nI_ge (b := 16) hk (by decide)) k6 | exact absurd k6 (show ¬ (16 : Int32) ≤ ii 13 by rw [h13]; exact nI_ge (b := 16) hk (by decide))) (fun _ => ?_)
      refine lv_aload_n hx hb d_Y_addScore_53 rfl (lv_at hl 0 rfl) ?_
      refine va_get (D := D) (ci := 3) (v := .ref (a 10)) (C := R_Y) (T := T_Y) (N := 17) hx hb (uw_Y Z.1 hg.1) (fun _ h => h) hown hK hP 0 rfl rfl 9 (by decide) (kw149 Z.1 _ _ hg.1) (fun _ h9 => h9) rfl d_Y_addScore_54 ?_
      refine lv_aload_n hx hb d_Y_addScore_57 rfl (lv_at hl 0 rfl) ?_
      refine va_get (D := D) (ci := 3) (v := .int (ii 13)) (C := R_Y) (T := T_Y) (N := 17) hx hb (uw_Y Z.1 hg.1) (fun _ h => h) hown hK hP 0 rfl rfl 13 (by decide) (kw157 Z.1 _ _ hg.1) (fun _ h9 => h9) rfl d_Y_addScore_58 ?_
      refine lv_lload_n hx hb d_Y_addScore_61 rfl (lv_at hl 1 rfl) ?_
      refine va_last hx hb hK hP hD hS 10 1 rfl rfl (by rw [h13]; exact vp_in_nI (N := 16) hk (by decide)) d_Y_addScore_62 (fun H locs hP hD hS => ?_)
      have hP : va_P D ncl (w_Y a cA ii li ia (va_up la 9 (vp_updL (la 9) (Int32.toNatClampNeg (ii 13)) y))) H := hP
      have hD : va_D _ (w_Y a cA ii li ia (va_up la 9 (vp_updL (la 9) (Int32.toNatClampNeg (ii 13)) y))) := hD
      refine lv_aload_n hx hb d_Y_addScore_63 rfl (lv_at hl 0 rfl) ?_
      refine va_get (D := D) (ci := 3) (v := .ref (a 11)) (C := R_Y) (T := T_Y) (N := 17) hx hb (uw_Y Z.1 hg.1) (fun _ h => h) hown hK hP 0 rfl rfl 10 (by decide) (kw151 Z.1 _ _ hg.1) (fun _ h9 => h9) rfl d_Y_addScore_64 ?_
      refine lv_aload_n hx hb d_Y_addScore_67 rfl (lv_at hl 0 rfl) ?_
      refine va_get (D := D) (ci := 3) (v := .int (ii 13)) (C := R_Y) (T := T_Y) (N := 17) hx hb (uw_Y Z.1 hg.1) (fun _ h => h) hown hK hP 0 rfl rfl 13 (by decide) (kw157 Z.1 _ _ hg.1) (fun _ h9 => h9) rfl d_Y_addScore_68 ?_
      refine lv_iload_n hx hb d_Y_addScore_71 rfl (lv_at hl 2 rfl) ?_
      refine va_iast hx hb hK hP hD hS 11 0 rfl rfl (by rw [h13]; exact vp_in_nI (N := 16) hk (by decide)) d_Y_addScore_72 (fun H locs hP hD hS => ?_)
      have hP : va_P D ncl (w_Y a cA ii li (va_up ia 10 (upd (ia 10) (Int32.toNatClampNeg (ii 13)) bx)) (va_up la 9 (vp_updL (la 9) (Int32.toNatClampNeg (ii 13)) y))) H := hP
      have hD : va_D _ (w_Y a cA ii li (va_up ia 10 (upd (ia 10) (Int32.toNatClampNeg (ii 13)) bx)) (va_up la 9 (vp_updL (la 9) (Int32.toNatClampNeg (ii 13)) y))) := hD
      refine lv_aload_n hx hb d_Y_addScore_73 rfl (lv_at hl 0 rfl) ?_
      refine lv_dup hx hb d_Y_addScore_74 rfl ?_
      refine va_get (D := D) (ci := 3) (v := .int (ii 13)) (C := R_Y) (T := T_Y) (N := 17) hx hb (uw_Y Z.1 hg.1) (fun _ h => h) hown hK hP 0 rfl rfl 13 (by decide) (kw157 Z.1 _ _ hg.1) (fun _ h9 => h9) rfl d_Y_addScore_75 ?_
      refine lv_iconst (v := 1) hx hb d_Y_addScore_78 (by decide) ?_
      refine lv_iadd hx hb d_Y_addScore_79 ?_
      refine va_put (D := D) (ci := 3) (v := .int ((ii 13) + 1)) (ty := t_Y 13) (C := R_Y) (T := T_Y) (N := 17) hx hb (uw_Y Z.1 hg.1) (fun _ h => h) t_Y t_Y_ok n_Y hown hK hP hD hS 0 rfl rfl 13 (by decide) (kw157 Z.1 _ _ hg.1) (fun _ h9 => h9) rfl (by decide +kernel) rfl rfl (Nat.le_of_ble_eq_true rfl) d_Y_addScore_80 (fun H locs hP hD hS => ?_)
      have hP : va_P D ncl (w_Y a cA (va_up ii 13 ((ii 13) + 1)) li (va_up ia 10 (upd (ia 10) (Int32.toNatClampNeg (ii 13)) bx)) (va_up la 9 (vp_updL (la 9) (Int32.toNatClampNeg (ii 13)) y))) H := hP
      have hD : va_D _ (w_Y a cA (va_up ii 13 ((ii 13) + 1)) li (va_up ia 10 (upd (ia 10) (Int32.toNatClampNeg (ii 13)) bx)) (va_up la 9 (vp_updL (la 9) (Int32.toNatClampNeg (ii 13)) y))) := hD
      exact w_vret hx hb hr hlk hP hD hS ((va_up ii 13 ((ii 13) + 1)), li, (va_up ia 10 (upd (ia 10) (Int32.toNatClampNeg (ii 13)) bx)), (va_up la 9 (vp_updL (la 9) (Int32.toNatClampNeg (ii 13)) y))) rfl (by rw [if_neg (fun z => d5 ((lg_cmp_eq _ _).mpr z.2)), hcl, h13, nI_1]) d_Y_addScore_83
    · have he : la 9 (k - 1) = y := (lg_cmp_eq _ _).mp d5
      refine lv_aload_n hx hb d_Y_addScore_23 rfl (lv_at hl 0 rfl) ?_
      refine va_get (D := D) (ci := 3) (v := .ref (a 11)) (C := R_Y) (T := T_Y) (N := 17) hx hb (uw_Y Z.1 hg.1) (fun _ h => h) hown hK hP 0 rfl rfl 10 (by decide) (kw151 Z.1 _ _ hg.1) (fun _ h9 => h9) rfl d_Y_addScore_24 ?_
      refine lv_aload_n hx hb d_Y_addScore_27 rfl (lv_at hl 0 rfl) ?_
      refine va_get (D := D) (ci := 3) (v := .int (ii 13)) (C := R_Y) (T := T_Y) (N := 17) hx hb (uw_Y Z.1 hg.1) (fun _ h => h) hown hK hP 0 rfl rfl 13 (by decide) (kw157 Z.1 _ _ hg.1) (fun _ h9 => h9) rfl d_Y_addScore_28 ?_
      refine lv_iconst (v := 1) hx hb d_Y_addScore_31 (by decide) ?_
      refine lv_isub hx hb d_Y_addScore_32 ?_
      refine lv_topi (fun z7 ez7 => ?_)
      obtain rfl : z7 = (nI (k - 1)) := by rw [ez7]; rw [h13]; exact nI_sub (b := 1) (by omega)
      refine lv_dup2_11 hx hb d_Y_addScore_33 rfl rfl ?_
      refine va_iald hx hb hK hP 11 0 rfl rfl (vp_in_nI (N := 16) (by omega) (by decide)) d_Y_addScore_34 ?_
      refine lv_topi (fun z8 ez8 => ?_)
      rw [nI_clamp (n := (k - 1)) (by omega)] at ez8
      obtain rfl : z8 = ((ia 10) (k - 1)) := ez8
      refine lv_iload_n hx hb d_Y_addScore_35 rfl (lv_at hl 2 rfl) ?_
      refine lv_iadd hx hb d_Y_addScore_36 ?_
      refine va_iast hx hb hK hP hD hS 11 0 rfl rfl (vp_in_nI (N := 16) (by omega) (by decide)) d_Y_addScore_37 (fun H locs hP hD hS => ?_)
      rw [nI_clamp (n := (k - 1)) (by omega)] at hP hD
      have hP : va_P D ncl (w_Y a cA ii li (va_up ia 10 (upd (ia 10) (k - 1) (((ia 10) (k - 1)) + bx))) la) H := hP
      have hD : va_D _ (w_Y a cA ii li (va_up ia 10 (upd (ia 10) (k - 1) (((ia 10) (k - 1)) + bx))) la) := hD
      refine lv_goto (tgt := 83) hx hb d_Y_addScore_38 (by decide) ?_
      exact w_vret hx hb hr hlk hP hD hS (ii, li, (va_up ia 10 (upd (ia 10) (k - 1) (((ia 10) (k - 1)) + bx))), la) rfl (by rw [if_pos ⟨h0, he⟩]) d_Y_addScore_83
/-- how many of the first n are q -/
def yc (f : Nat → Int32) (q : Int32) : Nat → Nat
  | 0 => 0
  | n + 1 => yc f q n + (if f n = q then 1 else 0)
theorem yc_le (f : Nat → Int32) (q : Int32) : ∀ n, yc f q n ≤ n := by
  intro n
  induction n with
  | zero => exact Nat.le_refl 0
  | succ n ih => rw [yc]; split <;> omega
theorem yc_mono (f : Nat → Int32) (q : Int32) {m : Nat} : ∀ n, m ≤ n → yc f q m ≤ yc f q n := by
  intro n
  induction n with
  | zero => intro h; obtain rfl : m = 0 := by omega
            exact Nat.le_refl _
  | succ n ih =>
    intro h
    rcases Nat.lt_or_ge m (n + 1) with g | g
    · have := ih (by omega); rw [yc]; omega
    · obtain rfl : m = n + 1 := by omega
      exact Nat.le_refl _
set_option maxHeartbeats 4000000 in
set_option maxRecDepth 100000 in
theorem m_Y_countOf {l : Launch} {s0 : State} {D : va_G} {cA sa : Nat → Nat} (Z : zE l s0 D cA sa) (a : Nat → Nat) (ii : Nat → Int32) (li : Nat → Int64) (ia : Nat → Nat → Int32) (la : Nat → Nat → Int64) (q : Int32) (n : Nat) (h12 : ii 12 = nI n) (hn : n ≤ 160) (sz : Nat) : Met l y_Y_countOf [.code y_Y_countOf c_Y_countOf 4 (some .int)] ({ frames := 0, cells := 0, slots := 0, locals := 0 }) (wP s0 D [.ref (a 0), .int q] (w_Y a cA ii li ia la) sz) (va_Qi (fun r (_ : Unit) => r = nI (yc (ia 8) q n)) (wB D (va_A (w_Y a cA ii li ia la) sz) (fun _ => w_Y a cA ii li ia la)) (va_A (w_Y a cA ii li ia la) sz)) 0 0 (va_A (w_Y a cA ii li ia la) sz) := by
  refine wMet Z (by decide) (Nat.le_of_ble_eq_true rfl) ?_
  intro p e s m below meth c hx hb hr hml hown hlk hin hg hK hsz hP hD hA hlo hS ls hl
  subst hsz
  have hown : s.vm.findClass R_Y = some m.cls := hown
  refine lv_iconst (v := 0) hx hb d_Y_countOf_0 (by decide) ?_
  refine lv_topi (fun z1 ez1 => ?_)
  obtain rfl : z1 = (nI 0) := by rw [ez1]; rfl
  refine lv_istore_n (lv' := [(2, .int (nI 0)), (0, .ref (a 0)), (1, .int q)]) hx hb d_Y_countOf_1 rfl hl (by decide) rfl (fun ls hl => ?_)
  refine lv_iconst (v := 0) hx hb d_Y_countOf_2 (by decide) ?_
  refine lv_topi (fun z2 ez2 => ?_)
  obtain rfl : z2 = (nI 0) := by rw [ez2]; rfl
  refine lv_istore_n (lv' := [(3, .int (nI 0)), (2, .int (nI 0)), (0, .ref (a 0)), (1, .int q)]) hx hb d_Y_countOf_3 rfl hl (by decide) rfl (fun ls hl => ?_)
  have loop : ∀ (f : Nat) (k : Nat), n - k < f → k ≤ n → ∀ (H : Heap) (locs : List Loc), va_P D ncl (w_Y a cA ii li ia la) H → va_D (va_A (w_Y a cA ii li ia la) s.heap.size) (w_Y a cA ii li ia la) → va_S (va_A (w_Y a cA ii li ia la) s.heap.size) s.heap H locs → ∀ (ls : Array Slot), lv_has ls 4 [(0, .ref (a 0)), (1, .int q), (2, .int (nI (yc (ia 8) q k))), (3, .int (nI k))] → W p l e ({ frames := 0, cells := 0, slots := 0, locals := 0 }) s m ([.ref (a 0), .int q] : List Value).toArray below meth c H locs 0 0 (MQ below (va_Qi (fun r (_ : Unit) => r = nI (yc (ia 8) q n)) (wB D (va_A (w_Y a cA ii li ia la) s.heap.size) (fun _ => w_Y a cA ii li ia la)) (va_A (w_Y a cA ii li ia la) s.heap.size)) ([.ref (a 0), .int q] : List Value).toArray s 0 0 (va_A (w_Y a cA ii li ia la) s.heap.size)) (F0 m 4 ls []) := by
    intro f
    induction f with
    | zero => intro k h; exact absurd h (Nat.not_lt_zero _)
    | succ f ih =>
      intro k hf hk H locs hP hD hS ls hl
      refine lv_iload_n hx hb d_Y_countOf_4 rfl (lv_at hl 3 rfl) ?_
      refine lv_aload_n hx hb d_Y_countOf_5 rfl (lv_at hl 0 rfl) ?_
      refine va_get (D := D) (ci := 3) (v := .int (ii 12)) (C := R_Y) (T := T_Y) (N := 17) hx hb (uw_Y Z.1 hg.1) (fun _ h => h) hown hK hP 0 rfl rfl 12 (by decide) (kw155 Z.1 _ _ hg.1) (fun _ h9 => h9) rfl d_Y_countOf_6 ?_
      refine lv_icmp_ge (tgt := 31) hx hb d_Y_countOf_9 (by decide) (fun c3 => ?_) (fun c3 => ?_)
      · obtain rfl : k = n := by rw [h12] at c3; have := (nI_leI (by omega) (by omega)).mp c3; omega
        refine lv_iload_n hx hb d_Y_countOf_31 rfl (lv_at hl 2 rfl) ?_
        exact w_iret hx hb hr hlk hP hD hS () rfl rfl d_Y_countOf_32
      · have hkn : k < n := Nat.lt_of_not_le (fun z => c3 (by rw [h12]; exact (nI_leI (by omega) (by omega)).mpr z))
        refine lv_aload_n hx hb d_Y_countOf_12 rfl (lv_at hl 0 rfl) ?_
        refine va_get (D := D) (ci := 3) (v := .ref (a 9)) (C := R_Y) (T := T_Y) (N := 17) hx hb (uw_Y Z.1 hg.1) (fun _ h => h) hown hK hP 0 rfl rfl 8 (by decide) (kw147 Z.1 _ _ hg.1) (fun _ h9 => h9) rfl d_Y_countOf_13 ?_
        refine lv_iload_n hx hb d_Y_countOf_16 rfl (lv_at hl 3 rfl) ?_
        refine va_zald hx hb hK hP 9 2 rfl rfl (vp_in_nI (n := k) (N := 160) (by omega) (by decide)) d_Y_countOf_17 ?_
        refine lv_topi (fun z4 ez4 => ?_)
        rw [nI_clamp (n := k) (by omega)] at ez4
        obtain rfl : z4 = ((ia 8) k) := ez4
        refine lv_iload_n hx hb d_Y_countOf_18 rfl (lv_at hl 1 rfl) ?_
        refine lv_icmp_ne (tgt := 25) hx hb d_Y_countOf_19 (by decide) (fun d5 => ?_) (fun d5 => ?_)
        · obtain ⟨v6, ev6⟩ : ∃ y : Int32, y = (nI k) + 1 := ⟨_, rfl⟩
          refine lv_iinc (v := v6) (lv' := [(3, .int v6), (0, .ref (a 0)), (1, .int q), (2, .int (nI (yc (ia 8) q k)))]) hx hb d_Y_countOf_25 hl (k := 3) rfl (by rw [ev6]; rfl) (by decide) rfl (fun ls hl => ?_)
          refine lv_goto (tgt := 4) hx hb d_Y_countOf_28 (by decide) ?_
          obtain rfl : v6 = nI (k + 1) := by rw [ev6]; exact nI_1 k
          have hy : yc (ia 8) q (k + 1) = yc (ia 8) q k := by rw [yc, if_neg d5, Nat.add_zero]
          rw [← hy] at hl
          exact ih (k + 1) (by omega) (by omega) _ _ hP hD hS ls (lv_sub hl [1, 2, 3, 0] rfl)
        · obtain ⟨v7, ev7⟩ : ∃ y : Int32, y = (nI (yc (ia 8) q k)) + 1 := ⟨_, rfl⟩
          refine lv_iinc (v := v7) (lv' := [(2, .int v7), (0, .ref (a 0)), (1, .int q), (3, .int (nI k))]) hx hb d_Y_countOf_22 hl (k := 2) rfl (by rw [ev7]; rfl) (by decide) rfl (fun ls hl => ?_)
          obtain ⟨v8, ev8⟩ : ∃ y : Int32, y = (nI k) + 1 := ⟨_, rfl⟩
          refine lv_iinc (v := v8) (lv' := [(3, .int v8), (2, .int v7), (0, .ref (a 0)), (1, .int q)]) hx hb d_Y_countOf_25 hl (k := 3) rfl (by rw [ev8]; rfl) (by decide) rfl (fun ls hl => ?_)
          refine lv_goto (tgt := 4) hx hb d_Y_countOf_28 (by decide) ?_
          obtain rfl : v8 = nI (k + 1) := by rw [ev8]; exact nI_1 k
          obtain rfl : v7 = nI (yc (ia 8) q (k + 1)) := by rw [ev7]; rw [nI_1, yc, if_pos d5]
          exact ih (k + 1) (by omega) (by omega) _ _ hP hD hS ls (lv_sub hl [2, 3, 1, 0] rfl)
  exact loop (n + 1) 0 (by omega) (by omega) _ _ hP hD hS ls (lv_sub hl [2, 3, 1, 0] rfl)
set_option maxHeartbeats 4000000 in
set_option maxRecDepth 100000 in
theorem m_Y_nthOf {l : Launch} {s0 : State} {D : va_G} {cA sa : Nat → Nat} (Z : zE l s0 D cA sa) (a : Nat → Nat) (ii : Nat → Int32) (li : Nat → Int64) (ia : Nat → Nat → Int32) (la : Nat → Nat → Int64) (q : Int32) (n mm : Nat) (h12 : ii 12 = nI n) (hn : n ≤ 160) (hm : mm ≤ 160) (sz : Nat) : Met l y_Y_nthOf [.code y_Y_nthOf c_Y_nthOf 5 (some .int)] ({ frames := 0, cells := 0, slots := 0, locals := 0 }) (wP s0 D [.ref (a 0), .int q, .int (nI mm)] (w_Y a cA ii li ia la) sz) (va_Qi (fun r (_ : Unit) => (∃ j, j < n ∧ ia 8 j = q ∧ yc (ia 8) q j = mm ∧ r = nI j) ∨ (yc (ia 8) q n ≤ mm ∧ r = -1)) (wB D (va_A (w_Y a cA ii li ia la) sz) (fun _ => w_Y a cA ii li ia la)) (va_A (w_Y a cA ii li ia la) sz)) 0 0 (va_A (w_Y a cA ii li ia la) sz) := by
  refine wMet Z (by decide) (Nat.le_of_ble_eq_true rfl) ?_
  intro p e s m below meth c hx hb hr hml hown hlk hin hg hK hsz hP hD hA hlo hS ls hl
  subst hsz
  have hown : s.vm.findClass R_Y = some m.cls := hown
  refine lv_iload_n hx hb d_Y_nthOf_0 rfl (lv_at hl 2 rfl) ?_
  refine lv_istore_n (lv' := [(3, .int (nI mm)), (0, .ref (a 0)), (1, .int q), (2, .int (nI mm))]) hx hb d_Y_nthOf_1 rfl hl (by decide) rfl (fun ls hl => ?_)
  refine lv_iconst (v := 0) hx hb d_Y_nthOf_2 (by decide) ?_
  refine lv_topi (fun z1 ez1 => ?_)
  obtain rfl : z1 = (nI 0) := by rw [ez1]; rfl
  refine lv_istore (lv' := [(4, .int (nI 0)), (3, .int (nI mm)), (0, .ref (a 0)), (1, .int q), (2, .int (nI mm))]) hx hb d_Y_nthOf_3 hl (by decide) rfl (fun ls hl => ?_)
  have loop : ∀ (f : Nat) (k : Nat), n - k < f → k ≤ n → yc (ia 8) q k ≤ mm → ∀ (H : Heap) (locs : List Loc), va_P D ncl (w_Y a cA ii li ia la) H → va_D (va_A (w_Y a cA ii li ia la) s.heap.size) (w_Y a cA ii li ia la) → va_S (va_A (w_Y a cA ii li ia la) s.heap.size) s.heap H locs → ∀ (ls : Array Slot), lv_has ls 5 [(0, .ref (a 0)), (1, .int q), (3, .int (nI (mm - yc (ia 8) q k))), (4, .int (nI k))] → W p l e ({ frames := 0, cells := 0, slots := 0, locals := 0 }) s m ([.ref (a 0), .int q, .int (nI mm)] : List Value).toArray below meth c H locs 0 0 (MQ below (va_Qi (fun r (_ : Unit) => (∃ j, j < n ∧ ia 8 j = q ∧ yc (ia 8) q j = mm ∧ r = nI j) ∨ (yc (ia 8) q n ≤ mm ∧ r = -1)) (wB D (va_A (w_Y a cA ii li ia la) s.heap.size) (fun _ => w_Y a cA ii li ia la)) (va_A (w_Y a cA ii li ia la) s.heap.size)) ([.ref (a 0), .int q, .int (nI mm)] : List Value).toArray s 0 0 (va_A (w_Y a cA ii li ia la) s.heap.size)) (F0 m 5 ls []) := by
    intro f
    induction f with
    | zero => intro k h; exact absurd h (Nat.not_lt_zero _)
    | succ f ih =>
      intro k hf hk hy H locs hP hD hS ls hl
      refine lv_iload hx hb d_Y_nthOf_5 (lv_at hl 3 rfl) ?_
      refine lv_aload_n hx hb d_Y_nthOf_7 rfl (lv_at hl 0 rfl) ?_
      refine va_get (D := D) (ci := 3) (v := .int (ii 12)) (C := R_Y) (T := T_Y) (N := 17) hx hb (uw_Y Z.1 hg.1) (fun _ h => h) hown hK hP 0 rfl rfl 12 (by decide) (kw155 Z.1 _ _ hg.1) (fun _ h9 => h9) rfl d_Y_nthOf_8 ?_
      refine lv_icmp_ge (tgt := 41) hx hb d_Y_nthOf_11 (by decide) (fun c2 => ?_) (fun c2 => ?_)
      · obtain rfl : k = n := by rw [h12] at c2; have := (nI_leI (by omega) (by omega)).mp c2; omega
        refine lv_iconst (v := (-1)) hx hb d_Y_nthOf_41 (by decide) ?_
        exact w_iret hx hb hr hlk hP hD hS () rfl (Or.inr ⟨hy, rfl⟩) d_Y_nthOf_42
      · have hkn : k < n := Nat.lt_of_not_le (fun z => c2 (by rw [h12]; exact (nI_leI (by omega) (by omega)).mpr z))
        refine lv_aload_n hx hb d_Y_nthOf_14 rfl (lv_at hl 0 rfl) ?_
        refine va_get (D := D) (ci := 3) (v := .ref (a 9)) (C := R_Y) (T := T_Y) (N := 17) hx hb (uw_Y Z.1 hg.1) (fun _ h => h) hown hK hP 0 rfl rfl 8 (by decide) (kw147 Z.1 _ _ hg.1) (fun _ h9 => h9) rfl d_Y_nthOf_15 ?_
        refine lv_iload hx hb d_Y_nthOf_18 (lv_at hl 3 rfl) ?_
        refine va_zald hx hb hK hP 9 2 rfl rfl (vp_in_nI (n := k) (N := 160) (by omega) (by decide)) d_Y_nthOf_20 ?_
        refine lv_topi (fun z3 ez3 => ?_)
        rw [nI_clamp (n := k) (by omega)] at ez3
        obtain rfl : z3 = ((ia 8) k) := ez3
        refine lv_iload_n hx hb d_Y_nthOf_21 rfl (lv_at hl 1 rfl) ?_
        refine lv_icmp_ne (tgt := 35) hx hb d_Y_nthOf_22 (by decide) (fun d4 => ?_) (fun d4 => ?_)
        · obtain ⟨v5, ev5⟩ : ∃ y : Int32, y = (nI k) + 1 := ⟨_, rfl⟩
          refine lv_iinc (v := v5) (lv' := [(4, .int v5), (0, .ref (a 0)), (1, .int q), (3, .int (nI (mm - yc (ia 8) q k)))]) hx hb d_Y_nthOf_35 hl (k := 3) rfl (by rw [ev5]; rfl) (by decide) rfl (fun ls hl => ?_)
          refine lv_goto (tgt := 5) hx hb d_Y_nthOf_38 (by decide) ?_
          obtain rfl : v5 = nI (k + 1) := by rw [ev5]; exact nI_1 k
          have hy2 : yc (ia 8) q (k + 1) = yc (ia 8) q k := by rw [yc, if_neg d4, Nat.add_zero]
          rw [← hy2] at hl
          exact ih (k + 1) (by omega) (by omega) (by omega) _ _ hP hD hS ls (lv_sub hl [1, 2, 3, 0] rfl)
        · refine lv_iload_n hx hb d_Y_nthOf_25 rfl (lv_at hl 2 rfl) ?_
          refine lv_if_ne (tgt := 32) hx hb d_Y_nthOf_26 (by decide) (fun g6 => ?_) (fun g6 => ?_)
          · have hlt : yc (ia 8) q k < mm := Nat.lt_of_not_le (fun z => g6 (by rw [show mm - yc (ia 8) q k = 0 by omega]; rfl))
            obtain ⟨v7, ev7⟩ : ∃ y : Int32, y = (nI (mm - yc (ia 8) q k)) + (-1) := ⟨_, rfl⟩
            refine lv_iinc (v := v7) (lv' := [(3, .int v7), (0, .ref (a 0)), (1, .int q), (4, .int (nI k))]) hx hb d_Y_nthOf_32 hl (k := 2) rfl (by rw [ev7]; rfl) (by decide) rfl (fun ls hl => ?_)
            obtain ⟨v8, ev8⟩ : ∃ y : Int32, y = (nI k) + 1 := ⟨_, rfl⟩
            refine lv_iinc (v := v8) (lv' := [(4, .int v8), (3, .int v7), (0, .ref (a 0)), (1, .int q)]) hx hb d_Y_nthOf_35 hl (k := 3) rfl (by rw [ev8]; rfl) (by decide) rfl (fun ls hl => ?_)
            refine lv_goto (tgt := 5) hx hb d_Y_nthOf_38 (by decide) ?_
            obtain rfl : v8 = nI (k + 1) := by rw [ev8]; exact nI_1 k
            obtain rfl : v7 = nI (mm - yc (ia 8) q (k + 1)) := by rw [ev7]; rw [yc, if_pos d4, show mm - yc (ia 8) q k = (mm - (yc (ia 8) q k + 1)) + 1 by omega, pk_m1]
            exact ih (k + 1) (by omega) (by omega) (by rw [yc, if_pos d4]; omega) _ _ hP hD hS ls (lv_sub hl [2, 3, 1, 0] rfl)
          · have heq : yc (ia 8) q k = mm := by have := (nI_eq (b := 0) (by omega) (by decide)).mp g6; omega
            refine lv_iload hx hb d_Y_nthOf_29 (lv_at hl 3 rfl) ?_
            exact w_iret hx hb hr hlk hP hD hS () rfl (Or.inl ⟨k, hkn, d4, heq, rfl⟩) d_Y_nthOf_31
  exact loop (n + 1) 0 (by omega) (by omega) (Nat.zero_le _) _ _ hP hD hS ls (lv_sub hl [2, 3, 1, 0] rfl)
/-- the k-th in the order of cuts: those that are 0 first -/
def yo (f : Nat → Int32) (n : Nat) (k r : Int32) : Prop :=
  ((k < 0 ∨ nI n ≤ k) ∧ r = -1) ∨ ∃ mm j, k = nI mm ∧ mm < n ∧ j < n ∧ r = nI j ∧ ((mm < yc f 0 n ∧ f j = 0 ∧ yc f 0 j = mm) ∨ (yc f 0 n ≤ mm ∧ f j = 1 ∧ yc f 1 j = mm - yc f 0 n))
theorem yc_01 (f : Nat → Int32) : ∀ n, (∀ j, j < n → f j = 0 ∨ f j = 1) → yc f 0 n + yc f 1 n = n := by
  intro n
  induction n with
  | zero => intro _; rfl
  | succ n ih =>
    intro h
    have h1 := ih (fun j hj => h j (by omega))
    rw [yc, yc]
    rcases h n (by omega) with g | g
    · rw [if_pos g, if_neg (by rw [g]; decide)]; omega
    · rw [if_neg (by rw [g]; decide), if_pos g]; omega
set_option maxHeartbeats 4000000 in
set_option maxRecDepth 100000 in
theorem m_Y_copyInOrder {l : Launch} {s0 : State} {D : va_G} {cA sa : Nat → Nat} (Z : zE l s0 D cA sa) (a : Nat → Nat) (ii : Nat → Int32) (li : Nat → Int64) (ia : Nat → Nat → Int32) (la : Nat → Nat → Int64) (k : Int32) (n : Nat) (h12 : ii 12 = nI n) (hn : n ≤ 160) (h01 : ∀ j, j < n → ia 8 j = 0 ∨ ia 8 j = 1) (sz : Nat) : Met l y_Y_copyInOrder [.code y_Y_copyInOrder c_Y_copyInOrder 3 (some .int)] ({ frames := 1, cells := 0, slots := 0, locals := 40 }) (wP s0 D [.ref (a 0), .int k] (w_Y a cA ii li ia la) sz) (va_Qi (fun r (_ : Unit) => yo (ia 8) n k r) (wB D (va_A (w_Y a cA ii li ia la) sz) (fun _ => w_Y a cA ii li ia la)) (va_A (w_Y a cA ii li ia la) sz)) 0 0 (va_A (w_Y a cA ii li ia la) sz) := by
  refine wMet Z (by decide) (Nat.le_of_ble_eq_true rfl) ?_
  intro p e s m below meth c hx hb hr hml hown hlk hin hg hK hsz hP hD hA hlo hS ls hl
  subst hsz
  have hown : s.vm.findClass R_Y = some m.cls := hown
  refine lv_iload_n hx hb d_Y_copyInOrder_0 rfl (lv_at hl 1 rfl) ?_
  refine lv_if_lt (tgt := 12) hx hb d_Y_copyInOrder_1 (by decide) (fun c1 => ?_) (fun c1 => ?_)
  · refine lv_iconst (v := (-1)) hx hb d_Y_copyInOrder_12 (by decide) ?_
    exact w_iret hx hb hr hlk hP hD hS () rfl (Or.inl ⟨Or.inl c1, rfl⟩) d_Y_copyInOrder_13
  · refine lv_iload_n hx hb d_Y_copyInOrder_4 rfl (lv_at hl 1 rfl) ?_
    refine lv_aload_n hx hb d_Y_copyInOrder_5 rfl (lv_at hl 0 rfl) ?_
    refine va_get (D := D) (ci := 3) (v := .int (ii 12)) (C := R_Y) (T := T_Y) (N := 17) hx hb (uw_Y Z.1 hg.1) (fun _ h => h) hown hK hP 0 rfl rfl 12 (by decide) (kw155 Z.1 _ _ hg.1) (fun _ h9 => h9) rfl d_Y_copyInOrder_6 ?_
    refine lv_icmp_lt (tgt := 14) hx hb d_Y_copyInOrder_9 (by decide) (fun d2 => ?_) (fun d2 => ?_)
    · obtain ⟨mm, hm0, rfl⟩ := nI_of c1
      have hm : mm < n := (nI_ltI hm0 (by omega)).mp (by rw [← h12]; exact d2)
      have h1 := yc_01 (ia 8) n h01
      have h2 := yc_le (ia 8) 0 n
      refine lv_aload_n hx hb d_Y_copyInOrder_14 rfl (lv_at hl 0 rfl) ?_
      refine lv_iconst (v := 0) hx hb d_Y_copyInOrder_15 (by decide) ?_
      refine w_calli (wr := ([] : va_W)) (w_runV (rest := []) hx hb hml hown hl.1 hg hlo hK hP hD hS (m_Y_countOf Z a ii li ia la 0 n h12 hn s.heap.size) (kw249 Z.1) (kw251 Z.1) (kp_Y_countOf Z.1) (kw252 Z.1) (kw5 Z.1) ⟨by decide, by decide, (by decide +kernel : (parseMethodDescriptor y_Y_countOf.desc).map (fun d => d.parameters.length) = some 1)⟩ ⟨Nat.le_of_ble_eq_true rfl, Nat.le_of_ble_eq_true rfl⟩ [0, 1, 2, 3, 4, 5, 6, 7, 8, 9, 10, 11] rfl rfl (ci := 3) (q0 := 0) rfl rfl rfl (Nat.le_of_ble_eq_true rfl) d_Y_copyInOrder_16 ⟨Nat.le_of_ble_eq_true rfl, Nat.le_of_ble_eq_true rfl⟩) hP hD hS hA [0, 1, 2, 3, 4, 5, 6, 7, 8, 9, 10, 11] [] rfl rfl rfl (by decide) (fun _ => w_Y a cA ii li ia la) [0, 1, 2, 3, 4, 5, 6, 7, 8, 9, 10, 11] rfl (fun _ => rfl) (fun rc u H locs hrc hP hD hS => ?_)
      refine W.widen (k := 0) (n := 0) (Nat.le_of_ble_eq_true rfl) (Nat.le_of_ble_eq_true rfl) ?_
      subst hrc
      refine lv_istore_n (lv' := [(2, .int (nI (yc (ia 8) 0 n))), (0, .ref (a 0)), (1, .int (nI mm))]) hx hb d_Y_copyInOrder_19 rfl hl (by decide) rfl (fun ls hl => ?_)
      refine lv_iload_n hx hb d_Y_copyInOrder_20 rfl (lv_at hl 2 rfl) ?_
      refine lv_iload_n hx hb d_Y_copyInOrder_21 rfl (lv_at hl 0 rfl) ?_
      refine lv_icmp_ge (tgt := 34) hx hb d_Y_copyInOrder_22 (by decide) (fun g3 => ?_) (fun g3 => ?_)
      · have h3 := (nI_leI (by omega) (by omega)).mp g3
        refine lv_aload_n hx hb d_Y_copyInOrder_34 rfl (lv_at hl 1 rfl) ?_
        refine lv_iconst (v := 1) hx hb d_Y_copyInOrder_35 (by decide) ?_
        refine lv_iload_n hx hb d_Y_copyInOrder_36 rfl (lv_at hl 2 rfl) ?_
        refine lv_iload_n hx hb d_Y_copyInOrder_37 rfl (lv_at hl 0 rfl) ?_
        refine lv_isub hx hb d_Y_copyInOrder_38 ?_
        refine lv_topi (fun z4 ez4 => ?_)
        obtain rfl : z4 = (nI (mm - yc (ia 8) 0 n)) := by rw [ez4]; exact nI_sub h3
        refine w_calli (wr := ([] : va_W)) (w_runV (rest := []) hx hb hml hown hl.1 hg hlo hK hP hD hS (m_Y_nthOf Z a ii li ia la 1 n (mm - yc (ia 8) 0 n) h12 hn (by omega) H.size) (kw253 Z.1) (kw255 Z.1) (kp_Y_nthOf Z.1) (kw256 Z.1) (kw5 Z.1) ⟨by decide, by decide, (by decide +kernel : (parseMethodDescriptor y_Y_nthOf.desc).map (fun d => d.parameters.length) = some 2)⟩ ⟨Nat.le_of_ble_eq_true rfl, Nat.le_of_ble_eq_true rfl⟩ [0, 1, 2, 3, 4, 5, 6, 7, 8, 9, 10, 11] rfl rfl (ci := 3) (q0 := 0) rfl rfl rfl (Nat.le_of_ble_eq_true rfl) d_Y_copyInOrder_39 ⟨Nat.le_of_ble_eq_true rfl, Nat.le_of_ble_eq_true rfl⟩) hP hD hS hA [0, 1, 2, 3, 4, 5, 6, 7, 8, 9, 10, 11] [] rfl rfl rfl (by decide) (fun _ => w_Y a cA ii li ia la) [0, 1, 2, 3, 4, 5, 6, 7, 8, 9, 10, 11] rfl (fun _ => rfl) (fun rn u H locs hrn hP hD hS => ?_)
        refine W.widen (k := 0) (n := 0) (Nat.le_of_ble_eq_true rfl) (Nat.le_of_ble_eq_true rfl) ?_
        exact w_iret hx hb hr hlk hP hD hS () rfl (by rcases hrn with ⟨j, j1, j2, j3, j4⟩ | ⟨j1, j2⟩; exact Or.inr ⟨mm, j, rfl, hm, j1, j4, Or.inr ⟨h3, j2, j3⟩⟩; omega) d_Y_copyInOrder_42
      · have h3 : mm < yc (ia 8) 0 n := Nat.lt_of_not_le (fun z => g3 ((nI_leI (by omega) (by omega)).mpr z))
        refine lv_aload_n hx hb d_Y_copyInOrder_25 rfl (lv_at hl 1 rfl) ?_
        refine lv_iconst (v := 0) hx hb d_Y_copyInOrder_26 (by decide) ?_
        refine lv_iload_n hx hb d_Y_copyInOrder_27 rfl (lv_at hl 2 rfl) ?_
        refine w_calli (wr := ([] : va_W)) (w_runV (rest := []) hx hb hml hown hl.1 hg hlo hK hP hD hS (m_Y_nthOf Z a ii li ia la 0 n mm h12 hn (by omega) H.size) (kw253 Z.1) (kw255 Z.1) (kp_Y_nthOf Z.1) (kw256 Z.1) (kw5 Z.1) ⟨by decide, by decide, (by decide +kernel : (parseMethodDescriptor y_Y_nthOf.desc).map (fun d => d.parameters.length) = some 2)⟩ ⟨Nat.le_of_ble_eq_true rfl, Nat.le_of_ble_eq_true rfl⟩ [0, 1, 2, 3, 4, 5, 6, 7, 8, 9, 10, 11] rfl rfl (ci := 3) (q0 := 0) rfl rfl rfl (Nat.le_of_ble_eq_true rfl) d_Y_copyInOrder_28 ⟨Nat.le_of_ble_eq_true rfl, Nat.le_of_ble_eq_true rfl⟩) hP hD hS hA [0, 1, 2, 3, 4, 5, 6, 7, 8, 9, 10, 11] [] rfl rfl rfl (by decide) (fun _ => w_Y a cA ii li ia la) [0, 1, 2, 3, 4, 5, 6, 7, 8, 9, 10, 11] rfl (fun _ => rfl) (fun rn u H locs hrn hP hD hS => ?_)
        refine W.widen (k := 0) (n := 0) (Nat.le_of_ble_eq_true rfl) (Nat.le_of_ble_eq_true rfl) ?_
        refine lv_goto (tgt := 42) hx hb d_Y_copyInOrder_31 (by decide) ?_
        exact w_iret hx hb hr hlk hP hD hS () rfl (by rcases hrn with ⟨j, j1, j2, j3, j4⟩ | ⟨j1, j2⟩; exact Or.inr ⟨mm, j, rfl, hm, j1, j4, Or.inl ⟨h3, j2, j3⟩⟩; omega) d_Y_copyInOrder_42
    · refine lv_iconst (v := (-1)) hx hb d_Y_copyInOrder_12 (by decide) ?_
      exact w_iret hx hb hr hlk hP hD hS () rfl (Or.inl ⟨Or.inr (by rw [← h12]; exact Int32.not_lt.mp d2), rfl⟩) d_Y_copyInOrder_13
end
section
/-! the layout, pure: rows as (board, turn, copies, wide, high), laid from y0 upwards with the gap g -/
abbrev Rw : Type := Nat × Nat × Nat × Nat × Nat
def rw0 : Rw := (0, 0, 0, 0, 0)
def ly_n (rw : List Rw) : Nat := (rw.map (fun r => r.2.2.1)).sum
def ly_y (y0 g : Nat) (rw : List Rw) : Nat := y0 + (rw.map (fun r => r.2.2.2.2 + g)).sum
def sc_add (s : List (Nat × Nat)) (y n : Nat) : List (Nat × Nat) := if 0 < s.length ∧ (s.getD (s.length - 1) (0, 0)).1 = y then s.dropLast ++ [(y, (s.getD (s.length - 1) (0, 0)).2 + n)] else s ++ [(y, n)]
def ly_f (g : Nat) (p : Nat × List (Nat × Nat)) (r : Rw) : Nat × List (Nat × Nat) := (p.1 + (r.2.2.2.2 + g), sc_add (sc_add p.2 p.1 r.2.2.1) (p.1 + r.2.2.2.2) r.2.2.1)
def ly_s (y0 g : Nat) (rw : List Rw) : List (Nat × Nat) := (rw.foldl (ly_f g) (y0, [])).2
theorem ly_n_snoc (rw : List Rw) (q : Rw) : ly_n (rw ++ [q]) = ly_n rw + q.2.2.1 := by simp [ly_n]
theorem ly_y_snoc (y0 g : Nat) (rw : List Rw) (q : Rw) : ly_y y0 g (rw ++ [q]) = ly_y y0 g rw + (q.2.2.2.2 + g) := by simp [ly_y]; omega
theorem ly_f_y (g : Nat) : ∀ (rw : List Rw) (p : Nat × List (Nat × Nat)), (rw.foldl (ly_f g) p).1 = p.1 + (rw.map (fun r => r.2.2.2.2 + g)).sum := by
  intro rw
  induction rw with
  | nil => intro p; simp
  | cons q rw ih => intro p; rw [List.foldl_cons, ih]; simp [ly_f]; omega
theorem ly_s_snoc (y0 g : Nat) (rw : List Rw) (q : Rw) : ly_s y0 g (rw ++ [q]) = sc_add (sc_add (ly_s y0 g rw) (ly_y y0 g rw) q.2.2.1) (ly_y y0 g rw + q.2.2.2.2) q.2.2.1 := by
  have h := ly_f_y g rw (y0, [])
  unfold ly_s
  rw [List.foldl_append, List.foldl_cons, List.foldl_nil]
  have h2 : (rw.foldl (ly_f g) (y0, [])).1 = ly_y y0 g rw := h
  generalize rw.foldl (ly_f g) (y0, []) = p at h2 ⊢
  rw [← h2]
  rfl
/-- what the cells say of the scores -/
def scR (s : List (Nat × Nat)) (u : St) : Prop := u.1 13 = nI s.length ∧ ∀ j, j < s.length → u.2.2.2 9 j = lN (s.getD j (0, 0)).1 ∧ u.2.2.1 10 j = nI (s.getD j (0, 0)).2
theorem sc_len (s : List (Nat × Nat)) (y n : Nat) : (sc_add s y n).length ≤ s.length + 1 ∧ s.length ≤ (sc_add s y n).length := by
  unfold sc_add
  split <;> simp
  omega
theorem gd_mem {α : Type} (s : List α) (d : α) {j : Nat} (h : j < s.length) : s.getD j d ∈ s := by
  rw [List.getD_eq_getElem?_getD, List.getElem?_eq_getElem h]
  exact List.getElem_mem h
theorem gd_drop {α : Type} (s : List α) (d x : α) {j : Nat} (h : j < s.length - 1) : (s.dropLast ++ [x]).getD j d = s.getD j d := by
  rw [gd_l _ _ _ (by simp; omega), List.getD_eq_getElem?_getD, List.getD_eq_getElem?_getD, List.getElem?_dropLast, if_pos h]
theorem sc_bd {s : List (Nat × Nat)} {y n B : Nat} (h : ∀ p ∈ s, p.1 ≤ B) (hy : y ≤ B) : ∀ p ∈ sc_add s y n, p.1 ≤ B := by
  intro p hp
  unfold sc_add at hp
  split at hp
  · rcases List.mem_append.mp hp with g | g
    · exact h p (List.dropLast_subset s g)
    · rw [List.mem_singleton.mp g]; exact hy
  · rcases List.mem_append.mp hp with g | g
    · exact h p g
    · rw [List.mem_singleton.mp g]; exact hy
/-- a score more, in the cells and in the list -/
theorem sc_step {s : List (Nat × Nat)} {ii : Nat → Int32} {li : Nat → Int64} {ia : Nat → Nat → Int32} {la : Nat → Nat → Int64} {u : St} {y n k : Nat} (h : scR s (ii, li, ia, la)) (hb : ∀ p ∈ s, p.1 ≤ 4000000) (hy : y ≤ 4000000) (hk : k = s.length)
    (hu : u = if 0 < k ∧ la 9 (k - 1) = lN y then (ii, li, va_up ia 10 (upd (ia 10) (k - 1) (ia 10 (k - 1) + nI n)), la) else (va_up ii 13 (nI (k + 1)), li, va_up ia 10 (upd (ia 10) k (nI n)), va_up la 9 (vp_updL (la 9) k (lN y)))) : scR (sc_add s y n) u := by
  obtain ⟨h1, h2⟩ := h
  dsimp only at h1 h2
  have hc : (0 < k ∧ la 9 (k - 1) = lN y) ↔ (0 < s.length ∧ (s.getD (s.length - 1) (0, 0)).1 = y) := by
    rw [hk]
    refine and_congr_right (fun h0 => ?_)
    rw [(h2 (s.length - 1) (by omega)).1]
    exact pk_lEQ (Nat.lt_of_le_of_lt (hb _ (gd_mem _ _ (by omega))) (by decide)) (by omega)
  by_cases hq : 0 < s.length ∧ (s.getD (s.length - 1) (0, 0)).1 = y
  · rw [hu, if_pos (hc.mpr hq), sc_add, if_pos hq]
    refine ⟨?_, fun j hj => ?_⟩
    · show ii 13 = _
      rw [h1]; congr 1; simp; omega
    · rcases Nat.lt_or_ge j (s.length - 1) with g | g
      · rw [gd_drop _ _ _ g]
        show la 9 j = _ ∧ va_up ia 10 (upd (ia 10) (k - 1) (ia 10 (k - 1) + nI n)) 10 j = _
        rw [up_s, upd_n _ _ (by omega)]
        exact h2 j (by omega)
      · have hj2 : j = s.dropLast.length := by simp at hj ⊢; omega
        rw [hj2, gd_r, ← hj2]
        have hj3 : j = s.length - 1 := by simp at hj2; exact hj2
        show la 9 j = _ ∧ va_up ia 10 (upd (ia 10) (k - 1) (ia 10 (k - 1) + nI n)) 10 j = _
        rw [up_s, hk, hj3, upd_s, (h2 (s.length - 1) (by omega)).1, (h2 (s.length - 1) (by omega)).2, hq.2, nI_add]
        exact ⟨rfl, rfl⟩
  · rw [hu, if_neg (fun z => hq (hc.mp z)), sc_add, if_neg hq]
    refine ⟨?_, fun j hj => ?_⟩
    · show va_up ii 13 (nI (k + 1)) 13 = _
      rw [up_s, hk]; simp
    · show va_up la 9 (vp_updL (la 9) k (lN y)) 9 j = _ ∧ va_up ia 10 (upd (ia 10) k (nI n)) 10 j = _
      rw [up_s, up_s]
      rcases Nat.lt_or_ge j s.length with g | g
      · rw [gd_l _ _ _ g, upd_n _ _ (by omega), updL_n _ _ (by omega)]; exact h2 j g
      · obtain rfl : j = s.length := by simp at hj; omega
        rw [gd_r, hk, upd_s, updL_s]; exact ⟨rfl, rfl⟩
/-- what is said of row r in the cells -/
def rF (l0 y0 g : Nat) (rw : List Rw) (r : Nat) (u : St) : Prop :=
  u.2.2.1 0 r = nI (rw.getD r rw0).1 ∧ u.2.2.1 1 r = nI (rw.getD r rw0).2.1 ∧ u.2.2.1 2 r = nI (rw.getD r rw0).2.2.1 ∧ u.2.2.2 3 r = lN (ly_y y0 g (rw.take r)) ∧ u.2.2.2 4 r = lN (rw.getD r rw0).2.2.2.1 ∧ u.2.2.2 5 r = lN (rw.getD r rw0).2.2.2.2 ∧
  ∀ i, i < (rw.getD r rw0).2.2.1 → u.2.2.1 6 (ly_n (rw.take r) + i) = nI r ∧ u.2.2.2 7 (ly_n (rw.take r) + i) = lN (l0 + i * ((rw.getD r rw0).2.2.2.1 + g))
def yR (l0 y0 g : Nat) (rw : List Rw) (bd : Nat → Bool) (u : St) : Prop :=
  (u.1 11 = nI rw.length ∧ u.1 12 = nI (ly_n rw)) ∧ (u.2.1 14 = lN l0 ∧ u.2.1 15 = lN (ly_y y0 g rw) ∧ u.2.1 16 = lN g) ∧ (∀ r, r < rw.length → rF l0 y0 g rw r u) ∧ (∀ c, c < ly_n rw → u.2.2.1 8 c = if bd c = true then 1 else 0) ∧
  (scR (ly_s y0 g rw) u ∧ (ly_s y0 g rw).length ≤ 2 * rw.length ∧ ∀ p ∈ ly_s y0 g rw, p.1 ≤ ly_y y0 g rw)
def okR (l0 y0 g : Nat) (rw : List Rw) : Prop := l0 ≤ 65536 ∧ y0 ≤ 65536 ∧ g ≤ 65536 ∧ rw.length ≤ 8 ∧ ∀ q ∈ rw, q.1 < 4 ∧ q.2.1 < 2 ∧ 0 < q.2.2.1 ∧ q.2.2.1 ≤ 20 ∧ 0 < q.2.2.2.1 ∧ q.2.2.2.1 ≤ 65536 ∧ 0 < q.2.2.2.2 ∧ q.2.2.2.2 ≤ 65536
theorem ok_n : ∀ {rw : List Rw}, (∀ q ∈ rw, q.2.2.1 ≤ 20) → ly_n rw ≤ 20 * rw.length := by
  intro rw
  induction rw with
  | nil => intro _; simp [ly_n]
  | cons q rw ih =>
    intro h
    have h1 := h q List.mem_cons_self
    have h2 := ih (fun z hz => h z (List.mem_cons_of_mem _ hz))
    have e : ly_n (q :: rw) = q.2.2.1 + ly_n rw := by simp [ly_n]
    rw [e, List.length_cons]; omega
theorem ok_y {y0 g : Nat} : ∀ {rw : List Rw}, g ≤ 65536 → (∀ q ∈ rw, q.2.2.2.2 ≤ 65536) → ly_y y0 g rw ≤ y0 + 131072 * rw.length := by
  intro rw hg
  induction rw with
  | nil => intro _; simp [ly_y]
  | cons q rw ih =>
    intro h
    have h1 := h q List.mem_cons_self
    have h2 := ih (fun z hz => h z (List.mem_cons_of_mem _ hz))
    have e : ly_y y0 g (q :: rw) = ly_y y0 g rw + (q.2.2.2.2 + g) := by simp [ly_y]; omega
    rw [e, List.length_cons]; omega
theorem ok_init {l0 y0 g : Nat} {rw : List Rw} {q : Rw} (h : okR l0 y0 g (rw ++ [q])) : okR l0 y0 g rw := ⟨h.1, h.2.1, h.2.2.1, by have := h.2.2.2.1; simp at this; omega, fun z hz => h.2.2.2.2 z (List.mem_append_left _ hz)⟩
end
section
theorem sc_keep {P : Prop} [Decidable P] {u : St} {ii : Nat → Int32} {li : Nat → Int64} {ia : Nat → Nat → Int32} {la : Nat → Nat → Int64} {X X2 : Nat → Int32} {w : Int32} {V : Nat → Int64} (hu : u = if P then (ii, li, va_up ia 10 X, la) else (va_up ii 13 w, li, va_up ia 10 X2, va_up la 9 V)) :
    (∀ z, z ≠ 13 → u.1 z = ii z) ∧ u.2.1 = li ∧ (∀ z, z ≠ 10 → u.2.2.1 z = ia z) ∧ (∀ z, z ≠ 9 → u.2.2.2 z = la z) := by
  rw [hu]
  split
  · exact ⟨fun _ _ => rfl, rfl, fun z hz => up_n _ _ hz, fun _ _ => rfl⟩
  · exact ⟨fun z hz => up_n _ _ hz, rfl, fun z hz => up_n _ _ hz, fun z hz => up_n _ _ hz⟩
theorem ly_off : ∀ (rw : List Rw) (r : Nat), r < rw.length → ly_n (rw.take r) + (rw.getD r rw0).2.2.1 ≤ ly_n rw := by
  intro rw
  induction rw with
  | nil => intro r h; simp at h
  | cons q rw ih =>
    intro r h
    cases r with
    | zero => simp [ly_n]
    | succ r =>
      have := ih r (by simp at h; omega)
      simp only [ly_n, List.take_succ_cons, List.map_cons, List.sum_cons, List.getD_cons_succ] at this ⊢
      omega
set_option maxHeartbeats 4000000 in
set_option maxRecDepth 100000 in
theorem m_Y_addRow {l : Launch} {s0 : State} {D : va_G} {cA sa : Nat → Nat} (Z : zE l s0 D cA sa) (a : Nat → Nat) (ii : Nat → Int32) (li : Nat → Int64) (ia : Nat → Nat → Int32) (la : Nat → Nat → Int64) (l0 y0 g : Nat) (rw : List Rw) (q : Rw) (hy : yR l0 y0 g rw (fun _ => false) (ii, li, ia, la)) (hok : okR l0 y0 g (rw ++ [q])) (sz : Nat) : Met l y_Y_addRow [.code y_Y_addRow c_Y_addRow 8 none] ({ frames := 1, cells := 0, slots := 0, locals := 40 }) (wP s0 D [.ref (a 0), .int (nI q.1), .int (nI q.2.1), .long (lN q.2.2.2.1), .long (lN q.2.2.2.2), .int (nI q.2.2.1)] (w_Y a cA ii li ia la) sz) (va_Qv (fun (u : St) => yR l0 y0 g (rw ++ [q]) (fun _ => false) u) (wB D (va_A (w_Y a cA ii li ia la) sz) (fun (u : St) => w_Y a cA u.1 u.2.1 u.2.2.1 u.2.2.2)) (va_A (w_Y a cA ii li ia la) sz)) 0 0 (va_A (w_Y a cA ii li ia la) sz) := by
  refine wMet Z (by decide) (Nat.le_of_ble_eq_true rfl) ?_
  intro p e s m below meth c hx hb hr hml hown hlk hin hg hK hsz hP hD hA hlo hS ls hl
  subst hsz
  have hown : s.vm.findClass R_Y = some m.cls := hown
  obtain ⟨⟨h11, h12⟩, ⟨h14, h15, h16⟩, hrf, hbad, hsc, hsl, hsb⟩ := id hy
  dsimp only at h11 h12 h14 h15 h16
  obtain ⟨ok1, ok2, ok3, ok4, ok5⟩ := id hok
  obtain ⟨q1, q2, q3, q4, q5, q6, q7, q8⟩ := ok5 q (List.mem_append_right _ List.mem_cons_self)
  have hN : rw.length ≤ 7 := by simp at ok4; omega
  have hn : ly_n rw ≤ 140 := Nat.le_trans (ok_n (fun z hz => (ok5 z (List.mem_append_left _ hz)).2.2.2.1)) (by omega)
  have hYb : ly_y y0 g rw ≤ 1000000 := Nat.le_trans (ok_y ok3 (fun z hz => (ok5 z (List.mem_append_left _ hz)).2.2.2.2.2.2.2)) (by omega)
  refine lv_aload_n hx hb d_Y_addRow_0 rfl (lv_at hl 0 rfl) ?_
  refine va_get (D := D) (ci := 3) (v := .int (ii 11)) (C := R_Y) (T := T_Y) (N := 17) hx hb (uw_Y Z.1 hg.1) (fun _ h => h) hown hK hP 0 rfl rfl 11 (by decide) (kw153 Z.1 _ _ hg.1) (fun _ h9 => h9) rfl d_Y_addRow_1 ?_
  refine lv_bipush (v := 8) hx hb d_Y_addRow_4 (by decide) ?_
  refine lv_icmp_lt (tgt := 10) hx hb d_Y_addRow_6 (by decide) (fun _ => ?_) (fun k1 => by first | exact absurd (show ii 11 < (8 : Int32) by rw [h11]; exact nI_lt (b := 8) (by omega) (by decide)) k1 | exact absurd k1 (show ii 11 < (8 : Int32) by rw [h11]; exact nI_lt (b := 8) (by omega) (by decide)))
  refine lv_aload_n hx hb d_Y_addRow_10 rfl (lv_at hl 0 rfl) ?_
  refine va_get (D := D) (ci := 3) (v := .ref (a 1)) (C := R_Y) (T := T_Y) (N := 17) hx hb (uw_Y Z.1 hg.1) (fun _ h => h) hown hK hP 0 rfl rfl 0 (by decide) (kw131 Z.1 _ _ hg.1) (fun _ h9 => h9) rfl d_Y_addRow_11 ?_
  refine lv_aload_n hx hb d_Y_addRow_14 rfl (lv_at hl 0 rfl) ?_
  refine va_get (D := D) (ci := 3) (v := .int (ii 11)) (C := R_Y) (T := T_Y) (N := 17) hx hb (uw_Y Z.1 hg.1) (fun _ h => h) hown hK hP 0 rfl rfl 11 (by decide) (kw153 Z.1 _ _ hg.1) (fun _ h9 => h9) rfl d_Y_addRow_15 ?_
  refine lv_topi (fun z2 ez2 => ?_)
  obtain rfl : z2 = (nI rw.length) := by rw [ez2]; exact h11
  refine lv_iload_n hx hb d_Y_addRow_18 rfl (lv_at hl 1 rfl) ?_
  refine va_iast hx hb hK hP hD hS 1 0 rfl rfl (vp_in_nI (n := rw.length) (N := 8) (by omega) (by decide)) d_Y_addRow_19 (fun H locs hP hD hS => ?_)
  rw [nI_clamp (n := rw.length) (by omega)] at hP hD
  have hP : va_P D ncl (w_Y a cA ii li (va_up ia 0 (upd (ia 0) rw.length (nI q.1))) la) H := hP
  have hD : va_D _ (w_Y a cA ii li (va_up ia 0 (upd (ia 0) rw.length (nI q.1))) la) := hD
  refine lv_aload_n hx hb d_Y_addRow_20 rfl (lv_at hl 0 rfl) ?_
  refine va_get (D := D) (ci := 3) (v := .ref (a 2)) (C := R_Y) (T := T_Y) (N := 17) hx hb (uw_Y Z.1 hg.1) (fun _ h => h) hown hK hP 0 rfl rfl 1 (by decide) (kw133 Z.1 _ _ hg.1) (fun _ h9 => h9) rfl d_Y_addRow_21 ?_
  refine lv_aload_n hx hb d_Y_addRow_24 rfl (lv_at hl 0 rfl) ?_
  refine va_get (D := D) (ci := 3) (v := .int (ii 11)) (C := R_Y) (T := T_Y) (N := 17) hx hb (uw_Y Z.1 hg.1) (fun _ h => h) hown hK hP 0 rfl rfl 11 (by decide) (kw153 Z.1 _ _ hg.1) (fun _ h9 => h9) rfl d_Y_addRow_25 ?_
  refine lv_topi (fun z3 ez3 => ?_)
  obtain rfl : z3 = (nI rw.length) := by rw [ez3]; exact h11
  refine lv_iload_n hx hb d_Y_addRow_28 rfl (lv_at hl 2 rfl) ?_
  refine va_iast hx hb hK hP hD hS 2 0 rfl rfl (vp_in_nI (n := rw.length) (N := 8) (by omega) (by decide)) d_Y_addRow_29 (fun H locs hP hD hS => ?_)
  rw [nI_clamp (n := rw.length) (by omega)] at hP hD
  have hP : va_P D ncl (w_Y a cA ii li (va_up (va_up ia 0 (upd (ia 0) rw.length (nI q.1))) 1 (upd (ia 1) rw.length (nI q.2.1))) la) H := hP
  have hD : va_D _ (w_Y a cA ii li (va_up (va_up ia 0 (upd (ia 0) rw.length (nI q.1))) 1 (upd (ia 1) rw.length (nI q.2.1))) la) := hD
  refine lv_aload_n hx hb d_Y_addRow_30 rfl (lv_at hl 0 rfl) ?_
  refine va_get (D := D) (ci := 3) (v := .ref (a 3)) (C := R_Y) (T := T_Y) (N := 17) hx hb (uw_Y Z.1 hg.1) (fun _ h => h) hown hK hP 0 rfl rfl 2 (by decide) (kw135 Z.1 _ _ hg.1) (fun _ h9 => h9) rfl d_Y_addRow_31 ?_
  refine lv_aload_n hx hb d_Y_addRow_34 rfl (lv_at hl 0 rfl) ?_
  refine va_get (D := D) (ci := 3) (v := .int (ii 11)) (C := R_Y) (T := T_Y) (N := 17) hx hb (uw_Y Z.1 hg.1) (fun _ h => h) hown hK hP 0 rfl rfl 11 (by decide) (kw153 Z.1 _ _ hg.1) (fun _ h9 => h9) rfl d_Y_addRow_35 ?_
  refine lv_topi (fun z4 ez4 => ?_)
  obtain rfl : z4 = (nI rw.length) := by rw [ez4]; exact h11
  refine lv_iload hx hb d_Y_addRow_38 (lv_at hl 5 rfl) ?_
  refine va_iast hx hb hK hP hD hS 3 0 rfl rfl (vp_in_nI (n := rw.length) (N := 8) (by omega) (by decide)) d_Y_addRow_40 (fun H locs hP hD hS => ?_)
  rw [nI_clamp (n := rw.length) (by omega)] at hP hD
  have hP : va_P D ncl (w_Y a cA ii li (va_up (va_up (va_up ia 0 (upd (ia 0) rw.length (nI q.1))) 1 (upd (ia 1) rw.length (nI q.2.1))) 2 (upd (ia 2) rw.length (nI q.2.2.1))) la) H := hP
  have hD : va_D _ (w_Y a cA ii li (va_up (va_up (va_up ia 0 (upd (ia 0) rw.length (nI q.1))) 1 (upd (ia 1) rw.length (nI q.2.1))) 2 (upd (ia 2) rw.length (nI q.2.2.1))) la) := hD
  refine lv_aload_n hx hb d_Y_addRow_41 rfl (lv_at hl 0 rfl) ?_
  refine va_get (D := D) (ci := 3) (v := .ref (a 4)) (C := R_Y) (T := T_Y) (N := 17) hx hb (uw_Y Z.1 hg.1) (fun _ h => h) hown hK hP 0 rfl rfl 3 (by decide) (kw137 Z.1 _ _ hg.1) (fun _ h9 => h9) rfl d_Y_addRow_42 ?_
  refine lv_aload_n hx hb d_Y_addRow_45 rfl (lv_at hl 0 rfl) ?_
  refine va_get (D := D) (ci := 3) (v := .int (ii 11)) (C := R_Y) (T := T_Y) (N := 17) hx hb (uw_Y Z.1 hg.1) (fun _ h => h) hown hK hP 0 rfl rfl 11 (by decide) (kw153 Z.1 _ _ hg.1) (fun _ h9 => h9) rfl d_Y_addRow_46 ?_
  refine lv_topi (fun z5 ez5 => ?_)
  obtain rfl : z5 = (nI rw.length) := by rw [ez5]; exact h11
  refine lv_aload_n hx hb d_Y_addRow_49 rfl (lv_at hl 0 rfl) ?_
  refine va_get (D := D) (ci := 3) (v := .long (li 15)) (C := R_Y) (T := T_Y) (N := 17) hx hb (uw_Y Z.1 hg.1) (fun _ h => h) hown hK hP 0 rfl rfl 15 (by decide) (kw160 Z.1 _ _ hg.1) (fun _ h9 => h9) rfl d_Y_addRow_50 ?_
  refine lv_topl (fun z6 ez6 => ?_)
  obtain rfl : z6 = (lN (ly_y y0 g rw)) := by rw [ez6]; exact h15
  refine va_last hx hb hK hP hD hS 4 1 rfl rfl (vp_in_nI (n := rw.length) (N := 8) (by omega) (by decide)) d_Y_addRow_53 (fun H locs hP hD hS => ?_)
  rw [nI_clamp (n := rw.length) (by omega)] at hP hD
  have hP : va_P D ncl (w_Y a cA ii li (va_up (va_up (va_up ia 0 (upd (ia 0) rw.length (nI q.1))) 1 (upd (ia 1) rw.length (nI q.2.1))) 2 (upd (ia 2) rw.length (nI q.2.2.1))) (va_up la 3 (vp_updL (la 3) rw.length (lN (ly_y y0 g rw))))) H := hP
  have hD : va_D _ (w_Y a cA ii li (va_up (va_up (va_up ia 0 (upd (ia 0) rw.length (nI q.1))) 1 (upd (ia 1) rw.length (nI q.2.1))) 2 (upd (ia 2) rw.length (nI q.2.2.1))) (va_up la 3 (vp_updL (la 3) rw.length (lN (ly_y y0 g rw))))) := hD
  refine lv_aload_n hx hb d_Y_addRow_54 rfl (lv_at hl 0 rfl) ?_
  refine va_get (D := D) (ci := 3) (v := .ref (a 5)) (C := R_Y) (T := T_Y) (N := 17) hx hb (uw_Y Z.1 hg.1) (fun _ h => h) hown hK hP 0 rfl rfl 4 (by decide) (kw139 Z.1 _ _ hg.1) (fun _ h9 => h9) rfl d_Y_addRow_55 ?_
  refine lv_aload_n hx hb d_Y_addRow_58 rfl (lv_at hl 0 rfl) ?_
  refine va_get (D := D) (ci := 3) (v := .int (ii 11)) (C := R_Y) (T := T_Y) (N := 17) hx hb (uw_Y Z.1 hg.1) (fun _ h => h) hown hK hP 0 rfl rfl 11 (by decide) (kw153 Z.1 _ _ hg.1) (fun _ h9 => h9) rfl d_Y_addRow_59 ?_
  refine lv_topi (fun z7 ez7 => ?_)
  obtain rfl : z7 = (nI rw.length) := by rw [ez7]; exact h11
  refine lv_lload_n hx hb d_Y_addRow_62 rfl (lv_at hl 3 rfl) ?_
  refine va_last hx hb hK hP hD hS 5 1 rfl rfl (vp_in_nI (n := rw.length) (N := 8) (by omega) (by decide)) d_Y_addRow_63 (fun H locs hP hD hS => ?_)
  rw [nI_clamp (n := rw.length) (by omega)] at hP hD
  have hP : va_P D ncl (w_Y a cA ii li (va_up (va_up (va_up ia 0 (upd (ia 0) rw.length (nI q.1))) 1 (upd (ia 1) rw.length (nI q.2.1))) 2 (upd (ia 2) rw.length (nI q.2.2.1))) (va_up (va_up la 3 (vp_updL (la 3) rw.length (lN (ly_y y0 g rw)))) 4 (vp_updL (la 4) rw.length (lN q.2.2.2.1)))) H := hP
  have hD : va_D _ (w_Y a cA ii li (va_up (va_up (va_up ia 0 (upd (ia 0) rw.length (nI q.1))) 1 (upd (ia 1) rw.length (nI q.2.1))) 2 (upd (ia 2) rw.length (nI q.2.2.1))) (va_up (va_up la 3 (vp_updL (la 3) rw.length (lN (ly_y y0 g rw)))) 4 (vp_updL (la 4) rw.length (lN q.2.2.2.1)))) := hD
  refine lv_aload_n hx hb d_Y_addRow_64 rfl (lv_at hl 0 rfl) ?_
  refine va_get (D := D) (ci := 3) (v := .ref (a 6)) (C := R_Y) (T := T_Y) (N := 17) hx hb (uw_Y Z.1 hg.1) (fun _ h => h) hown hK hP 0 rfl rfl 5 (by decide) (kw141 Z.1 _ _ hg.1) (fun _ h9 => h9) rfl d_Y_addRow_65 ?_
  refine lv_aload_n hx hb d_Y_addRow_68 rfl (lv_at hl 0 rfl) ?_
  refine va_get (D := D) (ci := 3) (v := .int (ii 11)) (C := R_Y) (T := T_Y) (N := 17) hx hb (uw_Y Z.1 hg.1) (fun _ h => h) hown hK hP 0 rfl rfl 11 (by decide) (kw153 Z.1 _ _ hg.1) (fun _ h9 => h9) rfl d_Y_addRow_69 ?_
  refine lv_topi (fun z8 ez8 => ?_)
  obtain rfl : z8 = (nI rw.length) := by rw [ez8]; exact h11
  refine lv_lload hx hb d_Y_addRow_72 (lv_at hl 4 rfl) ?_
  refine va_last hx hb hK hP hD hS 6 1 rfl rfl (vp_in_nI (n := rw.length) (N := 8) (by omega) (by decide)) d_Y_addRow_74 (fun H locs hP hD hS => ?_)
  rw [nI_clamp (n := rw.length) (by omega)] at hP hD
  have hP : va_P D ncl (w_Y a cA ii li (va_up (va_up (va_up ia 0 (upd (ia 0) rw.length (nI q.1))) 1 (upd (ia 1) rw.length (nI q.2.1))) 2 (upd (ia 2) rw.length (nI q.2.2.1))) (va_up (va_up (va_up la 3 (vp_updL (la 3) rw.length (lN (ly_y y0 g rw)))) 4 (vp_updL (la 4) rw.length (lN q.2.2.2.1))) 5 (vp_updL (la 5) rw.length (lN q.2.2.2.2)))) H := hP
  have hD : va_D _ (w_Y a cA ii li (va_up (va_up (va_up ia 0 (upd (ia 0) rw.length (nI q.1))) 1 (upd (ia 1) rw.length (nI q.2.1))) 2 (upd (ia 2) rw.length (nI q.2.2.1))) (va_up (va_up (va_up la 3 (vp_updL (la 3) rw.length (lN (ly_y y0 g rw)))) 4 (vp_updL (la 4) rw.length (lN q.2.2.2.1))) 5 (vp_updL (la 5) rw.length (lN q.2.2.2.2)))) := hD
  refine lv_aload_n hx hb d_Y_addRow_75 rfl (lv_at hl 0 rfl) ?_
  refine lv_iload hx hb d_Y_addRow_76 (lv_at hl 5 rfl) ?_
  refine lv_lload_n hx hb d_Y_addRow_78 rfl (lv_at hl 3 rfl) ?_
  refine lv_aload_n hx hb d_Y_addRow_79 rfl (lv_at hl 0 rfl) ?_
  refine va_get (D := D) (ci := 3) (v := .long (li 16)) (C := R_Y) (T := T_Y) (N := 17) hx hb (uw_Y Z.1 hg.1) (fun _ h => h) hown hK hP 0 rfl rfl 16 (by decide) (kw161 Z.1 _ _ hg.1) (fun _ h9 => h9) rfl d_Y_addRow_80 ?_
  rw [h16]
  refine lv_ladd hx hb d_Y_addRow_83 ?_
  refine lv_topl (fun z9 ez9 => ?_)
  obtain rfl : z9 = (lN (q.2.2.2.1 + g)) := by rw [ez9]; exact lN_add _ _
  refine w_callv (wr := ([] : va_W)) (w_runV (rest := []) hx hb hml hown hl.1 hg hlo hK hP hD hS (m_Y_addCopies Z a ii li (va_up (va_up (va_up ia 0 (upd (ia 0) rw.length (nI q.1))) 1 (upd (ia 1) rw.length (nI q.2.1))) 2 (upd (ia 2) rw.length (nI q.2.2.1))) (va_up (va_up (va_up la 3 (vp_updL (la 3) rw.length (lN (ly_y y0 g rw)))) 4 (vp_updL (la 4) rw.length (lN q.2.2.2.1))) 5 (vp_updL (la 5) rw.length (lN q.2.2.2.2))) q.2.2.1 (ly_n rw) (lN (q.2.2.2.1 + g)) h12 (by omega) H.size) (kw438 Z.1) (kw440 Z.1) (kp_Y_addCopies Z.1) (kw441 Z.1) (kw5 Z.1) ⟨by decide, by decide, (by decide +kernel : (parseMethodDescriptor y_Y_addCopies.desc).map (fun d => d.parameters.length) = some 2)⟩ ⟨Nat.le_of_ble_eq_true rfl, Nat.le_of_ble_eq_true rfl⟩ [0, 1, 2, 3, 4, 5, 6, 7, 8, 9, 10, 11] rfl rfl (ci := 3) (q0 := 0) rfl rfl rfl (Nat.le_of_ble_eq_true rfl) d_Y_addRow_84 ⟨Nat.le_of_ble_eq_true rfl, Nat.le_of_ble_eq_true rfl⟩) hP hD hS hA [0, 1, 2, 3, 4, 5, 6, 7, 8, 9, 10, 11] [] rfl rfl rfl (by decide) (fun (u : St) => w_Y a cA u.1 u.2.1 u.2.2.1 u.2.2.2) [0, 1, 2, 3, 4, 5, 6, 7, 8, 9, 10, 11] rfl (fun _ => rfl) (fun u1 H locs hq1 hP hD hS => ?_)
  refine W.widen (k := 0) (n := 0) (Nat.le_of_ble_eq_true rfl) (Nat.le_of_ble_eq_true rfl) ?_
  obtain ⟨a1, a2, a3, a4, a5, a6⟩ := hq1
  have b15 : u1.2.1 15 = lN (ly_y y0 g rw) := by rw [a2]; exact h15
  have b16 : u1.2.1 16 = lN g := by rw [a2]; exact h16
  have hs1 : scR (ly_s y0 g rw) (u1.1, u1.2.1, u1.2.2.1, u1.2.2.2) := ⟨by show u1.1 13 = _; rw [a1, up_n _ _ (by decide)]; exact hsc.1, fun j hj => by show u1.2.2.2 9 j = _ ∧ u1.2.2.1 10 j = _; rw [a4 9 (by decide), a3 10 (by decide) (by decide)]; exact hsc.2 j hj⟩
  refine lv_aload_n hx hb d_Y_addRow_87 rfl (lv_at hl 0 rfl) ?_
  refine lv_aload_n hx hb d_Y_addRow_88 rfl (lv_at hl 0 rfl) ?_
  refine va_get (D := D) (ci := 3) (v := .long (u1.2.1 15)) (C := R_Y) (T := T_Y) (N := 17) hx hb (uw_Y Z.1 hg.1) (fun _ h => h) hown hK hP 0 rfl rfl 15 (by decide) (kw160 Z.1 _ _ hg.1) (fun _ h9 => h9) rfl d_Y_addRow_89 ?_
  refine lv_topl (fun z11 ez11 => ?_)
  obtain rfl : z11 = (lN (ly_y y0 g rw)) := by rw [ez11]; exact b15
  refine lv_iload hx hb d_Y_addRow_92 (lv_at hl 5 rfl) ?_
  refine w_callv (wr := ([] : va_W)) (w_runV (rest := []) hx hb hml hown hl.1 hg hlo hK hP hD hS (m_Y_addScore Z a u1.1 u1.2.1 u1.2.2.1 u1.2.2.2 (lN (ly_y y0 g rw)) (nI q.2.2.1) (ly_s y0 g rw).length hs1.1 (by omega) H.size) (kw442 Z.1) (kw444 Z.1) (kp_Y_addScore Z.1) (kw445 Z.1) (kw5 Z.1) ⟨by decide, by decide, (by decide +kernel : (parseMethodDescriptor y_Y_addScore.desc).map (fun d => d.parameters.length) = some 2)⟩ ⟨Nat.le_of_ble_eq_true rfl, Nat.le_of_ble_eq_true rfl⟩ [0, 1, 2, 3, 4, 5, 6, 7, 8, 9, 10, 11] rfl rfl (ci := 3) (q0 := 0) rfl rfl rfl (Nat.le_of_ble_eq_true rfl) d_Y_addRow_94 ⟨Nat.le_of_ble_eq_true rfl, Nat.le_of_ble_eq_true rfl⟩) hP hD hS hA [0, 1, 2, 3, 4, 5, 6, 7, 8, 9, 10, 11] [] rfl rfl rfl (by decide) (fun (u : St) => w_Y a cA u.1 u.2.1 u.2.2.1 u.2.2.2) [0, 1, 2, 3, 4, 5, 6, 7, 8, 9, 10, 11] rfl (fun _ => rfl) (fun u2 H locs hq2 hP hD hS => ?_)
  refine W.widen (k := 0) (n := 0) (Nat.le_of_ble_eq_true rfl) (Nat.le_of_ble_eq_true rfl) ?_
  have hs2 := sc_step hs1 (fun z hz => Nat.le_trans (hsb z hz) (by omega)) (show ly_y y0 g rw ≤ 4000000 by omega) rfl hq2
  obtain ⟨c1, c2, c3, c4⟩ := sc_keep hq2
  have hl2 := sc_len (ly_s y0 g rw) (ly_y y0 g rw) q.2.2.1
  have hb2 := sc_bd (n := q.2.2.1) hsb (Nat.le_refl (ly_y y0 g rw))
  refine lv_aload_n hx hb d_Y_addRow_97 rfl (lv_at hl 0 rfl) ?_
  refine lv_aload_n hx hb d_Y_addRow_98 rfl (lv_at hl 0 rfl) ?_
  refine va_get (D := D) (ci := 3) (v := .long (u2.2.1 15)) (C := R_Y) (T := T_Y) (N := 17) hx hb (uw_Y Z.1 hg.1) (fun _ h => h) hown hK hP 0 rfl rfl 15 (by decide) (kw160 Z.1 _ _ hg.1) (fun _ h9 => h9) rfl d_Y_addRow_99 ?_
  rw [c2, b15]
  refine lv_lload hx hb d_Y_addRow_102 (lv_at hl 4 rfl) ?_
  refine lv_ladd hx hb d_Y_addRow_104 ?_
  refine lv_topl (fun z13 ez13 => ?_)
  obtain rfl : z13 = (lN (ly_y y0 g rw + q.2.2.2.2)) := by rw [ez13]; exact lN_add _ _
  refine lv_iload hx hb d_Y_addRow_105 (lv_at hl 5 rfl) ?_
  refine w_callv (wr := ([] : va_W)) (w_runV (rest := []) hx hb hml hown hl.1 hg hlo hK hP hD hS (m_Y_addScore Z a u2.1 u2.2.1 u2.2.2.1 u2.2.2.2 (lN (ly_y y0 g rw + q.2.2.2.2)) (nI q.2.2.1) (sc_add (ly_s y0 g rw) (ly_y y0 g rw) q.2.2.1).length hs2.1 (by omega) H.size) (kw442 Z.1) (kw444 Z.1) (kp_Y_addScore Z.1) (kw445 Z.1) (kw5 Z.1) ⟨by decide, by decide, (by decide +kernel : (parseMethodDescriptor y_Y_addScore.desc).map (fun d => d.parameters.length) = some 2)⟩ ⟨Nat.le_of_ble_eq_true rfl, Nat.le_of_ble_eq_true rfl⟩ [0, 1, 2, 3, 4, 5, 6, 7, 8, 9, 10, 11] rfl rfl (ci := 3) (q0 := 0) rfl rfl rfl (Nat.le_of_ble_eq_true rfl) d_Y_addRow_107 ⟨Nat.le_of_ble_eq_true rfl, Nat.le_of_ble_eq_true rfl⟩) hP hD hS hA [0, 1, 2, 3, 4, 5, 6, 7, 8, 9, 10, 11] [] rfl rfl rfl (by decide) (fun (u : St) => w_Y a cA u.1 u.2.1 u.2.2.1 u.2.2.2) [0, 1, 2, 3, 4, 5, 6, 7, 8, 9, 10, 11] rfl (fun _ => rfl) (fun u3 H locs hq3 hP hD hS => ?_)
  refine W.widen (k := 0) (n := 0) (Nat.le_of_ble_eq_true rfl) (Nat.le_of_ble_eq_true rfl) ?_
  have hs3 := sc_step (ii := u2.1) (li := u2.2.1) (ia := u2.2.2.1) (la := u2.2.2.2) hs2 (fun z hz => Nat.le_trans (hb2 z hz) (by omega)) (show ly_y y0 g rw + q.2.2.2.2 ≤ 4000000 by omega) rfl hq3
  obtain ⟨e1, e2, e3, e4⟩ := sc_keep hq3
  have hl3 := sc_len (sc_add (ly_s y0 g rw) (ly_y y0 g rw) q.2.2.1) (ly_y y0 g rw + q.2.2.2.2) q.2.2.1
  have hb3 := sc_bd (n := q.2.2.1) (B := ly_y y0 g rw + q.2.2.2.2) (y := ly_y y0 g rw + q.2.2.2.2) (fun z hz => Nat.le_trans (hb2 z hz) (Nat.le_add_right _ _)) (Nat.le_refl _)
  refine lv_aload_n hx hb d_Y_addRow_110 rfl (lv_at hl 0 rfl) ?_
  refine lv_dup hx hb d_Y_addRow_111 rfl ?_
  refine va_get (D := D) (ci := 3) (v := .long (u3.2.1 15)) (C := R_Y) (T := T_Y) (N := 17) hx hb (uw_Y Z.1 hg.1) (fun _ h => h) hown hK hP 0 rfl rfl 15 (by decide) (kw160 Z.1 _ _ hg.1) (fun _ h9 => h9) rfl d_Y_addRow_112 ?_
  rw [e2, c2, b15]
  refine lv_lload hx hb d_Y_addRow_115 (lv_at hl 4 rfl) ?_
  refine lv_aload_n hx hb d_Y_addRow_117 rfl (lv_at hl 0 rfl) ?_
  refine va_get (D := D) (ci := 3) (v := .long (u3.2.1 16)) (C := R_Y) (T := T_Y) (N := 17) hx hb (uw_Y Z.1 hg.1) (fun _ h => h) hown hK hP 0 rfl rfl 16 (by decide) (kw161 Z.1 _ _ hg.1) (fun _ h9 => h9) rfl d_Y_addRow_118 ?_
  rw [e2, c2, b16]
  refine lv_ladd hx hb d_Y_addRow_121 ?_
  refine lv_topl (fun z15 ez15 => ?_)
  obtain rfl : z15 = (lN (q.2.2.2.2 + g)) := by rw [ez15]; exact lN_add _ _
  refine lv_ladd hx hb d_Y_addRow_122 ?_
  refine lv_topl (fun z16 ez16 => ?_)
  obtain rfl : z16 = (lN (ly_y y0 g rw + (q.2.2.2.2 + g))) := by rw [ez16]; exact lN_add _ _
  refine va_put (D := D) (ci := 3) (v := .long (lN (ly_y y0 g rw + (q.2.2.2.2 + g)))) (ty := t_Y 15) (C := R_Y) (T := T_Y) (N := 17) hx hb (uw_Y Z.1 hg.1) (fun _ h => h) t_Y t_Y_ok n_Y hown hK hP hD hS 0 rfl rfl 15 (by decide) (kw160 Z.1 _ _ hg.1) (fun _ h9 => h9) rfl (by decide +kernel) rfl rfl (Nat.le_of_ble_eq_true rfl) d_Y_addRow_123 (fun H locs hP hD hS => ?_)
  have hP : va_P D ncl (w_Y a cA u3.1 (va_up u3.2.1 15 (lN (ly_y y0 g rw + (q.2.2.2.2 + g)))) u3.2.2.1 u3.2.2.2) H := hP
  have hD : va_D _ (w_Y a cA u3.1 (va_up u3.2.1 15 (lN (ly_y y0 g rw + (q.2.2.2.2 + g)))) u3.2.2.1 u3.2.2.2) := hD
  refine lv_aload_n hx hb d_Y_addRow_126 rfl (lv_at hl 0 rfl) ?_
  refine lv_dup hx hb d_Y_addRow_127 rfl ?_
  refine va_get (D := D) (ci := 3) (v := .int (u3.1 11)) (C := R_Y) (T := T_Y) (N := 17) hx hb (uw_Y Z.1 hg.1) (fun _ h => h) hown hK hP 0 rfl rfl 11 (by decide) (kw153 Z.1 _ _ hg.1) (fun _ h9 => h9) rfl d_Y_addRow_128 ?_
  refine lv_iconst (v := 1) hx hb d_Y_addRow_131 (by decide) ?_
  rw [e1 11 (by decide), c1 11 (by decide), a1, up_n _ _ (by decide), h11]
  refine lv_iadd hx hb d_Y_addRow_132 ?_
  refine lv_topi (fun z17 ez17 => ?_)
  obtain rfl : z17 = (nI (rw.length + 1)) := by rw [ez17]; exact nI_1 _
  refine va_put (D := D) (ci := 3) (v := .int (nI (rw.length + 1))) (ty := t_Y 11) (C := R_Y) (T := T_Y) (N := 17) hx hb (uw_Y Z.1 hg.1) (fun _ h => h) t_Y t_Y_ok n_Y hown hK hP hD hS 0 rfl rfl 11 (by decide) (kw153 Z.1 _ _ hg.1) (fun _ h9 => h9) rfl (by decide +kernel) rfl rfl (Nat.le_of_ble_eq_true rfl) d_Y_addRow_133 (fun H locs hP hD hS => ?_)
  have hP : va_P D ncl (w_Y a cA (va_up u3.1 11 (nI (rw.length + 1))) (va_up u3.2.1 15 (lN (ly_y y0 g rw + (q.2.2.2.2 + g)))) u3.2.2.1 u3.2.2.2) H := hP
  have hD : va_D _ (w_Y a cA (va_up u3.1 11 (nI (rw.length + 1))) (va_up u3.2.1 15 (lN (ly_y y0 g rw + (q.2.2.2.2 + g)))) u3.2.2.1 u3.2.2.2) := hD
  have k0 : u3.2.2.1 0 = upd (ia 0) rw.length (nI q.1) := by rw [e3 0 (by decide), c3 0 (by decide), a3 0 (by decide) (by decide)]; rfl
  have k1 : u3.2.2.1 1 = upd (ia 1) rw.length (nI q.2.1) := by rw [e3 1 (by decide), c3 1 (by decide), a3 1 (by decide) (by decide)]; rfl
  have k2 : u3.2.2.1 2 = upd (ia 2) rw.length (nI q.2.2.1) := by rw [e3 2 (by decide), c3 2 (by decide), a3 2 (by decide) (by decide)]; rfl
  have k3 : u3.2.2.2 3 = vp_updL (la 3) rw.length (lN (ly_y y0 g rw)) := by rw [e4 3 (by decide), c4 3 (by decide), a4 3 (by decide)]; rfl
  have k4 : u3.2.2.2 4 = vp_updL (la 4) rw.length (lN q.2.2.2.1) := by rw [e4 4 (by decide), c4 4 (by decide), a4 4 (by decide)]; rfl
  have k5 : u3.2.2.2 5 = vp_updL (la 5) rw.length (lN q.2.2.2.2) := by rw [e4 5 (by decide), c4 5 (by decide), a4 5 (by decide)]; rfl
  have k6 : u3.2.2.1 6 = u1.2.2.1 6 := by rw [e3 6 (by decide), c3 6 (by decide)]
  have k8 : u3.2.2.1 8 = u1.2.2.1 8 := by rw [e3 8 (by decide), c3 8 (by decide)]
  have k7 : u3.2.2.2 7 = u1.2.2.2 7 := by rw [e4 7 (by decide), c4 7 (by decide)]
  refine w_vret hx hb hr hlk hP hD hS ((va_up u3.1 11 (nI (rw.length + 1))), (va_up u3.2.1 15 (lN (ly_y y0 g rw + (q.2.2.2.2 + g)))), u3.2.2.1, u3.2.2.2) rfl ?_ d_Y_addRow_136
  refine ⟨⟨?_, ?_⟩, ⟨?_, ?_, ?_⟩, ?_, ?_, ⟨?_, ?_⟩, ?_, ?_⟩
  · show va_up u3.1 11 (nI (rw.length + 1)) 11 = _
    rw [up_s]; simp
  · show va_up u3.1 11 (nI (rw.length + 1)) 12 = _
    rw [up_n _ _ (by decide), e1 12 (by decide), c1 12 (by decide), a1, up_s, ly_n_snoc]
  · show va_up u3.2.1 15 (lN (ly_y y0 g rw + (q.2.2.2.2 + g))) 14 = _
    rw [up_n _ _ (by decide), e2, c2, a2]; exact h14
  · show va_up u3.2.1 15 (lN (ly_y y0 g rw + (q.2.2.2.2 + g))) 15 = _
    rw [up_s, ly_y_snoc]
  · show va_up u3.2.1 15 (lN (ly_y y0 g rw + (q.2.2.2.2 + g))) 16 = _
    rw [up_n _ _ (by decide), e2, c2, a2]; exact h16
  · intro r hr2
    unfold rF
    show u3.2.2.1 0 r = _ ∧ u3.2.2.1 1 r = _ ∧ u3.2.2.1 2 r = _ ∧ u3.2.2.2 3 r = _ ∧ u3.2.2.2 4 r = _ ∧ u3.2.2.2 5 r = _ ∧ ∀ i, _ → u3.2.2.1 6 _ = _ ∧ u3.2.2.2 7 _ = _
    rw [k0, k1, k2, k3, k4, k5, k6, k7]
    rcases Nat.lt_or_ge r rw.length with z | z
    · rw [gd_l _ _ _ z, List.take_append_of_le_length (Nat.le_of_lt z), upd_n _ _ (by omega), upd_n _ _ (by omega), upd_n _ _ (by omega), updL_n _ _ (by omega), updL_n _ _ (by omega), updL_n _ _ (by omega)]
      obtain ⟨f1, f2, f3, f4, f5, f6, f7⟩ := hrf r z
      refine ⟨f1, f2, f3, f4, f5, f6, fun i hi => ?_⟩
      have ho := ly_off rw r z
      have a5i := a5 (ly_n (rw.take r) + i) (by omega)
      rw [a5i.1, a5i.2.2]
      exact f7 i hi
    · obtain rfl : r = rw.length := by simp at hr2; omega
      rw [gd_r, List.take_append_of_le_length (Nat.le_refl _), List.take_length, upd_s, upd_s, upd_s, updL_s, updL_s, updL_s]
      refine ⟨rfl, rfl, rfl, rfl, rfl, rfl, fun i hi => ?_⟩
      have a6i := a6 i hi
      rw [a6i.1, a6i.2.2, h14, h11]
      refine ⟨rfl, ?_⟩
      rw [lZ_nat, lN_mul, lN_add]
  · intro z hz
    show u3.2.2.1 8 z = _
    rw [k8, ly_n_snoc] at *
    rcases Nat.lt_or_ge z (ly_n rw) with y | y
    · rw [(a5 z y).2.1]; exact hbad z y
    · obtain ⟨i, rfl⟩ : ∃ i, z = ly_n rw + i := ⟨z - ly_n rw, by omega⟩
      rw [(a6 i (by omega)).2.1]; rfl
  · show va_up u3.1 11 (nI (rw.length + 1)) 13 = _
    rw [up_n _ _ (by decide), ly_s_snoc]; exact hs3.1
  · intro j hj
    rw [ly_s_snoc] at hj ⊢
    exact hs3.2 j hj
  · rw [ly_s_snoc]; simp; omega
  · intro z hz
    rw [ly_s_snoc] at hz
    rw [ly_y_snoc]
    have := hb3 z hz
    omega
end
section
def pn_len (v : Int64) : Int64 := if (if 65536 < v then 65536 else v) < 1 then 1 else (if 65536 < v then 65536 else v)
set_option maxHeartbeats 4000000 in
set_option maxRecDepth 100000 in
theorem m_P_asPanelLength {l : Launch} {s0 : State} {D : va_G} {cA sa : Nat → Nat} (Z : zE l s0 D cA sa) (v : Int64) (sz : Nat) : Met l y_P_asPanelLength [.code y_P_asPanelLength c_P_asPanelLength 2 (some .long)] ({ frames := 1, cells := 0, slots := 0, locals := 30 }) (wP s0 D [.long v] (([] : va_W)) sz) (va_Ql (fun r (_ : Unit) => r = pn_len v) (wB D (va_A (([] : va_W)) sz) (fun _ => ([] : va_W))) (va_A (([] : va_W)) sz)) 0 0 (va_A (([] : va_W)) sz) := by
  refine wMet Z (by decide) (Nat.le_of_ble_eq_true rfl) ?_
  intro p e s m below meth c hx hb hr hml hown hlk hin hg hK hsz hP hD hA hlo hS ls hl
  subst hsz
  have hown : s.vm.findClass R_P = some m.cls := hown
  refine lv_lconst (v := 1) hx hb d_P_asPanelLength_0 (by decide) ?_
  refine lv_lload_n hx hb d_P_asPanelLength_1 rfl (lv_at hl 0 rfl) ?_
  refine lv_ldc2 (v := 65536) hx hb hown (kw24 Z.1 _ _ hg.1) d_P_asPanelLength_2 ?_
  refine va_mmin_long hx hb (hml.trans hl.1.symm) hown (kw25 Z.1 _ _ hg.1) (kw26 Z.1 _ _ hg.1) (kw2 Z.1 _ _ hg.1) (kw27 Z.1 _ _ hg.1) (Nat.le_of_ble_eq_true rfl) (Nat.le_of_ble_eq_true rfl) (Nat.le_of_ble_eq_true rfl) (Nat.le_of_ble_eq_true rfl) d_P_asPanelLength_5 ?_
  refine lv_topl (fun z1 ez1 => ?_)
  refine va_mmax_long hx hb (hml.trans hl.1.symm) hown (kw28 Z.1 _ _ hg.1) (kw29 Z.1 _ _ hg.1) (kw2 Z.1 _ _ hg.1) (kw30 Z.1 _ _ hg.1) (Nat.le_of_ble_eq_true rfl) (Nat.le_of_ble_eq_true rfl) (Nat.le_of_ble_eq_true rfl) (Nat.le_of_ble_eq_true rfl) d_P_asPanelLength_8 ?_
  refine lv_topl (fun z2 ez2 => ?_)
  exact w_lret hx hb hr hlk hP hD hS () rfl (by rw [ez2, ez1]; rfl) d_P_asPanelLength_11
set_option maxHeartbeats 4000000 in
set_option maxRecDepth 100000 in
theorem m_P_isWithin {l : Launch} {s0 : State} {D : va_G} {cA sa : Nat → Nat} (Z : zE l s0 D cA sa) (v lo hi : Int64) (sz : Nat) : Met l y_P_isWithin [.code y_P_isWithin c_P_isWithin 6 (some .boolean)] ({ frames := 0, cells := 0, slots := 0, locals := 0 }) (wP s0 D [.long v, .long lo, .long hi] (([] : va_W)) sz) (va_Qi (fun r (_ : Unit) => r = if lo ≤ v ∧ v ≤ hi then 1 else 0) (wB D (va_A (([] : va_W)) sz) (fun _ => ([] : va_W))) (va_A (([] : va_W)) sz)) 0 0 (va_A (([] : va_W)) sz) := by
  refine wMet Z (by decide) (Nat.le_of_ble_eq_true rfl) ?_
  intro p e s m below meth c hx hb hr hml hown hlk hin hg hK hsz hP hD hA hlo hS ls hl
  subst hsz
  have hown : s.vm.findClass R_P = some m.cls := hown
  refine lv_lload_n hx hb d_P_isWithin_0 rfl (lv_at hl 0 rfl) ?_
  refine lv_lload_n hx hb d_P_isWithin_1 rfl (lv_at hl 1 rfl) ?_
  refine W.lcmp hx hb d_P_isWithin_2 ?_
  refine lv_if_lt (tgt := 17) hx hb d_P_isWithin_3 (by decide) (fun c1 => ?_) (fun c1 => ?_)
  · refine lv_iconst (v := 0) hx hb d_P_isWithin_17 (by decide) ?_
    exact w_zret hx hb hr rfl hlk hP hD hS () rfl (by rw [if_neg (fun q => absurd ((lg_cmp_lt _ _).mp c1) (Int64.not_lt.mpr q.1))]) d_P_isWithin_18
  · refine lv_lload_n hx hb d_P_isWithin_6 rfl (lv_at hl 0 rfl) ?_
    refine lv_lload hx hb d_P_isWithin_7 (lv_at hl 2 rfl) ?_
    refine W.lcmp hx hb d_P_isWithin_9 ?_
    refine lv_if_gt (tgt := 17) hx hb d_P_isWithin_10 (by decide) (fun c2 => ?_) (fun c2 => ?_)
    · refine lv_iconst (v := 0) hx hb d_P_isWithin_17 (by decide) ?_
      exact w_zret hx hb hr rfl hlk hP hD hS () rfl (by rw [if_neg (fun q => absurd ((lg_cmp_gt _ _).mp c2) (Int64.not_lt.mpr q.2))]) d_P_isWithin_18
    · refine lv_iconst (v := 1) hx hb d_P_isWithin_13 (by decide) ?_
      refine lv_goto (tgt := 18) hx hb d_P_isWithin_14 (by decide) ?_
      exact w_zret hx hb hr rfl hlk hP hD hS () rfl (by rw [if_pos ⟨Int64.not_lt.mp (fun q => c1 ((lg_cmp_lt _ _).mpr q)), Int64.not_lt.mp (fun q => c2 ((lg_cmp_gt _ _).mpr q))⟩]) d_P_isWithin_18
def rm_ (ac : Int) (w g : Nat) : Nat := if ac < w ∨ w + g = 0 then 0 else min ((ac + g) / ((w : Int) + g)).toNat 20
set_option maxHeartbeats 4000000 in
set_option maxRecDepth 100000 in
theorem m_P_roomInRow {l : Launch} {s0 : State} {D : va_G} {cA sa : Nat → Nat} (Z : zE l s0 D cA sa) (ac : Int) (w g : Nat) (h1 : -200000 ≤ ac) (h2 : ac ≤ 65536) (hw : w ≤ 65536) (hg2 : g ≤ 65536) (sz : Nat) : Met l y_P_roomInRow [.code y_P_roomInRow c_P_roomInRow 8 (some .int)] ({ frames := 1, cells := 0, slots := 0, locals := 30 }) (wP s0 D [.long (lZ ac), .long (lN w), .long (lN g)] (([] : va_W)) sz) (va_Qi (fun r (_ : Unit) => r = nI (rm_ ac w g)) (wB D (va_A (([] : va_W)) sz) (fun _ => ([] : va_W))) (va_A (([] : va_W)) sz)) 0 0 (va_A (([] : va_W)) sz) := by
  refine wMet Z (by decide) (Nat.le_of_ble_eq_true rfl) ?_
  intro p e s m below meth c hx hb hr hml hown hlk hin hg hK hsz hP hD hA hlo hS ls hl
  subst hsz
  have hown : s.vm.findClass R_P = some m.cls := hown
  refine lv_lload_n hx hb d_P_roomInRow_0 rfl (lv_at hl 1 rfl) ?_
  refine lv_lload hx hb d_P_roomInRow_1 (lv_at hl 2 rfl) ?_
  refine lv_ladd hx hb d_P_roomInRow_3 ?_
  refine lv_topl (fun z1 ez1 => ?_)
  obtain rfl : z1 = (lZ ((w : Int) + g)) := by rw [ez1]; rw [← lZ_nat, ← lZ_nat]; exact lZ_add _ _
  refine lv_lstore (lv' := [(6, .long (lZ ((w : Int) + g))), (0, .long (lZ ac)), (2, .long (lN w)), (4, .long (lN g))]) hx hb d_P_roomInRow_4 hl (by decide) rfl (fun ls hl => ?_)
  refine lv_lload_n hx hb d_P_roomInRow_6 rfl (lv_at hl 1 rfl) ?_
  refine lv_lload_n hx hb d_P_roomInRow_7 rfl (lv_at hl 2 rfl) ?_
  refine W.lcmp hx hb d_P_roomInRow_8 ?_
  refine lv_if_lt (tgt := 19) hx hb d_P_roomInRow_9 (by decide) (fun c2 => ?_) (fun c2 => ?_)
  · have hlt : ac < w := by have := (lg_cmp_lt _ _).mp c2; rw [← lZ_nat] at this; exact (lZ_lt (by omega) (by omega) (by omega) (by omega)).mp this
    refine lv_iconst (v := 0) hx hb d_P_roomInRow_19 (by decide) ?_
    exact w_iret hx hb hr hlk hP hD hS () rfl (by rw [rm_, if_pos (Or.inl hlt)]; rfl) d_P_roomInRow_20
  · have hge : ¬ ac < w := fun z => c2 ((lg_cmp_lt _ _).mpr (by rw [← lZ_nat]; exact (lZ_lt (by omega) (by omega) (by omega) (by omega)).mpr z))
    refine lv_lload hx hb d_P_roomInRow_12 (lv_at hl 0 rfl) ?_
    refine lv_lconst (v := 0) hx hb d_P_roomInRow_14 (by decide) ?_
    refine W.lcmp hx hb d_P_roomInRow_15 ?_
    refine lv_if_gt (tgt := 21) hx hb d_P_roomInRow_16 (by decide) (fun c3 => ?_) (fun c3 => ?_)
    · have h0 : (0 : Int) < (w : Int) + g := (lZ_lt (a := 0) (b := (w : Int) + g) (by omega) (by omega) (by omega) (by omega)).mp ((lg_cmp_gt _ _).mp c3)
      refine lv_lload_n hx hb d_P_roomInRow_21 rfl (lv_at hl 1 rfl) ?_
      refine lv_lload hx hb d_P_roomInRow_22 (lv_at hl 3 rfl) ?_
      refine lv_ladd hx hb d_P_roomInRow_24 ?_
      refine lv_topl (fun z4 ez4 => ?_)
      obtain rfl : z4 = (lZ (ac + g)) := by rw [ez4]; rw [← lZ_nat]; exact lZ_add _ _
      refine lv_lload hx hb d_P_roomInRow_25 (lv_at hl 0 rfl) ?_
      refine lv_ldiv hx hb d_P_roomInRow_27 (fun z => absurd ((lZ_eq (b := 0) (by omega) (by omega) (by omega) (by omega)).mp z) (by omega)) ?_
      refine lv_topl (fun z5 ez5 => ?_)
      obtain rfl : z5 = (lZ ((ac + g) / ((w : Int) + g))) := by rw [ez5]; exact lZ_div (by omega) (by omega) h0 (by omega)
      obtain ⟨Q, hQ⟩ : ∃ z, z = (ac + g) / ((w : Int) + g) := ⟨_, rfl⟩
      have hQ1 : 0 ≤ Q := by rw [hQ]; exact Int.ediv_nonneg (by omega) (by omega)
      have hQ2 : Q ≤ 200000 := by rw [hQ]; exact Int.le_trans (Int.ediv_le_self _ (by omega)) (by omega)
      rw [← hQ]
      refine lv_ldc2 (v := 20) hx hb hown (kw401 Z.1 _ _ hg.1) d_P_roomInRow_28 ?_
      refine va_mmin_long hx hb (hml.trans hl.1.symm) hown (kw25 Z.1 _ _ hg.1) (kw26 Z.1 _ _ hg.1) (kw2 Z.1 _ _ hg.1) (kw27 Z.1 _ _ hg.1) (Nat.le_of_ble_eq_true rfl) (Nat.le_of_ble_eq_true rfl) (Nat.le_of_ble_eq_true rfl) (Nat.le_of_ble_eq_true rfl) d_P_roomInRow_31 ?_
      refine lv_topl (fun z6 ez6 => ?_)
      refine lv_topl (fun z7 ez7 => ?_)
      obtain rfl : z7 = (lN (min Q.toNat 20)) := by rw [ez7, ez6]; rw [show (20 : Int64) = lZ 20 from rfl]; by_cases hz : 20 < Q; (rw [if_pos ((lZ_lt (by omega) (by omega) (by omega) (by omega)).mpr hz), ← lZ_nat]; congr 1; omega); rw [if_neg (fun y => hz ((lZ_lt (by omega) (by omega) (by omega) (by omega)).mp y)), ← lZ_nat]; congr 1; omega
      refine lv_l2i hx hb d_P_roomInRow_34 rfl ?_
      refine lv_topi (fun z8 ez8 => ?_)
      obtain rfl : z8 = (nI (min Q.toNat 20)) := by rw [ez8]; exact lN_i _
      exact w_iret hx hb hr hlk hP hD hS () rfl (by rw [rm_, if_neg (by omega), hQ]) d_P_roomInRow_35
    · have h0 : w + g = 0 := by have := Int64.not_lt.mp (fun z => c3 ((lg_cmp_gt _ _).mpr z)); have := (lZ_le (a := (w : Int) + g) (b := 0) (by omega) (by omega) (by omega) (by omega)).mp this; omega
      refine lv_iconst (v := 0) hx hb d_P_roomInRow_19 (by decide) ?_
      exact w_iret hx hb hr hlk hP hD hS () rfl (by rw [rm_, if_pos (Or.inr h0)]; rfl) d_P_roomInRow_20
set_option maxHeartbeats 4000000 in
set_option maxRecDepth 100000 in
theorem m_P_tabOffset {l : Launch} {s0 : State} {D : va_G} {cA sa : Nat → Nat} (Z : zE l s0 D cA sa) (sd lo hi : Int32) (ln : Int64) (sz : Nat) : Met l y_P_tabOffset [.code y_P_tabOffset c_P_tabOffset 5 (some .long)] ({ frames := 0, cells := 0, slots := 0, locals := 0 }) (wP s0 D [.int sd, .int lo, .int hi, .long ln] (([] : va_W)) sz) (va_Ql (fun r (_ : Unit) => r = if sd = lo then 0 else if sd = hi then ln else ln / 2) (wB D (va_A (([] : va_W)) sz) (fun _ => ([] : va_W))) (va_A (([] : va_W)) sz)) 0 0 (va_A (([] : va_W)) sz) := by
  refine wMet Z (by decide) (Nat.le_of_ble_eq_true rfl) ?_
  intro p e s m below meth c hx hb hr hml hown hlk hin hg hK hsz hP hD hA hlo hS ls hl
  subst hsz
  have hown : s.vm.findClass R_P = some m.cls := hown
  refine lv_iload_n hx hb d_P_tabOffset_0 rfl (lv_at hl 0 rfl) ?_
  refine lv_iload_n hx hb d_P_tabOffset_1 rfl (lv_at hl 1 rfl) ?_
  refine lv_icmp_ne (tgt := 7) hx hb d_P_tabOffset_2 (by decide) (fun c1 => ?_) (fun c1 => ?_)
  · refine lv_iload_n hx hb d_P_tabOffset_7 rfl (lv_at hl 0 rfl) ?_
    refine lv_iload_n hx hb d_P_tabOffset_8 rfl (lv_at hl 2 rfl) ?_
    refine lv_icmp_ne (tgt := 16) hx hb d_P_tabOffset_9 (by decide) (fun c2 => ?_) (fun c2 => ?_)
    · refine lv_lload_n hx hb d_P_tabOffset_16 rfl (lv_at hl 3 rfl) ?_
      refine lv_ldc2 (v := 2) hx hb hown (kw491 Z.1 _ _ hg.1) d_P_tabOffset_17 ?_
      refine lv_ldiv hx hb d_P_tabOffset_20 (by decide) ?_
      exact w_lret hx hb hr hlk hP hD hS () rfl (by rw [if_neg c1, if_neg c2]) d_P_tabOffset_21
    · refine lv_lload_n hx hb d_P_tabOffset_12 rfl (lv_at hl 3 rfl) ?_
      refine lv_goto (tgt := 21) hx hb d_P_tabOffset_13 (by decide) ?_
      exact w_lret hx hb hr hlk hP hD hS () rfl (by rw [if_neg c1, if_pos c2]) d_P_tabOffset_21
  · refine lv_lconst (v := 0) hx hb d_P_tabOffset_5 (by decide) ?_
    exact w_lret hx hb hr hlk hP hD hS () rfl (by rw [if_pos c1]) d_P_tabOffset_6
set_option maxHeartbeats 4000000 in
set_option maxRecDepth 100000 in
theorem m_P_grownEnd {l : Launch} {s0 : State} {D : va_G} {cA sa : Nat → Nat} (Z : zE l s0 D cA sa) (a : Nat → Nat) (ii : Nat → Int32) (li : Nat → Int64) (ia : Nat → Nat → Int32) (la : Nat → Nat → Int64) (bd : Nat → Nat) (st ln : Int64) (fr : Int32) (sz : Nat) : Met l y_P_grownEnd [.code y_P_grownEnd c_P_grownEnd 6 (some .long)] ({ frames := 0, cells := 0, slots := 0, locals := 0 }) (wP s0 D [.ref (a 0), .long st, .long ln, .int fr] (w_P a cA ii li ia la bd) sz) (va_Ql (fun r (_ : Unit) => r = if fr = 0 then st - li 8 else st + ln + li 8) (wB D (va_A (w_P a cA ii li ia la bd) sz) (fun _ => w_P a cA ii li ia la bd)) (va_A (w_P a cA ii li ia la bd) sz)) 0 0 (va_A (w_P a cA ii li ia la bd) sz) := by
  refine wMet Z (by decide) (Nat.le_of_ble_eq_true rfl) ?_
  intro p e s m below meth c hx hb hr hml hown hlk hin hg hK hsz hP hD hA hlo hS ls hl
  subst hsz
  have hown : s.vm.findClass R_P = some m.cls := hown
  refine lv_iload hx hb d_P_grownEnd_0 (lv_at hl 3 rfl) ?_
  refine lv_if_eq (tgt := 16) hx hb d_P_grownEnd_2 (by decide) (fun c1 => ?_) (fun c1 => ?_)
  · refine lv_lload_n hx hb d_P_grownEnd_16 rfl (lv_at hl 1 rfl) ?_
    refine lv_aload_n hx hb d_P_grownEnd_17 rfl (lv_at hl 0 rfl) ?_
    refine va_get (D := D) (ci := 0) (v := .long (li 8)) (C := R_P) (T := T_P) (N := 10) hx hb (uw_P Z.1 hg.1) (fun _ h => h) hown hK hP 0 rfl rfl 8 (by decide) (kw206 Z.1 _ _ hg.1) (fun _ h9 => h9) rfl d_P_grownEnd_18 ?_
    refine lv_lsub hx hb d_P_grownEnd_21 ?_
    exact w_lret hx hb hr hlk hP hD hS () rfl (by rw [if_pos c1]) d_P_grownEnd_22
  · refine lv_lload_n hx hb d_P_grownEnd_5 rfl (lv_at hl 1 rfl) ?_
    refine lv_lload_n hx hb d_P_grownEnd_6 rfl (lv_at hl 2 rfl) ?_
    refine lv_ladd hx hb d_P_grownEnd_7 ?_
    refine lv_aload_n hx hb d_P_grownEnd_8 rfl (lv_at hl 0 rfl) ?_
    refine va_get (D := D) (ci := 0) (v := .long (li 8)) (C := R_P) (T := T_P) (N := 10) hx hb (uw_P Z.1 hg.1) (fun _ h => h) hown hK hP 0 rfl rfl 8 (by decide) (kw206 Z.1 _ _ hg.1) (fun _ h9 => h9) rfl d_P_grownEnd_9 ?_
    refine lv_ladd hx hb d_P_grownEnd_12 ?_
    refine lv_goto (tgt := 22) hx hb d_P_grownEnd_13 (by decide) ?_
    exact w_lret hx hb hr hlk hP hD hS () rfl (by rw [if_neg c1]) d_P_grownEnd_22
theorem gd_half {a b : Nat} (hb : 0 < b) (h : b ≤ a) : 2 * (a % b) ≤ a := by
  have h1 := Nat.mod_lt a hb
  have h2 := Nat.div_add_mod a b
  have h3 : 1 ≤ a / b := (Nat.one_le_div_iff hb).mpr h
  have h4 : b * 1 ≤ b * (a / b) := Nat.mul_le_mul_left b h3
  omega
set_option maxHeartbeats 4000000 in
set_option maxRecDepth 100000 in
theorem m_P_commonDivisor {l : Launch} {s0 : State} {D : va_G} {cA sa : Nat → Nat} (Z : zE l s0 D cA sa) (x y : Nat) (hx1 : x ≤ 1000000000000000) (hy1 : y ≤ 1000000000000000) (sz : Nat) : Met l y_P_commonDivisor [.code y_P_commonDivisor c_P_commonDivisor 11 (some .long)] ({ frames := 1, cells := 0, slots := 0, locals := 30 }) (wP s0 D [.long (lN x), .long (lN y)] (([] : va_W)) sz) (va_Ql (fun r (_ : Unit) => r = lN (max 1 (Nat.gcd x y))) (wB D (va_A (([] : va_W)) sz) (fun _ => ([] : va_W))) (va_A (([] : va_W)) sz)) 0 0 (va_A (([] : va_W)) sz) := by
  refine wMet Z (by decide) (Nat.le_of_ble_eq_true rfl) ?_
  intro p e s m below meth c hx hb hr hml hown hlk hin hg hK hsz hP hD hA hlo hS ls hl
  subst hsz
  have hown : s.vm.findClass R_P = some m.cls := hown
  refine lv_lload_n hx hb d_P_commonDivisor_0 rfl (lv_at hl 0 rfl) ?_
  refine lv_lstore (lv' := [(4, .long (lN x)), (0, .long (lN x)), (2, .long (lN y))]) hx hb d_P_commonDivisor_1 hl (by decide) rfl (fun ls hl => ?_)
  refine lv_lload_n hx hb d_P_commonDivisor_3 rfl (lv_at hl 2 rfl) ?_
  refine lv_lstore (lv' := [(6, .long (lN y)), (4, .long (lN x)), (0, .long (lN x)), (2, .long (lN y))]) hx hb d_P_commonDivisor_4 hl (by decide) rfl (fun ls hl => ?_)
  refine lv_iconst (v := 0) hx hb d_P_commonDivisor_6 (by decide) ?_
  refine lv_topi (fun z1 ez1 => ?_)
  obtain rfl : z1 = (nI 0) := by rw [ez1]; rfl
  refine lv_istore (lv' := [(8, .int (nI 0)), (6, .long (lN y)), (4, .long (lN x)), (0, .long (lN x)), (2, .long (lN y))]) hx hb d_P_commonDivisor_7 hl (by decide) rfl (fun ls hl => ?_)
  have loop : ∀ (f : Nat) (k A B : Nat), 200 - k < f → k ≤ 200 → (k = 0 ∨ B ≤ A) → A * B * 2 ^ (k - 1) ≤ 2 ^ 150 → Nat.gcd A B = Nat.gcd x y → A ≤ 1000000000000000 → B ≤ 1000000000000000 → ∀ (H : Heap) (locs : List Loc), va_P D ncl (([] : va_W)) H → va_D (va_A (([] : va_W)) s.heap.size) (([] : va_W)) → va_S (va_A (([] : va_W)) s.heap.size) s.heap H locs → ∀ (ls : Array Slot), lv_has ls 11 [(4, .long (lN A)), (6, .long (lN B)), (8, .int (nI k))] → W p l e ({ frames := 1, cells := 0, slots := 0, locals := 30 }) s m ([.long (lN x), .long (lN y)] : List Value).toArray below meth c H locs 0 0 (MQ below (va_Ql (fun r (_ : Unit) => r = lN (max 1 (Nat.gcd x y))) (wB D (va_A (([] : va_W)) s.heap.size) (fun _ => ([] : va_W))) (va_A (([] : va_W)) s.heap.size)) ([.long (lN x), .long (lN y)] : List Value).toArray s 0 0 (va_A (([] : va_W)) s.heap.size)) (F0 m 9 ls []) := by
    intro f
    induction f with
    | zero => intro k A B h; exact absurd h (Nat.not_lt_zero _)
    | succ f ih =>
      intro k A B hf hk hAB hpr hgc hA1 hB1 H locs hP hD hS ls hl
      refine lv_iload hx hb d_P_commonDivisor_9 (lv_at hl 2 rfl) ?_
      refine lv_sipush (v := 200) hx hb d_P_commonDivisor_11 (by decide) ?_
      refine lv_icmp_ge (tgt := 45) hx hb d_P_commonDivisor_14 (by decide) (fun c2 => ?_) (fun c2 => ?_)
      · have hk2 : k = 200 := by have := (nI_leI (a := 200) (by decide) (by omega)).mp c2; omega
        have hB0 : B = 0 := by rcases Nat.eq_zero_or_pos (A * B) with z | z; (rcases Nat.mul_eq_zero.mp z with y | y; (omega); exact y); (have : 1 * 2 ^ (k - 1) ≤ A * B * 2 ^ (k - 1) := Nat.mul_le_mul_right _ z); rw [hk2] at this hpr; exact absurd (Nat.le_trans this hpr) (by decide)
        refine lv_lconst (v := 1) hx hb d_P_commonDivisor_45 (by decide) ?_
        refine lv_lload hx hb d_P_commonDivisor_46 (lv_at hl 0 rfl) ?_
        refine va_mmax_long hx hb (hml.trans hl.1.symm) hown (kw28 Z.1 _ _ hg.1) (kw29 Z.1 _ _ hg.1) (kw2 Z.1 _ _ hg.1) (kw30 Z.1 _ _ hg.1) (Nat.le_of_ble_eq_true rfl) (Nat.le_of_ble_eq_true rfl) (Nat.le_of_ble_eq_true rfl) (Nat.le_of_ble_eq_true rfl) d_P_commonDivisor_48 ?_
        refine lv_topl (fun z3 ez3 => ?_)
        refine lv_topl (fun z4 ez4 => ?_)
        obtain rfl : z4 = (lN (max 1 A)) := by rw [ez4, ez3]; rw [show (1 : Int64) = lN 1 from rfl]; by_cases hz : A < 1; (rw [if_pos ((pk_lLT (by omega) (by omega)).mpr hz)]; congr 1; omega); rw [if_neg (fun y => hz ((pk_lLT (by omega) (by omega)).mp y))]; congr 1; omega
        exact w_lret hx hb hr hlk hP hD hS () rfl (by rw [← hgc, hB0, Nat.gcd_zero_right]) d_P_commonDivisor_51
      · have hkn : k < 200 := Nat.lt_of_not_le (fun z => c2 ((nI_leI (a := 200) (by decide) (by omega)).mpr z))
        refine lv_lload hx hb d_P_commonDivisor_17 (lv_at hl 1 rfl) ?_
        refine lv_lconst (v := 0) hx hb d_P_commonDivisor_19 (by decide) ?_
        refine W.lcmp hx hb d_P_commonDivisor_20 ?_
        refine lv_if_eq (tgt := 45) hx hb d_P_commonDivisor_21 (by decide) (fun d5 => ?_) (fun d5 => ?_)
        · have hB0 : B = 0 := by have := (lg_cmp_eq _ _).mp d5; exact (pk_lEQ (b := 0) (by omega) (by omega)).mp this
          refine lv_lconst (v := 1) hx hb d_P_commonDivisor_45 (by decide) ?_
          refine lv_lload hx hb d_P_commonDivisor_46 (lv_at hl 0 rfl) ?_
          refine va_mmax_long hx hb (hml.trans hl.1.symm) hown (kw28 Z.1 _ _ hg.1) (kw29 Z.1 _ _ hg.1) (kw2 Z.1 _ _ hg.1) (kw30 Z.1 _ _ hg.1) (Nat.le_of_ble_eq_true rfl) (Nat.le_of_ble_eq_true rfl) (Nat.le_of_ble_eq_true rfl) (Nat.le_of_ble_eq_true rfl) d_P_commonDivisor_48 ?_
          refine lv_topl (fun z6 ez6 => ?_)
          refine lv_topl (fun z7 ez7 => ?_)
          obtain rfl : z7 = (lN (max 1 A)) := by rw [ez7, ez6]; rw [show (1 : Int64) = lN 1 from rfl]; by_cases hz : A < 1; (rw [if_pos ((pk_lLT (by omega) (by omega)).mpr hz)]; congr 1; omega); rw [if_neg (fun y => hz ((pk_lLT (by omega) (by omega)).mp y))]; congr 1; omega
          exact w_lret hx hb hr hlk hP hD hS () rfl (by rw [← hgc, hB0, Nat.gcd_zero_right]) d_P_commonDivisor_51
        · have hB0 : 0 < B := Nat.pos_of_ne_zero (fun z => d5 ((lg_cmp_eq _ _).mpr (by rw [z]; rfl)))
          have hm := Nat.mod_lt A hB0
          refine lv_lload hx hb d_P_commonDivisor_24 (lv_at hl 0 rfl) ?_
          refine lv_lload hx hb d_P_commonDivisor_26 (lv_at hl 1 rfl) ?_
          refine lv_lrem hx hb d_P_commonDivisor_28 (fun z => absurd ((pk_lEQ (b := 0) (by omega) (by omega)).mp z) (by omega)) ?_
          refine lv_topl (fun z8 ez8 => ?_)
          obtain rfl : z8 = (lN (A % B)) := by rw [ez8]; exact pk_lRem (by omega) hB0 (by omega)
          refine lv_lstore (lv' := [(9, .long (lN (A % B))), (4, .long (lN A)), (6, .long (lN B)), (8, .int (nI k))]) hx hb d_P_commonDivisor_29 hl (by decide) rfl (fun ls hl => ?_)
          refine lv_lload hx hb d_P_commonDivisor_31 (lv_at hl 2 rfl) ?_
          refine lv_lstore (lv' := [(4, .long (lN B)), (9, .long (lN (A % B))), (6, .long (lN B)), (8, .int (nI k))]) hx hb d_P_commonDivisor_33 hl (by decide) rfl (fun ls hl => ?_)
          refine lv_lload hx hb d_P_commonDivisor_35 (lv_at hl 1 rfl) ?_
          refine lv_lstore (lv' := [(6, .long (lN (A % B))), (4, .long (lN B)), (9, .long (lN (A % B))), (8, .int (nI k))]) hx hb d_P_commonDivisor_37 hl (by decide) rfl (fun ls hl => ?_)
          obtain ⟨v9, ev9⟩ : ∃ y : Int32, y = (nI k) + 1 := ⟨_, rfl⟩
          refine lv_iinc (v := v9) (lv' := [(8, .int v9), (6, .long (lN (A % B))), (4, .long (lN B)), (9, .long (lN (A % B)))]) hx hb d_P_commonDivisor_39 hl (k := 3) rfl (by rw [ev9]; rfl) (by decide) rfl (fun ls hl => ?_)
          refine lv_goto (tgt := 9) hx hb d_P_commonDivisor_42 (by decide) ?_
          obtain rfl : v9 = nI (k + 1) := by rw [ev9]; exact nI_1 k
          have hp2 : B * (A % B) * 2 ^ (k + 1 - 1) ≤ 2 ^ 150 := by
            rcases Nat.eq_zero_or_pos k with z | z
            · subst z; exact Nat.le_trans (Nat.mul_le_mul_right _ (by rw [Nat.mul_comm]; exact Nat.mul_le_mul_right _ (Nat.mod_le A B))) hpr
            · have h2 := gd_half hB0 (by omega : B ≤ A)
              have e1 : 2 ^ (k + 1 - 1) = 2 * 2 ^ (k - 1) := by rw [Nat.add_sub_cancel]; conv => lhs; rw [show k = (k - 1) + 1 by omega, Nat.pow_succ, Nat.mul_comm]
              rw [e1]
              refine Nat.le_trans ?_ hpr
              rw [← Nat.mul_assoc]
              refine Nat.mul_le_mul_right _ ?_
              rw [Nat.mul_assoc, Nat.mul_comm (A % B) 2, Nat.mul_comm A B]
              exact Nat.mul_le_mul_left _ h2
          exact ih (k + 1) B (A % B) (by omega) (by omega) (Or.inr (by omega)) hp2 (by rw [← hgc, Nat.gcd_comm A B, Nat.gcd_rec B A, Nat.gcd_comm]) hB1 (by omega) _ _ hP hD hS ls (lv_sub hl [2, 1, 0] rfl)
  exact loop 201 0 x y (by omega) (by omega) (Or.inl rfl) (by rw [Nat.zero_sub, Nat.pow_zero, Nat.mul_one]; exact Nat.le_trans (Nat.mul_le_mul hx1 hy1) (by decide)) rfl hx1 hy1 _ _ hP hD hS ls (lv_sub hl [2, 1, 0] rfl)
end
section
/-! 'throw new C("..")', whole; methods that change nothing that is there -/
def th_names : List String := ["java/lang/RuntimeException", "java/lang/Exception"]
theorem ls_keep {l : Launch} {s0 : State} {D : va_G} {cA sa : Nat → Nat} (Z : zE l s0 D cA sa) {s : State} {args : Array Value} {C n d : String} (hm : Cond.laysStatic C n d ∈ lw_tbl) (hg : gl s0 s) : (Cond.laysStatic C n d).before args s = true := by
  obtain ⟨a1, hl⟩ := Z.1 _ hm
  obtain ⟨c, k, i, f, a, cell, q1, q2, q3, q4, q5, q6, q7, q8, q9⟩ := Cond.laysStatic_spec hl
  obtain ⟨k', hi', he⟩ := State.fieldFound?_setVm hg.1.alike q2
  have q1' : s.vm.findClass C = some c := by rw [hg.1.alike.findClass]; exact q1
  have q4' : k'.statics = some a := by rw [he]; exact q4
  have q9' : k'.staticTypes[f.slot]? = some f.type := by rw [he]; exact q9
  have q5' : s.heap[a]? = some cell := by rw [hg.2.2 a (Array.getElem?_eq_some_iff.mp q5).1]; exact q5
  simp [Cond.before, Cond.holds, Cond.value, q1', show s.fieldFound? C n d = some (c, k', i, f) from hi', q4', q5', q3, q6, q7, q8, q9']
theorem st_ref {l : Launch} {s0 : State} {D : va_G} {cA sa : Nat → Nat} (Z : zE l s0 D cA sa) {s : State} {args : Array Value} {C n d : String} (i1 i2 : Nat) (h1 : tables_1[i1]? = some (.laysStatic C n d)) (h2 : tables_1[i2]? = some (.initialized C)) (h0 : (Cond.isRef (.static C n d)).before #[] s0 = true) (hg : gl s0 s) : (Cond.isRef (.static C n d)).before args s = true := by
  obtain ⟨a1, hl⟩ := Z.1 _ (tb_in i1 h1)
  obtain ⟨a2, hi⟩ := Z.1 _ (tb_in i2 h2)
  have hi' : (Cond.initialized C).before a1 s0 = true := va_tabs rfl rfl hi
  cases hv : (Term.static C n d).eval #[] s0 none [] s0 with
  | none => simp [Cond.before, Cond.holds, Cond.value, hv] at h0
  | some v =>
    obtain ⟨cf, kf, fi, f, a, cell, q1, q2, q3, q4, q5, q6, q7, q8⟩ := va_Z.moved hg.1.alike (va_Zof (args := a1) (A := fun q => s0.heap.size ≤ q) hl hi' (show (Term.static C n d).eval a1 s0 none [] s0 = some v from hv) (fun a h => Nat.not_le.mpr h))
    have q5' : s.heap[a]? = some cell := by rw [hg.2.2 a (Nat.not_le.mp q8)]; exact q5
    have hv' : (Term.static C n d).eval args s none [] s = some v := by simp [Term.eval, State.fieldNamed?, q1, q2, q4, q5', q6, q7]
    simp only [Cond.before, Cond.holds, Cond.value, hv] at h0
    simp only [Cond.before, Cond.holds, Cond.value, hv']
    exact h0
def ow_isref (w : Cond) : Bool := decide (w = .isRef (.static "java/lang/Throwable" "UNASSIGNED_STACK" "[Ljava/lang/StackTraceElement;")) || decide (w = .isRef (.static "java/lang/Throwable" "SUPPRESSED_SENTINEL" "Ljava/util/List;"))
def ow_lays (w : Cond) : Bool := decide (w = .laysStatic "java/lang/Throwable" "UNASSIGNED_STACK" "[Ljava/lang/StackTraceElement;") || decide (w = .laysStatic "java/lang/Throwable" "SUPPRESSED_SENTINEL" "Ljava/util/List;")
def ow_dk : Cond → Bool
  | .declares _ => true
  | .castable _ _ => true
  | _ => false
theorem kw_dk {s0 : State} (Z : zt s0) {w : Cond} (hm : w ∈ lw_tbl) (hd : ow_dk w = true) : kw s0 w := by
  intro U a hW
  obtain ⟨a0, h⟩ := Z w hm
  cases w with
  | declares x => exact va_tabs (u := s0.setVm U.vm) rfl rfl (Cond.before_warmed hW (.declares x) trivial h)
  | castable x y => exact va_tabs (u := s0.setVm U.vm) rfl rfl (Cond.before_warmed hW (.castable x y) trivial h)
  | _ => cases hd
theorem ow_all {l : Launch} {s0 : State} {D : va_G} {cA sa : Nat → Nat} (Z : zE l s0 D cA sa) {s : State} {args : Array Value} (hg : gl s0 s) {ic : Nat} {C : String} (h : (Bundle.ownAtoms "PanelForms" ic C th_names).all (fun w => ow_isref w || (ow_lays w || (decide (w ∈ lw_tbl) && (goodWord w || ow_dk w)))) = true) : ∀ w ∈ Bundle.ownAtoms "PanelForms" ic C th_names, w.before args s = true := by
  intro w hw
  have h1 := List.all_eq_true.mp h w hw
  rw [Bool.or_eq_true, Bool.or_eq_true, Bool.and_eq_true, Bool.or_eq_true, decide_eq_true_eq] at h1
  rcases h1 with h1 | h1 | ⟨h1, h2 | h2⟩
  · unfold ow_isref at h1
    rw [Bool.or_eq_true, decide_eq_true_eq, decide_eq_true_eq] at h1
    rcases h1 with rfl | rfl
    · exact st_ref Z 303 7 (by decide +kernel) (by decide +kernel) Z.2.2.2.2.1 hg
    · exact st_ref Z 305 7 (by decide +kernel) (by decide +kernel) Z.2.2.2.2.2 hg
  · unfold ow_lays at h1
    rw [Bool.or_eq_true, decide_eq_true_eq, decide_eq_true_eq] at h1
    rcases h1 with rfl | rfl
    · exact ls_keep Z (tb_in 303 (by decide +kernel)) hg
    · exact ls_keep Z (tb_in 305 (by decide +kernel)) hg
  · exact kw_g Z.1 h1 h2 s args hg.1
  · exact kw_dk Z.1 h1 h2 s args hg.1
set_option maxRecDepth 100000 in
theorem ow_73 {l : Launch} {s0 : State} {D : va_G} {cA sa : Nat → Nat} (Z : zE l s0 D cA sa) {s : State} {args : Array Value} (hg : gl s0 s) : ∀ w ∈ Bundle.ownAtoms "PanelForms" 73 "java/lang/IllegalArgumentException" th_names, w.before args s = true := ow_all Z hg (by decide +kernel)
set_option maxRecDepth 100000 in
theorem ow_132 {l : Launch} {s0 : State} {D : va_G} {cA sa : Nat → Nat} (Z : zE l s0 D cA sa) {s : State} {args : Array Value} (hg : gl s0 s) : ∀ w ∈ Bundle.ownAtoms "PanelForms" 132 "java/lang/IndexOutOfBoundsException" th_names, w.before args s = true := ow_all Z hg (by decide +kernel)
set_option maxRecDepth 100000 in
theorem ow_154 {l : Launch} {s0 : State} {D : va_G} {cA sa : Nat → Nat} (Z : zE l s0 D cA sa) {s : State} {args : Array Value} (hg : gl s0 s) : ∀ w ∈ Bundle.ownAtoms "PanelForms" 154 "java/lang/IllegalStateException" th_names, w.before args s = true := ow_all Z hg (by decide +kernel)
section WT
variable {p : Program} {l : Launch} {e : Env} {R : Room} {s : State} {m : MethodId} {args : Array Value} {below : List Frame} {meth : Method} {c : Code} {H : Heap} {locs : List Loc} {cells slots : Nat}
/-- new, dup, ldc, the constructor, athrow: the method is left with a new C; what was there is as it was -/
theorem w_throw {Qc : Array Value → State → Outcome → State → Prop} {cc : ByteArray} {pc nL : Nat} {ls : Array Slot} {st : List Value} {own C tx : String} {i1 i2 i3 xa : Nat} (hx : p.tables.exec = Jvm.exec) (hb : c.code = cc) (hml : c.maxLocals = nL) (hls : ls.size = nL) (hown : s.vm.findClass own = some m.cls) (hlk : meth.locks = false) (hem : c.exceptionTable.isEmpty = true) (htr : l.stackTraces = false) (hS : va_S (fun q => s.heap.size ≤ q) s.heap H locs)
    (k1 : (Cond.classLink own i1 C).before args s = true) (k2 : (Cond.instantiable C 6).before args s = true) (k3 : (Cond.initialized C).before args s = true) (hZ : vk_R own i2 tx xa s) (hat : ∀ w ∈ Bundle.ownAtoms own i3 C th_names, w.before args s = true) (hfit : Bundle.fit C = true)
    (d0 : decode cc pc = .ok (.new i1, 3)) (d3 : decode cc (pc + 3) = .ok (.dup, 1)) (d4 : decode cc (pc + 4) = .ok (.ldc i2, 2)) (d6 : decode cc (pc + 6) = .ok (.invokespecial i3, 3)) (d9 : decode cc (pc + 9) = .ok (.athrow, 1)) (hc : cells + 1 ≤ R.cells) (hs : slots + 6 ≤ R.slots) (hRf : 6 ≤ R.frames) (hRl : (st.map fun v => v.category).sum + 90 ≤ R.locals)
    (hq : ∀ (x : Nat) (t : State), s.WarmedH t.vm → th_X C x s.heap t → Qc args s (.threw x) t) : W p l e R s m args below meth c H locs cells slots (th_MQ below Qc args s (cells + 1) (slots + 6) (fun q => s.heap.size ≤ q)) (F0 m pc ls st) := by
  refine va_forget (fun q hq => hS.2.2 q hq) ?_
  refine W.newc hx hb hown k1 k2 k3 rfl d0 hc hs (fun cC kC hfc hkc _ _ => ?_)
  refine W.eq (g2 := F0 m (pc + 3) ls (.ref H.size :: st)) rfl ?_
  refine lv_dup hx hb d3 rfl ?_
  refine va_ldcS hx hb hown hZ d4 ?_
  refine th_throwS (names := th_names) (cX := cC) (kX := kC) hx hb (hml.trans hls.symm) htr hown hfit (by decide) hat hfc hkc ?_ hS.1 rfl hem hlk d6 d9 (by show 2 + 3 < R.frames; omega) ?_ (fun t hW hX => hq _ t hW hX)
  · rw [Array.getElem?_push_size]
  · show 1 + (st.map fun v => v.category).sum + (13 * (2 + 1) + 42) ≤ R.locals
    omega
end WT
section WM2
variable {l : Launch} {s0 : State} {D : va_G} {cA sa : Nat → Nat}
/-- a method that may throw and that changes nothing that is there -/
theorem wMetR (Z : zE l s0 D cA sa) {y : MethodName} {cc : ByteArray} {maxL : Nat} {ret : Option FieldType} {rm : Room} {av : List Value} {ws : va_W} {sz : Nat} {Qc : Array Value → State → Outcome → State → Prop} {mc ms : Nat} (hy : plainName y.cls = true) (hlen : (lg_sl av).length ≤ maxL)
    (body : ∀ p e s m below meth c, p.tables.exec = Jvm.exec → c.code = cc → meth.sig.returnType = ret → c.maxLocals = maxL → s.vm.findClass y.cls = some m.cls → meth.locks = false → c.exceptionTable.isEmpty = true → gl s0 s → va_K D ncl (ty0 cA) s → s.heap.size = sz →
      va_P D ncl ws s.heap → va_P D ncl [] s.heap → va_D (fun q => s.heap.size ≤ q) [] → (∀ q, s.heap.size ≤ q → s.heap.size ≤ q) → (∀ q, s.heap.size ≤ q → s0.heap.size ≤ q) → va_S (fun q => s.heap.size ≤ q) s.heap s.heap [] → ∀ ls, lv_has ls maxL (lv_args 0 av) →
      W p l e rm s m av.toArray below meth c s.heap [] 0 0 (th_MQ below Qc av.toArray s mc ms (fun q => s.heap.size ≤ q)) (F0 m 0 ls [])) :
    th_Met l y [.code y cc maxL ret] rm (wP s0 D av ws sz) Qc mc ms (fun q => sz ≤ q) := by
  refine th_Met.ofW (cc := cc) (maxL := maxL) (ret := ret) hy rfl ?_
  intro p e s m args below meth c s₁ B hml hem hv
  obtain ⟨rfl, hg, hsz, hP, hD0⟩ := hv
  have hl := lv_entry av hlen
  rw [lg_entry_eq]
  subst hsz
  exact body p e s m below meth c B.exec B.bytes B.returns hml (findClass_of_methodNamed B.named) B.notSynchronized hem hg (va_K.moved hg.1.alike Z.2.1) rfl hP (fun k q h => by simp at h) ⟨fun i j p q h => by simp at h, fun k q h => by simp at h⟩ (fun q h => h) (fun q h => Nat.le_trans hg.2.1 h) va_S.rf _ hl
end WM2
end
section
theorem ib_iff {b : Int32} {n : Nat} {hi : Int64} (hn : n ≤ 100000) (hh : hi.toInt = (n : Int) - 1) : (0 ≤ b.toInt64 ∧ b.toInt64 ≤ hi) ↔ ∃ k, k < n ∧ b = nI k := by
  rw [Int64.le_iff_toInt_le, Int64.le_iff_toInt_le, Int32.toInt_toInt64, hh, show (0 : Int64).toInt = 0 from rfl]
  constructor
  · intro ⟨h1, h2⟩
    obtain ⟨k, hk, rfl⟩ := nI_of (x := b) (fun z => by rw [Int32.lt_iff_toInt_lt, show (0 : Int32).toInt = 0 from rfl] at z; omega)
    rw [nI_toInt hk] at h2
    exact ⟨k, by omega, rfl⟩
  · intro ⟨k, hk, h⟩
    rw [h, nI_toInt (by omega)]
    omega
theorem nm1_toInt {n : Nat} (hn : n ≤ 100000) : ((nI n - 1).toInt64).toInt = (n : Int) - 1 := by
  rw [Int32.toInt_toInt64, show (1 : Int32) = nI 1 from rfl, pk_sub_toInt (by omega) (by decide)]
  rfl
set_option maxHeartbeats 4000000 in
set_option maxRecDepth 100000 in
theorem m_P_checkLength {l : Launch} {s0 : State} {D : va_G} {cA sa : Nat → Nat} (Z : zE l s0 D cA sa) (v : Int64) (sz : Nat) : th_Met l y_P_checkLength [.code y_P_checkLength c_P_checkLength 2 none] ({ frames := 8, cells := 1, slots := 6, locals := 200 }) (wP s0 D [.long v] (([] : va_W)) sz) (th_Qv (fun (_ : Unit) => 0 ≤ v ∧ v ≤ 65536) (fun _ _ => True) (fun q => sz ≤ q) (fun x H t => ¬ (0 ≤ v ∧ v ≤ 65536) ∧ th_X "java/lang/IllegalArgumentException" x H t)) 1 6 (fun q => sz ≤ q) := by
  refine wMetR Z (by decide) (Nat.le_of_ble_eq_true rfl) ?_
  intro p e s m below meth c hx hb hr hml hown hlk hem hg hK hsz hPw hP hD hA hlo hS ls hl
  subst hsz
  have hown : s.vm.findClass R_P = some m.cls := hown
  refine lv_lload_n hx hb d_P_checkLength_0 rfl (lv_at hl 0 rfl) ?_
  refine lv_lconst (v := 0) hx hb d_P_checkLength_1 (by decide) ?_
  refine lv_ldc2 (v := 65536) hx hb hown (kw24 Z.1 _ _ hg.1) d_P_checkLength_2 ?_
  refine w_calli (wr := ([] : va_W)) (w_runS (rest := []) hx hb hml hown hl.1 hg hlo hP hD hS (m_P_isWithin Z v 0 65536 s.heap.size) (kw273 Z.1) (kw274 Z.1) (kw275 Z.1) (kw1 Z.1) ⟨by decide, by decide, (by decide +kernel : (parseMethodDescriptor y_P_isWithin.desc).map (fun d => d.parameters.length) = some 3)⟩ ⟨Nat.le_of_ble_eq_true rfl, Nat.le_of_ble_eq_true rfl⟩ [] rfl rfl rfl (Nat.le_of_ble_eq_true rfl) d_P_checkLength_5 ⟨Nat.le_of_ble_eq_true rfl, Nat.le_of_ble_eq_true rfl⟩) hP hD hS hA [] [] rfl rfl rfl (by decide) (fun _ => ([] : va_W)) [] rfl (fun _ => rfl) (fun r1 u H locs hr1 hP hD hS => ?_)
  refine W.widen (k := 0) (n := 0) (Nat.le_of_ble_eq_true rfl) (Nat.le_of_ble_eq_true rfl) ?_
  subst hr1
  refine lv_if_ne (tgt := 21) hx hb d_P_checkLength_8 (by decide) (fun c1 => ?_) (fun c1 => ?_)
  · have hc : 0 ≤ v ∧ v ≤ 65536 := (Classical.byContradiction (fun z => c1 (if_neg z)))
    refine W.widen (k := 1) (n := 6) (Nat.le_of_ble_eq_true rfl) (Nat.le_of_ble_eq_true rfl) ?_
    exact th_mono th_ofMQ (W.vret hx hb hr (fun t ht hW => ⟨Or.inl ⟨(), rfl, hc, trivial⟩, hS.F ht⟩) hS.2.2 d_P_checkLength_21 hlk)
  · have hc : ¬ (0 ≤ v ∧ v ≤ 65536) := fun z => absurd c1 (by rw [if_pos (z)]; decide)
    refine W.widen (k := 0) (n := 0) (Nat.le_of_ble_eq_true rfl) (Nat.le_of_ble_eq_true rfl) ?_
    exact w_throw (C := "java/lang/IllegalArgumentException") hx hb hml hl.1 hown hlk hem Z.2.2.1 hS (kw347 Z.1 _ _ hg.1) (kw348 Z.1 _ _ hg.1) (kw11 Z.1 _ _ hg.1) (vk_R.warm hg.1 (Z.2.2.2.1 (215, "lengths and places are 0 to 65536") (by decide))) (ow_73 Z hg) (by decide) d_P_checkLength_11 d_P_checkLength_14 d_P_checkLength_15 d_P_checkLength_17 d_P_checkLength_20 (Nat.le_of_ble_eq_true rfl) (Nat.le_of_ble_eq_true rfl) (Nat.le_of_ble_eq_true rfl) (Nat.le_of_ble_eq_true rfl) (fun x t hW hX => ⟨Or.inr ⟨x, rfl, hc, hX⟩, hX.2.1, fun q h _ => hX.2.2.2 q h⟩)
set_option maxHeartbeats 4000000 in
set_option maxRecDepth 100000 in
theorem m_P_checkSide {l : Launch} {s0 : State} {D : va_G} {cA sa : Nat → Nat} (Z : zE l s0 D cA sa) (v : Int32) (sz : Nat) : th_Met l y_P_checkSide [.code y_P_checkSide c_P_checkSide 1 none] ({ frames := 8, cells := 1, slots := 6, locals := 200 }) (wP s0 D [.int v] (([] : va_W)) sz) (th_Qv (fun (_ : Unit) => ∃ k, k < 4 ∧ v = nI k) (fun _ _ => True) (fun q => sz ≤ q) (fun x H t => ¬ (∃ k, k < 4 ∧ v = nI k) ∧ th_X "java/lang/IndexOutOfBoundsException" x H t)) 1 6 (fun q => sz ≤ q) := by
  refine wMetR Z (by decide) (Nat.le_of_ble_eq_true rfl) ?_
  intro p e s m below meth c hx hb hr hml hown hlk hem hg hK hsz hPw hP hD hA hlo hS ls hl
  subst hsz
  have hown : s.vm.findClass R_P = some m.cls := hown
  refine lv_iload_n hx hb d_P_checkSide_0 rfl (lv_at hl 0 rfl) ?_
  refine lv_i2l hx hb d_P_checkSide_1 rfl ?_
  refine lv_lconst (v := 0) hx hb d_P_checkSide_2 (by decide) ?_
  refine lv_ldc2 (v := 3) hx hb hown (kw482 Z.1 _ _ hg.1) d_P_checkSide_3 ?_
  refine w_calli (wr := ([] : va_W)) (w_runS (rest := []) hx hb hml hown hl.1 hg hlo hP hD hS (m_P_isWithin Z v.toInt64 0 3 s.heap.size) (kw273 Z.1) (kw274 Z.1) (kw275 Z.1) (kw1 Z.1) ⟨by decide, by decide, (by decide +kernel : (parseMethodDescriptor y_P_isWithin.desc).map (fun d => d.parameters.length) = some 3)⟩ ⟨Nat.le_of_ble_eq_true rfl, Nat.le_of_ble_eq_true rfl⟩ [] rfl rfl rfl (Nat.le_of_ble_eq_true rfl) d_P_checkSide_6 ⟨Nat.le_of_ble_eq_true rfl, Nat.le_of_ble_eq_true rfl⟩) hP hD hS hA [] [] rfl rfl rfl (by decide) (fun _ => ([] : va_W)) [] rfl (fun _ => rfl) (fun r1 u H locs hr1 hP hD hS => ?_)
  refine W.widen (k := 0) (n := 0) (Nat.le_of_ble_eq_true rfl) (Nat.le_of_ble_eq_true rfl) ?_
  subst hr1
  refine lv_if_ne (tgt := 22) hx hb d_P_checkSide_9 (by decide) (fun c1 => ?_) (fun c1 => ?_)
  · have hc : ∃ k, k < 4 ∧ v = nI k := (ib_iff (n := 4) (hi := 3) (by decide) rfl).mp (Classical.byContradiction (fun z => c1 (if_neg z)))
    refine W.widen (k := 1) (n := 6) (Nat.le_of_ble_eq_true rfl) (Nat.le_of_ble_eq_true rfl) ?_
    exact th_mono th_ofMQ (W.vret hx hb hr (fun t ht hW => ⟨Or.inl ⟨(), rfl, hc, trivial⟩, hS.F ht⟩) hS.2.2 d_P_checkSide_22 hlk)
  · have hc : ¬ (∃ k, k < 4 ∧ v = nI k) := fun z => absurd c1 (by rw [if_pos ((ib_iff (n := 4) (by decide) rfl).mpr z)]; decide)
    refine W.widen (k := 0) (n := 0) (Nat.le_of_ble_eq_true rfl) (Nat.le_of_ble_eq_true rfl) ?_
    exact w_throw (C := "java/lang/IndexOutOfBoundsException") hx hb hml hl.1 hown hlk hem Z.2.2.1 hS (kw276 Z.1 _ _ hg.1) (kw277 Z.1 _ _ hg.1) (kw10 Z.1 _ _ hg.1) (vk_R.warm hg.1 (Z.2.2.2.1 (219, "no such side") (by decide))) (ow_132 Z hg) (by decide) d_P_checkSide_12 d_P_checkSide_15 d_P_checkSide_16 d_P_checkSide_18 d_P_checkSide_21 (Nat.le_of_ble_eq_true rfl) (Nat.le_of_ble_eq_true rfl) (Nat.le_of_ble_eq_true rfl) (Nat.le_of_ble_eq_true rfl) (fun x t hW hX => ⟨Or.inr ⟨x, rfl, hc, hX⟩, hX.2.1, fun q h _ => hX.2.2.2 q h⟩)
set_option maxHeartbeats 4000000 in
set_option maxRecDepth 100000 in
theorem m_P_checkOneOfTwo {l : Launch} {s0 : State} {D : va_G} {cA sa : Nat → Nat} (Z : zE l s0 D cA sa) (v : Int32) (sz : Nat) : th_Met l y_P_checkOneOfTwo [.code y_P_checkOneOfTwo c_P_checkOneOfTwo 1 none] ({ frames := 8, cells := 1, slots := 6, locals := 200 }) (wP s0 D [.int v] (([] : va_W)) sz) (th_Qv (fun (_ : Unit) => ∃ k, k < 2 ∧ v = nI k) (fun _ _ => True) (fun q => sz ≤ q) (fun x H t => ¬ (∃ k, k < 2 ∧ v = nI k) ∧ th_X "java/lang/IndexOutOfBoundsException" x H t)) 1 6 (fun q => sz ≤ q) := by
  refine wMetR Z (by decide) (Nat.le_of_ble_eq_true rfl) ?_
  intro p e s m below meth c hx hb hr hml hown hlk hem hg hK hsz hPw hP hD hA hlo hS ls hl
  subst hsz
  have hown : s.vm.findClass R_P = some m.cls := hown
  refine lv_iload_n hx hb d_P_checkOneOfTwo_0 rfl (lv_at hl 0 rfl) ?_
  refine lv_i2l hx hb d_P_checkOneOfTwo_1 rfl ?_
  refine lv_lconst (v := 0) hx hb d_P_checkOneOfTwo_2 (by decide) ?_
  refine lv_lconst (v := 1) hx hb d_P_checkOneOfTwo_3 (by decide) ?_
  refine w_calli (wr := ([] : va_W)) (w_runS (rest := []) hx hb hml hown hl.1 hg hlo hP hD hS (m_P_isWithin Z v.toInt64 0 1 s.heap.size) (kw273 Z.1) (kw274 Z.1) (kw275 Z.1) (kw1 Z.1) ⟨by decide, by decide, (by decide +kernel : (parseMethodDescriptor y_P_isWithin.desc).map (fun d => d.parameters.length) = some 3)⟩ ⟨Nat.le_of_ble_eq_true rfl, Nat.le_of_ble_eq_true rfl⟩ [] rfl rfl rfl (Nat.le_of_ble_eq_true rfl) d_P_checkOneOfTwo_4 ⟨Nat.le_of_ble_eq_true rfl, Nat.le_of_ble_eq_true rfl⟩) hP hD hS hA [] [] rfl rfl rfl (by decide) (fun _ => ([] : va_W)) [] rfl (fun _ => rfl) (fun r1 u H locs hr1 hP hD hS => ?_)
  refine W.widen (k := 0) (n := 0) (Nat.le_of_ble_eq_true rfl) (Nat.le_of_ble_eq_true rfl) ?_
  subst hr1
  refine lv_if_ne (tgt := 20) hx hb d_P_checkOneOfTwo_7 (by decide) (fun c1 => ?_) (fun c1 => ?_)
  · have hc : ∃ k, k < 2 ∧ v = nI k := (ib_iff (n := 2) (hi := 1) (by decide) rfl).mp (Classical.byContradiction (fun z => c1 (if_neg z)))
    refine W.widen (k := 1) (n := 6) (Nat.le_of_ble_eq_true rfl) (Nat.le_of_ble_eq_true rfl) ?_
    exact th_mono th_ofMQ (W.vret hx hb hr (fun t ht hW => ⟨Or.inl ⟨(), rfl, hc, trivial⟩, hS.F ht⟩) hS.2.2 d_P_checkOneOfTwo_20 hlk)
  · have hc : ¬ (∃ k, k < 2 ∧ v = nI k) := fun z => absurd c1 (by rw [if_pos ((ib_iff (n := 2) (by decide) rfl).mpr z)]; decide)
    refine W.widen (k := 0) (n := 0) (Nat.le_of_ble_eq_true rfl) (Nat.le_of_ble_eq_true rfl) ?_
    exact w_throw (C := "java/lang/IndexOutOfBoundsException") hx hb hml hl.1 hown hlk hem Z.2.2.1 hS (kw276 Z.1 _ _ hg.1) (kw277 Z.1 _ _ hg.1) (kw10 Z.1 _ _ hg.1) (vk_R.warm hg.1 (Z.2.2.2.1 (221, "only 0 and 1 are told") (by decide))) (ow_132 Z hg) (by decide) d_P_checkOneOfTwo_10 d_P_checkOneOfTwo_13 d_P_checkOneOfTwo_14 d_P_checkOneOfTwo_16 d_P_checkOneOfTwo_19 (Nat.le_of_ble_eq_true rfl) (Nat.le_of_ble_eq_true rfl) (Nat.le_of_ble_eq_true rfl) (Nat.le_of_ble_eq_true rfl) (fun x t hW hX => ⟨Or.inr ⟨x, rfl, hc, hX⟩, hX.2.1, fun q h _ => hX.2.2.2 q h⟩)
set_option maxHeartbeats 4000000 in
set_option maxRecDepth 100000 in
theorem m_P_checkBoard {l : Launch} {s0 : State} {D : va_G} {cA sa : Nat → Nat} (Z : zE l s0 D cA sa) (a : Nat → Nat) (ii : Nat → Int32) (li : Nat → Int64) (ia : Nat → Nat → Int32) (la : Nat → Nat → Int64) (bd : Nat → Nat) (v : Int32) (n : Nat) (hn : ii 6 = nI n) (hn2 : n ≤ 100000) (sz : Nat) : th_Met l y_P_checkBoard [.code y_P_checkBoard c_P_checkBoard 2 none] ({ frames := 8, cells := 1, slots := 6, locals := 200 }) (wP s0 D [.ref (a 0), .int v] (w_P a cA ii li ia la bd) sz) (th_Qv (fun (_ : Unit) => ∃ k, k < n ∧ v = nI k) (fun _ _ => True) (fun q => sz ≤ q) (fun x H t => ¬ (∃ k, k < n ∧ v = nI k) ∧ th_X "java/lang/IndexOutOfBoundsException" x H t)) 1 6 (fun q => sz ≤ q) := by
  refine wMetR Z (by decide) (Nat.le_of_ble_eq_true rfl) ?_
  intro p e s m below meth c hx hb hr hml hown hlk hem hg hK hsz hPw hP hD hA hlo hS ls hl
  subst hsz
  have hown : s.vm.findClass R_P = some m.cls := hown
  refine lv_iload_n hx hb d_P_checkBoard_0 rfl (lv_at hl 1 rfl) ?_
  refine lv_i2l hx hb d_P_checkBoard_1 rfl ?_
  refine lv_lconst (v := 0) hx hb d_P_checkBoard_2 (by decide) ?_
  refine lv_aload_n hx hb d_P_checkBoard_3 rfl (lv_at hl 0 rfl) ?_
  refine va_get (D := D) (ci := 0) (v := .int (ii 6)) (C := R_P) (T := T_P) (N := 10) hx hb (uw_P Z.1 hg.1) (fun _ h => h) hown hK hPw 0 rfl rfl 6 (by decide) (kw204 Z.1 _ _ hg.1) (fun _ h9 => h9) rfl d_P_checkBoard_4 ?_
  refine lv_iconst (v := 1) hx hb d_P_checkBoard_7 (by decide) ?_
  rw [hn]
  refine lv_isub hx hb d_P_checkBoard_8 ?_
  refine lv_i2l hx hb d_P_checkBoard_9 rfl ?_
  refine w_calli (wr := ([] : va_W)) (w_runS (rest := []) hx hb hml hown hl.1 hg hlo hP hD hS (m_P_isWithin Z v.toInt64 0 (nI n - 1).toInt64 s.heap.size) (kw273 Z.1) (kw274 Z.1) (kw275 Z.1) (kw1 Z.1) ⟨by decide, by decide, (by decide +kernel : (parseMethodDescriptor y_P_isWithin.desc).map (fun d => d.parameters.length) = some 3)⟩ ⟨Nat.le_of_ble_eq_true rfl, Nat.le_of_ble_eq_true rfl⟩ [] rfl rfl rfl (Nat.le_of_ble_eq_true rfl) d_P_checkBoard_10 ⟨Nat.le_of_ble_eq_true rfl, Nat.le_of_ble_eq_true rfl⟩) hP hD hS hA [] [] rfl rfl rfl (by decide) (fun _ => ([] : va_W)) [] rfl (fun _ => rfl) (fun r1 u H locs hr1 hP hD hS => ?_)
  refine W.widen (k := 0) (n := 0) (Nat.le_of_ble_eq_true rfl) (Nat.le_of_ble_eq_true rfl) ?_
  subst hr1
  refine lv_if_ne (tgt := 26) hx hb d_P_checkBoard_13 (by decide) (fun c1 => ?_) (fun c1 => ?_)
  · have hc : ∃ k, k < n ∧ v = nI k := (ib_iff hn2 (nm1_toInt hn2)).mp (Classical.byContradiction (fun z => c1 (if_neg z)))
    refine W.widen (k := 1) (n := 6) (Nat.le_of_ble_eq_true rfl) (Nat.le_of_ble_eq_true rfl) ?_
    exact th_mono th_ofMQ (W.vret hx hb hr (fun t ht hW => ⟨Or.inl ⟨(), rfl, hc, trivial⟩, hS.F ht⟩) hS.2.2 d_P_checkBoard_26 hlk)
  · have hc : ¬ (∃ k, k < n ∧ v = nI k) := fun z => absurd c1 (by rw [if_pos ((ib_iff hn2 (nm1_toInt hn2)).mpr z)]; decide)
    refine W.widen (k := 0) (n := 0) (Nat.le_of_ble_eq_true rfl) (Nat.le_of_ble_eq_true rfl) ?_
    exact w_throw (C := "java/lang/IndexOutOfBoundsException") hx hb hml hl.1 hown hlk hem Z.2.2.1 hS (kw276 Z.1 _ _ hg.1) (kw277 Z.1 _ _ hg.1) (kw10 Z.1 _ _ hg.1) (vk_R.warm hg.1 (Z.2.2.2.1 (223, "no such board") (by decide))) (ow_132 Z hg) (by decide) d_P_checkBoard_16 d_P_checkBoard_19 d_P_checkBoard_20 d_P_checkBoard_22 d_P_checkBoard_25 (Nat.le_of_ble_eq_true rfl) (Nat.le_of_ble_eq_true rfl) (Nat.le_of_ble_eq_true rfl) (Nat.le_of_ble_eq_true rfl) (fun x t hW hX => ⟨Or.inr ⟨x, rfl, hc, hX⟩, hX.2.1, fun q h _ => hX.2.2.2 q h⟩)
set_option maxHeartbeats 4000000 in
set_option maxRecDepth 100000 in
theorem m_P_checkCopy {l : Launch} {s0 : State} {D : va_G} {cA sa : Nat → Nat} (Z : zE l s0 D cA sa) (a : Nat → Nat) (ii : Nat → Int32) (li : Nat → Int64) (ia : Nat → Nat → Int32) (la : Nat → Nat → Int64) (bd : Nat → Nat) (a2 : Nat → Nat) (ii2 : Nat → Int32) (li2 : Nat → Int64) (ia2 : Nat → Nat → Int32) (la2 : Nat → Nat → Int64) (ha2 : a2 0 = a 6) (v : Int32) (n : Nat) (hn : ii2 12 = nI n) (hn2 : n ≤ 100000) (sz : Nat) : th_Met l y_P_checkCopy [.code y_P_checkCopy c_P_checkCopy 2 none] ({ frames := 8, cells := 1, slots := 6, locals := 200 }) (wP s0 D [.ref (a 0), .int v] ((w_P a cA ii li ia la bd) ++ (w_Y a2 cA ii2 li2 ia2 la2)) sz) (th_Qv (fun (_ : Unit) => ∃ k, k < n ∧ v = nI k) (fun _ _ => True) (fun q => sz ≤ q) (fun x H t => ¬ (∃ k, k < n ∧ v = nI k) ∧ th_X "java/lang/IndexOutOfBoundsException" x H t)) 1 6 (fun q => sz ≤ q) := by
  refine wMetR Z (by decide) (Nat.le_of_ble_eq_true rfl) ?_
  intro p e s m below meth c hx hb hr hml hown hlk hem hg hK hsz hPw hP hD hA hlo hS ls hl
  subst hsz
  have hown : s.vm.findClass R_P = some m.cls := hown
  refine lv_iload_n hx hb d_P_checkCopy_0 rfl (lv_at hl 1 rfl) ?_
  refine lv_i2l hx hb d_P_checkCopy_1 rfl ?_
  refine lv_lconst (v := 0) hx hb d_P_checkCopy_2 (by decide) ?_
  refine lv_aload_n hx hb d_P_checkCopy_3 rfl (lv_at hl 0 rfl) ?_
  refine va_get (D := D) (ci := 0) (v := .ref (a 6)) (C := R_P) (T := T_P) (N := 10) hx hb (uw_P Z.1 hg.1) (fun _ h => h) hown hK hPw 0 rfl rfl 5 (by decide) (kw203 Z.1 _ _ hg.1) (fun _ h9 => h9) rfl d_P_checkCopy_4 ?_
  rw [← ha2]
  refine va_getN (D := D) (ci := 3) (v := .int (ii2 12)) (C := R_Y) (T := T_Y) (N := 17) hx hb (uw_Y Z.1 hg.1) (fun _ h => h) hown hK hPw 3 rfl rfl 12 (by decide) (kw156 Z.1 _ _ hg.1) (fun _ h9 => h9) rfl d_P_checkCopy_7 ?_
  refine lv_iconst (v := 1) hx hb d_P_checkCopy_10 (by decide) ?_
  rw [hn]
  refine lv_isub hx hb d_P_checkCopy_11 ?_
  refine lv_i2l hx hb d_P_checkCopy_12 rfl ?_
  refine w_calli (wr := ([] : va_W)) (w_runS (rest := []) hx hb hml hown hl.1 hg hlo hP hD hS (m_P_isWithin Z v.toInt64 0 (nI n - 1).toInt64 s.heap.size) (kw273 Z.1) (kw274 Z.1) (kw275 Z.1) (kw1 Z.1) ⟨by decide, by decide, (by decide +kernel : (parseMethodDescriptor y_P_isWithin.desc).map (fun d => d.parameters.length) = some 3)⟩ ⟨Nat.le_of_ble_eq_true rfl, Nat.le_of_ble_eq_true rfl⟩ [] rfl rfl rfl (Nat.le_of_ble_eq_true rfl) d_P_checkCopy_13 ⟨Nat.le_of_ble_eq_true rfl, Nat.le_of_ble_eq_true rfl⟩) hP hD hS hA [] [] rfl rfl rfl (by decide) (fun _ => ([] : va_W)) [] rfl (fun _ => rfl) (fun r1 u H locs hr1 hP hD hS => ?_)
  refine W.widen (k := 0) (n := 0) (Nat.le_of_ble_eq_true rfl) (Nat.le_of_ble_eq_true rfl) ?_
  subst hr1
  refine lv_if_ne (tgt := 29) hx hb d_P_checkCopy_16 (by decide) (fun c1 => ?_) (fun c1 => ?_)
  · have hc : ∃ k, k < n ∧ v = nI k := (ib_iff hn2 (nm1_toInt hn2)).mp (Classical.byContradiction (fun z => c1 (if_neg z)))
    refine W.widen (k := 1) (n := 6) (Nat.le_of_ble_eq_true rfl) (Nat.le_of_ble_eq_true rfl) ?_
    exact th_mono th_ofMQ (W.vret hx hb hr (fun t ht hW => ⟨Or.inl ⟨(), rfl, hc, trivial⟩, hS.F ht⟩) hS.2.2 d_P_checkCopy_29 hlk)
  · have hc : ¬ (∃ k, k < n ∧ v = nI k) := fun z => absurd c1 (by rw [if_pos ((ib_iff hn2 (nm1_toInt hn2)).mpr z)]; decide)
    refine W.widen (k := 0) (n := 0) (Nat.le_of_ble_eq_true rfl) (Nat.le_of_ble_eq_true rfl) ?_
    exact w_throw (C := "java/lang/IndexOutOfBoundsException") hx hb hml hl.1 hown hlk hem Z.2.2.1 hS (kw276 Z.1 _ _ hg.1) (kw277 Z.1 _ _ hg.1) (kw10 Z.1 _ _ hg.1) (vk_R.warm hg.1 (Z.2.2.2.1 (225, "no such copy") (by decide))) (ow_132 Z hg) (by decide) d_P_checkCopy_19 d_P_checkCopy_22 d_P_checkCopy_23 d_P_checkCopy_25 d_P_checkCopy_28 (Nat.le_of_ble_eq_true rfl) (Nat.le_of_ble_eq_true rfl) (Nat.le_of_ble_eq_true rfl) (Nat.le_of_ble_eq_true rfl) (fun x t hW hX => ⟨Or.inr ⟨x, rfl, hc, hX⟩, hX.2.1, fun q h _ => hX.2.2.2 q h⟩)
end
section
/-! the quiet beginning of a method: calls that change nothing that is there -/
theorem qS {A : Nat → Prop} {n : Nat} {H0 H : Heap} {locs : List Loc} (h : va_S (fun q => n ≤ q) H0 H locs) (hA : ∀ q, n ≤ q → A q) : va_S A H0 H locs := ⟨h.1, fun q h1 h2 => h.2.1 q h1 (fun z => h2 (hA q z)), fun q hq => hA _ (h.2.2 q hq)⟩
theorem th_up {C : String} {x : Nat} {H : Heap} {s t t' : State} {locs : List Loc} (hX : th_X C x H t) (hS : va_S (fun q => s.heap.size ≤ q) s.heap H locs) (ht : t'.heap = t.heap) (a1 : s.vm.Alike t.vm) (a2 : s.WarmedH t'.vm) : th_X C x s.heap t' := by
  obtain ⟨h1, h2, ⟨cell, h3, h4, h5⟩, h6⟩ := hX
  refine ⟨Nat.le_trans hS.1 h1, by rw [ht]; exact Nat.le_trans hS.1 h2, ⟨cell, by rw [ht]; exact h3, h4, ?_⟩, fun q hq => ?_⟩
  · rw [a2.alike.findClass, ← a1.findClass]; exact h5
  · rw [ht, h6 q (Nat.lt_of_lt_of_le hq hS.1)]; exact hS.2.1 q hq (Nat.not_le.mpr hq)
section WQ
variable {p : Program} {l : Launch} {e : Env} {R : Room} {s : State} {m : MethodId} {args : Array Value} {below : List Frame} {meth : Method} {c : Code} {H : Heap} {locs : List Loc} {cells slots : Nat} {Q : State → Prop}
variable {D : va_G} {ws : va_W} {pc : Nat} {ls : Array Slot} {rest st0 : List Value} {a : Array Value} {mc ms : Nat} {Th : Nat → Heap → State → Prop} {cond : Prop}
theorem kp_P {H1 : Heap} (hP : va_P D ncl ws H) (hk : ∀ q : Nat, q < H.size → H1[q]? = H[q]?) : va_P D ncl ws H1 := hP.kept (fun k q h => hk _ (va_at.lt (hP k q h)))
theorem w_check (hr : th_Run p l e R s m args below meth c H locs cells slots mc ms (F0 m pc ls st0) rest (th_Qv (fun (_ : Unit) => cond) (fun _ _ => True) (fun q => H.size ≤ q) Th a) (fun q => H.size ≤ q)) (hP : va_P D ncl ws H) (hS0 : va_S (fun q => s.heap.size ≤ q) s.heap H locs)
    (kk : ∀ (H1 : Heap) (locs1 : List Loc), cond → va_P D ncl ws H1 → va_S (fun q => s.heap.size ≤ q) s.heap H1 locs1 → W p l e R s m args below meth c H1 locs1 (cells + mc) (slots + ms) Q (F0 m (pc + 3) ls rest))
    (kt : ∀ (x : Nat) (t : State) (locs1 : List Loc), s.vm.Alike t.vm → Th x H t → va_S (fun q => s.heap.size ≤ q) s.heap t.heap locs1 → th_W p l e R s m args below meth c t.heap locs1 (cells + mc) (slots + ms) Q (F0 m pc ls rest) x) : W p l e R s m args below meth c H locs cells slots Q (F0 m pc ls st0) := by
  refine th_callv hr hS0 (fun q _ h => Nat.le_trans hS0.1 h) (fun q h => Nat.le_trans hS0.1 h) (fun u t H1 locs1 ht hvm hp _ hz hk hS1 => ?_) kt
  exact kk H1 locs1 hp (kp_P hP (fun q hq => hk q hq (Nat.not_le.mpr hq))) hS1
theorem w_purei {S : Type} {post : Int32 → S → Prop} {wf : S → va_W} (hr : va_Run p l e R s m args below meth c H locs cells slots mc ms (F0 m pc ls st0) rest (va_Qi post (wB D (va_A ([] : va_W) H.size) wf) (va_A ([] : va_W) H.size) a) (va_A ([] : va_W) H.size)) (hP : va_P D ncl ws H) (hS0 : va_S (fun q => s.heap.size ≤ q) s.heap H locs)
    (kk : ∀ (r : Int32) (u : S) (H1 : Heap) (locs1 : List Loc), post r u → va_P D ncl ws H1 → va_S (fun q => s.heap.size ≤ q) s.heap H1 locs1 → W p l e R s m args below meth c H1 locs1 (cells + mc) (slots + ms) Q (F0 m (pc + 3) ls (.int r :: rest))) : W p l e R s m args below meth c H locs cells slots Q (F0 m pc ls st0) := by
  have hn : ∀ q, va_A ([] : va_W) H.size q → H.size ≤ q := fun q h => by
    rcases h with ⟨k, e, h⟩ | h
    · simp at h
    · exact h
  refine va_calli hr hS0 (fun q _ h => Nat.le_trans hS0.1 (hn q h)) (fun q h => Nat.le_trans hS0.1 (hn q h)) (fun r u t H1 locs1 ht hvm hp _ hz hk hS1 => ?_)
  exact kk r u H1 locs1 hp (kp_P hP (fun q hq => hk q hq (fun z => absurd (hn q z) (Nat.not_le.mpr hq)))) hS1
end WQ
section WR2
variable {p : Program} {l : Launch} {e : Env} {R : Room} {s : State} {m : MethodId} {args : Array Value} {below : List Frame} {meth : Method} {c : Code} {H : Heap} {locs : List Loc} {cells slots : Nat} {Q : State → Prop}
variable {D : va_G} {A : Nat → Prop} {ws' : va_W} {S : Type} {wf : S → va_W} {cc : ByteArray} {pc : Nat} {ls : Array Slot} {Th : Nat → Heap → State → Prop}
theorem wt_zret {post : Int32 → S → Prop} {v : Int32} (hx : p.tables.exec = Jvm.exec) (hb : c.code = cc) (hr : meth.sig.returnType = some .boolean) (hn : narrow .boolean (.int v) = .int v) (hlk : meth.locks = false) (hP : va_P D ncl ws' H) (hD : va_D A ws') (hS : va_S A s.heap H locs) (u : S) (hw : wf u = ws') (hp : post v u) (hdg : decode cc pc = .ok (.ireturn, 1)) :
    W p l e R s m args below meth c H locs cells slots (th_MQ below (th_Qi post (wB D A wf) A Th) args s cells slots A) (F0 m pc ls [.int v]) :=
  th_mono th_ofMQ (W.zret hx hb hr hn (fun t ht hW => ⟨Or.inl ⟨v, u, rfl, hp, by rw [ht, hw]; exact hP, by rw [hw]; exact hD⟩, hS.F ht⟩) hS.2.2 hdg hlk)
theorem wt_iret {post : Int32 → S → Prop} {v : Int32} (hx : p.tables.exec = Jvm.exec) (hb : c.code = cc) (hr : meth.sig.returnType = some .int) (hlk : meth.locks = false) (hP : va_P D ncl ws' H) (hD : va_D A ws') (hS : va_S A s.heap H locs) (u : S) (hw : wf u = ws') (hp : post v u) (hdg : decode cc pc = .ok (.ireturn, 1)) :
    W p l e R s m args below meth c H locs cells slots (th_MQ below (th_Qi post (wB D A wf) A Th) args s cells slots A) (F0 m pc ls [.int v]) :=
  th_mono th_ofMQ (W.iret hx hb hr (fun t ht hW => ⟨Or.inl ⟨v, u, rfl, hp, by rw [ht, hw]; exact hP, by rw [hw]; exact hD⟩, hS.F ht⟩) hS.2.2 hdg hlk)
theorem wt_lret {post : Int64 → S → Prop} {v : Int64} (hx : p.tables.exec = Jvm.exec) (hb : c.code = cc) (hr : meth.sig.returnType = some .long) (hlk : meth.locks = false) (hP : va_P D ncl ws' H) (hD : va_D A ws') (hS : va_S A s.heap H locs) (u : S) (hw : wf u = ws') (hp : post v u) (hdg : decode cc pc = .ok (.lreturn, 1)) :
    W p l e R s m args below meth c H locs cells slots (th_MQ below (th_Ql post (wB D A wf) A Th) args s cells slots A) (F0 m pc ls [.long v]) :=
  th_mono th_ofMQ (W.lret hx hb hr (fun t ht hW => ⟨Or.inl ⟨v, u, rfl, hp, by rw [ht, hw]; exact hP, by rw [hw]; exact hD⟩, hS.F ht⟩) hS.2.2 hdg hlk)
/-- a callee's throw goes on through this method -/
theorem wt_pass {Qc : Array Value → State → Outcome → State → Prop} {x : Nat} {t : State} {st : List Value} (hem : c.exceptionTable.isEmpty = true) (hlk : meth.locks = false) (hA : ∀ q, s.heap.size ≤ q → A q) (hS : va_S (fun q => s.heap.size ≤ q) s.heap t.heap locs) (hq : ∀ t' : State, t'.heap = t.heap → s.WarmedH t'.vm → Qc args s (.threw x) t') :
    th_W p l e R s m args below meth c t.heap locs cells slots (th_MQ below Qc args s cells slots A) (F0 m pc ls st) x :=
  th_leave hem hlk hq (fun q h => hA _ (hS.2.2 q h))
theorem xF {C : String} {x : Nat} {t : State} {A : Nat → Prop} (h : th_X C x s.heap t) : va_F A s t := ⟨h.2.1, fun q hq _ => h.2.2.2 q hq⟩
end WR2
end
section
theorem th_wid {p : Program} {l : Launch} {e : Env} {R : Room} {s : State} {m : MethodId} {args : Array Value} {below : List Frame} {meth : Method} {c : Code} {H : Heap} {locs : List Loc} {cells slots k n x : Nat} {Q : State → Prop} {g : JFrame} (h1 : cells ≤ k) (h2 : slots ≤ n) (kk : th_W p l e R s m args below meth c H locs k n Q g x) : th_W p l e R s m args below meth c H locs cells slots Q g x := fun T hT X => kk T hT (stand_widen X h1 h2)
theorem w_throwF {p : Program} {l : Launch} {e : Env} {R : Room} {s : State} {m : MethodId} {args : Array Value} {below : List Frame} {meth : Method} {c : Code} {H : Heap} {locs : List Loc} {cells slots : Nat} {free : Addr → Prop} {Qc : Array Value → State → Outcome → State → Prop} {cc : ByteArray} {pc nL : Nat} {ls : Array Slot} {st : List Value} {own C tx : String} {i1 i2 i3 xa : Nat} (hx : p.tables.exec = Jvm.exec) (hb : c.code = cc) (hml : c.maxLocals = nL) (hls : ls.size = nL) (hown : s.vm.findClass own = some m.cls) (hlk : meth.locks = false) (hem : c.exceptionTable.isEmpty = true) (htr : l.stackTraces = false) (hS : va_S (fun q => s.heap.size ≤ q) s.heap H locs)
    (k1 : (Cond.classLink own i1 C).before args s = true) (k2 : (Cond.instantiable C 6).before args s = true) (k3 : (Cond.initialized C).before args s = true) (hZ : vk_R own i2 tx xa s) (hat : ∀ w ∈ Bundle.ownAtoms own i3 C th_names, w.before args s = true) (hfit : Bundle.fit C = true)
    (d0 : decode cc pc = .ok (.new i1, 3)) (d3 : decode cc (pc + 3) = .ok (.dup, 1)) (d4 : decode cc (pc + 4) = .ok (.ldc i2, 2)) (d6 : decode cc (pc + 6) = .ok (.invokespecial i3, 3)) (d9 : decode cc (pc + 9) = .ok (.athrow, 1)) (hc : cells + 1 ≤ R.cells) (hs : slots + 6 ≤ R.slots) (hRf : 6 ≤ R.frames) (hRl : (st.map fun v => v.category).sum + 90 ≤ R.locals)
    (hq : ∀ (x : Nat) (t : State), s.WarmedH t.vm → th_X C x s.heap t → Qc args s (.threw x) t) : W p l e R s m args below meth c H locs cells slots (th_MQ below Qc args s (cells + 1) (slots + 6) free) (F0 m pc ls st) := by
  refine va_forget (fun q hq => hS.2.2 q hq) ?_
  refine W.newc hx hb hown k1 k2 k3 rfl d0 hc hs (fun cC kC hfc hkc _ _ => ?_)
  refine W.eq (g2 := F0 m (pc + 3) ls (.ref H.size :: st)) rfl ?_
  refine lv_dup hx hb d3 rfl ?_
  refine va_ldcS hx hb hown hZ d4 ?_
  refine th_throwS (names := th_names) (cX := cC) (kX := kC) hx hb (hml.trans hls.symm) htr hown hfit (by decide) hat hfc hkc ?_ hS.1 rfl hem hlk d6 d9 (by show 2 + 3 < R.frames; omega) ?_ (fun t hW hX => hq _ t hW hX)
  · rw [Array.getElem?_push_size]
  · show 1 + (st.map fun v => v.category).sum + (13 * (2 + 1) + 42) ≤ R.locals
    omega
set_option maxHeartbeats 4000000 in
set_option maxRecDepth 100000 in
theorem m_P_board {l : Launch} {s0 : State} {D : va_G} {cA sa : Nat → Nat} (Z : zE l s0 D cA sa) (a : Nat → Nat) (ii : Nat → Int32) (li : Nat → Int64) (ia : Nat → Nat → Int32) (la : Nat → Nat → Int64) (bd : Nat → Nat) (n : Nat) (hn : ii 6 = nI n) (hn2 : n ≤ 4) (sz : Nat) : Met l y_P_board [.code y_P_board c_P_board 1 (some .int)] ({ frames := 0, cells := 0, slots := 0, locals := 0 }) (wP s0 D [.ref (a 0)] (w_P a cA ii li ia la bd) sz) (va_Qi (fun (r : Int32) (u : Nat → Int32) => if n < 4 then r = nI n ∧ u = va_up ii 6 (nI (n + 1)) else r = -1 ∧ u = ii) (wB D (va_A (w_P a cA ii li ia la bd) sz) (fun u => w_P a cA u li ia la bd)) (va_A (w_P a cA ii li ia la bd) sz)) 0 0 (va_A (w_P a cA ii li ia la bd) sz) := by
  refine wMet Z (by decide) (Nat.le_of_ble_eq_true rfl) ?_
  intro p e s m below meth c hx hb hr hml hown hlk hin hg hK hsz hP hD hA hlo hS ls hl
  subst hsz
  have hown : s.vm.findClass R_P = some m.cls := hown
  refine lv_aload_n hx hb d_P_board_0 rfl (lv_at hl 0 rfl) ?_
  refine va_get (D := D) (ci := 0) (v := .int (ii 6)) (C := R_P) (T := T_P) (N := 10) hx hb (uw_P Z.1 hg.1) (fun _ h => h) hown hK hP 0 rfl rfl 6 (by decide) (kw204 Z.1 _ _ hg.1) (fun _ h9 => h9) rfl d_P_board_1 ?_
  refine lv_iconst (v := 4) hx hb d_P_board_4 (by decide) ?_
  refine lv_icmp_lt (tgt := 10) hx hb d_P_board_5 (by decide) (fun c1 => ?_) (fun c1 => ?_)
  · have hlt : n < 4 := (nI_ltI (b := 4) (by omega) (by decide)).mp (by rw [← hn]; exact c1)
    refine lv_aload_n hx hb d_P_board_10 rfl (lv_at hl 0 rfl) ?_
    refine lv_dup hx hb d_P_board_11 rfl ?_
    refine va_get (D := D) (ci := 0) (v := .int (ii 6)) (C := R_P) (T := T_P) (N := 10) hx hb (uw_P Z.1 hg.1) (fun _ h => h) hown hK hP 0 rfl rfl 6 (by decide) (kw204 Z.1 _ _ hg.1) (fun _ h9 => h9) rfl d_P_board_12 ?_
    refine lv_iconst (v := 1) hx hb d_P_board_15 (by decide) ?_
    refine lv_iadd hx hb d_P_board_16 ?_
    refine lv_topi (fun z2 ez2 => ?_)
    obtain rfl : z2 = (nI (n + 1)) := by rw [ez2]; rw [hn]; exact nI_1 n
    refine va_put (D := D) (ci := 0) (v := .int (nI (n + 1))) (ty := t_P 6) (C := R_P) (T := T_P) (N := 10) hx hb (uw_P Z.1 hg.1) (fun _ h => h) t_P t_P_ok n_P hown hK hP hD hS 0 rfl rfl 6 (by decide) (kw204 Z.1 _ _ hg.1) (fun _ h9 => h9) rfl (by decide +kernel) rfl rfl (Nat.le_of_ble_eq_true rfl) d_P_board_17 (fun H locs hP hD hS => ?_)
    have hP : va_P D ncl (w_P a cA (va_up ii 6 (nI (n + 1))) li ia la bd) H := hP
    have hD : va_D _ (w_P a cA (va_up ii 6 (nI (n + 1))) li ia la bd) := hD
    refine lv_aload_n hx hb d_P_board_20 rfl (lv_at hl 0 rfl) ?_
    refine va_get (D := D) (ci := 0) (v := .int (nI (n + 1))) (C := R_P) (T := T_P) (N := 10) hx hb (uw_P Z.1 hg.1) (fun _ h => h) hown hK hP 0 rfl rfl 6 (by decide) (kw204 Z.1 _ _ hg.1) (fun _ h9 => h9) rfl d_P_board_21 ?_
    refine lv_iconst (v := 1) hx hb d_P_board_24 (by decide) ?_
    refine lv_isub hx hb d_P_board_25 ?_
    refine lv_topi (fun z3 ez3 => ?_)
    obtain rfl : z3 = (nI n) := by rw [ez3]; exact nI_pred n
    exact w_iret hx hb hr hlk hP hD hS (va_up ii 6 (nI (n + 1))) rfl (by rw [if_pos hlt]; exact ⟨rfl, rfl⟩) d_P_board_26
  · refine lv_iconst (v := (-1)) hx hb d_P_board_8 (by decide) ?_
    exact w_iret hx hb hr hlk hP hD hS ii rfl (by rw [if_neg (fun q => c1 (by rw [hn]; exact (nI_ltI (b := 4) (by omega) (by decide)).mpr q))]; exact ⟨rfl, rfl⟩) d_P_board_9
set_option maxHeartbeats 4000000 in
set_option maxRecDepth 100000 in
theorem m_P_proved {l : Launch} {s0 : State} {D : va_G} {cA sa : Nat → Nat} (Z : zE l s0 D cA sa) (a : Nat → Nat) (ii : Nat → Int32) (li : Nat → Int64) (ia : Nat → Nat → Int32) (la : Nat → Nat → Int64) (bd : Nat → Nat) (hz : ii 9 = 0 ∨ ii 9 = 1) (sz : Nat) : Met l y_P_proved [.code y_P_proved c_P_proved 1 (some .boolean)] ({ frames := 0, cells := 0, slots := 0, locals := 0 }) (wP s0 D [.ref (a 0)] (w_P a cA ii li ia la bd) sz) (va_Qi (fun r (_ : Unit) => r = ii 9) (wB D (va_A (w_P a cA ii li ia la bd) sz) (fun _ => w_P a cA ii li ia la bd)) (va_A (w_P a cA ii li ia la bd) sz)) 0 0 (va_A (w_P a cA ii li ia la bd) sz) := by
  refine wMet Z (by decide) (Nat.le_of_ble_eq_true rfl) ?_
  intro p e s m below meth c hx hb hr hml hown hlk hin hg hK hsz hP hD hA hlo hS ls hl
  subst hsz
  have hown : s.vm.findClass R_P = some m.cls := hown
  refine lv_aload_n hx hb d_P_proved_0 rfl (lv_at hl 0 rfl) ?_
  refine va_get (D := D) (ci := 0) (v := .int (ii 9)) (C := R_P) (T := T_P) (N := 10) hx hb (uw_P Z.1 hg.1) (fun _ h => h) hown hK hP 0 rfl rfl 9 (by decide) (kw207 Z.1 _ _ hg.1) (fun _ h9 => h9) rfl d_P_proved_1 ?_
  exact w_zret hx hb hr (by rcases hz with h | h <;> rw [h] <;> rfl) hlk hP hD hS () rfl rfl d_P_proved_4
set_option maxHeartbeats 4000000 in
set_option maxRecDepth 100000 in
theorem m_P_overlaps {l : Launch} {s0 : State} {D : va_G} {cA sa : Nat → Nat} (Z : zE l s0 D cA sa) (a : Nat → Nat) (ii : Nat → Int32) (li : Nat → Int64) (ia : Nat → Nat → Int32) (la : Nat → Nat → Int64) (bd : Nat → Nat) (sz : Nat) : Met l y_P_overlaps [.code y_P_overlaps c_P_overlaps 1 (some .boolean)] ({ frames := 0, cells := 0, slots := 0, locals := 0 }) (wP s0 D [.ref (a 0)] (w_P a cA ii li ia la bd) sz) (va_Qi (fun r (_ : Unit) => r = 0) (wB D (va_A (w_P a cA ii li ia la bd) sz) (fun _ => w_P a cA ii li ia la bd)) (va_A (w_P a cA ii li ia la bd) sz)) 0 0 (va_A (w_P a cA ii li ia la bd) sz) := by
  refine wMet Z (by decide) (Nat.le_of_ble_eq_true rfl) ?_
  intro p e s m below meth c hx hb hr hml hown hlk hin hg hK hsz hP hD hA hlo hS ls hl
  subst hsz
  have hown : s.vm.findClass R_P = some m.cls := hown
  refine lv_iconst (v := 0) hx hb d_P_overlaps_0 (by decide) ?_
  exact w_zret hx hb hr rfl hlk hP hD hS () rfl rfl d_P_overlaps_1
set_option maxHeartbeats 4000000 in
set_option maxRecDepth 100000 in
theorem m_P_gap {l : Launch} {s0 : State} {D : va_G} {cA sa : Nat → Nat} (Z : zE l s0 D cA sa) (a : Nat → Nat) (ii : Nat → Int32) (li : Nat → Int64) (ia : Nat → Nat → Int32) (la : Nat → Nat → Int64) (bd : Nat → Nat) (v : Int64) (sz : Nat) : th_Met l y_P_gap [.code y_P_gap c_P_gap 4 (some .boolean)] ({ frames := 10, cells := 1, slots := 6, locals := 300 }) (wP s0 D [.ref (a 0), .long v] (w_P a cA ii li ia la bd) sz) (th_Qi (fun (r : Int32) (u : Nat → Int64) => (0 ≤ v ∧ v ≤ 65536) ∧ r = (if li 7 = v then 0 else 1) ∧ u = va_up li 7 v) (wB D (va_A (w_P a cA ii li ia la bd) sz) (fun u => w_P a cA ii u ia la bd)) (va_A (w_P a cA ii li ia la bd) sz) (fun x H t => ¬ (0 ≤ v ∧ v ≤ 65536) ∧ th_X "java/lang/IllegalArgumentException" x H t)) 1 6 (va_A (w_P a cA ii li ia la bd) sz) := by
  refine wMetT Z (by decide) (Nat.le_of_ble_eq_true rfl) ?_
  intro p e s m below meth c hx hb hr hml hown hlk hem hg hK hsz hP hD hA hlo hS ls hl
  subst hsz
  have hown : s.vm.findClass R_P = some m.cls := hown
  have hS0 : va_S (fun q => s.heap.size ≤ q) s.heap s.heap [] := va_S.rf
  refine lv_lload_n hx hb d_P_gap_0 rfl (lv_at hl 1 rfl) ?_
  refine w_check (wt_runS (rest := []) hx hb hml hown hl.1 hg hlo hP hD (qS hS0 hA) (m_P_checkLength Z v s.heap.size) (kw344 Z.1) (kw345 Z.1) (kw346 Z.1) (kw1 Z.1) ⟨by decide, by decide, (by decide +kernel : (parseMethodDescriptor y_P_checkLength.desc).map (fun d => d.parameters.length) = some 1)⟩ ⟨Nat.le_of_ble_eq_true rfl, Nat.le_of_ble_eq_true rfl⟩ [] rfl rfl rfl (Nat.le_of_ble_eq_true rfl) d_P_gap_1 ⟨Nat.le_of_ble_eq_true rfl, Nat.le_of_ble_eq_true rfl⟩) hP hS0 (fun H locs hc1 hP hS0 => ?_) (fun x t locs1 al hth hS1 => ?_)
  · skip
    refine W.widen (k := 1) (n := 6) (Nat.le_of_ble_eq_true rfl) (Nat.le_of_ble_eq_true rfl) ?_
    have hS := qS hS0 hA
    refine lv_aload_n hx hb d_P_gap_4 rfl (lv_at hl 0 rfl) ?_
    refine va_get (D := D) (ci := 0) (v := .long (li 7)) (C := R_P) (T := T_P) (N := 10) hx hb (uw_P Z.1 hg.1) (fun _ h => h) hown hK hP 0 rfl rfl 7 (by decide) (kw205 Z.1 _ _ hg.1) (fun _ h9 => h9) rfl d_P_gap_5 ?_
    refine lv_lload_n hx hb d_P_gap_8 rfl (lv_at hl 1 rfl) ?_
    refine W.lcmp hx hb d_P_gap_9 ?_
    refine lv_if_eq (tgt := 17) hx hb d_P_gap_10 (by decide) (fun d1 => ?_) (fun d1 => ?_)
    · refine lv_iconst (v := 0) hx hb d_P_gap_17 (by decide) ?_
      refine lv_istore_n (lv' := [(3, .int 0), (0, .ref (a 0)), (1, .long v)]) hx hb d_P_gap_18 rfl hl (by decide) rfl (fun ls hl => ?_)
      refine lv_aload_n hx hb d_P_gap_19 rfl (lv_at hl 1 rfl) ?_
      refine lv_lload_n hx hb d_P_gap_20 rfl (lv_at hl 2 rfl) ?_
      refine va_put (D := D) (ci := 0) (v := .long v) (ty := t_P 7) (C := R_P) (T := T_P) (N := 10) hx hb (uw_P Z.1 hg.1) (fun _ h => h) t_P t_P_ok n_P hown hK hP hD hS 0 rfl rfl 7 (by decide) (kw205 Z.1 _ _ hg.1) (fun _ h9 => h9) rfl (by decide +kernel) rfl rfl (Nat.le_of_ble_eq_true rfl) d_P_gap_21 (fun H locs hP hD hS => ?_)
      have hP : va_P D ncl (w_P a cA ii (va_up li 7 v) ia la bd) H := hP
      have hD : va_D _ (w_P a cA ii (va_up li 7 v) ia la bd) := hD
      refine lv_iload_n hx hb d_P_gap_24 rfl (lv_at hl 0 rfl) ?_
      refine W.widen (k := 1) (n := 6) (Nat.le_of_ble_eq_true rfl) (Nat.le_of_ble_eq_true rfl) ?_
      exact wt_zret hx hb hr rfl hlk hP hD hS (va_up li 7 v) rfl ⟨hc1, by rw [if_pos ((lg_cmp_eq _ _).mp d1)], rfl⟩ d_P_gap_25
    · refine lv_iconst (v := 1) hx hb d_P_gap_13 (by decide) ?_
      refine lv_goto (tgt := 18) hx hb d_P_gap_14 (by decide) ?_
      refine lv_istore_n (lv' := [(3, .int 1), (0, .ref (a 0)), (1, .long v)]) hx hb d_P_gap_18 rfl hl (by decide) rfl (fun ls hl => ?_)
      refine lv_aload_n hx hb d_P_gap_19 rfl (lv_at hl 1 rfl) ?_
      refine lv_lload_n hx hb d_P_gap_20 rfl (lv_at hl 2 rfl) ?_
      refine va_put (D := D) (ci := 0) (v := .long v) (ty := t_P 7) (C := R_P) (T := T_P) (N := 10) hx hb (uw_P Z.1 hg.1) (fun _ h => h) t_P t_P_ok n_P hown hK hP hD hS 0 rfl rfl 7 (by decide) (kw205 Z.1 _ _ hg.1) (fun _ h9 => h9) rfl (by decide +kernel) rfl rfl (Nat.le_of_ble_eq_true rfl) d_P_gap_21 (fun H locs hP hD hS => ?_)
      have hP : va_P D ncl (w_P a cA ii (va_up li 7 v) ia la bd) H := hP
      have hD : va_D _ (w_P a cA ii (va_up li 7 v) ia la bd) := hD
      refine lv_iload_n hx hb d_P_gap_24 rfl (lv_at hl 0 rfl) ?_
      refine W.widen (k := 1) (n := 6) (Nat.le_of_ble_eq_true rfl) (Nat.le_of_ble_eq_true rfl) ?_
      exact wt_zret hx hb hr rfl hlk hP hD hS (va_up li 7 v) rfl ⟨hc1, by rw [if_neg (fun z => d1 ((lg_cmp_eq _ _).mpr z))], rfl⟩ d_P_gap_25
  · refine th_wid (k := 1) (n := 6) (Nat.le_of_ble_eq_true rfl) (Nat.le_of_ble_eq_true rfl) ?_
    exact wt_pass hem hlk hA hS1 (fun t1 ht hW => have hX := th_up hth.2 hS0 ht al hW; ⟨Or.inr ⟨x, rfl, hth.1, hX⟩, xF hX⟩)
set_option maxHeartbeats 4000000 in
set_option maxRecDepth 100000 in
theorem m_P_radius {l : Launch} {s0 : State} {D : va_G} {cA sa : Nat → Nat} (Z : zE l s0 D cA sa) (a : Nat → Nat) (ii : Nat → Int32) (li : Nat → Int64) (ia : Nat → Nat → Int32) (la : Nat → Nat → Int64) (bd : Nat → Nat) (v : Int64) (sz : Nat) : th_Met l y_P_radius [.code y_P_radius c_P_radius 4 (some .boolean)] ({ frames := 10, cells := 1, slots := 6, locals := 300 }) (wP s0 D [.ref (a 0), .long v] (w_P a cA ii li ia la bd) sz) (th_Qi (fun (r : Int32) (u : Nat → Int64) => (0 ≤ v ∧ v ≤ 65536) ∧ r = (if li 8 = v then 0 else 1) ∧ u = va_up li 8 v) (wB D (va_A (w_P a cA ii li ia la bd) sz) (fun u => w_P a cA ii u ia la bd)) (va_A (w_P a cA ii li ia la bd) sz) (fun x H t => ¬ (0 ≤ v ∧ v ≤ 65536) ∧ th_X "java/lang/IllegalArgumentException" x H t)) 1 6 (va_A (w_P a cA ii li ia la bd) sz) := by
  refine wMetT Z (by decide) (Nat.le_of_ble_eq_true rfl) ?_
  intro p e s m below meth c hx hb hr hml hown hlk hem hg hK hsz hP hD hA hlo hS ls hl
  subst hsz
  have hown : s.vm.findClass R_P = some m.cls := hown
  have hS0 : va_S (fun q => s.heap.size ≤ q) s.heap s.heap [] := va_S.rf
  refine lv_lload_n hx hb d_P_radius_0 rfl (lv_at hl 1 rfl) ?_
  refine w_check (wt_runS (rest := []) hx hb hml hown hl.1 hg hlo hP hD (qS hS0 hA) (m_P_checkLength Z v s.heap.size) (kw344 Z.1) (kw345 Z.1) (kw346 Z.1) (kw1 Z.1) ⟨by decide, by decide, (by decide +kernel : (parseMethodDescriptor y_P_checkLength.desc).map (fun d => d.parameters.length) = some 1)⟩ ⟨Nat.le_of_ble_eq_true rfl, Nat.le_of_ble_eq_true rfl⟩ [] rfl rfl rfl (Nat.le_of_ble_eq_true rfl) d_P_radius_1 ⟨Nat.le_of_ble_eq_true rfl, Nat.le_of_ble_eq_true rfl⟩) hP hS0 (fun H locs hc1 hP hS0 => ?_) (fun x t locs1 al hth hS1 => ?_)
  · skip
    refine W.widen (k := 1) (n := 6) (Nat.le_of_ble_eq_true rfl) (Nat.le_of_ble_eq_true rfl) ?_
    have hS := qS hS0 hA
    refine lv_aload_n hx hb d_P_radius_4 rfl (lv_at hl 0 rfl) ?_
    refine va_get (D := D) (ci := 0) (v := .long (li 8)) (C := R_P) (T := T_P) (N := 10) hx hb (uw_P Z.1 hg.1) (fun _ h => h) hown hK hP 0 rfl rfl 8 (by decide) (kw206 Z.1 _ _ hg.1) (fun _ h9 => h9) rfl d_P_radius_5 ?_
    refine lv_lload_n hx hb d_P_radius_8 rfl (lv_at hl 1 rfl) ?_
    refine W.lcmp hx hb d_P_radius_9 ?_
    refine lv_if_eq (tgt := 17) hx hb d_P_radius_10 (by decide) (fun d1 => ?_) (fun d1 => ?_)
    · refine lv_iconst (v := 0) hx hb d_P_radius_17 (by decide) ?_
      refine lv_istore_n (lv' := [(3, .int 0), (0, .ref (a 0)), (1, .long v)]) hx hb d_P_radius_18 rfl hl (by decide) rfl (fun ls hl => ?_)
      refine lv_aload_n hx hb d_P_radius_19 rfl (lv_at hl 1 rfl) ?_
      refine lv_lload_n hx hb d_P_radius_20 rfl (lv_at hl 2 rfl) ?_
      refine va_put (D := D) (ci := 0) (v := .long v) (ty := t_P 8) (C := R_P) (T := T_P) (N := 10) hx hb (uw_P Z.1 hg.1) (fun _ h => h) t_P t_P_ok n_P hown hK hP hD hS 0 rfl rfl 8 (by decide) (kw206 Z.1 _ _ hg.1) (fun _ h9 => h9) rfl (by decide +kernel) rfl rfl (Nat.le_of_ble_eq_true rfl) d_P_radius_21 (fun H locs hP hD hS => ?_)
      have hP : va_P D ncl (w_P a cA ii (va_up li 8 v) ia la bd) H := hP
      have hD : va_D _ (w_P a cA ii (va_up li 8 v) ia la bd) := hD
      refine lv_iload_n hx hb d_P_radius_24 rfl (lv_at hl 0 rfl) ?_
      refine W.widen (k := 1) (n := 6) (Nat.le_of_ble_eq_true rfl) (Nat.le_of_ble_eq_true rfl) ?_
      exact wt_zret hx hb hr rfl hlk hP hD hS (va_up li 8 v) rfl ⟨hc1, by rw [if_pos ((lg_cmp_eq _ _).mp d1)], rfl⟩ d_P_radius_25
    · refine lv_iconst (v := 1) hx hb d_P_radius_13 (by decide) ?_
      refine lv_goto (tgt := 18) hx hb d_P_radius_14 (by decide) ?_
      refine lv_istore_n (lv' := [(3, .int 1), (0, .ref (a 0)), (1, .long v)]) hx hb d_P_radius_18 rfl hl (by decide) rfl (fun ls hl => ?_)
      refine lv_aload_n hx hb d_P_radius_19 rfl (lv_at hl 1 rfl) ?_
      refine lv_lload_n hx hb d_P_radius_20 rfl (lv_at hl 2 rfl) ?_
      refine va_put (D := D) (ci := 0) (v := .long v) (ty := t_P 8) (C := R_P) (T := T_P) (N := 10) hx hb (uw_P Z.1 hg.1) (fun _ h => h) t_P t_P_ok n_P hown hK hP hD hS 0 rfl rfl 8 (by decide) (kw206 Z.1 _ _ hg.1) (fun _ h9 => h9) rfl (by decide +kernel) rfl rfl (Nat.le_of_ble_eq_true rfl) d_P_radius_21 (fun H locs hP hD hS => ?_)
      have hP : va_P D ncl (w_P a cA ii (va_up li 8 v) ia la bd) H := hP
      have hD : va_D _ (w_P a cA ii (va_up li 8 v) ia la bd) := hD
      refine lv_iload_n hx hb d_P_radius_24 rfl (lv_at hl 0 rfl) ?_
      refine W.widen (k := 1) (n := 6) (Nat.le_of_ble_eq_true rfl) (Nat.le_of_ble_eq_true rfl) ?_
      exact wt_zret hx hb hr rfl hlk hP hD hS (va_up li 8 v) rfl ⟨hc1, by rw [if_neg (fun z => d1 ((lg_cmp_eq _ _).mpr z))], rfl⟩ d_P_radius_25
  · refine th_wid (k := 1) (n := 6) (Nat.le_of_ble_eq_true rfl) (Nat.le_of_ble_eq_true rfl) ?_
    exact wt_pass hem hlk hA hS1 (fun t1 ht hW => have hX := th_up hth.2 hS0 ht al hW; ⟨Or.inr ⟨x, rfl, hth.1, hX⟩, xF hX⟩)
end
section
theorem nar01 {r : Int32} (h : r = 0 ∨ r = 1) : narrow .boolean (.int r) = .int r := by
  rcases h with h | h <;> rw [h] <;> rfl
abbrev okL (v : Int64) : Prop := 0 ≤ v ∧ v ≤ 65536
set_option maxHeartbeats 4000000 in
set_option maxRecDepth 100000 in
theorem m_P_rail {l : Launch} {s0 : State} {D : va_G} {cA sa : Nat → Nat} (Z : zE l s0 D cA sa) (a : Nat → Nat) (ii : Nat → Int32) (li : Nat → Int64) (ia : Nat → Nat → Int32) (la : Nat → Nat → Int64) (bd : Nat → Nat) (sd : Int32) (v : Int64) (sz : Nat) : th_Met l y_P_rail [.code y_P_rail c_P_rail 5 (some .boolean)] ({ frames := 10, cells := 2, slots := 12, locals := 300 }) (wP s0 D [.ref (a 0), .int sd, .long v] (w_P a cA ii li ia la bd) sz) (th_Qi (fun (r : Int32) (u : Nat → Nat → Int64) => ∃ k, k < 4 ∧ sd = nI k ∧ okL v ∧ r = (if la 3 k = v then 0 else 1) ∧ u = va_up la 3 (vp_updL (la 3) k v)) (wB D (va_A (w_P a cA ii li ia la bd) sz) (fun u => w_P a cA ii li ia u bd)) (va_A (w_P a cA ii li ia la bd) sz) (fun x H t => (¬ (∃ k, k < 4 ∧ sd = nI k) ∧ th_X "java/lang/IndexOutOfBoundsException" x H t) ∨ ((∃ k, k < 4 ∧ sd = nI k) ∧ ¬ okL v ∧ th_X "java/lang/IllegalArgumentException" x H t))) 2 12 (va_A (w_P a cA ii li ia la bd) sz) := by
  refine wMetT Z (by decide) (Nat.le_of_ble_eq_true rfl) ?_
  intro p e s m below meth c hx hb hr hml hown hlk hem hg hK hsz hP hD hA hlo hS ls hl
  subst hsz
  have hown : s.vm.findClass R_P = some m.cls := hown
  have hS0 : va_S (fun q => s.heap.size ≤ q) s.heap s.heap [] := va_S.rf
  refine lv_iload_n hx hb d_P_rail_0 rfl (lv_at hl 1 rfl) ?_
  refine w_check (wt_runS (rest := []) hx hb hml hown hl.1 hg hlo hP hD (qS hS0 hA) (m_P_checkSide Z sd s.heap.size) (kw479 Z.1) (kw480 Z.1) (kw481 Z.1) (kw1 Z.1) ⟨by decide, by decide, (by decide +kernel : (parseMethodDescriptor y_P_checkSide.desc).map (fun d => d.parameters.length) = some 1)⟩ ⟨Nat.le_of_ble_eq_true rfl, Nat.le_of_ble_eq_true rfl⟩ [] rfl rfl rfl (Nat.le_of_ble_eq_true rfl) d_P_rail_1 ⟨Nat.le_of_ble_eq_true rfl, Nat.le_of_ble_eq_true rfl⟩) hP hS0 (fun H locs hc1 hP hS0 => ?_) (fun x t locs1 al hth hS1 => ?_)
  · skip
    refine W.widen (k := 1) (n := 6) (Nat.le_of_ble_eq_true rfl) (Nat.le_of_ble_eq_true rfl) ?_
    refine lv_lload_n hx hb d_P_rail_4 rfl (lv_at hl 2 rfl) ?_
    refine w_check (wt_runS (rest := []) hx hb hml hown hl.1 hg hlo hP hD (qS hS0 hA) (m_P_checkLength Z v H.size) (kw344 Z.1) (kw345 Z.1) (kw346 Z.1) (kw1 Z.1) ⟨by decide, by decide, (by decide +kernel : (parseMethodDescriptor y_P_checkLength.desc).map (fun d => d.parameters.length) = some 1)⟩ ⟨Nat.le_of_ble_eq_true rfl, Nat.le_of_ble_eq_true rfl⟩ [] rfl rfl rfl (Nat.le_of_ble_eq_true rfl) d_P_rail_5 ⟨Nat.le_of_ble_eq_true rfl, Nat.le_of_ble_eq_true rfl⟩) hP hS0 (fun H locs hc2 hP hS0 => ?_) (fun x t locs1 al hth hS1 => ?_)
    · skip
      refine W.widen (k := 2) (n := 12) (Nat.le_of_ble_eq_true rfl) (Nat.le_of_ble_eq_true rfl) ?_
      have hS := qS hS0 hA
      obtain ⟨k, hk, rfl⟩ := hc1
      refine lv_aload_n hx hb d_P_rail_8 rfl (lv_at hl 0 rfl) ?_
      refine va_get (D := D) (ci := 0) (v := .ref (a 4)) (C := R_P) (T := T_P) (N := 10) hx hb (uw_P Z.1 hg.1) (fun _ h => h) hown hK hP 0 rfl rfl 3 (by decide) (kw201 Z.1 _ _ hg.1) (fun _ h9 => h9) rfl d_P_rail_9 ?_
      refine lv_iload_n hx hb d_P_rail_12 rfl (lv_at hl 1 rfl) ?_
      refine va_lald hx hb hK hP 2 1 rfl rfl (vp_in_nI (n := k) (N := 4) (by omega) (by decide)) d_P_rail_13 ?_
      refine lv_topl (fun z1 ez1 => ?_)
      rw [nI_clamp (n := k) (by omega)] at ez1
      obtain rfl : z1 = ((la 3) k) := ez1
      refine lv_lload_n hx hb d_P_rail_14 rfl (lv_at hl 2 rfl) ?_
      refine W.lcmp hx hb d_P_rail_15 ?_
      refine lv_if_eq (tgt := 23) hx hb d_P_rail_16 (by decide) (fun d2 => ?_) (fun d2 => ?_)
      · refine lv_iconst (v := 0) hx hb d_P_rail_23 (by decide) ?_
        refine lv_istore (lv' := [(4, .int 0), (0, .ref (a 0)), (1, .int (nI k)), (2, .long v)]) hx hb d_P_rail_24 hl (by decide) rfl (fun ls hl => ?_)
        refine lv_aload_n hx hb d_P_rail_26 rfl (lv_at hl 1 rfl) ?_
        refine va_get (D := D) (ci := 0) (v := .ref (a 4)) (C := R_P) (T := T_P) (N := 10) hx hb (uw_P Z.1 hg.1) (fun _ h => h) hown hK hP 0 rfl rfl 3 (by decide) (kw201 Z.1 _ _ hg.1) (fun _ h9 => h9) rfl d_P_rail_27 ?_
        refine lv_iload_n hx hb d_P_rail_30 rfl (lv_at hl 2 rfl) ?_
        refine lv_lload_n hx hb d_P_rail_31 rfl (lv_at hl 3 rfl) ?_
        refine va_last hx hb hK hP hD hS 2 1 rfl rfl (vp_in_nI (n := k) (N := 4) (by omega) (by decide)) d_P_rail_32 (fun H locs hP hD hS => ?_)
        rw [nI_clamp (n := k) (by omega)] at hP hD
        have hP : va_P D ncl (w_P a cA ii li ia (va_up la 3 (vp_updL (la 3) k v)) bd) H := hP
        have hD : va_D _ (w_P a cA ii li ia (va_up la 3 (vp_updL (la 3) k v)) bd) := hD
        refine lv_iload hx hb d_P_rail_33 (lv_at hl 0 rfl) ?_
        refine W.widen (k := 2) (n := 12) (Nat.le_of_ble_eq_true rfl) (Nat.le_of_ble_eq_true rfl) ?_
        exact wt_zret hx hb hr rfl hlk hP hD hS (va_up la 3 (vp_updL (la 3) k v)) rfl ⟨k, hk, rfl, hc2, by rw [if_pos ((lg_cmp_eq _ _).mp d2)], rfl⟩ d_P_rail_35
      · refine lv_iconst (v := 1) hx hb d_P_rail_19 (by decide) ?_
        refine lv_goto (tgt := 24) hx hb d_P_rail_20 (by decide) ?_
        refine lv_istore (lv' := [(4, .int 1), (0, .ref (a 0)), (1, .int (nI k)), (2, .long v)]) hx hb d_P_rail_24 hl (by decide) rfl (fun ls hl => ?_)
        refine lv_aload_n hx hb d_P_rail_26 rfl (lv_at hl 1 rfl) ?_
        refine va_get (D := D) (ci := 0) (v := .ref (a 4)) (C := R_P) (T := T_P) (N := 10) hx hb (uw_P Z.1 hg.1) (fun _ h => h) hown hK hP 0 rfl rfl 3 (by decide) (kw201 Z.1 _ _ hg.1) (fun _ h9 => h9) rfl d_P_rail_27 ?_
        refine lv_iload_n hx hb d_P_rail_30 rfl (lv_at hl 2 rfl) ?_
        refine lv_lload_n hx hb d_P_rail_31 rfl (lv_at hl 3 rfl) ?_
        refine va_last hx hb hK hP hD hS 2 1 rfl rfl (vp_in_nI (n := k) (N := 4) (by omega) (by decide)) d_P_rail_32 (fun H locs hP hD hS => ?_)
        rw [nI_clamp (n := k) (by omega)] at hP hD
        have hP : va_P D ncl (w_P a cA ii li ia (va_up la 3 (vp_updL (la 3) k v)) bd) H := hP
        have hD : va_D _ (w_P a cA ii li ia (va_up la 3 (vp_updL (la 3) k v)) bd) := hD
        refine lv_iload hx hb d_P_rail_33 (lv_at hl 0 rfl) ?_
        refine W.widen (k := 2) (n := 12) (Nat.le_of_ble_eq_true rfl) (Nat.le_of_ble_eq_true rfl) ?_
        exact wt_zret hx hb hr rfl hlk hP hD hS (va_up la 3 (vp_updL (la 3) k v)) rfl ⟨k, hk, rfl, hc2, by rw [if_neg (fun z => d2 ((lg_cmp_eq _ _).mpr z))], rfl⟩ d_P_rail_35
    · refine th_wid (k := 2) (n := 12) (Nat.le_of_ble_eq_true rfl) (Nat.le_of_ble_eq_true rfl) ?_
      exact wt_pass hem hlk hA hS1 (fun t1 ht hW => have hX := th_up hth.2 hS0 ht al hW; ⟨Or.inr ⟨x, rfl, Or.inr ⟨hc1, hth.1, hX⟩⟩, xF hX⟩)
  · refine th_wid (k := 2) (n := 12) (Nat.le_of_ble_eq_true rfl) (Nat.le_of_ble_eq_true rfl) ?_
    exact wt_pass hem hlk hA hS1 (fun t1 ht hW => have hX := th_up hth.2 hS0 ht al hW; ⟨Or.inr ⟨x, rfl, Or.inl ⟨hth.1, hX⟩⟩, xF hX⟩)
set_option maxHeartbeats 4000000 in
set_option maxRecDepth 100000 in
theorem m_P_corner {l : Launch} {s0 : State} {D : va_G} {cA sa : Nat → Nat} (Z : zE l s0 D cA sa) (a : Nat → Nat) (ii : Nat → Int32) (li : Nat → Int64) (ia : Nat → Nat → Int32) (la : Nat → Nat → Int64) (bd : Nat → Nat) (b : Nat → Nat) (ib : Nat → Int32) (lb : Nat → Int64) (jb : Nat → Nat → Int32) (kb : Nat → Nat → Int64) (v : Int32) (x y : Int64) (n nc : Nat) (hn : ii 6 = nI n) (hn2 : n ≤ 4) (hbd : ∀ k, k < n → v = nI k → bd k = b 0) (hnc : ib 5 = nI nc) (hnc2 : nc ≤ 12) (sz : Nat) : th_Met l y_P_corner [.code y_P_corner c_P_corner 6 (some .boolean)] ({ frames := 10, cells := 3, slots := 18, locals := 300 }) (wP s0 D [.ref (a 0), .int v, .long x, .long y] ((w_P a cA ii li ia la bd) ++ (w_B b cA ib lb jb kb)) sz) (th_Qi (fun (r : Int32) (u : St) => (∃ k, k < n ∧ v = nI k) ∧ okL x ∧ okL y ∧ (if nc < 12 then r = 1 ∧ u = (va_up ib 5 (ib 5 + 1), bc_li lb (ib 5) x y, jb, va_up (va_up kb 0 (vp_updL (kb 0) nc x)) 1 (vp_updL (kb 1) nc y)) else r = 0 ∧ u = (ib, lb, jb, kb))) (wB D (va_A ((w_P a cA ii li ia la bd) ++ (w_B b cA ib lb jb kb)) sz) (fun (u : St) => (w_P a cA ii li ia la bd) ++ (w_B b cA u.1 u.2.1 u.2.2.1 u.2.2.2))) (va_A ((w_P a cA ii li ia la bd) ++ (w_B b cA ib lb jb kb)) sz) (fun z H t => (¬ (∃ k, k < n ∧ v = nI k) ∧ th_X "java/lang/IndexOutOfBoundsException" z H t) ∨ ((∃ k, k < n ∧ v = nI k) ∧ ¬ (okL x ∧ okL y) ∧ th_X "java/lang/IllegalArgumentException" z H t))) 3 18 (va_A ((w_P a cA ii li ia la bd) ++ (w_B b cA ib lb jb kb)) sz) := by
  refine wMetT Z (by decide) (Nat.le_of_ble_eq_true rfl) ?_
  intro p e s m below meth c hx hb hr hml hown hlk hem hg hK hsz hP hD hA hlo hS ls hl
  subst hsz
  have hown : s.vm.findClass R_P = some m.cls := hown
  have hS0 : va_S (fun q => s.heap.size ≤ q) s.heap s.heap [] := va_S.rf
  refine lv_aload_n hx hb d_P_corner_0 rfl (lv_at hl 0 rfl) ?_
  refine lv_iload_n hx hb d_P_corner_1 rfl (lv_at hl 1 rfl) ?_
  refine w_check (wt_runV (rest := []) hx hb hml hown hl.1 hg hlo hK hP hD (qS hS0 hA) (m_P_checkBoard Z a ii li ia la bd v n hn (by omega) s.heap.size) (kw269 Z.1) (kw271 Z.1) (kp_P_checkBoard Z.1) (kw272 Z.1) (kw1 Z.1) ⟨by decide, by decide, (by decide +kernel : (parseMethodDescriptor y_P_checkBoard.desc).map (fun d => d.parameters.length) = some 1)⟩ ⟨Nat.le_of_ble_eq_true rfl, Nat.le_of_ble_eq_true rfl⟩ [0, 1, 2] rfl rfl (ci := 0) (q0 := 0) rfl rfl rfl (Nat.le_of_ble_eq_true rfl) d_P_corner_2 ⟨Nat.le_of_ble_eq_true rfl, Nat.le_of_ble_eq_true rfl⟩) hP hS0 (fun H locs hc1 hP hS0 => ?_) (fun x t locs1 al hth hS1 => ?_)
  · skip
    refine W.widen (k := 1) (n := 6) (Nat.le_of_ble_eq_true rfl) (Nat.le_of_ble_eq_true rfl) ?_
    refine lv_lload_n hx hb d_P_corner_5 rfl (lv_at hl 2 rfl) ?_
    refine w_check (wt_runS (rest := []) hx hb hml hown hl.1 hg hlo hP hD (qS hS0 hA) (m_P_checkLength Z x H.size) (kw344 Z.1) (kw345 Z.1) (kw346 Z.1) (kw1 Z.1) ⟨by decide, by decide, (by decide +kernel : (parseMethodDescriptor y_P_checkLength.desc).map (fun d => d.parameters.length) = some 1)⟩ ⟨Nat.le_of_ble_eq_true rfl, Nat.le_of_ble_eq_true rfl⟩ [] rfl rfl rfl (Nat.le_of_ble_eq_true rfl) d_P_corner_6 ⟨Nat.le_of_ble_eq_true rfl, Nat.le_of_ble_eq_true rfl⟩) hP hS0 (fun H locs hc2 hP hS0 => ?_) (fun x t locs1 al hth hS1 => ?_)
    · skip
      refine W.widen (k := 2) (n := 12) (Nat.le_of_ble_eq_true rfl) (Nat.le_of_ble_eq_true rfl) ?_
      refine lv_lload hx hb d_P_corner_9 (lv_at hl 3 rfl) ?_
      refine w_check (wt_runS (rest := []) hx hb hml hown hl.1 hg hlo hP hD (qS hS0 hA) (m_P_checkLength Z y H.size) (kw344 Z.1) (kw345 Z.1) (kw346 Z.1) (kw1 Z.1) ⟨by decide, by decide, (by decide +kernel : (parseMethodDescriptor y_P_checkLength.desc).map (fun d => d.parameters.length) = some 1)⟩ ⟨Nat.le_of_ble_eq_true rfl, Nat.le_of_ble_eq_true rfl⟩ [] rfl rfl rfl (Nat.le_of_ble_eq_true rfl) d_P_corner_11 ⟨Nat.le_of_ble_eq_true rfl, Nat.le_of_ble_eq_true rfl⟩) hP hS0 (fun H locs hc3 hP hS0 => ?_) (fun x t locs1 al hth hS1 => ?_)
      · skip
        refine W.widen (k := 3) (n := 18) (Nat.le_of_ble_eq_true rfl) (Nat.le_of_ble_eq_true rfl) ?_
        have hS := qS hS0 hA
        have hc1s := hc1
        obtain ⟨k, hk, rfl⟩ := hc1
        refine lv_aload_n hx hb d_P_corner_14 rfl (lv_at hl 0 rfl) ?_
        refine va_get (D := D) (ci := 0) (v := .ref (a 3)) (C := R_P) (T := T_P) (N := 10) hx hb (uw_P Z.1 hg.1) (fun _ h => h) hown hK hP 0 rfl rfl 2 (by decide) (kw200 Z.1 _ _ hg.1) (fun _ h9 => h9) rfl d_P_corner_15 ?_
        refine lv_iload_n hx hb d_P_corner_18 rfl (lv_at hl 1 rfl) ?_
        refine va_aldq hx hb hK hP 1 3 rfl rfl (vp_in_nI (n := k) (N := 4) (by omega) (by decide)) d_P_corner_19 ?_
        rw [nI_clamp (n := k) (by omega)]
        rw [show va_rf ((fun j => some (bd j)) k) = .ref (b 0) from congrArg Value.ref (hbd k hk rfl)]
        refine lv_lload_n hx hb d_P_corner_20 rfl (lv_at hl 2 rfl) ?_
        refine lv_lload hx hb d_P_corner_21 (lv_at hl 3 rfl) ?_
        refine w_calli (wr := (w_P a cA ii li ia la bd)) (w_runVN (rest := []) hx hb hml hown hl.1 hg hlo hK hP hD hS (m_B_addCorner Z b ib lb jb kb x y nc hnc hnc2 H.size) (kw363 Z.1) (kw365 Z.1) (kp_B_addCorner Z.1) (kw366 Z.1) (kw3 Z.1) ⟨by decide, by decide, (by decide +kernel : (parseMethodDescriptor y_B_addCorner.desc).map (fun d => d.parameters.length) = some 2)⟩ ⟨Nat.le_of_ble_eq_true rfl, Nat.le_of_ble_eq_true rfl⟩ [3, 4, 5, 6, 7, 8] rfl rfl (ci := 2) (q0 := 3) rfl rfl rfl (Nat.le_of_ble_eq_true rfl) d_P_corner_23 ⟨Nat.le_of_ble_eq_true rfl, Nat.le_of_ble_eq_true rfl⟩) hP hD hS hA [3, 4, 5, 6, 7, 8] [0, 1, 2] rfl rfl rfl (by decide) (fun (u : St) => (w_P a cA ii li ia la bd) ++ (w_B b cA u.1 u.2.1 u.2.2.1 u.2.2.2)) [0, 1, 2, 3, 4, 5, 6, 7, 8] rfl (fun _ => rfl) (fun r1 u1 H locs hq hP hD hS => ?_)
        refine W.widen (k := 3) (n := 18) (Nat.le_of_ble_eq_true rfl) (Nat.le_of_ble_eq_true rfl) ?_
        refine W.widen (k := 3) (n := 18) (Nat.le_of_ble_eq_true rfl) (Nat.le_of_ble_eq_true rfl) ?_
        exact wt_zret hx hb hr (nar01 (by split at hq; exact Or.inr hq.1; exact Or.inl hq.1)) hlk hP hD hS u1 rfl ⟨hc1s, hc2, hc3, hq⟩ d_P_corner_26
      · refine th_wid (k := 3) (n := 18) (Nat.le_of_ble_eq_true rfl) (Nat.le_of_ble_eq_true rfl) ?_
        exact wt_pass hem hlk hA hS1 (fun t1 ht hW => have hX := th_up hth.2 hS0 ht al hW; ⟨Or.inr ⟨x, rfl, Or.inr ⟨hc1, fun z => hth.1 z.2, hX⟩⟩, xF hX⟩)
    · refine th_wid (k := 3) (n := 18) (Nat.le_of_ble_eq_true rfl) (Nat.le_of_ble_eq_true rfl) ?_
      exact wt_pass hem hlk hA hS1 (fun t1 ht hW => have hX := th_up hth.2 hS0 ht al hW; ⟨Or.inr ⟨x, rfl, Or.inr ⟨hc1, fun z => hth.1 z.1, hX⟩⟩, xF hX⟩)
  · refine th_wid (k := 3) (n := 18) (Nat.le_of_ble_eq_true rfl) (Nat.le_of_ble_eq_true rfl) ?_
    exact wt_pass hem hlk hA hS1 (fun t1 ht hW => have hX := th_up hth.2 hS0 ht al hW; ⟨Or.inr ⟨x, rfl, Or.inl ⟨hth.1, hX⟩⟩, xF hX⟩)
set_option maxHeartbeats 4000000 in
set_option maxRecDepth 100000 in
theorem m_P_part {l : Launch} {s0 : State} {D : va_G} {cA sa : Nat → Nat} (Z : zE l s0 D cA sa) (a : Nat → Nat) (ii : Nat → Int32) (li : Nat → Int64) (ia : Nat → Nat → Int32) (la : Nat → Nat → Int64) (bd : Nat → Nat) (b : Nat → Nat) (ib : Nat → Int32) (lb : Nat → Int64) (jb : Nat → Nat → Int32) (kb : Nat → Nat → Int64) (v : Int32) (x y r0 : Int64) (n nc : Nat) (hn : ii 6 = nI n) (hn2 : n ≤ 4) (hbd : ∀ k, k < n → v = nI k → bd k = b 0) (hnc : ib 6 = nI nc) (hnc2 : nc ≤ 10) (sz : Nat) : th_Met l y_P_part [.code y_P_part c_P_part 8 (some .boolean)] ({ frames := 10, cells := 5, slots := 30, locals := 300 }) (wP s0 D [.ref (a 0), .int v, .long x, .long y, .long r0] ((w_P a cA ii li ia la bd) ++ (w_B b cA ib lb jb kb)) sz) (th_Qi (fun (r : Int32) (u : St) => (∃ k, k < n ∧ v = nI k) ∧ okL x ∧ okL y ∧ (okL r0 ∧ r0 ≠ 0) ∧ (if nc < 10 then r = 1 ∧ u = (va_up ib 6 (ib 6 + 1), lb, jb, va_up (va_up (va_up kb 2 (vp_updL (kb 2) nc x)) 3 (vp_updL (kb 3) nc y)) 4 (vp_updL (kb 4) nc r0)) else r = 0 ∧ u = (ib, lb, jb, kb))) (wB D (va_A ((w_P a cA ii li ia la bd) ++ (w_B b cA ib lb jb kb)) sz) (fun (u : St) => (w_P a cA ii li ia la bd) ++ (w_B b cA u.1 u.2.1 u.2.2.1 u.2.2.2))) (va_A ((w_P a cA ii li ia la bd) ++ (w_B b cA ib lb jb kb)) sz) (fun z H t => (¬ (∃ k, k < n ∧ v = nI k) ∧ th_X "java/lang/IndexOutOfBoundsException" z H t) ∨ ((∃ k, k < n ∧ v = nI k) ∧ ¬ (okL x ∧ okL y ∧ okL r0 ∧ r0 ≠ 0) ∧ th_X "java/lang/IllegalArgumentException" z H t))) 5 30 (va_A ((w_P a cA ii li ia la bd) ++ (w_B b cA ib lb jb kb)) sz) := by
  refine wMetT Z (by decide) (Nat.le_of_ble_eq_true rfl) ?_
  intro p e s m below meth c hx hb hr hml hown hlk hem hg hK hsz hP hD hA hlo hS ls hl
  subst hsz
  have hown : s.vm.findClass R_P = some m.cls := hown
  have hS0 : va_S (fun q => s.heap.size ≤ q) s.heap s.heap [] := va_S.rf
  refine lv_aload_n hx hb d_P_part_0 rfl (lv_at hl 0 rfl) ?_
  refine lv_iload_n hx hb d_P_part_1 rfl (lv_at hl 1 rfl) ?_
  refine w_check (wt_runV (rest := []) hx hb hml hown hl.1 hg hlo hK hP hD (qS hS0 hA) (m_P_checkBoard Z a ii li ia la bd v n hn (by omega) s.heap.size) (kw269 Z.1) (kw271 Z.1) (kp_P_checkBoard Z.1) (kw272 Z.1) (kw1 Z.1) ⟨by decide, by decide, (by decide +kernel : (parseMethodDescriptor y_P_checkBoard.desc).map (fun d => d.parameters.length) = some 1)⟩ ⟨Nat.le_of_ble_eq_true rfl, Nat.le_of_ble_eq_true rfl⟩ [0, 1, 2] rfl rfl (ci := 0) (q0 := 0) rfl rfl rfl (Nat.le_of_ble_eq_true rfl) d_P_part_2 ⟨Nat.le_of_ble_eq_true rfl, Nat.le_of_ble_eq_true rfl⟩) hP hS0 (fun H locs hc1 hP hS0 => ?_) (fun x t locs1 al hth hS1 => ?_)
  · skip
    refine W.widen (k := 1) (n := 6) (Nat.le_of_ble_eq_true rfl) (Nat.le_of_ble_eq_true rfl) ?_
    refine lv_lload_n hx hb d_P_part_5 rfl (lv_at hl 2 rfl) ?_
    refine w_check (wt_runS (rest := []) hx hb hml hown hl.1 hg hlo hP hD (qS hS0 hA) (m_P_checkLength Z x H.size) (kw344 Z.1) (kw345 Z.1) (kw346 Z.1) (kw1 Z.1) ⟨by decide, by decide, (by decide +kernel : (parseMethodDescriptor y_P_checkLength.desc).map (fun d => d.parameters.length) = some 1)⟩ ⟨Nat.le_of_ble_eq_true rfl, Nat.le_of_ble_eq_true rfl⟩ [] rfl rfl rfl (Nat.le_of_ble_eq_true rfl) d_P_part_6 ⟨Nat.le_of_ble_eq_true rfl, Nat.le_of_ble_eq_true rfl⟩) hP hS0 (fun H locs hc2 hP hS0 => ?_) (fun x t locs1 al hth hS1 => ?_)
    · skip
      refine W.widen (k := 2) (n := 12) (Nat.le_of_ble_eq_true rfl) (Nat.le_of_ble_eq_true rfl) ?_
      refine lv_lload hx hb d_P_part_9 (lv_at hl 3 rfl) ?_
      refine w_check (wt_runS (rest := []) hx hb hml hown hl.1 hg hlo hP hD (qS hS0 hA) (m_P_checkLength Z y H.size) (kw344 Z.1) (kw345 Z.1) (kw346 Z.1) (kw1 Z.1) ⟨by decide, by decide, (by decide +kernel : (parseMethodDescriptor y_P_checkLength.desc).map (fun d => d.parameters.length) = some 1)⟩ ⟨Nat.le_of_ble_eq_true rfl, Nat.le_of_ble_eq_true rfl⟩ [] rfl rfl rfl (Nat.le_of_ble_eq_true rfl) d_P_part_11 ⟨Nat.le_of_ble_eq_true rfl, Nat.le_of_ble_eq_true rfl⟩) hP hS0 (fun H locs hc3 hP hS0 => ?_) (fun x t locs1 al hth hS1 => ?_)
      · skip
        refine W.widen (k := 3) (n := 18) (Nat.le_of_ble_eq_true rfl) (Nat.le_of_ble_eq_true rfl) ?_
        refine lv_lload hx hb d_P_part_14 (lv_at hl 4 rfl) ?_
        refine w_check (wt_runS (rest := []) hx hb hml hown hl.1 hg hlo hP hD (qS hS0 hA) (m_P_checkLength Z r0 H.size) (kw344 Z.1) (kw345 Z.1) (kw346 Z.1) (kw1 Z.1) ⟨by decide, by decide, (by decide +kernel : (parseMethodDescriptor y_P_checkLength.desc).map (fun d => d.parameters.length) = some 1)⟩ ⟨Nat.le_of_ble_eq_true rfl, Nat.le_of_ble_eq_true rfl⟩ [] rfl rfl rfl (Nat.le_of_ble_eq_true rfl) d_P_part_16 ⟨Nat.le_of_ble_eq_true rfl, Nat.le_of_ble_eq_true rfl⟩) hP hS0 (fun H locs hc4 hP hS0 => ?_) (fun x t locs1 al hth hS1 => ?_)
        · skip
          refine W.widen (k := 4) (n := 24) (Nat.le_of_ble_eq_true rfl) (Nat.le_of_ble_eq_true rfl) ?_
          refine lv_lload hx hb d_P_part_19 (lv_at hl 4 rfl) ?_
          refine lv_lconst (v := 0) hx hb d_P_part_21 (by decide) ?_
          refine W.lcmp hx hb d_P_part_22 ?_
          refine lv_if_ne (tgt := 36) hx hb d_P_part_23 (by decide) (fun d1 => ?_) (fun d1 => ?_)
          · have hS := qS hS0 hA
            have hc1s := hc1
            have hr0 : r0 ≠ 0 := fun z => d1 ((lg_cmp_eq _ _).mpr z)
            obtain ⟨k, hk, rfl⟩ := hc1
            refine lv_aload_n hx hb d_P_part_36 rfl (lv_at hl 0 rfl) ?_
            refine va_get (D := D) (ci := 0) (v := .ref (a 3)) (C := R_P) (T := T_P) (N := 10) hx hb (uw_P Z.1 hg.1) (fun _ h => h) hown hK hP 0 rfl rfl 2 (by decide) (kw200 Z.1 _ _ hg.1) (fun _ h9 => h9) rfl d_P_part_37 ?_
            refine lv_iload_n hx hb d_P_part_40 rfl (lv_at hl 1 rfl) ?_
            refine va_aldq hx hb hK hP 1 3 rfl rfl (vp_in_nI (n := k) (N := 4) (by omega) (by decide)) d_P_part_41 ?_
            rw [nI_clamp (n := k) (by omega)]
            rw [show va_rf ((fun j => some (bd j)) k) = .ref (b 0) from congrArg Value.ref (hbd k hk rfl)]
            refine lv_lload_n hx hb d_P_part_42 rfl (lv_at hl 2 rfl) ?_
            refine lv_lload hx hb d_P_part_43 (lv_at hl 3 rfl) ?_
            refine lv_lload hx hb d_P_part_45 (lv_at hl 4 rfl) ?_
            refine w_calli (wr := (w_P a cA ii li ia la bd)) (w_runVN (rest := []) hx hb hml hown hl.1 hg hlo hK hP hD hS (m_B_addPart Z b ib lb jb kb x y r0 nc hnc hnc2 H.size) (kw529 Z.1) (kw531 Z.1) (kp_B_addPart Z.1) (kw532 Z.1) (kw3 Z.1) ⟨by decide, by decide, (by decide +kernel : (parseMethodDescriptor y_B_addPart.desc).map (fun d => d.parameters.length) = some 3)⟩ ⟨Nat.le_of_ble_eq_true rfl, Nat.le_of_ble_eq_true rfl⟩ [3, 4, 5, 6, 7, 8] rfl rfl (ci := 2) (q0 := 3) rfl rfl rfl (Nat.le_of_ble_eq_true rfl) d_P_part_47 ⟨Nat.le_of_ble_eq_true rfl, Nat.le_of_ble_eq_true rfl⟩) hP hD hS hA [3, 4, 5, 6, 7, 8] [0, 1, 2] rfl rfl rfl (by decide) (fun (u : St) => (w_P a cA ii li ia la bd) ++ (w_B b cA u.1 u.2.1 u.2.2.1 u.2.2.2)) [0, 1, 2, 3, 4, 5, 6, 7, 8] rfl (fun _ => rfl) (fun r1 u1 H locs hq hP hD hS => ?_)
            refine W.widen (k := 4) (n := 24) (Nat.le_of_ble_eq_true rfl) (Nat.le_of_ble_eq_true rfl) ?_
            refine W.widen (k := 5) (n := 30) (Nat.le_of_ble_eq_true rfl) (Nat.le_of_ble_eq_true rfl) ?_
            exact wt_zret hx hb hr (nar01 (by split at hq; exact Or.inr hq.1; exact Or.inl hq.1)) hlk hP hD hS u1 rfl ⟨hc1s, hc2, hc3, ⟨hc4, hr0⟩, hq⟩ d_P_part_50
          · refine W.widen (k := 4) (n := 24) (Nat.le_of_ble_eq_true rfl) (Nat.le_of_ble_eq_true rfl) ?_
            exact w_throwF (C := "java/lang/IllegalArgumentException") hx hb hml hl.1 hown hlk hem Z.2.2.1 hS0 (kw347 Z.1 _ _ hg.1) (kw348 Z.1 _ _ hg.1) (kw11 Z.1 _ _ hg.1) (vk_R.warm hg.1 (Z.2.2.2.1 (166, "a part has a radius") (by decide))) (ow_73 Z hg) (by decide) d_P_part_26 d_P_part_29 d_P_part_30 d_P_part_32 d_P_part_35 (Nat.le_of_ble_eq_true rfl) (Nat.le_of_ble_eq_true rfl) (Nat.le_of_ble_eq_true rfl) (Nat.le_of_ble_eq_true rfl) (fun x t hW hX => ⟨Or.inr ⟨x, rfl, Or.inr ⟨hc1, fun z => z.2.2.2 ((lg_cmp_eq _ _).mp d1), hX⟩⟩, xF hX⟩)
        · refine th_wid (k := 5) (n := 30) (Nat.le_of_ble_eq_true rfl) (Nat.le_of_ble_eq_true rfl) ?_
          exact wt_pass hem hlk hA hS1 (fun t1 ht hW => have hX := th_up hth.2 hS0 ht al hW; ⟨Or.inr ⟨x, rfl, Or.inr ⟨hc1, fun z => hth.1 z.2.2.1, hX⟩⟩, xF hX⟩)
      · refine th_wid (k := 5) (n := 30) (Nat.le_of_ble_eq_true rfl) (Nat.le_of_ble_eq_true rfl) ?_
        exact wt_pass hem hlk hA hS1 (fun t1 ht hW => have hX := th_up hth.2 hS0 ht al hW; ⟨Or.inr ⟨x, rfl, Or.inr ⟨hc1, fun z => hth.1 z.2.1, hX⟩⟩, xF hX⟩)
    · refine th_wid (k := 5) (n := 30) (Nat.le_of_ble_eq_true rfl) (Nat.le_of_ble_eq_true rfl) ?_
      exact wt_pass hem hlk hA hS1 (fun t1 ht hW => have hX := th_up hth.2 hS0 ht al hW; ⟨Or.inr ⟨x, rfl, Or.inr ⟨hc1, fun z => hth.1 z.1, hX⟩⟩, xF hX⟩)
  · refine th_wid (k := 5) (n := 30) (Nat.le_of_ble_eq_true rfl) (Nat.le_of_ble_eq_true rfl) ?_
    exact wt_pass hem hlk hA hS1 (fun t1 ht hW => have hX := th_up hth.2 hS0 ht al hW; ⟨Or.inr ⟨x, rfl, Or.inl ⟨hth.1, hX⟩⟩, xF hX⟩)
set_option maxHeartbeats 4000000 in
set_option maxRecDepth 100000 in
theorem m_P_wants {l : Launch} {s0 : State} {D : va_G} {cA sa : Nat → Nat} (Z : zE l s0 D cA sa) (a : Nat → Nat) (ii : Nat → Int32) (li : Nat → Int64) (ia : Nat → Nat → Int32) (la : Nat → Nat → Int64) (bd : Nat → Nat) (b : Nat → Nat) (ib : Nat → Int32) (lb : Nat → Int64) (jb : Nat → Nat → Int32) (kb : Nat → Nat → Int64) (v w0 : Int32) (n : Nat) (hn : ii 6 = nI n) (hn2 : n ≤ 4) (hbd : ∀ k, k < n → v = nI k → bd k = b 0) (sz : Nat) : th_Met l y_P_wants [.code y_P_wants c_P_wants 4 (some .boolean)] ({ frames := 10, cells := 2, slots := 12, locals := 300 }) (wP s0 D [.ref (a 0), .int v, .int w0] ((w_P a cA ii li ia la bd) ++ (w_B b cA ib lb jb kb)) sz) (th_Qi (fun (r : Int32) (u : Nat → Int32) => (∃ k, k < n ∧ v = nI k) ∧ (∃ k, k < 201 ∧ w0 = nI k) ∧ r = (if ib 11 = w0 then 0 else 1) ∧ u = va_up ib 11 w0) (wB D (va_A ((w_P a cA ii li ia la bd) ++ (w_B b cA ib lb jb kb)) sz) (fun (u : Nat → Int32) => (w_P a cA ii li ia la bd) ++ (w_B b cA u lb jb kb))) (va_A ((w_P a cA ii li ia la bd) ++ (w_B b cA ib lb jb kb)) sz) (fun z H t => (¬ (∃ k, k < n ∧ v = nI k) ∧ th_X "java/lang/IndexOutOfBoundsException" z H t) ∨ ((∃ k, k < n ∧ v = nI k) ∧ ¬ (∃ k, k < 201 ∧ w0 = nI k) ∧ th_X "java/lang/IllegalArgumentException" z H t))) 2 12 (va_A ((w_P a cA ii li ia la bd) ++ (w_B b cA ib lb jb kb)) sz) := by
  refine wMetT Z (by decide) (Nat.le_of_ble_eq_true rfl) ?_
  intro p e s m below meth c hx hb hr hml hown hlk hem hg hK hsz hP hD hA hlo hS ls hl
  subst hsz
  have hown : s.vm.findClass R_P = some m.cls := hown
  have hS0 : va_S (fun q => s.heap.size ≤ q) s.heap s.heap [] := va_S.rf
  refine lv_aload_n hx hb d_P_wants_0 rfl (lv_at hl 0 rfl) ?_
  refine lv_iload_n hx hb d_P_wants_1 rfl (lv_at hl 1 rfl) ?_
  refine w_check (wt_runV (rest := []) hx hb hml hown hl.1 hg hlo hK hP hD (qS hS0 hA) (m_P_checkBoard Z a ii li ia la bd v n hn (by omega) s.heap.size) (kw269 Z.1) (kw271 Z.1) (kp_P_checkBoard Z.1) (kw272 Z.1) (kw1 Z.1) ⟨by decide, by decide, (by decide +kernel : (parseMethodDescriptor y_P_checkBoard.desc).map (fun d => d.parameters.length) = some 1)⟩ ⟨Nat.le_of_ble_eq_true rfl, Nat.le_of_ble_eq_true rfl⟩ [0, 1, 2] rfl rfl (ci := 0) (q0 := 0) rfl rfl rfl (Nat.le_of_ble_eq_true rfl) d_P_wants_2 ⟨Nat.le_of_ble_eq_true rfl, Nat.le_of_ble_eq_true rfl⟩) hP hS0 (fun H locs hc1 hP hS0 => ?_) (fun x t locs1 al hth hS1 => ?_)
  · skip
    refine W.widen (k := 1) (n := 6) (Nat.le_of_ble_eq_true rfl) (Nat.le_of_ble_eq_true rfl) ?_
    refine lv_iload_n hx hb d_P_wants_5 rfl (lv_at hl 2 rfl) ?_
    refine lv_i2l hx hb d_P_wants_6 rfl ?_
    refine lv_lconst (v := 0) hx hb d_P_wants_7 (by decide) ?_
    refine lv_ldc2 (v := 200) hx hb hown (kw595 Z.1 _ _ hg.1) d_P_wants_8 ?_
    refine w_purei (w_runS (rest := []) hx hb hml hown hl.1 hg hlo hP hD (qS hS0 hA) (m_P_isWithin Z w0.toInt64 0 200 H.size) (kw273 Z.1) (kw274 Z.1) (kw275 Z.1) (kw1 Z.1) ⟨by decide, by decide, (by decide +kernel : (parseMethodDescriptor y_P_isWithin.desc).map (fun d => d.parameters.length) = some 3)⟩ ⟨Nat.le_of_ble_eq_true rfl, Nat.le_of_ble_eq_true rfl⟩ [] rfl rfl rfl (Nat.le_of_ble_eq_true rfl) d_P_wants_11 ⟨Nat.le_of_ble_eq_true rfl, Nat.le_of_ble_eq_true rfl⟩) hP hS0 (fun r1 _ H locs hr1 hP hS0 => ?_)
    refine W.widen (k := 1) (n := 6) (Nat.le_of_ble_eq_true rfl) (Nat.le_of_ble_eq_true rfl) ?_
    subst hr1
    refine lv_if_ne (tgt := 27) hx hb d_P_wants_14 (by decide) (fun d1 => ?_) (fun d1 => ?_)
    · have hw0 : ∃ k, k < 201 ∧ w0 = nI k := (ib_iff (n := 201) (hi := 200) (by decide) rfl).mp (Classical.byContradiction (fun z => d1 (if_neg z)))
      have hS := qS hS0 hA
      have hc1s := hc1
      obtain ⟨k, hk, rfl⟩ := hc1
      refine lv_aload_n hx hb d_P_wants_27 rfl (lv_at hl 0 rfl) ?_
      refine va_get (D := D) (ci := 0) (v := .ref (a 3)) (C := R_P) (T := T_P) (N := 10) hx hb (uw_P Z.1 hg.1) (fun _ h => h) hown hK hP 0 rfl rfl 2 (by decide) (kw200 Z.1 _ _ hg.1) (fun _ h9 => h9) rfl d_P_wants_28 ?_
      refine lv_iload_n hx hb d_P_wants_31 rfl (lv_at hl 1 rfl) ?_
      refine va_aldq hx hb hK hP 1 3 rfl rfl (vp_in_nI (n := k) (N := 4) (by omega) (by decide)) d_P_wants_32 ?_
      rw [nI_clamp (n := k) (by omega)]
      rw [show va_rf ((fun j => some (bd j)) k) = .ref (b 0) from congrArg Value.ref (hbd k hk rfl)]
      refine va_getN (D := D) (ci := 2) (v := .int (ib 11)) (C := R_B) (T := T_B) (N := 12) hx hb (uw_B Z.1 hg.1) (fun _ h => h) hown hK hP 3 rfl rfl 11 (by decide) (kw50 Z.1 _ _ hg.1) (fun _ h9 => h9) rfl d_P_wants_33 ?_
      refine lv_iload_n hx hb d_P_wants_36 rfl (lv_at hl 2 rfl) ?_
      refine lv_icmp_eq (tgt := 44) hx hb d_P_wants_37 (by decide) (fun g2 => ?_) (fun g2 => ?_)
      · refine lv_iconst (v := 0) hx hb d_P_wants_44 (by decide) ?_
        refine lv_istore_n (lv' := [(3, .int 0), (0, .ref (a 0)), (1, .int (nI k)), (2, .int w0)]) hx hb d_P_wants_45 rfl hl (by decide) rfl (fun ls hl => ?_)
        refine lv_aload_n hx hb d_P_wants_46 rfl (lv_at hl 1 rfl) ?_
        refine va_get (D := D) (ci := 0) (v := .ref (a 3)) (C := R_P) (T := T_P) (N := 10) hx hb (uw_P Z.1 hg.1) (fun _ h => h) hown hK hP 0 rfl rfl 2 (by decide) (kw200 Z.1 _ _ hg.1) (fun _ h9 => h9) rfl d_P_wants_47 ?_
        refine lv_iload_n hx hb d_P_wants_50 rfl (lv_at hl 2 rfl) ?_
        refine va_aldq hx hb hK hP 1 3 rfl rfl (vp_in_nI (n := k) (N := 4) (by omega) (by decide)) d_P_wants_51 ?_
        rw [nI_clamp (n := k) (by omega)]
        rw [show va_rf ((fun j => some (bd j)) k) = .ref (b 0) from congrArg Value.ref (hbd k hk rfl)]
        refine lv_iload_n hx hb d_P_wants_52 rfl (lv_at hl 3 rfl) ?_
        refine va_putN (D := D) (ci := 2) (v := .int w0) (ty := t_B 11) (C := R_B) (T := T_B) (N := 12) hx hb (uw_B Z.1 hg.1) (fun _ h => h) t_B t_B_ok n_B hown hK hP hD hS 3 rfl rfl 11 (by decide) (kw50 Z.1 _ _ hg.1) (fun _ h9 => h9) rfl (by decide +kernel) rfl rfl (Nat.le_of_ble_eq_true rfl) d_P_wants_53 (fun H locs hP hD hS => ?_)
        have hP : va_P D ncl ((w_P a cA ii li ia la bd) ++ (w_B b cA (va_up ib 11 w0) lb jb kb)) H := hP
        have hD : va_D _ ((w_P a cA ii li ia la bd) ++ (w_B b cA (va_up ib 11 w0) lb jb kb)) := hD
        refine lv_iload_n hx hb d_P_wants_56 rfl (lv_at hl 0 rfl) ?_
        refine W.widen (k := 2) (n := 12) (Nat.le_of_ble_eq_true rfl) (Nat.le_of_ble_eq_true rfl) ?_
        exact wt_zret hx hb hr rfl hlk hP hD hS (va_up ib 11 w0) rfl ⟨hc1s, hw0, by rw [if_pos g2], rfl⟩ d_P_wants_57
      · refine lv_iconst (v := 1) hx hb d_P_wants_40 (by decide) ?_
        refine lv_goto (tgt := 45) hx hb d_P_wants_41 (by decide) ?_
        refine lv_istore_n (lv' := [(3, .int 1), (0, .ref (a 0)), (1, .int (nI k)), (2, .int w0)]) hx hb d_P_wants_45 rfl hl (by decide) rfl (fun ls hl => ?_)
        refine lv_aload_n hx hb d_P_wants_46 rfl (lv_at hl 1 rfl) ?_
        refine va_get (D := D) (ci := 0) (v := .ref (a 3)) (C := R_P) (T := T_P) (N := 10) hx hb (uw_P Z.1 hg.1) (fun _ h => h) hown hK hP 0 rfl rfl 2 (by decide) (kw200 Z.1 _ _ hg.1) (fun _ h9 => h9) rfl d_P_wants_47 ?_
        refine lv_iload_n hx hb d_P_wants_50 rfl (lv_at hl 2 rfl) ?_
        refine va_aldq hx hb hK hP 1 3 rfl rfl (vp_in_nI (n := k) (N := 4) (by omega) (by decide)) d_P_wants_51 ?_
        rw [nI_clamp (n := k) (by omega)]
        rw [show va_rf ((fun j => some (bd j)) k) = .ref (b 0) from congrArg Value.ref (hbd k hk rfl)]
        refine lv_iload_n hx hb d_P_wants_52 rfl (lv_at hl 3 rfl) ?_
        refine va_putN (D := D) (ci := 2) (v := .int w0) (ty := t_B 11) (C := R_B) (T := T_B) (N := 12) hx hb (uw_B Z.1 hg.1) (fun _ h => h) t_B t_B_ok n_B hown hK hP hD hS 3 rfl rfl 11 (by decide) (kw50 Z.1 _ _ hg.1) (fun _ h9 => h9) rfl (by decide +kernel) rfl rfl (Nat.le_of_ble_eq_true rfl) d_P_wants_53 (fun H locs hP hD hS => ?_)
        have hP : va_P D ncl ((w_P a cA ii li ia la bd) ++ (w_B b cA (va_up ib 11 w0) lb jb kb)) H := hP
        have hD : va_D _ ((w_P a cA ii li ia la bd) ++ (w_B b cA (va_up ib 11 w0) lb jb kb)) := hD
        refine lv_iload_n hx hb d_P_wants_56 rfl (lv_at hl 0 rfl) ?_
        refine W.widen (k := 2) (n := 12) (Nat.le_of_ble_eq_true rfl) (Nat.le_of_ble_eq_true rfl) ?_
        exact wt_zret hx hb hr rfl hlk hP hD hS (va_up ib 11 w0) rfl ⟨hc1s, hw0, by rw [if_neg g2], rfl⟩ d_P_wants_57
    · refine W.widen (k := 1) (n := 6) (Nat.le_of_ble_eq_true rfl) (Nat.le_of_ble_eq_true rfl) ?_
      exact w_throwF (C := "java/lang/IllegalArgumentException") hx hb hml hl.1 hown hlk hem Z.2.2.1 hS0 (kw347 Z.1 _ _ hg.1) (kw348 Z.1 _ _ hg.1) (kw11 Z.1 _ _ hg.1) (vk_R.warm hg.1 (Z.2.2.2.1 (203, "0 to 200 are wanted") (by decide))) (ow_73 Z hg) (by decide) d_P_wants_17 d_P_wants_20 d_P_wants_21 d_P_wants_23 d_P_wants_26 (Nat.le_of_ble_eq_true rfl) (Nat.le_of_ble_eq_true rfl) (Nat.le_of_ble_eq_true rfl) (Nat.le_of_ble_eq_true rfl) (fun x t hW hX => ⟨Or.inr ⟨x, rfl, Or.inr ⟨hc1, fun z => absurd d1 (by rw [if_pos ((ib_iff (n := 201) (hi := 200) (by decide) rfl).mpr z)]; decide), hX⟩⟩, xF hX⟩)
  · refine th_wid (k := 2) (n := 12) (Nat.le_of_ble_eq_true rfl) (Nat.le_of_ble_eq_true rfl) ?_
    exact wt_pass hem hlk hA hS1 (fun t1 ht hW => have hX := th_up hth.2 hS0 ht al hW; ⟨Or.inr ⟨x, rfl, Or.inl ⟨hth.1, hX⟩⟩, xF hX⟩)
end
section
/-- the copies of rows laid from y on: board, x, y, turn, wide, high -/
abbrev Cp : Type := Nat × Nat × Nat × Nat × Nat × Nat
def lcp (l0 g : Nat) : Nat → List Rw → List Cp
  | _, [] => []
  | y, q :: rw => (List.range q.2.2.1).map (fun i => (q.1, l0 + i * (q.2.2.2.1 + g), y, q.2.1, q.2.2.2.1, q.2.2.2.2)) ++ lcp l0 g (y + (q.2.2.2.2 + g)) rw
def cp0 : Cp := (0, 0, 0, 0, 0, 0)
def cpk (q : Cp) (k : Nat) : Nat := match k with
  | 0 => q.1
  | 1 => q.2.1
  | 2 => q.2.2.1
  | 3 => q.2.2.2.1
  | 4 => q.2.2.2.2.1
  | _ => q.2.2.2.2.2
theorem lcp_len (l0 g : Nat) : ∀ (rw : List Rw) (y : Nat), (lcp l0 g y rw).length = ly_n rw := by
  intro rw
  induction rw with
  | nil => intro y; rfl
  | cons q rw ih => intro y; rw [lcp, List.length_append, ih]; simp [ly_n]
theorem lcp_get (l0 g : Nat) : ∀ (rw : List Rw) (y r i : Nat), r < rw.length → i < (rw.getD r rw0).2.2.1 →
    (lcp l0 g y rw).getD (ly_n (rw.take r) + i) cp0 = ((rw.getD r rw0).1, l0 + i * ((rw.getD r rw0).2.2.2.1 + g), ly_y y g (rw.take r), (rw.getD r rw0).2.1, (rw.getD r rw0).2.2.2.1, (rw.getD r rw0).2.2.2.2) := by
  intro rw
  induction rw with
  | nil => intro y r i h; simp at h
  | cons q rw ih =>
    intro y r i h hi
    cases r with
    | zero =>
      simp only [List.getD_cons_zero] at hi
      rw [lcp, gd_l _ _ _ (by simp [ly_n]; exact hi)]
      simp [ly_n, ly_y, List.getD_eq_getElem?_getD, hi]
    | succ r =>
      simp only [List.getD_cons_succ] at hi ⊢
      have h2 := ih (y + (q.2.2.2.2 + g)) r i (by simp at h; omega) hi
      have e1 : ly_n ((q :: rw).take (r + 1)) + i = q.2.2.1 + (ly_n (rw.take r) + i) := by simp [ly_n]; omega
      have e2 : ly_y y g ((q :: rw).take (r + 1)) = ly_y (y + (q.2.2.2.2 + g)) g (rw.take r) := by simp [ly_y]; omega
      rw [e1, e2, ← h2, lcp, List.getD_eq_getElem?_getD, List.getD_eq_getElem?_getD, List.getElem?_append_right (by simp)]
      simp
theorem ly_loc : ∀ (rw : List Rw) (c : Nat), c < ly_n rw → ∃ r i, r < rw.length ∧ i < (rw.getD r rw0).2.2.1 ∧ c = ly_n (rw.take r) + i := by
  intro rw
  induction rw with
  | nil => intro c h; simp [ly_n] at h
  | cons q rw ih =>
    intro c h
    rcases Nat.lt_or_ge c q.2.2.1 with z | z
    · exact ⟨0, c, by simp, by simpa using z, by simp [ly_n]⟩
    · have e : ly_n (q :: rw) = q.2.2.1 + ly_n rw := by simp [ly_n]
      obtain ⟨r, i, h1, h2, h3⟩ := ih (c - q.2.2.1) (by omega)
      refine ⟨r + 1, i, by simp; omega, by simpa using h2, ?_⟩
      have e2 : ly_n ((q :: rw).take (r + 1)) = q.2.2.1 + ly_n (rw.take r) := by simp [ly_n]
      omega
/-- what the cells say of copy c -/
theorem yR_cp {l0 y0 g : Nat} {rw : List Rw} {bf : Nat → Bool} {u : St} (h : yR l0 y0 g rw bf u) {c : Nat} (hc : c < ly_n rw) : ∃ r, r < rw.length ∧ u.2.2.1 6 c = nI r ∧ u.2.2.1 0 r = nI (cpk ((lcp l0 g y0 rw).getD c cp0) 0) ∧ u.2.2.2 7 c = lN (cpk ((lcp l0 g y0 rw).getD c cp0) 1) ∧ u.2.2.2 3 r = lN (cpk ((lcp l0 g y0 rw).getD c cp0) 2) ∧ u.2.2.1 1 r = nI (cpk ((lcp l0 g y0 rw).getD c cp0) 3) ∧ u.2.2.2 4 r = lN (cpk ((lcp l0 g y0 rw).getD c cp0) 4) ∧ u.2.2.2 5 r = lN (cpk ((lcp l0 g y0 rw).getD c cp0) 5) ∧ rw.getD r rw0 ∈ rw ∧ cpk ((lcp l0 g y0 rw).getD c cp0) 0 = (rw.getD r rw0).1 ∧ cpk ((lcp l0 g y0 rw).getD c cp0) 3 = (rw.getD r rw0).2.1 := by
  obtain ⟨r, i, h1, h2, h3⟩ := ly_loc rw c hc
  obtain ⟨f1, f2, f3, f4, f5, f6, f7⟩ := h.2.2.1 r h1
  have g1 := f7 i h2
  rw [h3, lcp_get l0 g rw y0 r i h1 h2]
  exact ⟨r, h1, g1.1, f1, g1.2, f4, f2, f5, f6, gd_mem _ _ h1, rfl, rfl⟩
set_option maxHeartbeats 4000000 in
set_option maxRecDepth 100000 in
theorem m_P_bad {l : Launch} {s0 : State} {D : va_G} {cA sa : Nat → Nat} (Z : zE l s0 D cA sa) (a : Nat → Nat) (ii : Nat → Int32) (li : Nat → Int64) (ia : Nat → Nat → Int32) (la : Nat → Nat → Int64) (bd : Nat → Nat) (y : Nat → Nat) (iy : Nat → Int32) (ly : Nat → Int64) (jy : Nat → Nat → Int32) (ky : Nat → Nat → Int64) (hya : y 0 = a 6) (l0 y0 g : Nat) (rw : List Rw) (bf : Nat → Bool) (hy : yR l0 y0 g rw bf (iy, ly, jy, ky)) (hok : okR l0 y0 g rw) (v on : Int32) (hon : on = 0 ∨ on = 1) (sz : Nat) : th_Met l y_P_bad [.code y_P_bad c_P_bad 4 (some .boolean)] ({ frames := 10, cells := 1, slots := 6, locals := 300 }) (wP s0 D [.ref (a 0), .int v, .int on] ((w_P a cA ii li ia la bd) ++ (w_Y y cA iy ly jy ky)) sz) (th_Qi (fun (r : Int32) (u : Nat → Nat → Int32) => ∃ c, c < ly_n rw ∧ v = nI c ∧ r = (if jy 8 c = on then 0 else 1) ∧ u = va_up jy 8 (upd (jy 8) c on)) (wB D (va_A ((w_P a cA ii li ia la bd) ++ (w_Y y cA iy ly jy ky)) sz) (fun (u : Nat → Nat → Int32) => (w_P a cA ii li ia la bd) ++ (w_Y y cA iy ly u ky))) (va_A ((w_P a cA ii li ia la bd) ++ (w_Y y cA iy ly jy ky)) sz) (fun x H t => ¬ (∃ c, c < ly_n rw ∧ v = nI c) ∧ th_X "java/lang/IndexOutOfBoundsException" x H t)) 1 6 (va_A ((w_P a cA ii li ia la bd) ++ (w_Y y cA iy ly jy ky)) sz) := by
  refine wMetT Z (by decide) (Nat.le_of_ble_eq_true rfl) ?_
  intro p e s m below meth c hx hb hr hml hown hlk hem hg hK hsz hP hD hA hlo hS ls hl
  subst hsz
  have hown : s.vm.findClass R_P = some m.cls := hown
  have hS0 : va_S (fun q => s.heap.size ≤ q) s.heap s.heap [] := va_S.rf
  have hn160 : ly_n rw ≤ 160 := Nat.le_trans (ok_n (fun z hz => (hok.2.2.2.2 z hz).2.2.2.1)) (by have := hok.2.2.2.1; omega)
  refine lv_aload_n hx hb d_P_bad_0 rfl (lv_at hl 0 rfl) ?_
  refine lv_iload_n hx hb d_P_bad_1 rfl (lv_at hl 1 rfl) ?_
  refine w_check (wt_runV (rest := []) hx hb hml hown hl.1 hg hlo hK hP hD (qS hS0 hA) (m_P_checkCopy Z a ii li ia la bd y iy ly jy ky hya v (ly_n rw) hy.1.2 (by omega) s.heap.size) (kw458 Z.1) (kw460 Z.1) (kp_P_checkCopy Z.1) (kw461 Z.1) (kw1 Z.1) ⟨by decide, by decide, (by decide +kernel : (parseMethodDescriptor y_P_checkCopy.desc).map (fun d => d.parameters.length) = some 1)⟩ ⟨Nat.le_of_ble_eq_true rfl, Nat.le_of_ble_eq_true rfl⟩ [0, 1, 2, 3, 4, 5, 6, 7, 8, 9, 10, 11, 12, 13, 14] rfl rfl (ci := 0) (q0 := 0) rfl rfl rfl (Nat.le_of_ble_eq_true rfl) d_P_bad_2 ⟨Nat.le_of_ble_eq_true rfl, Nat.le_of_ble_eq_true rfl⟩) hP hS0 (fun H locs hc1 hP hS0 => ?_) (fun x t locs1 al hth hS1 => ?_)
  · skip
    refine W.widen (k := 1) (n := 6) (Nat.le_of_ble_eq_true rfl) (Nat.le_of_ble_eq_true rfl) ?_
    have hS := qS hS0 hA
    obtain ⟨c0, hc, rfl⟩ := hc1
    have hnar : vp_nar .boolean on = on := by rcases hon with h | h <;> rw [h] <;> rfl
    refine lv_aload_n hx hb d_P_bad_5 rfl (lv_at hl 0 rfl) ?_
    refine va_get (D := D) (ci := 0) (v := .ref (a 6)) (C := R_P) (T := T_P) (N := 10) hx hb (uw_P Z.1 hg.1) (fun _ h => h) hown hK hP 0 rfl rfl 5 (by decide) (kw203 Z.1 _ _ hg.1) (fun _ h9 => h9) rfl d_P_bad_6 ?_
    rw [← hya]
    refine va_getN (D := D) (ci := 3) (v := .ref (y 9)) (C := R_Y) (T := T_Y) (N := 17) hx hb (uw_Y Z.1 hg.1) (fun _ h => h) hown hK hP 3 rfl rfl 8 (by decide) (kw148 Z.1 _ _ hg.1) (fun _ h9 => h9) rfl d_P_bad_9 ?_
    refine lv_iload_n hx hb d_P_bad_12 rfl (lv_at hl 1 rfl) ?_
    refine va_zald hx hb hK hP 12 2 rfl rfl (vp_in_nI (n := c0) (N := 160) (by omega) (by decide)) d_P_bad_13 ?_
    refine lv_topi (fun z1 ez1 => ?_)
    rw [nI_clamp (n := c0) (by omega)] at ez1
    obtain rfl : z1 = ((jy 8) c0) := ez1
    refine lv_iload_n hx hb d_P_bad_14 rfl (lv_at hl 2 rfl) ?_
    refine lv_icmp_eq (tgt := 22) hx hb d_P_bad_15 (by decide) (fun d2 => ?_) (fun d2 => ?_)
    · refine lv_iconst (v := 0) hx hb d_P_bad_22 (by decide) ?_
      refine lv_istore_n (lv' := [(3, .int 0), (0, .ref (a 0)), (1, .int (nI c0)), (2, .int on)]) hx hb d_P_bad_23 rfl hl (by decide) rfl (fun ls hl => ?_)
      refine lv_aload_n hx hb d_P_bad_24 rfl (lv_at hl 1 rfl) ?_
      refine va_get (D := D) (ci := 0) (v := .ref (a 6)) (C := R_P) (T := T_P) (N := 10) hx hb (uw_P Z.1 hg.1) (fun _ h => h) hown hK hP 0 rfl rfl 5 (by decide) (kw203 Z.1 _ _ hg.1) (fun _ h9 => h9) rfl d_P_bad_25 ?_
      rw [← hya]
      refine va_getN (D := D) (ci := 3) (v := .ref (y 9)) (C := R_Y) (T := T_Y) (N := 17) hx hb (uw_Y Z.1 hg.1) (fun _ h => h) hown hK hP 3 rfl rfl 8 (by decide) (kw148 Z.1 _ _ hg.1) (fun _ h9 => h9) rfl d_P_bad_28 ?_
      refine lv_iload_n hx hb d_P_bad_31 rfl (lv_at hl 2 rfl) ?_
      refine lv_iload_n hx hb d_P_bad_32 rfl (lv_at hl 3 rfl) ?_
      refine va_zast hx hb hK hP hD hS 12 2 rfl rfl (vp_in_nI (n := c0) (N := 160) (by omega) (by decide)) d_P_bad_33 (fun H locs hP hD hS => ?_)
      rw [nI_clamp (n := c0) (by omega)] at hP hD
      have hP : va_P D ncl ((w_P a cA ii li ia la bd) ++ (w_Y y cA iy ly (va_up jy 8 (upd (jy 8) c0 (vp_nar .boolean on))) ky)) H := hP
      have hD : va_D _ ((w_P a cA ii li ia la bd) ++ (w_Y y cA iy ly (va_up jy 8 (upd (jy 8) c0 (vp_nar .boolean on))) ky)) := hD
      refine lv_iload_n hx hb d_P_bad_34 rfl (lv_at hl 0 rfl) ?_
      refine W.widen (k := 1) (n := 6) (Nat.le_of_ble_eq_true rfl) (Nat.le_of_ble_eq_true rfl) ?_
      exact wt_zret hx hb hr rfl hlk hP hD hS (va_up jy 8 (upd (jy 8) c0 (vp_nar .boolean on))) rfl ⟨c0, hc, rfl, by rw [if_pos d2], by rw [hnar]⟩ d_P_bad_35
    · refine lv_iconst (v := 1) hx hb d_P_bad_18 (by decide) ?_
      refine lv_goto (tgt := 23) hx hb d_P_bad_19 (by decide) ?_
      refine lv_istore_n (lv' := [(3, .int 1), (0, .ref (a 0)), (1, .int (nI c0)), (2, .int on)]) hx hb d_P_bad_23 rfl hl (by decide) rfl (fun ls hl => ?_)
      refine lv_aload_n hx hb d_P_bad_24 rfl (lv_at hl 1 rfl) ?_
      refine va_get (D := D) (ci := 0) (v := .ref (a 6)) (C := R_P) (T := T_P) (N := 10) hx hb (uw_P Z.1 hg.1) (fun _ h => h) hown hK hP 0 rfl rfl 5 (by decide) (kw203 Z.1 _ _ hg.1) (fun _ h9 => h9) rfl d_P_bad_25 ?_
      rw [← hya]
      refine va_getN (D := D) (ci := 3) (v := .ref (y 9)) (C := R_Y) (T := T_Y) (N := 17) hx hb (uw_Y Z.1 hg.1) (fun _ h => h) hown hK hP 3 rfl rfl 8 (by decide) (kw148 Z.1 _ _ hg.1) (fun _ h9 => h9) rfl d_P_bad_28 ?_
      refine lv_iload_n hx hb d_P_bad_31 rfl (lv_at hl 2 rfl) ?_
      refine lv_iload_n hx hb d_P_bad_32 rfl (lv_at hl 3 rfl) ?_
      refine va_zast hx hb hK hP hD hS 12 2 rfl rfl (vp_in_nI (n := c0) (N := 160) (by omega) (by decide)) d_P_bad_33 (fun H locs hP hD hS => ?_)
      rw [nI_clamp (n := c0) (by omega)] at hP hD
      have hP : va_P D ncl ((w_P a cA ii li ia la bd) ++ (w_Y y cA iy ly (va_up jy 8 (upd (jy 8) c0 (vp_nar .boolean on))) ky)) H := hP
      have hD : va_D _ ((w_P a cA ii li ia la bd) ++ (w_Y y cA iy ly (va_up jy 8 (upd (jy 8) c0 (vp_nar .boolean on))) ky)) := hD
      refine lv_iload_n hx hb d_P_bad_34 rfl (lv_at hl 0 rfl) ?_
      refine W.widen (k := 1) (n := 6) (Nat.le_of_ble_eq_true rfl) (Nat.le_of_ble_eq_true rfl) ?_
      exact wt_zret hx hb hr rfl hlk hP hD hS (va_up jy 8 (upd (jy 8) c0 (vp_nar .boolean on))) rfl ⟨c0, hc, rfl, by rw [if_neg d2], by rw [hnar]⟩ d_P_bad_35
  · refine th_wid (k := 1) (n := 6) (Nat.le_of_ble_eq_true rfl) (Nat.le_of_ble_eq_true rfl) ?_
    exact wt_pass hem hlk hA hS1 (fun t1 ht hW => have hX := th_up hth.2 hS0 ht al hW; ⟨Or.inr ⟨x, rfl, hth.1, hX⟩, xF hX⟩)
set_option maxHeartbeats 4000000 in
set_option maxRecDepth 100000 in
theorem m_P_at {l : Launch} {s0 : State} {D : va_G} {cA sa : Nat → Nat} (Z : zE l s0 D cA sa) (a : Nat → Nat) (ii : Nat → Int32) (li : Nat → Int64) (ia : Nat → Nat → Int32) (la : Nat → Nat → Int64) (bd : Nat → Nat) (y : Nat → Nat) (iy : Nat → Int32) (ly : Nat → Int64) (jy : Nat → Nat → Int32) (ky : Nat → Nat → Int64) (hya : y 0 = a 6) (l0 y0 g : Nat) (rw : List Rw) (bf : Nat → Bool) (hy : yR l0 y0 g rw bf (iy, ly, jy, ky)) (hok : okR l0 y0 g rw) (v k : Int32) (sz : Nat) : th_Met l y_P_at [.code y_P_at c_P_at 4 (some .long)] ({ frames := 10, cells := 2, slots := 12, locals := 300 }) (wP s0 D [.ref (a 0), .int v, .int k] ((w_P a cA ii li ia la bd) ++ (w_Y y cA iy ly jy ky)) sz) (th_Ql (fun (r : Int64) (_ : Unit) => ∃ c j, c < ly_n rw ∧ v = nI c ∧ j < 6 ∧ k = nI j ∧ r = lN (cpk ((lcp l0 g y0 rw).getD c cp0) j)) (wB D (va_A ((w_P a cA ii li ia la bd) ++ (w_Y y cA iy ly jy ky)) sz) (fun _ => (w_P a cA ii li ia la bd) ++ (w_Y y cA iy ly jy ky))) (va_A ((w_P a cA ii li ia la bd) ++ (w_Y y cA iy ly jy ky)) sz) (fun x H t => ¬ ((∃ c, c < ly_n rw ∧ v = nI c) ∧ ∃ j, j < 6 ∧ k = nI j) ∧ th_X "java/lang/IndexOutOfBoundsException" x H t)) 2 12 (va_A ((w_P a cA ii li ia la bd) ++ (w_Y y cA iy ly jy ky)) sz) := by
  refine wMetT Z (by decide) (Nat.le_of_ble_eq_true rfl) ?_
  intro p e s m below meth c hx hb hr hml hown hlk hem hg hK hsz hP hD hA hlo hS ls hl
  subst hsz
  have hown : s.vm.findClass R_P = some m.cls := hown
  have hS0 : va_S (fun q => s.heap.size ≤ q) s.heap s.heap [] := va_S.rf
  have hn160 : ly_n rw ≤ 160 := Nat.le_trans (ok_n (fun z hz => (hok.2.2.2.2 z hz).2.2.2.1)) (by have := hok.2.2.2.1; omega)
  have h8 := hok.2.2.2.1
  refine lv_aload_n hx hb d_P_at_0 rfl (lv_at hl 0 rfl) ?_
  refine lv_iload_n hx hb d_P_at_1 rfl (lv_at hl 1 rfl) ?_
  refine w_check (wt_runV (rest := []) hx hb hml hown hl.1 hg hlo hK hP hD (qS hS0 hA) (m_P_checkCopy Z a ii li ia la bd y iy ly jy ky hya v (ly_n rw) hy.1.2 (by omega) s.heap.size) (kw458 Z.1) (kw460 Z.1) (kp_P_checkCopy Z.1) (kw461 Z.1) (kw1 Z.1) ⟨by decide, by decide, (by decide +kernel : (parseMethodDescriptor y_P_checkCopy.desc).map (fun d => d.parameters.length) = some 1)⟩ ⟨Nat.le_of_ble_eq_true rfl, Nat.le_of_ble_eq_true rfl⟩ [0, 1, 2, 3, 4, 5, 6, 7, 8, 9, 10, 11, 12, 13, 14] rfl rfl (ci := 0) (q0 := 0) rfl rfl rfl (Nat.le_of_ble_eq_true rfl) d_P_at_2 ⟨Nat.le_of_ble_eq_true rfl, Nat.le_of_ble_eq_true rfl⟩) hP hS0 (fun H locs hc1 hP hS0 => ?_) (fun x t locs1 al hth hS1 => ?_)
  · skip
    refine W.widen (k := 1) (n := 6) (Nat.le_of_ble_eq_true rfl) (Nat.le_of_ble_eq_true rfl) ?_
    have hS := qS hS0 hA
    obtain ⟨c0, hc, rfl⟩ := hc1
    obtain ⟨r0, w1, w2, w3, w4, w5, w6, w7, w8, w9, w10, w11⟩ := yR_cp hy hc
    dsimp only at w2 w3 w4 w5 w6 w7 w8
    have hb4 := (hok.2.2.2.2 _ w9).1
    have ht2 := (hok.2.2.2.2 _ w9).2.1
    refine lv_aload_n hx hb d_P_at_5 rfl (lv_at hl 0 rfl) ?_
    refine va_get (D := D) (ci := 0) (v := .ref (a 6)) (C := R_P) (T := T_P) (N := 10) hx hb (uw_P Z.1 hg.1) (fun _ h => h) hown hK hP 0 rfl rfl 5 (by decide) (kw203 Z.1 _ _ hg.1) (fun _ h9 => h9) rfl d_P_at_6 ?_
    rw [← hya]
    refine va_getN (D := D) (ci := 3) (v := .ref (y 7)) (C := R_Y) (T := T_Y) (N := 17) hx hb (uw_Y Z.1 hg.1) (fun _ h => h) hown hK hP 3 rfl rfl 6 (by decide) (kw144 Z.1 _ _ hg.1) (fun _ h9 => h9) rfl d_P_at_9 ?_
    refine lv_iload_n hx hb d_P_at_12 rfl (lv_at hl 1 rfl) ?_
    refine va_iald hx hb hK hP 10 0 rfl rfl (vp_in_nI (n := c0) (N := 160) (by omega) (by decide)) d_P_at_13 ?_
    refine lv_topi (fun z1 ez1 => ?_)
    rw [nI_clamp (n := c0) (by omega)] at ez1
    obtain rfl : z1 = ((jy 6) c0) := ez1
    refine lv_topi (fun z2 ez2 => ?_)
    obtain rfl : z2 = (nI r0) := by rw [ez2]; exact w2
    refine lv_istore_n (lv' := [(3, .int (nI r0)), (0, .ref (a 0)), (1, .int (nI c0)), (2, .int k)]) hx hb d_P_at_14 rfl hl (by decide) rfl (fun ls hl => ?_)
    refine lv_iload_n hx hb d_P_at_15 rfl (lv_at hl 3 rfl) ?_
    by_cases hk6 : ∃ j, j < 6 ∧ k = nI j
    · obtain ⟨j, hj, rfl⟩ := hk6
      have hj5 : j = 0 ∨ j = 1 ∨ j = 2 ∨ j = 3 ∨ j = 4 ∨ j = 5 := by omega
      rcases hj5 with rfl | rfl | rfl | rfl | rfl | rfl
      · refine lv_tableIn (tgt := 56) hx hb d_P_at_16 (by decide) (by decide) rfl (by decide) ?_
        refine lv_aload_n hx hb d_P_at_56 rfl (lv_at hl 1 rfl) ?_
        refine va_get (D := D) (ci := 0) (v := .ref (a 6)) (C := R_P) (T := T_P) (N := 10) hx hb (uw_P Z.1 hg.1) (fun _ h => h) hown hK hP 0 rfl rfl 5 (by decide) (kw203 Z.1 _ _ hg.1) (fun _ h9 => h9) rfl d_P_at_57 ?_
        rw [← hya]
        refine va_getN (D := D) (ci := 3) (v := .ref (y 1)) (C := R_Y) (T := T_Y) (N := 17) hx hb (uw_Y Z.1 hg.1) (fun _ h => h) hown hK hP 3 rfl rfl 0 (by decide) (kw132 Z.1 _ _ hg.1) (fun _ h9 => h9) rfl d_P_at_60 ?_
        refine lv_iload_n hx hb d_P_at_63 rfl (lv_at hl 0 rfl) ?_
        refine va_iald hx hb hK hP 4 0 rfl rfl (vp_in_nI (n := r0) (N := 8) (by omega) (by decide)) d_P_at_64 ?_
        refine lv_topi (fun z3 ez3 => ?_)
        rw [nI_clamp (n := r0) (by omega)] at ez3
        obtain rfl : z3 = ((jy 0) r0) := ez3
        refine lv_i2l hx hb d_P_at_65 rfl ?_
        refine W.widen (k := 2) (n := 12) (Nat.le_of_ble_eq_true rfl) (Nat.le_of_ble_eq_true rfl) ?_
        exact wt_lret hx hb hr hlk hP hD hS () rfl ⟨c0, 0, hc, rfl, by decide, rfl, by rw [w3, iN_i2l (by omega), lZ_nat]⟩ d_P_at_66
      · refine lv_tableIn (tgt := 67) hx hb d_P_at_16 (by decide) (by decide) rfl (by decide) ?_
        refine lv_aload_n hx hb d_P_at_67 rfl (lv_at hl 1 rfl) ?_
        refine va_get (D := D) (ci := 0) (v := .ref (a 6)) (C := R_P) (T := T_P) (N := 10) hx hb (uw_P Z.1 hg.1) (fun _ h => h) hown hK hP 0 rfl rfl 5 (by decide) (kw203 Z.1 _ _ hg.1) (fun _ h9 => h9) rfl d_P_at_68 ?_
        rw [← hya]
        refine va_getN (D := D) (ci := 3) (v := .ref (y 8)) (C := R_Y) (T := T_Y) (N := 17) hx hb (uw_Y Z.1 hg.1) (fun _ h => h) hown hK hP 3 rfl rfl 7 (by decide) (kw146 Z.1 _ _ hg.1) (fun _ h9 => h9) rfl d_P_at_71 ?_
        refine lv_iload_n hx hb d_P_at_74 rfl (lv_at hl 2 rfl) ?_
        refine va_lald hx hb hK hP 11 1 rfl rfl (vp_in_nI (n := c0) (N := 160) (by omega) (by decide)) d_P_at_75 ?_
        refine lv_topl (fun z4 ez4 => ?_)
        rw [nI_clamp (n := c0) (by omega)] at ez4
        obtain rfl : z4 = ((ky 7) c0) := ez4
        refine W.widen (k := 2) (n := 12) (Nat.le_of_ble_eq_true rfl) (Nat.le_of_ble_eq_true rfl) ?_
        exact wt_lret hx hb hr hlk hP hD hS () rfl ⟨c0, 1, hc, rfl, by decide, rfl, by rw [w4]⟩ d_P_at_76
      · refine lv_tableIn (tgt := 77) hx hb d_P_at_16 (by decide) (by decide) rfl (by decide) ?_
        refine lv_aload_n hx hb d_P_at_77 rfl (lv_at hl 1 rfl) ?_
        refine va_get (D := D) (ci := 0) (v := .ref (a 6)) (C := R_P) (T := T_P) (N := 10) hx hb (uw_P Z.1 hg.1) (fun _ h => h) hown hK hP 0 rfl rfl 5 (by decide) (kw203 Z.1 _ _ hg.1) (fun _ h9 => h9) rfl d_P_at_78 ?_
        rw [← hya]
        refine va_getN (D := D) (ci := 3) (v := .ref (y 4)) (C := R_Y) (T := T_Y) (N := 17) hx hb (uw_Y Z.1 hg.1) (fun _ h => h) hown hK hP 3 rfl rfl 3 (by decide) (kw138 Z.1 _ _ hg.1) (fun _ h9 => h9) rfl d_P_at_81 ?_
        refine lv_iload_n hx hb d_P_at_84 rfl (lv_at hl 0 rfl) ?_
        refine va_lald hx hb hK hP 7 1 rfl rfl (vp_in_nI (n := r0) (N := 8) (by omega) (by decide)) d_P_at_85 ?_
        refine lv_topl (fun z5 ez5 => ?_)
        rw [nI_clamp (n := r0) (by omega)] at ez5
        obtain rfl : z5 = ((ky 3) r0) := ez5
        refine W.widen (k := 2) (n := 12) (Nat.le_of_ble_eq_true rfl) (Nat.le_of_ble_eq_true rfl) ?_
        exact wt_lret hx hb hr hlk hP hD hS () rfl ⟨c0, 2, hc, rfl, by decide, rfl, by rw [w5]⟩ d_P_at_86
      · refine lv_tableIn (tgt := 87) hx hb d_P_at_16 (by decide) (by decide) rfl (by decide) ?_
        refine lv_aload_n hx hb d_P_at_87 rfl (lv_at hl 1 rfl) ?_
        refine va_get (D := D) (ci := 0) (v := .ref (a 6)) (C := R_P) (T := T_P) (N := 10) hx hb (uw_P Z.1 hg.1) (fun _ h => h) hown hK hP 0 rfl rfl 5 (by decide) (kw203 Z.1 _ _ hg.1) (fun _ h9 => h9) rfl d_P_at_88 ?_
        rw [← hya]
        refine va_getN (D := D) (ci := 3) (v := .ref (y 2)) (C := R_Y) (T := T_Y) (N := 17) hx hb (uw_Y Z.1 hg.1) (fun _ h => h) hown hK hP 3 rfl rfl 1 (by decide) (kw134 Z.1 _ _ hg.1) (fun _ h9 => h9) rfl d_P_at_91 ?_
        refine lv_iload_n hx hb d_P_at_94 rfl (lv_at hl 0 rfl) ?_
        refine va_iald hx hb hK hP 5 0 rfl rfl (vp_in_nI (n := r0) (N := 8) (by omega) (by decide)) d_P_at_95 ?_
        refine lv_topi (fun z6 ez6 => ?_)
        rw [nI_clamp (n := r0) (by omega)] at ez6
        obtain rfl : z6 = ((jy 1) r0) := ez6
        refine lv_i2l hx hb d_P_at_96 rfl ?_
        refine W.widen (k := 2) (n := 12) (Nat.le_of_ble_eq_true rfl) (Nat.le_of_ble_eq_true rfl) ?_
        exact wt_lret hx hb hr hlk hP hD hS () rfl ⟨c0, 3, hc, rfl, by decide, rfl, by rw [w6, iN_i2l (by omega), lZ_nat]⟩ d_P_at_97
      · refine lv_tableIn (tgt := 98) hx hb d_P_at_16 (by decide) (by decide) rfl (by decide) ?_
        refine lv_aload_n hx hb d_P_at_98 rfl (lv_at hl 1 rfl) ?_
        refine va_get (D := D) (ci := 0) (v := .ref (a 6)) (C := R_P) (T := T_P) (N := 10) hx hb (uw_P Z.1 hg.1) (fun _ h => h) hown hK hP 0 rfl rfl 5 (by decide) (kw203 Z.1 _ _ hg.1) (fun _ h9 => h9) rfl d_P_at_99 ?_
        rw [← hya]
        refine va_getN (D := D) (ci := 3) (v := .ref (y 5)) (C := R_Y) (T := T_Y) (N := 17) hx hb (uw_Y Z.1 hg.1) (fun _ h => h) hown hK hP 3 rfl rfl 4 (by decide) (kw140 Z.1 _ _ hg.1) (fun _ h9 => h9) rfl d_P_at_102 ?_
        refine lv_iload_n hx hb d_P_at_105 rfl (lv_at hl 0 rfl) ?_
        refine va_lald hx hb hK hP 8 1 rfl rfl (vp_in_nI (n := r0) (N := 8) (by omega) (by decide)) d_P_at_106 ?_
        refine lv_topl (fun z7 ez7 => ?_)
        rw [nI_clamp (n := r0) (by omega)] at ez7
        obtain rfl : z7 = ((ky 4) r0) := ez7
        refine W.widen (k := 2) (n := 12) (Nat.le_of_ble_eq_true rfl) (Nat.le_of_ble_eq_true rfl) ?_
        exact wt_lret hx hb hr hlk hP hD hS () rfl ⟨c0, 4, hc, rfl, by decide, rfl, by rw [w7]⟩ d_P_at_107
      · refine lv_tableIn (tgt := 108) hx hb d_P_at_16 (by decide) (by decide) rfl (by decide) ?_
        refine lv_aload_n hx hb d_P_at_108 rfl (lv_at hl 1 rfl) ?_
        refine va_get (D := D) (ci := 0) (v := .ref (a 6)) (C := R_P) (T := T_P) (N := 10) hx hb (uw_P Z.1 hg.1) (fun _ h => h) hown hK hP 0 rfl rfl 5 (by decide) (kw203 Z.1 _ _ hg.1) (fun _ h9 => h9) rfl d_P_at_109 ?_
        rw [← hya]
        refine va_getN (D := D) (ci := 3) (v := .ref (y 6)) (C := R_Y) (T := T_Y) (N := 17) hx hb (uw_Y Z.1 hg.1) (fun _ h => h) hown hK hP 3 rfl rfl 5 (by decide) (kw142 Z.1 _ _ hg.1) (fun _ h9 => h9) rfl d_P_at_112 ?_
        refine lv_iload_n hx hb d_P_at_115 rfl (lv_at hl 0 rfl) ?_
        refine va_lald hx hb hK hP 9 1 rfl rfl (vp_in_nI (n := r0) (N := 8) (by omega) (by decide)) d_P_at_116 ?_
        refine lv_topl (fun z8 ez8 => ?_)
        rw [nI_clamp (n := r0) (by omega)] at ez8
        obtain rfl : z8 = ((ky 5) r0) := ez8
        refine W.widen (k := 2) (n := 12) (Nat.le_of_ble_eq_true rfl) (Nat.le_of_ble_eq_true rfl) ?_
        exact wt_lret hx hb hr hlk hP hD hS () rfl ⟨c0, 5, hc, rfl, by decide, rfl, by rw [w8]⟩ d_P_at_117
    · refine lv_tableOut (tgt := 118) hx hb d_P_at_16 ?_ (by decide) ?_
      · by_cases hz : k.toInt < 0
        · exact Or.inl hz
        · right; apply Classical.byContradiction; intro hz2; obtain ⟨j, hj, rfl⟩ := nI_of (x := k) (fun q => hz (by rw [Int32.lt_iff_toInt_lt] at q; exact q)); rw [nI_toInt hj] at hz2; exact hk6 ⟨j, by omega, rfl⟩
      · refine W.widen (k := 1) (n := 6) (Nat.le_of_ble_eq_true rfl) (Nat.le_of_ble_eq_true rfl) ?_
        exact w_throwF (C := "java/lang/IndexOutOfBoundsException") hx hb hml hl.1 hown hlk hem Z.2.2.1 hS0 (kw276 Z.1 _ _ hg.1) (kw277 Z.1 _ _ hg.1) (kw10 Z.1 _ _ hg.1) (vk_R.warm hg.1 (Z.2.2.2.1 (130, "a copy tells 0 to 5") (by decide))) (ow_132 Z hg) (by decide) d_P_at_118 d_P_at_121 d_P_at_122 d_P_at_124 d_P_at_127 (Nat.le_of_ble_eq_true rfl) (Nat.le_of_ble_eq_true rfl) (Nat.le_of_ble_eq_true rfl) (Nat.le_of_ble_eq_true rfl) (fun x t hW hX => ⟨Or.inr ⟨x, rfl, fun z => hk6 z.2, hX⟩, xF hX⟩)
  · refine th_wid (k := 2) (n := 12) (Nat.le_of_ble_eq_true rfl) (Nat.le_of_ble_eq_true rfl) ?_
    exact wt_pass hem hlk hA hS1 (fun t1 ht hW => have hX := th_up hth.2 hS0 ht al hW; ⟨Or.inr ⟨x, rfl, fun z => hth.1 z.1, hX⟩, xF hX⟩)
end
section
/-! methods that only read: nothing that is there changes -/
theorem wMetRd {l : Launch} {s0 : State} {D : va_G} {cA sa : Nat → Nat} (Z : zE l s0 D cA sa) {y : MethodName} {cc : ByteArray} {maxL : Nat} {ret : Option FieldType} {rm : Room} {av : List Value} {ws : va_W} {sz : Nat} {Qc : Array Value → State → Outcome → State → Prop} {mc ms : Nat} (hy : plainName y.cls = true) (hlen : (lg_sl av).length ≤ maxL)
    (body : ∀ p e s m below meth c, p.tables.exec = Jvm.exec → c.code = cc → meth.sig.returnType = ret → c.maxLocals = maxL → s.vm.findClass y.cls = some m.cls → meth.locks = false → gl s0 s → va_K D ncl (ty0 cA) s → s.heap.size = sz →
      va_P D ncl ws s.heap → va_D (fun q => s0.heap.size ≤ q) ws → (∀ q, s.heap.size ≤ q → s0.heap.size ≤ q) → va_S (fun q => s.heap.size ≤ q) s.heap s.heap [] → ∀ ls, lv_has ls maxL (lv_args 0 av) →
      W p l e rm s m av.toArray below meth c s.heap [] 0 0 (MQ below Qc av.toArray s mc ms (fun q => s.heap.size ≤ q)) (F0 m 0 ls [])) :
    Met l y [.code y cc maxL ret] rm (wP s0 D av ws sz) Qc mc ms (fun q => sz ≤ q) := by
  refine Met.ofW (cc := cc) (maxL := maxL) (ret := ret) hy rfl ?_
  intro p e s m args below meth c s₁ B hml hv
  obtain ⟨rfl, hg, hsz, hP, hD0⟩ := hv
  have hl := lv_entry av hlen
  rw [lg_entry_eq]
  subst hsz
  exact body p e s m below meth c B.exec B.bytes B.returns hml (findClass_of_methodNamed B.named) B.notSynchronized hg (va_K.moved hg.1.alike Z.2.1) rfl hP hD0 (fun q h => Nat.le_trans hg.2.1 h) va_S.rf _ hl
section WRD
variable {p : Program} {l : Launch} {e : Env} {R : Room} {s : State} {m : MethodId} {args : Array Value} {below : List Frame} {meth : Method} {c : Code} {H : Heap} {locs : List Loc} {cells slots : Nat} {Q : State → Prop}
variable {D : va_G} {ws : va_W} {pc : Nat} {ls : Array Slot} {rest st0 : List Value} {a : Array Value} {mc ms : Nat} {cc : ByteArray}
theorem r_iret {post : Int32 → Unit → Prop} {v : Int32} (hx : p.tables.exec = Jvm.exec) (hb : c.code = cc) (hr : meth.sig.returnType = some .int) (hlk : meth.locks = false) (hS0 : va_S (fun q => s.heap.size ≤ q) s.heap H locs) (hp : post v ()) (hdg : decode cc pc = .ok (.ireturn, 1)) :
    W p l e R s m args below meth c H locs cells slots (MQ below (va_Qi post (fun _ _ => True) (fun q => s.heap.size ≤ q)) args s cells slots (fun q => s.heap.size ≤ q)) (F0 m pc ls [.int v]) :=
  W.iret hx hb hr (fun t ht hW => ⟨⟨v, (), rfl, hp, trivial⟩, hS0.F ht⟩) hS0.2.2 hdg hlk
theorem r_zret {post : Int32 → Unit → Prop} {v : Int32} (hx : p.tables.exec = Jvm.exec) (hb : c.code = cc) (hr : meth.sig.returnType = some .boolean) (hn : narrow .boolean (.int v) = .int v) (hlk : meth.locks = false) (hS0 : va_S (fun q => s.heap.size ≤ q) s.heap H locs) (hp : post v ()) (hdg : decode cc pc = .ok (.ireturn, 1)) :
    W p l e R s m args below meth c H locs cells slots (MQ below (va_Qi post (fun _ _ => True) (fun q => s.heap.size ≤ q)) args s cells slots (fun q => s.heap.size ≤ q)) (F0 m pc ls [.int v]) :=
  W.zret hx hb hr hn (fun t ht hW => ⟨⟨v, (), rfl, hp, trivial⟩, hS0.F ht⟩) hS0.2.2 hdg hlk
theorem r_lret {post : Int64 → Unit → Prop} {v : Int64} (hx : p.tables.exec = Jvm.exec) (hb : c.code = cc) (hr : meth.sig.returnType = some .long) (hlk : meth.locks = false) (hS0 : va_S (fun q => s.heap.size ≤ q) s.heap H locs) (hp : post v ()) (hdg : decode cc pc = .ok (.lreturn, 1)) :
    W p l e R s m args below meth c H locs cells slots (MQ below (va_Ql post (fun _ _ => True) (fun q => s.heap.size ≤ q)) args s cells slots (fun q => s.heap.size ≤ q)) (F0 m pc ls [.long v]) :=
  W.lret hx hb hr (fun t ht hW => ⟨⟨v, (), rfl, hp, trivial⟩, hS0.F ht⟩) hS0.2.2 hdg hlk
theorem w_rcalli {post : Int32 → Unit → Prop} (hr : va_Run p l e R s m args below meth c H locs cells slots mc ms (F0 m pc ls st0) rest (va_Qi post (fun _ _ => True) (fun q => H.size ≤ q) a) (fun q => H.size ≤ q)) (hP : va_P D ncl ws H) (hS0 : va_S (fun q => s.heap.size ≤ q) s.heap H locs)
    (kk : ∀ (r : Int32) (H1 : Heap) (locs1 : List Loc), post r () → va_P D ncl ws H1 → va_S (fun q => s.heap.size ≤ q) s.heap H1 locs1 → W p l e R s m args below meth c H1 locs1 (cells + mc) (slots + ms) Q (F0 m (pc + 3) ls (.int r :: rest))) : W p l e R s m args below meth c H locs cells slots Q (F0 m pc ls st0) := by
  refine va_calli hr hS0 (fun q _ h => Nat.le_trans hS0.1 h) (fun q h => Nat.le_trans hS0.1 h) (fun r u t H1 locs1 ht hvm hp _ hz hk hS1 => ?_)
  exact kk r H1 locs1 hp (kp_P hP (fun q hq => hk q hq (Nat.not_le.mpr hq))) hS1
theorem w_rcalll {post : Int64 → Unit → Prop} (hr : va_Run p l e R s m args below meth c H locs cells slots mc ms (F0 m pc ls st0) rest (va_Ql post (fun _ _ => True) (fun q => H.size ≤ q) a) (fun q => H.size ≤ q)) (hP : va_P D ncl ws H) (hS0 : va_S (fun q => s.heap.size ≤ q) s.heap H locs)
    (kk : ∀ (r : Int64) (H1 : Heap) (locs1 : List Loc), post r () → va_P D ncl ws H1 → va_S (fun q => s.heap.size ≤ q) s.heap H1 locs1 → W p l e R s m args below meth c H1 locs1 (cells + mc) (slots + ms) Q (F0 m (pc + 3) ls (.long r :: rest))) : W p l e R s m args below meth c H locs cells slots Q (F0 m pc ls st0) := by
  refine va_calll hr hS0 (fun q _ h => Nat.le_trans hS0.1 h) (fun q h => Nat.le_trans hS0.1 h) (fun r u t H1 locs1 ht hvm hp _ hz hk hS1 => ?_)
  exact kk r H1 locs1 hp (kp_P hP (fun q hq => hk q hq (Nat.not_le.mpr hq))) hS1
end WRD
end
section
set_option maxHeartbeats 4000000 in
set_option maxRecDepth 100000 in
theorem r_B_high {l : Launch} {s0 : State} {D : va_G} {cA sa : Nat → Nat} (Z : zE l s0 D cA sa) (a : Nat → Nat) (ii : Nat → Int32) (li : Nat → Int64) (ia : Nat → Nat → Int32) (la : Nat → Nat → Int64) (tn : Int32) (sz : Nat) : Met l y_B_high [.code y_B_high c_B_high 2 (some .long)] ({ frames := 0, cells := 0, slots := 0, locals := 0 }) (wP s0 D [.ref (a 0), .int tn] (w_B a cA ii li ia la) sz) (va_Ql (fun r (_ : Unit) => r = if tn = 0 then li 10 - li 8 else li 9 - li 7) (fun _ _ => True) (fun q => sz ≤ q)) 0 0 (fun q => sz ≤ q) := by
  refine wMetRd Z (by decide) (Nat.le_of_ble_eq_true rfl) ?_
  intro p e s m below meth c hx hb hr hml hown hlk hg hK hsz hP hD hA hS0 ls hl
  subst hsz
  have hlo : ∀ q, s0.heap.size ≤ q → s0.heap.size ≤ q := fun _ h => h
  have hown : s.vm.findClass R_B = some m.cls := hown
  refine lv_iload_n hx hb d_B_high_0 rfl (lv_at hl 1 rfl) ?_
  refine lv_if_ne (tgt := 16) hx hb d_B_high_1 (by decide) (fun c1 => ?_) (fun c1 => ?_)
  · refine lv_aload_n hx hb d_B_high_16 rfl (lv_at hl 0 rfl) ?_
    refine va_get (D := D) (ci := 2) (v := .long (li 9)) (C := R_B) (T := T_B) (N := 12) hx hb (uw_B Z.1 hg.1) (fun _ h => h) hown hK hP 0 rfl rfl 9 (by decide) (kw47 Z.1 _ _ hg.1) (fun _ h9 => h9) rfl d_B_high_17 ?_
    refine lv_aload_n hx hb d_B_high_20 rfl (lv_at hl 0 rfl) ?_
    refine va_get (D := D) (ci := 2) (v := .long (li 7)) (C := R_B) (T := T_B) (N := 12) hx hb (uw_B Z.1 hg.1) (fun _ h => h) hown hK hP 0 rfl rfl 7 (by decide) (kw45 Z.1 _ _ hg.1) (fun _ h9 => h9) rfl d_B_high_21 ?_
    refine lv_lsub hx hb d_B_high_24 ?_
    exact r_lret hx hb hr hlk hS0 (by rw [if_neg c1]) d_B_high_25
  · refine lv_aload_n hx hb d_B_high_4 rfl (lv_at hl 0 rfl) ?_
    refine va_get (D := D) (ci := 2) (v := .long (li 10)) (C := R_B) (T := T_B) (N := 12) hx hb (uw_B Z.1 hg.1) (fun _ h => h) hown hK hP 0 rfl rfl 10 (by decide) (kw48 Z.1 _ _ hg.1) (fun _ h9 => h9) rfl d_B_high_5 ?_
    refine lv_aload_n hx hb d_B_high_8 rfl (lv_at hl 0 rfl) ?_
    refine va_get (D := D) (ci := 2) (v := .long (li 8)) (C := R_B) (T := T_B) (N := 12) hx hb (uw_B Z.1 hg.1) (fun _ h => h) hown hK hP 0 rfl rfl 8 (by decide) (kw46 Z.1 _ _ hg.1) (fun _ h9 => h9) rfl d_B_high_9 ?_
    refine lv_lsub hx hb d_B_high_12 ?_
    refine lv_goto (tgt := 25) hx hb d_B_high_13 (by decide) ?_
    exact r_lret hx hb hr hlk hS0 (by rw [if_pos c1]) d_B_high_25
set_option maxHeartbeats 4000000 in
set_option maxRecDepth 100000 in
theorem r_B_hasPartNear {l : Launch} {s0 : State} {D : va_G} {cA sa : Nat → Nat} (Z : zE l s0 D cA sa) (a : Nat → Nat) (ii : Nat → Int32) (li : Nat → Int64) (ia : Nat → Nat → Int32) (la : Nat → Nat → Int64) (x y : Int64) (tn : Int32) (n : Nat) (hn : ii 6 = nI n) (hn2 : n ≤ 10) (sz : Nat) : Met l y_B_hasPartNear [.code y_B_hasPartNear c_B_hasPartNear 15 (some .boolean)] ({ frames := 1, cells := 0, slots := 0, locals := 30 }) (wP s0 D [.ref (a 0), .long x, .long y, .int tn] (w_B a cA ii li ia la) sz) (va_Qi (fun r (_ : Unit) => r = if (List.range n).any (bn la li x y tn) = true then 1 else 0) (fun _ _ => True) (fun q => sz ≤ q)) 0 0 (fun q => sz ≤ q) := by
  refine wMetRd Z (by decide) (Nat.le_of_ble_eq_true rfl) ?_
  intro p e s m below meth c hx hb hr hml hown hlk hg hK hsz hP hD hA hS0 ls hl
  subst hsz
  have hlo : ∀ q, s0.heap.size ≤ q → s0.heap.size ≤ q := fun _ h => h
  have hown : s.vm.findClass R_B = some m.cls := hown
  refine lv_iconst (v := 0) hx hb d_B_hasPartNear_0 (by decide) ?_
  refine lv_topi (fun z1 ez1 => ?_)
  obtain rfl : z1 = (nI 0) := by rw [ez1]; rfl
  refine lv_istore (lv' := [(6, .int (nI 0)), (0, .ref (a 0)), (1, .long x), (3, .long y), (5, .int tn)]) hx hb d_B_hasPartNear_1 hl (by decide) rfl (fun ls hl => ?_)
  have loop : ∀ (f : Nat) (k : Nat), n - k < f → k ≤ n → (∀ j, j < k → bn la li x y tn j = false) → ∀ (H : Heap) (locs : List Loc), va_P D ncl (w_B a cA ii li ia la) H → va_S (fun q => s.heap.size ≤ q) s.heap H locs → ∀ (ls : Array Slot), lv_has ls 15 [(0, .ref (a 0)), (1, .long x), (3, .long y), (5, .int tn), (6, .int (nI k))] → W p l e ({ frames := 1, cells := 0, slots := 0, locals := 30 }) s m ([.ref (a 0), .long x, .long y, .int tn] : List Value).toArray below meth c H locs 0 0 (MQ below (va_Qi (fun r (_ : Unit) => r = if (List.range n).any (bn la li x y tn) = true then 1 else 0) (fun _ _ => True) (fun q => s.heap.size ≤ q)) ([.ref (a 0), .long x, .long y, .int tn] : List Value).toArray s 0 0 (fun q => s.heap.size ≤ q)) (F0 m 3 ls []) := by
    intro f
    induction f with
    | zero => intro k h; exact absurd h (Nat.not_lt_zero _)
    | succ f ih =>
      intro k hf hk hno H locs hP hS0 ls hl
      refine lv_iload hx hb d_B_hasPartNear_3 (lv_at hl 4 rfl) ?_
      refine lv_aload_n hx hb d_B_hasPartNear_5 rfl (lv_at hl 0 rfl) ?_
      refine va_get (D := D) (ci := 2) (v := .int (ii 6)) (C := R_B) (T := T_B) (N := 12) hx hb (uw_B Z.1 hg.1) (fun _ h => h) hown hK hP 0 rfl rfl 6 (by decide) (kw44 Z.1 _ _ hg.1) (fun _ h9 => h9) rfl d_B_hasPartNear_6 ?_
      refine lv_icmp_ge (tgt := 116) hx hb d_B_hasPartNear_9 (by decide) (fun c2 => ?_) (fun c2 => ?_)
      · have hkn : k = n := by rw [hn] at c2; have := (nI_leI (by omega) (by omega)).mp c2; omega
        refine lv_iconst (v := 0) hx hb d_B_hasPartNear_116 (by decide) ?_
        exact r_zret hx hb hr rfl hlk hS0 (by rw [if_neg]; intro q; obtain ⟨j, hj, hj2⟩ := List.any_eq_true.mp q; rw [hno j (by rw [hkn]; exact List.mem_range.mp hj)] at hj2; cases hj2) d_B_hasPartNear_117
      · have hkn : k < n := by rw [hn] at c2; exact Nat.lt_of_not_le (fun q => c2 ((nI_leI (by omega) (by omega)).mpr q))
        refine lv_aload_n hx hb d_B_hasPartNear_12 rfl (lv_at hl 0 rfl) ?_
        refine va_get (D := D) (ci := 2) (v := .ref (a 3)) (C := R_B) (T := T_B) (N := 12) hx hb (uw_B Z.1 hg.1) (fun _ h => h) hown hK hP 0 rfl rfl 2 (by decide) (kw40 Z.1 _ _ hg.1) (fun _ h9 => h9) rfl d_B_hasPartNear_13 ?_
        refine lv_iload hx hb d_B_hasPartNear_16 (lv_at hl 4 rfl) ?_
        refine va_lald hx hb hK hP 3 1 rfl rfl (vp_in_nI (n := k) (N := 10) (by omega) (by decide)) d_B_hasPartNear_18 ?_
        refine lv_topl (fun z3 ez3 => ?_)
        rw [nI_clamp (n := k) (by omega)] at ez3
        obtain rfl : z3 = ((la 2) k) := ez3
        refine lv_aload_n hx hb d_B_hasPartNear_19 rfl (lv_at hl 0 rfl) ?_
        refine va_get (D := D) (ci := 2) (v := .long (li 7)) (C := R_B) (T := T_B) (N := 12) hx hb (uw_B Z.1 hg.1) (fun _ h => h) hown hK hP 0 rfl rfl 7 (by decide) (kw45 Z.1 _ _ hg.1) (fun _ h9 => h9) rfl d_B_hasPartNear_20 ?_
        refine lv_lsub hx hb d_B_hasPartNear_23 ?_
        refine lv_topl (fun p4 ep4 => ?_)
        refine lv_lstore (lv' := [(7, .long p4), (0, .ref (a 0)), (1, .long x), (3, .long y), (5, .int tn), (6, .int (nI k))]) hx hb d_B_hasPartNear_24 hl (by decide) rfl (fun ls hl => ?_)
        refine lv_aload_n hx hb d_B_hasPartNear_26 rfl (lv_at hl 1 rfl) ?_
        refine va_get (D := D) (ci := 2) (v := .ref (a 4)) (C := R_B) (T := T_B) (N := 12) hx hb (uw_B Z.1 hg.1) (fun _ h => h) hown hK hP 0 rfl rfl 3 (by decide) (kw41 Z.1 _ _ hg.1) (fun _ h9 => h9) rfl d_B_hasPartNear_27 ?_
        refine lv_iload hx hb d_B_hasPartNear_30 (lv_at hl 5 rfl) ?_
        refine va_lald hx hb hK hP 4 1 rfl rfl (vp_in_nI (n := k) (N := 10) (by omega) (by decide)) d_B_hasPartNear_32 ?_
        refine lv_topl (fun z5 ez5 => ?_)
        rw [nI_clamp (n := k) (by omega)] at ez5
        obtain rfl : z5 = ((la 3) k) := ez5
        refine lv_aload_n hx hb d_B_hasPartNear_33 rfl (lv_at hl 1 rfl) ?_
        refine va_get (D := D) (ci := 2) (v := .long (li 8)) (C := R_B) (T := T_B) (N := 12) hx hb (uw_B Z.1 hg.1) (fun _ h => h) hown hK hP 0 rfl rfl 8 (by decide) (kw46 Z.1 _ _ hg.1) (fun _ h9 => h9) rfl d_B_hasPartNear_34 ?_
        refine lv_lsub hx hb d_B_hasPartNear_37 ?_
        refine lv_topl (fun p6 ep6 => ?_)
        refine lv_lstore (lv' := [(9, .long p6), (7, .long p4), (0, .ref (a 0)), (1, .long x), (3, .long y), (5, .int tn), (6, .int (nI k))]) hx hb d_B_hasPartNear_38 hl (by decide) rfl (fun ls hl => ?_)
        refine lv_lload_n hx hb d_B_hasPartNear_40 rfl (lv_at hl 3 rfl) ?_
        refine lv_iload hx hb d_B_hasPartNear_41 (lv_at hl 5 rfl) ?_
        refine lv_if_ne (tgt := 51) hx hb d_B_hasPartNear_43 (by decide) (fun d7 => ?_) (fun d7 => ?_)
        · refine lv_aload_n hx hb d_B_hasPartNear_51 rfl (lv_at hl 2 rfl) ?_
          refine lv_iconst (v := 0) hx hb d_B_hasPartNear_52 (by decide) ?_
          refine w_rcalll (w_runV (rest := [.long x]) hx hb hml hown hl.1 hg hlo hK hP hD (qS hS0 hA) (r_B_high Z a ii li ia la 0 H.size) (kw496 Z.1) (kw404 Z.1) (kp_B_high Z.1) (kw405 Z.1) (kw3 Z.1) ⟨by decide, by decide, (by decide +kernel : (parseMethodDescriptor y_B_high.desc).map (fun d => d.parameters.length) = some 1)⟩ ⟨Nat.le_of_ble_eq_true rfl, Nat.le_of_ble_eq_true rfl⟩ [0, 1, 2, 3, 4, 5] rfl rfl (ci := 2) (q0 := 0) rfl rfl rfl (Nat.le_of_ble_eq_true rfl) d_B_hasPartNear_53 ⟨Nat.le_of_ble_eq_true rfl, Nat.le_of_ble_eq_true rfl⟩) hP hS0 (fun r8 H locs hq hP hS0 => ?_)
          refine W.widen (k := 0) (n := 0) (Nat.le_of_ble_eq_true rfl) (Nat.le_of_ble_eq_true rfl) ?_
          refine lv_lload hx hb d_B_hasPartNear_56 (lv_at hl 0 rfl) ?_
          refine lv_lsub hx hb d_B_hasPartNear_58 ?_
          refine lv_lsub hx hb d_B_hasPartNear_59 ?_
          refine lv_topl (fun p8 ep8 => ?_)
          refine lv_lstore (lv' := [(11, .long p8), (9, .long p6), (7, .long p4), (0, .ref (a 0)), (1, .long x), (3, .long y), (5, .int tn), (6, .int (nI k))]) hx hb d_B_hasPartNear_60 hl (by decide) rfl (fun ls hl => ?_)
          refine lv_lload_n hx hb d_B_hasPartNear_62 rfl (lv_at hl 5 rfl) ?_
          refine lv_iload hx hb d_B_hasPartNear_63 (lv_at hl 6 rfl) ?_
          refine lv_if_ne (tgt := 73) hx hb d_B_hasPartNear_65 (by decide) (fun _ => ?_) (fun k9 => by first | exact absurd d7 k9 | exact absurd k9 d7)
          refine lv_lload hx hb d_B_hasPartNear_73 (lv_at hl 2 rfl) ?_
          refine lv_lsub hx hb d_B_hasPartNear_75 ?_
          refine lv_topl (fun p10 ep10 => ?_)
          refine lv_lstore (lv' := [(13, .long p10), (11, .long p8), (9, .long p6), (7, .long p4), (0, .ref (a 0)), (1, .long x), (3, .long y), (5, .int tn), (6, .int (nI k))]) hx hb d_B_hasPartNear_76 hl (by decide) rfl (fun ls hl => ?_)
          refine lv_lload hx hb d_B_hasPartNear_78 (lv_at hl 1 rfl) ?_
          refine lv_lload hx hb d_B_hasPartNear_80 (lv_at hl 1 rfl) ?_
          refine lv_lmul hx hb d_B_hasPartNear_82 ?_
          refine lv_lload hx hb d_B_hasPartNear_83 (lv_at hl 0 rfl) ?_
          refine lv_lload hx hb d_B_hasPartNear_85 (lv_at hl 0 rfl) ?_
          refine lv_lmul hx hb d_B_hasPartNear_87 ?_
          refine lv_ladd hx hb d_B_hasPartNear_88 ?_
          refine lv_aload_n hx hb d_B_hasPartNear_89 rfl (lv_at hl 4 rfl) ?_
          refine va_get (D := D) (ci := 2) (v := .ref (a 5)) (C := R_B) (T := T_B) (N := 12) hx hb (uw_B Z.1 hg.1) (fun _ h => h) hown hK hP 0 rfl rfl 4 (by decide) (kw42 Z.1 _ _ hg.1) (fun _ h9 => h9) rfl d_B_hasPartNear_90 ?_
          refine lv_iload hx hb d_B_hasPartNear_93 (lv_at hl 8 rfl) ?_
          refine va_lald hx hb hK hP 5 1 rfl rfl (vp_in_nI (n := k) (N := 10) (by omega) (by decide)) d_B_hasPartNear_95 ?_
          refine lv_topl (fun z11 ez11 => ?_)
          rw [nI_clamp (n := k) (by omega)] at ez11
          obtain rfl : z11 = ((la 4) k) := ez11
          refine lv_aload_n hx hb d_B_hasPartNear_96 rfl (lv_at hl 4 rfl) ?_
          refine va_get (D := D) (ci := 2) (v := .ref (a 5)) (C := R_B) (T := T_B) (N := 12) hx hb (uw_B Z.1 hg.1) (fun _ h => h) hown hK hP 0 rfl rfl 4 (by decide) (kw42 Z.1 _ _ hg.1) (fun _ h9 => h9) rfl d_B_hasPartNear_97 ?_
          refine lv_iload hx hb d_B_hasPartNear_100 (lv_at hl 8 rfl) ?_
          refine va_lald hx hb hK hP 5 1 rfl rfl (vp_in_nI (n := k) (N := 10) (by omega) (by decide)) d_B_hasPartNear_102 ?_
          refine lv_topl (fun z12 ez12 => ?_)
          rw [nI_clamp (n := k) (by omega)] at ez12
          obtain rfl : z12 = ((la 4) k) := ez12
          refine lv_lmul hx hb d_B_hasPartNear_103 ?_
          refine W.lcmp hx hb d_B_hasPartNear_104 ?_
          refine lv_if_ge (tgt := 110) hx hb d_B_hasPartNear_105 (by decide) (fun g13 => ?_) (fun g13 => ?_)
          · have e3 : p8 = bn_x la li x tn k := by unfold bn_x; rw [if_neg d7, ep8, hq, if_pos rfl, ep6]
            have e4 : p10 = bn_y la li y tn k := by unfold bn_y; rw [if_neg d7, ep10, ep4]
            have hb0 : bn la li x y tn k = false := decide_eq_false (by rw [← e3, ← e4]; exact Int64.not_lt.mpr ((lg_cmp_ge _ _).mp g13))
            obtain ⟨v14, ev14⟩ : ∃ y : Int32, y = (nI k) + 1 := ⟨_, rfl⟩
            refine lv_iinc (v := v14) (lv' := [(6, .int v14), (13, .long p10), (11, .long p8), (9, .long p6), (7, .long p4), (0, .ref (a 0)), (1, .long x), (3, .long y), (5, .int tn)]) hx hb d_B_hasPartNear_110 hl (k := 8) rfl (by rw [ev14]; rfl) (by decide) rfl (fun ls hl => ?_)
            refine lv_goto (tgt := 3) hx hb d_B_hasPartNear_113 (by decide) ?_
            obtain rfl : v14 = nI (k + 1) := by rw [ev14]; exact nI_1 k
            exact ih (k + 1) (by omega) (by omega) (lt_s hno hb0) _ _ hP hS0 ls (lv_sub hl [5, 6, 7, 8, 0] rfl)
          · have e3 : p8 = bn_x la li x tn k := by unfold bn_x; rw [if_neg d7, ep8, hq, if_pos rfl, ep6]
            have e4 : p10 = bn_y la li y tn k := by unfold bn_y; rw [if_neg d7, ep10, ep4]
            have hb1 : bn la li x y tn k = true := decide_eq_true (by rw [← e3, ← e4]; exact Int64.not_le.mp (fun z => g13 ((lg_cmp_ge _ _).mpr z)))
            refine lv_iconst (v := 1) hx hb d_B_hasPartNear_108 (by decide) ?_
            exact r_zret hx hb hr rfl hlk hS0 (by rw [if_pos (List.any_eq_true.mpr ⟨k, List.mem_range.mpr hkn, hb1⟩)]) d_B_hasPartNear_109
        · refine lv_lload hx hb d_B_hasPartNear_46 (lv_at hl 1 rfl) ?_
          refine lv_goto (tgt := 59) hx hb d_B_hasPartNear_48 (by decide) ?_
          refine lv_lsub hx hb d_B_hasPartNear_59 ?_
          refine lv_topl (fun p15 ep15 => ?_)
          refine lv_lstore (lv' := [(11, .long p15), (9, .long p6), (7, .long p4), (0, .ref (a 0)), (1, .long x), (3, .long y), (5, .int tn), (6, .int (nI k))]) hx hb d_B_hasPartNear_60 hl (by decide) rfl (fun ls hl => ?_)
          refine lv_lload_n hx hb d_B_hasPartNear_62 rfl (lv_at hl 5 rfl) ?_
          refine lv_iload hx hb d_B_hasPartNear_63 (lv_at hl 6 rfl) ?_
          refine lv_if_ne (tgt := 73) hx hb d_B_hasPartNear_65 (by decide) (fun k16 => by first | exact absurd d7 k16 | exact absurd k16 d7) (fun _ => ?_)
          refine lv_lload hx hb d_B_hasPartNear_68 (lv_at hl 1 rfl) ?_
          refine lv_goto (tgt := 75) hx hb d_B_hasPartNear_70 (by decide) ?_
          refine lv_lsub hx hb d_B_hasPartNear_75 ?_
          refine lv_topl (fun p17 ep17 => ?_)
          refine lv_lstore (lv' := [(13, .long p17), (11, .long p15), (9, .long p6), (7, .long p4), (0, .ref (a 0)), (1, .long x), (3, .long y), (5, .int tn), (6, .int (nI k))]) hx hb d_B_hasPartNear_76 hl (by decide) rfl (fun ls hl => ?_)
          refine lv_lload hx hb d_B_hasPartNear_78 (lv_at hl 1 rfl) ?_
          refine lv_lload hx hb d_B_hasPartNear_80 (lv_at hl 1 rfl) ?_
          refine lv_lmul hx hb d_B_hasPartNear_82 ?_
          refine lv_lload hx hb d_B_hasPartNear_83 (lv_at hl 0 rfl) ?_
          refine lv_lload hx hb d_B_hasPartNear_85 (lv_at hl 0 rfl) ?_
          refine lv_lmul hx hb d_B_hasPartNear_87 ?_
          refine lv_ladd hx hb d_B_hasPartNear_88 ?_
          refine lv_aload_n hx hb d_B_hasPartNear_89 rfl (lv_at hl 4 rfl) ?_
          refine va_get (D := D) (ci := 2) (v := .ref (a 5)) (C := R_B) (T := T_B) (N := 12) hx hb (uw_B Z.1 hg.1) (fun _ h => h) hown hK hP 0 rfl rfl 4 (by decide) (kw42 Z.1 _ _ hg.1) (fun _ h9 => h9) rfl d_B_hasPartNear_90 ?_
          refine lv_iload hx hb d_B_hasPartNear_93 (lv_at hl 8 rfl) ?_
          refine va_lald hx hb hK hP 5 1 rfl rfl (vp_in_nI (n := k) (N := 10) (by omega) (by decide)) d_B_hasPartNear_95 ?_
          refine lv_topl (fun z18 ez18 => ?_)
          rw [nI_clamp (n := k) (by omega)] at ez18
          obtain rfl : z18 = ((la 4) k) := ez18
          refine lv_aload_n hx hb d_B_hasPartNear_96 rfl (lv_at hl 4 rfl) ?_
          refine va_get (D := D) (ci := 2) (v := .ref (a 5)) (C := R_B) (T := T_B) (N := 12) hx hb (uw_B Z.1 hg.1) (fun _ h => h) hown hK hP 0 rfl rfl 4 (by decide) (kw42 Z.1 _ _ hg.1) (fun _ h9 => h9) rfl d_B_hasPartNear_97 ?_
          refine lv_iload hx hb d_B_hasPartNear_100 (lv_at hl 8 rfl) ?_
          refine va_lald hx hb hK hP 5 1 rfl rfl (vp_in_nI (n := k) (N := 10) (by omega) (by decide)) d_B_hasPartNear_102 ?_
          refine lv_topl (fun z19 ez19 => ?_)
          rw [nI_clamp (n := k) (by omega)] at ez19
          obtain rfl : z19 = ((la 4) k) := ez19
          refine lv_lmul hx hb d_B_hasPartNear_103 ?_
          refine W.lcmp hx hb d_B_hasPartNear_104 ?_
          refine lv_if_ge (tgt := 110) hx hb d_B_hasPartNear_105 (by decide) (fun g20 => ?_) (fun g20 => ?_)
          · have e3 : p15 = bn_x la li x tn k := by unfold bn_x; rw [if_pos d7, ep15, ep4]
            have e4 : p17 = bn_y la li y tn k := by unfold bn_y; rw [if_pos d7, ep17, ep6]
            have hb0 : bn la li x y tn k = false := decide_eq_false (by rw [← e3, ← e4]; exact Int64.not_lt.mpr ((lg_cmp_ge _ _).mp g20))
            obtain ⟨v21, ev21⟩ : ∃ y : Int32, y = (nI k) + 1 := ⟨_, rfl⟩
            refine lv_iinc (v := v21) (lv' := [(6, .int v21), (13, .long p17), (11, .long p15), (9, .long p6), (7, .long p4), (0, .ref (a 0)), (1, .long x), (3, .long y), (5, .int tn)]) hx hb d_B_hasPartNear_110 hl (k := 8) rfl (by rw [ev21]; rfl) (by decide) rfl (fun ls hl => ?_)
            refine lv_goto (tgt := 3) hx hb d_B_hasPartNear_113 (by decide) ?_
            obtain rfl : v21 = nI (k + 1) := by rw [ev21]; exact nI_1 k
            exact ih (k + 1) (by omega) (by omega) (lt_s hno hb0) _ _ hP hS0 ls (lv_sub hl [5, 6, 7, 8, 0] rfl)
          · have e3 : p15 = bn_x la li x tn k := by unfold bn_x; rw [if_pos d7, ep15, ep4]
            have e4 : p17 = bn_y la li y tn k := by unfold bn_y; rw [if_pos d7, ep17, ep6]
            have hb1 : bn la li x y tn k = true := decide_eq_true (by rw [← e3, ← e4]; exact Int64.not_le.mp (fun z => g20 ((lg_cmp_ge _ _).mpr z)))
            refine lv_iconst (v := 1) hx hb d_B_hasPartNear_108 (by decide) ?_
            exact r_zret hx hb hr rfl hlk hS0 (by rw [if_pos (List.any_eq_true.mpr ⟨k, List.mem_range.mpr hkn, hb1⟩)]) d_B_hasPartNear_109
  exact loop (n + 1) 0 (by omega) (by omega) lt_0 _ _ hP hS0 ls (lv_sub hl [1, 2, 3, 4, 0] rfl)
set_option maxHeartbeats 4000000 in
set_option maxRecDepth 100000 in
theorem r_Y_countOf {l : Launch} {s0 : State} {D : va_G} {cA sa : Nat → Nat} (Z : zE l s0 D cA sa) (a : Nat → Nat) (ii : Nat → Int32) (li : Nat → Int64) (ia : Nat → Nat → Int32) (la : Nat → Nat → Int64) (q : Int32) (n : Nat) (h12 : ii 12 = nI n) (hn : n ≤ 160) (sz : Nat) : Met l y_Y_countOf [.code y_Y_countOf c_Y_countOf 4 (some .int)] ({ frames := 0, cells := 0, slots := 0, locals := 0 }) (wP s0 D [.ref (a 0), .int q] (w_Y a cA ii li ia la) sz) (va_Qi (fun r (_ : Unit) => r = nI (yc (ia 8) q n)) (fun _ _ => True) (fun q => sz ≤ q)) 0 0 (fun q => sz ≤ q) := by
  refine wMetRd Z (by decide) (Nat.le_of_ble_eq_true rfl) ?_
  intro p e s m below meth c hx hb hr hml hown hlk hg hK hsz hP hD hA hS0 ls hl
  subst hsz
  have hlo : ∀ q, s0.heap.size ≤ q → s0.heap.size ≤ q := fun _ h => h
  have hown : s.vm.findClass R_Y = some m.cls := hown
  refine lv_iconst (v := 0) hx hb d_Y_countOf_0 (by decide) ?_
  refine lv_topi (fun z1 ez1 => ?_)
  obtain rfl : z1 = (nI 0) := by rw [ez1]; rfl
  refine lv_istore_n (lv' := [(2, .int (nI 0)), (0, .ref (a 0)), (1, .int q)]) hx hb d_Y_countOf_1 rfl hl (by decide) rfl (fun ls hl => ?_)
  refine lv_iconst (v := 0) hx hb d_Y_countOf_2 (by decide) ?_
  refine lv_topi (fun z2 ez2 => ?_)
  obtain rfl : z2 = (nI 0) := by rw [ez2]; rfl
  refine lv_istore_n (lv' := [(3, .int (nI 0)), (2, .int (nI 0)), (0, .ref (a 0)), (1, .int q)]) hx hb d_Y_countOf_3 rfl hl (by decide) rfl (fun ls hl => ?_)
  have loop : ∀ (f : Nat) (k : Nat), n - k < f → k ≤ n → ∀ (H : Heap) (locs : List Loc), va_P D ncl (w_Y a cA ii li ia la) H → va_S (fun q => s.heap.size ≤ q) s.heap H locs → ∀ (ls : Array Slot), lv_has ls 4 [(0, .ref (a 0)), (1, .int q), (2, .int (nI (yc (ia 8) q k))), (3, .int (nI k))] → W p l e ({ frames := 0, cells := 0, slots := 0, locals := 0 }) s m ([.ref (a 0), .int q] : List Value).toArray below meth c H locs 0 0 (MQ below (va_Qi (fun r (_ : Unit) => r = nI (yc (ia 8) q n)) (fun _ _ => True) (fun q => s.heap.size ≤ q)) ([.ref (a 0), .int q] : List Value).toArray s 0 0 (fun q => s.heap.size ≤ q)) (F0 m 4 ls []) := by
    intro f
    induction f with
    | zero => intro k h; exact absurd h (Nat.not_lt_zero _)
    | succ f ih =>
      intro k hf hk H locs hP hS0 ls hl
      refine lv_iload_n hx hb d_Y_countOf_4 rfl (lv_at hl 3 rfl) ?_
      refine lv_aload_n hx hb d_Y_countOf_5 rfl (lv_at hl 0 rfl) ?_
      refine va_get (D := D) (ci := 3) (v := .int (ii 12)) (C := R_Y) (T := T_Y) (N := 17) hx hb (uw_Y Z.1 hg.1) (fun _ h => h) hown hK hP 0 rfl rfl 12 (by decide) (kw155 Z.1 _ _ hg.1) (fun _ h9 => h9) rfl d_Y_countOf_6 ?_
      refine lv_icmp_ge (tgt := 31) hx hb d_Y_countOf_9 (by decide) (fun c3 => ?_) (fun c3 => ?_)
      · obtain rfl : k = n := by rw [h12] at c3; have := (nI_leI (by omega) (by omega)).mp c3; omega
        refine lv_iload_n hx hb d_Y_countOf_31 rfl (lv_at hl 2 rfl) ?_
        exact r_iret hx hb hr hlk hS0 rfl d_Y_countOf_32
      · have hkn : k < n := Nat.lt_of_not_le (fun z => c3 (by rw [h12]; exact (nI_leI (by omega) (by omega)).mpr z))
        refine lv_aload_n hx hb d_Y_countOf_12 rfl (lv_at hl 0 rfl) ?_
        refine va_get (D := D) (ci := 3) (v := .ref (a 9)) (C := R_Y) (T := T_Y) (N := 17) hx hb (uw_Y Z.1 hg.1) (fun _ h => h) hown hK hP 0 rfl rfl 8 (by decide) (kw147 Z.1 _ _ hg.1) (fun _ h9 => h9) rfl d_Y_countOf_13 ?_
        refine lv_iload_n hx hb d_Y_countOf_16 rfl (lv_at hl 3 rfl) ?_
        refine va_zald hx hb hK hP 9 2 rfl rfl (vp_in_nI (n := k) (N := 160) (by omega) (by decide)) d_Y_countOf_17 ?_
        refine lv_topi (fun z4 ez4 => ?_)
        rw [nI_clamp (n := k) (by omega)] at ez4
        obtain rfl : z4 = ((ia 8) k) := ez4
        refine lv_iload_n hx hb d_Y_countOf_18 rfl (lv_at hl 1 rfl) ?_
        refine lv_icmp_ne (tgt := 25) hx hb d_Y_countOf_19 (by decide) (fun d5 => ?_) (fun d5 => ?_)
        · obtain ⟨v6, ev6⟩ : ∃ y : Int32, y = (nI k) + 1 := ⟨_, rfl⟩
          refine lv_iinc (v := v6) (lv' := [(3, .int v6), (0, .ref (a 0)), (1, .int q), (2, .int (nI (yc (ia 8) q k)))]) hx hb d_Y_countOf_25 hl (k := 3) rfl (by rw [ev6]; rfl) (by decide) rfl (fun ls hl => ?_)
          refine lv_goto (tgt := 4) hx hb d_Y_countOf_28 (by decide) ?_
          obtain rfl : v6 = nI (k + 1) := by rw [ev6]; exact nI_1 k
          have hy : yc (ia 8) q (k + 1) = yc (ia 8) q k := by rw [yc, if_neg d5, Nat.add_zero]
          rw [← hy] at hl
          exact ih (k + 1) (by omega) (by omega) _ _ hP hS0 ls (lv_sub hl [1, 2, 3, 0] rfl)
        · obtain ⟨v7, ev7⟩ : ∃ y : Int32, y = (nI (yc (ia 8) q k)) + 1 := ⟨_, rfl⟩
          refine lv_iinc (v := v7) (lv' := [(2, .int v7), (0, .ref (a 0)), (1, .int q), (3, .int (nI k))]) hx hb d_Y_countOf_22 hl (k := 2) rfl (by rw [ev7]; rfl) (by decide) rfl (fun ls hl => ?_)
          obtain ⟨v8, ev8⟩ : ∃ y : Int32, y = (nI k) + 1 := ⟨_, rfl⟩
          refine lv_iinc (v := v8) (lv' := [(3, .int v8), (2, .int v7), (0, .ref (a 0)), (1, .int q)]) hx hb d_Y_countOf_25 hl (k := 3) rfl (by rw [ev8]; rfl) (by decide) rfl (fun ls hl => ?_)
          refine lv_goto (tgt := 4) hx hb d_Y_countOf_28 (by decide) ?_
          obtain rfl : v8 = nI (k + 1) := by rw [ev8]; exact nI_1 k
          obtain rfl : v7 = nI (yc (ia 8) q (k + 1)) := by rw [ev7]; rw [nI_1, yc, if_pos d5]
          exact ih (k + 1) (by omega) (by omega) _ _ hP hS0 ls (lv_sub hl [2, 3, 1, 0] rfl)
  exact loop (n + 1) 0 (by omega) (by omega) _ _ hP hS0 ls (lv_sub hl [2, 3, 1, 0] rfl)
set_option maxHeartbeats 4000000 in
set_option maxRecDepth 100000 in
theorem r_Y_nthOf {l : Launch} {s0 : State} {D : va_G} {cA sa : Nat → Nat} (Z : zE l s0 D cA sa) (a : Nat → Nat) (ii : Nat → Int32) (li : Nat → Int64) (ia : Nat → Nat → Int32) (la : Nat → Nat → Int64) (q : Int32) (n mm : Nat) (h12 : ii 12 = nI n) (hn : n ≤ 160) (hm : mm ≤ 160) (sz : Nat) : Met l y_Y_nthOf [.code y_Y_nthOf c_Y_nthOf 5 (some .int)] ({ frames := 0, cells := 0, slots := 0, locals := 0 }) (wP s0 D [.ref (a 0), .int q, .int (nI mm)] (w_Y a cA ii li ia la) sz) (va_Qi (fun r (_ : Unit) => (∃ j, j < n ∧ ia 8 j = q ∧ yc (ia 8) q j = mm ∧ r = nI j) ∨ (yc (ia 8) q n ≤ mm ∧ r = -1)) (fun _ _ => True) (fun q => sz ≤ q)) 0 0 (fun q => sz ≤ q) := by
  refine wMetRd Z (by decide) (Nat.le_of_ble_eq_true rfl) ?_
  intro p e s m below meth c hx hb hr hml hown hlk hg hK hsz hP hD hA hS0 ls hl
  subst hsz
  have hlo : ∀ q, s0.heap.size ≤ q → s0.heap.size ≤ q := fun _ h => h
  have hown : s.vm.findClass R_Y = some m.cls := hown
  refine lv_iload_n hx hb d_Y_nthOf_0 rfl (lv_at hl 2 rfl) ?_
  refine lv_istore_n (lv' := [(3, .int (nI mm)), (0, .ref (a 0)), (1, .int q), (2, .int (nI mm))]) hx hb d_Y_nthOf_1 rfl hl (by decide) rfl (fun ls hl => ?_)
  refine lv_iconst (v := 0) hx hb d_Y_nthOf_2 (by decide) ?_
  refine lv_topi (fun z1 ez1 => ?_)
  obtain rfl : z1 = (nI 0) := by rw [ez1]; rfl
  refine lv_istore (lv' := [(4, .int (nI 0)), (3, .int (nI mm)), (0, .ref (a 0)), (1, .int q), (2, .int (nI mm))]) hx hb d_Y_nthOf_3 hl (by decide) rfl (fun ls hl => ?_)
  have loop : ∀ (f : Nat) (k : Nat), n - k < f → k ≤ n → yc (ia 8) q k ≤ mm → ∀ (H : Heap) (locs : List Loc), va_P D ncl (w_Y a cA ii li ia la) H → va_S (fun q => s.heap.size ≤ q) s.heap H locs → ∀ (ls : Array Slot), lv_has ls 5 [(0, .ref (a 0)), (1, .int q), (3, .int (nI (mm - yc (ia 8) q k))), (4, .int (nI k))] → W p l e ({ frames := 0, cells := 0, slots := 0, locals := 0 }) s m ([.ref (a 0), .int q, .int (nI mm)] : List Value).toArray below meth c H locs 0 0 (MQ below (va_Qi (fun r (_ : Unit) => (∃ j, j < n ∧ ia 8 j = q ∧ yc (ia 8) q j = mm ∧ r = nI j) ∨ (yc (ia 8) q n ≤ mm ∧ r = -1)) (fun _ _ => True) (fun q => s.heap.size ≤ q)) ([.ref (a 0), .int q, .int (nI mm)] : List Value).toArray s 0 0 (fun q => s.heap.size ≤ q)) (F0 m 5 ls []) := by
    intro f
    induction f with
    | zero => intro k h; exact absurd h (Nat.not_lt_zero _)
    | succ f ih =>
      intro k hf hk hy H locs hP hS0 ls hl
      refine lv_iload hx hb d_Y_nthOf_5 (lv_at hl 3 rfl) ?_
      refine lv_aload_n hx hb d_Y_nthOf_7 rfl (lv_at hl 0 rfl) ?_
      refine va_get (D := D) (ci := 3) (v := .int (ii 12)) (C := R_Y) (T := T_Y) (N := 17) hx hb (uw_Y Z.1 hg.1) (fun _ h => h) hown hK hP 0 rfl rfl 12 (by decide) (kw155 Z.1 _ _ hg.1) (fun _ h9 => h9) rfl d_Y_nthOf_8 ?_
      refine lv_icmp_ge (tgt := 41) hx hb d_Y_nthOf_11 (by decide) (fun c2 => ?_) (fun c2 => ?_)
      · obtain rfl : k = n := by rw [h12] at c2; have := (nI_leI (by omega) (by omega)).mp c2; omega
        refine lv_iconst (v := (-1)) hx hb d_Y_nthOf_41 (by decide) ?_
        exact r_iret hx hb hr hlk hS0 (Or.inr ⟨hy, rfl⟩) d_Y_nthOf_42
      · have hkn : k < n := Nat.lt_of_not_le (fun z => c2 (by rw [h12]; exact (nI_leI (by omega) (by omega)).mpr z))
        refine lv_aload_n hx hb d_Y_nthOf_14 rfl (lv_at hl 0 rfl) ?_
        refine va_get (D := D) (ci := 3) (v := .ref (a 9)) (C := R_Y) (T := T_Y) (N := 17) hx hb (uw_Y Z.1 hg.1) (fun _ h => h) hown hK hP 0 rfl rfl 8 (by decide) (kw147 Z.1 _ _ hg.1) (fun _ h9 => h9) rfl d_Y_nthOf_15 ?_
        refine lv_iload hx hb d_Y_nthOf_18 (lv_at hl 3 rfl) ?_
        refine va_zald hx hb hK hP 9 2 rfl rfl (vp_in_nI (n := k) (N := 160) (by omega) (by decide)) d_Y_nthOf_20 ?_
        refine lv_topi (fun z3 ez3 => ?_)
        rw [nI_clamp (n := k) (by omega)] at ez3
        obtain rfl : z3 = ((ia 8) k) := ez3
        refine lv_iload_n hx hb d_Y_nthOf_21 rfl (lv_at hl 1 rfl) ?_
        refine lv_icmp_ne (tgt := 35) hx hb d_Y_nthOf_22 (by decide) (fun d4 => ?_) (fun d4 => ?_)
        · obtain ⟨v5, ev5⟩ : ∃ y : Int32, y = (nI k) + 1 := ⟨_, rfl⟩
          refine lv_iinc (v := v5) (lv' := [(4, .int v5), (0, .ref (a 0)), (1, .int q), (3, .int (nI (mm - yc (ia 8) q k)))]) hx hb d_Y_nthOf_35 hl (k := 3) rfl (by rw [ev5]; rfl) (by decide) rfl (fun ls hl => ?_)
          refine lv_goto (tgt := 5) hx hb d_Y_nthOf_38 (by decide) ?_
          obtain rfl : v5 = nI (k + 1) := by rw [ev5]; exact nI_1 k
          have hy2 : yc (ia 8) q (k + 1) = yc (ia 8) q k := by rw [yc, if_neg d4, Nat.add_zero]
          rw [← hy2] at hl
          exact ih (k + 1) (by omega) (by omega) (by omega) _ _ hP hS0 ls (lv_sub hl [1, 2, 3, 0] rfl)
        · refine lv_iload_n hx hb d_Y_nthOf_25 rfl (lv_at hl 2 rfl) ?_
          refine lv_if_ne (tgt := 32) hx hb d_Y_nthOf_26 (by decide) (fun g6 => ?_) (fun g6 => ?_)
          · have hlt : yc (ia 8) q k < mm := Nat.lt_of_not_le (fun z => g6 (by rw [show mm - yc (ia 8) q k = 0 by omega]; rfl))
            obtain ⟨v7, ev7⟩ : ∃ y : Int32, y = (nI (mm - yc (ia 8) q k)) + (-1) := ⟨_, rfl⟩
            refine lv_iinc (v := v7) (lv' := [(3, .int v7), (0, .ref (a 0)), (1, .int q), (4, .int (nI k))]) hx hb d_Y_nthOf_32 hl (k := 2) rfl (by rw [ev7]; rfl) (by decide) rfl (fun ls hl => ?_)
            obtain ⟨v8, ev8⟩ : ∃ y : Int32, y = (nI k) + 1 := ⟨_, rfl⟩
            refine lv_iinc (v := v8) (lv' := [(4, .int v8), (3, .int v7), (0, .ref (a 0)), (1, .int q)]) hx hb d_Y_nthOf_35 hl (k := 3) rfl (by rw [ev8]; rfl) (by decide) rfl (fun ls hl => ?_)
            refine lv_goto (tgt := 5) hx hb d_Y_nthOf_38 (by decide) ?_
            obtain rfl : v8 = nI (k + 1) := by rw [ev8]; exact nI_1 k
            obtain rfl : v7 = nI (mm - yc (ia 8) q (k + 1)) := by rw [ev7]; rw [yc, if_pos d4, show mm - yc (ia 8) q k = (mm - (yc (ia 8) q k + 1)) + 1 by omega, pk_m1]
            exact ih (k + 1) (by omega) (by omega) (by rw [yc, if_pos d4]; omega) _ _ hP hS0 ls (lv_sub hl [2, 3, 1, 0] rfl)
          · have heq : yc (ia 8) q k = mm := by have := (nI_eq (b := 0) (by omega) (by decide)).mp g6; omega
            refine lv_iload hx hb d_Y_nthOf_29 (lv_at hl 3 rfl) ?_
            exact r_iret hx hb hr hlk hS0 (Or.inl ⟨k, hkn, d4, heq, rfl⟩) d_Y_nthOf_31
  exact loop (n + 1) 0 (by omega) (by omega) (Nat.zero_le _) _ _ hP hS0 ls (lv_sub hl [2, 3, 1, 0] rfl)
set_option maxHeartbeats 4000000 in
set_option maxRecDepth 100000 in
theorem r_Y_copyInOrder {l : Launch} {s0 : State} {D : va_G} {cA sa : Nat → Nat} (Z : zE l s0 D cA sa) (a : Nat → Nat) (ii : Nat → Int32) (li : Nat → Int64) (ia : Nat → Nat → Int32) (la : Nat → Nat → Int64) (k : Int32) (n : Nat) (h12 : ii 12 = nI n) (hn : n ≤ 160) (h01 : ∀ j, j < n → ia 8 j = 0 ∨ ia 8 j = 1) (sz : Nat) : Met l y_Y_copyInOrder [.code y_Y_copyInOrder c_Y_copyInOrder 3 (some .int)] ({ frames := 1, cells := 0, slots := 0, locals := 40 }) (wP s0 D [.ref (a 0), .int k] (w_Y a cA ii li ia la) sz) (va_Qi (fun r (_ : Unit) => yo (ia 8) n k r) (fun _ _ => True) (fun q => sz ≤ q)) 0 0 (fun q => sz ≤ q) := by
  refine wMetRd Z (by decide) (Nat.le_of_ble_eq_true rfl) ?_
  intro p e s m below meth c hx hb hr hml hown hlk hg hK hsz hP hD hA hS0 ls hl
  subst hsz
  have hlo : ∀ q, s0.heap.size ≤ q → s0.heap.size ≤ q := fun _ h => h
  have hown : s.vm.findClass R_Y = some m.cls := hown
  refine lv_iload_n hx hb d_Y_copyInOrder_0 rfl (lv_at hl 1 rfl) ?_
  refine lv_if_lt (tgt := 12) hx hb d_Y_copyInOrder_1 (by decide) (fun c1 => ?_) (fun c1 => ?_)
  · refine lv_iconst (v := (-1)) hx hb d_Y_copyInOrder_12 (by decide) ?_
    exact r_iret hx hb hr hlk hS0 (Or.inl ⟨Or.inl c1, rfl⟩) d_Y_copyInOrder_13
  · refine lv_iload_n hx hb d_Y_copyInOrder_4 rfl (lv_at hl 1 rfl) ?_
    refine lv_aload_n hx hb d_Y_copyInOrder_5 rfl (lv_at hl 0 rfl) ?_
    refine va_get (D := D) (ci := 3) (v := .int (ii 12)) (C := R_Y) (T := T_Y) (N := 17) hx hb (uw_Y Z.1 hg.1) (fun _ h => h) hown hK hP 0 rfl rfl 12 (by decide) (kw155 Z.1 _ _ hg.1) (fun _ h9 => h9) rfl d_Y_copyInOrder_6 ?_
    refine lv_icmp_lt (tgt := 14) hx hb d_Y_copyInOrder_9 (by decide) (fun d2 => ?_) (fun d2 => ?_)
    · obtain ⟨mm, hm0, rfl⟩ := nI_of c1
      have hm : mm < n := (nI_ltI hm0 (by omega)).mp (by rw [← h12]; exact d2)
      have h1 := yc_01 (ia 8) n h01
      have h2 := yc_le (ia 8) 0 n
      refine lv_aload_n hx hb d_Y_copyInOrder_14 rfl (lv_at hl 0 rfl) ?_
      refine lv_iconst (v := 0) hx hb d_Y_copyInOrder_15 (by decide) ?_
      refine w_rcalli (w_runV (rest := []) hx hb hml hown hl.1 hg hlo hK hP hD (qS hS0 hA) (r_Y_countOf Z a ii li ia la 0 n h12 hn s.heap.size) (kw249 Z.1) (kw251 Z.1) (kp_Y_countOf Z.1) (kw252 Z.1) (kw5 Z.1) ⟨by decide, by decide, (by decide +kernel : (parseMethodDescriptor y_Y_countOf.desc).map (fun d => d.parameters.length) = some 1)⟩ ⟨Nat.le_of_ble_eq_true rfl, Nat.le_of_ble_eq_true rfl⟩ [0, 1, 2, 3, 4, 5, 6, 7, 8, 9, 10, 11] rfl rfl (ci := 3) (q0 := 0) rfl rfl rfl (Nat.le_of_ble_eq_true rfl) d_Y_copyInOrder_16 ⟨Nat.le_of_ble_eq_true rfl, Nat.le_of_ble_eq_true rfl⟩) hP hS0 (fun rc H locs hrc hP hS0 => ?_)
      refine W.widen (k := 0) (n := 0) (Nat.le_of_ble_eq_true rfl) (Nat.le_of_ble_eq_true rfl) ?_
      subst hrc
      refine lv_istore_n (lv' := [(2, .int (nI (yc (ia 8) 0 n))), (0, .ref (a 0)), (1, .int (nI mm))]) hx hb d_Y_copyInOrder_19 rfl hl (by decide) rfl (fun ls hl => ?_)
      refine lv_iload_n hx hb d_Y_copyInOrder_20 rfl (lv_at hl 2 rfl) ?_
      refine lv_iload_n hx hb d_Y_copyInOrder_21 rfl (lv_at hl 0 rfl) ?_
      refine lv_icmp_ge (tgt := 34) hx hb d_Y_copyInOrder_22 (by decide) (fun g3 => ?_) (fun g3 => ?_)
      · have h3 := (nI_leI (by omega) (by omega)).mp g3
        refine lv_aload_n hx hb d_Y_copyInOrder_34 rfl (lv_at hl 1 rfl) ?_
        refine lv_iconst (v := 1) hx hb d_Y_copyInOrder_35 (by decide) ?_
        refine lv_iload_n hx hb d_Y_copyInOrder_36 rfl (lv_at hl 2 rfl) ?_
        refine lv_iload_n hx hb d_Y_copyInOrder_37 rfl (lv_at hl 0 rfl) ?_
        refine lv_isub hx hb d_Y_copyInOrder_38 ?_
        refine lv_topi (fun z4 ez4 => ?_)
        obtain rfl : z4 = (nI (mm - yc (ia 8) 0 n)) := by rw [ez4]; exact nI_sub h3
        refine w_rcalli (w_runV (rest := []) hx hb hml hown hl.1 hg hlo hK hP hD (qS hS0 hA) (r_Y_nthOf Z a ii li ia la 1 n (mm - yc (ia 8) 0 n) h12 hn (by omega) H.size) (kw253 Z.1) (kw255 Z.1) (kp_Y_nthOf Z.1) (kw256 Z.1) (kw5 Z.1) ⟨by decide, by decide, (by decide +kernel : (parseMethodDescriptor y_Y_nthOf.desc).map (fun d => d.parameters.length) = some 2)⟩ ⟨Nat.le_of_ble_eq_true rfl, Nat.le_of_ble_eq_true rfl⟩ [0, 1, 2, 3, 4, 5, 6, 7, 8, 9, 10, 11] rfl rfl (ci := 3) (q0 := 0) rfl rfl rfl (Nat.le_of_ble_eq_true rfl) d_Y_copyInOrder_39 ⟨Nat.le_of_ble_eq_true rfl, Nat.le_of_ble_eq_true rfl⟩) hP hS0 (fun rn H locs hrn hP hS0 => ?_)
        refine W.widen (k := 0) (n := 0) (Nat.le_of_ble_eq_true rfl) (Nat.le_of_ble_eq_true rfl) ?_
        exact r_iret hx hb hr hlk hS0 (by rcases hrn with ⟨j, j1, j2, j3, j4⟩ | ⟨j1, j2⟩; exact Or.inr ⟨mm, j, rfl, hm, j1, j4, Or.inr ⟨h3, j2, j3⟩⟩; omega) d_Y_copyInOrder_42
      · have h3 : mm < yc (ia 8) 0 n := Nat.lt_of_not_le (fun z => g3 ((nI_leI (by omega) (by omega)).mpr z))
        refine lv_aload_n hx hb d_Y_copyInOrder_25 rfl (lv_at hl 1 rfl) ?_
        refine lv_iconst (v := 0) hx hb d_Y_copyInOrder_26 (by decide) ?_
        refine lv_iload_n hx hb d_Y_copyInOrder_27 rfl (lv_at hl 2 rfl) ?_
        refine w_rcalli (w_runV (rest := []) hx hb hml hown hl.1 hg hlo hK hP hD (qS hS0 hA) (r_Y_nthOf Z a ii li ia la 0 n mm h12 hn (by omega) H.size) (kw253 Z.1) (kw255 Z.1) (kp_Y_nthOf Z.1) (kw256 Z.1) (kw5 Z.1) ⟨by decide, by decide, (by decide +kernel : (parseMethodDescriptor y_Y_nthOf.desc).map (fun d => d.parameters.length) = some 2)⟩ ⟨Nat.le_of_ble_eq_true rfl, Nat.le_of_ble_eq_true rfl⟩ [0, 1, 2, 3, 4, 5, 6, 7, 8, 9, 10, 11] rfl rfl (ci := 3) (q0 := 0) rfl rfl rfl (Nat.le_of_ble_eq_true rfl) d_Y_copyInOrder_28 ⟨Nat.le_of_ble_eq_true rfl, Nat.le_of_ble_eq_true rfl⟩) hP hS0 (fun rn H locs hrn hP hS0 => ?_)
        refine W.widen (k := 0) (n := 0) (Nat.le_of_ble_eq_true rfl) (Nat.le_of_ble_eq_true rfl) ?_
        refine lv_goto (tgt := 42) hx hb d_Y_copyInOrder_31 (by decide) ?_
        exact r_iret hx hb hr hlk hS0 (by rcases hrn with ⟨j, j1, j2, j3, j4⟩ | ⟨j1, j2⟩; exact Or.inr ⟨mm, j, rfl, hm, j1, j4, Or.inl ⟨h3, j2, j3⟩⟩; omega) d_Y_copyInOrder_42
    · refine lv_iconst (v := (-1)) hx hb d_Y_copyInOrder_12 (by decide) ?_
      exact r_iret hx hb hr hlk hS0 (Or.inl ⟨Or.inr (by rw [← h12]; exact Int32.not_lt.mp d2), rfl⟩) d_Y_copyInOrder_13
set_option maxHeartbeats 4000000 in
set_option maxRecDepth 100000 in
theorem r_P_tabOffset {l : Launch} {s0 : State} {D : va_G} {cA sa : Nat → Nat} (Z : zE l s0 D cA sa) (sd lo hi : Int32) (ln : Int64) (sz : Nat) : Met l y_P_tabOffset [.code y_P_tabOffset c_P_tabOffset 5 (some .long)] ({ frames := 0, cells := 0, slots := 0, locals := 0 }) (wP s0 D [.int sd, .int lo, .int hi, .long ln] (([] : va_W)) sz) (va_Ql (fun r (_ : Unit) => r = if sd = lo then 0 else if sd = hi then ln else ln / 2) (fun _ _ => True) (fun q => sz ≤ q)) 0 0 (fun q => sz ≤ q) := by
  refine wMetRd Z (by decide) (Nat.le_of_ble_eq_true rfl) ?_
  intro p e s m below meth c hx hb hr hml hown hlk hg hK hsz hP hD hA hS0 ls hl
  subst hsz
  have hlo : ∀ q, s0.heap.size ≤ q → s0.heap.size ≤ q := fun _ h => h
  have hown : s.vm.findClass R_P = some m.cls := hown
  refine lv_iload_n hx hb d_P_tabOffset_0 rfl (lv_at hl 0 rfl) ?_
  refine lv_iload_n hx hb d_P_tabOffset_1 rfl (lv_at hl 1 rfl) ?_
  refine lv_icmp_ne (tgt := 7) hx hb d_P_tabOffset_2 (by decide) (fun c1 => ?_) (fun c1 => ?_)
  · refine lv_iload_n hx hb d_P_tabOffset_7 rfl (lv_at hl 0 rfl) ?_
    refine lv_iload_n hx hb d_P_tabOffset_8 rfl (lv_at hl 2 rfl) ?_
    refine lv_icmp_ne (tgt := 16) hx hb d_P_tabOffset_9 (by decide) (fun c2 => ?_) (fun c2 => ?_)
    · refine lv_lload_n hx hb d_P_tabOffset_16 rfl (lv_at hl 3 rfl) ?_
      refine lv_ldc2 (v := 2) hx hb hown (kw491 Z.1 _ _ hg.1) d_P_tabOffset_17 ?_
      refine lv_ldiv hx hb d_P_tabOffset_20 (by decide) ?_
      exact r_lret hx hb hr hlk hS0 (by rw [if_neg c1, if_neg c2]) d_P_tabOffset_21
    · refine lv_lload_n hx hb d_P_tabOffset_12 rfl (lv_at hl 3 rfl) ?_
      refine lv_goto (tgt := 21) hx hb d_P_tabOffset_13 (by decide) ?_
      exact r_lret hx hb hr hlk hS0 (by rw [if_neg c1, if_pos c2]) d_P_tabOffset_21
  · refine lv_lconst (v := 0) hx hb d_P_tabOffset_5 (by decide) ?_
    exact r_lret hx hb hr hlk hS0 (by rw [if_pos c1]) d_P_tabOffset_6
end
section
theorem sc_bd2 {s : List (Nat × Nat)} {y n B : Nat} (h : ∀ p ∈ s, p.2 ≤ B) : ∀ p ∈ sc_add s y n, p.2 ≤ B + n := by
  intro p hp
  unfold sc_add at hp
  split at hp
  · rename_i hc
    rcases List.mem_append.mp hp with g | g
    · have := h p (List.dropLast_subset s g); omega
    · rw [List.mem_singleton.mp g]
      have := h _ (gd_mem s (0, 0) (j := s.length - 1) (by omega))
      show _ + n ≤ _; omega
  · rcases List.mem_append.mp hp with g | g
    · have := h p g; omega
    · rw [List.mem_singleton.mp g]; show n ≤ _; omega
theorem ly_s_bd2 (g : Nat) : ∀ (rw : List Rw) (p : Nat × List (Nat × Nat)) (B : Nat), (∀ q ∈ rw, q.2.2.1 ≤ 20) → (∀ z ∈ p.2, z.2 ≤ B) → ∀ z ∈ (rw.foldl (ly_f g) p).2, z.2 ≤ B + 40 * rw.length := by
  intro rw
  induction rw with
  | nil => intro p B _ h z hz; simpa using h z hz
  | cons q rw ih =>
    intro p B hq h z hz
    rw [List.foldl_cons] at hz
    have h1 := hq q List.mem_cons_self
    have h2 : ∀ z ∈ (ly_f g p q).2, z.2 ≤ B + 40 := fun z hz => by
      have := sc_bd2 (sc_bd2 h) z hz
      omega
    have := ih (ly_f g p q) (B + 40) (fun z hz => hq z (List.mem_cons_of_mem _ hz)) h2 z hz
    rw [List.length_cons]; omega
set_option maxHeartbeats 4000000 in
set_option maxRecDepth 100000 in
theorem m_P_order {l : Launch} {s0 : State} {D : va_G} {cA sa : Nat → Nat} (Z : zE l s0 D cA sa) (a : Nat → Nat) (ii : Nat → Int32) (li : Nat → Int64) (ia : Nat → Nat → Int32) (la : Nat → Nat → Int64) (bd : Nat → Nat) (y : Nat → Nat) (iy : Nat → Int32) (ly : Nat → Int64) (jy : Nat → Nat → Int32) (ky : Nat → Nat → Int64) (hya : y 0 = a 6) (l0 y0 g : Nat) (rw : List Rw) (bf : Nat → Bool) (hy : yR l0 y0 g rw bf (iy, ly, jy, ky)) (hok : okR l0 y0 g rw) (k : Int32) (sz : Nat) : th_Met l y_P_order [.code y_P_order c_P_order 2 (some .int)] ({ frames := 10, cells := 0, slots := 0, locals := 300 }) (wP s0 D [.ref (a 0), .int k] ((w_P a cA ii li ia la bd) ++ (w_Y y cA iy ly jy ky)) sz) (th_Qi (fun r (_ : Unit) => yo (jy 8) (ly_n rw) k r) (wB D (va_A ((w_P a cA ii li ia la bd) ++ (w_Y y cA iy ly jy ky)) sz) (fun _ => (w_P a cA ii li ia la bd) ++ (w_Y y cA iy ly jy ky))) (va_A ((w_P a cA ii li ia la bd) ++ (w_Y y cA iy ly jy ky)) sz) (fun _ _ _ => False)) 0 0 (va_A ((w_P a cA ii li ia la bd) ++ (w_Y y cA iy ly jy ky)) sz) := by
  refine wMetT Z (by decide) (Nat.le_of_ble_eq_true rfl) ?_
  intro p e s m below meth c hx hb hr hml hown hlk hem hg hK hsz hP hD hA hlo hS ls hl
  subst hsz
  have hown : s.vm.findClass R_P = some m.cls := hown
  have hS0 : va_S (fun q => s.heap.size ≤ q) s.heap s.heap [] := va_S.rf
  have hn160 : ly_n rw ≤ 160 := Nat.le_trans (ok_n (fun z hz => (hok.2.2.2.2 z hz).2.2.2.1)) (by have := hok.2.2.2.1; omega)
  have h01 : ∀ j, j < ly_n rw → jy 8 j = 0 ∨ jy 8 j = 1 := fun j hj => by have := hy.2.2.2.1 j hj; dsimp only at this; rw [this]; split; exact Or.inr rfl; exact Or.inl rfl
  refine lv_aload_n hx hb d_P_order_0 rfl (lv_at hl 0 rfl) ?_
  refine va_get (D := D) (ci := 0) (v := .ref (a 6)) (C := R_P) (T := T_P) (N := 10) hx hb (uw_P Z.1 hg.1) (fun _ h => h) hown hK hP 0 rfl rfl 5 (by decide) (kw203 Z.1 _ _ hg.1) (fun _ h9 => h9) rfl d_P_order_1 ?_
  rw [← hya]
  refine lv_iload_n hx hb d_P_order_4 rfl (lv_at hl 1 rfl) ?_
  refine w_rcalli (w_runVN (rest := []) hx hb hml hown hl.1 hg hlo hK hP hD (qS hS0 hA) (r_Y_copyInOrder Z y iy ly jy ky k (ly_n rw) hy.1.2 hn160 h01 s.heap.size) (kw245 Z.1) (kw247 Z.1) (kp_Y_copyInOrder Z.1) (kw248 Z.1) (kw5 Z.1) ⟨by decide, by decide, (by decide +kernel : (parseMethodDescriptor y_Y_copyInOrder.desc).map (fun d => d.parameters.length) = some 1)⟩ ⟨Nat.le_of_ble_eq_true rfl, Nat.le_of_ble_eq_true rfl⟩ [3, 4, 5, 6, 7, 8, 9, 10, 11, 12, 13, 14] rfl rfl (ci := 3) (q0 := 3) rfl rfl rfl (Nat.le_of_ble_eq_true rfl) d_P_order_5 ⟨Nat.le_of_ble_eq_true rfl, Nat.le_of_ble_eq_true rfl⟩) hP hS0 (fun r1 H locs hq hP hS0 => ?_)
  refine W.widen (k := 0) (n := 0) (Nat.le_of_ble_eq_true rfl) (Nat.le_of_ble_eq_true rfl) ?_
  have hS := qS hS0 hA
  refine W.widen (k := 0) (n := 0) (Nat.le_of_ble_eq_true rfl) (Nat.le_of_ble_eq_true rfl) ?_
  exact wt_iret hx hb hr hlk hP hD hS () rfl hq d_P_order_8
set_option maxHeartbeats 4000000 in
set_option maxRecDepth 100000 in
theorem m_P_score {l : Launch} {s0 : State} {D : va_G} {cA sa : Nat → Nat} (Z : zE l s0 D cA sa) (a : Nat → Nat) (ii : Nat → Int32) (li : Nat → Int64) (ia : Nat → Nat → Int32) (la : Nat → Nat → Int64) (bd : Nat → Nat) (y : Nat → Nat) (iy : Nat → Int32) (ly : Nat → Int64) (jy : Nat → Nat → Int32) (ky : Nat → Nat → Int64) (hya : y 0 = a 6) (l0 y0 g : Nat) (rw : List Rw) (bf : Nat → Bool) (hy : yR l0 y0 g rw bf (iy, ly, jy, ky)) (hok : okR l0 y0 g rw) (v k : Int32) (sz : Nat) : th_Met l y_P_score [.code y_P_score c_P_score 3 (some .long)] ({ frames := 10, cells := 3, slots := 18, locals := 300 }) (wP s0 D [.ref (a 0), .int v, .int k] ((w_P a cA ii li ia la bd) ++ (w_Y y cA iy ly jy ky)) sz) (th_Ql (fun (r : Int64) (_ : Unit) => ∃ j i, j < (ly_s y0 g rw).length ∧ v = nI j ∧ i < 2 ∧ k = nI i ∧ r = lN (if i = 0 then ((ly_s y0 g rw).getD j (0, 0)).1 else ((ly_s y0 g rw).getD j (0, 0)).2)) (wB D (va_A ((w_P a cA ii li ia la bd) ++ (w_Y y cA iy ly jy ky)) sz) (fun _ => (w_P a cA ii li ia la bd) ++ (w_Y y cA iy ly jy ky))) (va_A ((w_P a cA ii li ia la bd) ++ (w_Y y cA iy ly jy ky)) sz) (fun x H t => ¬ ((∃ j, j < (ly_s y0 g rw).length ∧ v = nI j) ∧ ∃ i, i < 2 ∧ k = nI i) ∧ th_X "java/lang/IndexOutOfBoundsException" x H t)) 3 18 (va_A ((w_P a cA ii li ia la bd) ++ (w_Y y cA iy ly jy ky)) sz) := by
  refine wMetT Z (by decide) (Nat.le_of_ble_eq_true rfl) ?_
  intro p e s m below meth c hx hb hr hml hown hlk hem hg hK hsz hP hD hA hlo hS ls hl
  subst hsz
  have hown : s.vm.findClass R_P = some m.cls := hown
  have hS0 : va_S (fun q => s.heap.size ≤ q) s.heap s.heap [] := va_S.rf
  obtain ⟨⟨s13, s9⟩, sl, sb⟩ := hy.2.2.2.2
  dsimp only at s13 s9
  have h8 := hok.2.2.2.1
  have sb2 : ∀ z ∈ (ly_s y0 g rw), z.2 ≤ 0 + 40 * rw.length := ly_s_bd2 g rw (y0, []) 0 (fun z hz => (hok.2.2.2.2 z hz).2.2.2.1) (fun z hz => by simp at hz)
  refine lv_iload_n hx hb d_P_score_0 rfl (lv_at hl 1 rfl) ?_
  refine lv_i2l hx hb d_P_score_1 rfl ?_
  refine lv_lconst (v := 0) hx hb d_P_score_2 (by decide) ?_
  refine lv_aload_n hx hb d_P_score_3 rfl (lv_at hl 0 rfl) ?_
  refine va_get (D := D) (ci := 0) (v := .ref (a 6)) (C := R_P) (T := T_P) (N := 10) hx hb (uw_P Z.1 hg.1) (fun _ h => h) hown hK hP 0 rfl rfl 5 (by decide) (kw203 Z.1 _ _ hg.1) (fun _ h9 => h9) rfl d_P_score_4 ?_
  rw [← hya]
  refine va_getN (D := D) (ci := 3) (v := .int (iy 13)) (C := R_Y) (T := T_Y) (N := 17) hx hb (uw_Y Z.1 hg.1) (fun _ h => h) hown hK hP 3 rfl rfl 13 (by decide) (kw158 Z.1 _ _ hg.1) (fun _ h9 => h9) rfl d_P_score_7 ?_
  refine lv_iconst (v := 1) hx hb d_P_score_10 (by decide) ?_
  rw [s13]
  refine lv_isub hx hb d_P_score_11 ?_
  refine lv_i2l hx hb d_P_score_12 rfl ?_
  refine w_purei (w_runS (rest := []) hx hb hml hown hl.1 hg hlo hP hD (qS hS0 hA) (m_P_isWithin Z v.toInt64 0 (nI (ly_s y0 g rw).length - 1).toInt64 s.heap.size) (kw273 Z.1) (kw274 Z.1) (kw275 Z.1) (kw1 Z.1) ⟨by decide, by decide, (by decide +kernel : (parseMethodDescriptor y_P_isWithin.desc).map (fun d => d.parameters.length) = some 3)⟩ ⟨Nat.le_of_ble_eq_true rfl, Nat.le_of_ble_eq_true rfl⟩ [] rfl rfl rfl (Nat.le_of_ble_eq_true rfl) d_P_score_13 ⟨Nat.le_of_ble_eq_true rfl, Nat.le_of_ble_eq_true rfl⟩) hP hS0 (fun r1 _ H locs hr1 hP hS0 => ?_)
  refine W.widen (k := 0) (n := 0) (Nat.le_of_ble_eq_true rfl) (Nat.le_of_ble_eq_true rfl) ?_
  subst hr1
  refine lv_if_ne (tgt := 29) hx hb d_P_score_16 (by decide) (fun d1 => ?_) (fun d1 => ?_)
  · have hv : ∃ j, j < (ly_s y0 g rw).length ∧ v = nI j := (ib_iff (by omega) (nm1_toInt (by omega))).mp (Classical.byContradiction (fun z => d1 (if_neg z)))
    refine lv_iload_n hx hb d_P_score_29 rfl (lv_at hl 2 rfl) ?_
    refine w_check (wt_runS (rest := []) hx hb hml hown hl.1 hg hlo hP hD (qS hS0 hA) (m_P_checkOneOfTwo Z k H.size) (kw484 Z.1) (kw485 Z.1) (kw486 Z.1) (kw1 Z.1) ⟨by decide, by decide, (by decide +kernel : (parseMethodDescriptor y_P_checkOneOfTwo.desc).map (fun d => d.parameters.length) = some 1)⟩ ⟨Nat.le_of_ble_eq_true rfl, Nat.le_of_ble_eq_true rfl⟩ [] rfl rfl rfl (Nat.le_of_ble_eq_true rfl) d_P_score_30 ⟨Nat.le_of_ble_eq_true rfl, Nat.le_of_ble_eq_true rfl⟩) hP hS0 (fun H locs hc2 hP hS0 => ?_) (fun x t locs1 al hth hS1 => ?_)
    · skip
      refine W.widen (k := 1) (n := 6) (Nat.le_of_ble_eq_true rfl) (Nat.le_of_ble_eq_true rfl) ?_
      have hS := qS hS0 hA
      obtain ⟨j, hj, rfl⟩ := hv
      obtain ⟨i, hi, rfl⟩ := hc2
      refine lv_iload_n hx hb d_P_score_33 rfl (lv_at hl 2 rfl) ?_
      refine lv_if_ne (tgt := 49) hx hb d_P_score_34 (by decide) (fun g2 => ?_) (fun g2 => ?_)
      · refine lv_aload_n hx hb d_P_score_49 rfl (lv_at hl 0 rfl) ?_
        refine va_get (D := D) (ci := 0) (v := .ref (a 6)) (C := R_P) (T := T_P) (N := 10) hx hb (uw_P Z.1 hg.1) (fun _ h => h) hown hK hP 0 rfl rfl 5 (by decide) (kw203 Z.1 _ _ hg.1) (fun _ h9 => h9) rfl d_P_score_50 ?_
        rw [← hya]
        refine va_getN (D := D) (ci := 3) (v := .ref (y 11)) (C := R_Y) (T := T_Y) (N := 17) hx hb (uw_Y Z.1 hg.1) (fun _ h => h) hown hK hP 3 rfl rfl 10 (by decide) (kw152 Z.1 _ _ hg.1) (fun _ h9 => h9) rfl d_P_score_53 ?_
        refine lv_iload_n hx hb d_P_score_56 rfl (lv_at hl 1 rfl) ?_
        refine va_iald hx hb hK hP 14 0 rfl rfl (vp_in_nI (n := j) (N := 16) (by omega) (by decide)) d_P_score_57 ?_
        refine lv_topi (fun z3 ez3 => ?_)
        rw [nI_clamp (n := j) (by omega)] at ez3
        obtain rfl : z3 = ((jy 10) j) := ez3
        refine lv_i2l hx hb d_P_score_58 rfl ?_
        have hi1 : ¬ i = 0 := fun z => g2 (by rw [z]; rfl)
        have hbb := sb2 _ (gd_mem (ly_s y0 g rw) (0, 0) hj)
        refine W.widen (k := 3) (n := 18) (Nat.le_of_ble_eq_true rfl) (Nat.le_of_ble_eq_true rfl) ?_
        exact wt_lret hx hb hr hlk hP hD hS () rfl ⟨j, i, hj, rfl, hi, rfl, by rw [(s9 j hj).2, if_neg hi1, iN_i2l (by omega), lZ_nat]⟩ d_P_score_59
      · refine lv_aload_n hx hb d_P_score_37 rfl (lv_at hl 0 rfl) ?_
        refine va_get (D := D) (ci := 0) (v := .ref (a 6)) (C := R_P) (T := T_P) (N := 10) hx hb (uw_P Z.1 hg.1) (fun _ h => h) hown hK hP 0 rfl rfl 5 (by decide) (kw203 Z.1 _ _ hg.1) (fun _ h9 => h9) rfl d_P_score_38 ?_
        rw [← hya]
        refine va_getN (D := D) (ci := 3) (v := .ref (y 10)) (C := R_Y) (T := T_Y) (N := 17) hx hb (uw_Y Z.1 hg.1) (fun _ h => h) hown hK hP 3 rfl rfl 9 (by decide) (kw150 Z.1 _ _ hg.1) (fun _ h9 => h9) rfl d_P_score_41 ?_
        refine lv_iload_n hx hb d_P_score_44 rfl (lv_at hl 1 rfl) ?_
        refine va_lald hx hb hK hP 13 1 rfl rfl (vp_in_nI (n := j) (N := 16) (by omega) (by decide)) d_P_score_45 ?_
        refine lv_topl (fun z4 ez4 => ?_)
        rw [nI_clamp (n := j) (by omega)] at ez4
        obtain rfl : z4 = ((ky 9) j) := ez4
        refine lv_goto (tgt := 59) hx hb d_P_score_46 (by decide) ?_
        have hi0 : i = 0 := (nI_eq (b := 0) (by omega) (by decide)).mp g2
        refine W.widen (k := 3) (n := 18) (Nat.le_of_ble_eq_true rfl) (Nat.le_of_ble_eq_true rfl) ?_
        exact wt_lret hx hb hr hlk hP hD hS () rfl ⟨j, i, hj, rfl, hi, rfl, by rw [(s9 j hj).1, if_pos hi0]⟩ d_P_score_59
    · refine th_wid (k := 3) (n := 18) (Nat.le_of_ble_eq_true rfl) (Nat.le_of_ble_eq_true rfl) ?_
      exact wt_pass hem hlk hA hS1 (fun t1 ht hW => have hX := th_up hth.2 hS0 ht al hW; ⟨Or.inr ⟨x, rfl, fun z => hth.1 z.2, hX⟩, xF hX⟩)
  · refine W.widen (k := 2) (n := 12) (Nat.le_of_ble_eq_true rfl) (Nat.le_of_ble_eq_true rfl) ?_
    exact w_throwF (C := "java/lang/IndexOutOfBoundsException") hx hb hml hl.1 hown hlk hem Z.2.2.1 hS0 (kw276 Z.1 _ _ hg.1) (kw277 Z.1 _ _ hg.1) (kw10 Z.1 _ _ hg.1) (vk_R.warm hg.1 (Z.2.2.2.1 (158, "no such score") (by decide))) (ow_132 Z hg) (by decide) d_P_score_19 d_P_score_22 d_P_score_23 d_P_score_25 d_P_score_28 (Nat.le_of_ble_eq_true rfl) (Nat.le_of_ble_eq_true rfl) (Nat.le_of_ble_eq_true rfl) (Nat.le_of_ble_eq_true rfl) (fun x t hW hX => ⟨Or.inr ⟨x, rfl, fun z => absurd d1 (by rw [if_pos ((ib_iff (by omega) (nm1_toInt (by omega))).mpr z.1)]; decide), hX⟩, xF hX⟩)
def tb_x (q : Cp) (sd : Nat) : Int64 := if sd = 0 then 0 else if sd = 2 then lN (cpk q 4) else lN (cpk q 4) / 2
def tb_y (q : Cp) (sd : Nat) : Int64 := if sd = 1 then 0 else if sd = 3 then lN (cpk q 5) else lN (cpk q 5) / 2
set_option maxHeartbeats 4000000 in
set_option maxRecDepth 100000 in
theorem m_P_tab {l : Launch} {s0 : State} {D : va_G} {cA sa : Nat → Nat} (Z : zE l s0 D cA sa) (a : Nat → Nat) (ii : Nat → Int32) (li : Nat → Int64) (ia : Nat → Nat → Int32) (la : Nat → Nat → Int64) (bd : Nat → Nat) (y : Nat → Nat) (iy : Nat → Int32) (ly : Nat → Int64) (jy : Nat → Nat → Int32) (ky : Nat → Nat → Int64) (hya : y 0 = a 6) (l0 y0 g : Nat) (rw : List Rw) (bf : Nat → Bool) (hy : yR l0 y0 g rw bf (iy, ly, jy, ky)) (hok : okR l0 y0 g rw) (b : Nat → Nat) (ib : Nat → Int32) (lb : Nat → Int64) (jb : Nat → Nat → Int32) (kb : Nat → Nat → Int64) (v k wt : Int32) (np : Nat) (hnp : ib 6 = nI np) (hnp2 : np ≤ 10) (hbd : ∀ c, c < ly_n rw → v = nI c → bd (cpk ((lcp l0 g y0 rw).getD c cp0) 0) = b 0) (sz : Nat) : th_Met l y_P_tab [.code y_P_tab c_P_tab 9 (some .long)] ({ frames := 10, cells := 4, slots := 24, locals := 300 }) (wP s0 D [.ref (a 0), .int v, .int k, .int wt] ((w_P a cA ii li ia la bd) ++ (w_Y y cA iy ly jy ky) ++ (w_B b cA ib lb jb kb)) sz) (th_Ql (fun (r : Int64) (_ : Unit) => ∃ c sd wh, c < ly_n rw ∧ v = nI c ∧ sd < 4 ∧ k = nI sd ∧ wh < 2 ∧ wt = nI wh ∧ (List.range np).any (bn kb lb (tb_x ((lcp l0 g y0 rw).getD c cp0) sd) (tb_y ((lcp l0 g y0 rw).getD c cp0) sd) (nI (cpk ((lcp l0 g y0 rw).getD c cp0) 3))) = false ∧ r = if wh = 0 then lN (cpk ((lcp l0 g y0 rw).getD c cp0) 1) + tb_x ((lcp l0 g y0 rw).getD c cp0) sd else lN (cpk ((lcp l0 g y0 rw).getD c cp0) 2) + tb_y ((lcp l0 g y0 rw).getD c cp0) sd) (wB D (va_A ((w_P a cA ii li ia la bd) ++ (w_Y y cA iy ly jy ky) ++ (w_B b cA ib lb jb kb)) sz) (fun _ => (w_P a cA ii li ia la bd) ++ (w_Y y cA iy ly jy ky) ++ (w_B b cA ib lb jb kb))) (va_A ((w_P a cA ii li ia la bd) ++ (w_Y y cA iy ly jy ky) ++ (w_B b cA ib lb jb kb)) sz) (fun x H t => (¬ ((∃ c, c < ly_n rw ∧ v = nI c) ∧ (∃ sd, sd < 4 ∧ k = nI sd) ∧ ∃ wh, wh < 2 ∧ wt = nI wh) ∧ th_X "java/lang/IndexOutOfBoundsException" x H t) ∨ ((∃ c sd, c < ly_n rw ∧ v = nI c ∧ sd < 4 ∧ k = nI sd ∧ (∃ wh, wh < 2 ∧ wt = nI wh) ∧ (List.range np).any (bn kb lb (tb_x ((lcp l0 g y0 rw).getD c cp0) sd) (tb_y ((lcp l0 g y0 rw).getD c cp0) sd) (nI (cpk ((lcp l0 g y0 rw).getD c cp0) 3))) = true) ∧ th_X "java/lang/IllegalStateException" x H t))) 4 24 (va_A ((w_P a cA ii li ia la bd) ++ (w_Y y cA iy ly jy ky) ++ (w_B b cA ib lb jb kb)) sz) := by
  refine wMetT Z (by decide) (Nat.le_of_ble_eq_true rfl) ?_
  intro p e s m below meth c hx hb hr hml hown hlk hem hg hK hsz hP hD hA hlo hS ls hl
  subst hsz
  have hown : s.vm.findClass R_P = some m.cls := hown
  have hS0 : va_S (fun q => s.heap.size ≤ q) s.heap s.heap [] := va_S.rf
  have hn160 : ly_n rw ≤ 160 := Nat.le_trans (ok_n (fun z hz => (hok.2.2.2.2 z hz).2.2.2.1)) (by have := hok.2.2.2.1; omega)
  have h8 := hok.2.2.2.1
  refine lv_aload_n hx hb d_P_tab_0 rfl (lv_at hl 0 rfl) ?_
  refine lv_iload_n hx hb d_P_tab_1 rfl (lv_at hl 1 rfl) ?_
  refine w_check (wt_runV (rest := []) hx hb hml hown hl.1 hg hlo hK hP hD (qS hS0 hA) (m_P_checkCopy Z a ii li ia la bd y iy ly jy ky hya v (ly_n rw) hy.1.2 (by omega) s.heap.size) (kw458 Z.1) (kw460 Z.1) (kp_P_checkCopy Z.1) (kw461 Z.1) (kw1 Z.1) ⟨by decide, by decide, (by decide +kernel : (parseMethodDescriptor y_P_checkCopy.desc).map (fun d => d.parameters.length) = some 1)⟩ ⟨Nat.le_of_ble_eq_true rfl, Nat.le_of_ble_eq_true rfl⟩ [0, 1, 2, 3, 4, 5, 6, 7, 8, 9, 10, 11, 12, 13, 14] rfl rfl (ci := 0) (q0 := 0) rfl rfl rfl (Nat.le_of_ble_eq_true rfl) d_P_tab_2 ⟨Nat.le_of_ble_eq_true rfl, Nat.le_of_ble_eq_true rfl⟩) hP hS0 (fun H locs hc1 hP hS0 => ?_) (fun x t locs1 al hth hS1 => ?_)
  · skip
    refine W.widen (k := 1) (n := 6) (Nat.le_of_ble_eq_true rfl) (Nat.le_of_ble_eq_true rfl) ?_
    refine lv_iload_n hx hb d_P_tab_5 rfl (lv_at hl 2 rfl) ?_
    refine w_check (wt_runS (rest := []) hx hb hml hown hl.1 hg hlo hP hD (qS hS0 hA) (m_P_checkSide Z k H.size) (kw479 Z.1) (kw480 Z.1) (kw481 Z.1) (kw1 Z.1) ⟨by decide, by decide, (by decide +kernel : (parseMethodDescriptor y_P_checkSide.desc).map (fun d => d.parameters.length) = some 1)⟩ ⟨Nat.le_of_ble_eq_true rfl, Nat.le_of_ble_eq_true rfl⟩ [] rfl rfl rfl (Nat.le_of_ble_eq_true rfl) d_P_tab_6 ⟨Nat.le_of_ble_eq_true rfl, Nat.le_of_ble_eq_true rfl⟩) hP hS0 (fun H locs hc2 hP hS0 => ?_) (fun x t locs1 al hth hS1 => ?_)
    · skip
      refine W.widen (k := 2) (n := 12) (Nat.le_of_ble_eq_true rfl) (Nat.le_of_ble_eq_true rfl) ?_
      refine lv_iload_n hx hb d_P_tab_9 rfl (lv_at hl 3 rfl) ?_
      refine w_check (wt_runS (rest := []) hx hb hml hown hl.1 hg hlo hP hD (qS hS0 hA) (m_P_checkOneOfTwo Z wt H.size) (kw484 Z.1) (kw485 Z.1) (kw486 Z.1) (kw1 Z.1) ⟨by decide, by decide, (by decide +kernel : (parseMethodDescriptor y_P_checkOneOfTwo.desc).map (fun d => d.parameters.length) = some 1)⟩ ⟨Nat.le_of_ble_eq_true rfl, Nat.le_of_ble_eq_true rfl⟩ [] rfl rfl rfl (Nat.le_of_ble_eq_true rfl) d_P_tab_10 ⟨Nat.le_of_ble_eq_true rfl, Nat.le_of_ble_eq_true rfl⟩) hP hS0 (fun H locs hc3 hP hS0 => ?_) (fun x t locs1 al hth hS1 => ?_)
      · skip
        refine W.widen (k := 3) (n := 18) (Nat.le_of_ble_eq_true rfl) (Nat.le_of_ble_eq_true rfl) ?_
        have hc3s := hc3
        obtain ⟨c0, hc, rfl⟩ := hc1
        obtain ⟨sd, hsd, rfl⟩ := hc2
        obtain ⟨wh, hwh, rfl⟩ := hc3
        obtain ⟨r0, w1, w2, w3, w4, w5, w6, w7, w8, w9, w10, w11⟩ := yR_cp hy hc
        dsimp only at w2 w3 w4 w5 w6 w7 w8
        have hb4 := (hok.2.2.2.2 _ w9).1
        have ht2 := (hok.2.2.2.2 _ w9).2.1
        obtain ⟨q0, hq0⟩ : ∃ z, z = (lcp l0 g y0 rw).getD c0 cp0 := ⟨_, rfl⟩
        have hbd0 := hbd c0 hc rfl
        rw [← hq0] at w3 w4 w5 w6 w7 w8 w10 w11 hbd0
        refine lv_aload_n hx hb d_P_tab_13 rfl (lv_at hl 0 rfl) ?_
        refine va_get (D := D) (ci := 0) (v := .ref (a 6)) (C := R_P) (T := T_P) (N := 10) hx hb (uw_P Z.1 hg.1) (fun _ h => h) hown hK hP 0 rfl rfl 5 (by decide) (kw203 Z.1 _ _ hg.1) (fun _ h9 => h9) rfl d_P_tab_14 ?_
        rw [← hya]
        refine va_getN (D := D) (ci := 3) (v := .ref (y 7)) (C := R_Y) (T := T_Y) (N := 17) hx hb (uw_Y Z.1 hg.1) (fun _ h => h) hown hK hP 3 rfl rfl 6 (by decide) (kw144 Z.1 _ _ hg.1) (fun _ h9 => h9) rfl d_P_tab_17 ?_
        refine lv_iload_n hx hb d_P_tab_20 rfl (lv_at hl 1 rfl) ?_
        refine va_iald hx hb hK hP 10 0 rfl rfl (vp_in_nI (n := c0) (N := 160) (by omega) (by decide)) d_P_tab_21 ?_
        refine lv_topi (fun z1 ez1 => ?_)
        rw [nI_clamp (n := c0) (by omega)] at ez1
        obtain rfl : z1 = ((jy 6) c0) := ez1
        refine lv_topi (fun z2 ez2 => ?_)
        obtain rfl : z2 = (nI r0) := by rw [ez2]; exact w2
        refine lv_istore (lv' := [(4, .int (nI r0)), (0, .ref (a 0)), (1, .int (nI c0)), (2, .int (nI sd)), (3, .int (nI wh))]) hx hb d_P_tab_22 hl (by decide) rfl (fun ls hl => ?_)
        refine lv_iload_n hx hb d_P_tab_24 rfl (lv_at hl 3 rfl) ?_
        refine lv_iconst (v := 0) hx hb d_P_tab_25 (by decide) ?_
        refine lv_iconst (v := 2) hx hb d_P_tab_26 (by decide) ?_
        refine lv_aload_n hx hb d_P_tab_27 rfl (lv_at hl 1 rfl) ?_
        refine va_get (D := D) (ci := 0) (v := .ref (a 6)) (C := R_P) (T := T_P) (N := 10) hx hb (uw_P Z.1 hg.1) (fun _ h => h) hown hK hP 0 rfl rfl 5 (by decide) (kw203 Z.1 _ _ hg.1) (fun _ h9 => h9) rfl d_P_tab_28 ?_
        rw [← hya]
        refine va_getN (D := D) (ci := 3) (v := .ref (y 5)) (C := R_Y) (T := T_Y) (N := 17) hx hb (uw_Y Z.1 hg.1) (fun _ h => h) hown hK hP 3 rfl rfl 4 (by decide) (kw140 Z.1 _ _ hg.1) (fun _ h9 => h9) rfl d_P_tab_31 ?_
        refine lv_iload hx hb d_P_tab_34 (lv_at hl 0 rfl) ?_
        refine va_lald hx hb hK hP 8 1 rfl rfl (vp_in_nI (n := r0) (N := 8) (by omega) (by decide)) d_P_tab_36 ?_
        refine lv_topl (fun z3 ez3 => ?_)
        rw [nI_clamp (n := r0) (by omega)] at ez3
        obtain rfl : z3 = ((ky 4) r0) := ez3
        rw [w7]
        refine w_rcalll (w_runS (rest := []) hx hb hml hown hl.1 hg hlo hP hD (qS hS0 hA) (r_P_tabOffset Z (nI sd) 0 2 (lN (cpk q0 4)) H.size) (kw488 Z.1) (kw489 Z.1) (kw490 Z.1) (kw1 Z.1) ⟨by decide, by decide, (by decide +kernel : (parseMethodDescriptor y_P_tabOffset.desc).map (fun d => d.parameters.length) = some 4)⟩ ⟨Nat.le_of_ble_eq_true rfl, Nat.le_of_ble_eq_true rfl⟩ [] rfl rfl rfl (Nat.le_of_ble_eq_true rfl) d_P_tab_37 ⟨Nat.le_of_ble_eq_true rfl, Nat.le_of_ble_eq_true rfl⟩) hP hS0 (fun rx H locs hrx hP hS0 => ?_)
        refine W.widen (k := 3) (n := 18) (Nat.le_of_ble_eq_true rfl) (Nat.le_of_ble_eq_true rfl) ?_
        refine lv_topl (fun z4 ez4 => ?_)
        obtain rfl : z4 = (tb_x q0 sd) := by rw [ez4]; rw [hrx]; unfold tb_x; have z0 : (nI sd = 0) = (sd = 0) := propext (nI_eq (b := 0) (by omega) (by decide)); have z2 : (nI sd = 2) = (sd = 2) := propext (nI_eq (b := 2) (by omega) (by decide)); simp only [z0, z2]
        refine lv_lstore (lv' := [(5, .long (tb_x q0 sd)), (4, .int (nI r0)), (0, .ref (a 0)), (1, .int (nI c0)), (2, .int (nI sd)), (3, .int (nI wh))]) hx hb d_P_tab_40 hl (by decide) rfl (fun ls hl => ?_)
        refine lv_iload_n hx hb d_P_tab_42 rfl (lv_at hl 4 rfl) ?_
        refine lv_iconst (v := 1) hx hb d_P_tab_43 (by decide) ?_
        refine lv_iconst (v := 3) hx hb d_P_tab_44 (by decide) ?_
        refine lv_aload_n hx hb d_P_tab_45 rfl (lv_at hl 2 rfl) ?_
        refine va_get (D := D) (ci := 0) (v := .ref (a 6)) (C := R_P) (T := T_P) (N := 10) hx hb (uw_P Z.1 hg.1) (fun _ h => h) hown hK hP 0 rfl rfl 5 (by decide) (kw203 Z.1 _ _ hg.1) (fun _ h9 => h9) rfl d_P_tab_46 ?_
        rw [← hya]
        refine va_getN (D := D) (ci := 3) (v := .ref (y 6)) (C := R_Y) (T := T_Y) (N := 17) hx hb (uw_Y Z.1 hg.1) (fun _ h => h) hown hK hP 3 rfl rfl 5 (by decide) (kw142 Z.1 _ _ hg.1) (fun _ h9 => h9) rfl d_P_tab_49 ?_
        refine lv_iload hx hb d_P_tab_52 (lv_at hl 1 rfl) ?_
        refine va_lald hx hb hK hP 9 1 rfl rfl (vp_in_nI (n := r0) (N := 8) (by omega) (by decide)) d_P_tab_54 ?_
        refine lv_topl (fun z5 ez5 => ?_)
        rw [nI_clamp (n := r0) (by omega)] at ez5
        obtain rfl : z5 = ((ky 5) r0) := ez5
        rw [w8]
        refine w_rcalll (w_runS (rest := []) hx hb hml hown hl.1 hg hlo hP hD (qS hS0 hA) (r_P_tabOffset Z (nI sd) 1 3 (lN (cpk q0 5)) H.size) (kw488 Z.1) (kw489 Z.1) (kw490 Z.1) (kw1 Z.1) ⟨by decide, by decide, (by decide +kernel : (parseMethodDescriptor y_P_tabOffset.desc).map (fun d => d.parameters.length) = some 4)⟩ ⟨Nat.le_of_ble_eq_true rfl, Nat.le_of_ble_eq_true rfl⟩ [] rfl rfl rfl (Nat.le_of_ble_eq_true rfl) d_P_tab_55 ⟨Nat.le_of_ble_eq_true rfl, Nat.le_of_ble_eq_true rfl⟩) hP hS0 (fun ry H locs hry hP hS0 => ?_)
        refine W.widen (k := 3) (n := 18) (Nat.le_of_ble_eq_true rfl) (Nat.le_of_ble_eq_true rfl) ?_
        refine lv_topl (fun z6 ez6 => ?_)
        obtain rfl : z6 = (tb_y q0 sd) := by rw [ez6]; rw [hry]; unfold tb_y; have z0 : (nI sd = 1) = (sd = 1) := propext (nI_eq (b := 1) (by omega) (by decide)); have z2 : (nI sd = 3) = (sd = 3) := propext (nI_eq (b := 3) (by omega) (by decide)); simp only [z0, z2]
        refine lv_lstore (lv' := [(7, .long (tb_y q0 sd)), (5, .long (tb_x q0 sd)), (4, .int (nI r0)), (0, .ref (a 0)), (1, .int (nI c0)), (2, .int (nI sd)), (3, .int (nI wh))]) hx hb d_P_tab_58 hl (by decide) rfl (fun ls hl => ?_)
        refine lv_aload_n hx hb d_P_tab_60 rfl (lv_at hl 3 rfl) ?_
        refine va_get (D := D) (ci := 0) (v := .ref (a 3)) (C := R_P) (T := T_P) (N := 10) hx hb (uw_P Z.1 hg.1) (fun _ h => h) hown hK hP 0 rfl rfl 2 (by decide) (kw200 Z.1 _ _ hg.1) (fun _ h9 => h9) rfl d_P_tab_61 ?_
        refine lv_aload_n hx hb d_P_tab_64 rfl (lv_at hl 3 rfl) ?_
        refine va_get (D := D) (ci := 0) (v := .ref (a 6)) (C := R_P) (T := T_P) (N := 10) hx hb (uw_P Z.1 hg.1) (fun _ h => h) hown hK hP 0 rfl rfl 5 (by decide) (kw203 Z.1 _ _ hg.1) (fun _ h9 => h9) rfl d_P_tab_65 ?_
        rw [← hya]
        refine va_getN (D := D) (ci := 3) (v := .ref (y 1)) (C := R_Y) (T := T_Y) (N := 17) hx hb (uw_Y Z.1 hg.1) (fun _ h => h) hown hK hP 3 rfl rfl 0 (by decide) (kw132 Z.1 _ _ hg.1) (fun _ h9 => h9) rfl d_P_tab_68 ?_
        refine lv_iload hx hb d_P_tab_71 (lv_at hl 2 rfl) ?_
        refine va_iald hx hb hK hP 4 0 rfl rfl (vp_in_nI (n := r0) (N := 8) (by omega) (by decide)) d_P_tab_73 ?_
        refine lv_topi (fun z7 ez7 => ?_)
        rw [nI_clamp (n := r0) (by omega)] at ez7
        obtain rfl : z7 = ((jy 0) r0) := ez7
        refine lv_topi (fun z8 ez8 => ?_)
        obtain rfl : z8 = (nI (cpk q0 0)) := by rw [ez8]; exact w3
        refine va_aldq hx hb hK hP 1 3 rfl rfl (vp_in_nI (n := (cpk q0 0)) (N := 4) (by omega) (by decide)) d_P_tab_74 ?_
        rw [nI_clamp (n := (cpk q0 0)) (by omega)]
        rw [show va_rf ((fun j => some (bd j)) (cpk q0 0)) = .ref (b 0) from congrArg Value.ref hbd0]
        refine lv_lload hx hb d_P_tab_75 (lv_at hl 1 rfl) ?_
        refine lv_lload hx hb d_P_tab_77 (lv_at hl 0 rfl) ?_
        refine lv_aload_n hx hb d_P_tab_79 rfl (lv_at hl 3 rfl) ?_
        refine va_get (D := D) (ci := 0) (v := .ref (a 6)) (C := R_P) (T := T_P) (N := 10) hx hb (uw_P Z.1 hg.1) (fun _ h => h) hown hK hP 0 rfl rfl 5 (by decide) (kw203 Z.1 _ _ hg.1) (fun _ h9 => h9) rfl d_P_tab_80 ?_
        rw [← hya]
        refine va_getN (D := D) (ci := 3) (v := .ref (y 2)) (C := R_Y) (T := T_Y) (N := 17) hx hb (uw_Y Z.1 hg.1) (fun _ h => h) hown hK hP 3 rfl rfl 1 (by decide) (kw134 Z.1 _ _ hg.1) (fun _ h9 => h9) rfl d_P_tab_83 ?_
        refine lv_iload hx hb d_P_tab_86 (lv_at hl 2 rfl) ?_
        refine va_iald hx hb hK hP 5 0 rfl rfl (vp_in_nI (n := r0) (N := 8) (by omega) (by decide)) d_P_tab_88 ?_
        refine lv_topi (fun z9 ez9 => ?_)
        rw [nI_clamp (n := r0) (by omega)] at ez9
        obtain rfl : z9 = ((jy 1) r0) := ez9
        refine lv_topi (fun z10 ez10 => ?_)
        obtain rfl : z10 = (nI (cpk q0 3)) := by rw [ez10]; exact w6
        refine w_rcalli (w_runVN (rest := []) hx hb hml hown hl.1 hg hlo hK hP hD (qS hS0 hA) (r_B_hasPartNear Z b ib lb jb kb (tb_x q0 sd) (tb_y q0 sd) (nI (cpk q0 3)) np hnp hnp2 H.size) (kw492 Z.1) (kw494 Z.1) (kp_B_hasPartNear Z.1) (kw495 Z.1) (kw3 Z.1) ⟨by decide, by decide, (by decide +kernel : (parseMethodDescriptor y_B_hasPartNear.desc).map (fun d => d.parameters.length) = some 3)⟩ ⟨Nat.le_of_ble_eq_true rfl, Nat.le_of_ble_eq_true rfl⟩ [15, 16, 17, 18, 19, 20] rfl rfl (ci := 2) (q0 := 15) rfl rfl rfl (Nat.le_of_ble_eq_true rfl) d_P_tab_89 ⟨Nat.le_of_ble_eq_true rfl, Nat.le_of_ble_eq_true rfl⟩) hP hS0 (fun rh H locs hrh hP hS0 => ?_)
        refine W.widen (k := 3) (n := 18) (Nat.le_of_ble_eq_true rfl) (Nat.le_of_ble_eq_true rfl) ?_
        subst hrh
        refine lv_if_eq (tgt := 105) hx hb d_P_tab_92 (by decide) (fun d11 => ?_) (fun d11 => ?_)
        · have hno : (List.range np).any (bn kb lb (tb_x q0 sd) (tb_y q0 sd) (nI (cpk q0 3))) = false := by apply Bool.eq_false_iff.mpr; intro z; rw [if_pos z] at d11; exact absurd d11 (by decide)
          have hS := qS hS0 hA
          refine lv_iload_n hx hb d_P_tab_105 rfl (lv_at hl 6 rfl) ?_
          refine lv_if_ne (tgt := 124) hx hb d_P_tab_106 (by decide) (fun g12 => ?_) (fun g12 => ?_)
          · refine lv_aload_n hx hb d_P_tab_124 rfl (lv_at hl 3 rfl) ?_
            refine va_get (D := D) (ci := 0) (v := .ref (a 6)) (C := R_P) (T := T_P) (N := 10) hx hb (uw_P Z.1 hg.1) (fun _ h => h) hown hK hP 0 rfl rfl 5 (by decide) (kw203 Z.1 _ _ hg.1) (fun _ h9 => h9) rfl d_P_tab_125 ?_
            rw [← hya]
            refine va_getN (D := D) (ci := 3) (v := .ref (y 4)) (C := R_Y) (T := T_Y) (N := 17) hx hb (uw_Y Z.1 hg.1) (fun _ h => h) hown hK hP 3 rfl rfl 3 (by decide) (kw138 Z.1 _ _ hg.1) (fun _ h9 => h9) rfl d_P_tab_128 ?_
            refine lv_iload hx hb d_P_tab_131 (lv_at hl 2 rfl) ?_
            refine va_lald hx hb hK hP 7 1 rfl rfl (vp_in_nI (n := r0) (N := 8) (by omega) (by decide)) d_P_tab_133 ?_
            refine lv_topl (fun z13 ez13 => ?_)
            rw [nI_clamp (n := r0) (by omega)] at ez13
            obtain rfl : z13 = ((ky 3) r0) := ez13
            refine lv_lload hx hb d_P_tab_134 (lv_at hl 0 rfl) ?_
            rw [w5]
            refine lv_ladd hx hb d_P_tab_136 ?_
            refine W.widen (k := 4) (n := 24) (Nat.le_of_ble_eq_true rfl) (Nat.le_of_ble_eq_true rfl) ?_
            exact wt_lret hx hb hr hlk hP hD hS () rfl ⟨c0, sd, wh, hc, rfl, hsd, rfl, hwh, rfl, by rw [← hq0]; exact hno, by rw [← hq0, if_neg (fun z => g12 (by rw [z]; rfl))]⟩ d_P_tab_137
          · refine lv_aload_n hx hb d_P_tab_109 rfl (lv_at hl 3 rfl) ?_
            refine va_get (D := D) (ci := 0) (v := .ref (a 6)) (C := R_P) (T := T_P) (N := 10) hx hb (uw_P Z.1 hg.1) (fun _ h => h) hown hK hP 0 rfl rfl 5 (by decide) (kw203 Z.1 _ _ hg.1) (fun _ h9 => h9) rfl d_P_tab_110 ?_
            rw [← hya]
            refine va_getN (D := D) (ci := 3) (v := .ref (y 8)) (C := R_Y) (T := T_Y) (N := 17) hx hb (uw_Y Z.1 hg.1) (fun _ h => h) hown hK hP 3 rfl rfl 7 (by decide) (kw146 Z.1 _ _ hg.1) (fun _ h9 => h9) rfl d_P_tab_113 ?_
            refine lv_iload_n hx hb d_P_tab_116 rfl (lv_at hl 4 rfl) ?_
            refine va_lald hx hb hK hP 11 1 rfl rfl (vp_in_nI (n := c0) (N := 160) (by omega) (by decide)) d_P_tab_117 ?_
            refine lv_topl (fun z14 ez14 => ?_)
            rw [nI_clamp (n := c0) (by omega)] at ez14
            obtain rfl : z14 = ((ky 7) c0) := ez14
            refine lv_lload hx hb d_P_tab_118 (lv_at hl 1 rfl) ?_
            rw [w4]
            refine lv_ladd hx hb d_P_tab_120 ?_
            refine lv_goto (tgt := 137) hx hb d_P_tab_121 (by decide) ?_
            refine W.widen (k := 4) (n := 24) (Nat.le_of_ble_eq_true rfl) (Nat.le_of_ble_eq_true rfl) ?_
            exact wt_lret hx hb hr hlk hP hD hS () rfl ⟨c0, sd, wh, hc, rfl, hsd, rfl, hwh, rfl, by rw [← hq0]; exact hno, by rw [← hq0, if_pos ((nI_eq (b := 0) (by omega) (by decide)).mp g12)]⟩ d_P_tab_137
        · refine W.widen (k := 3) (n := 18) (Nat.le_of_ble_eq_true rfl) (Nat.le_of_ble_eq_true rfl) ?_
          exact w_throwF (C := "java/lang/IllegalStateException") hx hb hml hl.1 hown hlk hem Z.2.2.1 hS0 (kw497 Z.1 _ _ hg.1) (kw498 Z.1 _ _ hg.1) (kw12 Z.1 _ _ hg.1) (vk_R.warm hg.1 (Z.2.2.2.1 (152, "a part is in the tab's way") (by decide))) (ow_154 Z hg) (by decide) d_P_tab_95 d_P_tab_98 d_P_tab_99 d_P_tab_101 d_P_tab_104 (Nat.le_of_ble_eq_true rfl) (Nat.le_of_ble_eq_true rfl) (Nat.le_of_ble_eq_true rfl) (Nat.le_of_ble_eq_true rfl) (fun x t hW hX => ⟨Or.inr ⟨x, rfl, Or.inr ⟨⟨c0, sd, hc, rfl, hsd, rfl, hc3s, by rw [← hq0]; exact Classical.byContradiction (fun z => d11 (if_neg z))⟩, hX⟩⟩, xF hX⟩)
      · refine th_wid (k := 4) (n := 24) (Nat.le_of_ble_eq_true rfl) (Nat.le_of_ble_eq_true rfl) ?_
        exact wt_pass hem hlk hA hS1 (fun t1 ht hW => have hX := th_up hth.2 hS0 ht al hW; ⟨Or.inr ⟨x, rfl, Or.inl ⟨fun z => hth.1 z.2.2, hX⟩⟩, xF hX⟩)
    · refine th_wid (k := 4) (n := 24) (Nat.le_of_ble_eq_true rfl) (Nat.le_of_ble_eq_true rfl) ?_
      exact wt_pass hem hlk hA hS1 (fun t1 ht hW => have hX := th_up hth.2 hS0 ht al hW; ⟨Or.inr ⟨x, rfl, Or.inl ⟨fun z => hth.1 z.2.1, hX⟩⟩, xF hX⟩)
  · refine th_wid (k := 4) (n := 24) (Nat.le_of_ble_eq_true rfl) (Nat.le_of_ble_eq_true rfl) ?_
    exact wt_pass hem hlk hA hS1 (fun t1 ht hW => have hX := th_up hth.2 hS0 ht al hW; ⟨Or.inr ⟨x, rfl, Or.inl ⟨fun z => hth.1 z.1, hX⟩⟩, xF hX⟩)
end
