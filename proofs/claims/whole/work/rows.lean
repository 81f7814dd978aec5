section
-- begun from kit/laws/SKELETON.whole.lean.txt, PART A
-- ===== PART A: goes FIRST, ahead of the names: the tables' words, and 'selects' of the private methods out of them =====
/-- a private method of a class that the tables say can be made, by its rows of tables_1 -/
def lw_okq (q : MethodName × Nat) : Prop := (q.1.cls ≠ "java/lang/invoke/MethodHandle" ∧ q.1.cls ≠ "java/lang/invoke/VarHandle") ∧ Cond.instantiable q.1.cls q.2 ∈ tables_1 ∧ Cond.privateMethod q.1 ∈ tables_1 ∧ Cond.instanceMethod q.1 ∈ tables_1
theorem lw_p0 : lw_okq (⟨"PanelForms$Layout", "copyInOrder", "(I)I"⟩, 17) := ⟨⟨by decide +kernel, by decide +kernel⟩, List.mem_of_getElem? (i := 126) (by decide +kernel), List.mem_of_getElem? (i := 246) (by decide +kernel), List.mem_of_getElem? (i := 247) (by decide +kernel)⟩
theorem lw_p1 : lw_okq (⟨"PanelForms$Layout", "countOf", "(Z)I"⟩, 17) := ⟨⟨by decide +kernel, by decide +kernel⟩, List.mem_of_getElem? (i := 126) (by decide +kernel), List.mem_of_getElem? (i := 250) (by decide +kernel), List.mem_of_getElem? (i := 251) (by decide +kernel)⟩
theorem lw_p2 : lw_okq (⟨"PanelForms$Layout", "nthOf", "(ZI)I"⟩, 17) := ⟨⟨by decide +kernel, by decide +kernel⟩, List.mem_of_getElem? (i := 126) (by decide +kernel), List.mem_of_getElem? (i := 254) (by decide +kernel), List.mem_of_getElem? (i := 255) (by decide +kernel)⟩
theorem lw_p3 : lw_okq (⟨"PanelForms", "checkBoard", "(I)V"⟩, 10) := ⟨⟨by decide +kernel, by decide +kernel⟩, List.mem_of_getElem? (i := 14) (by decide +kernel), List.mem_of_getElem? (i := 270) (by decide +kernel), List.mem_of_getElem? (i := 271) (by decide +kernel)⟩
theorem lw_p4 : lw_okq (⟨"java/lang/Throwable", "fillInStackTrace", "(I)Ljava/lang/Throwable;"⟩, 6) := ⟨⟨by decide +kernel, by decide +kernel⟩, List.mem_of_getElem? (i := 315) (by decide +kernel), List.mem_of_getElem? (i := 313) (by decide +kernel), List.mem_of_getElem? (i := 314) (by decide +kernel)⟩
theorem lw_p5 : lw_okq (⟨"PanelForms$Board", "addCorner", "(JJ)Z"⟩, 12) := ⟨⟨by decide +kernel, by decide +kernel⟩, List.mem_of_getElem? (i := 33) (by decide +kernel), List.mem_of_getElem? (i := 364) (by decide +kernel), List.mem_of_getElem? (i := 365) (by decide +kernel)⟩
theorem lw_p6 : lw_okq (⟨"PanelForms", "prepareSearch", "(I)V"⟩, 10) := ⟨⟨by decide +kernel, by decide +kernel⟩, List.mem_of_getElem? (i := 14) (by decide +kernel), List.mem_of_getElem? (i := 383) (by decide +kernel), List.mem_of_getElem? (i := 384) (by decide +kernel)⟩
theorem lw_p7 : lw_okq (⟨"PanelForms$Search", "begin", "(J)V"⟩, 12) := ⟨⟨by decide +kernel, by decide +kernel⟩, List.mem_of_getElem? (i := 78) (by decide +kernel), List.mem_of_getElem? (i := 387) (by decide +kernel), List.mem_of_getElem? (i := 388) (by decide +kernel)⟩
theorem lw_p8 : lw_okq (⟨"PanelForms$Board", "hasArea", "()Z"⟩, 12) := ⟨⟨by decide +kernel, by decide +kernel⟩, List.mem_of_getElem? (i := 33) (by decide +kernel), List.mem_of_getElem? (i := 391) (by decide +kernel), List.mem_of_getElem? (i := 392) (by decide +kernel)⟩
theorem lw_p9 : lw_okq (⟨"PanelForms$Board", "wide", "(I)J"⟩, 12) := ⟨⟨by decide +kernel, by decide +kernel⟩, List.mem_of_getElem? (i := 33) (by decide +kernel), List.mem_of_getElem? (i := 395) (by decide +kernel), List.mem_of_getElem? (i := 396) (by decide +kernel)⟩
theorem lw_p10 : lw_okq (⟨"PanelForms$Board", "high", "(I)J"⟩, 12) := ⟨⟨by decide +kernel, by decide +kernel⟩, List.mem_of_getElem? (i := 33) (by decide +kernel), List.mem_of_getElem? (i := 403) (by decide +kernel), List.mem_of_getElem? (i := 404) (by decide +kernel)⟩
theorem lw_p11 : lw_okq (⟨"PanelForms$Search", "allowKind", "(IIJ)V"⟩, 12) := ⟨⟨by decide +kernel, by decide +kernel⟩, List.mem_of_getElem? (i := 78) (by decide +kernel), List.mem_of_getElem? (i := 407) (by decide +kernel), List.mem_of_getElem? (i := 408) (by decide +kernel)⟩
theorem lw_p12 : lw_okq (⟨"PanelForms$Search", "look", "(IJ)V"⟩, 12) := ⟨⟨by decide +kernel, by decide +kernel⟩, List.mem_of_getElem? (i := 78) (by decide +kernel), List.mem_of_getElem? (i := 414) (by decide +kernel), List.mem_of_getElem? (i := 415) (by decide +kernel)⟩
theorem lw_p13 : lw_okq (⟨"PanelForms$Search", "tryRow", "(IIIJ)V"⟩, 12) := ⟨⟨by decide +kernel, by decide +kernel⟩, List.mem_of_getElem? (i := 78) (by decide +kernel), List.mem_of_getElem? (i := 419) (by decide +kernel), List.mem_of_getElem? (i := 420) (by decide +kernel)⟩
theorem lw_p14 : lw_okq (⟨"PanelForms$Search", "keepIfBetter", "(II)V"⟩, 12) := ⟨⟨by decide +kernel, by decide +kernel⟩, List.mem_of_getElem? (i := 78) (by decide +kernel), List.mem_of_getElem? (i := 423) (by decide +kernel), List.mem_of_getElem? (i := 424) (by decide +kernel)⟩
theorem lw_p15 : lw_okq (⟨"PanelForms", "layOutBest", "()V"⟩, 10) := ⟨⟨by decide +kernel, by decide +kernel⟩, List.mem_of_getElem? (i := 14) (by decide +kernel), List.mem_of_getElem? (i := 427) (by decide +kernel), List.mem_of_getElem? (i := 428) (by decide +kernel)⟩
def lw_privs_1 : List (MethodName × Nat) := [(⟨"PanelForms$Layout", "copyInOrder", "(I)I"⟩, 17), (⟨"PanelForms$Layout", "countOf", "(Z)I"⟩, 17), (⟨"PanelForms$Layout", "nthOf", "(ZI)I"⟩, 17), (⟨"PanelForms", "checkBoard", "(I)V"⟩, 10), (⟨"java/lang/Throwable", "fillInStackTrace", "(I)Ljava/lang/Throwable;"⟩, 6), (⟨"PanelForms$Board", "addCorner", "(JJ)Z"⟩, 12), (⟨"PanelForms", "prepareSearch", "(I)V"⟩, 10), (⟨"PanelForms$Search", "begin", "(J)V"⟩, 12), (⟨"PanelForms$Board", "hasArea", "()Z"⟩, 12), (⟨"PanelForms$Board", "wide", "(I)J"⟩, 12), (⟨"PanelForms$Board", "high", "(I)J"⟩, 12), (⟨"PanelForms$Search", "allowKind", "(IIJ)V"⟩, 12), (⟨"PanelForms$Search", "look", "(IJ)V"⟩, 12), (⟨"PanelForms$Search", "tryRow", "(IIIJ)V"⟩, 12), (⟨"PanelForms$Search", "keepIfBetter", "(II)V"⟩, 12), (⟨"PanelForms", "layOutBest", "()V"⟩, 10)]
theorem lw_r1 : ∀ q ∈ lw_privs_1, lw_okq q := List.forall_mem_cons.mpr ⟨lw_p0, List.forall_mem_cons.mpr ⟨lw_p1, List.forall_mem_cons.mpr ⟨lw_p2, List.forall_mem_cons.mpr ⟨lw_p3, List.forall_mem_cons.mpr ⟨lw_p4, List.forall_mem_cons.mpr ⟨lw_p5, List.forall_mem_cons.mpr ⟨lw_p6, List.forall_mem_cons.mpr ⟨lw_p7, List.forall_mem_cons.mpr ⟨lw_p8, List.forall_mem_cons.mpr ⟨lw_p9, List.forall_mem_cons.mpr ⟨lw_p10, List.forall_mem_cons.mpr ⟨lw_p11, List.forall_mem_cons.mpr ⟨lw_p12, List.forall_mem_cons.mpr ⟨lw_p13, List.forall_mem_cons.mpr ⟨lw_p14, List.forall_mem_cons.mpr ⟨lw_p15, fun _ h => absurd h List.not_mem_nil⟩⟩⟩⟩⟩⟩⟩⟩⟩⟩⟩⟩⟩⟩⟩⟩
theorem lw_p16 : lw_okq (⟨"PanelForms$Layout", "begin", "(JJJ)V"⟩, 17) := ⟨⟨by decide +kernel, by decide +kernel⟩, List.mem_of_getElem? (i := 126) (by decide +kernel), List.mem_of_getElem? (i := 431) (by decide +kernel), List.mem_of_getElem? (i := 432) (by decide +kernel)⟩
theorem lw_p17 : lw_okq (⟨"PanelForms$Layout", "addRow", "(IIJJI)V"⟩, 17) := ⟨⟨by decide +kernel, by decide +kernel⟩, List.mem_of_getElem? (i := 126) (by decide +kernel), List.mem_of_getElem? (i := 435) (by decide +kernel), List.mem_of_getElem? (i := 436) (by decide +kernel)⟩
theorem lw_p18 : lw_okq (⟨"PanelForms$Layout", "addCopies", "(IJ)V"⟩, 17) := ⟨⟨by decide +kernel, by decide +kernel⟩, List.mem_of_getElem? (i := 126) (by decide +kernel), List.mem_of_getElem? (i := 439) (by decide +kernel), List.mem_of_getElem? (i := 440) (by decide +kernel)⟩
theorem lw_p19 : lw_okq (⟨"PanelForms$Layout", "addScore", "(JI)V"⟩, 17) := ⟨⟨by decide +kernel, by decide +kernel⟩, List.mem_of_getElem? (i := 126) (by decide +kernel), List.mem_of_getElem? (i := 443) (by decide +kernel), List.mem_of_getElem? (i := 444) (by decide +kernel)⟩
theorem lw_p20 : lw_okq (⟨"PanelForms$Search", "findsMore", "(IJ)Z"⟩, 12) := ⟨⟨by decide +kernel, by decide +kernel⟩, List.mem_of_getElem? (i := 78) (by decide +kernel), List.mem_of_getElem? (i := 447) (by decide +kernel), List.mem_of_getElem? (i := 448) (by decide +kernel)⟩
theorem lw_p21 : lw_okq (⟨"PanelForms", "checkCopy", "(I)V"⟩, 10) := ⟨⟨by decide +kernel, by decide +kernel⟩, List.mem_of_getElem? (i := 14) (by decide +kernel), List.mem_of_getElem? (i := 459) (by decide +kernel), List.mem_of_getElem? (i := 460) (by decide +kernel)⟩
theorem lw_p22 : lw_okq (⟨"PanelForms$Board", "hasPartNear", "(JJI)Z"⟩, 12) := ⟨⟨by decide +kernel, by decide +kernel⟩, List.mem_of_getElem? (i := 33) (by decide +kernel), List.mem_of_getElem? (i := 493) (by decide +kernel), List.mem_of_getElem? (i := 494) (by decide +kernel)⟩
theorem lw_p23 : lw_okq (⟨"PanelForms$Board", "addPart", "(JJJ)Z"⟩, 12) := ⟨⟨by decide +kernel, by decide +kernel⟩, List.mem_of_getElem? (i := 33) (by decide +kernel), List.mem_of_getElem? (i := 530) (by decide +kernel), List.mem_of_getElem? (i := 531) (by decide +kernel)⟩
theorem lw_p24 : lw_okq (⟨"PanelForms", "twiceAreaOfCopies", "()J"⟩, 10) := ⟨⟨by decide +kernel, by decide +kernel⟩, List.mem_of_getElem? (i := 14) (by decide +kernel), List.mem_of_getElem? (i := 541) (by decide +kernel), List.mem_of_getElem? (i := 542) (by decide +kernel)⟩
theorem lw_p25 : lw_okq (⟨"PanelForms$Board", "twiceArea", "()J"⟩, 12) := ⟨⟨by decide +kernel, by decide +kernel⟩, List.mem_of_getElem? (i := 33) (by decide +kernel), List.mem_of_getElem? (i := 545) (by decide +kernel), List.mem_of_getElem? (i := 546) (by decide +kernel)⟩
theorem lw_p26 : lw_okq (⟨"PanelForms", "grownEnd", "(JJZ)J"⟩, 10) := ⟨⟨by decide +kernel, by decide +kernel⟩, List.mem_of_getElem? (i := 14) (by decide +kernel), List.mem_of_getElem? (i := 564) (by decide +kernel), List.mem_of_getElem? (i := 565) (by decide +kernel)⟩
theorem lw_p27 : lw_okq (⟨"PanelFormsModel", "isBoard", "(I)Z"⟩, 26) := ⟨⟨by decide +kernel, by decide +kernel⟩, List.mem_of_getElem? (i := 598) (by decide +kernel), List.mem_of_getElem? (i := 696) (by decide +kernel), List.mem_of_getElem? (i := 697) (by decide +kernel)⟩
theorem lw_p28 : lw_okq (⟨"PanelFormsModel", "findBox", "(I)V"⟩, 26) := ⟨⟨by decide +kernel, by decide +kernel⟩, List.mem_of_getElem? (i := 598) (by decide +kernel), List.mem_of_getElem? (i := 728) (by decide +kernel), List.mem_of_getElem? (i := 729) (by decide +kernel)⟩
theorem lw_p29 : lw_okq (⟨"PanelFormsModel", "fitsAlong", "(II)I"⟩, 26) := ⟨⟨by decide +kernel, by decide +kernel⟩, List.mem_of_getElem? (i := 598) (by decide +kernel), List.mem_of_getElem? (i := 732) (by decide +kernel), List.mem_of_getElem? (i := 733) (by decide +kernel)⟩
theorem lw_p30 : lw_okq (⟨"PanelFormsModel", "wideOf", "(I)J"⟩, 26) := ⟨⟨by decide +kernel, by decide +kernel⟩, List.mem_of_getElem? (i := 598) (by decide +kernel), List.mem_of_getElem? (i := 736) (by decide +kernel), List.mem_of_getElem? (i := 737) (by decide +kernel)⟩
theorem lw_p31 : lw_okq (⟨"PanelFormsModel", "search", "(I)V"⟩, 26) := ⟨⟨by decide +kernel, by decide +kernel⟩, List.mem_of_getElem? (i := 598) (by decide +kernel), List.mem_of_getElem? (i := 741) (by decide +kernel), List.mem_of_getElem? (i := 742) (by decide +kernel)⟩
def lw_privs_2 : List (MethodName × Nat) := [(⟨"PanelForms$Layout", "begin", "(JJJ)V"⟩, 17), (⟨"PanelForms$Layout", "addRow", "(IIJJI)V"⟩, 17), (⟨"PanelForms$Layout", "addCopies", "(IJ)V"⟩, 17), (⟨"PanelForms$Layout", "addScore", "(JI)V"⟩, 17), (⟨"PanelForms$Search", "findsMore", "(IJ)Z"⟩, 12), (⟨"PanelForms", "checkCopy", "(I)V"⟩, 10), (⟨"PanelForms$Board", "hasPartNear", "(JJI)Z"⟩, 12), (⟨"PanelForms$Board", "addPart", "(JJJ)Z"⟩, 12), (⟨"PanelForms", "twiceAreaOfCopies", "()J"⟩, 10), (⟨"PanelForms$Board", "twiceArea", "()J"⟩, 12), (⟨"PanelForms", "grownEnd", "(JJZ)J"⟩, 10), (⟨"PanelFormsModel", "isBoard", "(I)Z"⟩, 26), (⟨"PanelFormsModel", "findBox", "(I)V"⟩, 26), (⟨"PanelFormsModel", "fitsAlong", "(II)I"⟩, 26), (⟨"PanelFormsModel", "wideOf", "(I)J"⟩, 26), (⟨"PanelFormsModel", "search", "(I)V"⟩, 26)]
theorem lw_r2 : ∀ q ∈ lw_privs_2, lw_okq q := List.forall_mem_cons.mpr ⟨lw_p16, List.forall_mem_cons.mpr ⟨lw_p17, List.forall_mem_cons.mpr ⟨lw_p18, List.forall_mem_cons.mpr ⟨lw_p19, List.forall_mem_cons.mpr ⟨lw_p20, List.forall_mem_cons.mpr ⟨lw_p21, List.forall_mem_cons.mpr ⟨lw_p22, List.forall_mem_cons.mpr ⟨lw_p23, List.forall_mem_cons.mpr ⟨lw_p24, List.forall_mem_cons.mpr ⟨lw_p25, List.forall_mem_cons.mpr ⟨lw_p26, List.forall_mem_cons.mpr ⟨lw_p27, List.forall_mem_cons.mpr ⟨lw_p28, List.forall_mem_cons.mpr ⟨lw_p29, List.forall_mem_cons.mpr ⟨lw_p30, List.forall_mem_cons.mpr ⟨lw_p31, fun _ h => absurd h List.not_mem_nil⟩⟩⟩⟩⟩⟩⟩⟩⟩⟩⟩⟩⟩⟩⟩⟩
theorem lw_p32 : lw_okq (⟨"PanelFormsModel", "goOn", "(I)Z"⟩, 26) := ⟨⟨by decide +kernel, by decide +kernel⟩, List.mem_of_getElem? (i := 598) (by decide +kernel), List.mem_of_getElem? (i := 745) (by decide +kernel), List.mem_of_getElem? (i := 746) (by decide +kernel)⟩
theorem lw_p33 : lw_okq (⟨"PanelFormsModel", "rowsOf", "()I"⟩, 26) := ⟨⟨by decide +kernel, by decide +kernel⟩, List.mem_of_getElem? (i := 598) (by decide +kernel), List.mem_of_getElem? (i := 749) (by decide +kernel), List.mem_of_getElem? (i := 750) (by decide +kernel)⟩
theorem lw_p34 : lw_okq (⟨"PanelFormsModel", "weigh", "()V"⟩, 26) := ⟨⟨by decide +kernel, by decide +kernel⟩, List.mem_of_getElem? (i := 598) (by decide +kernel), List.mem_of_getElem? (i := 753) (by decide +kernel), List.mem_of_getElem? (i := 754) (by decide +kernel)⟩
theorem lw_p35 : lw_okq (⟨"PanelFormsModel", "copiesOf", "()I"⟩, 26) := ⟨⟨by decide +kernel, by decide +kernel⟩, List.mem_of_getElem? (i := 598) (by decide +kernel), List.mem_of_getElem? (i := 757) (by decide +kernel), List.mem_of_getElem? (i := 758) (by decide +kernel)⟩
theorem lw_p36 : lw_okq (⟨"PanelFormsModel", "isLow", "()Z"⟩, 26) := ⟨⟨by decide +kernel, by decide +kernel⟩, List.mem_of_getElem? (i := 598) (by decide +kernel), List.mem_of_getElem? (i := 761) (by decide +kernel), List.mem_of_getElem? (i := 762) (by decide +kernel)⟩
theorem lw_p37 : lw_okq (⟨"PanelFormsModel", "highOf", "(I)J"⟩, 26) := ⟨⟨by decide +kernel, by decide +kernel⟩, List.mem_of_getElem? (i := 598) (by decide +kernel), List.mem_of_getElem? (i := 765) (by decide +kernel), List.mem_of_getElem? (i := 766) (by decide +kernel)⟩
theorem lw_p38 : lw_okq (⟨"PanelFormsModel", "isAhead", "()Z"⟩, 26) := ⟨⟨by decide +kernel, by decide +kernel⟩, List.mem_of_getElem? (i := 598) (by decide +kernel), List.mem_of_getElem? (i := 769) (by decide +kernel), List.mem_of_getElem? (i := 770) (by decide +kernel)⟩
theorem lw_p39 : lw_okq (⟨"PanelFormsModel", "layOut", "()V"⟩, 26) := ⟨⟨by decide +kernel, by decide +kernel⟩, List.mem_of_getElem? (i := 598) (by decide +kernel), List.mem_of_getElem? (i := 773) (by decide +kernel), List.mem_of_getElem? (i := 774) (by decide +kernel)⟩
theorem lw_p40 : lw_okq (⟨"PanelFormsModel", "put", "(IJJIJJ)V"⟩, 26) := ⟨⟨by decide +kernel, by decide +kernel⟩, List.mem_of_getElem? (i := 598) (by decide +kernel), List.mem_of_getElem? (i := 777) (by decide +kernel), List.mem_of_getElem? (i := 778) (by decide +kernel)⟩
theorem lw_p41 : lw_okq (⟨"PanelFormsModel", "isCopy", "(I)Z"⟩, 26) := ⟨⟨by decide +kernel, by decide +kernel⟩, List.mem_of_getElem? (i := 598) (by decide +kernel), List.mem_of_getElem? (i := 789) (by decide +kernel), List.mem_of_getElem? (i := 790) (by decide +kernel)⟩
theorem lw_p42 : lw_okq (⟨"PanelFormsModel", "nextScore", "(J)J"⟩, 26) := ⟨⟨by decide +kernel, by decide +kernel⟩, List.mem_of_getElem? (i := 598) (by decide +kernel), List.mem_of_getElem? (i := 803) (by decide +kernel), List.mem_of_getElem? (i := 804) (by decide +kernel)⟩
theorem lw_p43 : lw_okq (⟨"PanelFormsModel", "areaOf", "(I)J"⟩, 26) := ⟨⟨by decide +kernel, by decide +kernel⟩, List.mem_of_getElem? (i := 598) (by decide +kernel), List.mem_of_getElem? (i := 811) (by decide +kernel), List.mem_of_getElem? (i := 812) (by decide +kernel)⟩
theorem lw_p44 : lw_okq (⟨"PanelFormsModel", "orderOf", "(I)I"⟩, 26) := ⟨⟨by decide +kernel, by decide +kernel⟩, List.mem_of_getElem? (i := 598) (by decide +kernel), List.mem_of_getElem? (i := 819) (by decide +kernel), List.mem_of_getElem? (i := 820) (by decide +kernel)⟩
def lw_privs_3 : List (MethodName × Nat) := [(⟨"PanelFormsModel", "goOn", "(I)Z"⟩, 26), (⟨"PanelFormsModel", "rowsOf", "()I"⟩, 26), (⟨"PanelFormsModel", "weigh", "()V"⟩, 26), (⟨"PanelFormsModel", "copiesOf", "()I"⟩, 26), (⟨"PanelFormsModel", "isLow", "()Z"⟩, 26), (⟨"PanelFormsModel", "highOf", "(I)J"⟩, 26), (⟨"PanelFormsModel", "isAhead", "()Z"⟩, 26), (⟨"PanelFormsModel", "layOut", "()V"⟩, 26), (⟨"PanelFormsModel", "put", "(IJJIJJ)V"⟩, 26), (⟨"PanelFormsModel", "isCopy", "(I)Z"⟩, 26), (⟨"PanelFormsModel", "nextScore", "(J)J"⟩, 26), (⟨"PanelFormsModel", "areaOf", "(I)J"⟩, 26), (⟨"PanelFormsModel", "orderOf", "(I)I"⟩, 26)]
theorem lw_r3 : ∀ q ∈ lw_privs_3, lw_okq q := List.forall_mem_cons.mpr ⟨lw_p32, List.forall_mem_cons.mpr ⟨lw_p33, List.forall_mem_cons.mpr ⟨lw_p34, List.forall_mem_cons.mpr ⟨lw_p35, List.forall_mem_cons.mpr ⟨lw_p36, List.forall_mem_cons.mpr ⟨lw_p37, List.forall_mem_cons.mpr ⟨lw_p38, List.forall_mem_cons.mpr ⟨lw_p39, List.forall_mem_cons.mpr ⟨lw_p40, List.forall_mem_cons.mpr ⟨lw_p41, List.forall_mem_cons.mpr ⟨lw_p42, List.forall_mem_cons.mpr ⟨lw_p43, List.forall_mem_cons.mpr ⟨lw_p44, fun _ h => absurd h List.not_mem_nil⟩⟩⟩⟩⟩⟩⟩⟩⟩⟩⟩⟩⟩
def lw_privs : List (MethodName × Nat) := lw_privs_1 ++ (lw_privs_2 ++ (lw_privs_3))
def lw_tbl : List Cond := k2_sels lw_privs ++ tables_1
theorem lw_privs_ok : ∀ q ∈ lw_privs, lw_okq q := by
  show ∀ q ∈ lw_privs_1 ++ (lw_privs_2 ++ (lw_privs_3)), lw_okq q
  exact List.forall_mem_append.mpr ⟨lw_r1, List.forall_mem_append.mpr ⟨lw_r2, lw_r3⟩⟩
/-! names: classes, fields, methods; written by a program out of the listing -/
abbrev R_P : String := "PanelForms"
def T_P : u_T := fun k => match k with
  | 0 => ("PanelForms", "panelWidth", "J", true)
  | 1 => ("PanelForms", "panelHeight", "J", true)
  | 2 => ("PanelForms", "boards", "[LPanelForms$Board;", true)
  | 3 => ("PanelForms", "rails", "[J", true)
  | 4 => ("PanelForms", "search", "LPanelForms$Search;", true)
  | 5 => ("PanelForms", "layout", "LPanelForms$Layout;", true)
  | 6 => ("PanelForms", "boardCount", "I", false)
  | 7 => ("PanelForms", "gapLength", "J", false)
  | 8 => ("PanelForms", "toolRadius", "J", false)
  | _ => ("PanelForms", "provedInRun", "Z", false)
def t_P : Nat → FieldType := fun k => match k with
  | 0 => .long
  | 1 => .long
  | 2 => .array (.object "PanelForms$Board")
  | 3 => .array .long
  | 4 => .object "PanelForms$Search"
  | 5 => .object "PanelForms$Layout"
  | 6 => .int
  | 7 => .long
  | 8 => .long
  | _ => .boolean
abbrev u_P : List Cond := u_ws R_P T_P 10
theorem n_P : ∀ a, a < 10 → ∀ b, b < 10 → a ≠ b → (T_P a).2.1 ≠ (T_P b).2.1 := by decide +kernel
theorem t_P_ok : ∀ k, k < 10 → parseFieldDescriptor (T_P k).2.2.1 = some (t_P k) := by decide +kernel
abbrev R_M : String := "PanelFormsModel"
def T_M : u_T := fun k => match k with
  | 0 => ("PanelFormsModel", "thrown", "I", false)
  | 1 => ("PanelFormsModel", "width", "J", true)
  | 2 => ("PanelFormsModel", "height", "J", true)
  | 3 => ("PanelFormsModel", "boards", "I", false)
  | 4 => ("PanelFormsModel", "cornerCount", "[I", true)
  | 5 => ("PanelFormsModel", "cornerX", "[J", true)
  | 6 => ("PanelFormsModel", "cornerY", "[J", true)
  | 7 => ("PanelFormsModel", "wanted", "[I", true)
  | 8 => ("PanelFormsModel", "partCount", "[I", true)
  | 9 => ("PanelFormsModel", "parts", "[J", true)
  | 10 => ("PanelFormsModel", "rails", "[J", true)
  | 11 => ("PanelFormsModel", "gap", "J", false)
  | 12 => ("PanelFormsModel", "tool", "J", false)
  | 13 => ("PanelFormsModel", "copies", "I", false)
  | 14 => ("PanelFormsModel", "row", "[J", true)
  | 15 => ("PanelFormsModel", "isBad", "[Z", true)
  | 16 => ("PanelFormsModel", "isProved", "Z", false)
  | 17 => ("PanelFormsModel", "boxX", "[J", true)
  | 18 => ("PanelFormsModel", "boxY", "[J", true)
  | 19 => ("PanelFormsModel", "boxW", "[J", true)
  | 20 => ("PanelFormsModel", "boxH", "[J", true)
  | 21 => ("PanelFormsModel", "fits", "[I", true)
  | 22 => ("PanelFormsModel", "counts", "[I", true)
  | 23 => ("PanelFormsModel", "best", "[I", true)
  | 24 => ("PanelFormsModel", "bestCopies", "I", false)
  | _ => ("PanelFormsModel", "bestRows", "I", false)
def t_M : Nat → FieldType := fun k => match k with
  | 0 => .int
  | 1 => .long
  | 2 => .long
  | 3 => .int
  | 4 => .array .int
  | 5 => .array .long
  | 6 => .array .long
  | 7 => .array .int
  | 8 => .array .int
  | 9 => .array .long
  | 10 => .array .long
  | 11 => .long
  | 12 => .long
  | 13 => .int
  | 14 => .array .long
  | 15 => .array .boolean
  | 16 => .boolean
  | 17 => .array .long
  | 18 => .array .long
  | 19 => .array .long
  | 20 => .array .long
  | 21 => .array .int
  | 22 => .array .int
  | 23 => .array .int
  | 24 => .int
  | _ => .int
abbrev u_M : List Cond := u_ws R_M T_M 26
theorem n_M : ∀ a, a < 26 → ∀ b, b < 26 → a ≠ b → (T_M a).2.1 ≠ (T_M b).2.1 := by decide +kernel
theorem t_M_ok : ∀ k, k < 26 → parseFieldDescriptor (T_M k).2.2.1 = some (t_M k) := by decide +kernel
abbrev R_B : String := "PanelForms$Board"
def T_B : u_T := fun k => match k with
  | 0 => ("PanelForms$Board", "cornerX", "[J", true)
  | 1 => ("PanelForms$Board", "cornerY", "[J", true)
  | 2 => ("PanelForms$Board", "partX", "[J", true)
  | 3 => ("PanelForms$Board", "partY", "[J", true)
  | 4 => ("PanelForms$Board", "partRadius", "[J", true)
  | 5 => ("PanelForms$Board", "corners", "I", false)
  | 6 => ("PanelForms$Board", "parts", "I", false)
  | 7 => ("PanelForms$Board", "leastX", "J", false)
  | 8 => ("PanelForms$Board", "leastY", "J", false)
  | 9 => ("PanelForms$Board", "greatestX", "J", false)
  | 10 => ("PanelForms$Board", "greatestY", "J", false)
  | _ => ("PanelForms$Board", "wanted", "I", false)
def t_B : Nat → FieldType := fun k => match k with
  | 0 => .array .long
  | 1 => .array .long
  | 2 => .array .long
  | 3 => .array .long
  | 4 => .array .long
  | 5 => .int
  | 6 => .int
  | 7 => .long
  | 8 => .long
  | 9 => .long
  | 10 => .long
  | _ => .int
abbrev u_B : List Cond := u_ws R_B T_B 12
theorem n_B : ∀ a, a < 12 → ∀ b, b < 12 → a ≠ b → (T_B a).2.1 ≠ (T_B b).2.1 := by decide +kernel
theorem t_B_ok : ∀ k, k < 12 → parseFieldDescriptor (T_B k).2.2.1 = some (t_B k) := by decide +kernel
abbrev R_Y : String := "PanelForms$Layout"
def T_Y : u_T := fun k => match k with
  | 0 => ("PanelForms$Layout", "boardOfRow", "[I", true)
  | 1 => ("PanelForms$Layout", "turnOfRow", "[I", true)
  | 2 => ("PanelForms$Layout", "copiesInRow", "[I", true)
  | 3 => ("PanelForms$Layout", "yOfRow", "[J", true)
  | 4 => ("PanelForms$Layout", "wideInRow", "[J", true)
  | 5 => ("PanelForms$Layout", "highInRow", "[J", true)
  | 6 => ("PanelForms$Layout", "rowOfCopy", "[I", true)
  | 7 => ("PanelForms$Layout", "xOfCopy", "[J", true)
  | 8 => ("PanelForms$Layout", "badCopy", "[Z", true)
  | 9 => ("PanelForms$Layout", "yOfScore", "[J", true)
  | 10 => ("PanelForms$Layout", "boxesAtScore", "[I", true)
  | 11 => ("PanelForms$Layout", "rows", "I", false)
  | 12 => ("PanelForms$Layout", "copies", "I", false)
  | 13 => ("PanelForms$Layout", "scores", "I", false)
  | 14 => ("PanelForms$Layout", "left", "J", false)
  | 15 => ("PanelForms$Layout", "nextY", "J", false)
  | _ => ("PanelForms$Layout", "gapBetween", "J", false)
def t_Y : Nat → FieldType := fun k => match k with
  | 0 => .array .int
  | 1 => .array .int
  | 2 => .array .int
  | 3 => .array .long
  | 4 => .array .long
  | 5 => .array .long
  | 6 => .array .int
  | 7 => .array .long
  | 8 => .array .boolean
  | 9 => .array .long
  | 10 => .array .int
  | 11 => .int
  | 12 => .int
  | 13 => .int
  | 14 => .long
  | 15 => .long
  | _ => .long
abbrev u_Y : List Cond := u_ws R_Y T_Y 17
theorem n_Y : ∀ a, a < 17 → ∀ b, b < 17 → a ≠ b → (T_Y a).2.1 ≠ (T_Y b).2.1 := by decide +kernel
theorem t_Y_ok : ∀ k, k < 17 → parseFieldDescriptor (T_Y k).2.2.1 = some (t_Y k) := by decide +kernel
abbrev R_S : String := "PanelForms$Search"
def T_S : u_T := fun k => match k with
  | 0 => ("PanelForms$Search", "room", "[I", true)
  | 1 => ("PanelForms$Search", "highOfKind", "[J", true)
  | 2 => ("PanelForms$Search", "wantedLeft", "[I", true)
  | 3 => ("PanelForms$Search", "kinds", "[I", true)
  | 4 => ("PanelForms$Search", "taken", "[I", true)
  | 5 => ("PanelForms$Search", "bestKinds", "[I", true)
  | 6 => ("PanelForms$Search", "bestTaken", "[I", true)
  | 7 => ("PanelForms$Search", "bestRows", "I", false)
  | 8 => ("PanelForms$Search", "bestCopies", "I", false)
  | 9 => ("PanelForms$Search", "mostRows", "I", false)
  | 10 => ("PanelForms$Search", "mostRoom", "I", false)
  | _ => ("PanelForms$Search", "gapBetween", "J", false)
def t_S : Nat → FieldType := fun k => match k with
  | 0 => .array .int
  | 1 => .array .long
  | 2 => .array .int
  | 3 => .array .int
  | 4 => .array .int
  | 5 => .array .int
  | 6 => .array .int
  | 7 => .int
  | 8 => .int
  | 9 => .int
  | 10 => .int
  | _ => .long
abbrev u_S : List Cond := u_ws R_S T_S 12
theorem n_S : ∀ a, a < 12 → ∀ b, b < 12 → a ≠ b → (T_S a).2.1 ≠ (T_S b).2.1 := by decide +kernel
theorem t_S_ok : ∀ k, k < 12 → parseFieldDescriptor (T_S k).2.2.1 = some (t_S k) := by decide +kernel
abbrev R_L : String := "PanelFormsLaw"
abbrev ncl : List vw_C := [(R_P, T_P, 10), (R_M, T_M, 26), (R_B, T_B, 12), (R_Y, T_Y, 17), (R_S, T_S, 12)]
abbrev c_P_init : ByteArray := prog_1_method_1_code
abbrev y_P_init : MethodName := ⟨R_P, "<init>", "(JJ)V"⟩
abbrev c_P_board : ByteArray := prog_1_method_2_code
abbrev y_P_board : MethodName := ⟨R_P, "board", "()I"⟩
abbrev c_P_corner : ByteArray := prog_1_method_3_code
abbrev y_P_corner : MethodName := ⟨R_P, "corner", "(IJJ)Z"⟩
abbrev c_P_run : ByteArray := prog_1_method_4_code
abbrev y_P_run : MethodName := ⟨R_P, "run", "(IJ)I"⟩
abbrev c_P_at : ByteArray := prog_1_method_5_code
abbrev y_P_at : MethodName := ⟨R_P, "at", "(II)J"⟩
abbrev c_P_proved : ByteArray := prog_1_method_6_code
abbrev y_P_proved : MethodName := ⟨R_P, "proved", "()Z"⟩
abbrev c_P_gap : ByteArray := prog_1_method_7_code
abbrev y_P_gap : MethodName := ⟨R_P, "gap", "(J)Z"⟩
abbrev c_P_tab : ByteArray := prog_1_method_8_code
abbrev y_P_tab : MethodName := ⟨R_P, "tab", "(III)J"⟩
abbrev c_P_score : ByteArray := prog_1_method_9_code
abbrev y_P_score : MethodName := ⟨R_P, "score", "(II)J"⟩
abbrev c_P_part : ByteArray := prog_1_method_10_code
abbrev y_P_part : MethodName := ⟨R_P, "part", "(IJJJ)Z"⟩
abbrev c_P_waste : ByteArray := prog_1_method_11_code
abbrev y_P_waste : MethodName := ⟨R_P, "waste", "(I)J"⟩
abbrev c_P_mill : ByteArray := prog_1_method_12_code
abbrev y_P_mill : MethodName := ⟨R_P, "mill", "(II)J"⟩
abbrev c_P_radius : ByteArray := prog_1_method_13_code
abbrev y_P_radius : MethodName := ⟨R_P, "radius", "(J)Z"⟩
abbrev c_P_bad : ByteArray := prog_1_method_14_code
abbrev y_P_bad : MethodName := ⟨R_P, "bad", "(IZ)Z"⟩
abbrev c_P_rail : ByteArray := prog_1_method_15_code
abbrev y_P_rail : MethodName := ⟨R_P, "rail", "(IJ)Z"⟩
abbrev c_P_overlaps : ByteArray := prog_1_method_16_code
abbrev y_P_overlaps : MethodName := ⟨R_P, "overlaps", "()Z"⟩
abbrev c_P_order : ByteArray := prog_1_method_17_code
abbrev y_P_order : MethodName := ⟨R_P, "order", "(I)I"⟩
abbrev c_P_wants : ByteArray := prog_1_method_18_code
abbrev y_P_wants : MethodName := ⟨R_P, "wants", "(II)Z"⟩
abbrev c_P_asPanelLength : ByteArray := prog_1_method_19_code
abbrev y_P_asPanelLength : MethodName := ⟨R_P, "asPanelLength", "(J)J"⟩
abbrev c_P_isWithin : ByteArray := prog_1_method_20_code
abbrev y_P_isWithin : MethodName := ⟨R_P, "isWithin", "(JJJ)Z"⟩
abbrev c_P_checkLength : ByteArray := prog_1_method_21_code
abbrev y_P_checkLength : MethodName := ⟨R_P, "checkLength", "(J)V"⟩
abbrev c_P_checkSide : ByteArray := prog_1_method_22_code
abbrev y_P_checkSide : MethodName := ⟨R_P, "checkSide", "(I)V"⟩
abbrev c_P_checkOneOfTwo : ByteArray := prog_1_method_23_code
abbrev y_P_checkOneOfTwo : MethodName := ⟨R_P, "checkOneOfTwo", "(I)V"⟩
abbrev c_P_checkBoard : ByteArray := prog_1_method_24_code
abbrev y_P_checkBoard : MethodName := ⟨R_P, "checkBoard", "(I)V"⟩
abbrev c_P_checkCopy : ByteArray := prog_1_method_25_code
abbrev y_P_checkCopy : MethodName := ⟨R_P, "checkCopy", "(I)V"⟩
abbrev c_P_prepareSearch : ByteArray := prog_1_method_26_code
abbrev y_P_prepareSearch : MethodName := ⟨R_P, "prepareSearch", "(I)V"⟩
abbrev c_P_roomInRow : ByteArray := prog_1_method_27_code
abbrev y_P_roomInRow : MethodName := ⟨R_P, "roomInRow", "(JJJ)I"⟩
abbrev c_P_layOutBest : ByteArray := prog_1_method_28_code
abbrev y_P_layOutBest : MethodName := ⟨R_P, "layOutBest", "()V"⟩
abbrev c_P_tabOffset : ByteArray := prog_1_method_29_code
abbrev y_P_tabOffset : MethodName := ⟨R_P, "tabOffset", "(IIIJ)J"⟩
abbrev c_P_grownEnd : ByteArray := prog_1_method_30_code
abbrev y_P_grownEnd : MethodName := ⟨R_P, "grownEnd", "(JJZ)J"⟩
abbrev c_P_twiceAreaOfCopies : ByteArray := prog_1_method_31_code
abbrev y_P_twiceAreaOfCopies : MethodName := ⟨R_P, "twiceAreaOfCopies", "()J"⟩
abbrev c_P_commonDivisor : ByteArray := prog_1_method_32_code
abbrev y_P_commonDivisor : MethodName := ⟨R_P, "commonDivisor", "(JJ)J"⟩
abbrev c_M_init : ByteArray := prog_6_method_1_code
abbrev y_M_init : MethodName := ⟨R_M, "<init>", "(JJ)V"⟩
abbrev c_M_thrown : ByteArray := prog_6_method_2_code
abbrev y_M_thrown : MethodName := ⟨R_M, "thrown", "()I"⟩
abbrev c_M_isBoard : ByteArray := prog_6_method_3_code
abbrev y_M_isBoard : MethodName := ⟨R_M, "isBoard", "(I)Z"⟩
abbrev c_M_isSize : ByteArray := prog_6_method_4_code
abbrev y_M_isSize : MethodName := ⟨R_M, "isSize", "(J)Z"⟩
abbrev c_M_board : ByteArray := prog_6_method_5_code
abbrev y_M_board : MethodName := ⟨R_M, "board", "()I"⟩
abbrev c_M_corner : ByteArray := prog_6_method_6_code
abbrev y_M_corner : MethodName := ⟨R_M, "corner", "(IJJ)Z"⟩
abbrev c_M_part : ByteArray := prog_6_method_7_code
abbrev y_M_part : MethodName := ⟨R_M, "part", "(IJJJ)Z"⟩
abbrev c_M_gap : ByteArray := prog_6_method_8_code
abbrev y_M_gap : MethodName := ⟨R_M, "gap", "(J)Z"⟩
abbrev c_M_radius : ByteArray := prog_6_method_9_code
abbrev y_M_radius : MethodName := ⟨R_M, "radius", "(J)Z"⟩
abbrev c_M_rail : ByteArray := prog_6_method_10_code
abbrev y_M_rail : MethodName := ⟨R_M, "rail", "(IJ)Z"⟩
abbrev c_M_wants : ByteArray := prog_6_method_11_code
abbrev y_M_wants : MethodName := ⟨R_M, "wants", "(II)Z"⟩
abbrev c_M_findBox : ByteArray := prog_6_method_12_code
abbrev y_M_findBox : MethodName := ⟨R_M, "findBox", "(I)V"⟩
abbrev c_M_wideOf : ByteArray := prog_6_method_13_code
abbrev y_M_wideOf : MethodName := ⟨R_M, "wideOf", "(I)J"⟩
abbrev c_M_highOf : ByteArray := prog_6_method_14_code
abbrev y_M_highOf : MethodName := ⟨R_M, "highOf", "(I)J"⟩
abbrev c_M_fitsAlong : ByteArray := prog_6_method_15_code
abbrev y_M_fitsAlong : MethodName := ⟨R_M, "fitsAlong", "(II)I"⟩
abbrev c_M_rowsOf : ByteArray := prog_6_method_16_code
abbrev y_M_rowsOf : MethodName := ⟨R_M, "rowsOf", "()I"⟩
abbrev c_M_isLow : ByteArray := prog_6_method_17_code
abbrev y_M_isLow : MethodName := ⟨R_M, "isLow", "()Z"⟩
abbrev c_M_copiesOf : ByteArray := prog_6_method_18_code
abbrev y_M_copiesOf : MethodName := ⟨R_M, "copiesOf", "()I"⟩
abbrev c_M_isAhead : ByteArray := prog_6_method_19_code
abbrev y_M_isAhead : MethodName := ⟨R_M, "isAhead", "()Z"⟩
abbrev c_M_weigh : ByteArray := prog_6_method_20_code
abbrev y_M_weigh : MethodName := ⟨R_M, "weigh", "()V"⟩
abbrev c_M_search : ByteArray := prog_6_method_21_code
abbrev y_M_search : MethodName := ⟨R_M, "search", "(I)V"⟩
abbrev c_M_goOn : ByteArray := prog_6_method_22_code
abbrev y_M_goOn : MethodName := ⟨R_M, "goOn", "(I)Z"⟩
abbrev c_M_layOut : ByteArray := prog_6_method_23_code
abbrev y_M_layOut : MethodName := ⟨R_M, "layOut", "()V"⟩
abbrev c_M_put : ByteArray := prog_6_method_24_code
abbrev y_M_put : MethodName := ⟨R_M, "put", "(IJJIJJ)V"⟩
abbrev c_M_run : ByteArray := prog_6_method_25_code
abbrev y_M_run : MethodName := ⟨R_M, "run", "(IJ)I"⟩
abbrev c_M_proved : ByteArray := prog_6_method_26_code
abbrev y_M_proved : MethodName := ⟨R_M, "proved", "()Z"⟩
abbrev c_M_isCopy : ByteArray := prog_6_method_27_code
abbrev y_M_isCopy : MethodName := ⟨R_M, "isCopy", "(I)Z"⟩
abbrev c_M_at : ByteArray := prog_6_method_28_code
abbrev y_M_at : MethodName := ⟨R_M, "at", "(II)J"⟩
abbrev c_M_tab : ByteArray := prog_6_method_29_code
abbrev y_M_tab : MethodName := ⟨R_M, "tab", "(III)J"⟩
abbrev c_M_nextScore : ByteArray := prog_6_method_30_code
abbrev y_M_nextScore : MethodName := ⟨R_M, "nextScore", "(J)J"⟩
abbrev c_M_score : ByteArray := prog_6_method_31_code
abbrev y_M_score : MethodName := ⟨R_M, "score", "(II)J"⟩
abbrev c_M_areaOf : ByteArray := prog_6_method_32_code
abbrev y_M_areaOf : MethodName := ⟨R_M, "areaOf", "(I)J"⟩
abbrev c_M_waste : ByteArray := prog_6_method_33_code
abbrev y_M_waste : MethodName := ⟨R_M, "waste", "(I)J"⟩
abbrev c_M_orderOf : ByteArray := prog_6_method_34_code
abbrev y_M_orderOf : MethodName := ⟨R_M, "orderOf", "(I)I"⟩
abbrev c_M_order : ByteArray := prog_6_method_35_code
abbrev y_M_order : MethodName := ⟨R_M, "order", "(I)I"⟩
abbrev c_M_mill : ByteArray := prog_6_method_36_code
abbrev y_M_mill : MethodName := ⟨R_M, "mill", "(II)J"⟩
abbrev c_M_bad : ByteArray := prog_6_method_37_code
abbrev y_M_bad : MethodName := ⟨R_M, "bad", "(IZ)Z"⟩
abbrev c_M_overlaps : ByteArray := prog_6_method_38_code
abbrev y_M_overlaps : MethodName := ⟨R_M, "overlaps", "()Z"⟩
abbrev c_B_init : ByteArray := prog_2_method_1_code
abbrev y_B_init : MethodName := ⟨R_B, "<init>", "()V"⟩
abbrev c_B_addCorner : ByteArray := prog_2_method_2_code
abbrev y_B_addCorner : MethodName := ⟨R_B, "addCorner", "(JJ)Z"⟩
abbrev c_B_addPart : ByteArray := prog_2_method_3_code
abbrev y_B_addPart : MethodName := ⟨R_B, "addPart", "(JJJ)Z"⟩
abbrev c_B_hasArea : ByteArray := prog_2_method_4_code
abbrev y_B_hasArea : MethodName := ⟨R_B, "hasArea", "()Z"⟩
abbrev c_B_wide : ByteArray := prog_2_method_5_code
abbrev y_B_wide : MethodName := ⟨R_B, "wide", "(I)J"⟩
abbrev c_B_high : ByteArray := prog_2_method_6_code
abbrev y_B_high : MethodName := ⟨R_B, "high", "(I)J"⟩
abbrev c_B_hasPartNear : ByteArray := prog_2_method_7_code
abbrev y_B_hasPartNear : MethodName := ⟨R_B, "hasPartNear", "(JJI)Z"⟩
abbrev c_B_twiceArea : ByteArray := prog_2_method_8_code
abbrev y_B_twiceArea : MethodName := ⟨R_B, "twiceArea", "()J"⟩
abbrev c_Y_init : ByteArray := prog_3_method_1_code
abbrev y_Y_init : MethodName := ⟨R_Y, "<init>", "()V"⟩
abbrev c_Y_begin : ByteArray := prog_3_method_2_code
abbrev y_Y_begin : MethodName := ⟨R_Y, "begin", "(JJJ)V"⟩
abbrev c_Y_addRow : ByteArray := prog_3_method_3_code
abbrev y_Y_addRow : MethodName := ⟨R_Y, "addRow", "(IIJJI)V"⟩
abbrev c_Y_addCopies : ByteArray := prog_3_method_4_code
abbrev y_Y_addCopies : MethodName := ⟨R_Y, "addCopies", "(IJ)V"⟩
abbrev c_Y_addScore : ByteArray := prog_3_method_5_code
abbrev y_Y_addScore : MethodName := ⟨R_Y, "addScore", "(JI)V"⟩
abbrev c_Y_copyInOrder : ByteArray := prog_3_method_6_code
abbrev y_Y_copyInOrder : MethodName := ⟨R_Y, "copyInOrder", "(I)I"⟩
abbrev c_Y_countOf : ByteArray := prog_3_method_7_code
abbrev y_Y_countOf : MethodName := ⟨R_Y, "countOf", "(Z)I"⟩
abbrev c_Y_nthOf : ByteArray := prog_3_method_8_code
abbrev y_Y_nthOf : MethodName := ⟨R_Y, "nthOf", "(ZI)I"⟩
abbrev c_S_init : ByteArray := prog_4_method_1_code
abbrev y_S_init : MethodName := ⟨R_S, "<init>", "()V"⟩
abbrev c_S_begin : ByteArray := prog_4_method_2_code
abbrev y_S_begin : MethodName := ⟨R_S, "begin", "(J)V"⟩
abbrev c_S_allowKind : ByteArray := prog_4_method_3_code
abbrev y_S_allowKind : MethodName := ⟨R_S, "allowKind", "(IIJ)V"⟩
abbrev c_S_look : ByteArray := prog_4_method_4_code
abbrev y_S_look : MethodName := ⟨R_S, "look", "(IJ)V"⟩
abbrev c_S_findsMore : ByteArray := prog_4_method_5_code
abbrev y_S_findsMore : MethodName := ⟨R_S, "findsMore", "(IJ)Z"⟩
abbrev c_S_tryRow : ByteArray := prog_4_method_6_code
abbrev y_S_tryRow : MethodName := ⟨R_S, "tryRow", "(IIIJ)V"⟩
abbrev c_S_keepIfBetter : ByteArray := prog_4_method_7_code
abbrev y_S_keepIfBetter : MethodName := ⟨R_S, "keepIfBetter", "(II)V"⟩
abbrev c_L_cell : ByteArray := method_2_code
abbrev y_L_cell : MethodName := ⟨R_L, "cell", "([II)I"⟩
abbrev c_L_corner : ByteArray := method_3_code
abbrev y_L_corner : MethodName := ⟨R_L, "corner", "(LPanelForms;IJJ[J)I"⟩
abbrev c_L_run : ByteArray := method_4_code
abbrev y_L_run : MethodName := ⟨R_L, "run", "(LPanelForms;IJ[J)I"⟩
abbrev c_L_at : ByteArray := method_5_code
abbrev y_L_at : MethodName := ⟨R_L, "at", "(LPanelForms;II[J)I"⟩
abbrev c_L_gap : ByteArray := method_6_code
abbrev y_L_gap : MethodName := ⟨R_L, "gap", "(LPanelForms;J[J)I"⟩
abbrev c_L_tab : ByteArray := method_7_code
abbrev y_L_tab : MethodName := ⟨R_L, "tab", "(LPanelForms;III[J)I"⟩
abbrev c_L_score : ByteArray := method_8_code
abbrev y_L_score : MethodName := ⟨R_L, "score", "(LPanelForms;II[J)I"⟩
abbrev c_L_part : ByteArray := method_9_code
abbrev y_L_part : MethodName := ⟨R_L, "part", "(LPanelForms;IJJJ[J)I"⟩
abbrev c_L_waste : ByteArray := method_10_code
abbrev y_L_waste : MethodName := ⟨R_L, "waste", "(LPanelForms;I[J)I"⟩
abbrev c_L_mill : ByteArray := method_11_code
abbrev y_L_mill : MethodName := ⟨R_L, "mill", "(LPanelForms;II[J)I"⟩
abbrev c_L_radius : ByteArray := method_12_code
abbrev y_L_radius : MethodName := ⟨R_L, "radius", "(LPanelForms;J[J)I"⟩
abbrev c_L_bad : ByteArray := method_13_code
abbrev y_L_bad : MethodName := ⟨R_L, "bad", "(LPanelForms;IZ[J)I"⟩
abbrev c_L_rail : ByteArray := method_14_code
abbrev y_L_rail : MethodName := ⟨R_L, "rail", "(LPanelForms;IJ[J)I"⟩
abbrev c_L_wants : ByteArray := method_15_code
abbrev y_L_wants : MethodName := ⟨R_L, "wants", "(LPanelForms;II[J)I"⟩
abbrev c_L_law : ByteArray := code
abbrev y_L_law : MethodName := ⟨R_L, "law", "([I)Z"⟩
/-! words: what the tables say holds at every state whose tables are warmer than the start's -/
def kw (s0 : State) (w : Cond) : Prop := ∀ (U : State) (a : Array Value), s0.WarmedH U.vm → w.before a U = true
def zt (s0 : State) : Prop := ∀ w ∈ lw_tbl, ∃ a : Array Value, w.before a s0 = true
theorem kw_g {s0 : State} (Z : zt s0) {w : Cond} (hm : w ∈ lw_tbl) (hg : goodWord w = true) : kw s0 w := fun U a hW => by
  obtain ⟨a0, h⟩ := Z w hm
  exact word_at hW (good_of_word hg) h
theorem tb_in {w : Cond} (i : Nat) (h : tables_1[i]? = some w) : w ∈ lw_tbl := List.mem_append_right _ (List.mem_of_getElem? h)
theorem pv_in {q : MethodName × Nat} (i : Nat) (h : lw_privs[i]? = some q) : Cond.selects q.1.cls q.1 q.1 ∈ lw_tbl := List.mem_append_left _ (List.mem_map.mpr ⟨q, List.mem_of_getElem? h, rfl⟩)
theorem kw_fn {s0 : State} (Z : zt s0) {a : String} {i : Nat} {b n d h : String} (hm : Cond.fieldLinkNest a i b n d h ∈ lw_tbl) : kw s0 (.fieldLinkNest a i b n d h) := fun U ar hW => by
  obtain ⟨a0, h⟩ := Z _ hm
  exact va_Nw.use rfl (va_Nw.warmF hW (va_Nw.of rfl h))
theorem kw_mn {s0 : State} (Z : zt s0) {a : String} {i : Nat} {x : MethodName} {h : String} (hm : Cond.methodLinkNest a i x h ∈ lw_tbl) : kw s0 (.methodLinkNest a i x h) := fun U ar hW => by
  obtain ⟨a0, h⟩ := Z _ hm
  exact va_Nw.use rfl (va_Nw.warmM hW (va_Nw.of rfl h))
set_option maxRecDepth 20000 in
theorem uw_P {s0 : State} (Z : zt s0) {U : State} {a : Array Value} (hW : s0.WarmedH U.vm) : ∀ w ∈ u_P, w.before a U = true := fun w h => kw_g Z (List.mem_append_right _ ((by decide +kernel : ∀ w ∈ u_P, w ∈ tables_1) w h)) (List.all_eq_true.mp (by decide +kernel : u_P.all goodWord = true) w h) U a hW
set_option maxRecDepth 20000 in
theorem uw_M {s0 : State} (Z : zt s0) {U : State} {a : Array Value} (hW : s0.WarmedH U.vm) : ∀ w ∈ u_M, w.before a U = true := fun w h => kw_g Z (List.mem_append_right _ ((by decide +kernel : ∀ w ∈ u_M, w ∈ tables_1) w h)) (List.all_eq_true.mp (by decide +kernel : u_M.all goodWord = true) w h) U a hW
set_option maxRecDepth 20000 in
theorem uw_B {s0 : State} (Z : zt s0) {U : State} {a : Array Value} (hW : s0.WarmedH U.vm) : ∀ w ∈ u_B, w.before a U = true := fun w h => kw_g Z (List.mem_append_right _ ((by decide +kernel : ∀ w ∈ u_B, w ∈ tables_1) w h)) (List.all_eq_true.mp (by decide +kernel : u_B.all goodWord = true) w h) U a hW
set_option maxRecDepth 20000 in
theorem uw_Y {s0 : State} (Z : zt s0) {U : State} {a : Array Value} (hW : s0.WarmedH U.vm) : ∀ w ∈ u_Y, w.before a U = true := fun w h => kw_g Z (List.mem_append_right _ ((by decide +kernel : ∀ w ∈ u_Y, w ∈ tables_1) w h)) (List.all_eq_true.mp (by decide +kernel : u_Y.all goodWord = true) w h) U a hW
set_option maxRecDepth 20000 in
theorem uw_S {s0 : State} (Z : zt s0) {U : State} {a : Array Value} (hW : s0.WarmedH U.vm) : ∀ w ∈ u_S, w.before a U = true := fun w h => kw_g Z (List.mem_append_right _ ((by decide +kernel : ∀ w ∈ u_S, w ∈ tables_1) w h)) (List.all_eq_true.mp (by decide +kernel : u_S.all goodWord = true) w h) U a hW
theorem kw0 {s0 : State} (Z : zt s0) : kw s0 (.initialized "PanelFormsLaw") := kw_g Z (tb_in 0 (by decide +kernel)) (by decide +kernel)
theorem kw1 {s0 : State} (Z : zt s0) : kw s0 (.initialized "PanelForms") := kw_g Z (tb_in 1 (by decide +kernel)) (by decide +kernel)
theorem kw2 {s0 : State} (Z : zt s0) : kw s0 (.initialized "java/lang/Math") := kw_g Z (tb_in 2 (by decide +kernel)) (by decide +kernel)
theorem kw3 {s0 : State} (Z : zt s0) : kw s0 (.initialized "PanelForms$Board") := kw_g Z (tb_in 3 (by decide +kernel)) (by decide +kernel)
theorem kw4 {s0 : State} (Z : zt s0) : kw s0 (.initialized "PanelForms$Search") := kw_g Z (tb_in 4 (by decide +kernel)) (by decide +kernel)
theorem kw5 {s0 : State} (Z : zt s0) : kw s0 (.initialized "PanelForms$Layout") := kw_g Z (tb_in 5 (by decide +kernel)) (by decide +kernel)
theorem kw6 {s0 : State} (Z : zt s0) : kw s0 (.initialized "PanelFormsModel") := kw_g Z (tb_in 6 (by decide +kernel)) (by decide +kernel)
theorem kw7 {s0 : State} (Z : zt s0) : kw s0 (.initialized "java/lang/Throwable") := kw_g Z (tb_in 7 (by decide +kernel)) (by decide +kernel)
theorem kw8 {s0 : State} (Z : zt s0) : kw s0 (.initialized "java/lang/Exception") := kw_g Z (tb_in 8 (by decide +kernel)) (by decide +kernel)
theorem kw9 {s0 : State} (Z : zt s0) : kw s0 (.initialized "java/lang/RuntimeException") := kw_g Z (tb_in 9 (by decide +kernel)) (by decide +kernel)
theorem kw10 {s0 : State} (Z : zt s0) : kw s0 (.initialized "java/lang/IndexOutOfBoundsException") := kw_g Z (tb_in 10 (by decide +kernel)) (by decide +kernel)
theorem kw11 {s0 : State} (Z : zt s0) : kw s0 (.initialized "java/lang/IllegalArgumentException") := kw_g Z (tb_in 11 (by decide +kernel)) (by decide +kernel)
theorem kw12 {s0 : State} (Z : zt s0) : kw s0 (.initialized "java/lang/IllegalStateException") := kw_g Z (tb_in 12 (by decide +kernel)) (by decide +kernel)
theorem kw13 {s0 : State} (Z : zt s0) : kw s0 (.classLink "PanelFormsLaw" 8 "PanelForms") := kw_g Z (tb_in 13 (by decide +kernel)) (by decide +kernel)
theorem kw14 {s0 : State} (Z : zt s0) : kw s0 (.instantiable "PanelForms" 10) := kw_g Z (tb_in 14 (by decide +kernel)) (by decide +kernel)
theorem kw15 {s0 : State} (Z : zt s0) : kw s0 (.methodLink "PanelFormsLaw" 70 ⟨"PanelForms", "<init>", "(JJ)V"⟩) := kw_g Z (tb_in 15 (by decide +kernel)) (by decide +kernel)
theorem kw16 {s0 : State} (Z : zt s0) : kw s0 (.instanceMethod ⟨"PanelForms", "<init>", "(JJ)V"⟩) := kw_g Z (tb_in 16 (by decide +kernel)) (by decide +kernel)
theorem kw17 {s0 : State} (Z : zt s0) : kw s0 (.code ⟨"PanelForms", "<init>", "(JJ)V"⟩ prog_1_method_1_code 6 none) := kw_g Z (tb_in 17 (by decide +kernel)) (by decide +kernel)
theorem kw18 {s0 : State} (Z : zt s0) : kw s0 (.methodLink "PanelForms" 3 ⟨"java/lang/Object", "<init>", "()V"⟩) := kw_g Z (tb_in 18 (by decide +kernel)) (by decide +kernel)
theorem kw19 {s0 : State} (Z : zt s0) : kw s0 (.instanceMethod ⟨"java/lang/Object", "<init>", "()V"⟩) := kw_g Z (tb_in 19 (by decide +kernel)) (by decide +kernel)
theorem kw20 {s0 : State} (Z : zt s0) : kw s0 (.code ⟨"java/lang/Object", "<init>", "()V"⟩ object_method_1_code 1 none) := kw_g Z (tb_in 20 (by decide +kernel)) (by decide +kernel)
theorem kw21 {s0 : State} (Z : zt s0) : kw s0 (.methodLink "PanelForms" 9 ⟨"PanelForms", "asPanelLength", "(J)J"⟩) := kw_g Z (tb_in 21 (by decide +kernel)) (by decide +kernel)
theorem kw22 {s0 : State} (Z : zt s0) : kw s0 (.static ⟨"PanelForms", "asPanelLength", "(J)J"⟩) := kw_g Z (tb_in 22 (by decide +kernel)) (by decide +kernel)
theorem kw23 {s0 : State} (Z : zt s0) : kw s0 (.code ⟨"PanelForms", "asPanelLength", "(J)J"⟩ prog_1_method_19_code 2 (some .long)) := kw_g Z (tb_in 23 (by decide +kernel)) (by decide +kernel)
theorem kw24 {s0 : State} (Z : zt s0) : kw s0 (.constantLong "PanelForms" 208 (65536 : Int64)) := kw_g Z (tb_in 24 (by decide +kernel)) (by decide +kernel)
theorem kw25 {s0 : State} (Z : zt s0) : kw s0 (.methodLink "PanelForms" 210 ⟨"java/lang/Math", "min", "(JJ)J"⟩) := kw_g Z (tb_in 25 (by decide +kernel)) (by decide +kernel)
theorem kw26 {s0 : State} (Z : zt s0) : kw s0 (.static ⟨"java/lang/Math", "min", "(JJ)J"⟩) := kw_g Z (tb_in 26 (by decide +kernel)) (by decide +kernel)
theorem kw27 {s0 : State} (Z : zt s0) : kw s0 (.code ⟨"java/lang/Math", "min", "(JJ)J"⟩ prog_11_method_70_code 4 (some .long)) := kw_g Z (tb_in 27 (by decide +kernel)) (by decide +kernel)
theorem kw28 {s0 : State} (Z : zt s0) : kw s0 (.methodLink "PanelForms" 212 ⟨"java/lang/Math", "max", "(JJ)J"⟩) := kw_g Z (tb_in 28 (by decide +kernel)) (by decide +kernel)
theorem kw29 {s0 : State} (Z : zt s0) : kw s0 (.static ⟨"java/lang/Math", "max", "(JJ)J"⟩) := kw_g Z (tb_in 29 (by decide +kernel)) (by decide +kernel)
theorem kw30 {s0 : State} (Z : zt s0) : kw s0 (.code ⟨"java/lang/Math", "max", "(JJ)J"⟩ prog_11_method_66_code 4 (some .long)) := kw_g Z (tb_in 30 (by decide +kernel)) (by decide +kernel)
theorem kw31 {s0 : State} (Z : zt s0) : kw s0 (.classLink "PanelForms" 20 "PanelForms$Board") := kw_g Z (tb_in 31 (by decide +kernel)) (by decide +kernel)
theorem kw33 {s0 : State} (Z : zt s0) : kw s0 (.instantiable "PanelForms$Board" 12) := kw_g Z (tb_in 33 (by decide +kernel)) (by decide +kernel)
theorem kw34 {s0 : State} (Z : zt s0) : kw s0 (.methodLinkNest "PanelForms" 26 ⟨"PanelForms$Board", "<init>", "()V"⟩ "PanelForms") := kw_mn Z (tb_in 34 (by decide +kernel))
theorem kw35 {s0 : State} (Z : zt s0) : kw s0 (.instanceMethod ⟨"PanelForms$Board", "<init>", "()V"⟩) := kw_g Z (tb_in 35 (by decide +kernel)) (by decide +kernel)
theorem kw36 {s0 : State} (Z : zt s0) : kw s0 (.code ⟨"PanelForms$Board", "<init>", "()V"⟩ prog_2_method_1_code 1 none) := kw_g Z (tb_in 36 (by decide +kernel)) (by decide +kernel)
theorem kw37 {s0 : State} (Z : zt s0) : kw s0 (.methodLink "PanelForms$Board" 3 ⟨"java/lang/Object", "<init>", "()V"⟩) := kw_g Z (tb_in 37 (by decide +kernel)) (by decide +kernel)
theorem kw38 {s0 : State} (Z : zt s0) : kw s0 (.fieldLink "PanelForms$Board" 9 "PanelForms$Board" "cornerX" "[J") := kw_g Z (tb_in 38 (by decide +kernel)) (by decide +kernel)
theorem kw39 {s0 : State} (Z : zt s0) : kw s0 (.fieldLink "PanelForms$Board" 15 "PanelForms$Board" "cornerY" "[J") := kw_g Z (tb_in 39 (by decide +kernel)) (by decide +kernel)
theorem kw40 {s0 : State} (Z : zt s0) : kw s0 (.fieldLink "PanelForms$Board" 18 "PanelForms$Board" "partX" "[J") := kw_g Z (tb_in 40 (by decide +kernel)) (by decide +kernel)
theorem kw41 {s0 : State} (Z : zt s0) : kw s0 (.fieldLink "PanelForms$Board" 21 "PanelForms$Board" "partY" "[J") := kw_g Z (tb_in 41 (by decide +kernel)) (by decide +kernel)
theorem kw42 {s0 : State} (Z : zt s0) : kw s0 (.fieldLink "PanelForms$Board" 24 "PanelForms$Board" "partRadius" "[J") := kw_g Z (tb_in 42 (by decide +kernel)) (by decide +kernel)
theorem kw43 {s0 : State} (Z : zt s0) : kw s0 (.fieldLink "PanelForms$Board" 31 "PanelForms$Board" "corners" "I") := kw_g Z (tb_in 43 (by decide +kernel)) (by decide +kernel)
theorem kw44 {s0 : State} (Z : zt s0) : kw s0 (.fieldLink "PanelForms$Board" 56 "PanelForms$Board" "parts" "I") := kw_g Z (tb_in 44 (by decide +kernel)) (by decide +kernel)
theorem kw45 {s0 : State} (Z : zt s0) : kw s0 (.fieldLink "PanelForms$Board" 34 "PanelForms$Board" "leastX" "J") := kw_g Z (tb_in 45 (by decide +kernel)) (by decide +kernel)
theorem kw46 {s0 : State} (Z : zt s0) : kw s0 (.fieldLink "PanelForms$Board" 44 "PanelForms$Board" "leastY" "J") := kw_g Z (tb_in 46 (by decide +kernel)) (by decide +kernel)
theorem kw47 {s0 : State} (Z : zt s0) : kw s0 (.fieldLink "PanelForms$Board" 47 "PanelForms$Board" "greatestX" "J") := kw_g Z (tb_in 47 (by decide +kernel)) (by decide +kernel)
theorem kw48 {s0 : State} (Z : zt s0) : kw s0 (.fieldLink "PanelForms$Board" 53 "PanelForms$Board" "greatestY" "J") := kw_g Z (tb_in 48 (by decide +kernel)) (by decide +kernel)
theorem kw49 {s0 : State} (Z : zt s0) : kw s0 (.fieldLink "PanelForms$Board" 27 "PanelForms$Board" "wanted" "I") := kw_g Z (tb_in 49 (by decide +kernel)) (by decide +kernel)
theorem kw50 {s0 : State} (Z : zt s0) : kw s0 (.fieldLinkNest "PanelForms" 205 "PanelForms$Board" "wanted" "I" "PanelForms") := kw_fn Z (tb_in 50 (by decide +kernel))
theorem kw76 {s0 : State} (Z : zt s0) : kw s0 (.arrayClass .long) := kw_g Z (tb_in 76 (by decide +kernel)) (by decide +kernel)
theorem kw77 {s0 : State} (Z : zt s0) : kw s0 (.classLink "PanelForms" 31 "PanelForms$Search") := kw_g Z (tb_in 77 (by decide +kernel)) (by decide +kernel)
theorem kw78 {s0 : State} (Z : zt s0) : kw s0 (.instantiable "PanelForms$Search" 12) := kw_g Z (tb_in 78 (by decide +kernel)) (by decide +kernel)
theorem kw79 {s0 : State} (Z : zt s0) : kw s0 (.methodLinkNest "PanelForms" 33 ⟨"PanelForms$Search", "<init>", "()V"⟩ "PanelForms") := kw_mn Z (tb_in 79 (by decide +kernel))
theorem kw80 {s0 : State} (Z : zt s0) : kw s0 (.instanceMethod ⟨"PanelForms$Search", "<init>", "()V"⟩) := kw_g Z (tb_in 80 (by decide +kernel)) (by decide +kernel)
theorem kw81 {s0 : State} (Z : zt s0) : kw s0 (.code ⟨"PanelForms$Search", "<init>", "()V"⟩ prog_4_method_1_code 1 none) := kw_g Z (tb_in 81 (by decide +kernel)) (by decide +kernel)
theorem kw82 {s0 : State} (Z : zt s0) : kw s0 (.methodLink "PanelForms$Search" 3 ⟨"java/lang/Object", "<init>", "()V"⟩) := kw_g Z (tb_in 82 (by decide +kernel)) (by decide +kernel)
theorem kw83 {s0 : State} (Z : zt s0) : kw s0 (.fieldLink "PanelForms$Search" 9 "PanelForms$Search" "room" "[I") := kw_g Z (tb_in 83 (by decide +kernel)) (by decide +kernel)
theorem kw84 {s0 : State} (Z : zt s0) : kw s0 (.fieldLink "PanelForms$Search" 15 "PanelForms$Search" "highOfKind" "[J") := kw_g Z (tb_in 84 (by decide +kernel)) (by decide +kernel)
theorem kw85 {s0 : State} (Z : zt s0) : kw s0 (.fieldLink "PanelForms$Search" 19 "PanelForms$Search" "wantedLeft" "[I") := kw_g Z (tb_in 85 (by decide +kernel)) (by decide +kernel)
theorem kw86 {s0 : State} (Z : zt s0) : kw s0 (.fieldLinkNest "PanelForms" 234 "PanelForms$Search" "wantedLeft" "[I" "PanelForms") := kw_fn Z (tb_in 86 (by decide +kernel))
theorem kw87 {s0 : State} (Z : zt s0) : kw s0 (.fieldLink "PanelForms$Search" 22 "PanelForms$Search" "kinds" "[I") := kw_g Z (tb_in 87 (by decide +kernel)) (by decide +kernel)
theorem kw88 {s0 : State} (Z : zt s0) : kw s0 (.fieldLink "PanelForms$Search" 25 "PanelForms$Search" "taken" "[I") := kw_g Z (tb_in 88 (by decide +kernel)) (by decide +kernel)
theorem kw89 {s0 : State} (Z : zt s0) : kw s0 (.fieldLink "PanelForms$Search" 28 "PanelForms$Search" "bestKinds" "[I") := kw_g Z (tb_in 89 (by decide +kernel)) (by decide +kernel)
theorem kw90 {s0 : State} (Z : zt s0) : kw s0 (.fieldLinkNest "PanelForms" 260 "PanelForms$Search" "bestKinds" "[I" "PanelForms") := kw_fn Z (tb_in 90 (by decide +kernel))
theorem kw91 {s0 : State} (Z : zt s0) : kw s0 (.fieldLink "PanelForms$Search" 31 "PanelForms$Search" "bestTaken" "[I") := kw_g Z (tb_in 91 (by decide +kernel)) (by decide +kernel)
theorem kw92 {s0 : State} (Z : zt s0) : kw s0 (.fieldLinkNest "PanelForms" 263 "PanelForms$Search" "bestTaken" "[I" "PanelForms") := kw_fn Z (tb_in 92 (by decide +kernel))
theorem kw93 {s0 : State} (Z : zt s0) : kw s0 (.fieldLink "PanelForms$Search" 38 "PanelForms$Search" "bestRows" "I") := kw_g Z (tb_in 93 (by decide +kernel)) (by decide +kernel)
theorem kw94 {s0 : State} (Z : zt s0) : kw s0 (.fieldLinkNest "PanelForms" 257 "PanelForms$Search" "bestRows" "I" "PanelForms") := kw_fn Z (tb_in 94 (by decide +kernel))
theorem kw95 {s0 : State} (Z : zt s0) : kw s0 (.fieldLink "PanelForms$Search" 42 "PanelForms$Search" "bestCopies" "I") := kw_g Z (tb_in 95 (by decide +kernel)) (by decide +kernel)
theorem kw96 {s0 : State} (Z : zt s0) : kw s0 (.fieldLink "PanelForms$Search" 57 "PanelForms$Search" "mostRows" "I") := kw_g Z (tb_in 96 (by decide +kernel)) (by decide +kernel)
theorem kw97 {s0 : State} (Z : zt s0) : kw s0 (.fieldLink "PanelForms$Search" 45 "PanelForms$Search" "mostRoom" "I") := kw_g Z (tb_in 97 (by decide +kernel)) (by decide +kernel)
theorem kw98 {s0 : State} (Z : zt s0) : kw s0 (.fieldLink "PanelForms$Search" 34 "PanelForms$Search" "gapBetween" "J") := kw_g Z (tb_in 98 (by decide +kernel)) (by decide +kernel)
theorem kw124 {s0 : State} (Z : zt s0) : kw s0 (.arrayClass .int) := kw_g Z (tb_in 124 (by decide +kernel)) (by decide +kernel)
theorem kw125 {s0 : State} (Z : zt s0) : kw s0 (.classLink "PanelForms" 38 "PanelForms$Layout") := kw_g Z (tb_in 125 (by decide +kernel)) (by decide +kernel)
theorem kw126 {s0 : State} (Z : zt s0) : kw s0 (.instantiable "PanelForms$Layout" 17) := kw_g Z (tb_in 126 (by decide +kernel)) (by decide +kernel)
theorem kw127 {s0 : State} (Z : zt s0) : kw s0 (.methodLinkNest "PanelForms" 40 ⟨"PanelForms$Layout", "<init>", "()V"⟩ "PanelForms") := kw_mn Z (tb_in 127 (by decide +kernel))
theorem kw128 {s0 : State} (Z : zt s0) : kw s0 (.instanceMethod ⟨"PanelForms$Layout", "<init>", "()V"⟩) := kw_g Z (tb_in 128 (by decide +kernel)) (by decide +kernel)
theorem kw129 {s0 : State} (Z : zt s0) : kw s0 (.code ⟨"PanelForms$Layout", "<init>", "()V"⟩ prog_3_method_1_code 1 none) := kw_g Z (tb_in 129 (by decide +kernel)) (by decide +kernel)
theorem kw130 {s0 : State} (Z : zt s0) : kw s0 (.methodLink "PanelForms$Layout" 3 ⟨"java/lang/Object", "<init>", "()V"⟩) := kw_g Z (tb_in 130 (by decide +kernel)) (by decide +kernel)
theorem kw131 {s0 : State} (Z : zt s0) : kw s0 (.fieldLink "PanelForms$Layout" 9 "PanelForms$Layout" "boardOfRow" "[I") := kw_g Z (tb_in 131 (by decide +kernel)) (by decide +kernel)
theorem kw132 {s0 : State} (Z : zt s0) : kw s0 (.fieldLinkNest "PanelForms" 110 "PanelForms$Layout" "boardOfRow" "[I" "PanelForms") := kw_fn Z (tb_in 132 (by decide +kernel))
theorem kw133 {s0 : State} (Z : zt s0) : kw s0 (.fieldLink "PanelForms$Layout" 15 "PanelForms$Layout" "turnOfRow" "[I") := kw_g Z (tb_in 133 (by decide +kernel)) (by decide +kernel)
theorem kw134 {s0 : State} (Z : zt s0) : kw s0 (.fieldLinkNest "PanelForms" 119 "PanelForms$Layout" "turnOfRow" "[I" "PanelForms") := kw_fn Z (tb_in 134 (by decide +kernel))
theorem kw135 {s0 : State} (Z : zt s0) : kw s0 (.fieldLink "PanelForms$Layout" 18 "PanelForms$Layout" "copiesInRow" "[I") := kw_g Z (tb_in 135 (by decide +kernel)) (by decide +kernel)
theorem kw136 {s0 : State} (Z : zt s0) : kw s0 (.fieldLinkNest "PanelForms" 273 "PanelForms$Layout" "copiesInRow" "[I" "PanelForms") := kw_fn Z (tb_in 136 (by decide +kernel))
theorem kw137 {s0 : State} (Z : zt s0) : kw s0 (.fieldLink "PanelForms$Layout" 21 "PanelForms$Layout" "yOfRow" "[J") := kw_g Z (tb_in 137 (by decide +kernel)) (by decide +kernel)
theorem kw138 {s0 : State} (Z : zt s0) : kw s0 (.fieldLinkNest "PanelForms" 116 "PanelForms$Layout" "yOfRow" "[J" "PanelForms") := kw_fn Z (tb_in 138 (by decide +kernel))
theorem kw139 {s0 : State} (Z : zt s0) : kw s0 (.fieldLink "PanelForms$Layout" 25 "PanelForms$Layout" "wideInRow" "[J") := kw_g Z (tb_in 139 (by decide +kernel)) (by decide +kernel)
theorem kw140 {s0 : State} (Z : zt s0) : kw s0 (.fieldLinkNest "PanelForms" 122 "PanelForms$Layout" "wideInRow" "[J" "PanelForms") := kw_fn Z (tb_in 140 (by decide +kernel))
theorem kw141 {s0 : State} (Z : zt s0) : kw s0 (.fieldLink "PanelForms$Layout" 28 "PanelForms$Layout" "highInRow" "[J") := kw_g Z (tb_in 141 (by decide +kernel)) (by decide +kernel)
theorem kw142 {s0 : State} (Z : zt s0) : kw s0 (.fieldLinkNest "PanelForms" 125 "PanelForms$Layout" "highInRow" "[J" "PanelForms") := kw_fn Z (tb_in 142 (by decide +kernel))
theorem kw143 {s0 : State} (Z : zt s0) : kw s0 (.fieldLink "PanelForms$Layout" 31 "PanelForms$Layout" "rowOfCopy" "[I") := kw_g Z (tb_in 143 (by decide +kernel)) (by decide +kernel)
theorem kw144 {s0 : State} (Z : zt s0) : kw s0 (.fieldLinkNest "PanelForms" 106 "PanelForms$Layout" "rowOfCopy" "[I" "PanelForms") := kw_fn Z (tb_in 144 (by decide +kernel))
theorem kw145 {s0 : State} (Z : zt s0) : kw s0 (.fieldLink "PanelForms$Layout" 34 "PanelForms$Layout" "xOfCopy" "[J") := kw_g Z (tb_in 145 (by decide +kernel)) (by decide +kernel)
theorem kw146 {s0 : State} (Z : zt s0) : kw s0 (.fieldLinkNest "PanelForms" 113 "PanelForms$Layout" "xOfCopy" "[J" "PanelForms") := kw_fn Z (tb_in 146 (by decide +kernel))
theorem kw147 {s0 : State} (Z : zt s0) : kw s0 (.fieldLink "PanelForms$Layout" 37 "PanelForms$Layout" "badCopy" "[Z") := kw_g Z (tb_in 147 (by decide +kernel)) (by decide +kernel)
theorem kw148 {s0 : State} (Z : zt s0) : kw s0 (.fieldLinkNest "PanelForms" 197 "PanelForms$Layout" "badCopy" "[Z" "PanelForms") := kw_fn Z (tb_in 148 (by decide +kernel))
theorem kw149 {s0 : State} (Z : zt s0) : kw s0 (.fieldLink "PanelForms$Layout" 41 "PanelForms$Layout" "yOfScore" "[J") := kw_g Z (tb_in 149 (by decide +kernel)) (by decide +kernel)
theorem kw150 {s0 : State} (Z : zt s0) : kw s0 (.fieldLinkNest "PanelForms" 160 "PanelForms$Layout" "yOfScore" "[J" "PanelForms") := kw_fn Z (tb_in 150 (by decide +kernel))
theorem kw151 {s0 : State} (Z : zt s0) : kw s0 (.fieldLink "PanelForms$Layout" 44 "PanelForms$Layout" "boxesAtScore" "[I") := kw_g Z (tb_in 151 (by decide +kernel)) (by decide +kernel)
theorem kw152 {s0 : State} (Z : zt s0) : kw s0 (.fieldLinkNest "PanelForms" 163 "PanelForms$Layout" "boxesAtScore" "[I" "PanelForms") := kw_fn Z (tb_in 152 (by decide +kernel))
theorem kw153 {s0 : State} (Z : zt s0) : kw s0 (.fieldLink "PanelForms$Layout" 47 "PanelForms$Layout" "rows" "I") := kw_g Z (tb_in 153 (by decide +kernel)) (by decide +kernel)
theorem kw154 {s0 : State} (Z : zt s0) : kw s0 (.fieldLinkNest "PanelForms" 270 "PanelForms$Layout" "rows" "I" "PanelForms") := kw_fn Z (tb_in 154 (by decide +kernel))
theorem kw155 {s0 : State} (Z : zt s0) : kw s0 (.fieldLink "PanelForms$Layout" 51 "PanelForms$Layout" "copies" "I") := kw_g Z (tb_in 155 (by decide +kernel)) (by decide +kernel)
theorem kw156 {s0 : State} (Z : zt s0) : kw s0 (.fieldLinkNest "PanelForms" 100 "PanelForms$Layout" "copies" "I" "PanelForms") := kw_fn Z (tb_in 156 (by decide +kernel))
theorem kw157 {s0 : State} (Z : zt s0) : kw s0 (.fieldLink "PanelForms$Layout" 54 "PanelForms$Layout" "scores" "I") := kw_g Z (tb_in 157 (by decide +kernel)) (by decide +kernel)
theorem kw158 {s0 : State} (Z : zt s0) : kw s0 (.fieldLinkNest "PanelForms" 155 "PanelForms$Layout" "scores" "I" "PanelForms") := kw_fn Z (tb_in 158 (by decide +kernel))
theorem kw159 {s0 : State} (Z : zt s0) : kw s0 (.fieldLink "PanelForms$Layout" 57 "PanelForms$Layout" "left" "J") := kw_g Z (tb_in 159 (by decide +kernel)) (by decide +kernel)
theorem kw160 {s0 : State} (Z : zt s0) : kw s0 (.fieldLink "PanelForms$Layout" 61 "PanelForms$Layout" "nextY" "J") := kw_g Z (tb_in 160 (by decide +kernel)) (by decide +kernel)
theorem kw161 {s0 : State} (Z : zt s0) : kw s0 (.fieldLink "PanelForms$Layout" 64 "PanelForms$Layout" "gapBetween" "J") := kw_g Z (tb_in 161 (by decide +kernel)) (by decide +kernel)
theorem kw197 {s0 : State} (Z : zt s0) : kw s0 (.arrayClass .boolean) := kw_g Z (tb_in 197 (by decide +kernel)) (by decide +kernel)
theorem kw198 {s0 : State} (Z : zt s0) : kw s0 (.fieldLink "PanelForms" 13 "PanelForms" "panelWidth" "J") := kw_g Z (tb_in 198 (by decide +kernel)) (by decide +kernel)
theorem kw199 {s0 : State} (Z : zt s0) : kw s0 (.fieldLink "PanelForms" 17 "PanelForms" "panelHeight" "J") := kw_g Z (tb_in 199 (by decide +kernel)) (by decide +kernel)
theorem kw200 {s0 : State} (Z : zt s0) : kw s0 (.fieldLink "PanelForms" 22 "PanelForms" "boards" "[LPanelForms$Board;") := kw_g Z (tb_in 200 (by decide +kernel)) (by decide +kernel)
theorem kw201 {s0 : State} (Z : zt s0) : kw s0 (.fieldLink "PanelForms" 27 "PanelForms" "rails" "[J") := kw_g Z (tb_in 201 (by decide +kernel)) (by decide +kernel)
theorem kw202 {s0 : State} (Z : zt s0) : kw s0 (.fieldLink "PanelForms" 34 "PanelForms" "search" "LPanelForms$Search;") := kw_g Z (tb_in 202 (by decide +kernel)) (by decide +kernel)
theorem kw203 {s0 : State} (Z : zt s0) : kw s0 (.fieldLink "PanelForms" 41 "PanelForms" "layout" "LPanelForms$Layout;") := kw_g Z (tb_in 203 (by decide +kernel)) (by decide +kernel)
theorem kw204 {s0 : State} (Z : zt s0) : kw s0 (.fieldLink "PanelForms" 45 "PanelForms" "boardCount" "I") := kw_g Z (tb_in 204 (by decide +kernel)) (by decide +kernel)
theorem kw205 {s0 : State} (Z : zt s0) : kw s0 (.fieldLink "PanelForms" 133 "PanelForms" "gapLength" "J") := kw_g Z (tb_in 205 (by decide +kernel)) (by decide +kernel)
theorem kw206 {s0 : State} (Z : zt s0) : kw s0 (.fieldLink "PanelForms" 194 "PanelForms" "toolRadius" "J") := kw_g Z (tb_in 206 (by decide +kernel)) (by decide +kernel)
theorem kw207 {s0 : State} (Z : zt s0) : kw s0 (.fieldLink "PanelForms" 96 "PanelForms" "provedInRun" "Z") := kw_g Z (tb_in 207 (by decide +kernel)) (by decide +kernel)
theorem kw229 {s0 : State} (Z : zt s0) : kw s0 (.methodLink "PanelFormsLaw" 76 ⟨"PanelForms", "board", "()I"⟩) := kw_g Z (tb_in 229 (by decide +kernel)) (by decide +kernel)
theorem kw230 {s0 : State} (Z : zt s0) : kw s0 (.instanceMethod ⟨"PanelForms", "board", "()I"⟩) := kw_g Z (tb_in 230 (by decide +kernel)) (by decide +kernel)
theorem kw231 {s0 : State} (Z : zt s0) : kw s0 (.selects "PanelForms" ⟨"PanelForms", "board", "()I"⟩ ⟨"PanelForms", "board", "()I"⟩) := kw_g Z (tb_in 231 (by decide +kernel)) (by decide +kernel)
theorem kw232 {s0 : State} (Z : zt s0) : kw s0 (.code ⟨"PanelForms", "board", "()I"⟩ prog_1_method_2_code 1 (some .int)) := kw_g Z (tb_in 232 (by decide +kernel)) (by decide +kernel)
theorem kw233 {s0 : State} (Z : zt s0) : kw s0 (.methodLink "PanelFormsLaw" 98 ⟨"PanelForms", "proved", "()Z"⟩) := kw_g Z (tb_in 233 (by decide +kernel)) (by decide +kernel)
theorem kw234 {s0 : State} (Z : zt s0) : kw s0 (.instanceMethod ⟨"PanelForms", "proved", "()Z"⟩) := kw_g Z (tb_in 234 (by decide +kernel)) (by decide +kernel)
theorem kw235 {s0 : State} (Z : zt s0) : kw s0 (.selects "PanelForms" ⟨"PanelForms", "proved", "()Z"⟩ ⟨"PanelForms", "proved", "()Z"⟩) := kw_g Z (tb_in 235 (by decide +kernel)) (by decide +kernel)
theorem kw236 {s0 : State} (Z : zt s0) : kw s0 (.code ⟨"PanelForms", "proved", "()Z"⟩ prog_1_method_6_code 1 (some .boolean)) := kw_g Z (tb_in 236 (by decide +kernel)) (by decide +kernel)
theorem kw237 {s0 : State} (Z : zt s0) : kw s0 (.methodLink "PanelFormsLaw" 135 ⟨"PanelForms", "overlaps", "()Z"⟩) := kw_g Z (tb_in 237 (by decide +kernel)) (by decide +kernel)
theorem kw238 {s0 : State} (Z : zt s0) : kw s0 (.instanceMethod ⟨"PanelForms", "overlaps", "()Z"⟩) := kw_g Z (tb_in 238 (by decide +kernel)) (by decide +kernel)
theorem kw239 {s0 : State} (Z : zt s0) : kw s0 (.selects "PanelForms" ⟨"PanelForms", "overlaps", "()Z"⟩ ⟨"PanelForms", "overlaps", "()Z"⟩) := kw_g Z (tb_in 239 (by decide +kernel)) (by decide +kernel)
theorem kw240 {s0 : State} (Z : zt s0) : kw s0 (.code ⟨"PanelForms", "overlaps", "()Z"⟩ prog_1_method_16_code 1 (some .boolean)) := kw_g Z (tb_in 240 (by decide +kernel)) (by decide +kernel)
theorem kw241 {s0 : State} (Z : zt s0) : kw s0 (.methodLink "PanelFormsLaw" 139 ⟨"PanelForms", "order", "(I)I"⟩) := kw_g Z (tb_in 241 (by decide +kernel)) (by decide +kernel)
theorem kw242 {s0 : State} (Z : zt s0) : kw s0 (.instanceMethod ⟨"PanelForms", "order", "(I)I"⟩) := kw_g Z (tb_in 242 (by decide +kernel)) (by decide +kernel)
theorem kw243 {s0 : State} (Z : zt s0) : kw s0 (.selects "PanelForms" ⟨"PanelForms", "order", "(I)I"⟩ ⟨"PanelForms", "order", "(I)I"⟩) := kw_g Z (tb_in 243 (by decide +kernel)) (by decide +kernel)
theorem kw244 {s0 : State} (Z : zt s0) : kw s0 (.code ⟨"PanelForms", "order", "(I)I"⟩ prog_1_method_17_code 2 (some .int)) := kw_g Z (tb_in 244 (by decide +kernel)) (by decide +kernel)
theorem kw245 {s0 : State} (Z : zt s0) : kw s0 (.methodLinkNest "PanelForms" 184 ⟨"PanelForms$Layout", "copyInOrder", "(I)I"⟩ "PanelForms") := kw_mn Z (tb_in 245 (by decide +kernel))
theorem kw247 {s0 : State} (Z : zt s0) : kw s0 (.instanceMethod ⟨"PanelForms$Layout", "copyInOrder", "(I)I"⟩) := kw_g Z (tb_in 247 (by decide +kernel)) (by decide +kernel)
theorem kw248 {s0 : State} (Z : zt s0) : kw s0 (.code ⟨"PanelForms$Layout", "copyInOrder", "(I)I"⟩ prog_3_method_6_code 3 (some .int)) := kw_g Z (tb_in 248 (by decide +kernel)) (by decide +kernel)
theorem kw249 {s0 : State} (Z : zt s0) : kw s0 (.methodLink "PanelForms$Layout" 75 ⟨"PanelForms$Layout", "countOf", "(Z)I"⟩) := kw_g Z (tb_in 249 (by decide +kernel)) (by decide +kernel)
theorem kw251 {s0 : State} (Z : zt s0) : kw s0 (.instanceMethod ⟨"PanelForms$Layout", "countOf", "(Z)I"⟩) := kw_g Z (tb_in 251 (by decide +kernel)) (by decide +kernel)
theorem kw252 {s0 : State} (Z : zt s0) : kw s0 (.code ⟨"PanelForms$Layout", "countOf", "(Z)I"⟩ prog_3_method_7_code 4 (some .int)) := kw_g Z (tb_in 252 (by decide +kernel)) (by decide +kernel)
theorem kw253 {s0 : State} (Z : zt s0) : kw s0 (.methodLink "PanelForms$Layout" 79 ⟨"PanelForms$Layout", "nthOf", "(ZI)I"⟩) := kw_g Z (tb_in 253 (by decide +kernel)) (by decide +kernel)
theorem kw255 {s0 : State} (Z : zt s0) : kw s0 (.instanceMethod ⟨"PanelForms$Layout", "nthOf", "(ZI)I"⟩) := kw_g Z (tb_in 255 (by decide +kernel)) (by decide +kernel)
theorem kw256 {s0 : State} (Z : zt s0) : kw s0 (.code ⟨"PanelForms$Layout", "nthOf", "(ZI)I"⟩ prog_3_method_8_code 5 (some .int)) := kw_g Z (tb_in 256 (by decide +kernel)) (by decide +kernel)
theorem kw257 {s0 : State} (Z : zt s0) : kw s0 (.methodLink "PanelFormsLaw" 64 ⟨"PanelFormsLaw", "cell", "([II)I"⟩) := kw_g Z (tb_in 257 (by decide +kernel)) (by decide +kernel)
theorem kw258 {s0 : State} (Z : zt s0) : kw s0 (.static ⟨"PanelFormsLaw", "cell", "([II)I"⟩) := kw_g Z (tb_in 258 (by decide +kernel)) (by decide +kernel)
theorem kw259 {s0 : State} (Z : zt s0) : kw s0 (.code ⟨"PanelFormsLaw", "cell", "([II)I"⟩ method_2_code 2 (some .int)) := kw_g Z (tb_in 259 (by decide +kernel)) (by decide +kernel)
theorem kw260 {s0 : State} (Z : zt s0) : kw s0 (.methodLink "PanelFormsLaw" 83 ⟨"PanelFormsLaw", "corner", "(LPanelForms;IJJ[J)I"⟩) := kw_g Z (tb_in 260 (by decide +kernel)) (by decide +kernel)
theorem kw261 {s0 : State} (Z : zt s0) : kw s0 (.static ⟨"PanelFormsLaw", "corner", "(LPanelForms;IJJ[J)I"⟩) := kw_g Z (tb_in 261 (by decide +kernel)) (by decide +kernel)
theorem kw262 {s0 : State} (Z : zt s0) : kw s0 (.codeWith ⟨"PanelFormsLaw", "corner", "(LPanelForms;IJJ[J)I"⟩ method_3_code 8 (some .int) [(0, 20, 23, 13), (0, 20, 27, 15)]) := kw_g Z (tb_in 262 (by decide +kernel)) (by decide +kernel)
theorem kw263 {s0 : State} (Z : zt s0) : kw s0 (.classLink "PanelFormsLaw" 13 "java/lang/IndexOutOfBoundsException") := kw_g Z (tb_in 263 (by decide +kernel)) (by decide +kernel)
theorem kw264 {s0 : State} (Z : zt s0) : kw s0 (.classLink "PanelFormsLaw" 15 "java/lang/IllegalArgumentException") := kw_g Z (tb_in 264 (by decide +kernel)) (by decide +kernel)
theorem kw265 {s0 : State} (Z : zt s0) : kw s0 (.methodLink "PanelFormsLaw" 7 ⟨"PanelForms", "corner", "(IJJ)Z"⟩) := kw_g Z (tb_in 265 (by decide +kernel)) (by decide +kernel)
theorem kw266 {s0 : State} (Z : zt s0) : kw s0 (.instanceMethod ⟨"PanelForms", "corner", "(IJJ)Z"⟩) := kw_g Z (tb_in 266 (by decide +kernel)) (by decide +kernel)
theorem kw267 {s0 : State} (Z : zt s0) : kw s0 (.selects "PanelForms" ⟨"PanelForms", "corner", "(IJJ)Z"⟩ ⟨"PanelForms", "corner", "(IJJ)Z"⟩) := kw_g Z (tb_in 267 (by decide +kernel)) (by decide +kernel)
theorem kw268 {s0 : State} (Z : zt s0) : kw s0 (.code ⟨"PanelForms", "corner", "(IJJ)Z"⟩ prog_1_method_3_code 6 (some .boolean)) := kw_g Z (tb_in 268 (by decide +kernel)) (by decide +kernel)
theorem kw269 {s0 : State} (Z : zt s0) : kw s0 (.methodLink "PanelForms" 49 ⟨"PanelForms", "checkBoard", "(I)V"⟩) := kw_g Z (tb_in 269 (by decide +kernel)) (by decide +kernel)
theorem kw271 {s0 : State} (Z : zt s0) : kw s0 (.instanceMethod ⟨"PanelForms", "checkBoard", "(I)V"⟩) := kw_g Z (tb_in 271 (by decide +kernel)) (by decide +kernel)
theorem kw272 {s0 : State} (Z : zt s0) : kw s0 (.code ⟨"PanelForms", "checkBoard", "(I)V"⟩ prog_1_method_24_code 2 none) := kw_g Z (tb_in 272 (by decide +kernel)) (by decide +kernel)
theorem kw273 {s0 : State} (Z : zt s0) : kw s0 (.methodLink "PanelForms" 63 ⟨"PanelForms", "isWithin", "(JJJ)Z"⟩) := kw_g Z (tb_in 273 (by decide +kernel)) (by decide +kernel)
theorem kw274 {s0 : State} (Z : zt s0) : kw s0 (.static ⟨"PanelForms", "isWithin", "(JJJ)Z"⟩) := kw_g Z (tb_in 274 (by decide +kernel)) (by decide +kernel)
theorem kw275 {s0 : State} (Z : zt s0) : kw s0 (.code ⟨"PanelForms", "isWithin", "(JJJ)Z"⟩ prog_1_method_20_code 6 (some .boolean)) := kw_g Z (tb_in 275 (by decide +kernel)) (by decide +kernel)
theorem kw276 {s0 : State} (Z : zt s0) : kw s0 (.classLink "PanelForms" 128 "java/lang/IndexOutOfBoundsException") := kw_g Z (tb_in 276 (by decide +kernel)) (by decide +kernel)
theorem kw277 {s0 : State} (Z : zt s0) : kw s0 (.instantiable "java/lang/IndexOutOfBoundsException" 6) := kw_g Z (tb_in 277 (by decide +kernel)) (by decide +kernel)
theorem kw285 {s0 : State} (Z : zt s0) : kw s0 (.selects "java/lang/IndexOutOfBoundsException" ⟨"java/lang/Throwable", "fillInStackTrace", "(I)Ljava/lang/Throwable;"⟩ ⟨"java/lang/Throwable", "fillInStackTrace", "(I)Ljava/lang/Throwable;"⟩) := kw_g Z (tb_in 285 (by decide +kernel)) (by decide +kernel)
theorem kw286 {s0 : State} (Z : zt s0) : kw s0 (.selects "java/lang/IndexOutOfBoundsException" ⟨"java/lang/Throwable", "fillInStackTrace", "()Ljava/lang/Throwable;"⟩ ⟨"java/lang/Throwable", "fillInStackTrace", "()Ljava/lang/Throwable;"⟩) := kw_g Z (tb_in 286 (by decide +kernel)) (by decide +kernel)
theorem kw297 {s0 : State} (Z : zt s0) : kw s0 (.fieldLink "java/lang/Throwable" 198 "java/lang/Throwable" "backtrace" "Ljava/lang/Object;") := kw_g Z (tb_in 297 (by decide +kernel)) (by decide +kernel)
theorem kw299 {s0 : State} (Z : zt s0) : kw s0 (.instanceMethod ⟨"java/lang/Throwable", "<init>", "()V"⟩) := kw_g Z (tb_in 299 (by decide +kernel)) (by decide +kernel)
theorem kw300 {s0 : State} (Z : zt s0) : kw s0 (.code ⟨"java/lang/Throwable", "<init>", "()V"⟩ prog_14_method_1_code 1 none) := kw_g Z (tb_in 300 (by decide +kernel)) (by decide +kernel)
theorem kw301 {s0 : State} (Z : zt s0) : kw s0 (.methodLink "java/lang/Throwable" 1 ⟨"java/lang/Object", "<init>", "()V"⟩) := kw_g Z (tb_in 301 (by decide +kernel)) (by decide +kernel)
theorem kw302 {s0 : State} (Z : zt s0) : kw s0 (.fieldLink "java/lang/Throwable" 13 "java/lang/Throwable" "UNASSIGNED_STACK" "[Ljava/lang/StackTraceElement;") := kw_g Z (tb_in 302 (by decide +kernel)) (by decide +kernel)
theorem kw304 {s0 : State} (Z : zt s0) : kw s0 (.fieldLink "java/lang/Throwable" 20 "java/lang/Throwable" "SUPPRESSED_SENTINEL" "Ljava/util/List;") := kw_g Z (tb_in 304 (by decide +kernel)) (by decide +kernel)
theorem kw306 {s0 : State} (Z : zt s0) : kw s0 (.methodLink "java/lang/Throwable" 27 ⟨"java/lang/Throwable", "fillInStackTrace", "()Ljava/lang/Throwable;"⟩) := kw_g Z (tb_in 306 (by decide +kernel)) (by decide +kernel)
theorem kw307 {s0 : State} (Z : zt s0) : kw s0 (.instanceMethod ⟨"java/lang/Throwable", "fillInStackTrace", "()Ljava/lang/Throwable;"⟩) := kw_g Z (tb_in 307 (by decide +kernel)) (by decide +kernel)
theorem kw309 {s0 : State} (Z : zt s0) : kw s0 (.selects "java/lang/IllegalArgumentException" ⟨"java/lang/Throwable", "fillInStackTrace", "()Ljava/lang/Throwable;"⟩ ⟨"java/lang/Throwable", "fillInStackTrace", "()Ljava/lang/Throwable;"⟩) := kw_g Z (tb_in 309 (by decide +kernel)) (by decide +kernel)
theorem kw310 {s0 : State} (Z : zt s0) : kw s0 (.selects "java/lang/IllegalStateException" ⟨"java/lang/Throwable", "fillInStackTrace", "()Ljava/lang/Throwable;"⟩ ⟨"java/lang/Throwable", "fillInStackTrace", "()Ljava/lang/Throwable;"⟩) := kw_g Z (tb_in 310 (by decide +kernel)) (by decide +kernel)
theorem kw312 {s0 : State} (Z : zt s0) : kw s0 (.methodLink "java/lang/Throwable" 202 ⟨"java/lang/Throwable", "fillInStackTrace", "(I)Ljava/lang/Throwable;"⟩) := kw_g Z (tb_in 312 (by decide +kernel)) (by decide +kernel)
theorem kw314 {s0 : State} (Z : zt s0) : kw s0 (.instanceMethod ⟨"java/lang/Throwable", "fillInStackTrace", "(I)Ljava/lang/Throwable;"⟩) := kw_g Z (tb_in 314 (by decide +kernel)) (by decide +kernel)
theorem kw315 {s0 : State} (Z : zt s0) : kw s0 (.instantiable "java/lang/Throwable" 6) := kw_g Z (tb_in 315 (by decide +kernel)) (by decide +kernel)
theorem kw318 {s0 : State} (Z : zt s0) : kw s0 (.methodLink "PanelForms" 132 ⟨"java/lang/IndexOutOfBoundsException", "<init>", "(Ljava/lang/String;)V"⟩) := kw_g Z (tb_in 318 (by decide +kernel)) (by decide +kernel)
theorem kw319 {s0 : State} (Z : zt s0) : kw s0 (.instanceMethod ⟨"java/lang/IndexOutOfBoundsException", "<init>", "(Ljava/lang/String;)V"⟩) := kw_g Z (tb_in 319 (by decide +kernel)) (by decide +kernel)
theorem kw320 {s0 : State} (Z : zt s0) : kw s0 (.code ⟨"java/lang/IndexOutOfBoundsException", "<init>", "(Ljava/lang/String;)V"⟩ prog_10_method_2_code 2 none) := kw_g Z (tb_in 320 (by decide +kernel)) (by decide +kernel)
theorem kw321 {s0 : State} (Z : zt s0) : kw s0 (.methodLink "java/lang/IndexOutOfBoundsException" 7 ⟨"java/lang/RuntimeException", "<init>", "(Ljava/lang/String;)V"⟩) := kw_g Z (tb_in 321 (by decide +kernel)) (by decide +kernel)
theorem kw322 {s0 : State} (Z : zt s0) : kw s0 (.instanceMethod ⟨"java/lang/RuntimeException", "<init>", "(Ljava/lang/String;)V"⟩) := kw_g Z (tb_in 322 (by decide +kernel)) (by decide +kernel)
theorem kw323 {s0 : State} (Z : zt s0) : kw s0 (.code ⟨"java/lang/RuntimeException", "<init>", "(Ljava/lang/String;)V"⟩ prog_12_method_2_code 2 none) := kw_g Z (tb_in 323 (by decide +kernel)) (by decide +kernel)
theorem kw324 {s0 : State} (Z : zt s0) : kw s0 (.methodLink "java/lang/RuntimeException" 7 ⟨"java/lang/Exception", "<init>", "(Ljava/lang/String;)V"⟩) := kw_g Z (tb_in 324 (by decide +kernel)) (by decide +kernel)
theorem kw325 {s0 : State} (Z : zt s0) : kw s0 (.instanceMethod ⟨"java/lang/Exception", "<init>", "(Ljava/lang/String;)V"⟩) := kw_g Z (tb_in 325 (by decide +kernel)) (by decide +kernel)
theorem kw326 {s0 : State} (Z : zt s0) : kw s0 (.code ⟨"java/lang/Exception", "<init>", "(Ljava/lang/String;)V"⟩ prog_7_method_2_code 2 none) := kw_g Z (tb_in 326 (by decide +kernel)) (by decide +kernel)
theorem kw327 {s0 : State} (Z : zt s0) : kw s0 (.methodLink "java/lang/Exception" 7 ⟨"java/lang/Throwable", "<init>", "(Ljava/lang/String;)V"⟩) := kw_g Z (tb_in 327 (by decide +kernel)) (by decide +kernel)
theorem kw328 {s0 : State} (Z : zt s0) : kw s0 (.instanceMethod ⟨"java/lang/Throwable", "<init>", "(Ljava/lang/String;)V"⟩) := kw_g Z (tb_in 328 (by decide +kernel)) (by decide +kernel)
theorem kw329 {s0 : State} (Z : zt s0) : kw s0 (.code ⟨"java/lang/Throwable", "<init>", "(Ljava/lang/String;)V"⟩ prog_14_method_2_code 2 none) := kw_g Z (tb_in 329 (by decide +kernel)) (by decide +kernel)
theorem kw330 {s0 : State} (Z : zt s0) : kw s0 (.fieldLink "java/lang/Throwable" 198 "java/lang/Throwable" "backtrace" "Ljava/lang/Object;") := kw_g Z (tb_in 330 (by decide +kernel)) (by decide +kernel)
theorem kw331 {s0 : State} (Z : zt s0) : kw s0 (.fieldLink "java/lang/Throwable" 31 "java/lang/Throwable" "detailMessage" "Ljava/lang/String;") := kw_g Z (tb_in 331 (by decide +kernel)) (by decide +kernel)
theorem kw332 {s0 : State} (Z : zt s0) : kw s0 (.fieldLink "java/lang/Throwable" 7 "java/lang/Throwable" "cause" "Ljava/lang/Throwable;") := kw_g Z (tb_in 332 (by decide +kernel)) (by decide +kernel)
theorem kw333 {s0 : State} (Z : zt s0) : kw s0 (.fieldLink "java/lang/Throwable" 17 "java/lang/Throwable" "stackTrace" "[Ljava/lang/StackTraceElement;") := kw_g Z (tb_in 333 (by decide +kernel)) (by decide +kernel)
theorem kw334 {s0 : State} (Z : zt s0) : kw s0 (.fieldLink "java/lang/Throwable" 24 "java/lang/Throwable" "suppressedExceptions" "Ljava/util/List;") := kw_g Z (tb_in 334 (by decide +kernel)) (by decide +kernel)
theorem kw343 {s0 : State} (Z : zt s0) : kw s0 (.arrayClass .byte) := kw_g Z (tb_in 343 (by decide +kernel)) (by decide +kernel)
theorem kw344 {s0 : State} (Z : zt s0) : kw s0 (.methodLink "PanelForms" 53 ⟨"PanelForms", "checkLength", "(J)V"⟩) := kw_g Z (tb_in 344 (by decide +kernel)) (by decide +kernel)
theorem kw345 {s0 : State} (Z : zt s0) : kw s0 (.static ⟨"PanelForms", "checkLength", "(J)V"⟩) := kw_g Z (tb_in 345 (by decide +kernel)) (by decide +kernel)
theorem kw346 {s0 : State} (Z : zt s0) : kw s0 (.code ⟨"PanelForms", "checkLength", "(J)V"⟩ prog_1_method_21_code 2 none) := kw_g Z (tb_in 346 (by decide +kernel)) (by decide +kernel)
theorem kw347 {s0 : State} (Z : zt s0) : kw s0 (.classLink "PanelForms" 69 "java/lang/IllegalArgumentException") := kw_g Z (tb_in 347 (by decide +kernel)) (by decide +kernel)
theorem kw348 {s0 : State} (Z : zt s0) : kw s0 (.instantiable "java/lang/IllegalArgumentException" 6) := kw_g Z (tb_in 348 (by decide +kernel)) (by decide +kernel)
theorem kw350 {s0 : State} (Z : zt s0) : kw s0 (.selects "java/lang/IllegalArgumentException" ⟨"java/lang/Throwable", "fillInStackTrace", "(I)Ljava/lang/Throwable;"⟩ ⟨"java/lang/Throwable", "fillInStackTrace", "(I)Ljava/lang/Throwable;"⟩) := kw_g Z (tb_in 350 (by decide +kernel)) (by decide +kernel)
theorem kw357 {s0 : State} (Z : zt s0) : kw s0 (.methodLink "PanelForms" 73 ⟨"java/lang/IllegalArgumentException", "<init>", "(Ljava/lang/String;)V"⟩) := kw_g Z (tb_in 357 (by decide +kernel)) (by decide +kernel)
theorem kw358 {s0 : State} (Z : zt s0) : kw s0 (.instanceMethod ⟨"java/lang/IllegalArgumentException", "<init>", "(Ljava/lang/String;)V"⟩) := kw_g Z (tb_in 358 (by decide +kernel)) (by decide +kernel)
theorem kw359 {s0 : State} (Z : zt s0) : kw s0 (.code ⟨"java/lang/IllegalArgumentException", "<init>", "(Ljava/lang/String;)V"⟩ prog_8_method_2_code 2 none) := kw_g Z (tb_in 359 (by decide +kernel)) (by decide +kernel)
theorem kw360 {s0 : State} (Z : zt s0) : kw s0 (.methodLink "java/lang/IllegalArgumentException" 7 ⟨"java/lang/RuntimeException", "<init>", "(Ljava/lang/String;)V"⟩) := kw_g Z (tb_in 360 (by decide +kernel)) (by decide +kernel)
theorem kw363 {s0 : State} (Z : zt s0) : kw s0 (.methodLinkNest "PanelForms" 57 ⟨"PanelForms$Board", "addCorner", "(JJ)Z"⟩ "PanelForms") := kw_mn Z (tb_in 363 (by decide +kernel))
theorem kw365 {s0 : State} (Z : zt s0) : kw s0 (.instanceMethod ⟨"PanelForms$Board", "addCorner", "(JJ)Z"⟩) := kw_g Z (tb_in 365 (by decide +kernel)) (by decide +kernel)
theorem kw366 {s0 : State} (Z : zt s0) : kw s0 (.code ⟨"PanelForms$Board", "addCorner", "(JJ)Z"⟩ prog_2_method_2_code 5 (some .boolean)) := kw_g Z (tb_in 366 (by decide +kernel)) (by decide +kernel)
theorem kw367 {s0 : State} (Z : zt s0) : kw s0 (.methodLink "PanelForms$Board" 38 ⟨"java/lang/Math", "min", "(JJ)J"⟩) := kw_g Z (tb_in 367 (by decide +kernel)) (by decide +kernel)
theorem kw368 {s0 : State} (Z : zt s0) : kw s0 (.methodLink "PanelForms$Board" 50 ⟨"java/lang/Math", "max", "(JJ)J"⟩) := kw_g Z (tb_in 368 (by decide +kernel)) (by decide +kernel)
theorem kw369 {s0 : State} (Z : zt s0) : kw s0 (.methodLink "PanelFormsLaw" 90 ⟨"PanelFormsLaw", "run", "(LPanelForms;IJ[J)I"⟩) := kw_g Z (tb_in 369 (by decide +kernel)) (by decide +kernel)
theorem kw370 {s0 : State} (Z : zt s0) : kw s0 (.static ⟨"PanelFormsLaw", "run", "(LPanelForms;IJ[J)I"⟩) := kw_g Z (tb_in 370 (by decide +kernel)) (by decide +kernel)
theorem kw371 {s0 : State} (Z : zt s0) : kw s0 (.codeWith ⟨"PanelFormsLaw", "run", "(LPanelForms;IJ[J)I"⟩ method_4_code 6 (some .int) [(0, 11, 14, 15)]) := kw_g Z (tb_in 371 (by decide +kernel)) (by decide +kernel)
theorem kw372 {s0 : State} (Z : zt s0) : kw s0 (.methodLink "PanelFormsLaw" 17 ⟨"PanelForms", "run", "(IJ)I"⟩) := kw_g Z (tb_in 372 (by decide +kernel)) (by decide +kernel)
theorem kw373 {s0 : State} (Z : zt s0) : kw s0 (.instanceMethod ⟨"PanelForms", "run", "(IJ)I"⟩) := kw_g Z (tb_in 373 (by decide +kernel)) (by decide +kernel)
theorem kw374 {s0 : State} (Z : zt s0) : kw s0 (.selects "PanelForms" ⟨"PanelForms", "run", "(IJ)I"⟩ ⟨"PanelForms", "run", "(IJ)I"⟩) := kw_g Z (tb_in 374 (by decide +kernel)) (by decide +kernel)
theorem kw375 {s0 : State} (Z : zt s0) : kw s0 (.code ⟨"PanelForms", "run", "(IJ)I"⟩ prog_1_method_4_code 8 (some .int)) := kw_g Z (tb_in 375 (by decide +kernel)) (by decide +kernel)
theorem kw376 {s0 : State} (Z : zt s0) : kw s0 (.constantLong "PanelForms" 61 (4 : Int64)) := kw_g Z (tb_in 376 (by decide +kernel)) (by decide +kernel)
theorem kw377 {s0 : State} (Z : zt s0) : kw s0 (.constantLong "PanelForms" 67 (8 : Int64)) := kw_g Z (tb_in 377 (by decide +kernel)) (by decide +kernel)
theorem kw379 {s0 : State} (Z : zt s0) : kw s0 (.methodLink "PanelForms" 76 ⟨"java/lang/Math", "min", "(II)I"⟩) := kw_g Z (tb_in 379 (by decide +kernel)) (by decide +kernel)
theorem kw380 {s0 : State} (Z : zt s0) : kw s0 (.static ⟨"java/lang/Math", "min", "(II)I"⟩) := kw_g Z (tb_in 380 (by decide +kernel)) (by decide +kernel)
theorem kw381 {s0 : State} (Z : zt s0) : kw s0 (.code ⟨"java/lang/Math", "min", "(II)I"⟩ prog_11_method_69_code 2 (some .int)) := kw_g Z (tb_in 381 (by decide +kernel)) (by decide +kernel)
theorem kw382 {s0 : State} (Z : zt s0) : kw s0 (.methodLink "PanelForms" 82 ⟨"PanelForms", "prepareSearch", "(I)V"⟩) := kw_g Z (tb_in 382 (by decide +kernel)) (by decide +kernel)
theorem kw384 {s0 : State} (Z : zt s0) : kw s0 (.instanceMethod ⟨"PanelForms", "prepareSearch", "(I)V"⟩) := kw_g Z (tb_in 384 (by decide +kernel)) (by decide +kernel)
theorem kw385 {s0 : State} (Z : zt s0) : kw s0 (.code ⟨"PanelForms", "prepareSearch", "(I)V"⟩ prog_1_method_26_code 8 none) := kw_g Z (tb_in 385 (by decide +kernel)) (by decide +kernel)
theorem kw386 {s0 : State} (Z : zt s0) : kw s0 (.methodLinkNest "PanelForms" 227 ⟨"PanelForms$Search", "begin", "(J)V"⟩ "PanelForms") := kw_mn Z (tb_in 386 (by decide +kernel))
theorem kw388 {s0 : State} (Z : zt s0) : kw s0 (.instanceMethod ⟨"PanelForms$Search", "begin", "(J)V"⟩) := kw_g Z (tb_in 388 (by decide +kernel)) (by decide +kernel)
theorem kw389 {s0 : State} (Z : zt s0) : kw s0 (.code ⟨"PanelForms$Search", "begin", "(J)V"⟩ prog_4_method_2_code 4 none) := kw_g Z (tb_in 389 (by decide +kernel)) (by decide +kernel)
theorem kw390 {s0 : State} (Z : zt s0) : kw s0 (.methodLinkNest "PanelForms" 230 ⟨"PanelForms$Board", "hasArea", "()Z"⟩ "PanelForms") := kw_mn Z (tb_in 390 (by decide +kernel))
theorem kw392 {s0 : State} (Z : zt s0) : kw s0 (.instanceMethod ⟨"PanelForms$Board", "hasArea", "()Z"⟩) := kw_g Z (tb_in 392 (by decide +kernel)) (by decide +kernel)
theorem kw393 {s0 : State} (Z : zt s0) : kw s0 (.code ⟨"PanelForms$Board", "hasArea", "()Z"⟩ prog_2_method_4_code 1 (some .boolean)) := kw_g Z (tb_in 393 (by decide +kernel)) (by decide +kernel)
theorem kw394 {s0 : State} (Z : zt s0) : kw s0 (.methodLinkNest "PanelForms" 237 ⟨"PanelForms$Board", "wide", "(I)J"⟩ "PanelForms") := kw_mn Z (tb_in 394 (by decide +kernel))
theorem kw396 {s0 : State} (Z : zt s0) : kw s0 (.instanceMethod ⟨"PanelForms$Board", "wide", "(I)J"⟩) := kw_g Z (tb_in 396 (by decide +kernel)) (by decide +kernel)
theorem kw397 {s0 : State} (Z : zt s0) : kw s0 (.code ⟨"PanelForms$Board", "wide", "(I)J"⟩ prog_2_method_5_code 2 (some .long)) := kw_g Z (tb_in 397 (by decide +kernel)) (by decide +kernel)
theorem kw398 {s0 : State} (Z : zt s0) : kw s0 (.methodLink "PanelForms" 241 ⟨"PanelForms", "roomInRow", "(JJJ)I"⟩) := kw_g Z (tb_in 398 (by decide +kernel)) (by decide +kernel)
theorem kw399 {s0 : State} (Z : zt s0) : kw s0 (.static ⟨"PanelForms", "roomInRow", "(JJJ)I"⟩) := kw_g Z (tb_in 399 (by decide +kernel)) (by decide +kernel)
theorem kw400 {s0 : State} (Z : zt s0) : kw s0 (.code ⟨"PanelForms", "roomInRow", "(JJJ)I"⟩ prog_1_method_27_code 8 (some .int)) := kw_g Z (tb_in 400 (by decide +kernel)) (by decide +kernel)
theorem kw401 {s0 : State} (Z : zt s0) : kw s0 (.constantLong "PanelForms" 252 (20 : Int64)) := kw_g Z (tb_in 401 (by decide +kernel)) (by decide +kernel)
theorem kw402 {s0 : State} (Z : zt s0) : kw s0 (.methodLinkNest "PanelForms" 245 ⟨"PanelForms$Board", "high", "(I)J"⟩ "PanelForms") := kw_mn Z (tb_in 402 (by decide +kernel))
theorem kw404 {s0 : State} (Z : zt s0) : kw s0 (.instanceMethod ⟨"PanelForms$Board", "high", "(I)J"⟩) := kw_g Z (tb_in 404 (by decide +kernel)) (by decide +kernel)
theorem kw405 {s0 : State} (Z : zt s0) : kw s0 (.code ⟨"PanelForms$Board", "high", "(I)J"⟩ prog_2_method_6_code 2 (some .long)) := kw_g Z (tb_in 405 (by decide +kernel)) (by decide +kernel)
theorem kw406 {s0 : State} (Z : zt s0) : kw s0 (.methodLinkNest "PanelForms" 248 ⟨"PanelForms$Search", "allowKind", "(IIJ)V"⟩ "PanelForms") := kw_mn Z (tb_in 406 (by decide +kernel))
theorem kw408 {s0 : State} (Z : zt s0) : kw s0 (.instanceMethod ⟨"PanelForms$Search", "allowKind", "(IIJ)V"⟩) := kw_g Z (tb_in 408 (by decide +kernel)) (by decide +kernel)
theorem kw409 {s0 : State} (Z : zt s0) : kw s0 (.code ⟨"PanelForms$Search", "allowKind", "(IIJ)V"⟩ prog_4_method_3_code 5 none) := kw_g Z (tb_in 409 (by decide +kernel)) (by decide +kernel)
theorem kw410 {s0 : State} (Z : zt s0) : kw s0 (.methodLink "PanelForms$Search" 48 ⟨"java/lang/Math", "max", "(II)I"⟩) := kw_g Z (tb_in 410 (by decide +kernel)) (by decide +kernel)
theorem kw411 {s0 : State} (Z : zt s0) : kw s0 (.static ⟨"java/lang/Math", "max", "(II)I"⟩) := kw_g Z (tb_in 411 (by decide +kernel)) (by decide +kernel)
theorem kw412 {s0 : State} (Z : zt s0) : kw s0 (.code ⟨"java/lang/Math", "max", "(II)I"⟩ prog_11_method_65_code 2 (some .int)) := kw_g Z (tb_in 412 (by decide +kernel)) (by decide +kernel)
theorem kw413 {s0 : State} (Z : zt s0) : kw s0 (.methodLinkNest "PanelForms" 85 ⟨"PanelForms$Search", "look", "(IJ)V"⟩ "PanelForms") := kw_mn Z (tb_in 413 (by decide +kernel))
theorem kw415 {s0 : State} (Z : zt s0) : kw s0 (.instanceMethod ⟨"PanelForms$Search", "look", "(IJ)V"⟩) := kw_g Z (tb_in 415 (by decide +kernel)) (by decide +kernel)
theorem kw416 {s0 : State} (Z : zt s0) : kw s0 (.code ⟨"PanelForms$Search", "look", "(IJ)V"⟩ prog_4_method_4_code 4 none) := kw_g Z (tb_in 416 (by decide +kernel)) (by decide +kernel)
theorem kw417 {s0 : State} (Z : zt s0) : kw s0 (.methodLink "PanelForms$Search" 54 ⟨"java/lang/Math", "min", "(II)I"⟩) := kw_g Z (tb_in 417 (by decide +kernel)) (by decide +kernel)
theorem kw418 {s0 : State} (Z : zt s0) : kw s0 (.methodLink "PanelForms$Search" 60 ⟨"PanelForms$Search", "tryRow", "(IIIJ)V"⟩) := kw_g Z (tb_in 418 (by decide +kernel)) (by decide +kernel)
theorem kw420 {s0 : State} (Z : zt s0) : kw s0 (.instanceMethod ⟨"PanelForms$Search", "tryRow", "(IIIJ)V"⟩) := kw_g Z (tb_in 420 (by decide +kernel)) (by decide +kernel)
theorem kw421 {s0 : State} (Z : zt s0) : kw s0 (.code ⟨"PanelForms$Search", "tryRow", "(IIIJ)V"⟩ prog_4_method_6_code 9 none) := kw_g Z (tb_in 421 (by decide +kernel)) (by decide +kernel)
theorem kw422 {s0 : State} (Z : zt s0) : kw s0 (.methodLink "PanelForms$Search" 68 ⟨"PanelForms$Search", "keepIfBetter", "(II)V"⟩) := kw_g Z (tb_in 422 (by decide +kernel)) (by decide +kernel)
theorem kw424 {s0 : State} (Z : zt s0) : kw s0 (.instanceMethod ⟨"PanelForms$Search", "keepIfBetter", "(II)V"⟩) := kw_g Z (tb_in 424 (by decide +kernel)) (by decide +kernel)
theorem kw425 {s0 : State} (Z : zt s0) : kw s0 (.code ⟨"PanelForms$Search", "keepIfBetter", "(II)V"⟩ prog_4_method_7_code 4 none) := kw_g Z (tb_in 425 (by decide +kernel)) (by decide +kernel)
theorem kw426 {s0 : State} (Z : zt s0) : kw s0 (.methodLink "PanelForms" 89 ⟨"PanelForms", "layOutBest", "()V"⟩) := kw_g Z (tb_in 426 (by decide +kernel)) (by decide +kernel)
theorem kw428 {s0 : State} (Z : zt s0) : kw s0 (.instanceMethod ⟨"PanelForms", "layOutBest", "()V"⟩) := kw_g Z (tb_in 428 (by decide +kernel)) (by decide +kernel)
theorem kw429 {s0 : State} (Z : zt s0) : kw s0 (.code ⟨"PanelForms", "layOutBest", "()V"⟩ prog_1_method_28_code 5 none) := kw_g Z (tb_in 429 (by decide +kernel)) (by decide +kernel)
theorem kw430 {s0 : State} (Z : zt s0) : kw s0 (.methodLinkNest "PanelForms" 254 ⟨"PanelForms$Layout", "begin", "(JJJ)V"⟩ "PanelForms") := kw_mn Z (tb_in 430 (by decide +kernel))
theorem kw432 {s0 : State} (Z : zt s0) : kw s0 (.instanceMethod ⟨"PanelForms$Layout", "begin", "(JJJ)V"⟩) := kw_g Z (tb_in 432 (by decide +kernel)) (by decide +kernel)
theorem kw433 {s0 : State} (Z : zt s0) : kw s0 (.code ⟨"PanelForms$Layout", "begin", "(JJJ)V"⟩ prog_3_method_2_code 7 none) := kw_g Z (tb_in 433 (by decide +kernel)) (by decide +kernel)
theorem kw434 {s0 : State} (Z : zt s0) : kw s0 (.methodLinkNest "PanelForms" 266 ⟨"PanelForms$Layout", "addRow", "(IIJJI)V"⟩ "PanelForms") := kw_mn Z (tb_in 434 (by decide +kernel))
theorem kw436 {s0 : State} (Z : zt s0) : kw s0 (.instanceMethod ⟨"PanelForms$Layout", "addRow", "(IIJJI)V"⟩) := kw_g Z (tb_in 436 (by decide +kernel)) (by decide +kernel)
theorem kw437 {s0 : State} (Z : zt s0) : kw s0 (.code ⟨"PanelForms$Layout", "addRow", "(IIJJI)V"⟩ prog_3_method_3_code 8 none) := kw_g Z (tb_in 437 (by decide +kernel)) (by decide +kernel)
theorem kw438 {s0 : State} (Z : zt s0) : kw s0 (.methodLink "PanelForms$Layout" 67 ⟨"PanelForms$Layout", "addCopies", "(IJ)V"⟩) := kw_g Z (tb_in 438 (by decide +kernel)) (by decide +kernel)
theorem kw440 {s0 : State} (Z : zt s0) : kw s0 (.instanceMethod ⟨"PanelForms$Layout", "addCopies", "(IJ)V"⟩) := kw_g Z (tb_in 440 (by decide +kernel)) (by decide +kernel)
theorem kw441 {s0 : State} (Z : zt s0) : kw s0 (.code ⟨"PanelForms$Layout", "addCopies", "(IJ)V"⟩ prog_3_method_4_code 5 none) := kw_g Z (tb_in 441 (by decide +kernel)) (by decide +kernel)
theorem kw442 {s0 : State} (Z : zt s0) : kw s0 (.methodLink "PanelForms$Layout" 71 ⟨"PanelForms$Layout", "addScore", "(JI)V"⟩) := kw_g Z (tb_in 442 (by decide +kernel)) (by decide +kernel)
theorem kw444 {s0 : State} (Z : zt s0) : kw s0 (.instanceMethod ⟨"PanelForms$Layout", "addScore", "(JI)V"⟩) := kw_g Z (tb_in 444 (by decide +kernel)) (by decide +kernel)
theorem kw445 {s0 : State} (Z : zt s0) : kw s0 (.code ⟨"PanelForms$Layout", "addScore", "(JI)V"⟩ prog_3_method_5_code 4 none) := kw_g Z (tb_in 445 (by decide +kernel)) (by decide +kernel)
theorem kw446 {s0 : State} (Z : zt s0) : kw s0 (.methodLinkNest "PanelForms" 92 ⟨"PanelForms$Search", "findsMore", "(IJ)Z"⟩ "PanelForms") := kw_mn Z (tb_in 446 (by decide +kernel))
theorem kw448 {s0 : State} (Z : zt s0) : kw s0 (.instanceMethod ⟨"PanelForms$Search", "findsMore", "(IJ)Z"⟩) := kw_g Z (tb_in 448 (by decide +kernel)) (by decide +kernel)
theorem kw449 {s0 : State} (Z : zt s0) : kw s0 (.code ⟨"PanelForms$Search", "findsMore", "(IJ)Z"⟩ prog_4_method_5_code 5 (some .boolean)) := kw_g Z (tb_in 449 (by decide +kernel)) (by decide +kernel)
theorem kw450 {s0 : State} (Z : zt s0) : kw s0 (.methodLink "PanelForms$Search" 64 ⟨"PanelForms$Search", "look", "(IJ)V"⟩) := kw_g Z (tb_in 450 (by decide +kernel)) (by decide +kernel)
theorem kw451 {s0 : State} (Z : zt s0) : kw s0 (.methodLink "PanelFormsLaw" 94 ⟨"PanelFormsLaw", "at", "(LPanelForms;II[J)I"⟩) := kw_g Z (tb_in 451 (by decide +kernel)) (by decide +kernel)
theorem kw452 {s0 : State} (Z : zt s0) : kw s0 (.static ⟨"PanelFormsLaw", "at", "(LPanelForms;II[J)I"⟩) := kw_g Z (tb_in 452 (by decide +kernel)) (by decide +kernel)
theorem kw453 {s0 : State} (Z : zt s0) : kw s0 (.codeWith ⟨"PanelFormsLaw", "at", "(LPanelForms;II[J)I"⟩ method_5_code 5 (some .int) [(0, 9, 12, 13)]) := kw_g Z (tb_in 453 (by decide +kernel)) (by decide +kernel)
theorem kw454 {s0 : State} (Z : zt s0) : kw s0 (.methodLink "PanelFormsLaw" 21 ⟨"PanelForms", "at", "(II)J"⟩) := kw_g Z (tb_in 454 (by decide +kernel)) (by decide +kernel)
theorem kw455 {s0 : State} (Z : zt s0) : kw s0 (.instanceMethod ⟨"PanelForms", "at", "(II)J"⟩) := kw_g Z (tb_in 455 (by decide +kernel)) (by decide +kernel)
theorem kw456 {s0 : State} (Z : zt s0) : kw s0 (.selects "PanelForms" ⟨"PanelForms", "at", "(II)J"⟩ ⟨"PanelForms", "at", "(II)J"⟩) := kw_g Z (tb_in 456 (by decide +kernel)) (by decide +kernel)
theorem kw457 {s0 : State} (Z : zt s0) : kw s0 (.code ⟨"PanelForms", "at", "(II)J"⟩ prog_1_method_5_code 4 (some .long)) := kw_g Z (tb_in 457 (by decide +kernel)) (by decide +kernel)
theorem kw458 {s0 : State} (Z : zt s0) : kw s0 (.methodLink "PanelForms" 103 ⟨"PanelForms", "checkCopy", "(I)V"⟩) := kw_g Z (tb_in 458 (by decide +kernel)) (by decide +kernel)
theorem kw460 {s0 : State} (Z : zt s0) : kw s0 (.instanceMethod ⟨"PanelForms", "checkCopy", "(I)V"⟩) := kw_g Z (tb_in 460 (by decide +kernel)) (by decide +kernel)
theorem kw461 {s0 : State} (Z : zt s0) : kw s0 (.code ⟨"PanelForms", "checkCopy", "(I)V"⟩ prog_1_method_25_code 2 none) := kw_g Z (tb_in 461 (by decide +kernel)) (by decide +kernel)
theorem kw464 {s0 : State} (Z : zt s0) : kw s0 (.methodLink "PanelFormsLaw" 103 ⟨"PanelFormsLaw", "gap", "(LPanelForms;J[J)I"⟩) := kw_g Z (tb_in 464 (by decide +kernel)) (by decide +kernel)
theorem kw465 {s0 : State} (Z : zt s0) : kw s0 (.static ⟨"PanelFormsLaw", "gap", "(LPanelForms;J[J)I"⟩) := kw_g Z (tb_in 465 (by decide +kernel)) (by decide +kernel)
theorem kw466 {s0 : State} (Z : zt s0) : kw s0 (.codeWith ⟨"PanelFormsLaw", "gap", "(LPanelForms;J[J)I"⟩ method_6_code 5 (some .int) [(0, 16, 19, 15)]) := kw_g Z (tb_in 466 (by decide +kernel)) (by decide +kernel)
theorem kw467 {s0 : State} (Z : zt s0) : kw s0 (.methodLink "PanelFormsLaw" 25 ⟨"PanelForms", "gap", "(J)Z"⟩) := kw_g Z (tb_in 467 (by decide +kernel)) (by decide +kernel)
theorem kw468 {s0 : State} (Z : zt s0) : kw s0 (.instanceMethod ⟨"PanelForms", "gap", "(J)Z"⟩) := kw_g Z (tb_in 468 (by decide +kernel)) (by decide +kernel)
theorem kw469 {s0 : State} (Z : zt s0) : kw s0 (.selects "PanelForms" ⟨"PanelForms", "gap", "(J)Z"⟩ ⟨"PanelForms", "gap", "(J)Z"⟩) := kw_g Z (tb_in 469 (by decide +kernel)) (by decide +kernel)
theorem kw470 {s0 : State} (Z : zt s0) : kw s0 (.code ⟨"PanelForms", "gap", "(J)Z"⟩ prog_1_method_7_code 4 (some .boolean)) := kw_g Z (tb_in 470 (by decide +kernel)) (by decide +kernel)
theorem kw471 {s0 : State} (Z : zt s0) : kw s0 (.methodLink "PanelFormsLaw" 107 ⟨"PanelFormsLaw", "tab", "(LPanelForms;III[J)I"⟩) := kw_g Z (tb_in 471 (by decide +kernel)) (by decide +kernel)
theorem kw472 {s0 : State} (Z : zt s0) : kw s0 (.static ⟨"PanelFormsLaw", "tab", "(LPanelForms;III[J)I"⟩) := kw_g Z (tb_in 472 (by decide +kernel)) (by decide +kernel)
theorem kw473 {s0 : State} (Z : zt s0) : kw s0 (.codeWith ⟨"PanelFormsLaw", "tab", "(LPanelForms;III[J)I"⟩ method_7_code 6 (some .int) [(0, 11, 14, 13), (0, 11, 18, 33)]) := kw_g Z (tb_in 473 (by decide +kernel)) (by decide +kernel)
theorem kw474 {s0 : State} (Z : zt s0) : kw s0 (.classLink "PanelFormsLaw" 33 "java/lang/IllegalStateException") := kw_g Z (tb_in 474 (by decide +kernel)) (by decide +kernel)
theorem kw475 {s0 : State} (Z : zt s0) : kw s0 (.methodLink "PanelFormsLaw" 29 ⟨"PanelForms", "tab", "(III)J"⟩) := kw_g Z (tb_in 475 (by decide +kernel)) (by decide +kernel)
theorem kw476 {s0 : State} (Z : zt s0) : kw s0 (.instanceMethod ⟨"PanelForms", "tab", "(III)J"⟩) := kw_g Z (tb_in 476 (by decide +kernel)) (by decide +kernel)
theorem kw477 {s0 : State} (Z : zt s0) : kw s0 (.selects "PanelForms" ⟨"PanelForms", "tab", "(III)J"⟩ ⟨"PanelForms", "tab", "(III)J"⟩) := kw_g Z (tb_in 477 (by decide +kernel)) (by decide +kernel)
theorem kw478 {s0 : State} (Z : zt s0) : kw s0 (.code ⟨"PanelForms", "tab", "(III)J"⟩ prog_1_method_8_code 9 (some .long)) := kw_g Z (tb_in 478 (by decide +kernel)) (by decide +kernel)
theorem kw479 {s0 : State} (Z : zt s0) : kw s0 (.methodLink "PanelForms" 136 ⟨"PanelForms", "checkSide", "(I)V"⟩) := kw_g Z (tb_in 479 (by decide +kernel)) (by decide +kernel)
theorem kw480 {s0 : State} (Z : zt s0) : kw s0 (.static ⟨"PanelForms", "checkSide", "(I)V"⟩) := kw_g Z (tb_in 480 (by decide +kernel)) (by decide +kernel)
theorem kw481 {s0 : State} (Z : zt s0) : kw s0 (.code ⟨"PanelForms", "checkSide", "(I)V"⟩ prog_1_method_22_code 1 none) := kw_g Z (tb_in 481 (by decide +kernel)) (by decide +kernel)
theorem kw482 {s0 : State} (Z : zt s0) : kw s0 (.constantLong "PanelForms" 217 (3 : Int64)) := kw_g Z (tb_in 482 (by decide +kernel)) (by decide +kernel)
theorem kw484 {s0 : State} (Z : zt s0) : kw s0 (.methodLink "PanelForms" 139 ⟨"PanelForms", "checkOneOfTwo", "(I)V"⟩) := kw_g Z (tb_in 484 (by decide +kernel)) (by decide +kernel)
theorem kw485 {s0 : State} (Z : zt s0) : kw s0 (.static ⟨"PanelForms", "checkOneOfTwo", "(I)V"⟩) := kw_g Z (tb_in 485 (by decide +kernel)) (by decide +kernel)
theorem kw486 {s0 : State} (Z : zt s0) : kw s0 (.code ⟨"PanelForms", "checkOneOfTwo", "(I)V"⟩ prog_1_method_23_code 1 none) := kw_g Z (tb_in 486 (by decide +kernel)) (by decide +kernel)
theorem kw488 {s0 : State} (Z : zt s0) : kw s0 (.methodLink "PanelForms" 142 ⟨"PanelForms", "tabOffset", "(IIIJ)J"⟩) := kw_g Z (tb_in 488 (by decide +kernel)) (by decide +kernel)
theorem kw489 {s0 : State} (Z : zt s0) : kw s0 (.static ⟨"PanelForms", "tabOffset", "(IIIJ)J"⟩) := kw_g Z (tb_in 489 (by decide +kernel)) (by decide +kernel)
theorem kw490 {s0 : State} (Z : zt s0) : kw s0 (.code ⟨"PanelForms", "tabOffset", "(IIIJ)J"⟩ prog_1_method_29_code 5 (some .long)) := kw_g Z (tb_in 490 (by decide +kernel)) (by decide +kernel)
theorem kw491 {s0 : State} (Z : zt s0) : kw s0 (.constantLong "PanelForms" 171 (2 : Int64)) := kw_g Z (tb_in 491 (by decide +kernel)) (by decide +kernel)
theorem kw492 {s0 : State} (Z : zt s0) : kw s0 (.methodLinkNest "PanelForms" 146 ⟨"PanelForms$Board", "hasPartNear", "(JJI)Z"⟩ "PanelForms") := kw_mn Z (tb_in 492 (by decide +kernel))
theorem kw494 {s0 : State} (Z : zt s0) : kw s0 (.instanceMethod ⟨"PanelForms$Board", "hasPartNear", "(JJI)Z"⟩) := kw_g Z (tb_in 494 (by decide +kernel)) (by decide +kernel)
theorem kw495 {s0 : State} (Z : zt s0) : kw s0 (.code ⟨"PanelForms$Board", "hasPartNear", "(JJI)Z"⟩ prog_2_method_7_code 15 (some .boolean)) := kw_g Z (tb_in 495 (by decide +kernel)) (by decide +kernel)
theorem kw496 {s0 : State} (Z : zt s0) : kw s0 (.methodLink "PanelForms$Board" 59 ⟨"PanelForms$Board", "high", "(I)J"⟩) := kw_g Z (tb_in 496 (by decide +kernel)) (by decide +kernel)
theorem kw497 {s0 : State} (Z : zt s0) : kw s0 (.classLink "PanelForms" 150 "java/lang/IllegalStateException") := kw_g Z (tb_in 497 (by decide +kernel)) (by decide +kernel)
theorem kw498 {s0 : State} (Z : zt s0) : kw s0 (.instantiable "java/lang/IllegalStateException" 6) := kw_g Z (tb_in 498 (by decide +kernel)) (by decide +kernel)
theorem kw500 {s0 : State} (Z : zt s0) : kw s0 (.selects "java/lang/IllegalStateException" ⟨"java/lang/Throwable", "fillInStackTrace", "(I)Ljava/lang/Throwable;"⟩ ⟨"java/lang/Throwable", "fillInStackTrace", "(I)Ljava/lang/Throwable;"⟩) := kw_g Z (tb_in 500 (by decide +kernel)) (by decide +kernel)
theorem kw507 {s0 : State} (Z : zt s0) : kw s0 (.methodLink "PanelForms" 154 ⟨"java/lang/IllegalStateException", "<init>", "(Ljava/lang/String;)V"⟩) := kw_g Z (tb_in 507 (by decide +kernel)) (by decide +kernel)
theorem kw508 {s0 : State} (Z : zt s0) : kw s0 (.instanceMethod ⟨"java/lang/IllegalStateException", "<init>", "(Ljava/lang/String;)V"⟩) := kw_g Z (tb_in 508 (by decide +kernel)) (by decide +kernel)
theorem kw509 {s0 : State} (Z : zt s0) : kw s0 (.code ⟨"java/lang/IllegalStateException", "<init>", "(Ljava/lang/String;)V"⟩ prog_9_method_2_code 2 none) := kw_g Z (tb_in 509 (by decide +kernel)) (by decide +kernel)
theorem kw510 {s0 : State} (Z : zt s0) : kw s0 (.methodLink "java/lang/IllegalStateException" 7 ⟨"java/lang/RuntimeException", "<init>", "(Ljava/lang/String;)V"⟩) := kw_g Z (tb_in 510 (by decide +kernel)) (by decide +kernel)
theorem kw513 {s0 : State} (Z : zt s0) : kw s0 (.methodLink "PanelFormsLaw" 111 ⟨"PanelFormsLaw", "score", "(LPanelForms;II[J)I"⟩) := kw_g Z (tb_in 513 (by decide +kernel)) (by decide +kernel)
theorem kw514 {s0 : State} (Z : zt s0) : kw s0 (.static ⟨"PanelFormsLaw", "score", "(LPanelForms;II[J)I"⟩) := kw_g Z (tb_in 514 (by decide +kernel)) (by decide +kernel)
theorem kw515 {s0 : State} (Z : zt s0) : kw s0 (.codeWith ⟨"PanelFormsLaw", "score", "(LPanelForms;II[J)I"⟩ method_8_code 5 (some .int) [(0, 9, 12, 13)]) := kw_g Z (tb_in 515 (by decide +kernel)) (by decide +kernel)
theorem kw516 {s0 : State} (Z : zt s0) : kw s0 (.methodLink "PanelFormsLaw" 35 ⟨"PanelForms", "score", "(II)J"⟩) := kw_g Z (tb_in 516 (by decide +kernel)) (by decide +kernel)
theorem kw517 {s0 : State} (Z : zt s0) : kw s0 (.instanceMethod ⟨"PanelForms", "score", "(II)J"⟩) := kw_g Z (tb_in 517 (by decide +kernel)) (by decide +kernel)
theorem kw518 {s0 : State} (Z : zt s0) : kw s0 (.selects "PanelForms" ⟨"PanelForms", "score", "(II)J"⟩ ⟨"PanelForms", "score", "(II)J"⟩) := kw_g Z (tb_in 518 (by decide +kernel)) (by decide +kernel)
theorem kw519 {s0 : State} (Z : zt s0) : kw s0 (.code ⟨"PanelForms", "score", "(II)J"⟩ prog_1_method_9_code 3 (some .long)) := kw_g Z (tb_in 519 (by decide +kernel)) (by decide +kernel)
theorem kw521 {s0 : State} (Z : zt s0) : kw s0 (.methodLink "PanelFormsLaw" 114 ⟨"PanelFormsLaw", "part", "(LPanelForms;IJJJ[J)I"⟩) := kw_g Z (tb_in 521 (by decide +kernel)) (by decide +kernel)
theorem kw522 {s0 : State} (Z : zt s0) : kw s0 (.static ⟨"PanelFormsLaw", "part", "(LPanelForms;IJJJ[J)I"⟩) := kw_g Z (tb_in 522 (by decide +kernel)) (by decide +kernel)
theorem kw523 {s0 : State} (Z : zt s0) : kw s0 (.codeWith ⟨"PanelFormsLaw", "part", "(LPanelForms;IJJJ[J)I"⟩ method_9_code 10 (some .int) [(0, 22, 25, 13), (0, 22, 29, 15)]) := kw_g Z (tb_in 523 (by decide +kernel)) (by decide +kernel)
theorem kw524 {s0 : State} (Z : zt s0) : kw s0 (.methodLink "PanelFormsLaw" 38 ⟨"PanelForms", "part", "(IJJJ)Z"⟩) := kw_g Z (tb_in 524 (by decide +kernel)) (by decide +kernel)
theorem kw525 {s0 : State} (Z : zt s0) : kw s0 (.instanceMethod ⟨"PanelForms", "part", "(IJJJ)Z"⟩) := kw_g Z (tb_in 525 (by decide +kernel)) (by decide +kernel)
theorem kw526 {s0 : State} (Z : zt s0) : kw s0 (.selects "PanelForms" ⟨"PanelForms", "part", "(IJJJ)Z"⟩ ⟨"PanelForms", "part", "(IJJJ)Z"⟩) := kw_g Z (tb_in 526 (by decide +kernel)) (by decide +kernel)
theorem kw527 {s0 : State} (Z : zt s0) : kw s0 (.code ⟨"PanelForms", "part", "(IJJJ)Z"⟩ prog_1_method_10_code 8 (some .boolean)) := kw_g Z (tb_in 527 (by decide +kernel)) (by decide +kernel)
theorem kw529 {s0 : State} (Z : zt s0) : kw s0 (.methodLinkNest "PanelForms" 168 ⟨"PanelForms$Board", "addPart", "(JJJ)Z"⟩ "PanelForms") := kw_mn Z (tb_in 529 (by decide +kernel))
theorem kw531 {s0 : State} (Z : zt s0) : kw s0 (.instanceMethod ⟨"PanelForms$Board", "addPart", "(JJJ)Z"⟩) := kw_g Z (tb_in 531 (by decide +kernel)) (by decide +kernel)
theorem kw532 {s0 : State} (Z : zt s0) : kw s0 (.code ⟨"PanelForms$Board", "addPart", "(JJJ)Z"⟩ prog_2_method_3_code 7 (some .boolean)) := kw_g Z (tb_in 532 (by decide +kernel)) (by decide +kernel)
theorem kw533 {s0 : State} (Z : zt s0) : kw s0 (.methodLink "PanelFormsLaw" 118 ⟨"PanelFormsLaw", "waste", "(LPanelForms;I[J)I"⟩) := kw_g Z (tb_in 533 (by decide +kernel)) (by decide +kernel)
theorem kw534 {s0 : State} (Z : zt s0) : kw s0 (.static ⟨"PanelFormsLaw", "waste", "(LPanelForms;I[J)I"⟩) := kw_g Z (tb_in 534 (by decide +kernel)) (by decide +kernel)
theorem kw535 {s0 : State} (Z : zt s0) : kw s0 (.codeWith ⟨"PanelFormsLaw", "waste", "(LPanelForms;I[J)I"⟩ method_10_code 4 (some .int) [(0, 8, 11, 13)]) := kw_g Z (tb_in 535 (by decide +kernel)) (by decide +kernel)
theorem kw536 {s0 : State} (Z : zt s0) : kw s0 (.methodLink "PanelFormsLaw" 42 ⟨"PanelForms", "waste", "(I)J"⟩) := kw_g Z (tb_in 536 (by decide +kernel)) (by decide +kernel)
theorem kw537 {s0 : State} (Z : zt s0) : kw s0 (.instanceMethod ⟨"PanelForms", "waste", "(I)J"⟩) := kw_g Z (tb_in 537 (by decide +kernel)) (by decide +kernel)
theorem kw538 {s0 : State} (Z : zt s0) : kw s0 (.selects "PanelForms" ⟨"PanelForms", "waste", "(I)J"⟩ ⟨"PanelForms", "waste", "(I)J"⟩) := kw_g Z (tb_in 538 (by decide +kernel)) (by decide +kernel)
theorem kw539 {s0 : State} (Z : zt s0) : kw s0 (.code ⟨"PanelForms", "waste", "(I)J"⟩ prog_1_method_11_code 8 (some .long)) := kw_g Z (tb_in 539 (by decide +kernel)) (by decide +kernel)
theorem kw540 {s0 : State} (Z : zt s0) : kw s0 (.methodLink "PanelForms" 173 ⟨"PanelForms", "twiceAreaOfCopies", "()J"⟩) := kw_g Z (tb_in 540 (by decide +kernel)) (by decide +kernel)
theorem kw542 {s0 : State} (Z : zt s0) : kw s0 (.instanceMethod ⟨"PanelForms", "twiceAreaOfCopies", "()J"⟩) := kw_g Z (tb_in 542 (by decide +kernel)) (by decide +kernel)
theorem kw543 {s0 : State} (Z : zt s0) : kw s0 (.code ⟨"PanelForms", "twiceAreaOfCopies", "()J"⟩ prog_1_method_31_code 4 (some .long)) := kw_g Z (tb_in 543 (by decide +kernel)) (by decide +kernel)
theorem kw544 {s0 : State} (Z : zt s0) : kw s0 (.methodLinkNest "PanelForms" 276 ⟨"PanelForms$Board", "twiceArea", "()J"⟩ "PanelForms") := kw_mn Z (tb_in 544 (by decide +kernel))
theorem kw546 {s0 : State} (Z : zt s0) : kw s0 (.instanceMethod ⟨"PanelForms$Board", "twiceArea", "()J"⟩) := kw_g Z (tb_in 546 (by decide +kernel)) (by decide +kernel)
theorem kw547 {s0 : State} (Z : zt s0) : kw s0 (.code ⟨"PanelForms$Board", "twiceArea", "()J"⟩ prog_2_method_8_code 5 (some .long)) := kw_g Z (tb_in 547 (by decide +kernel)) (by decide +kernel)
theorem kw548 {s0 : State} (Z : zt s0) : kw s0 (.methodLink "PanelForms$Board" 63 ⟨"java/lang/Math", "abs", "(J)J"⟩) := kw_g Z (tb_in 548 (by decide +kernel)) (by decide +kernel)
theorem kw549 {s0 : State} (Z : zt s0) : kw s0 (.static ⟨"java/lang/Math", "abs", "(J)J"⟩) := kw_g Z (tb_in 549 (by decide +kernel)) (by decide +kernel)
theorem kw550 {s0 : State} (Z : zt s0) : kw s0 (.code ⟨"java/lang/Math", "abs", "(J)J"⟩ prog_11_method_61_code 2 (some .long)) := kw_g Z (tb_in 550 (by decide +kernel)) (by decide +kernel)
theorem kw551 {s0 : State} (Z : zt s0) : kw s0 (.methodLink "PanelForms" 177 ⟨"java/lang/Math", "abs", "(J)J"⟩) := kw_g Z (tb_in 551 (by decide +kernel)) (by decide +kernel)
theorem kw552 {s0 : State} (Z : zt s0) : kw s0 (.methodLink "PanelForms" 180 ⟨"PanelForms", "commonDivisor", "(JJ)J"⟩) := kw_g Z (tb_in 552 (by decide +kernel)) (by decide +kernel)
theorem kw553 {s0 : State} (Z : zt s0) : kw s0 (.static ⟨"PanelForms", "commonDivisor", "(JJ)J"⟩) := kw_g Z (tb_in 553 (by decide +kernel)) (by decide +kernel)
theorem kw554 {s0 : State} (Z : zt s0) : kw s0 (.code ⟨"PanelForms", "commonDivisor", "(JJ)J"⟩ prog_1_method_32_code 11 (some .long)) := kw_g Z (tb_in 554 (by decide +kernel)) (by decide +kernel)
theorem kw555 {s0 : State} (Z : zt s0) : kw s0 (.methodLink "PanelFormsLaw" 122 ⟨"PanelFormsLaw", "mill", "(LPanelForms;II[J)I"⟩) := kw_g Z (tb_in 555 (by decide +kernel)) (by decide +kernel)
theorem kw556 {s0 : State} (Z : zt s0) : kw s0 (.static ⟨"PanelFormsLaw", "mill", "(LPanelForms;II[J)I"⟩) := kw_g Z (tb_in 556 (by decide +kernel)) (by decide +kernel)
theorem kw557 {s0 : State} (Z : zt s0) : kw s0 (.codeWith ⟨"PanelFormsLaw", "mill", "(LPanelForms;II[J)I"⟩ method_11_code 5 (some .int) [(0, 9, 12, 13)]) := kw_g Z (tb_in 557 (by decide +kernel)) (by decide +kernel)
theorem kw558 {s0 : State} (Z : zt s0) : kw s0 (.methodLink "PanelFormsLaw" 46 ⟨"PanelForms", "mill", "(II)J"⟩) := kw_g Z (tb_in 558 (by decide +kernel)) (by decide +kernel)
theorem kw559 {s0 : State} (Z : zt s0) : kw s0 (.instanceMethod ⟨"PanelForms", "mill", "(II)J"⟩) := kw_g Z (tb_in 559 (by decide +kernel)) (by decide +kernel)
theorem kw560 {s0 : State} (Z : zt s0) : kw s0 (.selects "PanelForms" ⟨"PanelForms", "mill", "(II)J"⟩ ⟨"PanelForms", "mill", "(II)J"⟩) := kw_g Z (tb_in 560 (by decide +kernel)) (by decide +kernel)
theorem kw561 {s0 : State} (Z : zt s0) : kw s0 (.code ⟨"PanelForms", "mill", "(II)J"⟩ prog_1_method_12_code 7 (some .long)) := kw_g Z (tb_in 561 (by decide +kernel)) (by decide +kernel)
theorem kw563 {s0 : State} (Z : zt s0) : kw s0 (.methodLink "PanelForms" 190 ⟨"PanelForms", "grownEnd", "(JJZ)J"⟩) := kw_g Z (tb_in 563 (by decide +kernel)) (by decide +kernel)
theorem kw565 {s0 : State} (Z : zt s0) : kw s0 (.instanceMethod ⟨"PanelForms", "grownEnd", "(JJZ)J"⟩) := kw_g Z (tb_in 565 (by decide +kernel)) (by decide +kernel)
theorem kw566 {s0 : State} (Z : zt s0) : kw s0 (.code ⟨"PanelForms", "grownEnd", "(JJZ)J"⟩ prog_1_method_30_code 6 (some .long)) := kw_g Z (tb_in 566 (by decide +kernel)) (by decide +kernel)
theorem kw567 {s0 : State} (Z : zt s0) : kw s0 (.methodLink "PanelFormsLaw" 125 ⟨"PanelFormsLaw", "radius", "(LPanelForms;J[J)I"⟩) := kw_g Z (tb_in 567 (by decide +kernel)) (by decide +kernel)
theorem kw568 {s0 : State} (Z : zt s0) : kw s0 (.static ⟨"PanelFormsLaw", "radius", "(LPanelForms;J[J)I"⟩) := kw_g Z (tb_in 568 (by decide +kernel)) (by decide +kernel)
theorem kw569 {s0 : State} (Z : zt s0) : kw s0 (.codeWith ⟨"PanelFormsLaw", "radius", "(LPanelForms;J[J)I"⟩ method_12_code 5 (some .int) [(0, 16, 19, 15)]) := kw_g Z (tb_in 569 (by decide +kernel)) (by decide +kernel)
theorem kw570 {s0 : State} (Z : zt s0) : kw s0 (.methodLink "PanelFormsLaw" 49 ⟨"PanelForms", "radius", "(J)Z"⟩) := kw_g Z (tb_in 570 (by decide +kernel)) (by decide +kernel)
theorem kw571 {s0 : State} (Z : zt s0) : kw s0 (.instanceMethod ⟨"PanelForms", "radius", "(J)Z"⟩) := kw_g Z (tb_in 571 (by decide +kernel)) (by decide +kernel)
theorem kw572 {s0 : State} (Z : zt s0) : kw s0 (.selects "PanelForms" ⟨"PanelForms", "radius", "(J)Z"⟩ ⟨"PanelForms", "radius", "(J)Z"⟩) := kw_g Z (tb_in 572 (by decide +kernel)) (by decide +kernel)
theorem kw573 {s0 : State} (Z : zt s0) : kw s0 (.code ⟨"PanelForms", "radius", "(J)Z"⟩ prog_1_method_13_code 4 (some .boolean)) := kw_g Z (tb_in 573 (by decide +kernel)) (by decide +kernel)
theorem kw574 {s0 : State} (Z : zt s0) : kw s0 (.methodLink "PanelFormsLaw" 128 ⟨"PanelFormsLaw", "bad", "(LPanelForms;IZ[J)I"⟩) := kw_g Z (tb_in 574 (by decide +kernel)) (by decide +kernel)
theorem kw575 {s0 : State} (Z : zt s0) : kw s0 (.static ⟨"PanelFormsLaw", "bad", "(LPanelForms;IZ[J)I"⟩) := kw_g Z (tb_in 575 (by decide +kernel)) (by decide +kernel)
theorem kw576 {s0 : State} (Z : zt s0) : kw s0 (.codeWith ⟨"PanelFormsLaw", "bad", "(LPanelForms;IZ[J)I"⟩ method_13_code 5 (some .int) [(0, 17, 20, 13)]) := kw_g Z (tb_in 576 (by decide +kernel)) (by decide +kernel)
theorem kw577 {s0 : State} (Z : zt s0) : kw s0 (.methodLink "PanelFormsLaw" 52 ⟨"PanelForms", "bad", "(IZ)Z"⟩) := kw_g Z (tb_in 577 (by decide +kernel)) (by decide +kernel)
theorem kw578 {s0 : State} (Z : zt s0) : kw s0 (.instanceMethod ⟨"PanelForms", "bad", "(IZ)Z"⟩) := kw_g Z (tb_in 578 (by decide +kernel)) (by decide +kernel)
theorem kw579 {s0 : State} (Z : zt s0) : kw s0 (.selects "PanelForms" ⟨"PanelForms", "bad", "(IZ)Z"⟩ ⟨"PanelForms", "bad", "(IZ)Z"⟩) := kw_g Z (tb_in 579 (by decide +kernel)) (by decide +kernel)
theorem kw580 {s0 : State} (Z : zt s0) : kw s0 (.code ⟨"PanelForms", "bad", "(IZ)Z"⟩ prog_1_method_14_code 4 (some .boolean)) := kw_g Z (tb_in 580 (by decide +kernel)) (by decide +kernel)
theorem kw581 {s0 : State} (Z : zt s0) : kw s0 (.methodLink "PanelFormsLaw" 132 ⟨"PanelFormsLaw", "rail", "(LPanelForms;IJ[J)I"⟩) := kw_g Z (tb_in 581 (by decide +kernel)) (by decide +kernel)
theorem kw582 {s0 : State} (Z : zt s0) : kw s0 (.static ⟨"PanelFormsLaw", "rail", "(LPanelForms;IJ[J)I"⟩) := kw_g Z (tb_in 582 (by decide +kernel)) (by decide +kernel)
theorem kw583 {s0 : State} (Z : zt s0) : kw s0 (.codeWith ⟨"PanelFormsLaw", "rail", "(LPanelForms;IJ[J)I"⟩ method_14_code 6 (some .int) [(0, 18, 21, 13), (0, 18, 25, 15)]) := kw_g Z (tb_in 583 (by decide +kernel)) (by decide +kernel)
theorem kw584 {s0 : State} (Z : zt s0) : kw s0 (.methodLink "PanelFormsLaw" 56 ⟨"PanelForms", "rail", "(IJ)Z"⟩) := kw_g Z (tb_in 584 (by decide +kernel)) (by decide +kernel)
theorem kw585 {s0 : State} (Z : zt s0) : kw s0 (.instanceMethod ⟨"PanelForms", "rail", "(IJ)Z"⟩) := kw_g Z (tb_in 585 (by decide +kernel)) (by decide +kernel)
theorem kw586 {s0 : State} (Z : zt s0) : kw s0 (.selects "PanelForms" ⟨"PanelForms", "rail", "(IJ)Z"⟩ ⟨"PanelForms", "rail", "(IJ)Z"⟩) := kw_g Z (tb_in 586 (by decide +kernel)) (by decide +kernel)
theorem kw587 {s0 : State} (Z : zt s0) : kw s0 (.code ⟨"PanelForms", "rail", "(IJ)Z"⟩ prog_1_method_15_code 5 (some .boolean)) := kw_g Z (tb_in 587 (by decide +kernel)) (by decide +kernel)
theorem kw588 {s0 : State} (Z : zt s0) : kw s0 (.methodLink "PanelFormsLaw" 144 ⟨"PanelFormsLaw", "wants", "(LPanelForms;II[J)I"⟩) := kw_g Z (tb_in 588 (by decide +kernel)) (by decide +kernel)
theorem kw589 {s0 : State} (Z : zt s0) : kw s0 (.static ⟨"PanelFormsLaw", "wants", "(LPanelForms;II[J)I"⟩) := kw_g Z (tb_in 589 (by decide +kernel)) (by decide +kernel)
theorem kw590 {s0 : State} (Z : zt s0) : kw s0 (.codeWith ⟨"PanelFormsLaw", "wants", "(LPanelForms;II[J)I"⟩ method_15_code 5 (some .int) [(0, 17, 20, 13), (0, 17, 24, 15)]) := kw_g Z (tb_in 590 (by decide +kernel)) (by decide +kernel)
theorem kw591 {s0 : State} (Z : zt s0) : kw s0 (.methodLink "PanelFormsLaw" 60 ⟨"PanelForms", "wants", "(II)Z"⟩) := kw_g Z (tb_in 591 (by decide +kernel)) (by decide +kernel)
theorem kw592 {s0 : State} (Z : zt s0) : kw s0 (.instanceMethod ⟨"PanelForms", "wants", "(II)Z"⟩) := kw_g Z (tb_in 592 (by decide +kernel)) (by decide +kernel)
theorem kw593 {s0 : State} (Z : zt s0) : kw s0 (.selects "PanelForms" ⟨"PanelForms", "wants", "(II)Z"⟩ ⟨"PanelForms", "wants", "(II)Z"⟩) := kw_g Z (tb_in 593 (by decide +kernel)) (by decide +kernel)
theorem kw594 {s0 : State} (Z : zt s0) : kw s0 (.code ⟨"PanelForms", "wants", "(II)Z"⟩ prog_1_method_18_code 4 (some .boolean)) := kw_g Z (tb_in 594 (by decide +kernel)) (by decide +kernel)
theorem kw595 {s0 : State} (Z : zt s0) : kw s0 (.constantLong "PanelForms" 201 (200 : Int64)) := kw_g Z (tb_in 595 (by decide +kernel)) (by decide +kernel)
theorem kw597 {s0 : State} (Z : zt s0) : kw s0 (.classLink "PanelFormsLaw" 73 "PanelFormsModel") := kw_g Z (tb_in 597 (by decide +kernel)) (by decide +kernel)
theorem kw598 {s0 : State} (Z : zt s0) : kw s0 (.instantiable "PanelFormsModel" 26) := kw_g Z (tb_in 598 (by decide +kernel)) (by decide +kernel)
theorem kw599 {s0 : State} (Z : zt s0) : kw s0 (.methodLink "PanelFormsLaw" 75 ⟨"PanelFormsModel", "<init>", "(JJ)V"⟩) := kw_g Z (tb_in 599 (by decide +kernel)) (by decide +kernel)
theorem kw600 {s0 : State} (Z : zt s0) : kw s0 (.instanceMethod ⟨"PanelFormsModel", "<init>", "(JJ)V"⟩) := kw_g Z (tb_in 600 (by decide +kernel)) (by decide +kernel)
theorem kw601 {s0 : State} (Z : zt s0) : kw s0 (.code ⟨"PanelFormsModel", "<init>", "(JJ)V"⟩ prog_6_method_1_code 6 none) := kw_g Z (tb_in 601 (by decide +kernel)) (by decide +kernel)
theorem kw602 {s0 : State} (Z : zt s0) : kw s0 (.methodLink "PanelFormsModel" 1 ⟨"java/lang/Object", "<init>", "()V"⟩) := kw_g Z (tb_in 602 (by decide +kernel)) (by decide +kernel)
theorem kw603 {s0 : State} (Z : zt s0) : kw s0 (.constantLong "PanelFormsModel" 60 (65536 : Int64)) := kw_g Z (tb_in 603 (by decide +kernel)) (by decide +kernel)
theorem kw604 {s0 : State} (Z : zt s0) : kw s0 (.fieldLink "PanelFormsModel" 69 "PanelFormsModel" "thrown" "I") := kw_g Z (tb_in 604 (by decide +kernel)) (by decide +kernel)
theorem kw605 {s0 : State} (Z : zt s0) : kw s0 (.fieldLink "PanelFormsModel" 62 "PanelFormsModel" "width" "J") := kw_g Z (tb_in 605 (by decide +kernel)) (by decide +kernel)
theorem kw606 {s0 : State} (Z : zt s0) : kw s0 (.fieldLink "PanelFormsModel" 66 "PanelFormsModel" "height" "J") := kw_g Z (tb_in 606 (by decide +kernel)) (by decide +kernel)
theorem kw607 {s0 : State} (Z : zt s0) : kw s0 (.fieldLink "PanelFormsModel" 73 "PanelFormsModel" "boards" "I") := kw_g Z (tb_in 607 (by decide +kernel)) (by decide +kernel)
theorem kw608 {s0 : State} (Z : zt s0) : kw s0 (.fieldLink "PanelFormsModel" 7 "PanelFormsModel" "cornerCount" "[I") := kw_g Z (tb_in 608 (by decide +kernel)) (by decide +kernel)
theorem kw609 {s0 : State} (Z : zt s0) : kw s0 (.fieldLink "PanelFormsModel" 13 "PanelFormsModel" "cornerX" "[J") := kw_g Z (tb_in 609 (by decide +kernel)) (by decide +kernel)
theorem kw610 {s0 : State} (Z : zt s0) : kw s0 (.fieldLink "PanelFormsModel" 17 "PanelFormsModel" "cornerY" "[J") := kw_g Z (tb_in 610 (by decide +kernel)) (by decide +kernel)
theorem kw611 {s0 : State} (Z : zt s0) : kw s0 (.fieldLink "PanelFormsModel" 20 "PanelFormsModel" "wanted" "[I") := kw_g Z (tb_in 611 (by decide +kernel)) (by decide +kernel)
theorem kw612 {s0 : State} (Z : zt s0) : kw s0 (.fieldLink "PanelFormsModel" 23 "PanelFormsModel" "partCount" "[I") := kw_g Z (tb_in 612 (by decide +kernel)) (by decide +kernel)
theorem kw613 {s0 : State} (Z : zt s0) : kw s0 (.fieldLink "PanelFormsModel" 26 "PanelFormsModel" "parts" "[J") := kw_g Z (tb_in 613 (by decide +kernel)) (by decide +kernel)
theorem kw614 {s0 : State} (Z : zt s0) : kw s0 (.fieldLink "PanelFormsModel" 29 "PanelFormsModel" "rails" "[J") := kw_g Z (tb_in 614 (by decide +kernel)) (by decide +kernel)
theorem kw615 {s0 : State} (Z : zt s0) : kw s0 (.fieldLink "PanelFormsModel" 84 "PanelFormsModel" "gap" "J") := kw_g Z (tb_in 615 (by decide +kernel)) (by decide +kernel)
theorem kw616 {s0 : State} (Z : zt s0) : kw s0 (.fieldLink "PanelFormsModel" 87 "PanelFormsModel" "tool" "J") := kw_g Z (tb_in 616 (by decide +kernel)) (by decide +kernel)
theorem kw617 {s0 : State} (Z : zt s0) : kw s0 (.fieldLink "PanelFormsModel" 125 "PanelFormsModel" "copies" "I") := kw_g Z (tb_in 617 (by decide +kernel)) (by decide +kernel)
theorem kw618 {s0 : State} (Z : zt s0) : kw s0 (.fieldLink "PanelFormsModel" 32 "PanelFormsModel" "row" "[J") := kw_g Z (tb_in 618 (by decide +kernel)) (by decide +kernel)
theorem kw619 {s0 : State} (Z : zt s0) : kw s0 (.fieldLink "PanelFormsModel" 35 "PanelFormsModel" "isBad" "[Z") := kw_g Z (tb_in 619 (by decide +kernel)) (by decide +kernel)
theorem kw620 {s0 : State} (Z : zt s0) : kw s0 (.fieldLink "PanelFormsModel" 148 "PanelFormsModel" "isProved" "Z") := kw_g Z (tb_in 620 (by decide +kernel)) (by decide +kernel)
theorem kw621 {s0 : State} (Z : zt s0) : kw s0 (.fieldLink "PanelFormsModel" 39 "PanelFormsModel" "boxX" "[J") := kw_g Z (tb_in 621 (by decide +kernel)) (by decide +kernel)
theorem kw622 {s0 : State} (Z : zt s0) : kw s0 (.fieldLink "PanelFormsModel" 42 "PanelFormsModel" "boxY" "[J") := kw_g Z (tb_in 622 (by decide +kernel)) (by decide +kernel)
theorem kw623 {s0 : State} (Z : zt s0) : kw s0 (.fieldLink "PanelFormsModel" 45 "PanelFormsModel" "boxW" "[J") := kw_g Z (tb_in 623 (by decide +kernel)) (by decide +kernel)
theorem kw624 {s0 : State} (Z : zt s0) : kw s0 (.fieldLink "PanelFormsModel" 48 "PanelFormsModel" "boxH" "[J") := kw_g Z (tb_in 624 (by decide +kernel)) (by decide +kernel)
theorem kw625 {s0 : State} (Z : zt s0) : kw s0 (.fieldLink "PanelFormsModel" 51 "PanelFormsModel" "fits" "[I") := kw_g Z (tb_in 625 (by decide +kernel)) (by decide +kernel)
theorem kw626 {s0 : State} (Z : zt s0) : kw s0 (.fieldLink "PanelFormsModel" 54 "PanelFormsModel" "counts" "[I") := kw_g Z (tb_in 626 (by decide +kernel)) (by decide +kernel)
theorem kw627 {s0 : State} (Z : zt s0) : kw s0 (.fieldLink "PanelFormsModel" 57 "PanelFormsModel" "best" "[I") := kw_g Z (tb_in 627 (by decide +kernel)) (by decide +kernel)
theorem kw628 {s0 : State} (Z : zt s0) : kw s0 (.fieldLink "PanelFormsModel" 103 "PanelFormsModel" "bestCopies" "I") := kw_g Z (tb_in 628 (by decide +kernel)) (by decide +kernel)
theorem kw629 {s0 : State} (Z : zt s0) : kw s0 (.fieldLink "PanelFormsModel" 113 "PanelFormsModel" "bestRows" "I") := kw_g Z (tb_in 629 (by decide +kernel)) (by decide +kernel)
theorem kw683 {s0 : State} (Z : zt s0) : kw s0 (.methodLink "PanelFormsLaw" 87 ⟨"PanelFormsModel", "thrown", "()I"⟩) := kw_g Z (tb_in 683 (by decide +kernel)) (by decide +kernel)
theorem kw684 {s0 : State} (Z : zt s0) : kw s0 (.instanceMethod ⟨"PanelFormsModel", "thrown", "()I"⟩) := kw_g Z (tb_in 684 (by decide +kernel)) (by decide +kernel)
theorem kw685 {s0 : State} (Z : zt s0) : kw s0 (.selects "PanelFormsModel" ⟨"PanelFormsModel", "thrown", "()I"⟩ ⟨"PanelFormsModel", "thrown", "()I"⟩) := kw_g Z (tb_in 685 (by decide +kernel)) (by decide +kernel)
theorem kw686 {s0 : State} (Z : zt s0) : kw s0 (.code ⟨"PanelFormsModel", "thrown", "()I"⟩ prog_6_method_2_code 1 (some .int)) := kw_g Z (tb_in 686 (by decide +kernel)) (by decide +kernel)
theorem kw687 {s0 : State} (Z : zt s0) : kw s0 (.methodLink "PanelFormsLaw" 80 ⟨"PanelFormsModel", "board", "()I"⟩) := kw_g Z (tb_in 687 (by decide +kernel)) (by decide +kernel)
theorem kw688 {s0 : State} (Z : zt s0) : kw s0 (.instanceMethod ⟨"PanelFormsModel", "board", "()I"⟩) := kw_g Z (tb_in 688 (by decide +kernel)) (by decide +kernel)
theorem kw689 {s0 : State} (Z : zt s0) : kw s0 (.selects "PanelFormsModel" ⟨"PanelFormsModel", "board", "()I"⟩ ⟨"PanelFormsModel", "board", "()I"⟩) := kw_g Z (tb_in 689 (by decide +kernel)) (by decide +kernel)
theorem kw690 {s0 : State} (Z : zt s0) : kw s0 (.code ⟨"PanelFormsModel", "board", "()I"⟩ prog_6_method_5_code 1 (some .int)) := kw_g Z (tb_in 690 (by decide +kernel)) (by decide +kernel)
theorem kw691 {s0 : State} (Z : zt s0) : kw s0 (.methodLink "PanelFormsLaw" 86 ⟨"PanelFormsModel", "corner", "(IJJ)Z"⟩) := kw_g Z (tb_in 691 (by decide +kernel)) (by decide +kernel)
theorem kw692 {s0 : State} (Z : zt s0) : kw s0 (.instanceMethod ⟨"PanelFormsModel", "corner", "(IJJ)Z"⟩) := kw_g Z (tb_in 692 (by decide +kernel)) (by decide +kernel)
theorem kw693 {s0 : State} (Z : zt s0) : kw s0 (.selects "PanelFormsModel" ⟨"PanelFormsModel", "corner", "(IJJ)Z"⟩ ⟨"PanelFormsModel", "corner", "(IJJ)Z"⟩) := kw_g Z (tb_in 693 (by decide +kernel)) (by decide +kernel)
theorem kw694 {s0 : State} (Z : zt s0) : kw s0 (.code ⟨"PanelFormsModel", "corner", "(IJJ)Z"⟩ prog_6_method_6_code 6 (some .boolean)) := kw_g Z (tb_in 694 (by decide +kernel)) (by decide +kernel)
theorem kw695 {s0 : State} (Z : zt s0) : kw s0 (.methodLink "PanelFormsModel" 76 ⟨"PanelFormsModel", "isBoard", "(I)Z"⟩) := kw_g Z (tb_in 695 (by decide +kernel)) (by decide +kernel)
theorem kw697 {s0 : State} (Z : zt s0) : kw s0 (.instanceMethod ⟨"PanelFormsModel", "isBoard", "(I)Z"⟩) := kw_g Z (tb_in 697 (by decide +kernel)) (by decide +kernel)
theorem kw698 {s0 : State} (Z : zt s0) : kw s0 (.code ⟨"PanelFormsModel", "isBoard", "(I)Z"⟩ prog_6_method_3_code 2 (some .boolean)) := kw_g Z (tb_in 698 (by decide +kernel)) (by decide +kernel)
theorem kw699 {s0 : State} (Z : zt s0) : kw s0 (.methodLink "PanelFormsModel" 80 ⟨"PanelFormsModel", "isSize", "(J)Z"⟩) := kw_g Z (tb_in 699 (by decide +kernel)) (by decide +kernel)
theorem kw700 {s0 : State} (Z : zt s0) : kw s0 (.static ⟨"PanelFormsModel", "isSize", "(J)Z"⟩) := kw_g Z (tb_in 700 (by decide +kernel)) (by decide +kernel)
theorem kw701 {s0 : State} (Z : zt s0) : kw s0 (.code ⟨"PanelFormsModel", "isSize", "(J)Z"⟩ prog_6_method_4_code 2 (some .boolean)) := kw_g Z (tb_in 701 (by decide +kernel)) (by decide +kernel)
theorem kw702 {s0 : State} (Z : zt s0) : kw s0 (.methodLink "PanelFormsLaw" 117 ⟨"PanelFormsModel", "part", "(IJJJ)Z"⟩) := kw_g Z (tb_in 702 (by decide +kernel)) (by decide +kernel)
theorem kw703 {s0 : State} (Z : zt s0) : kw s0 (.instanceMethod ⟨"PanelFormsModel", "part", "(IJJJ)Z"⟩) := kw_g Z (tb_in 703 (by decide +kernel)) (by decide +kernel)
theorem kw704 {s0 : State} (Z : zt s0) : kw s0 (.selects "PanelFormsModel" ⟨"PanelFormsModel", "part", "(IJJJ)Z"⟩ ⟨"PanelFormsModel", "part", "(IJJJ)Z"⟩) := kw_g Z (tb_in 704 (by decide +kernel)) (by decide +kernel)
theorem kw705 {s0 : State} (Z : zt s0) : kw s0 (.code ⟨"PanelFormsModel", "part", "(IJJJ)Z"⟩ prog_6_method_7_code 9 (some .boolean)) := kw_g Z (tb_in 705 (by decide +kernel)) (by decide +kernel)
theorem kw706 {s0 : State} (Z : zt s0) : kw s0 (.methodLink "PanelFormsLaw" 106 ⟨"PanelFormsModel", "gap", "(J)Z"⟩) := kw_g Z (tb_in 706 (by decide +kernel)) (by decide +kernel)
theorem kw707 {s0 : State} (Z : zt s0) : kw s0 (.instanceMethod ⟨"PanelFormsModel", "gap", "(J)Z"⟩) := kw_g Z (tb_in 707 (by decide +kernel)) (by decide +kernel)
theorem kw708 {s0 : State} (Z : zt s0) : kw s0 (.selects "PanelFormsModel" ⟨"PanelFormsModel", "gap", "(J)Z"⟩ ⟨"PanelFormsModel", "gap", "(J)Z"⟩) := kw_g Z (tb_in 708 (by decide +kernel)) (by decide +kernel)
theorem kw709 {s0 : State} (Z : zt s0) : kw s0 (.code ⟨"PanelFormsModel", "gap", "(J)Z"⟩ prog_6_method_8_code 3 (some .boolean)) := kw_g Z (tb_in 709 (by decide +kernel)) (by decide +kernel)
theorem kw710 {s0 : State} (Z : zt s0) : kw s0 (.methodLink "PanelFormsLaw" 127 ⟨"PanelFormsModel", "radius", "(J)Z"⟩) := kw_g Z (tb_in 710 (by decide +kernel)) (by decide +kernel)
theorem kw711 {s0 : State} (Z : zt s0) : kw s0 (.instanceMethod ⟨"PanelFormsModel", "radius", "(J)Z"⟩) := kw_g Z (tb_in 711 (by decide +kernel)) (by decide +kernel)
theorem kw712 {s0 : State} (Z : zt s0) : kw s0 (.selects "PanelFormsModel" ⟨"PanelFormsModel", "radius", "(J)Z"⟩ ⟨"PanelFormsModel", "radius", "(J)Z"⟩) := kw_g Z (tb_in 712 (by decide +kernel)) (by decide +kernel)
theorem kw713 {s0 : State} (Z : zt s0) : kw s0 (.code ⟨"PanelFormsModel", "radius", "(J)Z"⟩ prog_6_method_9_code 3 (some .boolean)) := kw_g Z (tb_in 713 (by decide +kernel)) (by decide +kernel)
theorem kw714 {s0 : State} (Z : zt s0) : kw s0 (.methodLink "PanelFormsLaw" 134 ⟨"PanelFormsModel", "rail", "(IJ)Z"⟩) := kw_g Z (tb_in 714 (by decide +kernel)) (by decide +kernel)
theorem kw715 {s0 : State} (Z : zt s0) : kw s0 (.instanceMethod ⟨"PanelFormsModel", "rail", "(IJ)Z"⟩) := kw_g Z (tb_in 715 (by decide +kernel)) (by decide +kernel)
theorem kw716 {s0 : State} (Z : zt s0) : kw s0 (.selects "PanelFormsModel" ⟨"PanelFormsModel", "rail", "(IJ)Z"⟩ ⟨"PanelFormsModel", "rail", "(IJ)Z"⟩) := kw_g Z (tb_in 716 (by decide +kernel)) (by decide +kernel)
theorem kw717 {s0 : State} (Z : zt s0) : kw s0 (.code ⟨"PanelFormsModel", "rail", "(IJ)Z"⟩ prog_6_method_10_code 4 (some .boolean)) := kw_g Z (tb_in 717 (by decide +kernel)) (by decide +kernel)
theorem kw718 {s0 : State} (Z : zt s0) : kw s0 (.methodLink "PanelFormsLaw" 146 ⟨"PanelFormsModel", "wants", "(II)Z"⟩) := kw_g Z (tb_in 718 (by decide +kernel)) (by decide +kernel)
theorem kw719 {s0 : State} (Z : zt s0) : kw s0 (.instanceMethod ⟨"PanelFormsModel", "wants", "(II)Z"⟩) := kw_g Z (tb_in 719 (by decide +kernel)) (by decide +kernel)
theorem kw720 {s0 : State} (Z : zt s0) : kw s0 (.selects "PanelFormsModel" ⟨"PanelFormsModel", "wants", "(II)Z"⟩ ⟨"PanelFormsModel", "wants", "(II)Z"⟩) := kw_g Z (tb_in 720 (by decide +kernel)) (by decide +kernel)
theorem kw721 {s0 : State} (Z : zt s0) : kw s0 (.code ⟨"PanelFormsModel", "wants", "(II)Z"⟩ prog_6_method_11_code 3 (some .boolean)) := kw_g Z (tb_in 721 (by decide +kernel)) (by decide +kernel)
theorem kw722 {s0 : State} (Z : zt s0) : kw s0 (.methodLink "PanelFormsLaw" 93 ⟨"PanelFormsModel", "run", "(IJ)I"⟩) := kw_g Z (tb_in 722 (by decide +kernel)) (by decide +kernel)
theorem kw723 {s0 : State} (Z : zt s0) : kw s0 (.instanceMethod ⟨"PanelFormsModel", "run", "(IJ)I"⟩) := kw_g Z (tb_in 723 (by decide +kernel)) (by decide +kernel)
theorem kw724 {s0 : State} (Z : zt s0) : kw s0 (.selects "PanelFormsModel" ⟨"PanelFormsModel", "run", "(IJ)I"⟩ ⟨"PanelFormsModel", "run", "(IJ)I"⟩) := kw_g Z (tb_in 724 (by decide +kernel)) (by decide +kernel)
theorem kw725 {s0 : State} (Z : zt s0) : kw s0 (.code ⟨"PanelFormsModel", "run", "(IJ)I"⟩ prog_6_method_25_code 5 (some .int)) := kw_g Z (tb_in 725 (by decide +kernel)) (by decide +kernel)
theorem kw726 {s0 : State} (Z : zt s0) : kw s0 (.constantLong "PanelFormsModel" 132 (8 : Int64)) := kw_g Z (tb_in 726 (by decide +kernel)) (by decide +kernel)
theorem kw727 {s0 : State} (Z : zt s0) : kw s0 (.methodLink "PanelFormsModel" 134 ⟨"PanelFormsModel", "findBox", "(I)V"⟩) := kw_g Z (tb_in 727 (by decide +kernel)) (by decide +kernel)
theorem kw729 {s0 : State} (Z : zt s0) : kw s0 (.instanceMethod ⟨"PanelFormsModel", "findBox", "(I)V"⟩) := kw_g Z (tb_in 729 (by decide +kernel)) (by decide +kernel)
theorem kw730 {s0 : State} (Z : zt s0) : kw s0 (.code ⟨"PanelFormsModel", "findBox", "(I)V"⟩ prog_6_method_12_code 8 none) := kw_g Z (tb_in 730 (by decide +kernel)) (by decide +kernel)
theorem kw731 {s0 : State} (Z : zt s0) : kw s0 (.methodLink "PanelFormsModel" 138 ⟨"PanelFormsModel", "fitsAlong", "(II)I"⟩) := kw_g Z (tb_in 731 (by decide +kernel)) (by decide +kernel)
theorem kw733 {s0 : State} (Z : zt s0) : kw s0 (.instanceMethod ⟨"PanelFormsModel", "fitsAlong", "(II)I"⟩) := kw_g Z (tb_in 733 (by decide +kernel)) (by decide +kernel)
theorem kw734 {s0 : State} (Z : zt s0) : kw s0 (.code ⟨"PanelFormsModel", "fitsAlong", "(II)I"⟩ prog_6_method_15_code 10 (some .int)) := kw_g Z (tb_in 734 (by decide +kernel)) (by decide +kernel)
theorem kw735 {s0 : State} (Z : zt s0) : kw s0 (.methodLink "PanelFormsModel" 90 ⟨"PanelFormsModel", "wideOf", "(I)J"⟩) := kw_g Z (tb_in 735 (by decide +kernel)) (by decide +kernel)
theorem kw737 {s0 : State} (Z : zt s0) : kw s0 (.instanceMethod ⟨"PanelFormsModel", "wideOf", "(I)J"⟩) := kw_g Z (tb_in 737 (by decide +kernel)) (by decide +kernel)
theorem kw738 {s0 : State} (Z : zt s0) : kw s0 (.code ⟨"PanelFormsModel", "wideOf", "(I)J"⟩ prog_6_method_13_code 2 (some .long)) := kw_g Z (tb_in 738 (by decide +kernel)) (by decide +kernel)
theorem kw739 {s0 : State} (Z : zt s0) : kw s0 (.constantLong "PanelFormsModel" 94 (20 : Int64)) := kw_g Z (tb_in 739 (by decide +kernel)) (by decide +kernel)
theorem kw740 {s0 : State} (Z : zt s0) : kw s0 (.methodLink "PanelFormsModel" 142 ⟨"PanelFormsModel", "search", "(I)V"⟩) := kw_g Z (tb_in 740 (by decide +kernel)) (by decide +kernel)
theorem kw742 {s0 : State} (Z : zt s0) : kw s0 (.instanceMethod ⟨"PanelFormsModel", "search", "(I)V"⟩) := kw_g Z (tb_in 742 (by decide +kernel)) (by decide +kernel)
theorem kw743 {s0 : State} (Z : zt s0) : kw s0 (.code ⟨"PanelFormsModel", "search", "(I)V"⟩ prog_6_method_21_code 3 none) := kw_g Z (tb_in 743 (by decide +kernel)) (by decide +kernel)
theorem kw744 {s0 : State} (Z : zt s0) : kw s0 (.methodLink "PanelFormsModel" 119 ⟨"PanelFormsModel", "goOn", "(I)Z"⟩) := kw_g Z (tb_in 744 (by decide +kernel)) (by decide +kernel)
theorem kw746 {s0 : State} (Z : zt s0) : kw s0 (.instanceMethod ⟨"PanelFormsModel", "goOn", "(I)Z"⟩) := kw_g Z (tb_in 746 (by decide +kernel)) (by decide +kernel)
theorem kw747 {s0 : State} (Z : zt s0) : kw s0 (.code ⟨"PanelFormsModel", "goOn", "(I)Z"⟩ prog_6_method_22_code 3 (some .boolean)) := kw_g Z (tb_in 747 (by decide +kernel)) (by decide +kernel)
theorem kw748 {s0 : State} (Z : zt s0) : kw s0 (.methodLink "PanelFormsModel" 110 ⟨"PanelFormsModel", "rowsOf", "()I"⟩) := kw_g Z (tb_in 748 (by decide +kernel)) (by decide +kernel)
theorem kw750 {s0 : State} (Z : zt s0) : kw s0 (.instanceMethod ⟨"PanelFormsModel", "rowsOf", "()I"⟩) := kw_g Z (tb_in 750 (by decide +kernel)) (by decide +kernel)
theorem kw751 {s0 : State} (Z : zt s0) : kw s0 (.code ⟨"PanelFormsModel", "rowsOf", "()I"⟩ prog_6_method_16_code 3 (some .int)) := kw_g Z (tb_in 751 (by decide +kernel)) (by decide +kernel)
theorem kw752 {s0 : State} (Z : zt s0) : kw s0 (.methodLink "PanelFormsModel" 122 ⟨"PanelFormsModel", "weigh", "()V"⟩) := kw_g Z (tb_in 752 (by decide +kernel)) (by decide +kernel)
theorem kw754 {s0 : State} (Z : zt s0) : kw s0 (.instanceMethod ⟨"PanelFormsModel", "weigh", "()V"⟩) := kw_g Z (tb_in 754 (by decide +kernel)) (by decide +kernel)
theorem kw755 {s0 : State} (Z : zt s0) : kw s0 (.code ⟨"PanelFormsModel", "weigh", "()V"⟩ prog_6_method_20_code 4 none) := kw_g Z (tb_in 755 (by decide +kernel)) (by decide +kernel)
theorem kw756 {s0 : State} (Z : zt s0) : kw s0 (.methodLink "PanelFormsModel" 99 ⟨"PanelFormsModel", "copiesOf", "()I"⟩) := kw_g Z (tb_in 756 (by decide +kernel)) (by decide +kernel)
theorem kw758 {s0 : State} (Z : zt s0) : kw s0 (.instanceMethod ⟨"PanelFormsModel", "copiesOf", "()I"⟩) := kw_g Z (tb_in 758 (by decide +kernel)) (by decide +kernel)
theorem kw759 {s0 : State} (Z : zt s0) : kw s0 (.code ⟨"PanelFormsModel", "copiesOf", "()I"⟩ prog_6_method_18_code 8 (some .int)) := kw_g Z (tb_in 759 (by decide +kernel)) (by decide +kernel)
theorem kw760 {s0 : State} (Z : zt s0) : kw s0 (.methodLink "PanelFormsModel" 106 ⟨"PanelFormsModel", "isLow", "()Z"⟩) := kw_g Z (tb_in 760 (by decide +kernel)) (by decide +kernel)
theorem kw762 {s0 : State} (Z : zt s0) : kw s0 (.instanceMethod ⟨"PanelFormsModel", "isLow", "()Z"⟩) := kw_g Z (tb_in 762 (by decide +kernel)) (by decide +kernel)
theorem kw763 {s0 : State} (Z : zt s0) : kw s0 (.code ⟨"PanelFormsModel", "isLow", "()Z"⟩ prog_6_method_17_code 4 (some .boolean)) := kw_g Z (tb_in 763 (by decide +kernel)) (by decide +kernel)
theorem kw764 {s0 : State} (Z : zt s0) : kw s0 (.methodLink "PanelFormsModel" 96 ⟨"PanelFormsModel", "highOf", "(I)J"⟩) := kw_g Z (tb_in 764 (by decide +kernel)) (by decide +kernel)
theorem kw766 {s0 : State} (Z : zt s0) : kw s0 (.instanceMethod ⟨"PanelFormsModel", "highOf", "(I)J"⟩) := kw_g Z (tb_in 766 (by decide +kernel)) (by decide +kernel)
theorem kw767 {s0 : State} (Z : zt s0) : kw s0 (.code ⟨"PanelFormsModel", "highOf", "(I)J"⟩ prog_6_method_14_code 2 (some .long)) := kw_g Z (tb_in 767 (by decide +kernel)) (by decide +kernel)
theorem kw768 {s0 : State} (Z : zt s0) : kw s0 (.methodLink "PanelFormsModel" 116 ⟨"PanelFormsModel", "isAhead", "()Z"⟩) := kw_g Z (tb_in 768 (by decide +kernel)) (by decide +kernel)
theorem kw770 {s0 : State} (Z : zt s0) : kw s0 (.instanceMethod ⟨"PanelFormsModel", "isAhead", "()Z"⟩) := kw_g Z (tb_in 770 (by decide +kernel)) (by decide +kernel)
theorem kw771 {s0 : State} (Z : zt s0) : kw s0 (.code ⟨"PanelFormsModel", "isAhead", "()Z"⟩ prog_6_method_19_code 2 (some .boolean)) := kw_g Z (tb_in 771 (by decide +kernel)) (by decide +kernel)
theorem kw772 {s0 : State} (Z : zt s0) : kw s0 (.methodLink "PanelFormsModel" 145 ⟨"PanelFormsModel", "layOut", "()V"⟩) := kw_g Z (tb_in 772 (by decide +kernel)) (by decide +kernel)
theorem kw774 {s0 : State} (Z : zt s0) : kw s0 (.instanceMethod ⟨"PanelFormsModel", "layOut", "()V"⟩) := kw_g Z (tb_in 774 (by decide +kernel)) (by decide +kernel)
theorem kw775 {s0 : State} (Z : zt s0) : kw s0 (.code ⟨"PanelFormsModel", "layOut", "()V"⟩ prog_6_method_23_code 10 none) := kw_g Z (tb_in 775 (by decide +kernel)) (by decide +kernel)
theorem kw776 {s0 : State} (Z : zt s0) : kw s0 (.methodLink "PanelFormsModel" 128 ⟨"PanelFormsModel", "put", "(IJJIJJ)V"⟩) := kw_g Z (tb_in 776 (by decide +kernel)) (by decide +kernel)
theorem kw778 {s0 : State} (Z : zt s0) : kw s0 (.instanceMethod ⟨"PanelFormsModel", "put", "(IJJIJJ)V"⟩) := kw_g Z (tb_in 778 (by decide +kernel)) (by decide +kernel)
theorem kw779 {s0 : State} (Z : zt s0) : kw s0 (.code ⟨"PanelFormsModel", "put", "(IJJIJJ)V"⟩ prog_6_method_24_code 12 none) := kw_g Z (tb_in 779 (by decide +kernel)) (by decide +kernel)
theorem kw780 {s0 : State} (Z : zt s0) : kw s0 (.methodLink "PanelFormsLaw" 102 ⟨"PanelFormsModel", "proved", "()Z"⟩) := kw_g Z (tb_in 780 (by decide +kernel)) (by decide +kernel)
theorem kw781 {s0 : State} (Z : zt s0) : kw s0 (.instanceMethod ⟨"PanelFormsModel", "proved", "()Z"⟩) := kw_g Z (tb_in 781 (by decide +kernel)) (by decide +kernel)
theorem kw782 {s0 : State} (Z : zt s0) : kw s0 (.selects "PanelFormsModel" ⟨"PanelFormsModel", "proved", "()Z"⟩ ⟨"PanelFormsModel", "proved", "()Z"⟩) := kw_g Z (tb_in 782 (by decide +kernel)) (by decide +kernel)
theorem kw783 {s0 : State} (Z : zt s0) : kw s0 (.code ⟨"PanelFormsModel", "proved", "()Z"⟩ prog_6_method_26_code 1 (some .boolean)) := kw_g Z (tb_in 783 (by decide +kernel)) (by decide +kernel)
theorem kw784 {s0 : State} (Z : zt s0) : kw s0 (.methodLink "PanelFormsLaw" 97 ⟨"PanelFormsModel", "at", "(II)J"⟩) := kw_g Z (tb_in 784 (by decide +kernel)) (by decide +kernel)
theorem kw785 {s0 : State} (Z : zt s0) : kw s0 (.instanceMethod ⟨"PanelFormsModel", "at", "(II)J"⟩) := kw_g Z (tb_in 785 (by decide +kernel)) (by decide +kernel)
theorem kw786 {s0 : State} (Z : zt s0) : kw s0 (.selects "PanelFormsModel" ⟨"PanelFormsModel", "at", "(II)J"⟩ ⟨"PanelFormsModel", "at", "(II)J"⟩) := kw_g Z (tb_in 786 (by decide +kernel)) (by decide +kernel)
theorem kw787 {s0 : State} (Z : zt s0) : kw s0 (.code ⟨"PanelFormsModel", "at", "(II)J"⟩ prog_6_method_28_code 3 (some .long)) := kw_g Z (tb_in 787 (by decide +kernel)) (by decide +kernel)
theorem kw788 {s0 : State} (Z : zt s0) : kw s0 (.methodLink "PanelFormsModel" 152 ⟨"PanelFormsModel", "isCopy", "(I)Z"⟩) := kw_g Z (tb_in 788 (by decide +kernel)) (by decide +kernel)
theorem kw790 {s0 : State} (Z : zt s0) : kw s0 (.instanceMethod ⟨"PanelFormsModel", "isCopy", "(I)Z"⟩) := kw_g Z (tb_in 790 (by decide +kernel)) (by decide +kernel)
theorem kw791 {s0 : State} (Z : zt s0) : kw s0 (.code ⟨"PanelFormsModel", "isCopy", "(I)Z"⟩ prog_6_method_27_code 2 (some .boolean)) := kw_g Z (tb_in 791 (by decide +kernel)) (by decide +kernel)
theorem kw792 {s0 : State} (Z : zt s0) : kw s0 (.methodLink "PanelFormsLaw" 110 ⟨"PanelFormsModel", "tab", "(III)J"⟩) := kw_g Z (tb_in 792 (by decide +kernel)) (by decide +kernel)
theorem kw793 {s0 : State} (Z : zt s0) : kw s0 (.instanceMethod ⟨"PanelFormsModel", "tab", "(III)J"⟩) := kw_g Z (tb_in 793 (by decide +kernel)) (by decide +kernel)
theorem kw794 {s0 : State} (Z : zt s0) : kw s0 (.selects "PanelFormsModel" ⟨"PanelFormsModel", "tab", "(III)J"⟩ ⟨"PanelFormsModel", "tab", "(III)J"⟩) := kw_g Z (tb_in 794 (by decide +kernel)) (by decide +kernel)
theorem kw795 {s0 : State} (Z : zt s0) : kw s0 (.code ⟨"PanelFormsModel", "tab", "(III)J"⟩ prog_6_method_29_code 20 (some .long)) := kw_g Z (tb_in 795 (by decide +kernel)) (by decide +kernel)
theorem kw796 {s0 : State} (Z : zt s0) : kw s0 (.constantLong "PanelFormsModel" 155 (2 : Int64)) := kw_g Z (tb_in 796 (by decide +kernel)) (by decide +kernel)
theorem kw797 {s0 : State} (Z : zt s0) : kw s0 (.methodLink "PanelFormsLaw" 113 ⟨"PanelFormsModel", "score", "(II)J"⟩) := kw_g Z (tb_in 797 (by decide +kernel)) (by decide +kernel)
theorem kw798 {s0 : State} (Z : zt s0) : kw s0 (.instanceMethod ⟨"PanelFormsModel", "score", "(II)J"⟩) := kw_g Z (tb_in 798 (by decide +kernel)) (by decide +kernel)
theorem kw799 {s0 : State} (Z : zt s0) : kw s0 (.selects "PanelFormsModel" ⟨"PanelFormsModel", "score", "(II)J"⟩ ⟨"PanelFormsModel", "score", "(II)J"⟩) := kw_g Z (tb_in 799 (by decide +kernel)) (by decide +kernel)
theorem kw800 {s0 : State} (Z : zt s0) : kw s0 (.code ⟨"PanelFormsModel", "score", "(II)J"⟩ prog_6_method_31_code 9 (some .long)) := kw_g Z (tb_in 800 (by decide +kernel)) (by decide +kernel)
theorem kw801 {s0 : State} (Z : zt s0) : kw s0 (.constantLong "PanelFormsModel" 157 (-1 : Int64)) := kw_g Z (tb_in 801 (by decide +kernel)) (by decide +kernel)
theorem kw802 {s0 : State} (Z : zt s0) : kw s0 (.methodLink "PanelFormsModel" 159 ⟨"PanelFormsModel", "nextScore", "(J)J"⟩) := kw_g Z (tb_in 802 (by decide +kernel)) (by decide +kernel)
theorem kw804 {s0 : State} (Z : zt s0) : kw s0 (.instanceMethod ⟨"PanelFormsModel", "nextScore", "(J)J"⟩) := kw_g Z (tb_in 804 (by decide +kernel)) (by decide +kernel)
theorem kw805 {s0 : State} (Z : zt s0) : kw s0 (.code ⟨"PanelFormsModel", "nextScore", "(J)J"⟩ prog_6_method_30_code 8 (some .long)) := kw_g Z (tb_in 805 (by decide +kernel)) (by decide +kernel)
theorem kw806 {s0 : State} (Z : zt s0) : kw s0 (.methodLink "PanelFormsLaw" 121 ⟨"PanelFormsModel", "waste", "(I)J"⟩) := kw_g Z (tb_in 806 (by decide +kernel)) (by decide +kernel)
theorem kw807 {s0 : State} (Z : zt s0) : kw s0 (.instanceMethod ⟨"PanelFormsModel", "waste", "(I)J"⟩) := kw_g Z (tb_in 807 (by decide +kernel)) (by decide +kernel)
theorem kw808 {s0 : State} (Z : zt s0) : kw s0 (.selects "PanelFormsModel" ⟨"PanelFormsModel", "waste", "(I)J"⟩ ⟨"PanelFormsModel", "waste", "(I)J"⟩) := kw_g Z (tb_in 808 (by decide +kernel)) (by decide +kernel)
theorem kw809 {s0 : State} (Z : zt s0) : kw s0 (.code ⟨"PanelFormsModel", "waste", "(I)J"⟩ prog_6_method_33_code 12 (some .long)) := kw_g Z (tb_in 809 (by decide +kernel)) (by decide +kernel)
theorem kw810 {s0 : State} (Z : zt s0) : kw s0 (.methodLink "PanelFormsModel" 163 ⟨"PanelFormsModel", "areaOf", "(I)J"⟩) := kw_g Z (tb_in 810 (by decide +kernel)) (by decide +kernel)
theorem kw812 {s0 : State} (Z : zt s0) : kw s0 (.instanceMethod ⟨"PanelFormsModel", "areaOf", "(I)J"⟩) := kw_g Z (tb_in 812 (by decide +kernel)) (by decide +kernel)
theorem kw813 {s0 : State} (Z : zt s0) : kw s0 (.code ⟨"PanelFormsModel", "areaOf", "(I)J"⟩ prog_6_method_32_code 8 (some .long)) := kw_g Z (tb_in 813 (by decide +kernel)) (by decide +kernel)
theorem kw814 {s0 : State} (Z : zt s0) : kw s0 (.methodLink "PanelFormsLaw" 143 ⟨"PanelFormsModel", "order", "(I)I"⟩) := kw_g Z (tb_in 814 (by decide +kernel)) (by decide +kernel)
theorem kw815 {s0 : State} (Z : zt s0) : kw s0 (.instanceMethod ⟨"PanelFormsModel", "order", "(I)I"⟩) := kw_g Z (tb_in 815 (by decide +kernel)) (by decide +kernel)
theorem kw816 {s0 : State} (Z : zt s0) : kw s0 (.selects "PanelFormsModel" ⟨"PanelFormsModel", "order", "(I)I"⟩ ⟨"PanelFormsModel", "order", "(I)I"⟩) := kw_g Z (tb_in 816 (by decide +kernel)) (by decide +kernel)
theorem kw817 {s0 : State} (Z : zt s0) : kw s0 (.code ⟨"PanelFormsModel", "order", "(I)I"⟩ prog_6_method_35_code 2 (some .int)) := kw_g Z (tb_in 817 (by decide +kernel)) (by decide +kernel)
theorem kw818 {s0 : State} (Z : zt s0) : kw s0 (.methodLink "PanelFormsModel" 166 ⟨"PanelFormsModel", "orderOf", "(I)I"⟩) := kw_g Z (tb_in 818 (by decide +kernel)) (by decide +kernel)
theorem kw820 {s0 : State} (Z : zt s0) : kw s0 (.instanceMethod ⟨"PanelFormsModel", "orderOf", "(I)I"⟩) := kw_g Z (tb_in 820 (by decide +kernel)) (by decide +kernel)
theorem kw821 {s0 : State} (Z : zt s0) : kw s0 (.code ⟨"PanelFormsModel", "orderOf", "(I)I"⟩ prog_6_method_34_code 5 (some .int)) := kw_g Z (tb_in 821 (by decide +kernel)) (by decide +kernel)
theorem kw822 {s0 : State} (Z : zt s0) : kw s0 (.methodLink "PanelFormsLaw" 124 ⟨"PanelFormsModel", "mill", "(II)J"⟩) := kw_g Z (tb_in 822 (by decide +kernel)) (by decide +kernel)
theorem kw823 {s0 : State} (Z : zt s0) : kw s0 (.instanceMethod ⟨"PanelFormsModel", "mill", "(II)J"⟩) := kw_g Z (tb_in 823 (by decide +kernel)) (by decide +kernel)
theorem kw824 {s0 : State} (Z : zt s0) : kw s0 (.selects "PanelFormsModel" ⟨"PanelFormsModel", "mill", "(II)J"⟩ ⟨"PanelFormsModel", "mill", "(II)J"⟩) := kw_g Z (tb_in 824 (by decide +kernel)) (by decide +kernel)
theorem kw825 {s0 : State} (Z : zt s0) : kw s0 (.code ⟨"PanelFormsModel", "mill", "(II)J"⟩ prog_6_method_36_code 6 (some .long)) := kw_g Z (tb_in 825 (by decide +kernel)) (by decide +kernel)
theorem kw826 {s0 : State} (Z : zt s0) : kw s0 (.methodLink "PanelFormsLaw" 131 ⟨"PanelFormsModel", "bad", "(IZ)Z"⟩) := kw_g Z (tb_in 826 (by decide +kernel)) (by decide +kernel)
theorem kw827 {s0 : State} (Z : zt s0) : kw s0 (.instanceMethod ⟨"PanelFormsModel", "bad", "(IZ)Z"⟩) := kw_g Z (tb_in 827 (by decide +kernel)) (by decide +kernel)
theorem kw828 {s0 : State} (Z : zt s0) : kw s0 (.selects "PanelFormsModel" ⟨"PanelFormsModel", "bad", "(IZ)Z"⟩ ⟨"PanelFormsModel", "bad", "(IZ)Z"⟩) := kw_g Z (tb_in 828 (by decide +kernel)) (by decide +kernel)
theorem kw829 {s0 : State} (Z : zt s0) : kw s0 (.code ⟨"PanelFormsModel", "bad", "(IZ)Z"⟩ prog_6_method_37_code 3 (some .boolean)) := kw_g Z (tb_in 829 (by decide +kernel)) (by decide +kernel)
theorem kw830 {s0 : State} (Z : zt s0) : kw s0 (.methodLink "PanelFormsLaw" 138 ⟨"PanelFormsModel", "overlaps", "()Z"⟩) := kw_g Z (tb_in 830 (by decide +kernel)) (by decide +kernel)
theorem kw831 {s0 : State} (Z : zt s0) : kw s0 (.instanceMethod ⟨"PanelFormsModel", "overlaps", "()Z"⟩) := kw_g Z (tb_in 831 (by decide +kernel)) (by decide +kernel)
theorem kw832 {s0 : State} (Z : zt s0) : kw s0 (.selects "PanelFormsModel" ⟨"PanelFormsModel", "overlaps", "()Z"⟩ ⟨"PanelFormsModel", "overlaps", "()Z"⟩) := kw_g Z (tb_in 832 (by decide +kernel)) (by decide +kernel)
theorem kw833 {s0 : State} (Z : zt s0) : kw s0 (.code ⟨"PanelFormsModel", "overlaps", "()Z"⟩ prog_6_method_38_code 1 (some .boolean)) := kw_g Z (tb_in 833 (by decide +kernel)) (by decide +kernel)
theorem kw834 {s0 : State} (Z : zt s0) : kw s0 (.constantLong "PanelFormsLaw" 81 (4294967295 : Int64)) := kw_g Z (tb_in 834 (by decide +kernel)) (by decide +kernel)
theorem kp_Y_copyInOrder {s0 : State} (Z : zt s0) : kw s0 (.selects "PanelForms$Layout" ⟨"PanelForms$Layout", "copyInOrder", "(I)I"⟩ ⟨"PanelForms$Layout", "copyInOrder", "(I)I"⟩) := kw_g Z (pv_in (q := (⟨"PanelForms$Layout", "copyInOrder", "(I)I"⟩, 17)) 0 (by decide +kernel)) (by decide +kernel)
theorem kp_Y_countOf {s0 : State} (Z : zt s0) : kw s0 (.selects "PanelForms$Layout" ⟨"PanelForms$Layout", "countOf", "(Z)I"⟩ ⟨"PanelForms$Layout", "countOf", "(Z)I"⟩) := kw_g Z (pv_in (q := (⟨"PanelForms$Layout", "countOf", "(Z)I"⟩, 17)) 1 (by decide +kernel)) (by decide +kernel)
theorem kp_Y_nthOf {s0 : State} (Z : zt s0) : kw s0 (.selects "PanelForms$Layout" ⟨"PanelForms$Layout", "nthOf", "(ZI)I"⟩ ⟨"PanelForms$Layout", "nthOf", "(ZI)I"⟩) := kw_g Z (pv_in (q := (⟨"PanelForms$Layout", "nthOf", "(ZI)I"⟩, 17)) 2 (by decide +kernel)) (by decide +kernel)
theorem kp_P_checkBoard {s0 : State} (Z : zt s0) : kw s0 (.selects "PanelForms" ⟨"PanelForms", "checkBoard", "(I)V"⟩ ⟨"PanelForms", "checkBoard", "(I)V"⟩) := kw_g Z (pv_in (q := (⟨"PanelForms", "checkBoard", "(I)V"⟩, 10)) 3 (by decide +kernel)) (by decide +kernel)
theorem kp_B_addCorner {s0 : State} (Z : zt s0) : kw s0 (.selects "PanelForms$Board" ⟨"PanelForms$Board", "addCorner", "(JJ)Z"⟩ ⟨"PanelForms$Board", "addCorner", "(JJ)Z"⟩) := kw_g Z (pv_in (q := (⟨"PanelForms$Board", "addCorner", "(JJ)Z"⟩, 12)) 5 (by decide +kernel)) (by decide +kernel)
theorem kp_P_prepareSearch {s0 : State} (Z : zt s0) : kw s0 (.selects "PanelForms" ⟨"PanelForms", "prepareSearch", "(I)V"⟩ ⟨"PanelForms", "prepareSearch", "(I)V"⟩) := kw_g Z (pv_in (q := (⟨"PanelForms", "prepareSearch", "(I)V"⟩, 10)) 6 (by decide +kernel)) (by decide +kernel)
theorem kp_S_begin {s0 : State} (Z : zt s0) : kw s0 (.selects "PanelForms$Search" ⟨"PanelForms$Search", "begin", "(J)V"⟩ ⟨"PanelForms$Search", "begin", "(J)V"⟩) := kw_g Z (pv_in (q := (⟨"PanelForms$Search", "begin", "(J)V"⟩, 12)) 7 (by decide +kernel)) (by decide +kernel)
theorem kp_B_hasArea {s0 : State} (Z : zt s0) : kw s0 (.selects "PanelForms$Board" ⟨"PanelForms$Board", "hasArea", "()Z"⟩ ⟨"PanelForms$Board", "hasArea", "()Z"⟩) := kw_g Z (pv_in (q := (⟨"PanelForms$Board", "hasArea", "()Z"⟩, 12)) 8 (by decide +kernel)) (by decide +kernel)
theorem kp_B_wide {s0 : State} (Z : zt s0) : kw s0 (.selects "PanelForms$Board" ⟨"PanelForms$Board", "wide", "(I)J"⟩ ⟨"PanelForms$Board", "wide", "(I)J"⟩) := kw_g Z (pv_in (q := (⟨"PanelForms$Board", "wide", "(I)J"⟩, 12)) 9 (by decide +kernel)) (by decide +kernel)
theorem kp_B_high {s0 : State} (Z : zt s0) : kw s0 (.selects "PanelForms$Board" ⟨"PanelForms$Board", "high", "(I)J"⟩ ⟨"PanelForms$Board", "high", "(I)J"⟩) := kw_g Z (pv_in (q := (⟨"PanelForms$Board", "high", "(I)J"⟩, 12)) 10 (by decide +kernel)) (by decide +kernel)
theorem kp_S_allowKind {s0 : State} (Z : zt s0) : kw s0 (.selects "PanelForms$Search" ⟨"PanelForms$Search", "allowKind", "(IIJ)V"⟩ ⟨"PanelForms$Search", "allowKind", "(IIJ)V"⟩) := kw_g Z (pv_in (q := (⟨"PanelForms$Search", "allowKind", "(IIJ)V"⟩, 12)) 11 (by decide +kernel)) (by decide +kernel)
theorem kp_S_look {s0 : State} (Z : zt s0) : kw s0 (.selects "PanelForms$Search" ⟨"PanelForms$Search", "look", "(IJ)V"⟩ ⟨"PanelForms$Search", "look", "(IJ)V"⟩) := kw_g Z (pv_in (q := (⟨"PanelForms$Search", "look", "(IJ)V"⟩, 12)) 12 (by decide +kernel)) (by decide +kernel)
theorem kp_S_tryRow {s0 : State} (Z : zt s0) : kw s0 (.selects "PanelForms$Search" ⟨"PanelForms$Search", "tryRow", "(IIIJ)V"⟩ ⟨"PanelForms$Search", "tryRow", "(IIIJ)V"⟩) := kw_g Z (pv_in (q := (⟨"PanelForms$Search", "tryRow", "(IIIJ)V"⟩, 12)) 13 (by decide +kernel)) (by decide +kernel)
theorem kp_S_keepIfBetter {s0 : State} (Z : zt s0) : kw s0 (.selects "PanelForms$Search" ⟨"PanelForms$Search", "keepIfBetter", "(II)V"⟩ ⟨"PanelForms$Search", "keepIfBetter", "(II)V"⟩) := kw_g Z (pv_in (q := (⟨"PanelForms$Search", "keepIfBetter", "(II)V"⟩, 12)) 14 (by decide +kernel)) (by decide +kernel)
theorem kp_P_layOutBest {s0 : State} (Z : zt s0) : kw s0 (.selects "PanelForms" ⟨"PanelForms", "layOutBest", "()V"⟩ ⟨"PanelForms", "layOutBest", "()V"⟩) := kw_g Z (pv_in (q := (⟨"PanelForms", "layOutBest", "()V"⟩, 10)) 15 (by decide +kernel)) (by decide +kernel)
theorem kp_Y_begin {s0 : State} (Z : zt s0) : kw s0 (.selects "PanelForms$Layout" ⟨"PanelForms$Layout", "begin", "(JJJ)V"⟩ ⟨"PanelForms$Layout", "begin", "(JJJ)V"⟩) := kw_g Z (pv_in (q := (⟨"PanelForms$Layout", "begin", "(JJJ)V"⟩, 17)) 16 (by decide +kernel)) (by decide +kernel)
theorem kp_Y_addRow {s0 : State} (Z : zt s0) : kw s0 (.selects "PanelForms$Layout" ⟨"PanelForms$Layout", "addRow", "(IIJJI)V"⟩ ⟨"PanelForms$Layout", "addRow", "(IIJJI)V"⟩) := kw_g Z (pv_in (q := (⟨"PanelForms$Layout", "addRow", "(IIJJI)V"⟩, 17)) 17 (by decide +kernel)) (by decide +kernel)
theorem kp_Y_addCopies {s0 : State} (Z : zt s0) : kw s0 (.selects "PanelForms$Layout" ⟨"PanelForms$Layout", "addCopies", "(IJ)V"⟩ ⟨"PanelForms$Layout", "addCopies", "(IJ)V"⟩) := kw_g Z (pv_in (q := (⟨"PanelForms$Layout", "addCopies", "(IJ)V"⟩, 17)) 18 (by decide +kernel)) (by decide +kernel)
theorem kp_Y_addScore {s0 : State} (Z : zt s0) : kw s0 (.selects "PanelForms$Layout" ⟨"PanelForms$Layout", "addScore", "(JI)V"⟩ ⟨"PanelForms$Layout", "addScore", "(JI)V"⟩) := kw_g Z (pv_in (q := (⟨"PanelForms$Layout", "addScore", "(JI)V"⟩, 17)) 19 (by decide +kernel)) (by decide +kernel)
theorem kp_S_findsMore {s0 : State} (Z : zt s0) : kw s0 (.selects "PanelForms$Search" ⟨"PanelForms$Search", "findsMore", "(IJ)Z"⟩ ⟨"PanelForms$Search", "findsMore", "(IJ)Z"⟩) := kw_g Z (pv_in (q := (⟨"PanelForms$Search", "findsMore", "(IJ)Z"⟩, 12)) 20 (by decide +kernel)) (by decide +kernel)
theorem kp_P_checkCopy {s0 : State} (Z : zt s0) : kw s0 (.selects "PanelForms" ⟨"PanelForms", "checkCopy", "(I)V"⟩ ⟨"PanelForms", "checkCopy", "(I)V"⟩) := kw_g Z (pv_in (q := (⟨"PanelForms", "checkCopy", "(I)V"⟩, 10)) 21 (by decide +kernel)) (by decide +kernel)
theorem kp_B_hasPartNear {s0 : State} (Z : zt s0) : kw s0 (.selects "PanelForms$Board" ⟨"PanelForms$Board", "hasPartNear", "(JJI)Z"⟩ ⟨"PanelForms$Board", "hasPartNear", "(JJI)Z"⟩) := kw_g Z (pv_in (q := (⟨"PanelForms$Board", "hasPartNear", "(JJI)Z"⟩, 12)) 22 (by decide +kernel)) (by decide +kernel)
theorem kp_B_addPart {s0 : State} (Z : zt s0) : kw s0 (.selects "PanelForms$Board" ⟨"PanelForms$Board", "addPart", "(JJJ)Z"⟩ ⟨"PanelForms$Board", "addPart", "(JJJ)Z"⟩) := kw_g Z (pv_in (q := (⟨"PanelForms$Board", "addPart", "(JJJ)Z"⟩, 12)) 23 (by decide +kernel)) (by decide +kernel)
theorem kp_P_twiceAreaOfCopies {s0 : State} (Z : zt s0) : kw s0 (.selects "PanelForms" ⟨"PanelForms", "twiceAreaOfCopies", "()J"⟩ ⟨"PanelForms", "twiceAreaOfCopies", "()J"⟩) := kw_g Z (pv_in (q := (⟨"PanelForms", "twiceAreaOfCopies", "()J"⟩, 10)) 24 (by decide +kernel)) (by decide +kernel)
theorem kp_B_twiceArea {s0 : State} (Z : zt s0) : kw s0 (.selects "PanelForms$Board" ⟨"PanelForms$Board", "twiceArea", "()J"⟩ ⟨"PanelForms$Board", "twiceArea", "()J"⟩) := kw_g Z (pv_in (q := (⟨"PanelForms$Board", "twiceArea", "()J"⟩, 12)) 25 (by decide +kernel)) (by decide +kernel)
theorem kp_P_grownEnd {s0 : State} (Z : zt s0) : kw s0 (.selects "PanelForms" ⟨"PanelForms", "grownEnd", "(JJZ)J"⟩ ⟨"PanelForms", "grownEnd", "(JJZ)J"⟩) := kw_g Z (pv_in (q := (⟨"PanelForms", "grownEnd", "(JJZ)J"⟩, 10)) 26 (by decide +kernel)) (by decide +kernel)
theorem kp_M_isBoard {s0 : State} (Z : zt s0) : kw s0 (.selects "PanelFormsModel" ⟨"PanelFormsModel", "isBoard", "(I)Z"⟩ ⟨"PanelFormsModel", "isBoard", "(I)Z"⟩) := kw_g Z (pv_in (q := (⟨"PanelFormsModel", "isBoard", "(I)Z"⟩, 26)) 27 (by decide +kernel)) (by decide +kernel)
theorem kp_M_findBox {s0 : State} (Z : zt s0) : kw s0 (.selects "PanelFormsModel" ⟨"PanelFormsModel", "findBox", "(I)V"⟩ ⟨"PanelFormsModel", "findBox", "(I)V"⟩) := kw_g Z (pv_in (q := (⟨"PanelFormsModel", "findBox", "(I)V"⟩, 26)) 28 (by decide +kernel)) (by decide +kernel)
theorem kp_M_fitsAlong {s0 : State} (Z : zt s0) : kw s0 (.selects "PanelFormsModel" ⟨"PanelFormsModel", "fitsAlong", "(II)I"⟩ ⟨"PanelFormsModel", "fitsAlong", "(II)I"⟩) := kw_g Z (pv_in (q := (⟨"PanelFormsModel", "fitsAlong", "(II)I"⟩, 26)) 29 (by decide +kernel)) (by decide +kernel)
theorem kp_M_wideOf {s0 : State} (Z : zt s0) : kw s0 (.selects "PanelFormsModel" ⟨"PanelFormsModel", "wideOf", "(I)J"⟩ ⟨"PanelFormsModel", "wideOf", "(I)J"⟩) := kw_g Z (pv_in (q := (⟨"PanelFormsModel", "wideOf", "(I)J"⟩, 26)) 30 (by decide +kernel)) (by decide +kernel)
theorem kp_M_search {s0 : State} (Z : zt s0) : kw s0 (.selects "PanelFormsModel" ⟨"PanelFormsModel", "search", "(I)V"⟩ ⟨"PanelFormsModel", "search", "(I)V"⟩) := kw_g Z (pv_in (q := (⟨"PanelFormsModel", "search", "(I)V"⟩, 26)) 31 (by decide +kernel)) (by decide +kernel)
theorem kp_M_goOn {s0 : State} (Z : zt s0) : kw s0 (.selects "PanelFormsModel" ⟨"PanelFormsModel", "goOn", "(I)Z"⟩ ⟨"PanelFormsModel", "goOn", "(I)Z"⟩) := kw_g Z (pv_in (q := (⟨"PanelFormsModel", "goOn", "(I)Z"⟩, 26)) 32 (by decide +kernel)) (by decide +kernel)
theorem kp_M_rowsOf {s0 : State} (Z : zt s0) : kw s0 (.selects "PanelFormsModel" ⟨"PanelFormsModel", "rowsOf", "()I"⟩ ⟨"PanelFormsModel", "rowsOf", "()I"⟩) := kw_g Z (pv_in (q := (⟨"PanelFormsModel", "rowsOf", "()I"⟩, 26)) 33 (by decide +kernel)) (by decide +kernel)
theorem kp_M_weigh {s0 : State} (Z : zt s0) : kw s0 (.selects "PanelFormsModel" ⟨"PanelFormsModel", "weigh", "()V"⟩ ⟨"PanelFormsModel", "weigh", "()V"⟩) := kw_g Z (pv_in (q := (⟨"PanelFormsModel", "weigh", "()V"⟩, 26)) 34 (by decide +kernel)) (by decide +kernel)
theorem kp_M_copiesOf {s0 : State} (Z : zt s0) : kw s0 (.selects "PanelFormsModel" ⟨"PanelFormsModel", "copiesOf", "()I"⟩ ⟨"PanelFormsModel", "copiesOf", "()I"⟩) := kw_g Z (pv_in (q := (⟨"PanelFormsModel", "copiesOf", "()I"⟩, 26)) 35 (by decide +kernel)) (by decide +kernel)
theorem kp_M_isLow {s0 : State} (Z : zt s0) : kw s0 (.selects "PanelFormsModel" ⟨"PanelFormsModel", "isLow", "()Z"⟩ ⟨"PanelFormsModel", "isLow", "()Z"⟩) := kw_g Z (pv_in (q := (⟨"PanelFormsModel", "isLow", "()Z"⟩, 26)) 36 (by decide +kernel)) (by decide +kernel)
theorem kp_M_highOf {s0 : State} (Z : zt s0) : kw s0 (.selects "PanelFormsModel" ⟨"PanelFormsModel", "highOf", "(I)J"⟩ ⟨"PanelFormsModel", "highOf", "(I)J"⟩) := kw_g Z (pv_in (q := (⟨"PanelFormsModel", "highOf", "(I)J"⟩, 26)) 37 (by decide +kernel)) (by decide +kernel)
theorem kp_M_isAhead {s0 : State} (Z : zt s0) : kw s0 (.selects "PanelFormsModel" ⟨"PanelFormsModel", "isAhead", "()Z"⟩ ⟨"PanelFormsModel", "isAhead", "()Z"⟩) := kw_g Z (pv_in (q := (⟨"PanelFormsModel", "isAhead", "()Z"⟩, 26)) 38 (by decide +kernel)) (by decide +kernel)
theorem kp_M_layOut {s0 : State} (Z : zt s0) : kw s0 (.selects "PanelFormsModel" ⟨"PanelFormsModel", "layOut", "()V"⟩ ⟨"PanelFormsModel", "layOut", "()V"⟩) := kw_g Z (pv_in (q := (⟨"PanelFormsModel", "layOut", "()V"⟩, 26)) 39 (by decide +kernel)) (by decide +kernel)
theorem kp_M_put {s0 : State} (Z : zt s0) : kw s0 (.selects "PanelFormsModel" ⟨"PanelFormsModel", "put", "(IJJIJJ)V"⟩ ⟨"PanelFormsModel", "put", "(IJJIJJ)V"⟩) := kw_g Z (pv_in (q := (⟨"PanelFormsModel", "put", "(IJJIJJ)V"⟩, 26)) 40 (by decide +kernel)) (by decide +kernel)
theorem kp_M_isCopy {s0 : State} (Z : zt s0) : kw s0 (.selects "PanelFormsModel" ⟨"PanelFormsModel", "isCopy", "(I)Z"⟩ ⟨"PanelFormsModel", "isCopy", "(I)Z"⟩) := kw_g Z (pv_in (q := (⟨"PanelFormsModel", "isCopy", "(I)Z"⟩, 26)) 41 (by decide +kernel)) (by decide +kernel)
theorem kp_M_nextScore {s0 : State} (Z : zt s0) : kw s0 (.selects "PanelFormsModel" ⟨"PanelFormsModel", "nextScore", "(J)J"⟩ ⟨"PanelFormsModel", "nextScore", "(J)J"⟩) := kw_g Z (pv_in (q := (⟨"PanelFormsModel", "nextScore", "(J)J"⟩, 26)) 42 (by decide +kernel)) (by decide +kernel)
theorem kp_M_areaOf {s0 : State} (Z : zt s0) : kw s0 (.selects "PanelFormsModel" ⟨"PanelFormsModel", "areaOf", "(I)J"⟩ ⟨"PanelFormsModel", "areaOf", "(I)J"⟩) := kw_g Z (pv_in (q := (⟨"PanelFormsModel", "areaOf", "(I)J"⟩, 26)) 43 (by decide +kernel)) (by decide +kernel)
theorem kp_M_orderOf {s0 : State} (Z : zt s0) : kw s0 (.selects "PanelFormsModel" ⟨"PanelFormsModel", "orderOf", "(I)I"⟩ ⟨"PanelFormsModel", "orderOf", "(I)I"⟩) := kw_g Z (pv_in (q := (⟨"PanelFormsModel", "orderOf", "(I)I"⟩, 26)) 44 (by decide +kernel)) (by decide +kernel)
end
section
/-! methods that may throw: contracts, calls, ends, catches -/
def th_End (first t : State) (L : List Loc) (k n : Nat) : Prop := first.WarmedH t.vm ∧ first.sameButNew ({ t with vm := first.vm } : State) L k n
def th_Met (l : Launch) (y : MethodName) (ws : List Cond) (rm : Room) (Pc : Array Value → State → Prop) (Qc : Array Value → State → Outcome → State → Prop) (mc ms : Nat) (free : Addr → Prop) : Prop :=
  MetFree l y (headSpec ws rm) Pc (fun _ _ _ _ _ => True) (fun a st o t => Qc a st o t ∧ ∃ L, th_End st t L mc ms ∧ ∀ q ∈ L, free q.base)
def th_MQ (below : List Frame) (Qc : Array Value → State → Outcome → State → Prop) (a : Array Value) (s : State) (mc ms : Nat) (free : Addr → Prop) : State → Prop := fun t =>
  ∃ o, t.status = .running ∧ Ended t below o ∧ Qc a s o t ∧ ∃ L, th_End s t L mc ms ∧ ∀ q ∈ L, free q.base
theorem th_ofMQ {below : List Frame} {Qc : Array Value → State → Outcome → State → Prop} {a : Array Value} {s : State} {mc ms : Nat} {free : Addr → Prop} (t : State) (h : MQ below Qc a s mc ms free t) : th_MQ below Qc a s mc ms free t := by
  obtain ⟨o, h1, h2, h3, L, hF, hL⟩ := h
  exact ⟨o, h1, h2, h3, L, ⟨hF.2.1, hF.2.2⟩, hL⟩
theorem th_ofMet {l : Launch} {y : MethodName} {ws : List Cond} {rm : Room} {Pc : Array Value → State → Prop} {Qc : Array Value → State → Outcome → State → Prop} {mc ms : Nat} {free : Addr → Prop} (h : Met l y ws rm Pc Qc mc ms free) : th_Met l y ws rm Pc Qc mc ms free := by
  intro p e h1 h2 h3 s m args below h4 h5 h6 h7
  obtain ⟨n, o, a1, a2, a3, a4, L, hF, hL⟩ := h p e h1 h2 h3 s m args below h4 h5 h6 h7
  exact ⟨n, o, a1, a2, a3, a4, L, ⟨hF.2.1, hF.2.2⟩, hL⟩
section TH1
variable {p : Program} {l : Launch} {e : Env} {R : Room} {s : State} {m : MethodId} {args : Array Value} {below : List Frame} {meth : Method} {c : Code} {H : Heap} {locs : List Loc} {cells slots : Nat} {Q : State → Prop}
theorem th_mono {Q' : State → Prop} {g : JFrame} (h : ∀ t, Q t → Q' t) (k : W p l e R s m args below meth c H locs cells slots Q g) : W p l e R s m args below meth c H locs cells slots Q' g := fun T hT X => by
  obtain ⟨t, a, b⟩ := k T hT X
  exact ⟨t, a, h t b⟩
theorem th_Met.ofW {y : MethodName} {ws ws' : List Cond} {rm : Room} {Pc : Array Value → State → Prop} {Qc : Array Value → State → Outcome → State → Prop} {mc ms : Nat} {free : Addr → Prop} {cc : ByteArray} {maxL : Nat} {ret : Option FieldType}
    (hy : plainName y.cls = true) (hw : ws = Cond.code y cc maxL ret :: ws')
    (body : ∀ p e s m args below meth c s₁, BodyLoose p l y (headSpec ws rm) cc maxL ret e s m args below meth c s₁ → c.maxLocals = maxL → c.exceptionTable.isEmpty = true → Pc args s →
      W p l e (headSpec ws rm).room s m args below meth c s.heap [] 0 0 (th_MQ below Qc args s mc ms free) (entryFrame m args maxL)) : th_Met l y ws rm Pc Qc mc ms free := by
  refine MetFree.of_bodyS (code := cc) (maxLocals := maxL) (ret := ret) hy ?_ ?_
  · intro args s m h hn
    obtain ⟨meth, c, h1, h2, h3, h4, h5, h6, -, -⟩ := Cond.code_spec hn (atoms_spec (ws := ws) h _ (by rw [hw]; exact List.mem_cons_self))
    exact ⟨meth, c, h1, h2, h3, h4, h5, h6⟩
  · intro p e s m args below meth c s₁ B hml hP _
    have hh0 : s₁.heap = s.heap := by rw [B.state]; rfl
    have hem : c.exceptionTable.isEmpty = true := B.noHandlers (atoms_spec (ws := ws) B.pre _ (by rw [hw]; exact List.mem_cons_self))
    obtain ⟨t, a1, o, b1, b2, b3⟩ := body p e s m args below meth c s₁ B hml hem hP s₁ hh0 (Stand.of_body B)
    exact ⟨t, o, a1, b1, b2, ⟨b3.1, b3.2⟩⟩
/-- the walk at the note of a throw of x over the frame g -/
def th_W (p : Program) (l : Launch) (e : Env) (R : Room) (s : State) (m : MethodId) (args : Array Value) (below : List Frame) (meth : Method) (c : Code) (H : Heap) (locs : List Loc) (cells slots : Nat) (Q : State → Prop) (g : JFrame) (x : Nat) : Prop :=
  ∀ T : State, T.heap = H → Stand p l e R s m args below meth c T locs cells slots → ∃ t, Steps p.tables e below ((T.setTop g).pushFrame (.throwing x)) t ∧ Q t
theorem th_leave {Qc : Array Value → State → Outcome → State → Prop} {free : Addr → Prop} {pc : Nat} {ls : Array Slot} {st : List Value} {x : Nat} (hem : c.exceptionTable.isEmpty = true) (hlocks : meth.locks = false)
    (hq : ∀ t : State, t.heap = H → s.WarmedH t.vm → Qc args s (.threw x) t) (hf : ∀ q ∈ locs, free q.base) :
    th_W p l e R s m args below meth c H locs cells slots (th_MQ below Qc args s cells slots free) (F0 m pc ls st) x := by
  intro T hT X
  have hout : ∀ y ∈ c.exceptionTable.toList, covers y (F0 m pc ls st).pc = false := by
    intro y hy
    rw [Array.isEmpty_iff.mp hem] at hy
    simp at hy
  obtain ⟨h1, h2, h3, h4, h5⟩ := X.leaveThrown x (g := F0 m pc ls st) rfl rfl rfl hout (hlocks := hlocks)
  exact ⟨_, h1, .threw x, h2, h3, hq _ hT h4, locs, ⟨h4, h5⟩, hf⟩
/-- the call of a method that may throw -/
def th_Run (p : Program) (l : Launch) (e : Env) (R : Room) (s : State) (m : MethodId) (args : Array Value) (below : List Frame) (meth : Method) (c : Code) (H : Heap) (locs : List Loc) (cells slots mc ms : Nat) (g : JFrame) (rest : List Value) (Qa : State → Outcome → State → Prop) (free : Addr → Prop) : Prop :=
  ∀ T : State, T.heap = H → Stand p l e R s m args below meth c T locs cells slots → ∃ (o : Outcome) (st₀ t T' : State) (L : List Loc), st₀.heap = H ∧ Stand p l e R s m args below meth c T' (locs ++ L) (cells + mc) (slots + ms) ∧ (∀ q ∈ L, free q.base) ∧ T'.heap = t.heap ∧ T'.vm = t.vm ∧ s.vm.Alike st₀.vm ∧ Qa st₀ o t ∧
    (∀ v, o = .returned v → ∀ tg, Steps p.tables e below (T'.setTop { g with pc := g.pc + 3, stack := v.toList ++ rest }) tg → Steps p.tables e below (T.setTop g) tg) ∧
    (∀ x, o = .threw x → ∀ tg, Steps p.tables e below ((T'.setTop { g with stack := rest }).pushFrame (.throwing x)) tg → Steps p.tables e below (T.setTop g) tg)
/-- a callee's free contract at a point of the walk: it comes back, or its throw lies over the caller's frame -/
theorem th_at {T : State} {y : MethodName} {ws : List Cond} {rm : Room} {Pc : Array Value → State → Prop} {Qc : Array Value → State → Outcome → State → Prop} {mc ms maxL : Nat} {free : Addr → Prop} (hM : th_Met l y ws rm Pc Qc mc ms free)
    (X : Stand p l e R s m args below meth c T locs cells slots) {g : JFrame} (hg : g.method = m) (hsize : g.locals.size = c.maxLocals) {ig : Instr} {len : Nat} (hdg : decode c.code g.pc = .ok (ig, len)) {mk : MethodId} {a : Array Value}
    (hframes : rm.frames + 1 ≤ R.frames) (hlocals : 2 * g.monitorRoom + (g.stack.map fun v => v.category).sum + (maxL + 11) + rm.locals ≤ R.locals) (hc : cells + rm.cells ≤ R.cells) (hs : slots + rm.slots ≤ R.slots)
    (hws : ∀ w ∈ ws, w.before a T = true) {methY : Method} {cY : Code} (hmY : T.vm.method? mk = some methY) (hcY : methY.code = some cY) (hlY : cY.maxLocals = maxL) (hn : T.methodNamed? y = some mk) (hini : (Cond.initialized y.cls).before a T = true) (hP : Pc a (T.calling g mk a)) :
    ∃ (o : Outcome) (t T' : State) (L : List Loc), Stand p l e R s m args below meth c T' (locs ++ L) (cells + mc) (slots + ms) ∧ (∀ q ∈ L, free q.base) ∧ T'.heap = t.heap ∧ T'.vm = t.vm ∧ Qc a (T.calling g mk a) o t ∧
      (∀ v, o = .returned v → Steps p.tables e below (doInvoke e (T.setTop g) [] mk a).1 (T'.setTop { g with pc := g.pc + len, stack := v.toList ++ g.stack })) ∧
      (∀ x, o = .threw x → Steps p.tables e below (doInvoke e (T.setTop g) [] mk a).1 ((T'.setTop g).pushFrame (.throwing x))) := by
  obtain ⟨kY, hkY, -⟩ := className_of_methodNamed hn
  have hinitY : kY.init = .initialized := Cond.initialized_spec (findClass_of_methodNamed hn) hkY hini
  have h : At T g.method c below := by rw [hg]; exact X.here
  have happ : (headSpec ws rm).appliesLoose y e.platform (T.calling g mk a) = true :=
    Spec.appliesLoose_calling (g := g) h hdg hn hkY hinitY
      (X.room_calling (g := g) (R' := rm) hsize hmY hcY hframes (by rw [hlY]; omega) hc hs) (atoms_intro fun w hw => hws w hw)
  obtain ⟨mid, hmid⟩ := h.above
  have hfr : (T.setTop g).frames = (.java g :: mid) ++ below := by rw [State.frames_setTop' g h.top, hmid]; rfl
  obtain ⟨o, s₂, hsteps, -, hend, hq, L, ⟨hW₂, hsame⟩, hL⟩ := Steps.callFree hM p X.admits X.cas X.clock (acts := []) hfr happ hP trivial
  rw [State.frames_setTop' g h.top, X.tail] at hend
  cases o with
  | returned v =>
    obtain ⟨T', X', -, -, ht⟩ := X.outOf hg hdg hend hW₂ hsame
    refine ⟨.returned v, s₂, T', L, X', hL, ?_, ?_, hq, ?_, ?_⟩
    · rw [ht]; exact (State.heap_setTop _ _).symm
    · rw [ht]; exact (State.vm_setTop _ _).symm
    · intro v' hv'; cases hv'; rw [← ht]; exact hsteps
    · intro x hx; cases hx
  | threw x =>
    obtain ⟨T', X', -, -, ht⟩ := X.outOfThrown hg hend hW₂ hsame
    refine ⟨.threw x, s₂, T', L, X', hL, ?_, ?_, hq, ?_, ?_⟩
    · rw [ht]; exact (Stand.throwing_heap T' g x).symm
    · rw [ht]; exact (Stand.throwing_vm T' g x).symm
    · intro v' hv'; cases hv'
    · intro x' hx'; cases hx'; rw [← ht]; exact hsteps
end TH1
section TH2
variable {p : Program} {l : Launch} {e : Env} {R : Room} {s : State} {m : MethodId} {args : Array Value} {below : List Frame} {meth : Method} {c : Code} {H : Heap} {locs : List Loc} {cells slots : Nat} {Q : State → Prop}
variable {y : MethodName} {bytes cc : ByteArray} {maxL nL mc ms n index : Nat} {ret : Option FieldType} {ws : List Cond} {rm : Room} {Pc : Array Value → State → Prop} {Qc : Array Value → State → Outcome → State → Prop} {free : Addr → Prop} {Ts : List Cond} {own C : String} {b : Addr} {As rest : List Value} {g : JFrame}
theorem th_runV (S : CallFix p m c cc nL s args Ts own) (hM : th_Met l y ws rm Pc Qc mc ms free) (cw : CallW R s args own C index y bytes maxL ret ws rm mc ms n) (hp : PreV s H C b Pc As)
    (hg : g.method = m) (hn : As.length = n) (hsize : g.locals.size = nL) (hstack : g.stack = As.reverse ++ .ref b :: rest) (hW : 2 * g.monitorRoom + (rest.map fun v => v.category).sum ≤ 8) (hdg : decode cc g.pc = .ok (.invokevirtual index, 3)) (hf : cells + mc ≤ R.cells ∧ slots + ms ≤ R.slots) :
    th_Run p l e R s m args below meth c H locs cells slots mc ms g rest (Qc (Value.ref b :: As).toArray) (free) := by
  obtain ⟨⟨hrc, hrs, hfr, hlo, hws, -, hcode, hini, hy, hlen, hl⟩, hin, hse⟩ := cw
  obtain ⟨hx, hb, hml, ho, -⟩ := S
  obtain ⟨hbl, ⟨cellB, hcB, hoB, hclB⟩, hPc⟩ := hp
  intro T hT X
  obtain ⟨mk, methM, hnamed, hmethM, hstM, habM⟩ := Cond.instanceMethod_spec hin
  obtain ⟨methM', cM, hmethM', hcM, -, hlM, -, -, -, hsigM⟩ := Cond.code_spec hnamed hcode
  cases hmethM.symm.trans hmethM'
  obtain ⟨c2, r2, m2, q1, q2, q3, q4, kP, hkP, hkPi⟩ := Cond.selects_spec hse
  cases hclB.symm.trans q1
  cases (State.methodFound?_of_named hnamed hy).symm.trans q2
  cases hnamed.symm.trans q3
  have hselP : selectMethod e.platform s.vm cellB.cls mk = .method mk := by rw [Launch.admits_selectMethod X.admits]; exact q4
  obtain ⟨vm₁, X₁, hstep₁⟩ := X.invokevirtual hx ho hl hnamed hmethM hstM hkP hkPi hy (a := b) (cell := cellB) (by rw [hT]; exact hcB)
    (fun z h => by rw [h] at hoB; cases hoB) hselP hmethM habM hkP hkPi (g := g) hg (argsL := As) (rest := rest) (hn.trans (hlen _ hsigM)) hstack (by rw [hb]; exact hdg)
  obtain ⟨o, t, T', L, X', hL, e1, e2, hq, w1, w2⟩ := th_at (maxL := maxL) hM X₁ (g := { g with stack := rest }) hg (hsize.trans hml.symm) (ig := .invokevirtual index) (len := 3) (by rw [hb]; exact hdg) (mk := mk) (a := (Value.ref b :: As).toArray) hfr
    (by show 2 * g.monitorRoom + (rest.map fun v => v.category).sum + (maxL + 11) + rm.locals ≤ R.locals; omega) (by rw [hrc]; exact hf.1) (by rw [hrs]; exact hf.2) (fun w hw => hws w hw _ _ X₁.warmed) (methY := methM) (by rw [X₁.warmed.alike.method?]; exact hmethM) hcM hlM (X₁.named hnamed)
    (word_at X₁.warmed (Or.inl (by first | rfl | simp [Cond.onTables, Cond.keeps, Cond.steady])) hini) (hbl _ _ _ _ (hPc (T.setVm vm₁) hT X₁.warmed))
  exact ⟨o, (T.setVm vm₁).calling { g with stack := rest } mk (Value.ref b :: As).toArray, t, T', L, hT, X', hL, e1, e2, X₁.warmed.alike, hq, fun v hv tg h => hstep₁ _ fun acts => by rw [doInvoke_state]; exact (w1 v hv).trans h, fun x hv tg h => hstep₁ _ fun acts => by rw [doInvoke_state]; exact (w2 x hv).trans h⟩
theorem th_runS (S : CallFix p m c cc nL s args Ts own) (hM : th_Met l y ws rm Pc Qc mc ms free) (cw : CallB R s args own index y bytes maxL ret ws rm mc ms n ∧ (Cond.static y).before args s = true) (hp : PreS s H Pc As)
    (hg : g.method = m) (hn : As.length = n) (hsize : g.locals.size = nL) (hstack : g.stack = As.reverse ++ rest) (hW : 2 * g.monitorRoom + (rest.map fun v => v.category).sum ≤ 8) (hdg : decode cc g.pc = .ok (.invokestatic index, 3)) (hf : cells + mc ≤ R.cells ∧ slots + ms ≤ R.slots) :
    th_Run p l e R s m args below meth c H locs cells slots mc ms g rest (Qc As.toArray) (free) := by
  obtain ⟨⟨hrc, hrs, hfr, hlo, hws, -, hcode, hini, hy, hlen, hl⟩, hstt⟩ := cw
  obtain ⟨hx, hb, hml, ho, -⟩ := S
  obtain ⟨hbl, hPc⟩ := hp
  intro T hT X
  obtain ⟨mk, hnamed⟩ := Cond.code_named hcode
  obtain ⟨methM, cM, hmethM, hcM, -, hlM, -, -, -, hsigM⟩ := Cond.code_spec hnamed hcode
  have hstatic : methM.isStatic = true := Cond.static_spec hnamed hmethM hstt
  obtain ⟨kP, hkP, -⟩ := className_of_methodNamed hnamed
  have hinitP : kP.init = .initialized := Cond.initialized_spec (findClass_of_methodNamed hnamed) hkP hini
  obtain ⟨vm₁, X₁, hstep₁⟩ := X.invokestatic hx ho hl hnamed hmethM hstatic hkP hinitP hy (g := g) hg (argsL := As) (rest := rest) (hn.trans (hlen _ hsigM)) hstack (by rw [hb]; exact hdg)
  obtain ⟨o, t, T', L, X', hL, e1, e2, hq, w1, w2⟩ := th_at (maxL := maxL) hM X₁ (g := { g with stack := rest }) hg (hsize.trans hml.symm) (ig := .invokestatic index) (len := 3) (by rw [hb]; exact hdg) (mk := mk) (a := As.toArray) hfr
    (by show 2 * g.monitorRoom + (rest.map fun v => v.category).sum + (maxL + 11) + rm.locals ≤ R.locals; omega) (by rw [hrc]; exact hf.1) (by rw [hrs]; exact hf.2) (fun w hw => hws w hw _ _ X₁.warmed) (methY := methM) (by rw [X₁.warmed.alike.method?]; exact hmethM) hcM hlM (X₁.named hnamed)
    (word_at X₁.warmed (Or.inl (by first | rfl | simp [Cond.onTables, Cond.keeps, Cond.steady])) hini) (hbl _ _ _ _ (hPc (T.setVm vm₁) hT X₁.warmed))
  exact ⟨o, (T.setVm vm₁).calling { g with stack := rest } mk As.toArray, t, T', L, hT, X', hL, e1, e2, X₁.warmed.alike, hq, fun v hv tg h => hstep₁ _ fun acts => by rw [doInvoke_state]; exact (w1 v hv).trans h, fun x hv tg h => hstep₁ _ fun acts => by rw [doInvoke_state]; exact (w2 x hv).trans h⟩
/-- the same, of a static method that has an exception table of its own -/
theorem th_runSW {hh : List (Nat × Nat × Nat × Nat)} (S : CallFix p m c cc nL s args Ts own) (hM : th_Met l y ws rm Pc Qc mc ms free) (hR : rm.cells = mc ∧ rm.slots = ms ∧ rm.frames + 1 ≤ R.frames ∧ 8 + (maxL + 11) + rm.locals ≤ R.locals) (hws : ∀ w ∈ ws, ∀ (a' : Array Value) (U : State), s.WarmedH U.vm → w.before a' U = true)
    (hcode : (Cond.codeWith y bytes maxL ret hh).before args s = true) (hini : (Cond.initialized y.cls).before args s = true) (hy : y.cls ≠ "java/lang/invoke/MethodHandle" ∧ y.cls ≠ "java/lang/invoke/VarHandle") (hlen : ∀ sig, parseMethodDescriptor y.desc = some sig → n = sig.parameters.length) (hl : (Cond.methodLink own index y).before args s = true) (hstt : (Cond.static y).before args s = true) (hp : PreS s H Pc As)
    (hg : g.method = m) (hn : As.length = n) (hsize : g.locals.size = nL) (hstack : g.stack = As.reverse ++ rest) (hW : 2 * g.monitorRoom + (rest.map fun v => v.category).sum ≤ 8) (hdg : decode cc g.pc = .ok (.invokestatic index, 3)) (hf : cells + mc ≤ R.cells ∧ slots + ms ≤ R.slots) :
    th_Run p l e R s m args below meth c H locs cells slots mc ms g rest (Qc As.toArray) (free) := by
  obtain ⟨hrc, hrs, hfr, hlo⟩ := hR
  obtain ⟨hx, hb, hml, ho, -⟩ := S
  obtain ⟨hbl, hPc⟩ := hp
  intro T hT X
  obtain ⟨mk, methM, cM, hnamed, hmethM, hcM, -, hlM, -, -, -, hsigM⟩ := Cond.codeWith_spec hcode
  have hstatic : methM.isStatic = true := Cond.static_spec hnamed hmethM hstt
  obtain ⟨kP, hkP, -⟩ := className_of_methodNamed hnamed
  have hinitP : kP.init = .initialized := Cond.initialized_spec (findClass_of_methodNamed hnamed) hkP hini
  obtain ⟨vm₁, X₁, hstep₁⟩ := X.invokestatic hx ho hl hnamed hmethM hstatic hkP hinitP hy (g := g) hg (argsL := As) (rest := rest) (hn.trans (hlen _ hsigM)) hstack (by rw [hb]; exact hdg)
  obtain ⟨o, t, T', L, X', hL, e1, e2, hq, w1, w2⟩ := th_at (maxL := maxL) hM X₁ (g := { g with stack := rest }) hg (hsize.trans hml.symm) (ig := .invokestatic index) (len := 3) (by rw [hb]; exact hdg) (mk := mk) (a := As.toArray) hfr
    (by show 2 * g.monitorRoom + (rest.map fun v => v.category).sum + (maxL + 11) + rm.locals ≤ R.locals; omega) (by rw [hrc]; exact hf.1) (by rw [hrs]; exact hf.2) (fun w hw => hws w hw _ _ X₁.warmed) (methY := methM) (by rw [X₁.warmed.alike.method?]; exact hmethM) hcM hlM (X₁.named hnamed)
    (word_at X₁.warmed (Or.inl (by first | rfl | simp [Cond.onTables, Cond.keeps, Cond.steady])) hini) (hbl _ _ _ _ (hPc (T.setVm vm₁) hT X₁.warmed))
  exact ⟨o, (T.setVm vm₁).calling { g with stack := rest } mk As.toArray, t, T', L, hT, X', hL, e1, e2, X₁.warmed.alike, hq, fun v hv tg h => hstep₁ _ fun acts => by rw [doInvoke_state]; exact (w1 v hv).trans h, fun x hv tg h => hstep₁ _ fun acts => by rw [doInvoke_state]; exact (w2 x hv).trans h⟩
end TH2
/-- a new object of the class C was thrown; nothing that was there has changed -/
def th_X (C : String) (x : Nat) (H : Heap) (t : State) : Prop := H.size ≤ x ∧ H.size ≤ t.heap.size ∧ (∃ cell : Cell, t.heap[x]? = some cell ∧ cell.vm.isStatics = false ∧ t.vm.findClass C = some cell.cls) ∧ ∀ q : Nat, q < H.size → t.heap[q]? = H[q]?
def th_Qv {S : Type} (post : S → Prop) (B : S → State → Prop) (A : Nat → Prop) (Th : Nat → Heap → State → Prop) : Array Value → State → Outcome → State → Prop := fun _ st oc t => ((∃ u : S, oc = .returned none ∧ post u ∧ B u t) ∨ ∃ x : Nat, oc = .threw x ∧ Th x st.heap t) ∧ va_F A st t
def th_Qi {S : Type} (post : Int32 → S → Prop) (B : S → State → Prop) (A : Nat → Prop) (Th : Nat → Heap → State → Prop) : Array Value → State → Outcome → State → Prop := fun _ st oc t => ((∃ (r : Int32) (u : S), oc = .returned (some (.int r)) ∧ post r u ∧ B u t) ∨ ∃ x : Nat, oc = .threw x ∧ Th x st.heap t) ∧ va_F A st t
def th_Ql {S : Type} (post : Int64 → S → Prop) (B : S → State → Prop) (A : Nat → Prop) (Th : Nat → Heap → State → Prop) : Array Value → State → Outcome → State → Prop := fun _ st oc t => ((∃ (r : Int64) (u : S), oc = .returned (some (.long r)) ∧ post r u ∧ B u t) ∨ ∃ x : Nat, oc = .threw x ∧ Th x st.heap t) ∧ va_F A st t
section TH3
variable {p : Program} {l : Launch} {e : Env} {R : Room} {s : State} {m : MethodId} {args : Array Value} {below : List Frame} {meth : Method} {c : Code} {H : Heap} {locs : List Loc} {cells slots : Nat} {Q : State → Prop}
variable {pc : Nat} {ls : Array Slot} {rest st0 : List Value} {a : Array Value} {A0 A1 : Nat → Prop} {H0 : Heap} {mc ms : Nat} {free : Addr → Prop} {Th : Nat → Heap → State → Prop}
theorem th_S {t : State} {L : List Loc} (hS : va_S A0 H0 H locs) (hA : ∀ q, q < H.size → A1 q → A0 q) (hf : ∀ q, free q → A0 q) (hL : ∀ q ∈ L, free q.base) (hz : H.size ≤ t.heap.size) (hk : ∀ q : Nat, q < H.size → ¬ A1 q → t.heap[q]? = H[q]?) : va_S A0 H0 t.heap (locs ++ L) :=
  ⟨Nat.le_trans hS.1 hz, fun q h1 h2 => by rw [hk q (Nat.lt_of_lt_of_le h1 hS.1) (fun z => h2 (hA q (Nat.lt_of_lt_of_le h1 hS.1) z))]; exact hS.2.1 q h1 h2, fun q hq => by
      rcases List.mem_append.mp hq with h | h
      · exact hS.2.2 q h
      · exact hf _ (hL q h)⟩
theorem th_callv {S : Type} {post : S → Prop} {B : S → State → Prop} (hr : th_Run p l e R s m args below meth c H locs cells slots mc ms (F0 m pc ls st0) rest (th_Qv post B A1 Th a) free) (hS : va_S A0 H0 H locs) (hA : ∀ q, q < H.size → A1 q → A0 q) (hf : ∀ q, free q → A0 q)
    (kk : ∀ (u : S) (t : State) (H1 : Heap) (locs1 : List Loc), t.heap = H1 → s.vm.Alike t.vm → post u → B u t → H.size ≤ H1.size → (∀ q : Nat, q < H.size → ¬ A1 q → H1[q]? = H[q]?) → va_S A0 H0 H1 locs1 → W p l e R s m args below meth c H1 locs1 (cells + mc) (slots + ms) Q (F0 m (pc + 3) ls rest))
    (kt : ∀ (x : Nat) (t : State) (locs1 : List Loc), s.vm.Alike t.vm → Th x H t → va_S A0 H0 t.heap locs1 → th_W p l e R s m args below meth c t.heap locs1 (cells + mc) (slots + ms) Q (F0 m pc ls rest) x) : W p l e R s m args below meth c H locs cells slots Q (F0 m pc ls st0) := by
  intro T hT X
  obtain ⟨o, st₀, t, T', L, h0, X', hL, e1, e2, -, ⟨hq, hz, hk⟩, w1, w2⟩ := hr T hT X
  rw [h0] at hz hk
  have hal : s.vm.Alike t.vm := by rw [← e2]; exact X'.warmed.alike
  have hS1 := th_S hS hA hf hL hz hk
  rcases hq with ⟨u, rfl, hp, hb⟩ | ⟨x, rfl, hth⟩
  · obtain ⟨t2, a1, b1⟩ := kk u t t.heap (locs ++ L) rfl hal hp hb hz hk hS1 T' e1 X'
    exact ⟨t2, w1 none rfl t2 a1, b1⟩
  · rw [h0] at hth
    obtain ⟨t2, a1, b1⟩ := kt x t (locs ++ L) hal hth hS1 T' e1 X'
    exact ⟨t2, w2 x rfl t2 a1, b1⟩
theorem th_calli {S : Type} {post : Int32 → S → Prop} {B : S → State → Prop} (hr : th_Run p l e R s m args below meth c H locs cells slots mc ms (F0 m pc ls st0) rest (th_Qi post B A1 Th a) free) (hS : va_S A0 H0 H locs) (hA : ∀ q, q < H.size → A1 q → A0 q) (hf : ∀ q, free q → A0 q)
    (kk : ∀ (r : Int32) (u : S) (t : State) (H1 : Heap) (locs1 : List Loc), t.heap = H1 → s.vm.Alike t.vm → post r u → B u t → H.size ≤ H1.size → (∀ q : Nat, q < H.size → ¬ A1 q → H1[q]? = H[q]?) → va_S A0 H0 H1 locs1 → W p l e R s m args below meth c H1 locs1 (cells + mc) (slots + ms) Q (F0 m (pc + 3) ls (.int r :: rest)))
    (kt : ∀ (x : Nat) (t : State) (locs1 : List Loc), s.vm.Alike t.vm → Th x H t → va_S A0 H0 t.heap locs1 → th_W p l e R s m args below meth c t.heap locs1 (cells + mc) (slots + ms) Q (F0 m pc ls rest) x) : W p l e R s m args below meth c H locs cells slots Q (F0 m pc ls st0) := by
  intro T hT X
  obtain ⟨o, st₀, t, T', L, h0, X', hL, e1, e2, -, ⟨hq, hz, hk⟩, w1, w2⟩ := hr T hT X
  rw [h0] at hz hk
  have hal : s.vm.Alike t.vm := by rw [← e2]; exact X'.warmed.alike
  have hS1 := th_S hS hA hf hL hz hk
  rcases hq with ⟨r, u, rfl, hp, hb⟩ | ⟨x, rfl, hth⟩
  · obtain ⟨t2, a1, b1⟩ := kk r u t t.heap (locs ++ L) rfl hal hp hb hz hk hS1 T' e1 X'
    exact ⟨t2, w1 _ rfl t2 a1, b1⟩
  · rw [h0] at hth
    obtain ⟨t2, a1, b1⟩ := kt x t (locs ++ L) hal hth hS1 T' e1 X'
    exact ⟨t2, w2 x rfl t2 a1, b1⟩
theorem th_calll {S : Type} {post : Int64 → S → Prop} {B : S → State → Prop} (hr : th_Run p l e R s m args below meth c H locs cells slots mc ms (F0 m pc ls st0) rest (th_Ql post B A1 Th a) free) (hS : va_S A0 H0 H locs) (hA : ∀ q, q < H.size → A1 q → A0 q) (hf : ∀ q, free q → A0 q)
    (kk : ∀ (r : Int64) (u : S) (t : State) (H1 : Heap) (locs1 : List Loc), t.heap = H1 → s.vm.Alike t.vm → post r u → B u t → H.size ≤ H1.size → (∀ q : Nat, q < H.size → ¬ A1 q → H1[q]? = H[q]?) → va_S A0 H0 H1 locs1 → W p l e R s m args below meth c H1 locs1 (cells + mc) (slots + ms) Q (F0 m (pc + 3) ls (.long r :: rest)))
    (kt : ∀ (x : Nat) (t : State) (locs1 : List Loc), s.vm.Alike t.vm → Th x H t → va_S A0 H0 t.heap locs1 → th_W p l e R s m args below meth c t.heap locs1 (cells + mc) (slots + ms) Q (F0 m pc ls rest) x) : W p l e R s m args below meth c H locs cells slots Q (F0 m pc ls st0) := by
  intro T hT X
  obtain ⟨o, st₀, t, T', L, h0, X', hL, e1, e2, -, ⟨hq, hz, hk⟩, w1, w2⟩ := hr T hT X
  rw [h0] at hz hk
  have hal : s.vm.Alike t.vm := by rw [← e2]; exact X'.warmed.alike
  have hS1 := th_S hS hA hf hL hz hk
  rcases hq with ⟨r, u, rfl, hp, hb⟩ | ⟨x, rfl, hth⟩
  · obtain ⟨t2, a1, b1⟩ := kk r u t t.heap (locs ++ L) rfl hal hp hb hz hk hS1 T' e1 X'
    exact ⟨t2, w1 _ rfl t2 a1, b1⟩
  · rw [h0] at hth
    obtain ⟨t2, a1, b1⟩ := kt x t (locs ++ L) hal hth hS1 T' e1 X'
    exact ⟨t2, w2 x rfl t2 a1, b1⟩
/-- 'throw new C("..")' behind its new, dup and ldc: the constructor, athrow, and the method is left -/
theorem th_throwS {Qc : Array Value → State → Outcome → State → Prop} {cc : ByteArray} {own cls : String} {names : List String} {ic x : Nat} {cX : ClassId} {kX : Class} {msg : Value} (hexec : p.tables.exec = Jvm.exec) (hb : c.code = cc) (hml : c.maxLocals = ls.size) (htr : l.stackTraces = false)
    (hown : s.vm.findClass own = some m.cls) (hcls : Bundle.fit cls = true) (hnames : ∀ n ∈ names, Bundle.fit n = true) (h : ∀ a ∈ Bundle.ownAtoms own ic cls names, a.before args s = true) (hfoundX : s.vm.findClass cls = some cX) (hkX : s.vm.classes[cX]? = some kX) (hcell : H[x]? = some (freshCell cX kX)) (hnew : s.heap.size ≤ x) (hmsg : msg.isRef = true)
    (hem : c.exceptionTable.isEmpty = true) (hlocks : meth.locks = false) (hd6 : decode cc pc = .ok (.invokespecial ic, 3)) (hd9 : decode cc (pc + 3) = .ok (.athrow, 1)) (hRf : names.length + 3 < R.frames) (hRl : ((Value.ref x :: rest).map fun v => v.category).sum + (13 * (names.length + 1) + 42) ≤ R.locals)
    (hq : ∀ t : State, s.WarmedH t.vm → th_X cls x s.heap t → Qc args s (.threw x) t) : W p l e R s m args below meth c H [] cells slots (th_MQ below Qc args s cells slots free) (F0 m pc ls (msg :: .ref x :: .ref x :: rest)) := by
  intro T hT X
  have hout : ∀ y ∈ c.exceptionTable.toList, covers y ((F0 m pc ls (msg :: .ref x :: .ref x :: rest)).pc + 3) = false := by
    intro y hy
    rw [Array.isEmpty_iff.mp hem] at hy
    simp at hy
  have htr' : e.platform.stackTraces = false := by rw [X.admits.platform]; exact htr
  obtain ⟨U, st, hrun, hend, hWU, hsame, ce, hce, ho⟩ := X.ctorThrowS hexec htr' hown hcls hnames h (fun y hy => by cases hy) hfoundX hkX (by rw [hT]; exact hcell) hnew hmsg (g := F0 m pc ls (msg :: .ref x :: .ref x :: rest)) rfl hml.symm rfl rfl (rest := rest) rfl (by rw [hb]; exact hd6) (by rw [hb]; exact hd9) hout hRf
    (by show 2 * 0 + _ + _ ≤ _; omega) (hlocks := hlocks)
  have hold : ∀ q : Nat, q < s.heap.size → U.heap[q]? = s.heap[q]? := by
    intro q hq
    obtain ⟨c', h1, h2, h3, h4⟩ := hsame.2.2.2.2.2 q _ (Array.getElem?_eq_getElem hq)
    rw [Array.getElem?_eq_getElem hq]
    refine h1.trans (congrArg some ?_)
    rw [h2]
    have : c'.slots = s.heap[q].slots := by
      apply Array.ext
      · exact h3
      · intro i g1 g2
        have := h4 i (by simp)
        rw [Array.getElem?_eq_getElem g1, Array.getElem?_eq_getElem g2] at this
        exact Option.some.inj this
    rw [this]
  exact ⟨U, st, .threw x, hrun, hend, hq U hWU ⟨hnew, hsame.2.1, ⟨ce, hce, by rw [ho.vm]; rfl, by rw [hWU.alike.findClass]; exact ho.cls⟩, hold⟩, [], ⟨hWU, hsame⟩, fun y hy => by cases hy⟩
end TH3
end
section
/-! the start s0, states behind it, contracts over worlds -/
def gl (s0 U : State) : Prop := s0.WarmedH U.vm ∧ s0.heap.size ≤ U.heap.size ∧ ∀ q : Nat, q < s0.heap.size → U.heap[q]? = s0.heap[q]?
def ty0 (cA : Nat → ClassId) : List (ClassId × FieldType) := [(cA 0, .int), (cA 1, .long), (cA 2, .boolean), (cA 3, .object R_B)]
def strs : List (Nat × String) := [(223, "no such board"), (215, "lengths and places are 0 to 65536"), (71, "boards are 0 to 4, rows 0 to 8"), (225, "no such copy"), (130, "a copy tells 0 to 5"), (219, "no such side"), (221, "only 0 and 1 are told"), (152, "a part is in the tab's way"), (158, "no such score"), (166, "a part has a radius"), (188, "no such corner of the way"), (203, "0 to 200 are wanted")]
def thS (s0 : State) : Prop := (Cond.isRef (.static "java/lang/Throwable" "UNASSIGNED_STACK" "[Ljava/lang/StackTraceElement;")).before #[] s0 = true ∧ (Cond.isRef (.static "java/lang/Throwable" "SUPPRESSED_SENTINEL" "Ljava/util/List;")).before #[] s0 = true
/-- what is known of the start: words, classes, the launch, texts, statics -/
def zE (l : Launch) (s0 : State) (D : va_G) (cA sa : Nat → Nat) : Prop := zt s0 ∧ va_K D ncl (ty0 cA) s0 ∧ l.stackTraces = false ∧ (∀ q ∈ strs, vk_R "PanelForms" q.1 q.2 (sa q.1) s0) ∧ thS s0
theorem gl_self (s0 : State) (h : s0.WarmedH s0.vm) : gl s0 s0 := ⟨h, Nat.le_refl _, fun _ _ => rfl⟩
theorem gl_on {s0 s U : State} {A : Nat → Prop} {H : Heap} {locs : List Loc} (h : gl s0 s) (hA : ∀ q, A q → s0.heap.size ≤ q) (hS : va_S A s.heap H locs) (hU : U.heap = H) (hW : s.WarmedH U.vm) : gl s0 U :=
  ⟨State.WarmedH.trans h.1 hW, by rw [hU]; exact Nat.le_trans h.2.1 hS.1, fun q hq => by rw [hU, hS.2.1 q (Nat.lt_of_lt_of_le hq h.2.1) (fun z => absurd (hA q z) (Nat.not_le.mpr hq))]; exact h.2.2 q hq⟩
def wP (s0 : State) (D : va_G) (av : List Value) (ws : va_W) (sz : Nat) : Array Value → State → Prop := va_Pc av (fun U => gl s0 U ∧ U.heap.size = sz ∧ va_P D ncl ws U.heap ∧ va_D (fun q => s0.heap.size ≤ q) ws)
theorem wP_blind {s0 : State} {D : va_G} {av : List Value} {ws : va_W} {sz : Nat} : FrameBlind (wP s0 D av ws sz) := fun _ _ _ _ h => ⟨h.1, ⟨h.2.1.1, h.2.1.2.1, h.2.1.2.2⟩, h.2.2.1, h.2.2.2.1, h.2.2.2.2⟩
def wB (D : va_G) (A : Nat → Prop) {S : Type} (wf : S → va_W) : S → State → Prop := fun u t => va_P D ncl (wf u) t.heap ∧ va_D A (wf u)
theorem mp_fm {α : Type} {ws ws' : List α} (is : List Nat) (h : is.map (fun i => ws[i]?) = ws'.map some) : is.filterMap (fun i => ws[i]?) = ws' := by
  have e : is.filterMap (fun i => ws[i]?) = (is.map (fun i => ws[i]?)).filterMap id := by simp [List.filterMap_map]
  rw [e, h, List.filterMap_map]
  simp
theorem va_A_lo {ws : va_W} {sz lo : Nat} (hD : va_D (fun q => lo ≤ q) ws) (h : lo ≤ sz) : ∀ q, va_A ws sz q → lo ≤ q := by
  intro q hq
  rcases hq with ⟨k, e, hk⟩ | hq
  · exact hD.2 k _ hk
  · exact Nat.le_trans h hq
section WM
variable {l : Launch} {s0 : State} {D : va_G} {cA sa : Nat → Nat}
theorem wMet (Z : zE l s0 D cA sa) {y : MethodName} {cc : ByteArray} {maxL : Nat} {ret : Option FieldType} {rm : Room} {av : List Value} {ws : va_W} {sz : Nat} {Qc : Array Value → State → Outcome → State → Prop} {mc ms : Nat} (hy : plainName y.cls = true) (hlen : (lg_sl av).length ≤ maxL)
    (body : ∀ p e s m below meth c, p.tables.exec = Jvm.exec → c.code = cc → meth.sig.returnType = ret → c.maxLocals = maxL → s.vm.findClass y.cls = some m.cls → meth.locks = false → meth.name = y.name → gl s0 s → va_K D ncl (ty0 cA) s → s.heap.size = sz →
      va_P D ncl ws s.heap → va_D (va_A ws s.heap.size) ws → (∀ q, s.heap.size ≤ q → va_A ws s.heap.size q) → (∀ q, va_A ws s.heap.size q → s0.heap.size ≤ q) → va_S (va_A ws s.heap.size) s.heap s.heap [] → ∀ ls, lv_has ls maxL (lv_args 0 av) →
      W p l e rm s m av.toArray below meth c s.heap [] 0 0 (MQ below Qc av.toArray s mc ms (va_A ws s.heap.size)) (F0 m 0 ls [])) :
    Met l y [.code y cc maxL ret] rm (wP s0 D av ws sz) Qc mc ms (va_A ws sz) := by
  refine Met.ofW (cc := cc) (maxL := maxL) (ret := ret) hy rfl ?_
  intro p e s m args below meth c s₁ B hml hv
  obtain ⟨rfl, hg, hsz, hP, hD0⟩ := hv
  have hD := hD0.self (sz := s.heap.size)
  have hlo := va_A_lo (sz := s.heap.size) hD0 hg.2.1
  have hl := lv_entry av hlen
  rw [lg_entry_eq]
  subst hsz
  exact body p e s m below meth c B.exec B.bytes B.returns hml (findClass_of_methodNamed B.named) B.notSynchronized (name_of_methodNamed B.named B.method).1 hg (va_K.moved hg.1.alike Z.2.1) rfl hP hD (fun q h => Or.inr h) hlo va_S.rf _ hl
theorem wMetT (Z : zE l s0 D cA sa) {y : MethodName} {cc : ByteArray} {maxL : Nat} {ret : Option FieldType} {rm : Room} {av : List Value} {ws : va_W} {sz : Nat} {Qc : Array Value → State → Outcome → State → Prop} {mc ms : Nat} (hy : plainName y.cls = true) (hlen : (lg_sl av).length ≤ maxL)
    (body : ∀ p e s m below meth c, p.tables.exec = Jvm.exec → c.code = cc → meth.sig.returnType = ret → c.maxLocals = maxL → s.vm.findClass y.cls = some m.cls → meth.locks = false → c.exceptionTable.isEmpty = true → gl s0 s → va_K D ncl (ty0 cA) s → s.heap.size = sz →
      va_P D ncl ws s.heap → va_D (va_A ws s.heap.size) ws → (∀ q, s.heap.size ≤ q → va_A ws s.heap.size q) → (∀ q, va_A ws s.heap.size q → s0.heap.size ≤ q) → va_S (va_A ws s.heap.size) s.heap s.heap [] → ∀ ls, lv_has ls maxL (lv_args 0 av) →
      W p l e rm s m av.toArray below meth c s.heap [] 0 0 (th_MQ below Qc av.toArray s mc ms (va_A ws s.heap.size)) (F0 m 0 ls [])) :
    th_Met l y [.code y cc maxL ret] rm (wP s0 D av ws sz) Qc mc ms (va_A ws sz) := by
  refine th_Met.ofW (cc := cc) (maxL := maxL) (ret := ret) hy rfl ?_
  intro p e s m args below meth c s₁ B hml hem hv
  obtain ⟨rfl, hg, hsz, hP, hD0⟩ := hv
  have hD := hD0.self (sz := s.heap.size)
  have hlo := va_A_lo (sz := s.heap.size) hD0 hg.2.1
  have hl := lv_entry av hlen
  rw [lg_entry_eq]
  subst hsz
  exact body p e s m below meth c B.exec B.bytes B.returns hml (findClass_of_methodNamed B.named) B.notSynchronized hem hg (va_K.moved hg.1.alike Z.2.1) rfl hP hD (fun q h => Or.inr h) hlo va_S.rf _ hl
end WM
section WR
variable {p : Program} {l : Launch} {e : Env} {R : Room} {s : State} {m : MethodId} {args : Array Value} {below : List Frame} {meth : Method} {c : Code} {H : Heap} {locs : List Loc} {cells slots : Nat} {Q : State → Prop}
variable {D : va_G} {A : Nat → Prop} {ws' : va_W} {S : Type} {wf : S → va_W} {cc : ByteArray} {pc : Nat} {ls : Array Slot}
theorem w_iret {post : Int32 → S → Prop} {v : Int32} (hx : p.tables.exec = Jvm.exec) (hb : c.code = cc) (hr : meth.sig.returnType = some .int) (hlk : meth.locks = false) (hP : va_P D ncl ws' H) (hD : va_D A ws') (hS : va_S A s.heap H locs) (u : S) (hw : wf u = ws') (hp : post v u) (hdg : decode cc pc = .ok (.ireturn, 1)) :
    W p l e R s m args below meth c H locs cells slots (MQ below (va_Qi post (wB D A wf) A) args s cells slots A) (F0 m pc ls [.int v]) :=
  W.iret hx hb hr (fun t ht hW => ⟨⟨v, u, rfl, hp, by rw [ht, hw]; exact hP, by rw [hw]; exact hD⟩, hS.F ht⟩) hS.2.2 hdg hlk
theorem w_zret {post : Int32 → S → Prop} {v : Int32} (hx : p.tables.exec = Jvm.exec) (hb : c.code = cc) (hr : meth.sig.returnType = some .boolean) (hn : narrow .boolean (.int v) = .int v) (hlk : meth.locks = false) (hP : va_P D ncl ws' H) (hD : va_D A ws') (hS : va_S A s.heap H locs) (u : S) (hw : wf u = ws') (hp : post v u) (hdg : decode cc pc = .ok (.ireturn, 1)) :
    W p l e R s m args below meth c H locs cells slots (MQ below (va_Qi post (wB D A wf) A) args s cells slots A) (F0 m pc ls [.int v]) :=
  W.zret hx hb hr hn (fun t ht hW => ⟨⟨v, u, rfl, hp, by rw [ht, hw]; exact hP, by rw [hw]; exact hD⟩, hS.F ht⟩) hS.2.2 hdg hlk
theorem w_lret {post : Int64 → S → Prop} {v : Int64} (hx : p.tables.exec = Jvm.exec) (hb : c.code = cc) (hr : meth.sig.returnType = some .long) (hlk : meth.locks = false) (hP : va_P D ncl ws' H) (hD : va_D A ws') (hS : va_S A s.heap H locs) (u : S) (hw : wf u = ws') (hp : post v u) (hdg : decode cc pc = .ok (.lreturn, 1)) :
    W p l e R s m args below meth c H locs cells slots (MQ below (va_Ql post (wB D A wf) A) args s cells slots A) (F0 m pc ls [.long v]) :=
  W.lret hx hb hr (fun t ht hW => ⟨⟨v, u, rfl, hp, by rw [ht, hw]; exact hP, by rw [hw]; exact hD⟩, hS.F ht⟩) hS.2.2 hdg hlk
theorem w_vret {post : S → Prop} (hx : p.tables.exec = Jvm.exec) (hb : c.code = cc) (hr : meth.sig.returnType = none) (hlk : meth.locks = false) (hP : va_P D ncl ws' H) (hD : va_D A ws') (hS : va_S A s.heap H locs) (u : S) (hw : wf u = ws') (hp : post u) (hdg : decode cc pc = .ok (.return_, 1)) :
    W p l e R s m args below meth c H locs cells slots (MQ below (va_Qv post (wB D A wf) A) args s cells slots A) (F0 m pc ls []) :=
  W.vret hx hb hr (fun t ht hW => ⟨⟨u, rfl, hp, by rw [ht, hw]; exact hP, by rw [hw]; exact hD⟩, hS.F ht⟩) hS.2.2 hdg hlk
end WR
end
section
/-! calls of methods with contracts over worlds -/
section WC
variable {p : Program} {l : Launch} {e : Env} {R : Room} {s : State} {m : MethodId} {args : Array Value} {below : List Frame} {meth : Method} {c : Code} {H : Heap} {locs : List Loc} {cells slots : Nat} {Q : State → Prop}
variable {s0 : State} {D : va_G} {cA sa : Nat → Nat} {A : Nat → Prop} {ws wc wr : va_W} {cc : ByteArray} {pc : Nat} {ls : Array Slot}
variable {y : MethodName} {bytes : ByteArray} {maxL nL n index : Nat} {ret : Option FieldType} {rm : Room} {Qc : Array Value → State → Outcome → State → Prop} {free : Addr → Prop} {own C host : String} {b : Addr} {As rest st0 : List Value} {tys : List (ClassId × FieldType)}
theorem wc_ws (k4 : kw s0 (.code y bytes maxL ret)) (hg : gl s0 s) : ∀ w ∈ [Cond.code y bytes maxL ret], ∀ (a' : Array Value) (U : State), s.WarmedH U.vm → w.before a' U = true := by
  intro w hw a' U hW
  rw [List.mem_singleton.mp hw]
  exact k4 U a' (State.WarmedH.trans hg.1 hW)
theorem wc_len {d : String} (h : (parseMethodDescriptor d).map (fun d => d.parameters.length) = some n) : ∀ sig, parseMethodDescriptor d = some sig → n = sig.parameters.length := by
  intro sig hs
  rw [hs] at h
  exact (Option.some.inj h).symm
theorem wc_B (hg : gl s0 s) (k1 : kw s0 (.methodLink own index y)) (k4 : kw s0 (.code y bytes maxL ret)) (k5 : kw s0 (.initialized y.cls)) (hd : y.cls ≠ "java/lang/invoke/MethodHandle" ∧ y.cls ≠ "java/lang/invoke/VarHandle" ∧ (parseMethodDescriptor y.desc).map (fun d => d.parameters.length) = some n) (hR : rm.frames + 1 ≤ R.frames ∧ 8 + (maxL + 11) + rm.locals ≤ R.locals) :
    CallB R s args own index y bytes maxL ret [.code y bytes maxL ret] rm rm.cells rm.slots n :=
  ⟨rfl, rfl, hR.1, hR.2, wc_ws k4 hg, List.mem_cons_self, k4 s args hg.1, k5 s args hg.1, ⟨hd.1, hd.2.1⟩, wc_len hd.2.2, k1 s args hg.1⟩
theorem wc_N (hg : gl s0 s) (k1 : kw s0 (.methodLinkNest own index y host)) (k4 : kw s0 (.code y bytes maxL ret)) (k5 : kw s0 (.initialized y.cls)) (hd : y.cls ≠ "java/lang/invoke/MethodHandle" ∧ y.cls ≠ "java/lang/invoke/VarHandle" ∧ (parseMethodDescriptor y.desc).map (fun d => d.parameters.length) = some n) (hR : rm.frames + 1 ≤ R.frames ∧ 8 + (maxL + 11) + rm.locals ≤ R.locals) :
    va_CN R s args own index y host bytes maxL ret [.code y bytes maxL ret] rm rm.cells rm.slots n :=
  ⟨⟨rfl, rfl, hR.1, hR.2, wc_ws k4 hg, List.mem_cons_self⟩, k4 s args hg.1, k5 s args hg.1, ⟨hd.1, hd.2.1⟩, wc_len hd.2.2, k1 s args hg.1⟩
theorem w_pre {av : List Value} (hg : gl s0 s) (hlo : ∀ q, A q → s0.heap.size ≤ q) (hS : va_S A s.heap H locs) (hP : va_P D ncl ws H) (hD : va_D A ws) (isC : List Nat) (hn : va_nd isC = true) (hC : isC.map (fun i => ws[i]?) = wc.map some) :
    ∀ U : State, U.heap = H → s.WarmedH U.vm → wP s0 D av wc H.size av.toArray U := fun U hU hW =>
  ⟨rfl, gl_on hg hlo hS hU hW, by rw [hU], by rw [hU]; exact hP.sub isC (mp_fm isC hC), (hD.sub isC hn hC).weaken (fun _ _ _ h => hlo _ h)⟩
theorem w_runV (hx : p.tables.exec = Jvm.exec) (hb : c.code = cc) (hml : c.maxLocals = nL) (hown : s.vm.findClass own = some m.cls) (hls : ls.size = nL) (hg : gl s0 s) (hlo : ∀ q, A q → s0.heap.size ≤ q) (hK : va_K D ncl tys s) (hP : va_P D ncl ws H) (hD : va_D A ws) (hS : va_S A s.heap H locs)
    (hM : Met l y [.code y bytes maxL ret] rm (wP s0 D (.ref b :: As) wc H.size) Qc rm.cells rm.slots free) (k1 : kw s0 (.methodLink own index y)) (k2 : kw s0 (.instanceMethod y)) (k3 : kw s0 (.selects C y y)) (k4 : kw s0 (.code y bytes maxL ret)) (k5 : kw s0 (.initialized y.cls))
    (hd : y.cls ≠ "java/lang/invoke/MethodHandle" ∧ y.cls ≠ "java/lang/invoke/VarHandle" ∧ (parseMethodDescriptor y.desc).map (fun d => d.parameters.length) = some As.length) (hR : rm.frames + 1 ≤ R.frames ∧ 8 + (maxL + 11) + rm.locals ≤ R.locals)
    (isC : List Nat) (hn : va_nd isC = true) (hC : isC.map (fun i => ws[i]?) = wc.map some) {ci q0 : Nat} {fs : List Value} {T : u_T} {N : Nat} (hc : ncl[ci]? = some (C, T, N)) (he : ws[q0]? = some (b, .inr (ci, fs))) (hst : st0 = As.reverse ++ .ref b :: rest) (h8 : (rest.map fun v => v.category).sum ≤ 8) (hdg : decode cc pc = .ok (.invokevirtual index, 3)) (hf : cells + rm.cells ≤ R.cells ∧ slots + rm.slots ≤ R.slots) :
    va_Run p l e R s m args below meth c H locs cells slots rm.cells rm.slots (F0 m pc ls st0) rest (Qc (Value.ref b :: As).toArray) free :=
  va_runV (Ts := []) (own := own) (C := C) (n := As.length) ⟨hx, hb, hml, hown, fun _ h => absurd h List.not_mem_nil⟩ hM ⟨wc_B hg k1 k4 k5 hd hR, k2 s args hg.1, k3 s args hg.1⟩ ⟨wP_blind, va_recv hK hP hc he, w_pre hg hlo hS hP hD isC hn hC⟩ rfl rfl hls hst (lv_room (m := m) (pc := pc) (ls := ls) (rest := st0) h8) hdg hf
theorem w_runVN (hx : p.tables.exec = Jvm.exec) (hb : c.code = cc) (hml : c.maxLocals = nL) (hown : s.vm.findClass own = some m.cls) (hls : ls.size = nL) (hg : gl s0 s) (hlo : ∀ q, A q → s0.heap.size ≤ q) (hK : va_K D ncl tys s) (hP : va_P D ncl ws H) (hD : va_D A ws) (hS : va_S A s.heap H locs)
    (hM : Met l y [.code y bytes maxL ret] rm (wP s0 D (.ref b :: As) wc H.size) Qc rm.cells rm.slots free) (k1 : kw s0 (.methodLinkNest own index y host)) (k2 : kw s0 (.instanceMethod y)) (k3 : kw s0 (.selects C y y)) (k4 : kw s0 (.code y bytes maxL ret)) (k5 : kw s0 (.initialized y.cls))
    (hd : y.cls ≠ "java/lang/invoke/MethodHandle" ∧ y.cls ≠ "java/lang/invoke/VarHandle" ∧ (parseMethodDescriptor y.desc).map (fun d => d.parameters.length) = some As.length) (hR : rm.frames + 1 ≤ R.frames ∧ 8 + (maxL + 11) + rm.locals ≤ R.locals)
    (isC : List Nat) (hn : va_nd isC = true) (hC : isC.map (fun i => ws[i]?) = wc.map some) {ci q0 : Nat} {fs : List Value} {T : u_T} {N : Nat} (hc : ncl[ci]? = some (C, T, N)) (he : ws[q0]? = some (b, .inr (ci, fs))) (hst : st0 = As.reverse ++ .ref b :: rest) (h8 : (rest.map fun v => v.category).sum ≤ 8) (hdg : decode cc pc = .ok (.invokevirtual index, 3)) (hf : cells + rm.cells ≤ R.cells ∧ slots + rm.slots ≤ R.slots) :
    va_Run p l e R s m args below meth c H locs cells slots rm.cells rm.slots (F0 m pc ls st0) rest (Qc (Value.ref b :: As).toArray) free :=
  va_runVN (Ts := []) (own := own) (C := C) (n := As.length) ⟨hx, hb, hml, hown, fun _ h => absurd h List.not_mem_nil⟩ hM ⟨wc_N hg k1 k4 k5 hd hR, k2 s args hg.1, k3 s args hg.1⟩ ⟨wP_blind, va_recv hK hP hc he, w_pre hg hlo hS hP hD isC hn hC⟩ rfl rfl hls hst (lv_room (m := m) (pc := pc) (ls := ls) (rest := st0) h8) hdg hf
theorem w_runS (hx : p.tables.exec = Jvm.exec) (hb : c.code = cc) (hml : c.maxLocals = nL) (hown : s.vm.findClass own = some m.cls) (hls : ls.size = nL) (hg : gl s0 s) (hlo : ∀ q, A q → s0.heap.size ≤ q) (hP : va_P D ncl ws H) (hD : va_D A ws) (hS : va_S A s.heap H locs)
    (hM : Met l y [.code y bytes maxL ret] rm (wP s0 D As wc H.size) Qc rm.cells rm.slots free) (k1 : kw s0 (.methodLink own index y)) (k2 : kw s0 (.static y)) (k4 : kw s0 (.code y bytes maxL ret)) (k5 : kw s0 (.initialized y.cls))
    (hd : y.cls ≠ "java/lang/invoke/MethodHandle" ∧ y.cls ≠ "java/lang/invoke/VarHandle" ∧ (parseMethodDescriptor y.desc).map (fun d => d.parameters.length) = some As.length) (hR : rm.frames + 1 ≤ R.frames ∧ 8 + (maxL + 11) + rm.locals ≤ R.locals)
    (isC : List Nat) (hn : va_nd isC = true) (hC : isC.map (fun i => ws[i]?) = wc.map some) (hst : st0 = As.reverse ++ rest) (h8 : (rest.map fun v => v.category).sum ≤ 8) (hdg : decode cc pc = .ok (.invokestatic index, 3)) (hf : cells + rm.cells ≤ R.cells ∧ slots + rm.slots ≤ R.slots) :
    va_Run p l e R s m args below meth c H locs cells slots rm.cells rm.slots (F0 m pc ls st0) rest (Qc As.toArray) free :=
  va_runS (Ts := []) (own := own) (n := As.length) ⟨hx, hb, hml, hown, fun _ h => absurd h List.not_mem_nil⟩ hM ⟨wc_B hg k1 k4 k5 hd hR, k2 s args hg.1⟩ ⟨wP_blind, w_pre hg hlo hS hP hD isC hn hC⟩ rfl rfl hls hst (lv_room (m := m) (pc := pc) (ls := ls) (rest := st0) h8) hdg hf
theorem w_runI (hx : p.tables.exec = Jvm.exec) (hb : c.code = cc) (hml : c.maxLocals = nL) (hown : s.vm.findClass own = some m.cls) (hls : ls.size = nL) (hg : gl s0 s) (hlo : ∀ q, A q → s0.heap.size ≤ q) (hP : va_P D ncl ws H) (hD : va_D A ws) (hS : va_S A s.heap H locs)
    (hM : Met l y [.code y bytes maxL none] rm (wP s0 D (.ref b :: As) wc H.size) Qc rm.cells rm.slots free) (k1 : kw s0 (.methodLink own index y)) (k2 : kw s0 (.instanceMethod y)) (k4 : kw s0 (.code y bytes maxL none)) (k5 : kw s0 (.initialized y.cls)) (hy1 : y.name = "<init>")
    (hd : y.cls ≠ "java/lang/invoke/MethodHandle" ∧ y.cls ≠ "java/lang/invoke/VarHandle" ∧ (parseMethodDescriptor y.desc).map (fun d => d.parameters.length) = some As.length) (hR : rm.frames + 1 ≤ R.frames ∧ 8 + (maxL + 11) + rm.locals ≤ R.locals)
    (isC : List Nat) (hn : va_nd isC = true) (hC : isC.map (fun i => ws[i]?) = wc.map some) (hst : st0 = As.reverse ++ .ref b :: rest) (h8 : (rest.map fun v => v.category).sum ≤ 8) (hdg : decode cc pc = .ok (.invokespecial index, 3)) (hf : cells + rm.cells ≤ R.cells ∧ slots + rm.slots ≤ R.slots) :
    va_Run p l e R s m args below meth c H locs cells slots rm.cells rm.slots (F0 m pc ls st0) rest (Qc (Value.ref b :: As).toArray) free :=
  va_runI (Ts := []) (own := own) (n := As.length) ⟨hx, hb, hml, hown, fun _ h => absurd h List.not_mem_nil⟩ hM ⟨wc_B hg k1 k4 k5 hd hR, hy1, k2 s args hg.1⟩ ⟨wP_blind, w_pre hg hlo hS hP hD isC hn hC⟩ rfl rfl hls hst (lv_room (m := m) (pc := pc) (ls := ls) (rest := st0) h8) hdg hf
theorem w_runIN (hx : p.tables.exec = Jvm.exec) (hb : c.code = cc) (hml : c.maxLocals = nL) (hown : s.vm.findClass own = some m.cls) (hls : ls.size = nL) (hg : gl s0 s) (hlo : ∀ q, A q → s0.heap.size ≤ q) (hP : va_P D ncl ws H) (hD : va_D A ws) (hS : va_S A s.heap H locs)
    (hM : Met l y [.code y bytes maxL none] rm (wP s0 D (.ref b :: As) wc H.size) Qc rm.cells rm.slots free) (k1 : kw s0 (.methodLinkNest own index y host)) (k2 : kw s0 (.instanceMethod y)) (k4 : kw s0 (.code y bytes maxL none)) (k5 : kw s0 (.initialized y.cls)) (hy1 : y.name = "<init>")
    (hd : y.cls ≠ "java/lang/invoke/MethodHandle" ∧ y.cls ≠ "java/lang/invoke/VarHandle" ∧ (parseMethodDescriptor y.desc).map (fun d => d.parameters.length) = some As.length) (hR : rm.frames + 1 ≤ R.frames ∧ 8 + (maxL + 11) + rm.locals ≤ R.locals)
    (isC : List Nat) (hn : va_nd isC = true) (hC : isC.map (fun i => ws[i]?) = wc.map some) (hst : st0 = As.reverse ++ .ref b :: rest) (h8 : (rest.map fun v => v.category).sum ≤ 8) (hdg : decode cc pc = .ok (.invokespecial index, 3)) (hf : cells + rm.cells ≤ R.cells ∧ slots + rm.slots ≤ R.slots) :
    va_Run p l e R s m args below meth c H locs cells slots rm.cells rm.slots (F0 m pc ls st0) rest (Qc (Value.ref b :: As).toArray) free :=
  va_runIN (Ts := []) (own := own) (n := As.length) ⟨hx, hb, hml, hown, fun _ h => absurd h List.not_mem_nil⟩ hM ⟨wc_N hg k1 k4 k5 hd hR, hy1, k2 s args hg.1⟩ ⟨wP_blind, w_pre hg hlo hS hP hD isC hn hC⟩ rfl rfl hls hst (lv_room (m := m) (pc := pc) (ls := ls) (rest := st0) h8) hdg hf
theorem wt_runV (hx : p.tables.exec = Jvm.exec) (hb : c.code = cc) (hml : c.maxLocals = nL) (hown : s.vm.findClass own = some m.cls) (hls : ls.size = nL) (hg : gl s0 s) (hlo : ∀ q, A q → s0.heap.size ≤ q) (hK : va_K D ncl tys s) (hP : va_P D ncl ws H) (hD : va_D A ws) (hS : va_S A s.heap H locs)
    (hM : th_Met l y [.code y bytes maxL ret] rm (wP s0 D (.ref b :: As) wc H.size) Qc rm.cells rm.slots free) (k1 : kw s0 (.methodLink own index y)) (k2 : kw s0 (.instanceMethod y)) (k3 : kw s0 (.selects C y y)) (k4 : kw s0 (.code y bytes maxL ret)) (k5 : kw s0 (.initialized y.cls))
    (hd : y.cls ≠ "java/lang/invoke/MethodHandle" ∧ y.cls ≠ "java/lang/invoke/VarHandle" ∧ (parseMethodDescriptor y.desc).map (fun d => d.parameters.length) = some As.length) (hR : rm.frames + 1 ≤ R.frames ∧ 8 + (maxL + 11) + rm.locals ≤ R.locals)
    (isC : List Nat) (hn : va_nd isC = true) (hC : isC.map (fun i => ws[i]?) = wc.map some) {ci q0 : Nat} {fs : List Value} {T : u_T} {N : Nat} (hc : ncl[ci]? = some (C, T, N)) (he : ws[q0]? = some (b, .inr (ci, fs))) (hst : st0 = As.reverse ++ .ref b :: rest) (h8 : (rest.map fun v => v.category).sum ≤ 8) (hdg : decode cc pc = .ok (.invokevirtual index, 3)) (hf : cells + rm.cells ≤ R.cells ∧ slots + rm.slots ≤ R.slots) :
    th_Run p l e R s m args below meth c H locs cells slots rm.cells rm.slots (F0 m pc ls st0) rest (Qc (Value.ref b :: As).toArray) free :=
  th_runV (Ts := []) (own := own) (C := C) (n := As.length) ⟨hx, hb, hml, hown, fun _ h => absurd h List.not_mem_nil⟩ hM ⟨wc_B hg k1 k4 k5 hd hR, k2 s args hg.1, k3 s args hg.1⟩ ⟨wP_blind, va_recv hK hP hc he, w_pre hg hlo hS hP hD isC hn hC⟩ rfl rfl hls hst (lv_room (m := m) (pc := pc) (ls := ls) (rest := st0) h8) hdg hf
theorem wt_runS (hx : p.tables.exec = Jvm.exec) (hb : c.code = cc) (hml : c.maxLocals = nL) (hown : s.vm.findClass own = some m.cls) (hls : ls.size = nL) (hg : gl s0 s) (hlo : ∀ q, A q → s0.heap.size ≤ q) (hP : va_P D ncl ws H) (hD : va_D A ws) (hS : va_S A s.heap H locs)
    (hM : th_Met l y [.code y bytes maxL ret] rm (wP s0 D As wc H.size) Qc rm.cells rm.slots free) (k1 : kw s0 (.methodLink own index y)) (k2 : kw s0 (.static y)) (k4 : kw s0 (.code y bytes maxL ret)) (k5 : kw s0 (.initialized y.cls))
    (hd : y.cls ≠ "java/lang/invoke/MethodHandle" ∧ y.cls ≠ "java/lang/invoke/VarHandle" ∧ (parseMethodDescriptor y.desc).map (fun d => d.parameters.length) = some As.length) (hR : rm.frames + 1 ≤ R.frames ∧ 8 + (maxL + 11) + rm.locals ≤ R.locals)
    (isC : List Nat) (hn : va_nd isC = true) (hC : isC.map (fun i => ws[i]?) = wc.map some) (hst : st0 = As.reverse ++ rest) (h8 : (rest.map fun v => v.category).sum ≤ 8) (hdg : decode cc pc = .ok (.invokestatic index, 3)) (hf : cells + rm.cells ≤ R.cells ∧ slots + rm.slots ≤ R.slots) :
    th_Run p l e R s m args below meth c H locs cells slots rm.cells rm.slots (F0 m pc ls st0) rest (Qc As.toArray) free :=
  th_runS (Ts := []) (own := own) (n := As.length) ⟨hx, hb, hml, hown, fun _ h => absurd h List.not_mem_nil⟩ hM ⟨wc_B hg k1 k4 k5 hd hR, k2 s args hg.1⟩ ⟨wP_blind, w_pre hg hlo hS hP hD isC hn hC⟩ rfl rfl hls hst (lv_room (m := m) (pc := pc) (ls := ls) (rest := st0) h8) hdg hf
end WC
section WD
variable {p : Program} {l : Launch} {e : Env} {R : Room} {s : State} {m : MethodId} {args : Array Value} {below : List Frame} {meth : Method} {c : Code} {H : Heap} {locs : List Loc} {cells slots : Nat} {Q : State → Prop}
variable {D : va_G} {A : Nat → Prop} {ws wc wr : va_W} {pc : Nat} {ls : Array Slot} {rest st0 : List Value} {a : Array Value} {mc ms : Nat} {S : Type} {wf : S → va_W} {Th : Nat → Heap → State → Prop}
theorem w_back {H1 : Heap} {u : S} {t : State} (hP : va_P D ncl ws H) (hD : va_D A ws) (hF : ∀ q, va_A wc H.size q → A q) (isC isR : List Nat) (hC : isC.map (fun i => ws[i]?) = wc.map some) (hRr : isR.map (fun i => ws[i]?) = wr.map some) (hnr : va_nd isR = true) (hdis : ∀ i ∈ isR, i ∉ isC) (wn : S → va_W) (pm : List Nat) (hpn : va_nd pm = true) (hpm : ∀ u, pm.map (fun i => (wr ++ wf u)[i]?) = (wn u).map some)
    (ht : t.heap = H1) (hB : wB D (va_A wc H.size) wf u t) (hk : ∀ q : Nat, q < H.size → ¬ va_A wc H.size q → H1[q]? = H[q]?) : va_P D ncl (wn u) H1 ∧ va_D A (wn u) := by
  obtain ⟨h1, h2⟩ := va_join (w1 := wf u) hP hD isC isR hC hRr hnr hdis hk hF (by rw [← ht]; exact hB.1) hB.2
  exact ⟨h1.sub pm (mp_fm pm (hpm u)), h2.sub pm hpn (hpm u)⟩
theorem w_calli {post : Int32 → S → Prop} (hr : va_Run p l e R s m args below meth c H locs cells slots mc ms (F0 m pc ls st0) rest (va_Qi post (wB D (va_A wc H.size) wf) (va_A wc H.size) a) (va_A wc H.size)) (hP : va_P D ncl ws H) (hD : va_D A ws) (hS : va_S A s.heap H locs) (hA : ∀ q, s.heap.size ≤ q → A q)
    (isC isR : List Nat) (hC : isC.map (fun i => ws[i]?) = wc.map some) (hRr : isR.map (fun i => ws[i]?) = wr.map some) (hnr : va_nd isR = true) (hdis : ∀ i ∈ isR, i ∉ isC) (wn : S → va_W) (pm : List Nat) (hpn : va_nd pm = true) (hpm : ∀ u, pm.map (fun i => (wr ++ wf u)[i]?) = (wn u).map some)
    (kk : ∀ (r : Int32) (u : S) (H1 : Heap) (locs1 : List Loc), post r u → va_P D ncl (wn u) H1 → va_D A (wn u) → va_S A s.heap H1 locs1 → W p l e R s m args below meth c H1 locs1 (cells + mc) (slots + ms) Q (F0 m (pc + 3) ls (.int r :: rest))) : W p l e R s m args below meth c H locs cells slots Q (F0 m pc ls st0) := by
  have hF := va_free (wc := wc) hD hS hA isC hC
  refine va_calli hr hS (fun q _ h => hF q h) hF (fun r u t H1 locs1 ht hvm hp hB hz hk hS1 => ?_)
  obtain ⟨h1, h2⟩ := w_back hP hD hF isC isR hC hRr hnr hdis wn pm hpn hpm ht hB hk
  exact kk r u H1 locs1 hp h1 h2 hS1
theorem w_calll {post : Int64 → S → Prop} (hr : va_Run p l e R s m args below meth c H locs cells slots mc ms (F0 m pc ls st0) rest (va_Ql post (wB D (va_A wc H.size) wf) (va_A wc H.size) a) (va_A wc H.size)) (hP : va_P D ncl ws H) (hD : va_D A ws) (hS : va_S A s.heap H locs) (hA : ∀ q, s.heap.size ≤ q → A q)
    (isC isR : List Nat) (hC : isC.map (fun i => ws[i]?) = wc.map some) (hRr : isR.map (fun i => ws[i]?) = wr.map some) (hnr : va_nd isR = true) (hdis : ∀ i ∈ isR, i ∉ isC) (wn : S → va_W) (pm : List Nat) (hpn : va_nd pm = true) (hpm : ∀ u, pm.map (fun i => (wr ++ wf u)[i]?) = (wn u).map some)
    (kk : ∀ (r : Int64) (u : S) (H1 : Heap) (locs1 : List Loc), post r u → va_P D ncl (wn u) H1 → va_D A (wn u) → va_S A s.heap H1 locs1 → W p l e R s m args below meth c H1 locs1 (cells + mc) (slots + ms) Q (F0 m (pc + 3) ls (.long r :: rest))) : W p l e R s m args below meth c H locs cells slots Q (F0 m pc ls st0) := by
  have hF := va_free (wc := wc) hD hS hA isC hC
  refine va_calll hr hS (fun q _ h => hF q h) hF (fun r u t H1 locs1 ht hvm hp hB hz hk hS1 => ?_)
  obtain ⟨h1, h2⟩ := w_back hP hD hF isC isR hC hRr hnr hdis wn pm hpn hpm ht hB hk
  exact kk r u H1 locs1 hp h1 h2 hS1
theorem w_callv {post : S → Prop} (hr : va_Run p l e R s m args below meth c H locs cells slots mc ms (F0 m pc ls st0) rest (va_Qv post (wB D (va_A wc H.size) wf) (va_A wc H.size) a) (va_A wc H.size)) (hP : va_P D ncl ws H) (hD : va_D A ws) (hS : va_S A s.heap H locs) (hA : ∀ q, s.heap.size ≤ q → A q)
    (isC isR : List Nat) (hC : isC.map (fun i => ws[i]?) = wc.map some) (hRr : isR.map (fun i => ws[i]?) = wr.map some) (hnr : va_nd isR = true) (hdis : ∀ i ∈ isR, i ∉ isC) (wn : S → va_W) (pm : List Nat) (hpn : va_nd pm = true) (hpm : ∀ u, pm.map (fun i => (wr ++ wf u)[i]?) = (wn u).map some)
    (kk : ∀ (u : S) (H1 : Heap) (locs1 : List Loc), post u → va_P D ncl (wn u) H1 → va_D A (wn u) → va_S A s.heap H1 locs1 → W p l e R s m args below meth c H1 locs1 (cells + mc) (slots + ms) Q (F0 m (pc + 3) ls rest)) : W p l e R s m args below meth c H locs cells slots Q (F0 m pc ls st0) := by
  have hF := va_free (wc := wc) hD hS hA isC hC
  refine va_callv hr hS (fun q _ h => hF q h) hF (fun u t H1 locs1 ht hvm hp hB hz hk hS1 => ?_)
  obtain ⟨h1, h2⟩ := w_back hP hD hF isC isR hC hRr hnr hdis wn pm hpn hpm ht hB hk
  exact kk u H1 locs1 hp h1 h2 hS1
end WD
end
section
/-! longs by the integers behind them; small rows -/
def lZ (z : Int) : Int64 := Int64.ofInt z
theorem lZ_toInt {z : Int} (h1 : -9000000000000000000 ≤ z) (h2 : z ≤ 9000000000000000000) : (lZ z).toInt = z := Int64.toInt_ofInt_of_le (by omega) (by omega)
theorem lZ_of (x : Int64) : lZ x.toInt = x := Int64.ofInt_toInt x
theorem lZ_nat (n : Nat) : lZ (n : Int) = lN n := Int64.ofInt_eq_ofNat
theorem lZ_add (a b : Int) : lZ a + lZ b = lZ (a + b) := (Int64.ofInt_add a b).symm
theorem lZ_sub (a b : Int) : lZ a - lZ b = lZ (a - b) := (Int64.ofInt_sub a b).symm
theorem lZ_mul (a b : Int) : lZ a * lZ b = lZ (a * b) := (Int64.ofInt_mul a b).symm
theorem lZ_neg (a : Int) : -lZ a = lZ (-a) := (Int64.ofInt_neg a).symm
theorem lZ_lt {a b : Int} (a1 : -9000000000000000000 ≤ a) (a2 : a ≤ 9000000000000000000) (b1 : -9000000000000000000 ≤ b) (b2 : b ≤ 9000000000000000000) : lZ a < lZ b ↔ a < b := by
  rw [Int64.lt_iff_toInt_lt, lZ_toInt a1 a2, lZ_toInt b1 b2]
theorem lZ_le {a b : Int} (a1 : -9000000000000000000 ≤ a) (a2 : a ≤ 9000000000000000000) (b1 : -9000000000000000000 ≤ b) (b2 : b ≤ 9000000000000000000) : lZ a ≤ lZ b ↔ a ≤ b := by
  rw [Int64.le_iff_toInt_le, lZ_toInt a1 a2, lZ_toInt b1 b2]
theorem lZ_eq {a b : Int} (a1 : -9000000000000000000 ≤ a) (a2 : a ≤ 9000000000000000000) (b1 : -9000000000000000000 ≤ b) (b2 : b ≤ 9000000000000000000) : lZ a = lZ b ↔ a = b := by
  rw [← Int64.toInt_inj, lZ_toInt a1 a2, lZ_toInt b1 b2]
theorem lZ_div {a b : Int} (a1 : 0 ≤ a) (a2 : a ≤ 9000000000000000000) (b1 : 0 < b) (b2 : b ≤ 9000000000000000000) : lZ a / lZ b = lZ (a / b) := by
  obtain ⟨n, rfl⟩ := Int.eq_ofNat_of_zero_le a1
  obtain ⟨m, rfl⟩ := Int.eq_ofNat_of_zero_le (Int.le_of_lt b1)
  rw [lZ_nat, lZ_nat, pk_lDiv (by omega) (by omega) (by omega), ← lZ_nat, Int.natCast_ediv]
theorem iN_i2l {n : Nat} (h : n < 2 ^ 31) : (nI n).toInt64 = lZ n := by rw [nI_l h, lZ_nat]
theorem nI_sub {a b : Nat} (h : b ≤ a) : nI a - nI b = nI (a - b) := pk_sub h
theorem up_s {α : Type} (f : Nat → α) (k : Nat) (v : α) : va_up f k v k = v := by simp [va_up]
theorem up_n {α : Type} (f : Nat → α) {k j : Nat} (v : α) (h : j ≠ k) : va_up f k v j = f j := by simp [va_up, h]
theorem upd_s (f : Nat → Int32) (k : Nat) (v : Int32) : upd f k v k = v := pk_us
theorem upd_n (f : Nat → Int32) {k j : Nat} (v : Int32) (h : j ≠ k) : upd f k v j = f j := pk_un h
theorem updL_s (f : Nat → Int64) (k : Nat) (v : Int64) : vp_updL f k v k = v := pk_uLs
theorem updL_n (f : Nat → Int64) {k j : Nat} (v : Int64) (h : j ≠ k) : vp_updL f k v j = f j := pk_uLn h
theorem mmin_n {a b : Nat} (ha : a < 2 ^ 31) (hb : b < 2 ^ 31) : (if nI b < nI a then nI b else nI a) = nI (min a b) := by
  by_cases h : b < a
  · rw [if_pos ((nI_ltI hb ha).mpr h), Nat.min_eq_right (by omega)]
  · rw [if_neg (fun q => h ((nI_ltI hb ha).mp q)), Nat.min_eq_left (by omega)]
theorem mmax_n {a b : Nat} (ha : a < 2 ^ 31) (hb : b < 2 ^ 31) : (if nI a < nI b then nI b else nI a) = nI (max a b) := by
  by_cases h : a < b
  · rw [if_pos ((nI_ltI ha hb).mpr h), Nat.max_eq_right (by omega)]
  · rw [if_neg (fun q => h ((nI_ltI ha hb).mp q)), Nat.max_eq_left (by omega)]
end
section
/-! the search, pure: rows as (kind, copies taken) -/
def sr_cop (c : List (Nat × Nat)) : Nat := (c.map (fun r => r.2)).sum
def sr_bet (c b : List (Nat × Nat)) : Bool := decide (sr_cop b < sr_cop c) || (decide (sr_cop c = sr_cop b) && decide (c.length < b.length))
def sr_keep (b c : List (Nat × Nat)) : List (Nat × Nat) := if sr_bet c b = true then c else b
/-- all rows behind what is laid, the lower kinds first, a row ahead of what is laid upon it -/
def sr_cands (room : Nat → Nat) (hi : Nat → Int) (gap : Int) : Nat → Nat → Int → (Nat → Nat) → List (List (Nat × Nat))
  | 0, _, _, _ => []
  | f + 1, first, free, wl => (List.range' first (8 - first)).flatMap (fun k =>
      if 0 < min (room k) (wl (k / 2)) ∧ hi k ≤ free then
        [(k, min (room k) (wl (k / 2)))] :: (sr_cands room hi gap f k (free - hi k - gap) (va_up wl (k / 2) (wl (k / 2) - min (room k) (wl (k / 2))))).map (fun c => (k, min (room k) (wl (k / 2))) :: c)
      else [])
/-- the search as the class does it: with what it leaves out -/
def sr_try (room : Nat → Nat) (hi : Nat → Int) (gap : Int) (mr : Nat) : Nat → List (Nat × Nat) → Nat → Int → (Nat → Nat) → List (Nat × Nat) → List (Nat × Nat)
  | 0, _, _, _, _, best => best
  | f + 1, pre, first, free, wl, best =>
    if sr_cop pre + (f + 1) * mr ≤ sr_cop best then best else
      (List.range' first (8 - first)).foldl (fun b k =>
        if 0 < min (room k) (wl (k / 2)) ∧ hi k ≤ free then
          sr_try room hi gap mr f (pre ++ [(k, min (room k) (wl (k / 2)))]) k (free - hi k - gap) (va_up wl (k / 2) (wl (k / 2) - min (room k) (wl (k / 2)))) (sr_keep b (pre ++ [(k, min (room k) (wl (k / 2)))]))
        else b) best
theorem sr_cop_app (a b : List (Nat × Nat)) : sr_cop (a ++ b) = sr_cop a + sr_cop b := by
  simp [sr_cop]
theorem sr_cands_spec (room : Nat → Nat) (hi : Nat → Int) (gap : Int) (mr : Nat) (hmr : ∀ k, room k ≤ mr) : ∀ (f first : Nat) (free : Int) (wl : Nat → Nat) (c : List (Nat × Nat)), c ∈ sr_cands room hi gap f first free wl → 1 ≤ c.length ∧ c.length ≤ f ∧ sr_cop c ≤ c.length * mr ∧ c.length ≤ sr_cop c := by
  intro f
  induction f with
  | zero => intro first free wl c h; simp [sr_cands] at h
  | succ f ih =>
    intro first free wl c h
    simp only [sr_cands, List.mem_flatMap] at h
    obtain ⟨k, -, h⟩ := h
    split at h
    · rcases List.mem_cons.mp h with rfl | h
      · rename_i hk
        have := hmr k
        refine ⟨by simp, by simp, ?_, ?_⟩ <;> simp [sr_cop] <;> omega
      · obtain ⟨d, hd, rfl⟩ := List.mem_map.mp h
        rename_i hk
        obtain ⟨h1, h2, h3, h4⟩ := ih _ _ _ _ hd
        have := hmr k
        have e : sr_cop ((k, min (room k) (wl (k / 2))) :: d) = min (room k) (wl (k / 2)) + sr_cop d := by simp [sr_cop]
        refine ⟨by simp, by simp; omega, ?_, ?_⟩
        · rw [e, List.length_cons, Nat.succ_mul]
          omega
        · rw [e, List.length_cons]
          omega
    · simp at h
theorem sr_fold_same {α : Type} (l : List α) (g : α → List (Nat × Nat)) (best : List (Nat × Nat)) (h : ∀ c ∈ l, sr_bet (g c) best = false) : l.foldl (fun b c => sr_keep b (g c)) best = best := by
  induction l with
  | nil => rfl
  | cons c l ih =>
    rw [List.foldl_cons]
    have h1 : sr_keep best (g c) = best := by simp [sr_keep, h c List.mem_cons_self]
    rw [h1]
    exact ih (fun d hd => h d (List.mem_cons_of_mem _ hd))
theorem sr_keep_len {b c : List (Nat × Nat)} {n : Nat} (hb : b.length ≤ n) (hc : c.length ≤ n) : (sr_keep b c).length ≤ n := by
  unfold sr_keep; split <;> assumption
theorem sr_fold_len {α : Type} (l : List α) (g : α → List (Nat × Nat)) (n : Nat) : ∀ (best : List (Nat × Nat)), best.length ≤ n → (∀ c ∈ l, (g c).length ≤ n) → (l.foldl (fun b c => sr_keep b (g c)) best).length ≤ n := by
  induction l with
  | nil => intro best h _; exact h
  | cons c l ih =>
    intro best h hc
    rw [List.foldl_cons]
    exact ih _ (sr_keep_len h (hc c List.mem_cons_self)) (fun d hd => hc d (List.mem_cons_of_mem _ hd))
theorem sr_foldl_inv {α β : Type} (P : β → Prop) (f g : β → α → β) : ∀ (l : List α) (b : β), P b → (∀ b x, x ∈ l → P b → f b x = g b x ∧ P (g b x)) → l.foldl f b = l.foldl g b := by
  intro l
  induction l with
  | nil => intro b _ _; rfl
  | cons x l ih =>
    intro b hb h
    obtain ⟨h1, h2⟩ := h b x List.mem_cons_self hb
    rw [List.foldl_cons, List.foldl_cons, h1]
    exact ih _ h2 (fun b y hy => h b y (List.mem_cons_of_mem _ hy))
/-- what is left out changes nothing -/
theorem sr_try_eq (room : Nat → Nat) (hi : Nat → Int) (gap : Int) (mr : Nat) (hmr : ∀ k, room k ≤ mr) : ∀ (f : Nat) (pre : List (Nat × Nat)) (first : Nat) (free : Int) (wl : Nat → Nat) (best : List (Nat × Nat)), best.length ≤ pre.length + f →
    sr_try room hi gap mr f pre first free wl best = (sr_cands room hi gap f first free wl).foldl (fun b c => sr_keep b (pre ++ c)) best := by
  intro f
  induction f with
  | zero => intro pre first free wl best _; simp [sr_try, sr_cands]
  | succ f ih =>
    intro pre first free wl best hb
    have hspec := sr_cands_spec room hi gap mr hmr (f + 1) first free wl
    rw [sr_try]
    split
    · rename_i hcut
      symm
      apply sr_fold_same
      intro c hc
      obtain ⟨h1, h2, h3, h5⟩ := hspec c hc
      have h4 : c.length * mr ≤ (f + 1) * mr := Nat.mul_le_mul_right mr h2
      simp only [sr_bet, sr_cop_app, List.length_append, Bool.or_eq_false_iff, decide_eq_false_iff_not, Bool.and_eq_false_iff]
      refine ⟨by omega, ?_⟩
      by_cases hl : c.length = f + 1
      · right; omega
      · left
        have hm : 0 < mr := by
          rcases Nat.eq_zero_or_pos mr with h | h
          · rw [h, Nat.mul_zero] at h3; omega
          · exact h
        have : c.length * mr < (f + 1) * mr := (Nat.mul_lt_mul_right hm).mpr (by omega)
        omega
    · rw [sr_cands, List.foldl_flatMap]
      refine sr_foldl_inv (fun b => b.length ≤ pre.length + (f + 1)) _ _ _ _ hb ?_
      intro b k _ hbl
      split
      · rename_i hk
        have hpl : (pre ++ [(k, min (room k) (wl (k / 2)))]).length = pre.length + 1 := by simp
        have hb1 : (sr_keep b (pre ++ [(k, min (room k) (wl (k / 2)))])).length ≤ pre.length + (f + 1) := sr_keep_len hbl (by rw [hpl]; omega)
        rw [List.foldl_cons, List.foldl_map, ih _ _ _ _ _ (by rw [hpl]; omega)]
        refine ⟨by simp, ?_⟩
        have := sr_fold_len (sr_cands room hi gap f k (free - hi k - gap) (va_up wl (k / 2) (wl (k / 2) - min (room k) (wl (k / 2))))) (fun c => pre ++ (k, min (room k) (wl (k / 2))) :: c) (pre.length + (f + 1)) _ hb1 (fun c hc => by
          obtain ⟨-, h2, -⟩ := sr_cands_spec room hi gap mr hmr f k _ _ c hc
          simp; omega)
        exact this
      · exact ⟨by simp, by simpa using hbl⟩
end
