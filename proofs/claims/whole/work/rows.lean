section
-- ===== PART A: goes FIRST, ahead of the names: the tables' words, and 'selects' of the private methods out of them =====
/-- a private method of a class that the tables say can be made, by its rows of tables_1 -/
def lw_okq (q : MethodName × Nat) : Prop := (q.1.cls ≠ "java/lang/invoke/MethodHandle" ∧ q.1.cls ≠ "java/lang/invoke/VarHandle") ∧ Cond.instantiable q.1.cls q.2 ∈ tables_1 ∧ Cond.privateMethod q.1 ∈ tables_1 ∧ Cond.instanceMethod q.1 ∈ tables_1
theorem lw_p0 : lw_okq (⟨"StyleCascade", "beginChange", "()V"⟩, 4) := ⟨⟨by decide +kernel, by decide +kernel⟩, List.mem_of_getElem? (i := 14) (by decide +kernel), List.mem_of_getElem? (i := 204) (by decide +kernel), List.mem_of_getElem? (i := 205) (by decide +kernel)⟩
theorem lw_p1 : lw_okq (⟨"StyleCascade$History", "slot", "(I)LStyleCascade$State;"⟩, 3) := ⟨⟨by decide +kernel, by decide +kernel⟩, List.mem_of_getElem? (i := 94) (by decide +kernel), List.mem_of_getElem? (i := 212) (by decide +kernel), List.mem_of_getElem? (i := 213) (by decide +kernel)⟩
theorem lw_p2 : lw_okq (⟨"StyleCascade$Outcome", "weighRules", "(LStyleCascade$State;I)V"⟩, 8) := ⟨⟨by decide +kernel, by decide +kernel⟩, List.mem_of_getElem? (i := 113) (by decide +kernel), List.mem_of_getElem? (i := 306) (by decide +kernel), List.mem_of_getElem? (i := 307) (by decide +kernel)⟩
theorem lw_p3 : lw_okq (⟨"StyleCascade$Outcome", "chooseWinners", "(LStyleCascade$Rules;I)V"⟩, 8) := ⟨⟨by decide +kernel, by decide +kernel⟩, List.mem_of_getElem? (i := 113) (by decide +kernel), List.mem_of_getElem? (i := 341) (by decide +kernel), List.mem_of_getElem? (i := 342) (by decide +kernel)⟩
theorem lw_p4 : lw_okq (⟨"StyleCascade$Outcome", "strongest", "(LStyleCascade$Rules;III)I"⟩, 8) := ⟨⟨by decide +kernel, by decide +kernel⟩, List.mem_of_getElem? (i := 113) (by decide +kernel), List.mem_of_getElem? (i := 349) (by decide +kernel), List.mem_of_getElem? (i := 350) (by decide +kernel)⟩
theorem lw_p5 : lw_okq (⟨"StyleCascade$Outcome", "strengthOn", "(II)I"⟩, 8) := ⟨⟨by decide +kernel, by decide +kernel⟩, List.mem_of_getElem? (i := 113) (by decide +kernel), List.mem_of_getElem? (i := 361) (by decide +kernel), List.mem_of_getElem? (i := 362) (by decide +kernel)⟩
theorem lw_p6 : lw_okq (⟨"StyleCascade$Outcome", "findCycles", "(LStyleCascade$Rules;I)V"⟩, 8) := ⟨⟨by decide +kernel, by decide +kernel⟩, List.mem_of_getElem? (i := 113) (by decide +kernel), List.mem_of_getElem? (i := 366) (by decide +kernel), List.mem_of_getElem? (i := 367) (by decide +kernel)⟩
theorem lw_p7 : lw_okq (⟨"StyleCascade$Outcome", "cycleFrom", "(LStyleCascade$Rules;II)I"⟩, 8) := ⟨⟨by decide +kernel, by decide +kernel⟩, List.mem_of_getElem? (i := 113) (by decide +kernel), List.mem_of_getElem? (i := 370) (by decide +kernel), List.mem_of_getElem? (i := 371) (by decide +kernel)⟩
theorem lw_p8 : lw_okq (⟨"StyleCascade$Outcome", "giveValues", "(LStyleCascade$State;I)V"⟩, 8) := ⟨⟨by decide +kernel, by decide +kernel⟩, List.mem_of_getElem? (i := 113) (by decide +kernel), List.mem_of_getElem? (i := 379) (by decide +kernel), List.mem_of_getElem? (i := 380) (by decide +kernel)⟩
theorem lw_p9 : lw_okq (⟨"StyleCascade$Outcome", "giveValue", "(LStyleCascade$State;II)V"⟩, 8) := ⟨⟨by decide +kernel, by decide +kernel⟩, List.mem_of_getElem? (i := 113) (by decide +kernel), List.mem_of_getElem? (i := 383) (by decide +kernel), List.mem_of_getElem? (i := 384) (by decide +kernel)⟩
theorem lw_p10 : lw_okq (⟨"StyleCascade$Outcome", "given", "(LStyleCascade$Rules;II)I"⟩, 8) := ⟨⟨by decide +kernel, by decide +kernel⟩, List.mem_of_getElem? (i := 113) (by decide +kernel), List.mem_of_getElem? (i := 394) (by decide +kernel), List.mem_of_getElem? (i := 395) (by decide +kernel)⟩
theorem lw_p11 : lw_okq (⟨"StyleCascade$Text", "parseHead", "(I)V"⟩, 6) := ⟨⟨by decide +kernel, by decide +kernel⟩, List.mem_of_getElem? (i := 146) (by decide +kernel), List.mem_of_getElem? (i := 596) (by decide +kernel), List.mem_of_getElem? (i := 597) (by decide +kernel)⟩
theorem lw_p12 : lw_okq (⟨"StyleCascade$Text", "partAfter", "(CIII)I"⟩, 6) := ⟨⟨by decide +kernel, by decide +kernel⟩, List.mem_of_getElem? (i := 146) (by decide +kernel), List.mem_of_getElem? (i := 600) (by decide +kernel), List.mem_of_getElem? (i := 601) (by decide +kernel)⟩
theorem lw_p13 : lw_okq (⟨"StyleCascade$Text", "accepts", "(C)Z"⟩, 6) := ⟨⟨by decide +kernel, by decide +kernel⟩, List.mem_of_getElem? (i := 146) (by decide +kernel), List.mem_of_getElem? (i := 604) (by decide +kernel), List.mem_of_getElem? (i := 605) (by decide +kernel)⟩
theorem lw_p14 : lw_okq (⟨"StyleCascade$Text", "current", "()I"⟩, 6) := ⟨⟨by decide +kernel, by decide +kernel⟩, List.mem_of_getElem? (i := 146) (by decide +kernel), List.mem_of_getElem? (i := 608) (by decide +kernel), List.mem_of_getElem? (i := 609) (by decide +kernel)⟩
theorem lw_p15 : lw_okq (⟨"StyleCascade$Text", "number", "(III)I"⟩, 6) := ⟨⟨by decide +kernel, by decide +kernel⟩, List.mem_of_getElem? (i := 146) (by decide +kernel), List.mem_of_getElem? (i := 613) (by decide +kernel), List.mem_of_getElem? (i := 614) (by decide +kernel)⟩
def lw_privs_1 : List (MethodName × Nat) := [(⟨"StyleCascade", "beginChange", "()V"⟩, 4), (⟨"StyleCascade$History", "slot", "(I)LStyleCascade$State;"⟩, 3), (⟨"StyleCascade$Outcome", "weighRules", "(LStyleCascade$State;I)V"⟩, 8), (⟨"StyleCascade$Outcome", "chooseWinners", "(LStyleCascade$Rules;I)V"⟩, 8), (⟨"StyleCascade$Outcome", "strongest", "(LStyleCascade$Rules;III)I"⟩, 8), (⟨"StyleCascade$Outcome", "strengthOn", "(II)I"⟩, 8), (⟨"StyleCascade$Outcome", "findCycles", "(LStyleCascade$Rules;I)V"⟩, 8), (⟨"StyleCascade$Outcome", "cycleFrom", "(LStyleCascade$Rules;II)I"⟩, 8), (⟨"StyleCascade$Outcome", "giveValues", "(LStyleCascade$State;I)V"⟩, 8), (⟨"StyleCascade$Outcome", "giveValue", "(LStyleCascade$State;II)V"⟩, 8), (⟨"StyleCascade$Outcome", "given", "(LStyleCascade$Rules;II)I"⟩, 8), (⟨"StyleCascade$Text", "parseHead", "(I)V"⟩, 6), (⟨"StyleCascade$Text", "partAfter", "(CIII)I"⟩, 6), (⟨"StyleCascade$Text", "accepts", "(C)Z"⟩, 6), (⟨"StyleCascade$Text", "current", "()I"⟩, 6), (⟨"StyleCascade$Text", "number", "(III)I"⟩, 6)]
theorem lw_r1 : ∀ q ∈ lw_privs_1, lw_okq q := List.forall_mem_cons.mpr ⟨lw_p0, List.forall_mem_cons.mpr ⟨lw_p1, List.forall_mem_cons.mpr ⟨lw_p2, List.forall_mem_cons.mpr ⟨lw_p3, List.forall_mem_cons.mpr ⟨lw_p4, List.forall_mem_cons.mpr ⟨lw_p5, List.forall_mem_cons.mpr ⟨lw_p6, List.forall_mem_cons.mpr ⟨lw_p7, List.forall_mem_cons.mpr ⟨lw_p8, List.forall_mem_cons.mpr ⟨lw_p9, List.forall_mem_cons.mpr ⟨lw_p10, List.forall_mem_cons.mpr ⟨lw_p11, List.forall_mem_cons.mpr ⟨lw_p12, List.forall_mem_cons.mpr ⟨lw_p13, List.forall_mem_cons.mpr ⟨lw_p14, List.forall_mem_cons.mpr ⟨lw_p15, fun _ h => absurd h List.not_mem_nil⟩⟩⟩⟩⟩⟩⟩⟩⟩⟩⟩⟩⟩⟩⟩⟩
theorem lw_p16 : lw_okq (⟨"StyleCascade$Text", "failForm", "()V"⟩, 6) := ⟨⟨by decide +kernel, by decide +kernel⟩, List.mem_of_getElem? (i := 146) (by decide +kernel), List.mem_of_getElem? (i := 618) (by decide +kernel), List.mem_of_getElem? (i := 619) (by decide +kernel)⟩
theorem lw_p17 : lw_okq (⟨"StyleCascade$Text", "failRange", "(I)V"⟩, 6) := ⟨⟨by decide +kernel, by decide +kernel⟩, List.mem_of_getElem? (i := 146) (by decide +kernel), List.mem_of_getElem? (i := 622) (by decide +kernel), List.mem_of_getElem? (i := 623) (by decide +kernel)⟩
theorem lw_p18 : lw_okq (⟨"StyleCascade$Text", "parseBody", "()V"⟩, 6) := ⟨⟨by decide +kernel, by decide +kernel⟩, List.mem_of_getElem? (i := 146) (by decide +kernel), List.mem_of_getElem? (i := 627) (by decide +kernel), List.mem_of_getElem? (i := 628) (by decide +kernel)⟩
theorem lw_p19 : lw_okq (⟨"StyleCascade$Text", "demand", "(C)V"⟩, 6) := ⟨⟨by decide +kernel, by decide +kernel⟩, List.mem_of_getElem? (i := 146) (by decide +kernel), List.mem_of_getElem? (i := 631) (by decide +kernel), List.mem_of_getElem? (i := 632) (by decide +kernel)⟩
theorem lw_p20 : lw_okq (⟨"StyleCascade$Text", "parseDeclaration", "()V"⟩, 6) := ⟨⟨by decide +kernel, by decide +kernel⟩, List.mem_of_getElem? (i := 146) (by decide +kernel), List.mem_of_getElem? (i := 635) (by decide +kernel), List.mem_of_getElem? (i := 636) (by decide +kernel)⟩
theorem lw_p21 : lw_okq (⟨"StyleCascadeModel", "isElement", "(I)Z"⟩, 14) := ⟨⟨by decide +kernel, by decide +kernel⟩, List.mem_of_getElem? (i := 654) (by decide +kernel), List.mem_of_getElem? (i := 709) (by decide +kernel), List.mem_of_getElem? (i := 710) (by decide +kernel)⟩
theorem lw_p22 : lw_okq (⟨"StyleCascadeModel", "records", "()V"⟩, 14) := ⟨⟨by decide +kernel, by decide +kernel⟩, List.mem_of_getElem? (i := 654) (by decide +kernel), List.mem_of_getElem? (i := 719) (by decide +kernel), List.mem_of_getElem? (i := 720) (by decide +kernel)⟩
theorem lw_p23 : lw_okq (⟨"StyleCascadeModel", "of", "(II)I"⟩, 14) := ⟨⟨by decide +kernel, by decide +kernel⟩, List.mem_of_getElem? (i := 654) (by decide +kernel), List.mem_of_getElem? (i := 727) (by decide +kernel), List.mem_of_getElem? (i := 728) (by decide +kernel)⟩
theorem lw_p24 : lw_okq (⟨"StyleCascadeModel", "stepsTo", "(II)I"⟩, 14) := ⟨⟨by decide +kernel, by decide +kernel⟩, List.mem_of_getElem? (i := 654) (by decide +kernel), List.mem_of_getElem? (i := 739) (by decide +kernel), List.mem_of_getElem? (i := 740) (by decide +kernel)⟩
theorem lw_p25 : lw_okq (⟨"StyleCascadeModel", "matching", "(I)I"⟩, 14) := ⟨⟨by decide +kernel, by decide +kernel⟩, List.mem_of_getElem? (i := 654) (by decide +kernel), List.mem_of_getElem? (i := 743) (by decide +kernel), List.mem_of_getElem? (i := 744) (by decide +kernel)⟩
theorem lw_p26 : lw_okq (⟨"StyleCascadeModel", "meets", "(II)Z"⟩, 14) := ⟨⟨by decide +kernel, by decide +kernel⟩, List.mem_of_getElem? (i := 654) (by decide +kernel), List.mem_of_getElem? (i := 747) (by decide +kernel), List.mem_of_getElem? (i := 748) (by decide +kernel)⟩
theorem lw_p27 : lw_okq (⟨"StyleCascadeModel", "cycles", "(I)I"⟩, 14) := ⟨⟨by decide +kernel, by decide +kernel⟩, List.mem_of_getElem? (i := 654) (by decide +kernel), List.mem_of_getElem? (i := 751) (by decide +kernel), List.mem_of_getElem? (i := 752) (by decide +kernel)⟩
theorem lw_p28 : lw_okq (⟨"StyleCascadeModel", "cycleOf", "(II)I"⟩, 14) := ⟨⟨by decide +kernel, by decide +kernel⟩, List.mem_of_getElem? (i := 654) (by decide +kernel), List.mem_of_getElem? (i := 755) (by decide +kernel), List.mem_of_getElem? (i := 756) (by decide +kernel)⟩
theorem lw_p29 : lw_okq (⟨"StyleCascadeModel", "leadsTo", "(II)I"⟩, 14) := ⟨⟨by decide +kernel, by decide +kernel⟩, List.mem_of_getElem? (i := 654) (by decide +kernel), List.mem_of_getElem? (i := 759) (by decide +kernel), List.mem_of_getElem? (i := 760) (by decide +kernel)⟩
theorem lw_p30 : lw_okq (⟨"StyleCascadeModel", "winnerOf", "(II)I"⟩, 14) := ⟨⟨by decide +kernel, by decide +kernel⟩, List.mem_of_getElem? (i := 654) (by decide +kernel), List.mem_of_getElem? (i := 763) (by decide +kernel), List.mem_of_getElem? (i := 764) (by decide +kernel)⟩
theorem lw_p31 : lw_okq (⟨"StyleCascadeModel", "orders", "(II)I"⟩, 14) := ⟨⟨by decide +kernel, by decide +kernel⟩, List.mem_of_getElem? (i := 654) (by decide +kernel), List.mem_of_getElem? (i := 767) (by decide +kernel), List.mem_of_getElem? (i := 768) (by decide +kernel)⟩
def lw_privs_2 : List (MethodName × Nat) := [(⟨"StyleCascade$Text", "failForm", "()V"⟩, 6), (⟨"StyleCascade$Text", "failRange", "(I)V"⟩, 6), (⟨"StyleCascade$Text", "parseBody", "()V"⟩, 6), (⟨"StyleCascade$Text", "demand", "(C)V"⟩, 6), (⟨"StyleCascade$Text", "parseDeclaration", "()V"⟩, 6), (⟨"StyleCascadeModel", "isElement", "(I)Z"⟩, 14), (⟨"StyleCascadeModel", "records", "()V"⟩, 14), (⟨"StyleCascadeModel", "of", "(II)I"⟩, 14), (⟨"StyleCascadeModel", "stepsTo", "(II)I"⟩, 14), (⟨"StyleCascadeModel", "matching", "(I)I"⟩, 14), (⟨"StyleCascadeModel", "meets", "(II)Z"⟩, 14), (⟨"StyleCascadeModel", "cycles", "(I)I"⟩, 14), (⟨"StyleCascadeModel", "cycleOf", "(II)I"⟩, 14), (⟨"StyleCascadeModel", "leadsTo", "(II)I"⟩, 14), (⟨"StyleCascadeModel", "winnerOf", "(II)I"⟩, 14), (⟨"StyleCascadeModel", "orders", "(II)I"⟩, 14)]
theorem lw_r2 : ∀ q ∈ lw_privs_2, lw_okq q := List.forall_mem_cons.mpr ⟨lw_p16, List.forall_mem_cons.mpr ⟨lw_p17, List.forall_mem_cons.mpr ⟨lw_p18, List.forall_mem_cons.mpr ⟨lw_p19, List.forall_mem_cons.mpr ⟨lw_p20, List.forall_mem_cons.mpr ⟨lw_p21, List.forall_mem_cons.mpr ⟨lw_p22, List.forall_mem_cons.mpr ⟨lw_p23, List.forall_mem_cons.mpr ⟨lw_p24, List.forall_mem_cons.mpr ⟨lw_p25, List.forall_mem_cons.mpr ⟨lw_p26, List.forall_mem_cons.mpr ⟨lw_p27, List.forall_mem_cons.mpr ⟨lw_p28, List.forall_mem_cons.mpr ⟨lw_p29, List.forall_mem_cons.mpr ⟨lw_p30, List.forall_mem_cons.mpr ⟨lw_p31, fun _ h => absurd h List.not_mem_nil⟩⟩⟩⟩⟩⟩⟩⟩⟩⟩⟩⟩⟩⟩⟩⟩
theorem lw_p32 : lw_okq (⟨"StyleCascadeModel", "wins", "(III)I"⟩, 14) := ⟨⟨by decide +kernel, by decide +kernel⟩, List.mem_of_getElem? (i := 654) (by decide +kernel), List.mem_of_getElem? (i := 774) (by decide +kernel), List.mem_of_getElem? (i := 775) (by decide +kernel)⟩
theorem lw_p33 : lw_okq (⟨"StyleCascadeModel", "specificity", "(I)I"⟩, 14) := ⟨⟨by decide +kernel, by decide +kernel⟩, List.mem_of_getElem? (i := 654) (by decide +kernel), List.mem_of_getElem? (i := 778) (by decide +kernel), List.mem_of_getElem? (i := 779) (by decide +kernel)⟩
theorem lw_p34 : lw_okq (⟨"StyleCascadeModel", "inRules", "(Z)I"⟩, 14) := ⟨⟨by decide +kernel, by decide +kernel⟩, List.mem_of_getElem? (i := 654) (by decide +kernel), List.mem_of_getElem? (i := 786) (by decide +kernel), List.mem_of_getElem? (i := 787) (by decide +kernel)⟩
theorem lw_p35 : lw_okq (⟨"StyleCascadeModel", "isScope", "(I)Z"⟩, 14) := ⟨⟨by decide +kernel, by decide +kernel⟩, List.mem_of_getElem? (i := 654) (by decide +kernel), List.mem_of_getElem? (i := 798) (by decide +kernel), List.mem_of_getElem? (i := 799) (by decide +kernel)⟩
theorem lw_p36 : lw_okq (⟨"StyleCascadeModel", "appends", "(IIIIII)I"⟩, 14) := ⟨⟨by decide +kernel, by decide +kernel⟩, List.mem_of_getElem? (i := 654) (by decide +kernel), List.mem_of_getElem? (i := 802) (by decide +kernel), List.mem_of_getElem? (i := 803) (by decide +kernel)⟩
theorem lw_p37 : lw_okq (⟨"StyleCascadeModel", "isRule", "(I)Z"⟩, 14) := ⟨⟨by decide +kernel, by decide +kernel⟩, List.mem_of_getElem? (i := 654) (by decide +kernel), List.mem_of_getElem? (i := 810) (by decide +kernel), List.mem_of_getElem? (i := 811) (by decide +kernel)⟩
theorem lw_p38 : lw_okq (⟨"StyleCascadeModel", "lays", "(IIIII)V"⟩, 14) := ⟨⟨by decide +kernel, by decide +kernel⟩, List.mem_of_getElem? (i := 654) (by decide +kernel), List.mem_of_getElem? (i := 821) (by decide +kernel), List.mem_of_getElem? (i := 822) (by decide +kernel)⟩
theorem lw_p39 : lw_okq (⟨"StyleCascadeModel", "declarations", "(I)I"⟩, 14) := ⟨⟨by decide +kernel, by decide +kernel⟩, List.mem_of_getElem? (i := 654) (by decide +kernel), List.mem_of_getElem? (i := 825) (by decide +kernel), List.mem_of_getElem? (i := 826) (by decide +kernel)⟩
theorem lw_p40 : lw_okq (⟨"StyleCascadeModel", "settlesTo", "(I)V"⟩, 14) := ⟨⟨by decide +kernel, by decide +kernel⟩, List.mem_of_getElem? (i := 654) (by decide +kernel), List.mem_of_getElem? (i := 853) (by decide +kernel), List.mem_of_getElem? (i := 854) (by decide +kernel)⟩
theorem lw_p41 : lw_okq (⟨"StyleCascadeModel", "settlesAll", "(I)V"⟩, 14) := ⟨⟨by decide +kernel, by decide +kernel⟩, List.mem_of_getElem? (i := 654) (by decide +kernel), List.mem_of_getElem? (i := 857) (by decide +kernel), List.mem_of_getElem? (i := 858) (by decide +kernel)⟩
theorem lw_p42 : lw_okq (⟨"StyleCascadeModel", "settles", "(IIZ)V"⟩, 14) := ⟨⟨by decide +kernel, by decide +kernel⟩, List.mem_of_getElem? (i := 654) (by decide +kernel), List.mem_of_getElem? (i := 861) (by decide +kernel), List.mem_of_getElem? (i := 862) (by decide +kernel)⟩
theorem lw_p43 : lw_okq (⟨"StyleCascadeModel", "given", "(II)I"⟩, 14) := ⟨⟨by decide +kernel, by decide +kernel⟩, List.mem_of_getElem? (i := 654) (by decide +kernel), List.mem_of_getElem? (i := 865) (by decide +kernel), List.mem_of_getElem? (i := 866) (by decide +kernel)⟩
theorem lw_p44 : lw_okq (⟨"StyleCascadeModel", "faulty", "()I"⟩, 14) := ⟨⟨by decide +kernel, by decide +kernel⟩, List.mem_of_getElem? (i := 654) (by decide +kernel), List.mem_of_getElem? (i := 897) (by decide +kernel), List.mem_of_getElem? (i := 898) (by decide +kernel)⟩
theorem lw_p45 : lw_okq (⟨"StyleCascadeModel", "passes", "(C)Z"⟩, 14) := ⟨⟨by decide +kernel, by decide +kernel⟩, List.mem_of_getElem? (i := 654) (by decide +kernel), List.mem_of_getElem? (i := 901) (by decide +kernel), List.mem_of_getElem? (i := 902) (by decide +kernel)⟩
theorem lw_p46 : lw_okq (⟨"StyleCascadeModel", "number", "(III)I"⟩, 14) := ⟨⟨by decide +kernel, by decide +kernel⟩, List.mem_of_getElem? (i := 654) (by decide +kernel), List.mem_of_getElem? (i := 905) (by decide +kernel), List.mem_of_getElem? (i := 906) (by decide +kernel)⟩
theorem lw_p47 : lw_okq (⟨"StyleCascadeModel", "wants", "(C)V"⟩, 14) := ⟨⟨by decide +kernel, by decide +kernel⟩, List.mem_of_getElem? (i := 654) (by decide +kernel), List.mem_of_getElem? (i := 909) (by decide +kernel), List.mem_of_getElem? (i := 910) (by decide +kernel)⟩
def lw_privs_3 : List (MethodName × Nat) := [(⟨"StyleCascadeModel", "wins", "(III)I"⟩, 14), (⟨"StyleCascadeModel", "specificity", "(I)I"⟩, 14), (⟨"StyleCascadeModel", "inRules", "(Z)I"⟩, 14), (⟨"StyleCascadeModel", "isScope", "(I)Z"⟩, 14), (⟨"StyleCascadeModel", "appends", "(IIIIII)I"⟩, 14), (⟨"StyleCascadeModel", "isRule", "(I)Z"⟩, 14), (⟨"StyleCascadeModel", "lays", "(IIIII)V"⟩, 14), (⟨"StyleCascadeModel", "declarations", "(I)I"⟩, 14), (⟨"StyleCascadeModel", "settlesTo", "(I)V"⟩, 14), (⟨"StyleCascadeModel", "settlesAll", "(I)V"⟩, 14), (⟨"StyleCascadeModel", "settles", "(IIZ)V"⟩, 14), (⟨"StyleCascadeModel", "given", "(II)I"⟩, 14), (⟨"StyleCascadeModel", "faulty", "()I"⟩, 14), (⟨"StyleCascadeModel", "passes", "(C)Z"⟩, 14), (⟨"StyleCascadeModel", "number", "(III)I"⟩, 14), (⟨"StyleCascadeModel", "wants", "(C)V"⟩, 14)]
theorem lw_r3 : ∀ q ∈ lw_privs_3, lw_okq q := List.forall_mem_cons.mpr ⟨lw_p32, List.forall_mem_cons.mpr ⟨lw_p33, List.forall_mem_cons.mpr ⟨lw_p34, List.forall_mem_cons.mpr ⟨lw_p35, List.forall_mem_cons.mpr ⟨lw_p36, List.forall_mem_cons.mpr ⟨lw_p37, List.forall_mem_cons.mpr ⟨lw_p38, List.forall_mem_cons.mpr ⟨lw_p39, List.forall_mem_cons.mpr ⟨lw_p40, List.forall_mem_cons.mpr ⟨lw_p41, List.forall_mem_cons.mpr ⟨lw_p42, List.forall_mem_cons.mpr ⟨lw_p43, List.forall_mem_cons.mpr ⟨lw_p44, List.forall_mem_cons.mpr ⟨lw_p45, List.forall_mem_cons.mpr ⟨lw_p46, List.forall_mem_cons.mpr ⟨lw_p47, fun _ h => absurd h List.not_mem_nil⟩⟩⟩⟩⟩⟩⟩⟩⟩⟩⟩⟩⟩⟩⟩⟩
theorem lw_p48 : lw_okq (⟨"StyleCascadeModel", "declares", "()V"⟩, 14) := ⟨⟨by decide +kernel, by decide +kernel⟩, List.mem_of_getElem? (i := 654) (by decide +kernel), List.mem_of_getElem? (i := 913) (by decide +kernel), List.mem_of_getElem? (i := 914) (by decide +kernel)⟩
def lw_privs_4 : List (MethodName × Nat) := [(⟨"StyleCascadeModel", "declares", "()V"⟩, 14)]
theorem lw_r4 : ∀ q ∈ lw_privs_4, lw_okq q := List.forall_mem_cons.mpr ⟨lw_p48, fun _ h => absurd h List.not_mem_nil⟩
def lw_privs : List (MethodName × Nat) := lw_privs_1 ++ (lw_privs_2 ++ (lw_privs_3 ++ (lw_privs_4)))
def lw_tbl : List Cond := k2_sels lw_privs ++ tables_1
theorem lw_privs_ok : ∀ q ∈ lw_privs, lw_okq q := by
  show ∀ q ∈ lw_privs_1 ++ (lw_privs_2 ++ (lw_privs_3 ++ (lw_privs_4))), lw_okq q
  exact List.forall_mem_append.mpr ⟨lw_r1, List.forall_mem_append.mpr ⟨lw_r2, List.forall_mem_append.mpr ⟨lw_r3, lw_r4⟩⟩⟩
end
section
def RX0 : String := "StyleCascade$History"
def TX0 : u_T := fun k => match k with
  | 0 => ("StyleCascade$History", "ring", "[LStyleCascade$State;", true)
  | 1 => ("StyleCascade$History", "oldest", "I", false)
  | _ => ("StyleCascade$History", "size", "I", false)
def tyX0 : Nat → FieldType := fun k => match k with
  | 0 => .array (.object "StyleCascade$State")
  | 1 => .int
  | _ => .int
abbrev wsX00 : List Cond := u_ws RX0 TX0 3
theorem nmX0 : ∀ a, a < 3 → ∀ b, b < 3 → a ≠ b → (TX0 a).2.1 ≠ (TX0 b).2.1 := by decide +kernel
theorem tyX0_ok : ∀ k, k < 3 → parseFieldDescriptor (TX0 k).2.2.1 = some (tyX0 k) := by decide +kernel
abbrev cX0_init : ByteArray := prog_2_method_1_code
def yX0_init : MethodName := ⟨RX0, "<init>", "()V"⟩
abbrev cX0_size : ByteArray := prog_2_method_2_code
def yX0_size : MethodName := ⟨RX0, "size", "()I"⟩
abbrev cX0_record : ByteArray := prog_2_method_3_code
def yX0_record : MethodName := ⟨RX0, "record", "(LStyleCascade$State;)V"⟩
abbrev cX0_restore : ByteArray := prog_2_method_4_code
def yX0_restore : MethodName := ⟨RX0, "restore", "(LStyleCascade$State;)V"⟩
abbrev cX0_slot : ByteArray := prog_2_method_5_code
def yX0_slot : MethodName := ⟨RX0, "slot", "(I)LStyleCascade$State;"⟩
def RX1 : String := "StyleCascade$Outcome"
def TX1 : u_T := fun k => match k with
  | 0 => ("StyleCascade$Outcome", "isFresh", "Z", false)
  | 1 => ("StyleCascade$Outcome", "elements", "I", false)
  | 2 => ("StyleCascade$Outcome", "rules", "I", false)
  | 3 => ("StyleCascade$Outcome", "strengths", "LStyleCascade$Row;", true)
  | 4 => ("StyleCascade$Outcome", "winners", "LStyleCascade$Row;", true)
  | 5 => ("StyleCascade$Outcome", "cycles", "LStyleCascade$Row;", true)
  | 6 => ("StyleCascade$Outcome", "values", "LStyleCascade$Row;", true)
  | _ => ("StyleCascade$Outcome", "sources", "LStyleCascade$Row;", true)
def tyX1 : Nat → FieldType := fun k => match k with
  | 0 => .boolean
  | 1 => .int
  | 2 => .int
  | 3 => .object "StyleCascade$Row"
  | 4 => .object "StyleCascade$Row"
  | 5 => .object "StyleCascade$Row"
  | 6 => .object "StyleCascade$Row"
  | _ => .object "StyleCascade$Row"
abbrev wsX10 : List Cond := u_ws RX1 TX1 8
theorem nmX1 : ∀ a, a < 8 → ∀ b, b < 8 → a ≠ b → (TX1 a).2.1 ≠ (TX1 b).2.1 := by decide +kernel
theorem tyX1_ok : ∀ k, k < 8 → parseFieldDescriptor (TX1 k).2.2.1 = some (tyX1 k) := by decide +kernel
abbrev cX1_init : ByteArray := prog_3_method_1_code
def yX1_init : MethodName := ⟨RX1, "<init>", "()V"⟩
abbrev cX1_spoil : ByteArray := prog_3_method_2_code
def yX1_spoil : MethodName := ⟨RX1, "spoil", "()V"⟩
abbrev cX1_of : ByteArray := prog_3_method_3_code
def yX1_of : MethodName := ⟨RX1, "of", "(LStyleCascade$State;)LStyleCascade$Outcome;"⟩
abbrev cX1_weighRules : ByteArray := prog_3_method_4_code
def yX1_weighRules : MethodName := ⟨RX1, "weighRules", "(LStyleCascade$State;I)V"⟩
abbrev cX1_chooseWinners : ByteArray := prog_3_method_5_code
def yX1_chooseWinners : MethodName := ⟨RX1, "chooseWinners", "(LStyleCascade$Rules;I)V"⟩
abbrev cX1_strongest : ByteArray := prog_3_method_6_code
def yX1_strongest : MethodName := ⟨RX1, "strongest", "(LStyleCascade$Rules;III)I"⟩
abbrev cX1_findCycles : ByteArray := prog_3_method_7_code
def yX1_findCycles : MethodName := ⟨RX1, "findCycles", "(LStyleCascade$Rules;I)V"⟩
abbrev cX1_cycleFrom : ByteArray := prog_3_method_8_code
def yX1_cycleFrom : MethodName := ⟨RX1, "cycleFrom", "(LStyleCascade$Rules;II)I"⟩
abbrev cX1_giveValues : ByteArray := prog_3_method_9_code
def yX1_giveValues : MethodName := ⟨RX1, "giveValues", "(LStyleCascade$State;I)V"⟩
abbrev cX1_giveValue : ByteArray := prog_3_method_10_code
def yX1_giveValue : MethodName := ⟨RX1, "giveValue", "(LStyleCascade$State;II)V"⟩
abbrev cX1_given : ByteArray := prog_3_method_11_code
def yX1_given : MethodName := ⟨RX1, "given", "(LStyleCascade$Rules;II)I"⟩
abbrev cX1_isMatch : ByteArray := prog_3_method_12_code
def yX1_isMatch : MethodName := ⟨RX1, "isMatch", "(II)Z"⟩
abbrev cX1_rulesOn : ByteArray := prog_3_method_13_code
def yX1_rulesOn : MethodName := ⟨RX1, "rulesOn", "(I)I"⟩
abbrev cX1_elementsOf : ByteArray := prog_3_method_14_code
def yX1_elementsOf : MethodName := ⟨RX1, "elementsOf", "(I)I"⟩
abbrev cX1_cyclicOn : ByteArray := prog_3_method_15_code
def yX1_cyclicOn : MethodName := ⟨RX1, "cyclicOn", "(I)I"⟩
abbrev cX1_allCyclic : ByteArray := prog_3_method_16_code
def yX1_allCyclic : MethodName := ⟨RX1, "allCyclic", "()I"⟩
abbrev cX1_ruleInPlace : ByteArray := prog_3_method_17_code
def yX1_ruleInPlace : MethodName := ⟨RX1, "ruleInPlace", "(LStyleCascade$Rules;III)I"⟩
abbrev cX1_winnerOn : ByteArray := prog_3_method_18_code
def yX1_winnerOn : MethodName := ⟨RX1, "winnerOn", "(II)I"⟩
abbrev cX1_cycleOn : ByteArray := prog_3_method_19_code
def yX1_cycleOn : MethodName := ⟨RX1, "cycleOn", "(II)I"⟩
abbrev cX1_valueOn : ByteArray := prog_3_method_20_code
def yX1_valueOn : MethodName := ⟨RX1, "valueOn", "(II)I"⟩
abbrev cX1_sourceOn : ByteArray := prog_3_method_21_code
def yX1_sourceOn : MethodName := ⟨RX1, "sourceOn", "(II)I"⟩
abbrev cX1_strengthOn : ByteArray := prog_3_method_22_code
def yX1_strengthOn : MethodName := ⟨RX1, "strengthOn", "(II)I"⟩
abbrev cX1_cell : ByteArray := prog_3_method_23_code
def yX1_cell : MethodName := ⟨RX1, "cell", "(II)I"⟩
def RX2 : String := "StyleCascade$Row"
def TX2 : u_T := fun k => match k with
  | _ => ("StyleCascade$Row", "cells", "[I", true)
def tyX2 : Nat → FieldType := fun k => match k with
  | _ => .array .int
abbrev wsX20 : List Cond := u_ws RX2 TX2 1
theorem nmX2 : ∀ a, a < 1 → ∀ b, b < 1 → a ≠ b → (TX2 a).2.1 ≠ (TX2 b).2.1 := by decide +kernel
theorem tyX2_ok : ∀ k, k < 1 → parseFieldDescriptor (TX2 k).2.2.1 = some (tyX2 k) := by decide +kernel
abbrev cX2_init : ByteArray := prog_4_method_1_code
def yX2_init : MethodName := ⟨RX2, "<init>", "(I)V"⟩
abbrev cX2_at : ByteArray := prog_4_method_2_code
def yX2_at : MethodName := ⟨RX2, "at", "(I)I"⟩
abbrev cX2_put : ByteArray := prog_4_method_3_code
def yX2_put : MethodName := ⟨RX2, "put", "(II)V"⟩
abbrev cX2_putAll : ByteArray := prog_4_method_4_code
def yX2_putAll : MethodName := ⟨RX2, "putAll", "(III)V"⟩
abbrev cX2_copy : ByteArray := prog_4_method_5_code
def yX2_copy : MethodName := ⟨RX2, "copy", "(LStyleCascade$Row;)V"⟩
def RX3 : String := "StyleCascade$Rules"
def TX3 : u_T := fun k => match k with
  | 0 => ("StyleCascade$Rules", "size", "I", false)
  | 1 => ("StyleCascade$Rules", "parts", "LStyleCascade$Row;", true)
  | _ => ("StyleCascade$Rules", "entries", "LStyleCascade$Row;", true)
def tyX3 : Nat → FieldType := fun k => match k with
  | 0 => .int
  | 1 => .object "StyleCascade$Row"
  | _ => .object "StyleCascade$Row"
abbrev wsX30 : List Cond := u_ws RX3 TX3 3
theorem nmX3 : ∀ a, a < 3 → ∀ b, b < 3 → a ≠ b → (TX3 a).2.1 ≠ (TX3 b).2.1 := by decide +kernel
theorem tyX3_ok : ∀ k, k < 3 → parseFieldDescriptor (TX3 k).2.2.1 = some (tyX3 k) := by decide +kernel
abbrev cX3_init : ByteArray := prog_5_method_1_code
def yX3_init : MethodName := ⟨RX3, "<init>", "(I)V"⟩
abbrev cX3_size : ByteArray := prog_5_method_2_code
def yX3_size : MethodName := ⟨RX3, "size", "()I"⟩
abbrev cX3_has : ByteArray := prog_5_method_3_code
def yX3_has : MethodName := ⟨RX3, "has", "(I)Z"⟩
abbrev cX3_part : ByteArray := prog_5_method_4_code
def yX3_part : MethodName := ⟨RX3, "part", "(II)I"⟩
abbrev cX3_entry : ByteArray := prog_5_method_5_code
def yX3_entry : MethodName := ⟨RX3, "entry", "(III)I"⟩
abbrev cX3_refers : ByteArray := prog_5_method_6_code
def yX3_refers : MethodName := ⟨RX3, "refers", "(II)Z"⟩
abbrev cX3_declares : ByteArray := prog_5_method_7_code
def yX3_declares : MethodName := ⟨RX3, "declares", "(II)Z"⟩
abbrev cX3_haveScope : ByteArray := prog_5_method_8_code
def yX3_haveScope : MethodName := ⟨RX3, "haveScope", "(I)Z"⟩
abbrev cX3_specificity : ByteArray := prog_5_method_9_code
def yX3_specificity : MethodName := ⟨RX3, "specificity", "(I)I"⟩
abbrev cX3_declarationsOf : ByteArray := prog_5_method_10_code
def yX3_declarationsOf : MethodName := ⟨RX3, "declarationsOf", "(I)I"⟩
abbrev cX3_allDeclarations : ByteArray := prog_5_method_11_code
def yX3_allDeclarations : MethodName := ⟨RX3, "allDeclarations", "()I"⟩
abbrev cX3_allReferences : ByteArray := prog_5_method_12_code
def yX3_allReferences : MethodName := ⟨RX3, "allReferences", "()I"⟩
abbrev cX3_clear : ByteArray := prog_5_method_13_code
def yX3_clear : MethodName := ⟨RX3, "clear", "()V"⟩
abbrev cX3_append : ByteArray := prog_5_method_14_code
def yX3_append : MethodName := ⟨RX3, "append", "(IIIIII)I"⟩
abbrev cX3_appendFirstOf : ByteArray := prog_5_method_15_code
def yX3_appendFirstOf : MethodName := ⟨RX3, "appendFirstOf", "(LStyleCascade$Rules;)I"⟩
abbrev cX3_takeOut : ByteArray := prog_5_method_16_code
def yX3_takeOut : MethodName := ⟨RX3, "takeOut", "(I)I"⟩
abbrev cX3_setDeclaration : ByteArray := prog_5_method_17_code
def yX3_setDeclaration : MethodName := ⟨RX3, "setDeclaration", "(IIIII)V"⟩
abbrev cX3_copy : ByteArray := prog_5_method_18_code
def yX3_copy : MethodName := ⟨RX3, "copy", "(LStyleCascade$Rules;)V"⟩
def RX4 : String := "StyleCascade$State"
def TX4 : u_T := fun k => match k with
  | 0 => ("StyleCascade$State", "tree", "LStyleCascade$Tree;", true)
  | _ => ("StyleCascade$State", "rules", "LStyleCascade$Rules;", true)
def tyX4 : Nat → FieldType := fun k => match k with
  | 0 => .object "StyleCascade$Tree"
  | _ => .object "StyleCascade$Rules"
abbrev wsX40 : List Cond := u_ws RX4 TX4 2
theorem nmX4 : ∀ a, a < 2 → ∀ b, b < 2 → a ≠ b → (TX4 a).2.1 ≠ (TX4 b).2.1 := by decide +kernel
theorem tyX4_ok : ∀ k, k < 2 → parseFieldDescriptor (TX4 k).2.2.1 = some (tyX4 k) := by decide +kernel
abbrev cX4_init : ByteArray := prog_6_method_1_code
def yX4_init : MethodName := ⟨RX4, "<init>", "()V"⟩
abbrev cX4_fits : ByteArray := prog_6_method_2_code
def yX4_fits : MethodName := ⟨RX4, "fits", "(II)Z"⟩
abbrev cX4_rank : ByteArray := prog_6_method_3_code
def yX4_rank : MethodName := ⟨RX4, "rank", "(III)I"⟩
abbrev cX4_strength : ByteArray := prog_6_method_4_code
def yX4_strength : MethodName := ⟨RX4, "strength", "(II)I"⟩
abbrev cX4_criterion : ByteArray := prog_6_method_5_code
def yX4_criterion : MethodName := ⟨RX4, "criterion", "(III)I"⟩
abbrev cX4_copy : ByteArray := prog_6_method_6_code
def yX4_copy : MethodName := ⟨RX4, "copy", "(LStyleCascade$State;)V"⟩
def RX5 : String := "StyleCascade$Text"
def TX5 : u_T := fun k => match k with
  | 0 => ("StyleCascade$Text", "characters", "LStyleCascade$Row;", true)
  | 1 => ("StyleCascade$Text", "length", "I", false)
  | 2 => ("StyleCascade$Text", "draft", "LStyleCascade$Rules;", true)
  | 3 => ("StyleCascade$Text", "place", "I", false)
  | 4 => ("StyleCascade$Text", "formFault", "I", false)
  | _ => ("StyleCascade$Text", "rangeFault", "I", false)
def tyX5 : Nat → FieldType := fun k => match k with
  | 0 => .object "StyleCascade$Row"
  | 1 => .int
  | 2 => .object "StyleCascade$Rules"
  | 3 => .int
  | 4 => .int
  | _ => .int
abbrev wsX50 : List Cond := u_ws RX5 TX5 6
theorem nmX5 : ∀ a, a < 6 → ∀ b, b < 6 → a ≠ b → (TX5 a).2.1 ≠ (TX5 b).2.1 := by decide +kernel
theorem tyX5_ok : ∀ k, k < 6 → parseFieldDescriptor (TX5 k).2.2.1 = some (tyX5 k) := by decide +kernel
abbrev cX5_init : ByteArray := prog_7_method_1_code
def yX5_init : MethodName := ⟨RX5, "<init>", "()V"⟩
abbrev cX5_length : ByteArray := prog_7_method_2_code
def yX5_length : MethodName := ⟨RX5, "length", "()I"⟩
abbrev cX5_draft : ByteArray := prog_7_method_3_code
def yX5_draft : MethodName := ⟨RX5, "draft", "()LStyleCascade$Rules;"⟩
abbrev cX5_append : ByteArray := prog_7_method_4_code
def yX5_append : MethodName := ⟨RX5, "append", "(I)I"⟩
abbrev cX5_empty : ByteArray := prog_7_method_5_code
def yX5_empty : MethodName := ⟨RX5, "empty", "()I"⟩
abbrev cX5_parse : ByteArray := prog_7_method_6_code
def yX5_parse : MethodName := ⟨RX5, "parse", "(I)I"⟩
abbrev cX5_parseHead : ByteArray := prog_7_method_7_code
def yX5_parseHead : MethodName := ⟨RX5, "parseHead", "(I)V"⟩
abbrev cX5_partAfter : ByteArray := prog_7_method_8_code
def yX5_partAfter : MethodName := ⟨RX5, "partAfter", "(CIII)I"⟩
abbrev cX5_parseBody : ByteArray := prog_7_method_9_code
def yX5_parseBody : MethodName := ⟨RX5, "parseBody", "()V"⟩
abbrev cX5_parseDeclaration : ByteArray := prog_7_method_10_code
def yX5_parseDeclaration : MethodName := ⟨RX5, "parseDeclaration", "()V"⟩
abbrev cX5_number : ByteArray := prog_7_method_11_code
def yX5_number : MethodName := ⟨RX5, "number", "(III)I"⟩
abbrev cX5_demand : ByteArray := prog_7_method_12_code
def yX5_demand : MethodName := ⟨RX5, "demand", "(C)V"⟩
abbrev cX5_accepts : ByteArray := prog_7_method_13_code
def yX5_accepts : MethodName := ⟨RX5, "accepts", "(C)Z"⟩
abbrev cX5_current : ByteArray := prog_7_method_14_code
def yX5_current : MethodName := ⟨RX5, "current", "()I"⟩
abbrev cX5_failForm : ByteArray := prog_7_method_15_code
def yX5_failForm : MethodName := ⟨RX5, "failForm", "()V"⟩
abbrev cX5_failRange : ByteArray := prog_7_method_16_code
def yX5_failRange : MethodName := ⟨RX5, "failRange", "(I)V"⟩
def RX6 : String := "StyleCascade$Tree"
def TX6 : u_T := fun k => match k with
  | 0 => ("StyleCascade$Tree", "size", "I", false)
  | 1 => ("StyleCascade$Tree", "parents", "LStyleCascade$Row;", true)
  | 2 => ("StyleCascade$Tree", "kinds", "LStyleCascade$Row;", true)
  | _ => ("StyleCascade$Tree", "classes", "LStyleCascade$Row;", true)
def tyX6 : Nat → FieldType := fun k => match k with
  | 0 => .int
  | 1 => .object "StyleCascade$Row"
  | 2 => .object "StyleCascade$Row"
  | _ => .object "StyleCascade$Row"
abbrev wsX60 : List Cond := u_ws RX6 TX6 4
theorem nmX6 : ∀ a, a < 4 → ∀ b, b < 4 → a ≠ b → (TX6 a).2.1 ≠ (TX6 b).2.1 := by decide +kernel
theorem tyX6_ok : ∀ k, k < 4 → parseFieldDescriptor (TX6 k).2.2.1 = some (tyX6 k) := by decide +kernel
abbrev cX6_init : ByteArray := prog_8_method_1_code
def yX6_init : MethodName := ⟨RX6, "<init>", "()V"⟩
abbrev cX6_size : ByteArray := prog_8_method_2_code
def yX6_size : MethodName := ⟨RX6, "size", "()I"⟩
abbrev cX6_has : ByteArray := prog_8_method_3_code
def yX6_has : MethodName := ⟨RX6, "has", "(I)Z"⟩
abbrev cX6_parentOf : ByteArray := prog_8_method_4_code
def yX6_parentOf : MethodName := ⟨RX6, "parentOf", "(I)I"⟩
abbrev cX6_kindOf : ByteArray := prog_8_method_5_code
def yX6_kindOf : MethodName := ⟨RX6, "kindOf", "(I)I"⟩
abbrev cX6_classesOf : ByteArray := prog_8_method_6_code
def yX6_classesOf : MethodName := ⟨RX6, "classesOf", "(I)I"⟩
abbrev cX6_append : ByteArray := prog_8_method_7_code
def yX6_append : MethodName := ⟨RX6, "append", "(III)I"⟩
abbrev cX6_shorten : ByteArray := prog_8_method_8_code
def yX6_shorten : MethodName := ⟨RX6, "shorten", "()I"⟩
abbrev cX6_setLook : ByteArray := prog_8_method_9_code
def yX6_setLook : MethodName := ⟨RX6, "setLook", "(III)V"⟩
abbrev cX6_stepsUp : ByteArray := prog_8_method_10_code
def yX6_stepsUp : MethodName := ⟨RX6, "stepsUp", "(II)I"⟩
abbrev cX6_hasKindAbove : ByteArray := prog_8_method_11_code
def yX6_hasKindAbove : MethodName := ⟨RX6, "hasKindAbove", "(II)Z"⟩
abbrev cX6_copy : ByteArray := prog_8_method_12_code
def yX6_copy : MethodName := ⟨RX6, "copy", "(LStyleCascade$Tree;)V"⟩
def RX7 : String := "StyleCascade"
def TX7 : u_T := fun k => match k with
  | 0 => ("StyleCascade", "now", "LStyleCascade$State;", true)
  | 1 => ("StyleCascade", "history", "LStyleCascade$History;", true)
  | 2 => ("StyleCascade", "outcome", "LStyleCascade$Outcome;", true)
  | _ => ("StyleCascade", "text", "LStyleCascade$Text;", true)
def tyX7 : Nat → FieldType := fun k => match k with
  | 0 => .object "StyleCascade$State"
  | 1 => .object "StyleCascade$History"
  | 2 => .object "StyleCascade$Outcome"
  | _ => .object "StyleCascade$Text"
abbrev wsX70 : List Cond := u_ws RX7 TX7 4
theorem nmX7 : ∀ a, a < 4 → ∀ b, b < 4 → a ≠ b → (TX7 a).2.1 ≠ (TX7 b).2.1 := by decide +kernel
theorem tyX7_ok : ∀ k, k < 4 → parseFieldDescriptor (TX7 k).2.2.1 = some (tyX7 k) := by decide +kernel
abbrev cX7_init : ByteArray := prog_1_method_1_code
def yX7_init : MethodName := ⟨RX7, "<init>", "()V"⟩
abbrev cX7_add : ByteArray := prog_1_method_2_code
def yX7_add : MethodName := ⟨RX7, "add", "(III)I"⟩
abbrev cX7_remove : ByteArray := prog_1_method_3_code
def yX7_remove : MethodName := ⟨RX7, "remove", "()I"⟩
abbrev cX7_dress : ByteArray := prog_1_method_4_code
def yX7_dress : MethodName := ⟨RX7, "dress", "(III)I"⟩
abbrev cX7_element : ByteArray := prog_1_method_5_code
def yX7_element : MethodName := ⟨RX7, "element", "(II)I"⟩
abbrev cX7_count : ByteArray := prog_1_method_6_code
def yX7_count : MethodName := ⟨RX7, "count", "(I)I"⟩
abbrev cX7_undo : ByteArray := prog_1_method_7_code
def yX7_undo : MethodName := ⟨RX7, "undo", "()I"⟩
abbrev cX7_rule : ByteArray := prog_1_method_8_code
def yX7_rule : MethodName := ⟨RX7, "rule", "(IIIIII)I"⟩
abbrev cX7_drop : ByteArray := prog_1_method_9_code
def yX7_drop : MethodName := ⟨RX7, "drop", "(I)I"⟩
abbrev cX7_declare : ByteArray := prog_1_method_10_code
def yX7_declare : MethodName := ⟨RX7, "declare", "(III)I"⟩
abbrev cX7_refer : ByteArray := prog_1_method_11_code
def yX7_refer : MethodName := ⟨RX7, "refer", "(IIII)I"⟩
abbrev cX7_undeclare : ByteArray := prog_1_method_12_code
def yX7_undeclare : MethodName := ⟨RX7, "undeclare", "(II)I"⟩
abbrev cX7_ruleOf : ByteArray := prog_1_method_13_code
def yX7_ruleOf : MethodName := ⟨RX7, "ruleOf", "(II)I"⟩
abbrev cX7_declared : ByteArray := prog_1_method_14_code
def yX7_declared : MethodName := ⟨RX7, "declared", "(III)I"⟩
abbrev cX7_matches : ByteArray := prog_1_method_15_code
def yX7_matches : MethodName := ⟨RX7, "matches", "(II)I"⟩
abbrev cX7_value : ByteArray := prog_1_method_16_code
def yX7_value : MethodName := ⟨RX7, "value", "(II)I"⟩
abbrev cX7_winner : ByteArray := prog_1_method_17_code
def yX7_winner : MethodName := ⟨RX7, "winner", "(II)I"⟩
abbrev cX7_why : ByteArray := prog_1_method_18_code
def yX7_why : MethodName := ⟨RX7, "why", "(IIII)I"⟩
abbrev cX7_from : ByteArray := prog_1_method_19_code
def yX7_from : MethodName := ⟨RX7, "from", "(II)I"⟩
abbrev cX7_cycle : ByteArray := prog_1_method_20_code
def yX7_cycle : MethodName := ⟨RX7, "cycle", "(II)I"⟩
abbrev cX7_type : ByteArray := prog_1_method_21_code
def yX7_type : MethodName := ⟨RX7, "type", "(I)I"⟩
abbrev cX7_clearText : ByteArray := prog_1_method_22_code
def yX7_clearText : MethodName := ⟨RX7, "clearText", "()I"⟩
abbrev cX7_fault : ByteArray := prog_1_method_23_code
def yX7_fault : MethodName := ⟨RX7, "fault", "()I"⟩
abbrev cX7_read : ByteArray := prog_1_method_24_code
def yX7_read : MethodName := ⟨RX7, "read", "()I"⟩
abbrev cX7_beginChange : ByteArray := prog_1_method_25_code
def yX7_beginChange : MethodName := ⟨RX7, "beginChange", "()V"⟩
abbrev cX7_foundOr : ByteArray := prog_1_method_26_code
def yX7_foundOr : MethodName := ⟨RX7, "foundOr", "(II)I"⟩
abbrev cX7_isWithin : ByteArray := prog_1_method_27_code
def yX7_isWithin : MethodName := ⟨RX7, "isWithin", "(III)Z"⟩
abbrev cX7_isProperty : ByteArray := prog_1_method_28_code
def yX7_isProperty : MethodName := ⟨RX7, "isProperty", "(I)Z"⟩
abbrev cX7_isCustom : ByteArray := prog_1_method_29_code
def yX7_isCustom : MethodName := ⟨RX7, "isCustom", "(I)Z"⟩
def RX8 : String := "StyleCascadeModel"
def TX8 : u_T := fun k => match k with
  | 0 => ("StyleCascadeModel", "d", "[I", true)
  | 1 => ("StyleCascadeModel", "was", "[I", true)
  | 2 => ("StyleCascadeModel", "states", "I", false)
  | 3 => ("StyleCascadeModel", "text", "[C", true)
  | 4 => ("StyleCascadeModel", "typed", "I", false)
  | 5 => ("StyleCascadeModel", "at", "I", false)
  | 6 => ("StyleCascadeModel", "bad", "I", false)
  | 7 => ("StyleCascadeModel", "wrong", "Z", false)
  | 8 => ("StyleCascadeModel", "got", "[I", true)
  | 9 => ("StyleCascadeModel", "said", "[I", true)
  | 10 => ("StyleCascadeModel", "value", "[I", true)
  | 11 => ("StyleCascadeModel", "own", "[Z", true)
  | 12 => ("StyleCascadeModel", "known", "[Z", true)
  | _ => ("StyleCascadeModel", "order", "[I", true)
def tyX8 : Nat → FieldType := fun k => match k with
  | 0 => .array .int
  | 1 => .array .int
  | 2 => .int
  | 3 => .array .char
  | 4 => .int
  | 5 => .int
  | 6 => .int
  | 7 => .boolean
  | 8 => .array .int
  | 9 => .array .int
  | 10 => .array .int
  | 11 => .array .boolean
  | 12 => .array .boolean
  | _ => .array .int
abbrev wsX80 : List Cond := u_ws RX8 TX8 14
theorem nmX8 : ∀ a, a < 14 → ∀ b, b < 14 → a ≠ b → (TX8 a).2.1 ≠ (TX8 b).2.1 := by decide +kernel
theorem tyX8_ok : ∀ k, k < 14 → parseFieldDescriptor (TX8 k).2.2.1 = some (tyX8 k) := by decide +kernel
abbrev cX8_init : ByteArray := prog_10_method_1_code
def yX8_init : MethodName := ⟨RX8, "<init>", "()V"⟩
abbrev cX8_in : ByteArray := prog_10_method_2_code
def yX8_in : MethodName := ⟨RX8, "in", "(III)Z"⟩
abbrev cX8_isElement : ByteArray := prog_10_method_3_code
def yX8_isElement : MethodName := ⟨RX8, "isElement", "(I)Z"⟩
abbrev cX8_isRule : ByteArray := prog_10_method_4_code
def yX8_isRule : MethodName := ⟨RX8, "isRule", "(I)Z"⟩
abbrev cX8_isProperty : ByteArray := prog_10_method_5_code
def yX8_isProperty : MethodName := ⟨RX8, "isProperty", "(I)Z"⟩
abbrev cX8_of : ByteArray := prog_10_method_6_code
def yX8_of : MethodName := ⟨RX8, "of", "(II)I"⟩
abbrev cX8_says : ByteArray := prog_10_method_7_code
def yX8_says : MethodName := ⟨RX8, "says", "(II)I"⟩
abbrev cX8_records : ByteArray := prog_10_method_8_code
def yX8_records : MethodName := ⟨RX8, "records", "()V"⟩
abbrev cX8_isDress : ByteArray := prog_10_method_9_code
def yX8_isDress : MethodName := ⟨RX8, "isDress", "(II)Z"⟩
abbrev cX8_add : ByteArray := prog_10_method_10_code
def yX8_add : MethodName := ⟨RX8, "add", "(III)I"⟩
abbrev cX8_remove : ByteArray := prog_10_method_11_code
def yX8_remove : MethodName := ⟨RX8, "remove", "()I"⟩
abbrev cX8_dress : ByteArray := prog_10_method_12_code
def yX8_dress : MethodName := ⟨RX8, "dress", "(III)I"⟩
abbrev cX8_stepsTo : ByteArray := prog_10_method_13_code
def yX8_stepsTo : MethodName := ⟨RX8, "stepsTo", "(II)I"⟩
abbrev cX8_meets : ByteArray := prog_10_method_14_code
def yX8_meets : MethodName := ⟨RX8, "meets", "(II)Z"⟩
abbrev cX8_matching : ByteArray := prog_10_method_15_code
def yX8_matching : MethodName := ⟨RX8, "matching", "(I)I"⟩
abbrev cX8_cycles : ByteArray := prog_10_method_16_code
def yX8_cycles : MethodName := ⟨RX8, "cycles", "(I)I"⟩
abbrev cX8_element : ByteArray := prog_10_method_17_code
def yX8_element : MethodName := ⟨RX8, "element", "(II)I"⟩
abbrev cX8_declarations : ByteArray := prog_10_method_18_code
def yX8_declarations : MethodName := ⟨RX8, "declarations", "(I)I"⟩
abbrev cX8_inRules : ByteArray := prog_10_method_19_code
def yX8_inRules : MethodName := ⟨RX8, "inRules", "(Z)I"⟩
abbrev cX8_count : ByteArray := prog_10_method_20_code
def yX8_count : MethodName := ⟨RX8, "count", "(I)I"⟩
abbrev cX8_undo : ByteArray := prog_10_method_21_code
def yX8_undo : MethodName := ⟨RX8, "undo", "()I"⟩
abbrev cX8_isScope : ByteArray := prog_10_method_22_code
def yX8_isScope : MethodName := ⟨RX8, "isScope", "(I)Z"⟩
abbrev cX8_appends : ByteArray := prog_10_method_23_code
def yX8_appends : MethodName := ⟨RX8, "appends", "(IIIIII)I"⟩
abbrev cX8_rule : ByteArray := prog_10_method_24_code
def yX8_rule : MethodName := ⟨RX8, "rule", "(IIIIII)I"⟩
abbrev cX8_drop : ByteArray := prog_10_method_25_code
def yX8_drop : MethodName := ⟨RX8, "drop", "(I)I"⟩
abbrev cX8_lays : ByteArray := prog_10_method_26_code
def yX8_lays : MethodName := ⟨RX8, "lays", "(IIIII)V"⟩
abbrev cX8_declare : ByteArray := prog_10_method_27_code
def yX8_declare : MethodName := ⟨RX8, "declare", "(III)I"⟩
abbrev cX8_refer : ByteArray := prog_10_method_28_code
def yX8_refer : MethodName := ⟨RX8, "refer", "(IIII)I"⟩
abbrev cX8_undeclare : ByteArray := prog_10_method_29_code
def yX8_undeclare : MethodName := ⟨RX8, "undeclare", "(II)I"⟩
abbrev cX8_specificity : ByteArray := prog_10_method_30_code
def yX8_specificity : MethodName := ⟨RX8, "specificity", "(I)I"⟩
abbrev cX8_ruleOf : ByteArray := prog_10_method_31_code
def yX8_ruleOf : MethodName := ⟨RX8, "ruleOf", "(II)I"⟩
abbrev cX8_declared : ByteArray := prog_10_method_32_code
def yX8_declared : MethodName := ⟨RX8, "declared", "(III)I"⟩
abbrev cX8_matches : ByteArray := prog_10_method_33_code
def yX8_matches : MethodName := ⟨RX8, "matches", "(II)I"⟩
abbrev cX8_wins : ByteArray := prog_10_method_34_code
def yX8_wins : MethodName := ⟨RX8, "wins", "(III)I"⟩
abbrev cX8_orders : ByteArray := prog_10_method_35_code
def yX8_orders : MethodName := ⟨RX8, "orders", "(II)I"⟩
abbrev cX8_winnerOf : ByteArray := prog_10_method_36_code
def yX8_winnerOf : MethodName := ⟨RX8, "winnerOf", "(II)I"⟩
abbrev cX8_leadsTo : ByteArray := prog_10_method_37_code
def yX8_leadsTo : MethodName := ⟨RX8, "leadsTo", "(II)I"⟩
abbrev cX8_cycleOf : ByteArray := prog_10_method_38_code
def yX8_cycleOf : MethodName := ⟨RX8, "cycleOf", "(II)I"⟩
abbrev cX8_given : ByteArray := prog_10_method_39_code
def yX8_given : MethodName := ⟨RX8, "given", "(II)I"⟩
abbrev cX8_settles : ByteArray := prog_10_method_40_code
def yX8_settles : MethodName := ⟨RX8, "settles", "(IIZ)V"⟩
abbrev cX8_settlesAll : ByteArray := prog_10_method_41_code
def yX8_settlesAll : MethodName := ⟨RX8, "settlesAll", "(I)V"⟩
abbrev cX8_settlesTo : ByteArray := prog_10_method_42_code
def yX8_settlesTo : MethodName := ⟨RX8, "settlesTo", "(I)V"⟩
abbrev cX8_value : ByteArray := prog_10_method_43_code
def yX8_value : MethodName := ⟨RX8, "value", "(II)I"⟩
abbrev cX8_winner : ByteArray := prog_10_method_44_code
def yX8_winner : MethodName := ⟨RX8, "winner", "(II)I"⟩
abbrev cX8_why : ByteArray := prog_10_method_45_code
def yX8_why : MethodName := ⟨RX8, "why", "(IIII)I"⟩
abbrev cX8_from : ByteArray := prog_10_method_46_code
def yX8_from : MethodName := ⟨RX8, "from", "(II)I"⟩
abbrev cX8_cycle : ByteArray := prog_10_method_47_code
def yX8_cycle : MethodName := ⟨RX8, "cycle", "(II)I"⟩
abbrev cX8_type : ByteArray := prog_10_method_48_code
def yX8_type : MethodName := ⟨RX8, "type", "(I)I"⟩
abbrev cX8_clearText : ByteArray := prog_10_method_49_code
def yX8_clearText : MethodName := ⟨RX8, "clearText", "()I"⟩
abbrev cX8_passes : ByteArray := prog_10_method_50_code
def yX8_passes : MethodName := ⟨RX8, "passes", "(C)Z"⟩
abbrev cX8_wants : ByteArray := prog_10_method_51_code
def yX8_wants : MethodName := ⟨RX8, "wants", "(C)V"⟩
abbrev cX8_number : ByteArray := prog_10_method_52_code
def yX8_number : MethodName := ⟨RX8, "number", "(III)I"⟩
abbrev cX8_declares : ByteArray := prog_10_method_53_code
def yX8_declares : MethodName := ⟨RX8, "declares", "()V"⟩
abbrev cX8_faulty : ByteArray := prog_10_method_54_code
def yX8_faulty : MethodName := ⟨RX8, "faulty", "()I"⟩
abbrev cX8_fault : ByteArray := prog_10_method_55_code
def yX8_fault : MethodName := ⟨RX8, "fault", "()I"⟩
abbrev cX8_read : ByteArray := prog_10_method_56_code
def yX8_read : MethodName := ⟨RX8, "read", "()I"⟩
def RJ6 : String := "java/lang/Integer"
abbrev cJ6_bitCount_0f7a4 : ByteArray := prog_11_method_49_code
def yJ6_bitCount_0f7a4 : MethodName := ⟨RJ6, "bitCount", "(I)I"⟩
def RJ9 : String := "java/lang/Math"
abbrev cJ9_max_7cf53 : ByteArray := prog_12_method_65_code
def yJ9_max_7cf53 : MethodName := ⟨RJ9, "max", "(II)I"⟩
abbrev cJ9_min_7cf53 : ByteArray := prog_12_method_69_code
def yJ9_min_7cf53 : MethodName := ⟨RJ9, "min", "(II)I"⟩
def RJ10 : String := "java/lang/System"
def RL : String := "StyleCascadeLaw"
abbrev cL_law : ByteArray := code
def yL_law : MethodName := ⟨RL, "law", "([I)Z"⟩
abbrev vwCl : List vw_C := [(RX0, TX0, 3), (RX1, TX1, 8), (RX2, TX2, 1), (RX3, TX3, 3), (RX4, TX4, 2), (RX5, TX5, 6), (RX6, TX6, 4), (RX7, TX7, 4), (RX8, TX8, 14)]
set_option maxRecDepth 20000 in
theorem inX0 : ∀ w ∈ wsX00, w ∈ lw_tbl := by decide +kernel
set_option maxRecDepth 20000 in
theorem inX1 : ∀ w ∈ wsX10, w ∈ lw_tbl := by decide +kernel
set_option maxRecDepth 20000 in
theorem inX2 : ∀ w ∈ wsX20, w ∈ lw_tbl := by decide +kernel
set_option maxRecDepth 20000 in
theorem inX3 : ∀ w ∈ wsX30, w ∈ lw_tbl := by decide +kernel
set_option maxRecDepth 20000 in
theorem inX4 : ∀ w ∈ wsX40, w ∈ lw_tbl := by decide +kernel
set_option maxRecDepth 20000 in
theorem inX5 : ∀ w ∈ wsX50, w ∈ lw_tbl := by decide +kernel
set_option maxRecDepth 20000 in
theorem inX6 : ∀ w ∈ wsX60, w ∈ lw_tbl := by decide +kernel
set_option maxRecDepth 20000 in
theorem inX7 : ∀ w ∈ wsX70, w ∈ lw_tbl := by decide +kernel
set_option maxRecDepth 20000 in
theorem inX8 : ∀ w ∈ wsX80, w ∈ lw_tbl := by decide +kernel
end
section
set_option maxRecDepth 20000 in
theorem dX0_init_0 : decode cX0_init 0 = .ok (.aload_n 0, 1) := by decide +kernel
set_option maxRecDepth 20000 in
theorem dX0_init_1 : decode cX0_init 1 = .ok (.invokespecial 3, 3) := by decide +kernel
set_option maxRecDepth 20000 in
theorem dX0_init_4 : decode cX0_init 4 = .ok (.aload_n 0, 1) := by decide +kernel
set_option maxRecDepth 20000 in
theorem dX0_init_5 : decode cX0_init 5 = .ok (.iconst 5, 1) := by decide +kernel
set_option maxRecDepth 20000 in
theorem dX0_init_6 : decode cX0_init 6 = .ok (.anewarray 9, 3) := by decide +kernel
set_option maxRecDepth 20000 in
theorem dX0_init_9 : decode cX0_init 9 = .ok (.putfield 11, 3) := by decide +kernel
set_option maxRecDepth 20000 in
theorem dX0_init_12 : decode cX0_init 12 = .ok (.iconst 0, 1) := by decide +kernel
set_option maxRecDepth 20000 in
theorem dX0_init_13 : decode cX0_init 13 = .ok (.istore_n 1, 1) := by decide +kernel
set_option maxRecDepth 20000 in
theorem dX0_init_14 : decode cX0_init 14 = .ok (.iload_n 1, 1) := by decide +kernel
set_option maxRecDepth 20000 in
theorem dX0_init_15 : decode cX0_init 15 = .ok (.aload_n 0, 1) := by decide +kernel
set_option maxRecDepth 20000 in
theorem dX0_init_16 : decode cX0_init 16 = .ok (.getfield 11, 3) := by decide +kernel
set_option maxRecDepth 20000 in
theorem dX0_init_19 : decode cX0_init 19 = .ok (.arraylength, 1) := by decide +kernel
set_option maxRecDepth 20000 in
theorem dX0_init_20 : decode cX0_init 20 = .ok (.if_icmp .ge 22, 3) := by decide +kernel
set_option maxRecDepth 20000 in
theorem dX0_init_23 : decode cX0_init 23 = .ok (.aload_n 0, 1) := by decide +kernel
set_option maxRecDepth 20000 in
theorem dX0_init_24 : decode cX0_init 24 = .ok (.getfield 11, 3) := by decide +kernel
set_option maxRecDepth 20000 in
theorem dX0_init_27 : decode cX0_init 27 = .ok (.iload_n 1, 1) := by decide +kernel
set_option maxRecDepth 20000 in
theorem dX0_init_28 : decode cX0_init 28 = .ok (.new 9, 3) := by decide +kernel
set_option maxRecDepth 20000 in
theorem dX0_init_31 : decode cX0_init 31 = .ok (.dup, 1) := by decide +kernel
set_option maxRecDepth 20000 in
theorem dX0_init_32 : decode cX0_init 32 = .ok (.invokespecial 17, 3) := by decide +kernel
set_option maxRecDepth 20000 in
theorem dX0_init_35 : decode cX0_init 35 = .ok (.aastore, 1) := by decide +kernel
set_option maxRecDepth 20000 in
theorem dX0_init_36 : decode cX0_init 36 = .ok (.iinc 1 1, 3) := by decide +kernel
set_option maxRecDepth 20000 in
theorem dX0_init_39 : decode cX0_init 39 = .ok (.goto (-25), 3) := by decide +kernel
set_option maxRecDepth 20000 in
theorem dX0_init_42 : decode cX0_init 42 = .ok (.return_, 1) := by decide +kernel
set_option maxRecDepth 20000 in
theorem dX0_size_0 : decode cX0_size 0 = .ok (.aload_n 0, 1) := by decide +kernel
set_option maxRecDepth 20000 in
theorem dX0_size_1 : decode cX0_size 1 = .ok (.getfield 18, 3) := by decide +kernel
set_option maxRecDepth 20000 in
theorem dX0_size_4 : decode cX0_size 4 = .ok (.ireturn, 1) := by decide +kernel
set_option maxRecDepth 20000 in
theorem dX0_record_0 : decode cX0_record 0 = .ok (.aload_n 0, 1) := by decide +kernel
set_option maxRecDepth 20000 in
theorem dX0_record_1 : decode cX0_record 1 = .ok (.aload_n 0, 1) := by decide +kernel
set_option maxRecDepth 20000 in
theorem dX0_record_2 : decode cX0_record 2 = .ok (.getfield 18, 3) := by decide +kernel
set_option maxRecDepth 20000 in
theorem dX0_record_5 : decode cX0_record 5 = .ok (.invokevirtual 22, 3) := by decide +kernel
set_option maxRecDepth 20000 in
theorem dX0_record_8 : decode cX0_record 8 = .ok (.astore_n 2, 1) := by decide +kernel
set_option maxRecDepth 20000 in
theorem dX0_record_9 : decode cX0_record 9 = .ok (.aload_n 2, 1) := by decide +kernel
set_option maxRecDepth 20000 in
theorem dX0_record_10 : decode cX0_record 10 = .ok (.ifnull 7, 3) := by decide +kernel
set_option maxRecDepth 20000 in
theorem dX0_record_13 : decode cX0_record 13 = .ok (.aload_n 1, 1) := by decide +kernel
set_option maxRecDepth 20000 in
theorem dX0_record_14 : decode cX0_record 14 = .ok (.ifnonnull 4, 3) := by decide +kernel
set_option maxRecDepth 20000 in
theorem dX0_record_17 : decode cX0_record 17 = .ok (.return_, 1) := by decide +kernel
set_option maxRecDepth 20000 in
theorem dX0_record_18 : decode cX0_record 18 = .ok (.aload_n 2, 1) := by decide +kernel
set_option maxRecDepth 20000 in
theorem dX0_record_19 : decode cX0_record 19 = .ok (.aload_n 1, 1) := by decide +kernel
set_option maxRecDepth 20000 in
theorem dX0_record_20 : decode cX0_record 20 = .ok (.invokevirtual 26, 3) := by decide +kernel
set_option maxRecDepth 20000 in
theorem dX0_record_23 : decode cX0_record 23 = .ok (.aload_n 0, 1) := by decide +kernel
set_option maxRecDepth 20000 in
theorem dX0_record_24 : decode cX0_record 24 = .ok (.getfield 18, 3) := by decide +kernel
set_option maxRecDepth 20000 in
theorem dX0_record_27 : decode cX0_record 27 = .ok (.iconst 5, 1) := by decide +kernel
set_option maxRecDepth 20000 in
theorem dX0_record_28 : decode cX0_record 28 = .ok (.if_icmp .ge 16, 3) := by decide +kernel
set_option maxRecDepth 20000 in
theorem dX0_record_31 : decode cX0_record 31 = .ok (.aload_n 0, 1) := by decide +kernel
set_option maxRecDepth 20000 in
theorem dX0_record_32 : decode cX0_record 32 = .ok (.dup, 1) := by decide +kernel
set_option maxRecDepth 20000 in
theorem dX0_record_33 : decode cX0_record 33 = .ok (.getfield 18, 3) := by decide +kernel
set_option maxRecDepth 20000 in
theorem dX0_record_36 : decode cX0_record 36 = .ok (.iconst 1, 1) := by decide +kernel
set_option maxRecDepth 20000 in
theorem dX0_record_37 : decode cX0_record 37 = .ok (.iadd, 1) := by decide +kernel
set_option maxRecDepth 20000 in
theorem dX0_record_38 : decode cX0_record 38 = .ok (.putfield 18, 3) := by decide +kernel
set_option maxRecDepth 20000 in
theorem dX0_record_41 : decode cX0_record 41 = .ok (.goto 15, 3) := by decide +kernel
set_option maxRecDepth 20000 in
theorem dX0_record_44 : decode cX0_record 44 = .ok (.aload_n 0, 1) := by decide +kernel
set_option maxRecDepth 20000 in
theorem dX0_record_45 : decode cX0_record 45 = .ok (.aload_n 0, 1) := by decide +kernel
set_option maxRecDepth 20000 in
theorem dX0_record_46 : decode cX0_record 46 = .ok (.getfield 30, 3) := by decide +kernel
set_option maxRecDepth 20000 in
theorem dX0_record_49 : decode cX0_record 49 = .ok (.iconst 1, 1) := by decide +kernel
set_option maxRecDepth 20000 in
theorem dX0_record_50 : decode cX0_record 50 = .ok (.iadd, 1) := by decide +kernel
set_option maxRecDepth 20000 in
theorem dX0_record_51 : decode cX0_record 51 = .ok (.iconst 5, 1) := by decide +kernel
set_option maxRecDepth 20000 in
theorem dX0_record_52 : decode cX0_record 52 = .ok (.irem, 1) := by decide +kernel
set_option maxRecDepth 20000 in
theorem dX0_record_53 : decode cX0_record 53 = .ok (.putfield 30, 3) := by decide +kernel
set_option maxRecDepth 20000 in
theorem dX0_record_56 : decode cX0_record 56 = .ok (.return_, 1) := by decide +kernel
set_option maxRecDepth 20000 in
theorem dX0_restore_0 : decode cX0_restore 0 = .ok (.aload_n 0, 1) := by decide +kernel
set_option maxRecDepth 20000 in
theorem dX0_restore_1 : decode cX0_restore 1 = .ok (.aload_n 0, 1) := by decide +kernel
set_option maxRecDepth 20000 in
theorem dX0_restore_2 : decode cX0_restore 2 = .ok (.getfield 18, 3) := by decide +kernel
set_option maxRecDepth 20000 in
theorem dX0_restore_5 : decode cX0_restore 5 = .ok (.iconst 1, 1) := by decide +kernel
set_option maxRecDepth 20000 in
theorem dX0_restore_6 : decode cX0_restore 6 = .ok (.isub, 1) := by decide +kernel
set_option maxRecDepth 20000 in
theorem dX0_restore_7 : decode cX0_restore 7 = .ok (.invokevirtual 22, 3) := by decide +kernel
set_option maxRecDepth 20000 in
theorem dX0_restore_10 : decode cX0_restore 10 = .ok (.astore_n 2, 1) := by decide +kernel
set_option maxRecDepth 20000 in
theorem dX0_restore_11 : decode cX0_restore 11 = .ok (.aload_n 2, 1) := by decide +kernel
set_option maxRecDepth 20000 in
theorem dX0_restore_12 : decode cX0_restore 12 = .ok (.ifnull 7, 3) := by decide +kernel
set_option maxRecDepth 20000 in
theorem dX0_restore_15 : decode cX0_restore 15 = .ok (.aload_n 1, 1) := by decide +kernel
set_option maxRecDepth 20000 in
theorem dX0_restore_16 : decode cX0_restore 16 = .ok (.ifnonnull 4, 3) := by decide +kernel
set_option maxRecDepth 20000 in
theorem dX0_restore_19 : decode cX0_restore 19 = .ok (.return_, 1) := by decide +kernel
set_option maxRecDepth 20000 in
theorem dX0_restore_20 : decode cX0_restore 20 = .ok (.aload_n 1, 1) := by decide +kernel
set_option maxRecDepth 20000 in
theorem dX0_restore_21 : decode cX0_restore 21 = .ok (.aload_n 2, 1) := by decide +kernel
set_option maxRecDepth 20000 in
theorem dX0_restore_22 : decode cX0_restore 22 = .ok (.invokevirtual 26, 3) := by decide +kernel
set_option maxRecDepth 20000 in
theorem dX0_restore_25 : decode cX0_restore 25 = .ok (.aload_n 0, 1) := by decide +kernel
set_option maxRecDepth 20000 in
theorem dX0_restore_26 : decode cX0_restore 26 = .ok (.dup, 1) := by decide +kernel
set_option maxRecDepth 20000 in
theorem dX0_restore_27 : decode cX0_restore 27 = .ok (.getfield 18, 3) := by decide +kernel
set_option maxRecDepth 20000 in
theorem dX0_restore_30 : decode cX0_restore 30 = .ok (.iconst 1, 1) := by decide +kernel
set_option maxRecDepth 20000 in
theorem dX0_restore_31 : decode cX0_restore 31 = .ok (.isub, 1) := by decide +kernel
set_option maxRecDepth 20000 in
theorem dX0_restore_32 : decode cX0_restore 32 = .ok (.putfield 18, 3) := by decide +kernel
set_option maxRecDepth 20000 in
theorem dX0_restore_35 : decode cX0_restore 35 = .ok (.return_, 1) := by decide +kernel
set_option maxRecDepth 20000 in
theorem dX0_slot_0 : decode cX0_slot 0 = .ok (.aload_n 0, 1) := by decide +kernel
set_option maxRecDepth 20000 in
theorem dX0_slot_1 : decode cX0_slot 1 = .ok (.getfield 30, 3) := by decide +kernel
set_option maxRecDepth 20000 in
theorem dX0_slot_4 : decode cX0_slot 4 = .ok (.iload_n 1, 1) := by decide +kernel
set_option maxRecDepth 20000 in
theorem dX0_slot_5 : decode cX0_slot 5 = .ok (.iadd, 1) := by decide +kernel
set_option maxRecDepth 20000 in
theorem dX0_slot_6 : decode cX0_slot 6 = .ok (.iconst 5, 1) := by decide +kernel
set_option maxRecDepth 20000 in
theorem dX0_slot_7 : decode cX0_slot 7 = .ok (.irem, 1) := by decide +kernel
set_option maxRecDepth 20000 in
theorem dX0_slot_8 : decode cX0_slot 8 = .ok (.istore_n 2, 1) := by decide +kernel
set_option maxRecDepth 20000 in
theorem dX0_slot_9 : decode cX0_slot 9 = .ok (.iload_n 1, 1) := by decide +kernel
set_option maxRecDepth 20000 in
theorem dX0_slot_10 : decode cX0_slot 10 = .ok (.ifCond .lt 25, 3) := by decide +kernel
set_option maxRecDepth 20000 in
theorem dX0_slot_13 : decode cX0_slot 13 = .ok (.iload_n 2, 1) := by decide +kernel
set_option maxRecDepth 20000 in
theorem dX0_slot_14 : decode cX0_slot 14 = .ok (.ifCond .lt 21, 3) := by decide +kernel
set_option maxRecDepth 20000 in
theorem dX0_slot_17 : decode cX0_slot 17 = .ok (.iload_n 2, 1) := by decide +kernel
set_option maxRecDepth 20000 in
theorem dX0_slot_18 : decode cX0_slot 18 = .ok (.aload_n 0, 1) := by decide +kernel
set_option maxRecDepth 20000 in
theorem dX0_slot_19 : decode cX0_slot 19 = .ok (.getfield 11, 3) := by decide +kernel
set_option maxRecDepth 20000 in
theorem dX0_slot_22 : decode cX0_slot 22 = .ok (.arraylength, 1) := by decide +kernel
set_option maxRecDepth 20000 in
theorem dX0_slot_23 : decode cX0_slot 23 = .ok (.if_icmp .ge 12, 3) := by decide +kernel
set_option maxRecDepth 20000 in
theorem dX0_slot_26 : decode cX0_slot 26 = .ok (.aload_n 0, 1) := by decide +kernel
set_option maxRecDepth 20000 in
theorem dX0_slot_27 : decode cX0_slot 27 = .ok (.getfield 11, 3) := by decide +kernel
set_option maxRecDepth 20000 in
theorem dX0_slot_30 : decode cX0_slot 30 = .ok (.iload_n 2, 1) := by decide +kernel
set_option maxRecDepth 20000 in
theorem dX0_slot_31 : decode cX0_slot 31 = .ok (.aaload, 1) := by decide +kernel
set_option maxRecDepth 20000 in
theorem dX0_slot_32 : decode cX0_slot 32 = .ok (.goto 4, 3) := by decide +kernel
set_option maxRecDepth 20000 in
theorem dX0_slot_35 : decode cX0_slot 35 = .ok (.aconst_null, 1) := by decide +kernel
set_option maxRecDepth 20000 in
theorem dX0_slot_36 : decode cX0_slot 36 = .ok (.areturn, 1) := by decide +kernel
set_option maxRecDepth 20000 in
theorem dX1_init_0 : decode cX1_init 0 = .ok (.aload_n 0, 1) := by decide +kernel
set_option maxRecDepth 20000 in
theorem dX1_init_1 : decode cX1_init 1 = .ok (.invokespecial 5, 3) := by decide +kernel
set_option maxRecDepth 20000 in
theorem dX1_init_4 : decode cX1_init 4 = .ok (.aload_n 0, 1) := by decide +kernel
set_option maxRecDepth 20000 in
theorem dX1_init_5 : decode cX1_init 5 = .ok (.new 11, 3) := by decide +kernel
set_option maxRecDepth 20000 in
theorem dX1_init_8 : decode cX1_init 8 = .ok (.dup, 1) := by decide +kernel
set_option maxRecDepth 20000 in
theorem dX1_init_9 : decode cX1_init 9 = .ok (.sipush 256, 3) := by decide +kernel
set_option maxRecDepth 20000 in
theorem dX1_init_12 : decode cX1_init 12 = .ok (.invokespecial 13, 3) := by decide +kernel
set_option maxRecDepth 20000 in
theorem dX1_init_15 : decode cX1_init 15 = .ok (.putfield 16, 3) := by decide +kernel
set_option maxRecDepth 20000 in
theorem dX1_init_18 : decode cX1_init 18 = .ok (.aload_n 0, 1) := by decide +kernel
set_option maxRecDepth 20000 in
theorem dX1_init_19 : decode cX1_init 19 = .ok (.new 11, 3) := by decide +kernel
set_option maxRecDepth 20000 in
theorem dX1_init_22 : decode cX1_init 22 = .ok (.dup, 1) := by decide +kernel
set_option maxRecDepth 20000 in
theorem dX1_init_23 : decode cX1_init 23 = .ok (.sipush 256, 3) := by decide +kernel
set_option maxRecDepth 20000 in
theorem dX1_init_26 : decode cX1_init 26 = .ok (.invokespecial 13, 3) := by decide +kernel
set_option maxRecDepth 20000 in
theorem dX1_init_29 : decode cX1_init 29 = .ok (.putfield 22, 3) := by decide +kernel
set_option maxRecDepth 20000 in
theorem dX1_init_32 : decode cX1_init 32 = .ok (.aload_n 0, 1) := by decide +kernel
set_option maxRecDepth 20000 in
theorem dX1_init_33 : decode cX1_init 33 = .ok (.new 11, 3) := by decide +kernel
set_option maxRecDepth 20000 in
theorem dX1_init_36 : decode cX1_init 36 = .ok (.dup, 1) := by decide +kernel
set_option maxRecDepth 20000 in
theorem dX1_init_37 : decode cX1_init 37 = .ok (.sipush 256, 3) := by decide +kernel
set_option maxRecDepth 20000 in
theorem dX1_init_40 : decode cX1_init 40 = .ok (.invokespecial 13, 3) := by decide +kernel
set_option maxRecDepth 20000 in
theorem dX1_init_43 : decode cX1_init 43 = .ok (.putfield 25, 3) := by decide +kernel
set_option maxRecDepth 20000 in
theorem dX1_init_46 : decode cX1_init 46 = .ok (.aload_n 0, 1) := by decide +kernel
set_option maxRecDepth 20000 in
theorem dX1_init_47 : decode cX1_init 47 = .ok (.new 11, 3) := by decide +kernel
set_option maxRecDepth 20000 in
theorem dX1_init_50 : decode cX1_init 50 = .ok (.dup, 1) := by decide +kernel
set_option maxRecDepth 20000 in
theorem dX1_init_51 : decode cX1_init 51 = .ok (.sipush 256, 3) := by decide +kernel
set_option maxRecDepth 20000 in
theorem dX1_init_54 : decode cX1_init 54 = .ok (.invokespecial 13, 3) := by decide +kernel
set_option maxRecDepth 20000 in
theorem dX1_init_57 : decode cX1_init 57 = .ok (.putfield 28, 3) := by decide +kernel
set_option maxRecDepth 20000 in
theorem dX1_init_60 : decode cX1_init 60 = .ok (.aload_n 0, 1) := by decide +kernel
set_option maxRecDepth 20000 in
theorem dX1_init_61 : decode cX1_init 61 = .ok (.new 11, 3) := by decide +kernel
set_option maxRecDepth 20000 in
theorem dX1_init_64 : decode cX1_init 64 = .ok (.dup, 1) := by decide +kernel
set_option maxRecDepth 20000 in
theorem dX1_init_65 : decode cX1_init 65 = .ok (.sipush 256, 3) := by decide +kernel
set_option maxRecDepth 20000 in
theorem dX1_init_68 : decode cX1_init 68 = .ok (.invokespecial 13, 3) := by decide +kernel
set_option maxRecDepth 20000 in
theorem dX1_init_71 : decode cX1_init 71 = .ok (.putfield 31, 3) := by decide +kernel
set_option maxRecDepth 20000 in
theorem dX1_init_74 : decode cX1_init 74 = .ok (.return_, 1) := by decide +kernel
set_option maxRecDepth 20000 in
theorem dX1_spoil_0 : decode cX1_spoil 0 = .ok (.aload_n 0, 1) := by decide +kernel
set_option maxRecDepth 20000 in
theorem dX1_spoil_1 : decode cX1_spoil 1 = .ok (.iconst 0, 1) := by decide +kernel
set_option maxRecDepth 20000 in
theorem dX1_spoil_2 : decode cX1_spoil 2 = .ok (.putfield 34, 3) := by decide +kernel
set_option maxRecDepth 20000 in
theorem dX1_spoil_5 : decode cX1_spoil 5 = .ok (.return_, 1) := by decide +kernel
set_option maxRecDepth 20000 in
theorem dX1_of_0 : decode cX1_of 0 = .ok (.aload_n 0, 1) := by decide +kernel
set_option maxRecDepth 20000 in
theorem dX1_of_1 : decode cX1_of 1 = .ok (.getfield 34, 3) := by decide +kernel
set_option maxRecDepth 20000 in
theorem dX1_of_4 : decode cX1_of 4 = .ok (.ifCond .ne 7, 3) := by decide +kernel
set_option maxRecDepth 20000 in
theorem dX1_of_7 : decode cX1_of 7 = .ok (.aload_n 1, 1) := by decide +kernel
set_option maxRecDepth 20000 in
theorem dX1_of_8 : decode cX1_of 8 = .ok (.ifnonnull 5, 3) := by decide +kernel
set_option maxRecDepth 20000 in
theorem dX1_of_11 : decode cX1_of 11 = .ok (.aload_n 0, 1) := by decide +kernel
set_option maxRecDepth 20000 in
theorem dX1_of_12 : decode cX1_of 12 = .ok (.areturn, 1) := by decide +kernel
set_option maxRecDepth 20000 in
theorem dX1_of_13 : decode cX1_of 13 = .ok (.aload_n 0, 1) := by decide +kernel
set_option maxRecDepth 20000 in
theorem dX1_of_14 : decode cX1_of 14 = .ok (.aload_n 1, 1) := by decide +kernel
set_option maxRecDepth 20000 in
theorem dX1_of_15 : decode cX1_of 15 = .ok (.getfield 38, 3) := by decide +kernel
set_option maxRecDepth 20000 in
theorem dX1_of_18 : decode cX1_of 18 = .ok (.invokevirtual 44, 3) := by decide +kernel
set_option maxRecDepth 20000 in
theorem dX1_of_21 : decode cX1_of 21 = .ok (.putfield 50, 3) := by decide +kernel
set_option maxRecDepth 20000 in
theorem dX1_of_24 : decode cX1_of 24 = .ok (.aload_n 0, 1) := by decide +kernel
set_option maxRecDepth 20000 in
theorem dX1_of_25 : decode cX1_of 25 = .ok (.aload_n 1, 1) := by decide +kernel
set_option maxRecDepth 20000 in
theorem dX1_of_26 : decode cX1_of 26 = .ok (.getfield 54, 3) := by decide +kernel
set_option maxRecDepth 20000 in
theorem dX1_of_29 : decode cX1_of 29 = .ok (.invokevirtual 58, 3) := by decide +kernel
set_option maxRecDepth 20000 in
theorem dX1_of_32 : decode cX1_of 32 = .ok (.putfield 61, 3) := by decide +kernel
set_option maxRecDepth 20000 in
theorem dX1_of_35 : decode cX1_of 35 = .ok (.iconst 0, 1) := by decide +kernel
set_option maxRecDepth 20000 in
theorem dX1_of_36 : decode cX1_of 36 = .ok (.istore_n 2, 1) := by decide +kernel
set_option maxRecDepth 20000 in
theorem dX1_of_37 : decode cX1_of 37 = .ok (.iload_n 2, 1) := by decide +kernel
set_option maxRecDepth 20000 in
theorem dX1_of_38 : decode cX1_of 38 = .ok (.aload_n 0, 1) := by decide +kernel
set_option maxRecDepth 20000 in
theorem dX1_of_39 : decode cX1_of 39 = .ok (.getfield 50, 3) := by decide +kernel
set_option maxRecDepth 20000 in
theorem dX1_of_42 : decode cX1_of 42 = .ok (.if_icmp .ge 39, 3) := by decide +kernel
set_option maxRecDepth 20000 in
theorem dX1_of_45 : decode cX1_of 45 = .ok (.aload_n 0, 1) := by decide +kernel
set_option maxRecDepth 20000 in
theorem dX1_of_46 : decode cX1_of 46 = .ok (.aload_n 1, 1) := by decide +kernel
set_option maxRecDepth 20000 in
theorem dX1_of_47 : decode cX1_of 47 = .ok (.iload_n 2, 1) := by decide +kernel
set_option maxRecDepth 20000 in
theorem dX1_of_48 : decode cX1_of 48 = .ok (.invokevirtual 63, 3) := by decide +kernel
set_option maxRecDepth 20000 in
theorem dX1_of_51 : decode cX1_of 51 = .ok (.aload_n 0, 1) := by decide +kernel
set_option maxRecDepth 20000 in
theorem dX1_of_52 : decode cX1_of 52 = .ok (.aload_n 1, 1) := by decide +kernel
set_option maxRecDepth 20000 in
theorem dX1_of_53 : decode cX1_of 53 = .ok (.getfield 54, 3) := by decide +kernel
set_option maxRecDepth 20000 in
theorem dX1_of_56 : decode cX1_of 56 = .ok (.iload_n 2, 1) := by decide +kernel
set_option maxRecDepth 20000 in
theorem dX1_of_57 : decode cX1_of 57 = .ok (.invokevirtual 67, 3) := by decide +kernel
set_option maxRecDepth 20000 in
theorem dX1_of_60 : decode cX1_of 60 = .ok (.aload_n 0, 1) := by decide +kernel
set_option maxRecDepth 20000 in
theorem dX1_of_61 : decode cX1_of 61 = .ok (.aload_n 1, 1) := by decide +kernel
set_option maxRecDepth 20000 in
theorem dX1_of_62 : decode cX1_of 62 = .ok (.getfield 54, 3) := by decide +kernel
set_option maxRecDepth 20000 in
theorem dX1_of_65 : decode cX1_of 65 = .ok (.iload_n 2, 1) := by decide +kernel
set_option maxRecDepth 20000 in
theorem dX1_of_66 : decode cX1_of 66 = .ok (.invokevirtual 71, 3) := by decide +kernel
set_option maxRecDepth 20000 in
theorem dX1_of_69 : decode cX1_of 69 = .ok (.aload_n 0, 1) := by decide +kernel
set_option maxRecDepth 20000 in
theorem dX1_of_70 : decode cX1_of 70 = .ok (.aload_n 1, 1) := by decide +kernel
set_option maxRecDepth 20000 in
theorem dX1_of_71 : decode cX1_of 71 = .ok (.iload_n 2, 1) := by decide +kernel
set_option maxRecDepth 20000 in
theorem dX1_of_72 : decode cX1_of 72 = .ok (.invokevirtual 74, 3) := by decide +kernel
set_option maxRecDepth 20000 in
theorem dX1_of_75 : decode cX1_of 75 = .ok (.iinc 2 1, 3) := by decide +kernel
set_option maxRecDepth 20000 in
theorem dX1_of_78 : decode cX1_of 78 = .ok (.goto (-41), 3) := by decide +kernel
set_option maxRecDepth 20000 in
theorem dX1_of_81 : decode cX1_of 81 = .ok (.aload_n 0, 1) := by decide +kernel
set_option maxRecDepth 20000 in
theorem dX1_of_82 : decode cX1_of 82 = .ok (.iconst 1, 1) := by decide +kernel
set_option maxRecDepth 20000 in
theorem dX1_of_83 : decode cX1_of 83 = .ok (.putfield 34, 3) := by decide +kernel
set_option maxRecDepth 20000 in
theorem dX1_of_86 : decode cX1_of 86 = .ok (.aload_n 0, 1) := by decide +kernel
set_option maxRecDepth 20000 in
theorem dX1_of_87 : decode cX1_of 87 = .ok (.areturn, 1) := by decide +kernel
set_option maxRecDepth 20000 in
theorem dX1_weighRules_0 : decode cX1_weighRules 0 = .ok (.iconst 0, 1) := by decide +kernel
set_option maxRecDepth 20000 in
theorem dX1_weighRules_1 : decode cX1_weighRules 1 = .ok (.istore_n 3, 1) := by decide +kernel
set_option maxRecDepth 20000 in
theorem dX1_weighRules_2 : decode cX1_weighRules 2 = .ok (.iload_n 3, 1) := by decide +kernel
set_option maxRecDepth 20000 in
theorem dX1_weighRules_3 : decode cX1_weighRules 3 = .ok (.aload_n 0, 1) := by decide +kernel
set_option maxRecDepth 20000 in
theorem dX1_weighRules_4 : decode cX1_weighRules 4 = .ok (.getfield 61, 3) := by decide +kernel
set_option maxRecDepth 20000 in
theorem dX1_weighRules_7 : decode cX1_weighRules 7 = .ok (.if_icmp .ge 28, 3) := by decide +kernel
set_option maxRecDepth 20000 in
theorem dX1_weighRules_10 : decode cX1_weighRules 10 = .ok (.aload_n 0, 1) := by decide +kernel
set_option maxRecDepth 20000 in
theorem dX1_weighRules_11 : decode cX1_weighRules 11 = .ok (.getfield 16, 3) := by decide +kernel
set_option maxRecDepth 20000 in
theorem dX1_weighRules_14 : decode cX1_weighRules 14 = .ok (.iload_n 2, 1) := by decide +kernel
set_option maxRecDepth 20000 in
theorem dX1_weighRules_15 : decode cX1_weighRules 15 = .ok (.bipush 16, 2) := by decide +kernel
set_option maxRecDepth 20000 in
theorem dX1_weighRules_17 : decode cX1_weighRules 17 = .ok (.imul, 1) := by decide +kernel
set_option maxRecDepth 20000 in
theorem dX1_weighRules_18 : decode cX1_weighRules 18 = .ok (.iload_n 3, 1) := by decide +kernel
set_option maxRecDepth 20000 in
theorem dX1_weighRules_19 : decode cX1_weighRules 19 = .ok (.iadd, 1) := by decide +kernel
set_option maxRecDepth 20000 in
theorem dX1_weighRules_20 : decode cX1_weighRules 20 = .ok (.aload_n 1, 1) := by decide +kernel
set_option maxRecDepth 20000 in
theorem dX1_weighRules_21 : decode cX1_weighRules 21 = .ok (.iload_n 3, 1) := by decide +kernel
set_option maxRecDepth 20000 in
theorem dX1_weighRules_22 : decode cX1_weighRules 22 = .ok (.iload_n 2, 1) := by decide +kernel
set_option maxRecDepth 20000 in
theorem dX1_weighRules_23 : decode cX1_weighRules 23 = .ok (.invokevirtual 77, 3) := by decide +kernel
set_option maxRecDepth 20000 in
theorem dX1_weighRules_26 : decode cX1_weighRules 26 = .ok (.invokevirtual 81, 3) := by decide +kernel
set_option maxRecDepth 20000 in
theorem dX1_weighRules_29 : decode cX1_weighRules 29 = .ok (.iinc 3 1, 3) := by decide +kernel
set_option maxRecDepth 20000 in
theorem dX1_weighRules_32 : decode cX1_weighRules 32 = .ok (.goto (-30), 3) := by decide +kernel
set_option maxRecDepth 20000 in
theorem dX1_weighRules_35 : decode cX1_weighRules 35 = .ok (.return_, 1) := by decide +kernel
set_option maxRecDepth 20000 in
theorem dX1_chooseWinners_0 : decode cX1_chooseWinners 0 = .ok (.iconst 0, 1) := by decide +kernel
set_option maxRecDepth 20000 in
theorem dX1_chooseWinners_1 : decode cX1_chooseWinners 1 = .ok (.istore_n 3, 1) := by decide +kernel
set_option maxRecDepth 20000 in
theorem dX1_chooseWinners_2 : decode cX1_chooseWinners 2 = .ok (.iload_n 3, 1) := by decide +kernel
set_option maxRecDepth 20000 in
theorem dX1_chooseWinners_3 : decode cX1_chooseWinners 3 = .ok (.bipush 16, 2) := by decide +kernel
set_option maxRecDepth 20000 in
theorem dX1_chooseWinners_5 : decode cX1_chooseWinners 5 = .ok (.if_icmp .ge 30, 3) := by decide +kernel
set_option maxRecDepth 20000 in
theorem dX1_chooseWinners_8 : decode cX1_chooseWinners 8 = .ok (.aload_n 0, 1) := by decide +kernel
set_option maxRecDepth 20000 in
theorem dX1_chooseWinners_9 : decode cX1_chooseWinners 9 = .ok (.getfield 22, 3) := by decide +kernel
set_option maxRecDepth 20000 in
theorem dX1_chooseWinners_12 : decode cX1_chooseWinners 12 = .ok (.iload_n 2, 1) := by decide +kernel
set_option maxRecDepth 20000 in
theorem dX1_chooseWinners_13 : decode cX1_chooseWinners 13 = .ok (.iload_n 3, 1) := by decide +kernel
set_option maxRecDepth 20000 in
theorem dX1_chooseWinners_14 : decode cX1_chooseWinners 14 = .ok (.invokestatic 85, 3) := by decide +kernel
set_option maxRecDepth 20000 in
theorem dX1_chooseWinners_17 : decode cX1_chooseWinners 17 = .ok (.aload_n 0, 1) := by decide +kernel
set_option maxRecDepth 20000 in
theorem dX1_chooseWinners_18 : decode cX1_chooseWinners 18 = .ok (.aload_n 1, 1) := by decide +kernel
set_option maxRecDepth 20000 in
theorem dX1_chooseWinners_19 : decode cX1_chooseWinners 19 = .ok (.iload_n 2, 1) := by decide +kernel
set_option maxRecDepth 20000 in
theorem dX1_chooseWinners_20 : decode cX1_chooseWinners 20 = .ok (.iload_n 3, 1) := by decide +kernel
set_option maxRecDepth 20000 in
theorem dX1_chooseWinners_21 : decode cX1_chooseWinners 21 = .ok (.ldc 88, 2) := by decide +kernel
set_option maxRecDepth 20000 in
theorem dX1_chooseWinners_23 : decode cX1_chooseWinners 23 = .ok (.invokevirtual 89, 3) := by decide +kernel
set_option maxRecDepth 20000 in
theorem dX1_chooseWinners_26 : decode cX1_chooseWinners 26 = .ok (.invokevirtual 81, 3) := by decide +kernel
set_option maxRecDepth 20000 in
theorem dX1_chooseWinners_29 : decode cX1_chooseWinners 29 = .ok (.iinc 3 1, 3) := by decide +kernel
set_option maxRecDepth 20000 in
theorem dX1_chooseWinners_32 : decode cX1_chooseWinners 32 = .ok (.goto (-30), 3) := by decide +kernel
set_option maxRecDepth 20000 in
theorem dX1_chooseWinners_35 : decode cX1_chooseWinners 35 = .ok (.return_, 1) := by decide +kernel
set_option maxRecDepth 20000 in
theorem dX1_strongest_0 : decode cX1_strongest 0 = .ok (.iconst (-1), 1) := by decide +kernel
set_option maxRecDepth 20000 in
theorem dX1_strongest_1 : decode cX1_strongest 1 = .ok (.istore 5, 2) := by decide +kernel
set_option maxRecDepth 20000 in
theorem dX1_strongest_3 : decode cX1_strongest 3 = .ok (.iconst (-1), 1) := by decide +kernel
set_option maxRecDepth 20000 in
theorem dX1_strongest_4 : decode cX1_strongest 4 = .ok (.istore 6, 2) := by decide +kernel
set_option maxRecDepth 20000 in
theorem dX1_strongest_6 : decode cX1_strongest 6 = .ok (.iconst 0, 1) := by decide +kernel
set_option maxRecDepth 20000 in
theorem dX1_strongest_7 : decode cX1_strongest 7 = .ok (.istore 7, 2) := by decide +kernel
set_option maxRecDepth 20000 in
theorem dX1_strongest_9 : decode cX1_strongest 9 = .ok (.iload 7, 2) := by decide +kernel
set_option maxRecDepth 20000 in
theorem dX1_strongest_11 : decode cX1_strongest 11 = .ok (.aload_n 0, 1) := by decide +kernel
set_option maxRecDepth 20000 in
theorem dX1_strongest_12 : decode cX1_strongest 12 = .ok (.getfield 61, 3) := by decide +kernel
set_option maxRecDepth 20000 in
theorem dX1_strongest_15 : decode cX1_strongest 15 = .ok (.if_icmp .ge 54, 3) := by decide +kernel
set_option maxRecDepth 20000 in
theorem dX1_strongest_18 : decode cX1_strongest 18 = .ok (.aload_n 1, 1) := by decide +kernel
set_option maxRecDepth 20000 in
theorem dX1_strongest_19 : decode cX1_strongest 19 = .ok (.iload 7, 2) := by decide +kernel
set_option maxRecDepth 20000 in
theorem dX1_strongest_21 : decode cX1_strongest 21 = .ok (.iload_n 3, 1) := by decide +kernel
set_option maxRecDepth 20000 in
theorem dX1_strongest_22 : decode cX1_strongest 22 = .ok (.invokevirtual 93, 3) := by decide +kernel
set_option maxRecDepth 20000 in
theorem dX1_strongest_25 : decode cX1_strongest 25 = .ok (.ifCond .eq 13, 3) := by decide +kernel
set_option maxRecDepth 20000 in
theorem dX1_strongest_28 : decode cX1_strongest 28 = .ok (.aload_n 0, 1) := by decide +kernel
set_option maxRecDepth 20000 in
theorem dX1_strongest_29 : decode cX1_strongest 29 = .ok (.iload_n 2, 1) := by decide +kernel
set_option maxRecDepth 20000 in
theorem dX1_strongest_30 : decode cX1_strongest 30 = .ok (.iload 7, 2) := by decide +kernel
set_option maxRecDepth 20000 in
theorem dX1_strongest_32 : decode cX1_strongest 32 = .ok (.invokevirtual 97, 3) := by decide +kernel
set_option maxRecDepth 20000 in
theorem dX1_strongest_35 : decode cX1_strongest 35 = .ok (.goto 4, 3) := by decide +kernel
set_option maxRecDepth 20000 in
theorem dX1_strongest_38 : decode cX1_strongest 38 = .ok (.iconst (-1), 1) := by decide +kernel
set_option maxRecDepth 20000 in
theorem dX1_strongest_39 : decode cX1_strongest 39 = .ok (.istore 8, 2) := by decide +kernel
set_option maxRecDepth 20000 in
theorem dX1_strongest_41 : decode cX1_strongest 41 = .ok (.iload 8, 2) := by decide +kernel
set_option maxRecDepth 20000 in
theorem dX1_strongest_43 : decode cX1_strongest 43 = .ok (.iload 6, 2) := by decide +kernel
set_option maxRecDepth 20000 in
theorem dX1_strongest_45 : decode cX1_strongest 45 = .ok (.if_icmp .le 18, 3) := by decide +kernel
set_option maxRecDepth 20000 in
theorem dX1_strongest_48 : decode cX1_strongest 48 = .ok (.iload 8, 2) := by decide +kernel
set_option maxRecDepth 20000 in
theorem dX1_strongest_50 : decode cX1_strongest 50 = .ok (.iload 4, 2) := by decide +kernel
set_option maxRecDepth 20000 in
theorem dX1_strongest_52 : decode cX1_strongest 52 = .ok (.if_icmp .ge 11, 3) := by decide +kernel
set_option maxRecDepth 20000 in
theorem dX1_strongest_55 : decode cX1_strongest 55 = .ok (.iload 8, 2) := by decide +kernel
set_option maxRecDepth 20000 in
theorem dX1_strongest_57 : decode cX1_strongest 57 = .ok (.istore 6, 2) := by decide +kernel
set_option maxRecDepth 20000 in
theorem dX1_strongest_59 : decode cX1_strongest 59 = .ok (.iload 7, 2) := by decide +kernel
set_option maxRecDepth 20000 in
theorem dX1_strongest_61 : decode cX1_strongest 61 = .ok (.istore 5, 2) := by decide +kernel
set_option maxRecDepth 20000 in
theorem dX1_strongest_63 : decode cX1_strongest 63 = .ok (.iinc 7 1, 3) := by decide +kernel
set_option maxRecDepth 20000 in
theorem dX1_strongest_66 : decode cX1_strongest 66 = .ok (.goto (-57), 3) := by decide +kernel
set_option maxRecDepth 20000 in
theorem dX1_strongest_69 : decode cX1_strongest 69 = .ok (.iload 5, 2) := by decide +kernel
set_option maxRecDepth 20000 in
theorem dX1_strongest_71 : decode cX1_strongest 71 = .ok (.ireturn, 1) := by decide +kernel
set_option maxRecDepth 20000 in
theorem dX1_findCycles_0 : decode cX1_findCycles 0 = .ok (.bipush 8, 2) := by decide +kernel
set_option maxRecDepth 20000 in
theorem dX1_findCycles_2 : decode cX1_findCycles 2 = .ok (.istore_n 3, 1) := by decide +kernel
set_option maxRecDepth 20000 in
theorem dX1_findCycles_3 : decode cX1_findCycles 3 = .ok (.iload_n 3, 1) := by decide +kernel
set_option maxRecDepth 20000 in
theorem dX1_findCycles_4 : decode cX1_findCycles 4 = .ok (.bipush 16, 2) := by decide +kernel
set_option maxRecDepth 20000 in
theorem dX1_findCycles_6 : decode cX1_findCycles 6 = .ok (.if_icmp .ge 28, 3) := by decide +kernel
set_option maxRecDepth 20000 in
theorem dX1_findCycles_9 : decode cX1_findCycles 9 = .ok (.aload_n 0, 1) := by decide +kernel
set_option maxRecDepth 20000 in
theorem dX1_findCycles_10 : decode cX1_findCycles 10 = .ok (.getfield 25, 3) := by decide +kernel
set_option maxRecDepth 20000 in
theorem dX1_findCycles_13 : decode cX1_findCycles 13 = .ok (.iload_n 2, 1) := by decide +kernel
set_option maxRecDepth 20000 in
theorem dX1_findCycles_14 : decode cX1_findCycles 14 = .ok (.iload_n 3, 1) := by decide +kernel
set_option maxRecDepth 20000 in
theorem dX1_findCycles_15 : decode cX1_findCycles 15 = .ok (.invokestatic 85, 3) := by decide +kernel
set_option maxRecDepth 20000 in
theorem dX1_findCycles_18 : decode cX1_findCycles 18 = .ok (.aload_n 0, 1) := by decide +kernel
set_option maxRecDepth 20000 in
theorem dX1_findCycles_19 : decode cX1_findCycles 19 = .ok (.aload_n 1, 1) := by decide +kernel
set_option maxRecDepth 20000 in
theorem dX1_findCycles_20 : decode cX1_findCycles 20 = .ok (.iload_n 2, 1) := by decide +kernel
set_option maxRecDepth 20000 in
theorem dX1_findCycles_21 : decode cX1_findCycles 21 = .ok (.iload_n 3, 1) := by decide +kernel
set_option maxRecDepth 20000 in
theorem dX1_findCycles_22 : decode cX1_findCycles 22 = .ok (.invokevirtual 100, 3) := by decide +kernel
set_option maxRecDepth 20000 in
theorem dX1_findCycles_25 : decode cX1_findCycles 25 = .ok (.invokevirtual 81, 3) := by decide +kernel
set_option maxRecDepth 20000 in
theorem dX1_findCycles_28 : decode cX1_findCycles 28 = .ok (.iinc 3 1, 3) := by decide +kernel
set_option maxRecDepth 20000 in
theorem dX1_findCycles_31 : decode cX1_findCycles 31 = .ok (.goto (-28), 3) := by decide +kernel
set_option maxRecDepth 20000 in
theorem dX1_findCycles_34 : decode cX1_findCycles 34 = .ok (.return_, 1) := by decide +kernel
set_option maxRecDepth 20000 in
theorem dX1_cycleFrom_0 : decode cX1_cycleFrom 0 = .ok (.iload_n 3, 1) := by decide +kernel
set_option maxRecDepth 20000 in
theorem dX1_cycleFrom_1 : decode cX1_cycleFrom 1 = .ok (.istore 4, 2) := by decide +kernel
set_option maxRecDepth 20000 in
theorem dX1_cycleFrom_3 : decode cX1_cycleFrom 3 = .ok (.iconst 1, 1) := by decide +kernel
set_option maxRecDepth 20000 in
theorem dX1_cycleFrom_4 : decode cX1_cycleFrom 4 = .ok (.istore 5, 2) := by decide +kernel
set_option maxRecDepth 20000 in
theorem dX1_cycleFrom_6 : decode cX1_cycleFrom 6 = .ok (.iload 5, 2) := by decide +kernel
set_option maxRecDepth 20000 in
theorem dX1_cycleFrom_8 : decode cX1_cycleFrom 8 = .ok (.bipush 8, 2) := by decide +kernel
set_option maxRecDepth 20000 in
theorem dX1_cycleFrom_10 : decode cX1_cycleFrom 10 = .ok (.if_icmp .gt 54, 3) := by decide +kernel
set_option maxRecDepth 20000 in
theorem dX1_cycleFrom_13 : decode cX1_cycleFrom 13 = .ok (.iload 4, 2) := by decide +kernel
set_option maxRecDepth 20000 in
theorem dX1_cycleFrom_15 : decode cX1_cycleFrom 15 = .ok (.iconst (-1), 1) := by decide +kernel
set_option maxRecDepth 20000 in
theorem dX1_cycleFrom_16 : decode cX1_cycleFrom 16 = .ok (.if_icmp .eq 48, 3) := by decide +kernel
set_option maxRecDepth 20000 in
theorem dX1_cycleFrom_19 : decode cX1_cycleFrom 19 = .ok (.aload_n 0, 1) := by decide +kernel
set_option maxRecDepth 20000 in
theorem dX1_cycleFrom_20 : decode cX1_cycleFrom 20 = .ok (.iload_n 2, 1) := by decide +kernel
set_option maxRecDepth 20000 in
theorem dX1_cycleFrom_21 : decode cX1_cycleFrom 21 = .ok (.iload 4, 2) := by decide +kernel
set_option maxRecDepth 20000 in
theorem dX1_cycleFrom_23 : decode cX1_cycleFrom 23 = .ok (.invokevirtual 104, 3) := by decide +kernel
set_option maxRecDepth 20000 in
theorem dX1_cycleFrom_26 : decode cX1_cycleFrom 26 = .ok (.istore 6, 2) := by decide +kernel
set_option maxRecDepth 20000 in
theorem dX1_cycleFrom_28 : decode cX1_cycleFrom 28 = .ok (.iload 6, 2) := by decide +kernel
set_option maxRecDepth 20000 in
theorem dX1_cycleFrom_30 : decode cX1_cycleFrom 30 = .ok (.iconst (-1), 1) := by decide +kernel
set_option maxRecDepth 20000 in
theorem dX1_cycleFrom_31 : decode cX1_cycleFrom 31 = .ok (.if_icmp .ne 7, 3) := by decide +kernel
set_option maxRecDepth 20000 in
theorem dX1_cycleFrom_34 : decode cX1_cycleFrom 34 = .ok (.iconst (-1), 1) := by decide +kernel
set_option maxRecDepth 20000 in
theorem dX1_cycleFrom_35 : decode cX1_cycleFrom 35 = .ok (.goto 12, 3) := by decide +kernel
set_option maxRecDepth 20000 in
theorem dX1_cycleFrom_38 : decode cX1_cycleFrom 38 = .ok (.aload_n 1, 1) := by decide +kernel
set_option maxRecDepth 20000 in
theorem dX1_cycleFrom_39 : decode cX1_cycleFrom 39 = .ok (.iload 6, 2) := by decide +kernel
set_option maxRecDepth 20000 in
theorem dX1_cycleFrom_41 : decode cX1_cycleFrom 41 = .ok (.iload 4, 2) := by decide +kernel
set_option maxRecDepth 20000 in
theorem dX1_cycleFrom_43 : decode cX1_cycleFrom 43 = .ok (.iconst 1, 1) := by decide +kernel
set_option maxRecDepth 20000 in
theorem dX1_cycleFrom_44 : decode cX1_cycleFrom 44 = .ok (.invokevirtual 107, 3) := by decide +kernel
set_option maxRecDepth 20000 in
theorem dX1_cycleFrom_47 : decode cX1_cycleFrom 47 = .ok (.istore 4, 2) := by decide +kernel
set_option maxRecDepth 20000 in
theorem dX1_cycleFrom_49 : decode cX1_cycleFrom 49 = .ok (.iload 4, 2) := by decide +kernel
set_option maxRecDepth 20000 in
theorem dX1_cycleFrom_51 : decode cX1_cycleFrom 51 = .ok (.iload_n 3, 1) := by decide +kernel
set_option maxRecDepth 20000 in
theorem dX1_cycleFrom_52 : decode cX1_cycleFrom 52 = .ok (.if_icmp .ne 6, 3) := by decide +kernel
set_option maxRecDepth 20000 in
theorem dX1_cycleFrom_55 : decode cX1_cycleFrom 55 = .ok (.iload 5, 2) := by decide +kernel
set_option maxRecDepth 20000 in
theorem dX1_cycleFrom_57 : decode cX1_cycleFrom 57 = .ok (.ireturn, 1) := by decide +kernel
set_option maxRecDepth 20000 in
theorem dX1_cycleFrom_58 : decode cX1_cycleFrom 58 = .ok (.iinc 5 1, 3) := by decide +kernel
set_option maxRecDepth 20000 in
theorem dX1_cycleFrom_61 : decode cX1_cycleFrom 61 = .ok (.goto (-55), 3) := by decide +kernel
set_option maxRecDepth 20000 in
theorem dX1_cycleFrom_64 : decode cX1_cycleFrom 64 = .ok (.iconst 0, 1) := by decide +kernel
set_option maxRecDepth 20000 in
theorem dX1_cycleFrom_65 : decode cX1_cycleFrom 65 = .ok (.ireturn, 1) := by decide +kernel
set_option maxRecDepth 20000 in
theorem dX1_giveValues_0 : decode cX1_giveValues 0 = .ok (.bipush 8, 2) := by decide +kernel
set_option maxRecDepth 20000 in
theorem dX1_giveValues_2 : decode cX1_giveValues 2 = .ok (.istore_n 3, 1) := by decide +kernel
set_option maxRecDepth 20000 in
theorem dX1_giveValues_3 : decode cX1_giveValues 3 = .ok (.iload_n 3, 1) := by decide +kernel
set_option maxRecDepth 20000 in
theorem dX1_giveValues_4 : decode cX1_giveValues 4 = .ok (.bipush 16, 2) := by decide +kernel
set_option maxRecDepth 20000 in
theorem dX1_giveValues_6 : decode cX1_giveValues 6 = .ok (.if_icmp .ge 34, 3) := by decide +kernel
set_option maxRecDepth 20000 in
theorem dX1_giveValues_9 : decode cX1_giveValues 9 = .ok (.bipush 8, 2) := by decide +kernel
set_option maxRecDepth 20000 in
theorem dX1_giveValues_11 : decode cX1_giveValues 11 = .ok (.istore 4, 2) := by decide +kernel
set_option maxRecDepth 20000 in
theorem dX1_giveValues_13 : decode cX1_giveValues 13 = .ok (.iload 4, 2) := by decide +kernel
set_option maxRecDepth 20000 in
theorem dX1_giveValues_15 : decode cX1_giveValues 15 = .ok (.bipush 16, 2) := by decide +kernel
set_option maxRecDepth 20000 in
theorem dX1_giveValues_17 : decode cX1_giveValues 17 = .ok (.if_icmp .ge 17, 3) := by decide +kernel
set_option maxRecDepth 20000 in
theorem dX1_giveValues_20 : decode cX1_giveValues 20 = .ok (.aload_n 0, 1) := by decide +kernel
set_option maxRecDepth 20000 in
theorem dX1_giveValues_21 : decode cX1_giveValues 21 = .ok (.aload_n 1, 1) := by decide +kernel
set_option maxRecDepth 20000 in
theorem dX1_giveValues_22 : decode cX1_giveValues 22 = .ok (.iload_n 2, 1) := by decide +kernel
set_option maxRecDepth 20000 in
theorem dX1_giveValues_23 : decode cX1_giveValues 23 = .ok (.iload 4, 2) := by decide +kernel
set_option maxRecDepth 20000 in
theorem dX1_giveValues_25 : decode cX1_giveValues 25 = .ok (.invokevirtual 111, 3) := by decide +kernel
set_option maxRecDepth 20000 in
theorem dX1_giveValues_28 : decode cX1_giveValues 28 = .ok (.iinc 4 1, 3) := by decide +kernel
set_option maxRecDepth 20000 in
theorem dX1_giveValues_31 : decode cX1_giveValues 31 = .ok (.goto (-18), 3) := by decide +kernel
set_option maxRecDepth 20000 in
theorem dX1_giveValues_34 : decode cX1_giveValues 34 = .ok (.iinc 3 1, 3) := by decide +kernel
set_option maxRecDepth 20000 in
theorem dX1_giveValues_37 : decode cX1_giveValues 37 = .ok (.goto (-34), 3) := by decide +kernel
set_option maxRecDepth 20000 in
theorem dX1_giveValues_40 : decode cX1_giveValues 40 = .ok (.iconst 0, 1) := by decide +kernel
set_option maxRecDepth 20000 in
theorem dX1_giveValues_41 : decode cX1_giveValues 41 = .ok (.istore_n 3, 1) := by decide +kernel
set_option maxRecDepth 20000 in
theorem dX1_giveValues_42 : decode cX1_giveValues 42 = .ok (.iload_n 3, 1) := by decide +kernel
set_option maxRecDepth 20000 in
theorem dX1_giveValues_43 : decode cX1_giveValues 43 = .ok (.bipush 8, 2) := by decide +kernel
set_option maxRecDepth 20000 in
theorem dX1_giveValues_45 : decode cX1_giveValues 45 = .ok (.if_icmp .ge 16, 3) := by decide +kernel
set_option maxRecDepth 20000 in
theorem dX1_giveValues_48 : decode cX1_giveValues 48 = .ok (.aload_n 0, 1) := by decide +kernel
set_option maxRecDepth 20000 in
theorem dX1_giveValues_49 : decode cX1_giveValues 49 = .ok (.aload_n 1, 1) := by decide +kernel
set_option maxRecDepth 20000 in
theorem dX1_giveValues_50 : decode cX1_giveValues 50 = .ok (.iload_n 2, 1) := by decide +kernel
set_option maxRecDepth 20000 in
theorem dX1_giveValues_51 : decode cX1_giveValues 51 = .ok (.iload_n 3, 1) := by decide +kernel
set_option maxRecDepth 20000 in
theorem dX1_giveValues_52 : decode cX1_giveValues 52 = .ok (.invokevirtual 111, 3) := by decide +kernel
set_option maxRecDepth 20000 in
theorem dX1_giveValues_55 : decode cX1_giveValues 55 = .ok (.iinc 3 1, 3) := by decide +kernel
set_option maxRecDepth 20000 in
theorem dX1_giveValues_58 : decode cX1_giveValues 58 = .ok (.goto (-16), 3) := by decide +kernel
set_option maxRecDepth 20000 in
theorem dX1_giveValues_61 : decode cX1_giveValues 61 = .ok (.return_, 1) := by decide +kernel
set_option maxRecDepth 20000 in
theorem dX1_giveValue_0 : decode cX1_giveValue 0 = .ok (.iload_n 3, 1) := by decide +kernel
set_option maxRecDepth 20000 in
theorem dX1_giveValue_1 : decode cX1_giveValue 1 = .ok (.invokestatic 115, 3) := by decide +kernel
set_option maxRecDepth 20000 in
theorem dX1_giveValue_4 : decode cX1_giveValue 4 = .ok (.ifCond .eq 16, 3) := by decide +kernel
set_option maxRecDepth 20000 in
theorem dX1_giveValue_7 : decode cX1_giveValue 7 = .ok (.aload_n 0, 1) := by decide +kernel
set_option maxRecDepth 20000 in
theorem dX1_giveValue_8 : decode cX1_giveValue 8 = .ok (.iload_n 2, 1) := by decide +kernel
set_option maxRecDepth 20000 in
theorem dX1_giveValue_9 : decode cX1_giveValue 9 = .ok (.iload_n 3, 1) := by decide +kernel
set_option maxRecDepth 20000 in
theorem dX1_giveValue_10 : decode cX1_giveValue 10 = .ok (.invokevirtual 119, 3) := by decide +kernel
set_option maxRecDepth 20000 in
theorem dX1_giveValue_13 : decode cX1_giveValue 13 = .ok (.ifCond .le 7, 3) := by decide +kernel
set_option maxRecDepth 20000 in
theorem dX1_giveValue_16 : decode cX1_giveValue 16 = .ok (.iconst 1, 1) := by decide +kernel
set_option maxRecDepth 20000 in
theorem dX1_giveValue_17 : decode cX1_giveValue 17 = .ok (.goto 4, 3) := by decide +kernel
set_option maxRecDepth 20000 in
theorem dX1_giveValue_20 : decode cX1_giveValue 20 = .ok (.iconst 0, 1) := by decide +kernel
set_option maxRecDepth 20000 in
theorem dX1_giveValue_21 : decode cX1_giveValue 21 = .ok (.istore 4, 2) := by decide +kernel
set_option maxRecDepth 20000 in
theorem dX1_giveValue_23 : decode cX1_giveValue 23 = .ok (.iload_n 3, 1) := by decide +kernel
set_option maxRecDepth 20000 in
theorem dX1_giveValue_24 : decode cX1_giveValue 24 = .ok (.invokestatic 115, 3) := by decide +kernel
set_option maxRecDepth 20000 in
theorem dX1_giveValue_27 : decode cX1_giveValue 27 = .ok (.ifCond .ne 9, 3) := by decide +kernel
set_option maxRecDepth 20000 in
theorem dX1_giveValue_30 : decode cX1_giveValue 30 = .ok (.iload_n 3, 1) := by decide +kernel
set_option maxRecDepth 20000 in
theorem dX1_giveValue_31 : decode cX1_giveValue 31 = .ok (.iconst 2, 1) := by decide +kernel
set_option maxRecDepth 20000 in
theorem dX1_giveValue_32 : decode cX1_giveValue 32 = .ok (.irem, 1) := by decide +kernel
set_option maxRecDepth 20000 in
theorem dX1_giveValue_33 : decode cX1_giveValue 33 = .ok (.ifCond .ne 7, 3) := by decide +kernel
set_option maxRecDepth 20000 in
theorem dX1_giveValue_36 : decode cX1_giveValue 36 = .ok (.iconst 1, 1) := by decide +kernel
set_option maxRecDepth 20000 in
theorem dX1_giveValue_37 : decode cX1_giveValue 37 = .ok (.goto 4, 3) := by decide +kernel
set_option maxRecDepth 20000 in
theorem dX1_giveValue_40 : decode cX1_giveValue 40 = .ok (.iconst 0, 1) := by decide +kernel
set_option maxRecDepth 20000 in
theorem dX1_giveValue_41 : decode cX1_giveValue 41 = .ok (.istore 5, 2) := by decide +kernel
set_option maxRecDepth 20000 in
theorem dX1_giveValue_43 : decode cX1_giveValue 43 = .ok (.iload 4, 2) := by decide +kernel
set_option maxRecDepth 20000 in
theorem dX1_giveValue_45 : decode cX1_giveValue 45 = .ok (.ifCond .eq 7, 3) := by decide +kernel
set_option maxRecDepth 20000 in
theorem dX1_giveValue_48 : decode cX1_giveValue 48 = .ok (.iconst (-1), 1) := by decide +kernel
set_option maxRecDepth 20000 in
theorem dX1_giveValue_49 : decode cX1_giveValue 49 = .ok (.goto 13, 3) := by decide +kernel
set_option maxRecDepth 20000 in
theorem dX1_giveValue_52 : decode cX1_giveValue 52 = .ok (.aload_n 0, 1) := by decide +kernel
set_option maxRecDepth 20000 in
theorem dX1_giveValue_53 : decode cX1_giveValue 53 = .ok (.aload_n 1, 1) := by decide +kernel
set_option maxRecDepth 20000 in
theorem dX1_giveValue_54 : decode cX1_giveValue 54 = .ok (.getfield 54, 3) := by decide +kernel
set_option maxRecDepth 20000 in
theorem dX1_giveValue_57 : decode cX1_giveValue 57 = .ok (.iload_n 2, 1) := by decide +kernel
set_option maxRecDepth 20000 in
theorem dX1_giveValue_58 : decode cX1_giveValue 58 = .ok (.iload_n 3, 1) := by decide +kernel
set_option maxRecDepth 20000 in
theorem dX1_giveValue_59 : decode cX1_giveValue 59 = .ok (.invokevirtual 122, 3) := by decide +kernel
set_option maxRecDepth 20000 in
theorem dX1_giveValue_62 : decode cX1_giveValue 62 = .ok (.istore 6, 2) := by decide +kernel
set_option maxRecDepth 20000 in
theorem dX1_giveValue_64 : decode cX1_giveValue 64 = .ok (.iload 6, 2) := by decide +kernel
set_option maxRecDepth 20000 in
theorem dX1_giveValue_66 : decode cX1_giveValue 66 = .ok (.iconst (-1), 1) := by decide +kernel
set_option maxRecDepth 20000 in
theorem dX1_giveValue_67 : decode cX1_giveValue 67 = .ok (.if_icmp .ne 7, 3) := by decide +kernel
set_option maxRecDepth 20000 in
theorem dX1_giveValue_70 : decode cX1_giveValue 70 = .ok (.iconst (-1), 1) := by decide +kernel
set_option maxRecDepth 20000 in
theorem dX1_giveValue_71 : decode cX1_giveValue 71 = .ok (.goto 4, 3) := by decide +kernel
set_option maxRecDepth 20000 in
theorem dX1_giveValue_74 : decode cX1_giveValue 74 = .ok (.iload_n 2, 1) := by decide +kernel
set_option maxRecDepth 20000 in
theorem dX1_giveValue_75 : decode cX1_giveValue 75 = .ok (.istore 7, 2) := by decide +kernel
set_option maxRecDepth 20000 in
theorem dX1_giveValue_77 : decode cX1_giveValue 77 = .ok (.iload 6, 2) := by decide +kernel
set_option maxRecDepth 20000 in
theorem dX1_giveValue_79 : decode cX1_giveValue 79 = .ok (.iconst (-1), 1) := by decide +kernel
set_option maxRecDepth 20000 in
theorem dX1_giveValue_80 : decode cX1_giveValue 80 = .ok (.if_icmp .ne 45, 3) := by decide +kernel
set_option maxRecDepth 20000 in
theorem dX1_giveValue_83 : decode cX1_giveValue 83 = .ok (.iload 4, 2) := by decide +kernel
set_option maxRecDepth 20000 in
theorem dX1_giveValue_85 : decode cX1_giveValue 85 = .ok (.ifCond .ne 40, 3) := by decide +kernel
set_option maxRecDepth 20000 in
theorem dX1_giveValue_88 : decode cX1_giveValue 88 = .ok (.iload 5, 2) := by decide +kernel
set_option maxRecDepth 20000 in
theorem dX1_giveValue_90 : decode cX1_giveValue 90 = .ok (.ifCond .eq 35, 3) := by decide +kernel
set_option maxRecDepth 20000 in
theorem dX1_giveValue_93 : decode cX1_giveValue 93 = .ok (.iload_n 2, 1) := by decide +kernel
set_option maxRecDepth 20000 in
theorem dX1_giveValue_94 : decode cX1_giveValue 94 = .ok (.ifCond .eq 31, 3) := by decide +kernel
set_option maxRecDepth 20000 in
theorem dX1_giveValue_97 : decode cX1_giveValue 97 = .ok (.aload_n 1, 1) := by decide +kernel
set_option maxRecDepth 20000 in
theorem dX1_giveValue_98 : decode cX1_giveValue 98 = .ok (.getfield 38, 3) := by decide +kernel
set_option maxRecDepth 20000 in
theorem dX1_giveValue_101 : decode cX1_giveValue 101 = .ok (.iload_n 2, 1) := by decide +kernel
set_option maxRecDepth 20000 in
theorem dX1_giveValue_102 : decode cX1_giveValue 102 = .ok (.invokevirtual 125, 3) := by decide +kernel
set_option maxRecDepth 20000 in
theorem dX1_giveValue_105 : decode cX1_giveValue 105 = .ok (.istore 8, 2) := by decide +kernel
set_option maxRecDepth 20000 in
theorem dX1_giveValue_107 : decode cX1_giveValue 107 = .ok (.aload_n 0, 1) := by decide +kernel
set_option maxRecDepth 20000 in
theorem dX1_giveValue_108 : decode cX1_giveValue 108 = .ok (.iload 8, 2) := by decide +kernel
set_option maxRecDepth 20000 in
theorem dX1_giveValue_110 : decode cX1_giveValue 110 = .ok (.iload_n 3, 1) := by decide +kernel
set_option maxRecDepth 20000 in
theorem dX1_giveValue_111 : decode cX1_giveValue 111 = .ok (.invokevirtual 129, 3) := by decide +kernel
set_option maxRecDepth 20000 in
theorem dX1_giveValue_114 : decode cX1_giveValue 114 = .ok (.istore 6, 2) := by decide +kernel
set_option maxRecDepth 20000 in
theorem dX1_giveValue_116 : decode cX1_giveValue 116 = .ok (.aload_n 0, 1) := by decide +kernel
set_option maxRecDepth 20000 in
theorem dX1_giveValue_117 : decode cX1_giveValue 117 = .ok (.iload 8, 2) := by decide +kernel
set_option maxRecDepth 20000 in
theorem dX1_giveValue_119 : decode cX1_giveValue 119 = .ok (.iload_n 3, 1) := by decide +kernel
set_option maxRecDepth 20000 in
theorem dX1_giveValue_120 : decode cX1_giveValue 120 = .ok (.invokevirtual 132, 3) := by decide +kernel
set_option maxRecDepth 20000 in
theorem dX1_giveValue_123 : decode cX1_giveValue 123 = .ok (.istore 7, 2) := by decide +kernel
set_option maxRecDepth 20000 in
theorem dX1_giveValue_125 : decode cX1_giveValue 125 = .ok (.aload_n 0, 1) := by decide +kernel
set_option maxRecDepth 20000 in
theorem dX1_giveValue_126 : decode cX1_giveValue 126 = .ok (.getfield 28, 3) := by decide +kernel
set_option maxRecDepth 20000 in
theorem dX1_giveValue_129 : decode cX1_giveValue 129 = .ok (.iload_n 2, 1) := by decide +kernel
set_option maxRecDepth 20000 in
theorem dX1_giveValue_130 : decode cX1_giveValue 130 = .ok (.iload_n 3, 1) := by decide +kernel
set_option maxRecDepth 20000 in
theorem dX1_giveValue_131 : decode cX1_giveValue 131 = .ok (.invokestatic 85, 3) := by decide +kernel
set_option maxRecDepth 20000 in
theorem dX1_giveValue_134 : decode cX1_giveValue 134 = .ok (.iload 6, 2) := by decide +kernel
set_option maxRecDepth 20000 in
theorem dX1_giveValue_136 : decode cX1_giveValue 136 = .ok (.invokevirtual 81, 3) := by decide +kernel
set_option maxRecDepth 20000 in
theorem dX1_giveValue_139 : decode cX1_giveValue 139 = .ok (.aload_n 0, 1) := by decide +kernel
set_option maxRecDepth 20000 in
theorem dX1_giveValue_140 : decode cX1_giveValue 140 = .ok (.getfield 31, 3) := by decide +kernel
set_option maxRecDepth 20000 in
theorem dX1_giveValue_143 : decode cX1_giveValue 143 = .ok (.iload_n 2, 1) := by decide +kernel
set_option maxRecDepth 20000 in
theorem dX1_giveValue_144 : decode cX1_giveValue 144 = .ok (.iload_n 3, 1) := by decide +kernel
set_option maxRecDepth 20000 in
theorem dX1_giveValue_145 : decode cX1_giveValue 145 = .ok (.invokestatic 85, 3) := by decide +kernel
set_option maxRecDepth 20000 in
theorem dX1_giveValue_148 : decode cX1_giveValue 148 = .ok (.iload 7, 2) := by decide +kernel
set_option maxRecDepth 20000 in
theorem dX1_giveValue_150 : decode cX1_giveValue 150 = .ok (.invokevirtual 81, 3) := by decide +kernel
set_option maxRecDepth 20000 in
theorem dX1_giveValue_153 : decode cX1_giveValue 153 = .ok (.return_, 1) := by decide +kernel
set_option maxRecDepth 20000 in
theorem dX1_given_0 : decode cX1_given 0 = .ok (.aload_n 0, 1) := by decide +kernel
set_option maxRecDepth 20000 in
theorem dX1_given_1 : decode cX1_given 1 = .ok (.iload_n 2, 1) := by decide +kernel
set_option maxRecDepth 20000 in
theorem dX1_given_2 : decode cX1_given 2 = .ok (.iload_n 3, 1) := by decide +kernel
set_option maxRecDepth 20000 in
theorem dX1_given_3 : decode cX1_given 3 = .ok (.invokevirtual 104, 3) := by decide +kernel
set_option maxRecDepth 20000 in
theorem dX1_given_6 : decode cX1_given 6 = .ok (.istore 4, 2) := by decide +kernel
set_option maxRecDepth 20000 in
theorem dX1_given_8 : decode cX1_given 8 = .ok (.iload 4, 2) := by decide +kernel
set_option maxRecDepth 20000 in
theorem dX1_given_10 : decode cX1_given 10 = .ok (.iconst (-1), 1) := by decide +kernel
set_option maxRecDepth 20000 in
theorem dX1_given_11 : decode cX1_given 11 = .ok (.if_icmp .ne 5, 3) := by decide +kernel
set_option maxRecDepth 20000 in
theorem dX1_given_14 : decode cX1_given 14 = .ok (.iconst (-1), 1) := by decide +kernel
set_option maxRecDepth 20000 in
theorem dX1_given_15 : decode cX1_given 15 = .ok (.ireturn, 1) := by decide +kernel
set_option maxRecDepth 20000 in
theorem dX1_given_16 : decode cX1_given 16 = .ok (.aload_n 1, 1) := by decide +kernel
set_option maxRecDepth 20000 in
theorem dX1_given_17 : decode cX1_given 17 = .ok (.iload 4, 2) := by decide +kernel
set_option maxRecDepth 20000 in
theorem dX1_given_19 : decode cX1_given 19 = .ok (.iload_n 3, 1) := by decide +kernel
set_option maxRecDepth 20000 in
theorem dX1_given_20 : decode cX1_given 20 = .ok (.iconst 0, 1) := by decide +kernel
set_option maxRecDepth 20000 in
theorem dX1_given_21 : decode cX1_given 21 = .ok (.invokevirtual 107, 3) := by decide +kernel
set_option maxRecDepth 20000 in
theorem dX1_given_24 : decode cX1_given 24 = .ok (.istore 5, 2) := by decide +kernel
set_option maxRecDepth 20000 in
theorem dX1_given_26 : decode cX1_given 26 = .ok (.iload 5, 2) := by decide +kernel
set_option maxRecDepth 20000 in
theorem dX1_given_28 : decode cX1_given 28 = .ok (.iconst (-1), 1) := by decide +kernel
set_option maxRecDepth 20000 in
theorem dX1_given_29 : decode cX1_given 29 = .ok (.if_icmp .eq 6, 3) := by decide +kernel
set_option maxRecDepth 20000 in
theorem dX1_given_32 : decode cX1_given 32 = .ok (.iload 5, 2) := by decide +kernel
set_option maxRecDepth 20000 in
theorem dX1_given_34 : decode cX1_given 34 = .ok (.ireturn, 1) := by decide +kernel
set_option maxRecDepth 20000 in
theorem dX1_given_35 : decode cX1_given 35 = .ok (.aload_n 0, 1) := by decide +kernel
set_option maxRecDepth 20000 in
theorem dX1_given_36 : decode cX1_given 36 = .ok (.iload_n 2, 1) := by decide +kernel
set_option maxRecDepth 20000 in
theorem dX1_given_37 : decode cX1_given 37 = .ok (.aload_n 1, 1) := by decide +kernel
set_option maxRecDepth 20000 in
theorem dX1_given_38 : decode cX1_given 38 = .ok (.iload 4, 2) := by decide +kernel
set_option maxRecDepth 20000 in
theorem dX1_given_40 : decode cX1_given 40 = .ok (.iload_n 3, 1) := by decide +kernel
set_option maxRecDepth 20000 in
theorem dX1_given_41 : decode cX1_given 41 = .ok (.iconst 1, 1) := by decide +kernel
set_option maxRecDepth 20000 in
theorem dX1_given_42 : decode cX1_given 42 = .ok (.invokevirtual 107, 3) := by decide +kernel
set_option maxRecDepth 20000 in
theorem dX1_given_45 : decode cX1_given 45 = .ok (.invokevirtual 129, 3) := by decide +kernel
set_option maxRecDepth 20000 in
theorem dX1_given_48 : decode cX1_given 48 = .ok (.istore 6, 2) := by decide +kernel
set_option maxRecDepth 20000 in
theorem dX1_given_50 : decode cX1_given 50 = .ok (.iload 6, 2) := by decide +kernel
set_option maxRecDepth 20000 in
theorem dX1_given_52 : decode cX1_given 52 = .ok (.aload_n 1, 1) := by decide +kernel
set_option maxRecDepth 20000 in
theorem dX1_given_53 : decode cX1_given 53 = .ok (.iload 4, 2) := by decide +kernel
set_option maxRecDepth 20000 in
theorem dX1_given_55 : decode cX1_given 55 = .ok (.iload_n 3, 1) := by decide +kernel
set_option maxRecDepth 20000 in
theorem dX1_given_56 : decode cX1_given 56 = .ok (.iconst 2, 1) := by decide +kernel
set_option maxRecDepth 20000 in
theorem dX1_given_57 : decode cX1_given 57 = .ok (.invokevirtual 107, 3) := by decide +kernel
set_option maxRecDepth 20000 in
theorem dX1_given_60 : decode cX1_given 60 = .ok (.invokestatic 135, 3) := by decide +kernel
set_option maxRecDepth 20000 in
theorem dX1_given_63 : decode cX1_given 63 = .ok (.ireturn, 1) := by decide +kernel
set_option maxRecDepth 20000 in
theorem dX1_isMatch_0 : decode cX1_isMatch 0 = .ok (.aload_n 0, 1) := by decide +kernel
set_option maxRecDepth 20000 in
theorem dX1_isMatch_1 : decode cX1_isMatch 1 = .ok (.iload_n 2, 1) := by decide +kernel
set_option maxRecDepth 20000 in
theorem dX1_isMatch_2 : decode cX1_isMatch 2 = .ok (.iload_n 1, 1) := by decide +kernel
set_option maxRecDepth 20000 in
theorem dX1_isMatch_3 : decode cX1_isMatch 3 = .ok (.invokevirtual 97, 3) := by decide +kernel
set_option maxRecDepth 20000 in
theorem dX1_isMatch_6 : decode cX1_isMatch 6 = .ok (.iconst (-1), 1) := by decide +kernel
set_option maxRecDepth 20000 in
theorem dX1_isMatch_7 : decode cX1_isMatch 7 = .ok (.if_icmp .eq 7, 3) := by decide +kernel
set_option maxRecDepth 20000 in
theorem dX1_isMatch_10 : decode cX1_isMatch 10 = .ok (.iconst 1, 1) := by decide +kernel
set_option maxRecDepth 20000 in
theorem dX1_isMatch_11 : decode cX1_isMatch 11 = .ok (.goto 4, 3) := by decide +kernel
set_option maxRecDepth 20000 in
theorem dX1_isMatch_14 : decode cX1_isMatch 14 = .ok (.iconst 0, 1) := by decide +kernel
set_option maxRecDepth 20000 in
theorem dX1_isMatch_15 : decode cX1_isMatch 15 = .ok (.ireturn, 1) := by decide +kernel
set_option maxRecDepth 20000 in
theorem dX1_rulesOn_0 : decode cX1_rulesOn 0 = .ok (.iconst 0, 1) := by decide +kernel
set_option maxRecDepth 20000 in
theorem dX1_rulesOn_1 : decode cX1_rulesOn 1 = .ok (.istore_n 2, 1) := by decide +kernel
set_option maxRecDepth 20000 in
theorem dX1_rulesOn_2 : decode cX1_rulesOn 2 = .ok (.iconst 0, 1) := by decide +kernel
set_option maxRecDepth 20000 in
theorem dX1_rulesOn_3 : decode cX1_rulesOn 3 = .ok (.istore_n 3, 1) := by decide +kernel
set_option maxRecDepth 20000 in
theorem dX1_rulesOn_4 : decode cX1_rulesOn 4 = .ok (.iload_n 3, 1) := by decide +kernel
set_option maxRecDepth 20000 in
theorem dX1_rulesOn_5 : decode cX1_rulesOn 5 = .ok (.aload_n 0, 1) := by decide +kernel
set_option maxRecDepth 20000 in
theorem dX1_rulesOn_6 : decode cX1_rulesOn 6 = .ok (.getfield 61, 3) := by decide +kernel
set_option maxRecDepth 20000 in
theorem dX1_rulesOn_9 : decode cX1_rulesOn 9 = .ok (.if_icmp .ge 26, 3) := by decide +kernel
set_option maxRecDepth 20000 in
theorem dX1_rulesOn_12 : decode cX1_rulesOn 12 = .ok (.iload_n 2, 1) := by decide +kernel
set_option maxRecDepth 20000 in
theorem dX1_rulesOn_13 : decode cX1_rulesOn 13 = .ok (.aload_n 0, 1) := by decide +kernel
set_option maxRecDepth 20000 in
theorem dX1_rulesOn_14 : decode cX1_rulesOn 14 = .ok (.iload_n 3, 1) := by decide +kernel
set_option maxRecDepth 20000 in
theorem dX1_rulesOn_15 : decode cX1_rulesOn 15 = .ok (.iload_n 1, 1) := by decide +kernel
set_option maxRecDepth 20000 in
theorem dX1_rulesOn_16 : decode cX1_rulesOn 16 = .ok (.invokevirtual 138, 3) := by decide +kernel
set_option maxRecDepth 20000 in
theorem dX1_rulesOn_19 : decode cX1_rulesOn 19 = .ok (.ifCond .eq 7, 3) := by decide +kernel
set_option maxRecDepth 20000 in
theorem dX1_rulesOn_22 : decode cX1_rulesOn 22 = .ok (.iconst 1, 1) := by decide +kernel
set_option maxRecDepth 20000 in
theorem dX1_rulesOn_23 : decode cX1_rulesOn 23 = .ok (.goto 4, 3) := by decide +kernel
set_option maxRecDepth 20000 in
theorem dX1_rulesOn_26 : decode cX1_rulesOn 26 = .ok (.iconst 0, 1) := by decide +kernel
set_option maxRecDepth 20000 in
theorem dX1_rulesOn_27 : decode cX1_rulesOn 27 = .ok (.iadd, 1) := by decide +kernel
set_option maxRecDepth 20000 in
theorem dX1_rulesOn_28 : decode cX1_rulesOn 28 = .ok (.istore_n 2, 1) := by decide +kernel
set_option maxRecDepth 20000 in
theorem dX1_rulesOn_29 : decode cX1_rulesOn 29 = .ok (.iinc 3 1, 3) := by decide +kernel
set_option maxRecDepth 20000 in
theorem dX1_rulesOn_32 : decode cX1_rulesOn 32 = .ok (.goto (-28), 3) := by decide +kernel
set_option maxRecDepth 20000 in
theorem dX1_rulesOn_35 : decode cX1_rulesOn 35 = .ok (.iload_n 2, 1) := by decide +kernel
set_option maxRecDepth 20000 in
theorem dX1_rulesOn_36 : decode cX1_rulesOn 36 = .ok (.ireturn, 1) := by decide +kernel
set_option maxRecDepth 20000 in
theorem dX1_elementsOf_0 : decode cX1_elementsOf 0 = .ok (.iconst 0, 1) := by decide +kernel
set_option maxRecDepth 20000 in
theorem dX1_elementsOf_1 : decode cX1_elementsOf 1 = .ok (.istore_n 2, 1) := by decide +kernel
set_option maxRecDepth 20000 in
theorem dX1_elementsOf_2 : decode cX1_elementsOf 2 = .ok (.iconst 0, 1) := by decide +kernel
set_option maxRecDepth 20000 in
theorem dX1_elementsOf_3 : decode cX1_elementsOf 3 = .ok (.istore_n 3, 1) := by decide +kernel
set_option maxRecDepth 20000 in
theorem dX1_elementsOf_4 : decode cX1_elementsOf 4 = .ok (.iload_n 3, 1) := by decide +kernel
set_option maxRecDepth 20000 in
theorem dX1_elementsOf_5 : decode cX1_elementsOf 5 = .ok (.aload_n 0, 1) := by decide +kernel
set_option maxRecDepth 20000 in
theorem dX1_elementsOf_6 : decode cX1_elementsOf 6 = .ok (.getfield 50, 3) := by decide +kernel
set_option maxRecDepth 20000 in
theorem dX1_elementsOf_9 : decode cX1_elementsOf 9 = .ok (.if_icmp .ge 26, 3) := by decide +kernel
set_option maxRecDepth 20000 in
theorem dX1_elementsOf_12 : decode cX1_elementsOf 12 = .ok (.iload_n 2, 1) := by decide +kernel
set_option maxRecDepth 20000 in
theorem dX1_elementsOf_13 : decode cX1_elementsOf 13 = .ok (.aload_n 0, 1) := by decide +kernel
set_option maxRecDepth 20000 in
theorem dX1_elementsOf_14 : decode cX1_elementsOf 14 = .ok (.iload_n 1, 1) := by decide +kernel
set_option maxRecDepth 20000 in
theorem dX1_elementsOf_15 : decode cX1_elementsOf 15 = .ok (.iload_n 3, 1) := by decide +kernel
set_option maxRecDepth 20000 in
theorem dX1_elementsOf_16 : decode cX1_elementsOf 16 = .ok (.invokevirtual 138, 3) := by decide +kernel
set_option maxRecDepth 20000 in
theorem dX1_elementsOf_19 : decode cX1_elementsOf 19 = .ok (.ifCond .eq 7, 3) := by decide +kernel
set_option maxRecDepth 20000 in
theorem dX1_elementsOf_22 : decode cX1_elementsOf 22 = .ok (.iconst 1, 1) := by decide +kernel
set_option maxRecDepth 20000 in
theorem dX1_elementsOf_23 : decode cX1_elementsOf 23 = .ok (.goto 4, 3) := by decide +kernel
set_option maxRecDepth 20000 in
theorem dX1_elementsOf_26 : decode cX1_elementsOf 26 = .ok (.iconst 0, 1) := by decide +kernel
set_option maxRecDepth 20000 in
theorem dX1_elementsOf_27 : decode cX1_elementsOf 27 = .ok (.iadd, 1) := by decide +kernel
set_option maxRecDepth 20000 in
theorem dX1_elementsOf_28 : decode cX1_elementsOf 28 = .ok (.istore_n 2, 1) := by decide +kernel
set_option maxRecDepth 20000 in
theorem dX1_elementsOf_29 : decode cX1_elementsOf 29 = .ok (.iinc 3 1, 3) := by decide +kernel
set_option maxRecDepth 20000 in
theorem dX1_elementsOf_32 : decode cX1_elementsOf 32 = .ok (.goto (-28), 3) := by decide +kernel
set_option maxRecDepth 20000 in
theorem dX1_elementsOf_35 : decode cX1_elementsOf 35 = .ok (.iload_n 2, 1) := by decide +kernel
set_option maxRecDepth 20000 in
theorem dX1_elementsOf_36 : decode cX1_elementsOf 36 = .ok (.ireturn, 1) := by decide +kernel
set_option maxRecDepth 20000 in
theorem dX1_cyclicOn_0 : decode cX1_cyclicOn 0 = .ok (.iconst 0, 1) := by decide +kernel
set_option maxRecDepth 20000 in
theorem dX1_cyclicOn_1 : decode cX1_cyclicOn 1 = .ok (.istore_n 2, 1) := by decide +kernel
set_option maxRecDepth 20000 in
theorem dX1_cyclicOn_2 : decode cX1_cyclicOn 2 = .ok (.bipush 8, 2) := by decide +kernel
set_option maxRecDepth 20000 in
theorem dX1_cyclicOn_4 : decode cX1_cyclicOn 4 = .ok (.istore_n 3, 1) := by decide +kernel
set_option maxRecDepth 20000 in
theorem dX1_cyclicOn_5 : decode cX1_cyclicOn 5 = .ok (.iload_n 3, 1) := by decide +kernel
set_option maxRecDepth 20000 in
theorem dX1_cyclicOn_6 : decode cX1_cyclicOn 6 = .ok (.bipush 16, 2) := by decide +kernel
set_option maxRecDepth 20000 in
theorem dX1_cyclicOn_8 : decode cX1_cyclicOn 8 = .ok (.if_icmp .ge 26, 3) := by decide +kernel
set_option maxRecDepth 20000 in
theorem dX1_cyclicOn_11 : decode cX1_cyclicOn 11 = .ok (.iload_n 2, 1) := by decide +kernel
set_option maxRecDepth 20000 in
theorem dX1_cyclicOn_12 : decode cX1_cyclicOn 12 = .ok (.aload_n 0, 1) := by decide +kernel
set_option maxRecDepth 20000 in
theorem dX1_cyclicOn_13 : decode cX1_cyclicOn 13 = .ok (.iload_n 1, 1) := by decide +kernel
set_option maxRecDepth 20000 in
theorem dX1_cyclicOn_14 : decode cX1_cyclicOn 14 = .ok (.iload_n 3, 1) := by decide +kernel
set_option maxRecDepth 20000 in
theorem dX1_cyclicOn_15 : decode cX1_cyclicOn 15 = .ok (.invokevirtual 119, 3) := by decide +kernel
set_option maxRecDepth 20000 in
theorem dX1_cyclicOn_18 : decode cX1_cyclicOn 18 = .ok (.ifCond .le 7, 3) := by decide +kernel
set_option maxRecDepth 20000 in
theorem dX1_cyclicOn_21 : decode cX1_cyclicOn 21 = .ok (.iconst 1, 1) := by decide +kernel
set_option maxRecDepth 20000 in
theorem dX1_cyclicOn_22 : decode cX1_cyclicOn 22 = .ok (.goto 4, 3) := by decide +kernel
set_option maxRecDepth 20000 in
theorem dX1_cyclicOn_25 : decode cX1_cyclicOn 25 = .ok (.iconst 0, 1) := by decide +kernel
set_option maxRecDepth 20000 in
theorem dX1_cyclicOn_26 : decode cX1_cyclicOn 26 = .ok (.iadd, 1) := by decide +kernel
set_option maxRecDepth 20000 in
theorem dX1_cyclicOn_27 : decode cX1_cyclicOn 27 = .ok (.istore_n 2, 1) := by decide +kernel
set_option maxRecDepth 20000 in
theorem dX1_cyclicOn_28 : decode cX1_cyclicOn 28 = .ok (.iinc 3 1, 3) := by decide +kernel
set_option maxRecDepth 20000 in
theorem dX1_cyclicOn_31 : decode cX1_cyclicOn 31 = .ok (.goto (-26), 3) := by decide +kernel
set_option maxRecDepth 20000 in
theorem dX1_cyclicOn_34 : decode cX1_cyclicOn 34 = .ok (.iload_n 2, 1) := by decide +kernel
set_option maxRecDepth 20000 in
theorem dX1_cyclicOn_35 : decode cX1_cyclicOn 35 = .ok (.ireturn, 1) := by decide +kernel
set_option maxRecDepth 20000 in
theorem dX1_allCyclic_0 : decode cX1_allCyclic 0 = .ok (.iconst 0, 1) := by decide +kernel
set_option maxRecDepth 20000 in
theorem dX1_allCyclic_1 : decode cX1_allCyclic 1 = .ok (.istore_n 1, 1) := by decide +kernel
set_option maxRecDepth 20000 in
theorem dX1_allCyclic_2 : decode cX1_allCyclic 2 = .ok (.iconst 0, 1) := by decide +kernel
set_option maxRecDepth 20000 in
theorem dX1_allCyclic_3 : decode cX1_allCyclic 3 = .ok (.istore_n 2, 1) := by decide +kernel
set_option maxRecDepth 20000 in
theorem dX1_allCyclic_4 : decode cX1_allCyclic 4 = .ok (.iload_n 2, 1) := by decide +kernel
set_option maxRecDepth 20000 in
theorem dX1_allCyclic_5 : decode cX1_allCyclic 5 = .ok (.aload_n 0, 1) := by decide +kernel
set_option maxRecDepth 20000 in
theorem dX1_allCyclic_6 : decode cX1_allCyclic 6 = .ok (.getfield 50, 3) := by decide +kernel
set_option maxRecDepth 20000 in
theorem dX1_allCyclic_9 : decode cX1_allCyclic 9 = .ok (.if_icmp .ge 17, 3) := by decide +kernel
set_option maxRecDepth 20000 in
theorem dX1_allCyclic_12 : decode cX1_allCyclic 12 = .ok (.iload_n 1, 1) := by decide +kernel
set_option maxRecDepth 20000 in
theorem dX1_allCyclic_13 : decode cX1_allCyclic 13 = .ok (.aload_n 0, 1) := by decide +kernel
set_option maxRecDepth 20000 in
theorem dX1_allCyclic_14 : decode cX1_allCyclic 14 = .ok (.iload_n 2, 1) := by decide +kernel
set_option maxRecDepth 20000 in
theorem dX1_allCyclic_15 : decode cX1_allCyclic 15 = .ok (.invokevirtual 141, 3) := by decide +kernel
set_option maxRecDepth 20000 in
theorem dX1_allCyclic_18 : decode cX1_allCyclic 18 = .ok (.iadd, 1) := by decide +kernel
set_option maxRecDepth 20000 in
theorem dX1_allCyclic_19 : decode cX1_allCyclic 19 = .ok (.istore_n 1, 1) := by decide +kernel
set_option maxRecDepth 20000 in
theorem dX1_allCyclic_20 : decode cX1_allCyclic 20 = .ok (.iinc 2 1, 3) := by decide +kernel
set_option maxRecDepth 20000 in
theorem dX1_allCyclic_23 : decode cX1_allCyclic 23 = .ok (.goto (-19), 3) := by decide +kernel
set_option maxRecDepth 20000 in
theorem dX1_allCyclic_26 : decode cX1_allCyclic 26 = .ok (.iload_n 1, 1) := by decide +kernel
set_option maxRecDepth 20000 in
theorem dX1_allCyclic_27 : decode cX1_allCyclic 27 = .ok (.ireturn, 1) := by decide +kernel
set_option maxRecDepth 20000 in
theorem dX1_ruleInPlace_0 : decode cX1_ruleInPlace 0 = .ok (.aload_n 1, 1) := by decide +kernel
set_option maxRecDepth 20000 in
theorem dX1_ruleInPlace_1 : decode cX1_ruleInPlace 1 = .ok (.ifnull 17, 3) := by decide +kernel
set_option maxRecDepth 20000 in
theorem dX1_ruleInPlace_4 : decode cX1_ruleInPlace 4 = .ok (.iload 4, 2) := by decide +kernel
set_option maxRecDepth 20000 in
theorem dX1_ruleInPlace_6 : decode cX1_ruleInPlace 6 = .ok (.ifCond .lt 12, 3) := by decide +kernel
set_option maxRecDepth 20000 in
theorem dX1_ruleInPlace_9 : decode cX1_ruleInPlace 9 = .ok (.iload 4, 2) := by decide +kernel
set_option maxRecDepth 20000 in
theorem dX1_ruleInPlace_11 : decode cX1_ruleInPlace 11 = .ok (.aload_n 0, 1) := by decide +kernel
set_option maxRecDepth 20000 in
theorem dX1_ruleInPlace_12 : decode cX1_ruleInPlace 12 = .ok (.getfield 61, 3) := by decide +kernel
set_option maxRecDepth 20000 in
theorem dX1_ruleInPlace_15 : decode cX1_ruleInPlace 15 = .ok (.if_icmp .lt 5, 3) := by decide +kernel
set_option maxRecDepth 20000 in
theorem dX1_ruleInPlace_18 : decode cX1_ruleInPlace 18 = .ok (.iconst (-1), 1) := by decide +kernel
set_option maxRecDepth 20000 in
theorem dX1_ruleInPlace_19 : decode cX1_ruleInPlace 19 = .ok (.ireturn, 1) := by decide +kernel
set_option maxRecDepth 20000 in
theorem dX1_ruleInPlace_20 : decode cX1_ruleInPlace 20 = .ok (.aload_n 0, 1) := by decide +kernel
set_option maxRecDepth 20000 in
theorem dX1_ruleInPlace_21 : decode cX1_ruleInPlace 21 = .ok (.iload_n 2, 1) := by decide +kernel
set_option maxRecDepth 20000 in
theorem dX1_ruleInPlace_22 : decode cX1_ruleInPlace 22 = .ok (.iload_n 3, 1) := by decide +kernel
set_option maxRecDepth 20000 in
theorem dX1_ruleInPlace_23 : decode cX1_ruleInPlace 23 = .ok (.invokevirtual 104, 3) := by decide +kernel
set_option maxRecDepth 20000 in
theorem dX1_ruleInPlace_26 : decode cX1_ruleInPlace 26 = .ok (.istore 5, 2) := by decide +kernel
set_option maxRecDepth 20000 in
theorem dX1_ruleInPlace_28 : decode cX1_ruleInPlace 28 = .ok (.iconst 0, 1) := by decide +kernel
set_option maxRecDepth 20000 in
theorem dX1_ruleInPlace_29 : decode cX1_ruleInPlace 29 = .ok (.istore 6, 2) := by decide +kernel
set_option maxRecDepth 20000 in
theorem dX1_ruleInPlace_31 : decode cX1_ruleInPlace 31 = .ok (.iload 6, 2) := by decide +kernel
set_option maxRecDepth 20000 in
theorem dX1_ruleInPlace_33 : decode cX1_ruleInPlace 33 = .ok (.iload 4, 2) := by decide +kernel
set_option maxRecDepth 20000 in
theorem dX1_ruleInPlace_35 : decode cX1_ruleInPlace 35 = .ok (.if_icmp .ge 31, 3) := by decide +kernel
set_option maxRecDepth 20000 in
theorem dX1_ruleInPlace_38 : decode cX1_ruleInPlace 38 = .ok (.iload 5, 2) := by decide +kernel
set_option maxRecDepth 20000 in
theorem dX1_ruleInPlace_40 : decode cX1_ruleInPlace 40 = .ok (.iconst (-1), 1) := by decide +kernel
set_option maxRecDepth 20000 in
theorem dX1_ruleInPlace_41 : decode cX1_ruleInPlace 41 = .ok (.if_icmp .eq 25, 3) := by decide +kernel
set_option maxRecDepth 20000 in
theorem dX1_ruleInPlace_44 : decode cX1_ruleInPlace 44 = .ok (.aload_n 0, 1) := by decide +kernel
set_option maxRecDepth 20000 in
theorem dX1_ruleInPlace_45 : decode cX1_ruleInPlace 45 = .ok (.aload_n 1, 1) := by decide +kernel
set_option maxRecDepth 20000 in
theorem dX1_ruleInPlace_46 : decode cX1_ruleInPlace 46 = .ok (.iload_n 2, 1) := by decide +kernel
set_option maxRecDepth 20000 in
theorem dX1_ruleInPlace_47 : decode cX1_ruleInPlace 47 = .ok (.iload_n 3, 1) := by decide +kernel
set_option maxRecDepth 20000 in
theorem dX1_ruleInPlace_48 : decode cX1_ruleInPlace 48 = .ok (.aload_n 0, 1) := by decide +kernel
set_option maxRecDepth 20000 in
theorem dX1_ruleInPlace_49 : decode cX1_ruleInPlace 49 = .ok (.iload_n 2, 1) := by decide +kernel
set_option maxRecDepth 20000 in
theorem dX1_ruleInPlace_50 : decode cX1_ruleInPlace 50 = .ok (.iload 5, 2) := by decide +kernel
set_option maxRecDepth 20000 in
theorem dX1_ruleInPlace_52 : decode cX1_ruleInPlace 52 = .ok (.invokevirtual 97, 3) := by decide +kernel
set_option maxRecDepth 20000 in
theorem dX1_ruleInPlace_55 : decode cX1_ruleInPlace 55 = .ok (.invokevirtual 89, 3) := by decide +kernel
set_option maxRecDepth 20000 in
theorem dX1_ruleInPlace_58 : decode cX1_ruleInPlace 58 = .ok (.istore 5, 2) := by decide +kernel
set_option maxRecDepth 20000 in
theorem dX1_ruleInPlace_60 : decode cX1_ruleInPlace 60 = .ok (.iinc 6 1, 3) := by decide +kernel
set_option maxRecDepth 20000 in
theorem dX1_ruleInPlace_63 : decode cX1_ruleInPlace 63 = .ok (.goto (-32), 3) := by decide +kernel
set_option maxRecDepth 20000 in
theorem dX1_ruleInPlace_66 : decode cX1_ruleInPlace 66 = .ok (.iload 5, 2) := by decide +kernel
set_option maxRecDepth 20000 in
theorem dX1_ruleInPlace_68 : decode cX1_ruleInPlace 68 = .ok (.ireturn, 1) := by decide +kernel
set_option maxRecDepth 20000 in
theorem dX1_winnerOn_0 : decode cX1_winnerOn 0 = .ok (.aload_n 0, 1) := by decide +kernel
set_option maxRecDepth 20000 in
theorem dX1_winnerOn_1 : decode cX1_winnerOn 1 = .ok (.getfield 22, 3) := by decide +kernel
set_option maxRecDepth 20000 in
theorem dX1_winnerOn_4 : decode cX1_winnerOn 4 = .ok (.iload_n 1, 1) := by decide +kernel
set_option maxRecDepth 20000 in
theorem dX1_winnerOn_5 : decode cX1_winnerOn 5 = .ok (.iload_n 2, 1) := by decide +kernel
set_option maxRecDepth 20000 in
theorem dX1_winnerOn_6 : decode cX1_winnerOn 6 = .ok (.invokestatic 85, 3) := by decide +kernel
set_option maxRecDepth 20000 in
theorem dX1_winnerOn_9 : decode cX1_winnerOn 9 = .ok (.invokevirtual 144, 3) := by decide +kernel
set_option maxRecDepth 20000 in
theorem dX1_winnerOn_12 : decode cX1_winnerOn 12 = .ok (.ireturn, 1) := by decide +kernel
set_option maxRecDepth 20000 in
theorem dX1_cycleOn_0 : decode cX1_cycleOn 0 = .ok (.aload_n 0, 1) := by decide +kernel
set_option maxRecDepth 20000 in
theorem dX1_cycleOn_1 : decode cX1_cycleOn 1 = .ok (.getfield 25, 3) := by decide +kernel
set_option maxRecDepth 20000 in
theorem dX1_cycleOn_4 : decode cX1_cycleOn 4 = .ok (.iload_n 1, 1) := by decide +kernel
set_option maxRecDepth 20000 in
theorem dX1_cycleOn_5 : decode cX1_cycleOn 5 = .ok (.iload_n 2, 1) := by decide +kernel
set_option maxRecDepth 20000 in
theorem dX1_cycleOn_6 : decode cX1_cycleOn 6 = .ok (.invokestatic 85, 3) := by decide +kernel
set_option maxRecDepth 20000 in
theorem dX1_cycleOn_9 : decode cX1_cycleOn 9 = .ok (.invokevirtual 144, 3) := by decide +kernel
set_option maxRecDepth 20000 in
theorem dX1_cycleOn_12 : decode cX1_cycleOn 12 = .ok (.ireturn, 1) := by decide +kernel
set_option maxRecDepth 20000 in
theorem dX1_valueOn_0 : decode cX1_valueOn 0 = .ok (.aload_n 0, 1) := by decide +kernel
set_option maxRecDepth 20000 in
theorem dX1_valueOn_1 : decode cX1_valueOn 1 = .ok (.getfield 28, 3) := by decide +kernel
set_option maxRecDepth 20000 in
theorem dX1_valueOn_4 : decode cX1_valueOn 4 = .ok (.iload_n 1, 1) := by decide +kernel
set_option maxRecDepth 20000 in
theorem dX1_valueOn_5 : decode cX1_valueOn 5 = .ok (.iload_n 2, 1) := by decide +kernel
set_option maxRecDepth 20000 in
theorem dX1_valueOn_6 : decode cX1_valueOn 6 = .ok (.invokestatic 85, 3) := by decide +kernel
set_option maxRecDepth 20000 in
theorem dX1_valueOn_9 : decode cX1_valueOn 9 = .ok (.invokevirtual 144, 3) := by decide +kernel
set_option maxRecDepth 20000 in
theorem dX1_valueOn_12 : decode cX1_valueOn 12 = .ok (.ireturn, 1) := by decide +kernel
set_option maxRecDepth 20000 in
theorem dX1_sourceOn_0 : decode cX1_sourceOn 0 = .ok (.aload_n 0, 1) := by decide +kernel
set_option maxRecDepth 20000 in
theorem dX1_sourceOn_1 : decode cX1_sourceOn 1 = .ok (.getfield 31, 3) := by decide +kernel
set_option maxRecDepth 20000 in
theorem dX1_sourceOn_4 : decode cX1_sourceOn 4 = .ok (.iload_n 1, 1) := by decide +kernel
set_option maxRecDepth 20000 in
theorem dX1_sourceOn_5 : decode cX1_sourceOn 5 = .ok (.iload_n 2, 1) := by decide +kernel
set_option maxRecDepth 20000 in
theorem dX1_sourceOn_6 : decode cX1_sourceOn 6 = .ok (.invokestatic 85, 3) := by decide +kernel
set_option maxRecDepth 20000 in
theorem dX1_sourceOn_9 : decode cX1_sourceOn 9 = .ok (.invokevirtual 144, 3) := by decide +kernel
set_option maxRecDepth 20000 in
theorem dX1_sourceOn_12 : decode cX1_sourceOn 12 = .ok (.ireturn, 1) := by decide +kernel
set_option maxRecDepth 20000 in
theorem dX1_strengthOn_0 : decode cX1_strengthOn 0 = .ok (.aload_n 0, 1) := by decide +kernel
set_option maxRecDepth 20000 in
theorem dX1_strengthOn_1 : decode cX1_strengthOn 1 = .ok (.getfield 16, 3) := by decide +kernel
set_option maxRecDepth 20000 in
theorem dX1_strengthOn_4 : decode cX1_strengthOn 4 = .ok (.iload_n 1, 1) := by decide +kernel
set_option maxRecDepth 20000 in
theorem dX1_strengthOn_5 : decode cX1_strengthOn 5 = .ok (.bipush 16, 2) := by decide +kernel
set_option maxRecDepth 20000 in
theorem dX1_strengthOn_7 : decode cX1_strengthOn 7 = .ok (.imul, 1) := by decide +kernel
set_option maxRecDepth 20000 in
theorem dX1_strengthOn_8 : decode cX1_strengthOn 8 = .ok (.iload_n 2, 1) := by decide +kernel
set_option maxRecDepth 20000 in
theorem dX1_strengthOn_9 : decode cX1_strengthOn 9 = .ok (.iadd, 1) := by decide +kernel
set_option maxRecDepth 20000 in
theorem dX1_strengthOn_10 : decode cX1_strengthOn 10 = .ok (.invokevirtual 144, 3) := by decide +kernel
set_option maxRecDepth 20000 in
theorem dX1_strengthOn_13 : decode cX1_strengthOn 13 = .ok (.ireturn, 1) := by decide +kernel
set_option maxRecDepth 20000 in
theorem dX1_cell_0 : decode cX1_cell 0 = .ok (.iload_n 0, 1) := by decide +kernel
set_option maxRecDepth 20000 in
theorem dX1_cell_1 : decode cX1_cell 1 = .ok (.bipush 16, 2) := by decide +kernel
set_option maxRecDepth 20000 in
theorem dX1_cell_3 : decode cX1_cell 3 = .ok (.imul, 1) := by decide +kernel
set_option maxRecDepth 20000 in
theorem dX1_cell_4 : decode cX1_cell 4 = .ok (.iload_n 1, 1) := by decide +kernel
set_option maxRecDepth 20000 in
theorem dX1_cell_5 : decode cX1_cell 5 = .ok (.iadd, 1) := by decide +kernel
set_option maxRecDepth 20000 in
theorem dX1_cell_6 : decode cX1_cell 6 = .ok (.ireturn, 1) := by decide +kernel
set_option maxRecDepth 20000 in
theorem dX2_init_0 : decode cX2_init 0 = .ok (.aload_n 0, 1) := by decide +kernel
set_option maxRecDepth 20000 in
theorem dX2_init_1 : decode cX2_init 1 = .ok (.invokespecial 3, 3) := by decide +kernel
set_option maxRecDepth 20000 in
theorem dX2_init_4 : decode cX2_init 4 = .ok (.aload_n 0, 1) := by decide +kernel
set_option maxRecDepth 20000 in
theorem dX2_init_5 : decode cX2_init 5 = .ok (.iload_n 1, 1) := by decide +kernel
set_option maxRecDepth 20000 in
theorem dX2_init_6 : decode cX2_init 6 = .ok (.iconst 0, 1) := by decide +kernel
set_option maxRecDepth 20000 in
theorem dX2_init_7 : decode cX2_init 7 = .ok (.invokestatic 9, 3) := by decide +kernel
set_option maxRecDepth 20000 in
theorem dX2_init_10 : decode cX2_init 10 = .ok (.newarray .int, 2) := by decide +kernel
set_option maxRecDepth 20000 in
theorem dX2_init_12 : decode cX2_init 12 = .ok (.putfield 15, 3) := by decide +kernel
set_option maxRecDepth 20000 in
theorem dX2_init_15 : decode cX2_init 15 = .ok (.return_, 1) := by decide +kernel
set_option maxRecDepth 20000 in
theorem dX2_at_0 : decode cX2_at 0 = .ok (.iload_n 1, 1) := by decide +kernel
set_option maxRecDepth 20000 in
theorem dX2_at_1 : decode cX2_at 1 = .ok (.ifCond .lt 21, 3) := by decide +kernel
set_option maxRecDepth 20000 in
theorem dX2_at_4 : decode cX2_at 4 = .ok (.iload_n 1, 1) := by decide +kernel
set_option maxRecDepth 20000 in
theorem dX2_at_5 : decode cX2_at 5 = .ok (.aload_n 0, 1) := by decide +kernel
set_option maxRecDepth 20000 in
theorem dX2_at_6 : decode cX2_at 6 = .ok (.getfield 15, 3) := by decide +kernel
set_option maxRecDepth 20000 in
theorem dX2_at_9 : decode cX2_at 9 = .ok (.arraylength, 1) := by decide +kernel
set_option maxRecDepth 20000 in
theorem dX2_at_10 : decode cX2_at 10 = .ok (.if_icmp .ge 12, 3) := by decide +kernel
set_option maxRecDepth 20000 in
theorem dX2_at_13 : decode cX2_at 13 = .ok (.aload_n 0, 1) := by decide +kernel
set_option maxRecDepth 20000 in
theorem dX2_at_14 : decode cX2_at 14 = .ok (.getfield 15, 3) := by decide +kernel
set_option maxRecDepth 20000 in
theorem dX2_at_17 : decode cX2_at 17 = .ok (.iload_n 1, 1) := by decide +kernel
set_option maxRecDepth 20000 in
theorem dX2_at_18 : decode cX2_at 18 = .ok (.iaload, 1) := by decide +kernel
set_option maxRecDepth 20000 in
theorem dX2_at_19 : decode cX2_at 19 = .ok (.goto 4, 3) := by decide +kernel
set_option maxRecDepth 20000 in
theorem dX2_at_22 : decode cX2_at 22 = .ok (.iconst (-1), 1) := by decide +kernel
set_option maxRecDepth 20000 in
theorem dX2_at_23 : decode cX2_at 23 = .ok (.ireturn, 1) := by decide +kernel
set_option maxRecDepth 20000 in
theorem dX2_put_0 : decode cX2_put 0 = .ok (.iload_n 1, 1) := by decide +kernel
set_option maxRecDepth 20000 in
theorem dX2_put_1 : decode cX2_put 1 = .ok (.ifCond .lt 19, 3) := by decide +kernel
set_option maxRecDepth 20000 in
theorem dX2_put_4 : decode cX2_put 4 = .ok (.iload_n 1, 1) := by decide +kernel
set_option maxRecDepth 20000 in
theorem dX2_put_5 : decode cX2_put 5 = .ok (.aload_n 0, 1) := by decide +kernel
set_option maxRecDepth 20000 in
theorem dX2_put_6 : decode cX2_put 6 = .ok (.getfield 15, 3) := by decide +kernel
set_option maxRecDepth 20000 in
theorem dX2_put_9 : decode cX2_put 9 = .ok (.arraylength, 1) := by decide +kernel
set_option maxRecDepth 20000 in
theorem dX2_put_10 : decode cX2_put 10 = .ok (.if_icmp .ge 10, 3) := by decide +kernel
set_option maxRecDepth 20000 in
theorem dX2_put_13 : decode cX2_put 13 = .ok (.aload_n 0, 1) := by decide +kernel
set_option maxRecDepth 20000 in
theorem dX2_put_14 : decode cX2_put 14 = .ok (.getfield 15, 3) := by decide +kernel
set_option maxRecDepth 20000 in
theorem dX2_put_17 : decode cX2_put 17 = .ok (.iload_n 1, 1) := by decide +kernel
set_option maxRecDepth 20000 in
theorem dX2_put_18 : decode cX2_put 18 = .ok (.iload_n 2, 1) := by decide +kernel
set_option maxRecDepth 20000 in
theorem dX2_put_19 : decode cX2_put 19 = .ok (.iastore, 1) := by decide +kernel
set_option maxRecDepth 20000 in
theorem dX2_put_20 : decode cX2_put 20 = .ok (.return_, 1) := by decide +kernel
set_option maxRecDepth 20000 in
theorem dX2_putAll_0 : decode cX2_putAll 0 = .ok (.iload_n 1, 1) := by decide +kernel
set_option maxRecDepth 20000 in
theorem dX2_putAll_1 : decode cX2_putAll 1 = .ok (.istore 4, 2) := by decide +kernel
set_option maxRecDepth 20000 in
theorem dX2_putAll_3 : decode cX2_putAll 3 = .ok (.iload 4, 2) := by decide +kernel
set_option maxRecDepth 20000 in
theorem dX2_putAll_5 : decode cX2_putAll 5 = .ok (.iload_n 2, 1) := by decide +kernel
set_option maxRecDepth 20000 in
theorem dX2_putAll_6 : decode cX2_putAll 6 = .ok (.if_icmp .gt 26, 3) := by decide +kernel
set_option maxRecDepth 20000 in
theorem dX2_putAll_9 : decode cX2_putAll 9 = .ok (.iload 4, 2) := by decide +kernel
set_option maxRecDepth 20000 in
theorem dX2_putAll_11 : decode cX2_putAll 11 = .ok (.aload_n 0, 1) := by decide +kernel
set_option maxRecDepth 20000 in
theorem dX2_putAll_12 : decode cX2_putAll 12 = .ok (.getfield 15, 3) := by decide +kernel
set_option maxRecDepth 20000 in
theorem dX2_putAll_15 : decode cX2_putAll 15 = .ok (.arraylength, 1) := by decide +kernel
set_option maxRecDepth 20000 in
theorem dX2_putAll_16 : decode cX2_putAll 16 = .ok (.if_icmp .ge 16, 3) := by decide +kernel
set_option maxRecDepth 20000 in
theorem dX2_putAll_19 : decode cX2_putAll 19 = .ok (.aload_n 0, 1) := by decide +kernel
set_option maxRecDepth 20000 in
theorem dX2_putAll_20 : decode cX2_putAll 20 = .ok (.iload 4, 2) := by decide +kernel
set_option maxRecDepth 20000 in
theorem dX2_putAll_22 : decode cX2_putAll 22 = .ok (.iload_n 3, 1) := by decide +kernel
set_option maxRecDepth 20000 in
theorem dX2_putAll_23 : decode cX2_putAll 23 = .ok (.invokevirtual 21, 3) := by decide +kernel
set_option maxRecDepth 20000 in
theorem dX2_putAll_26 : decode cX2_putAll 26 = .ok (.iinc 4 1, 3) := by decide +kernel
set_option maxRecDepth 20000 in
theorem dX2_putAll_29 : decode cX2_putAll 29 = .ok (.goto (-26), 3) := by decide +kernel
set_option maxRecDepth 20000 in
theorem dX2_putAll_32 : decode cX2_putAll 32 = .ok (.return_, 1) := by decide +kernel
set_option maxRecDepth 20000 in
theorem dX2_copy_0 : decode cX2_copy 0 = .ok (.aload_n 1, 1) := by decide +kernel
set_option maxRecDepth 20000 in
theorem dX2_copy_1 : decode cX2_copy 1 = .ok (.ifnull 29, 3) := by decide +kernel
set_option maxRecDepth 20000 in
theorem dX2_copy_4 : decode cX2_copy 4 = .ok (.aload_n 1, 1) := by decide +kernel
set_option maxRecDepth 20000 in
theorem dX2_copy_5 : decode cX2_copy 5 = .ok (.getfield 15, 3) := by decide +kernel
set_option maxRecDepth 20000 in
theorem dX2_copy_8 : decode cX2_copy 8 = .ok (.iconst 0, 1) := by decide +kernel
set_option maxRecDepth 20000 in
theorem dX2_copy_9 : decode cX2_copy 9 = .ok (.aload_n 0, 1) := by decide +kernel
set_option maxRecDepth 20000 in
theorem dX2_copy_10 : decode cX2_copy 10 = .ok (.getfield 15, 3) := by decide +kernel
set_option maxRecDepth 20000 in
theorem dX2_copy_13 : decode cX2_copy 13 = .ok (.iconst 0, 1) := by decide +kernel
set_option maxRecDepth 20000 in
theorem dX2_copy_14 : decode cX2_copy 14 = .ok (.aload_n 1, 1) := by decide +kernel
set_option maxRecDepth 20000 in
theorem dX2_copy_15 : decode cX2_copy 15 = .ok (.getfield 15, 3) := by decide +kernel
set_option maxRecDepth 20000 in
theorem dX2_copy_18 : decode cX2_copy 18 = .ok (.arraylength, 1) := by decide +kernel
set_option maxRecDepth 20000 in
theorem dX2_copy_19 : decode cX2_copy 19 = .ok (.aload_n 0, 1) := by decide +kernel
set_option maxRecDepth 20000 in
theorem dX2_copy_20 : decode cX2_copy 20 = .ok (.getfield 15, 3) := by decide +kernel
set_option maxRecDepth 20000 in
theorem dX2_copy_23 : decode cX2_copy 23 = .ok (.arraylength, 1) := by decide +kernel
set_option maxRecDepth 20000 in
theorem dX2_copy_24 : decode cX2_copy 24 = .ok (.invokestatic 25, 3) := by decide +kernel
set_option maxRecDepth 20000 in
theorem dX2_copy_27 : decode cX2_copy 27 = .ok (.invokestatic 28, 3) := by decide +kernel
set_option maxRecDepth 20000 in
theorem dX2_copy_30 : decode cX2_copy 30 = .ok (.return_, 1) := by decide +kernel
set_option maxRecDepth 20000 in
theorem dX3_init_0 : decode cX3_init 0 = .ok (.aload_n 0, 1) := by decide +kernel
set_option maxRecDepth 20000 in
theorem dX3_init_1 : decode cX3_init 1 = .ok (.invokespecial 3, 3) := by decide +kernel
set_option maxRecDepth 20000 in
theorem dX3_init_4 : decode cX3_init 4 = .ok (.aload_n 0, 1) := by decide +kernel
set_option maxRecDepth 20000 in
theorem dX3_init_5 : decode cX3_init 5 = .ok (.new 9, 3) := by decide +kernel
set_option maxRecDepth 20000 in
theorem dX3_init_8 : decode cX3_init 8 = .ok (.dup, 1) := by decide +kernel
set_option maxRecDepth 20000 in
theorem dX3_init_9 : decode cX3_init 9 = .ok (.iload_n 1, 1) := by decide +kernel
set_option maxRecDepth 20000 in
theorem dX3_init_10 : decode cX3_init 10 = .ok (.bipush 6, 2) := by decide +kernel
set_option maxRecDepth 20000 in
theorem dX3_init_12 : decode cX3_init 12 = .ok (.imul, 1) := by decide +kernel
set_option maxRecDepth 20000 in
theorem dX3_init_13 : decode cX3_init 13 = .ok (.invokespecial 11, 3) := by decide +kernel
set_option maxRecDepth 20000 in
theorem dX3_init_16 : decode cX3_init 16 = .ok (.putfield 14, 3) := by decide +kernel
set_option maxRecDepth 20000 in
theorem dX3_init_19 : decode cX3_init 19 = .ok (.aload_n 0, 1) := by decide +kernel
set_option maxRecDepth 20000 in
theorem dX3_init_20 : decode cX3_init 20 = .ok (.new 9, 3) := by decide +kernel
set_option maxRecDepth 20000 in
theorem dX3_init_23 : decode cX3_init 23 = .ok (.dup, 1) := by decide +kernel
set_option maxRecDepth 20000 in
theorem dX3_init_24 : decode cX3_init 24 = .ok (.iload_n 1, 1) := by decide +kernel
set_option maxRecDepth 20000 in
theorem dX3_init_25 : decode cX3_init 25 = .ok (.bipush 48, 2) := by decide +kernel
set_option maxRecDepth 20000 in
theorem dX3_init_27 : decode cX3_init 27 = .ok (.imul, 1) := by decide +kernel
set_option maxRecDepth 20000 in
theorem dX3_init_28 : decode cX3_init 28 = .ok (.invokespecial 11, 3) := by decide +kernel
set_option maxRecDepth 20000 in
theorem dX3_init_31 : decode cX3_init 31 = .ok (.putfield 20, 3) := by decide +kernel
set_option maxRecDepth 20000 in
theorem dX3_init_34 : decode cX3_init 34 = .ok (.return_, 1) := by decide +kernel
set_option maxRecDepth 20000 in
theorem dX3_size_0 : decode cX3_size 0 = .ok (.aload_n 0, 1) := by decide +kernel
set_option maxRecDepth 20000 in
theorem dX3_size_1 : decode cX3_size 1 = .ok (.getfield 23, 3) := by decide +kernel
set_option maxRecDepth 20000 in
theorem dX3_size_4 : decode cX3_size 4 = .ok (.ireturn, 1) := by decide +kernel
set_option maxRecDepth 20000 in
theorem dX3_has_0 : decode cX3_has 0 = .ok (.iload_n 1, 1) := by decide +kernel
set_option maxRecDepth 20000 in
theorem dX3_has_1 : decode cX3_has 1 = .ok (.iconst 0, 1) := by decide +kernel
set_option maxRecDepth 20000 in
theorem dX3_has_2 : decode cX3_has 2 = .ok (.aload_n 0, 1) := by decide +kernel
set_option maxRecDepth 20000 in
theorem dX3_has_3 : decode cX3_has 3 = .ok (.getfield 23, 3) := by decide +kernel
set_option maxRecDepth 20000 in
theorem dX3_has_6 : decode cX3_has 6 = .ok (.iconst 1, 1) := by decide +kernel
set_option maxRecDepth 20000 in
theorem dX3_has_7 : decode cX3_has 7 = .ok (.isub, 1) := by decide +kernel
set_option maxRecDepth 20000 in
theorem dX3_has_8 : decode cX3_has 8 = .ok (.invokestatic 27, 3) := by decide +kernel
set_option maxRecDepth 20000 in
theorem dX3_has_11 : decode cX3_has 11 = .ok (.ireturn, 1) := by decide +kernel
set_option maxRecDepth 20000 in
theorem dX3_part_0 : decode cX3_part 0 = .ok (.aload_n 0, 1) := by decide +kernel
set_option maxRecDepth 20000 in
theorem dX3_part_1 : decode cX3_part 1 = .ok (.getfield 14, 3) := by decide +kernel
set_option maxRecDepth 20000 in
theorem dX3_part_4 : decode cX3_part 4 = .ok (.iload_n 1, 1) := by decide +kernel
set_option maxRecDepth 20000 in
theorem dX3_part_5 : decode cX3_part 5 = .ok (.bipush 6, 2) := by decide +kernel
set_option maxRecDepth 20000 in
theorem dX3_part_7 : decode cX3_part 7 = .ok (.imul, 1) := by decide +kernel
set_option maxRecDepth 20000 in
theorem dX3_part_8 : decode cX3_part 8 = .ok (.iload_n 2, 1) := by decide +kernel
set_option maxRecDepth 20000 in
theorem dX3_part_9 : decode cX3_part 9 = .ok (.iadd, 1) := by decide +kernel
set_option maxRecDepth 20000 in
theorem dX3_part_10 : decode cX3_part 10 = .ok (.invokevirtual 31, 3) := by decide +kernel
set_option maxRecDepth 20000 in
theorem dX3_part_13 : decode cX3_part 13 = .ok (.ireturn, 1) := by decide +kernel
set_option maxRecDepth 20000 in
theorem dX3_entry_0 : decode cX3_entry 0 = .ok (.aload_n 0, 1) := by decide +kernel
set_option maxRecDepth 20000 in
theorem dX3_entry_1 : decode cX3_entry 1 = .ok (.getfield 20, 3) := by decide +kernel
set_option maxRecDepth 20000 in
theorem dX3_entry_4 : decode cX3_entry 4 = .ok (.iload_n 1, 1) := by decide +kernel
set_option maxRecDepth 20000 in
theorem dX3_entry_5 : decode cX3_entry 5 = .ok (.bipush 48, 2) := by decide +kernel
set_option maxRecDepth 20000 in
theorem dX3_entry_7 : decode cX3_entry 7 = .ok (.imul, 1) := by decide +kernel
set_option maxRecDepth 20000 in
theorem dX3_entry_8 : decode cX3_entry 8 = .ok (.iload_n 2, 1) := by decide +kernel
set_option maxRecDepth 20000 in
theorem dX3_entry_9 : decode cX3_entry 9 = .ok (.iconst 3, 1) := by decide +kernel
set_option maxRecDepth 20000 in
theorem dX3_entry_10 : decode cX3_entry 10 = .ok (.imul, 1) := by decide +kernel
set_option maxRecDepth 20000 in
theorem dX3_entry_11 : decode cX3_entry 11 = .ok (.iadd, 1) := by decide +kernel
set_option maxRecDepth 20000 in
theorem dX3_entry_12 : decode cX3_entry 12 = .ok (.iload_n 3, 1) := by decide +kernel
set_option maxRecDepth 20000 in
theorem dX3_entry_13 : decode cX3_entry 13 = .ok (.iadd, 1) := by decide +kernel
set_option maxRecDepth 20000 in
theorem dX3_entry_14 : decode cX3_entry 14 = .ok (.invokevirtual 31, 3) := by decide +kernel
set_option maxRecDepth 20000 in
theorem dX3_entry_17 : decode cX3_entry 17 = .ok (.ireturn, 1) := by decide +kernel
set_option maxRecDepth 20000 in
theorem dX3_refers_0 : decode cX3_refers 0 = .ok (.aload_n 0, 1) := by decide +kernel
set_option maxRecDepth 20000 in
theorem dX3_refers_1 : decode cX3_refers 1 = .ok (.iload_n 1, 1) := by decide +kernel
set_option maxRecDepth 20000 in
theorem dX3_refers_2 : decode cX3_refers 2 = .ok (.iload_n 2, 1) := by decide +kernel
set_option maxRecDepth 20000 in
theorem dX3_refers_3 : decode cX3_refers 3 = .ok (.iconst 1, 1) := by decide +kernel
set_option maxRecDepth 20000 in
theorem dX3_refers_4 : decode cX3_refers 4 = .ok (.invokevirtual 35, 3) := by decide +kernel
set_option maxRecDepth 20000 in
theorem dX3_refers_7 : decode cX3_refers 7 = .ok (.iconst (-1), 1) := by decide +kernel
set_option maxRecDepth 20000 in
theorem dX3_refers_8 : decode cX3_refers 8 = .ok (.if_icmp .eq 7, 3) := by decide +kernel
set_option maxRecDepth 20000 in
theorem dX3_refers_11 : decode cX3_refers 11 = .ok (.iconst 1, 1) := by decide +kernel
set_option maxRecDepth 20000 in
theorem dX3_refers_12 : decode cX3_refers 12 = .ok (.goto 4, 3) := by decide +kernel
set_option maxRecDepth 20000 in
theorem dX3_refers_15 : decode cX3_refers 15 = .ok (.iconst 0, 1) := by decide +kernel
set_option maxRecDepth 20000 in
theorem dX3_refers_16 : decode cX3_refers 16 = .ok (.ireturn, 1) := by decide +kernel
set_option maxRecDepth 20000 in
theorem dX3_declares_0 : decode cX3_declares 0 = .ok (.aload_n 0, 1) := by decide +kernel
set_option maxRecDepth 20000 in
theorem dX3_declares_1 : decode cX3_declares 1 = .ok (.iload_n 1, 1) := by decide +kernel
set_option maxRecDepth 20000 in
theorem dX3_declares_2 : decode cX3_declares 2 = .ok (.iload_n 2, 1) := by decide +kernel
set_option maxRecDepth 20000 in
theorem dX3_declares_3 : decode cX3_declares 3 = .ok (.iconst 0, 1) := by decide +kernel
set_option maxRecDepth 20000 in
theorem dX3_declares_4 : decode cX3_declares 4 = .ok (.invokevirtual 35, 3) := by decide +kernel
set_option maxRecDepth 20000 in
theorem dX3_declares_7 : decode cX3_declares 7 = .ok (.iconst (-1), 1) := by decide +kernel
set_option maxRecDepth 20000 in
theorem dX3_declares_8 : decode cX3_declares 8 = .ok (.if_icmp .ne 14, 3) := by decide +kernel
set_option maxRecDepth 20000 in
theorem dX3_declares_11 : decode cX3_declares 11 = .ok (.aload_n 0, 1) := by decide +kernel
set_option maxRecDepth 20000 in
theorem dX3_declares_12 : decode cX3_declares 12 = .ok (.iload_n 1, 1) := by decide +kernel
set_option maxRecDepth 20000 in
theorem dX3_declares_13 : decode cX3_declares 13 = .ok (.iload_n 2, 1) := by decide +kernel
set_option maxRecDepth 20000 in
theorem dX3_declares_14 : decode cX3_declares 14 = .ok (.iconst 1, 1) := by decide +kernel
set_option maxRecDepth 20000 in
theorem dX3_declares_15 : decode cX3_declares 15 = .ok (.invokevirtual 35, 3) := by decide +kernel
set_option maxRecDepth 20000 in
theorem dX3_declares_18 : decode cX3_declares 18 = .ok (.iconst (-1), 1) := by decide +kernel
set_option maxRecDepth 20000 in
theorem dX3_declares_19 : decode cX3_declares 19 = .ok (.if_icmp .eq 7, 3) := by decide +kernel
set_option maxRecDepth 20000 in
theorem dX3_declares_22 : decode cX3_declares 22 = .ok (.iconst 1, 1) := by decide +kernel
set_option maxRecDepth 20000 in
theorem dX3_declares_23 : decode cX3_declares 23 = .ok (.goto 4, 3) := by decide +kernel
set_option maxRecDepth 20000 in
theorem dX3_declares_26 : decode cX3_declares 26 = .ok (.iconst 0, 1) := by decide +kernel
set_option maxRecDepth 20000 in
theorem dX3_declares_27 : decode cX3_declares 27 = .ok (.ireturn, 1) := by decide +kernel
set_option maxRecDepth 20000 in
theorem dX3_haveScope_0 : decode cX3_haveScope 0 = .ok (.iconst 0, 1) := by decide +kernel
set_option maxRecDepth 20000 in
theorem dX3_haveScope_1 : decode cX3_haveScope 1 = .ok (.istore_n 2, 1) := by decide +kernel
set_option maxRecDepth 20000 in
theorem dX3_haveScope_2 : decode cX3_haveScope 2 = .ok (.iload_n 2, 1) := by decide +kernel
set_option maxRecDepth 20000 in
theorem dX3_haveScope_3 : decode cX3_haveScope 3 = .ok (.aload_n 0, 1) := by decide +kernel
set_option maxRecDepth 20000 in
theorem dX3_haveScope_4 : decode cX3_haveScope 4 = .ok (.getfield 23, 3) := by decide +kernel
set_option maxRecDepth 20000 in
theorem dX3_haveScope_7 : decode cX3_haveScope 7 = .ok (.if_icmp .ge 21, 3) := by decide +kernel
set_option maxRecDepth 20000 in
theorem dX3_haveScope_10 : decode cX3_haveScope 10 = .ok (.aload_n 0, 1) := by decide +kernel
set_option maxRecDepth 20000 in
theorem dX3_haveScope_11 : decode cX3_haveScope 11 = .ok (.iload_n 2, 1) := by decide +kernel
set_option maxRecDepth 20000 in
theorem dX3_haveScope_12 : decode cX3_haveScope 12 = .ok (.iconst 4, 1) := by decide +kernel
set_option maxRecDepth 20000 in
theorem dX3_haveScope_13 : decode cX3_haveScope 13 = .ok (.invokevirtual 39, 3) := by decide +kernel
set_option maxRecDepth 20000 in
theorem dX3_haveScope_16 : decode cX3_haveScope 16 = .ok (.iload_n 1, 1) := by decide +kernel
set_option maxRecDepth 20000 in
theorem dX3_haveScope_17 : decode cX3_haveScope 17 = .ok (.if_icmp .ne 5, 3) := by decide +kernel
set_option maxRecDepth 20000 in
theorem dX3_haveScope_20 : decode cX3_haveScope 20 = .ok (.iconst 1, 1) := by decide +kernel
set_option maxRecDepth 20000 in
theorem dX3_haveScope_21 : decode cX3_haveScope 21 = .ok (.ireturn, 1) := by decide +kernel
set_option maxRecDepth 20000 in
theorem dX3_haveScope_22 : decode cX3_haveScope 22 = .ok (.iinc 2 1, 3) := by decide +kernel
set_option maxRecDepth 20000 in
theorem dX3_haveScope_25 : decode cX3_haveScope 25 = .ok (.goto (-23), 3) := by decide +kernel
set_option maxRecDepth 20000 in
theorem dX3_haveScope_28 : decode cX3_haveScope 28 = .ok (.iconst 0, 1) := by decide +kernel
set_option maxRecDepth 20000 in
theorem dX3_haveScope_29 : decode cX3_haveScope 29 = .ok (.ireturn, 1) := by decide +kernel
set_option maxRecDepth 20000 in
theorem dX3_specificity_0 : decode cX3_specificity 0 = .ok (.iload_n 1, 1) := by decide +kernel
set_option maxRecDepth 20000 in
theorem dX3_specificity_1 : decode cX3_specificity 1 = .ok (.bipush 6, 2) := by decide +kernel
set_option maxRecDepth 20000 in
theorem dX3_specificity_3 : decode cX3_specificity 3 = .ok (.imul, 1) := by decide +kernel
set_option maxRecDepth 20000 in
theorem dX3_specificity_4 : decode cX3_specificity 4 = .ok (.istore_n 2, 1) := by decide +kernel
set_option maxRecDepth 20000 in
theorem dX3_specificity_5 : decode cX3_specificity 5 = .ok (.bipush 10, 2) := by decide +kernel
set_option maxRecDepth 20000 in
theorem dX3_specificity_7 : decode cX3_specificity 7 = .ok (.aload_n 0, 1) := by decide +kernel
set_option maxRecDepth 20000 in
theorem dX3_specificity_8 : decode cX3_specificity 8 = .ok (.getfield 14, 3) := by decide +kernel
set_option maxRecDepth 20000 in
theorem dX3_specificity_11 : decode cX3_specificity 11 = .ok (.iload_n 2, 1) := by decide +kernel
set_option maxRecDepth 20000 in
theorem dX3_specificity_12 : decode cX3_specificity 12 = .ok (.iconst 1, 1) := by decide +kernel
set_option maxRecDepth 20000 in
theorem dX3_specificity_13 : decode cX3_specificity 13 = .ok (.iadd, 1) := by decide +kernel
set_option maxRecDepth 20000 in
theorem dX3_specificity_14 : decode cX3_specificity 14 = .ok (.invokevirtual 31, 3) := by decide +kernel
set_option maxRecDepth 20000 in
theorem dX3_specificity_17 : decode cX3_specificity 17 = .ok (.invokestatic 43, 3) := by decide +kernel
set_option maxRecDepth 20000 in
theorem dX3_specificity_20 : decode cX3_specificity 20 = .ok (.imul, 1) := by decide +kernel
set_option maxRecDepth 20000 in
theorem dX3_specificity_21 : decode cX3_specificity 21 = .ok (.aload_n 0, 1) := by decide +kernel
set_option maxRecDepth 20000 in
theorem dX3_specificity_22 : decode cX3_specificity 22 = .ok (.getfield 14, 3) := by decide +kernel
set_option maxRecDepth 20000 in
theorem dX3_specificity_25 : decode cX3_specificity 25 = .ok (.iload_n 2, 1) := by decide +kernel
set_option maxRecDepth 20000 in
theorem dX3_specificity_26 : decode cX3_specificity 26 = .ok (.iconst 0, 1) := by decide +kernel
set_option maxRecDepth 20000 in
theorem dX3_specificity_27 : decode cX3_specificity 27 = .ok (.iadd, 1) := by decide +kernel
set_option maxRecDepth 20000 in
theorem dX3_specificity_28 : decode cX3_specificity 28 = .ok (.invokevirtual 31, 3) := by decide +kernel
set_option maxRecDepth 20000 in
theorem dX3_specificity_31 : decode cX3_specificity 31 = .ok (.iconst (-1), 1) := by decide +kernel
set_option maxRecDepth 20000 in
theorem dX3_specificity_32 : decode cX3_specificity 32 = .ok (.if_icmp .ne 7, 3) := by decide +kernel
set_option maxRecDepth 20000 in
theorem dX3_specificity_35 : decode cX3_specificity 35 = .ok (.iconst 0, 1) := by decide +kernel
set_option maxRecDepth 20000 in
theorem dX3_specificity_36 : decode cX3_specificity 36 = .ok (.goto 4, 3) := by decide +kernel
set_option maxRecDepth 20000 in
theorem dX3_specificity_39 : decode cX3_specificity 39 = .ok (.iconst 1, 1) := by decide +kernel
set_option maxRecDepth 20000 in
theorem dX3_specificity_40 : decode cX3_specificity 40 = .ok (.iadd, 1) := by decide +kernel
set_option maxRecDepth 20000 in
theorem dX3_specificity_41 : decode cX3_specificity 41 = .ok (.aload_n 0, 1) := by decide +kernel
set_option maxRecDepth 20000 in
theorem dX3_specificity_42 : decode cX3_specificity 42 = .ok (.getfield 14, 3) := by decide +kernel
set_option maxRecDepth 20000 in
theorem dX3_specificity_45 : decode cX3_specificity 45 = .ok (.iload_n 2, 1) := by decide +kernel
set_option maxRecDepth 20000 in
theorem dX3_specificity_46 : decode cX3_specificity 46 = .ok (.iconst 2, 1) := by decide +kernel
set_option maxRecDepth 20000 in
theorem dX3_specificity_47 : decode cX3_specificity 47 = .ok (.iadd, 1) := by decide +kernel
set_option maxRecDepth 20000 in
theorem dX3_specificity_48 : decode cX3_specificity 48 = .ok (.invokevirtual 31, 3) := by decide +kernel
set_option maxRecDepth 20000 in
theorem dX3_specificity_51 : decode cX3_specificity 51 = .ok (.iconst (-1), 1) := by decide +kernel
set_option maxRecDepth 20000 in
theorem dX3_specificity_52 : decode cX3_specificity 52 = .ok (.if_icmp .ne 7, 3) := by decide +kernel
set_option maxRecDepth 20000 in
theorem dX3_specificity_55 : decode cX3_specificity 55 = .ok (.iconst 0, 1) := by decide +kernel
set_option maxRecDepth 20000 in
theorem dX3_specificity_56 : decode cX3_specificity 56 = .ok (.goto 4, 3) := by decide +kernel
set_option maxRecDepth 20000 in
theorem dX3_specificity_59 : decode cX3_specificity 59 = .ok (.iconst 1, 1) := by decide +kernel
set_option maxRecDepth 20000 in
theorem dX3_specificity_60 : decode cX3_specificity 60 = .ok (.iadd, 1) := by decide +kernel
set_option maxRecDepth 20000 in
theorem dX3_specificity_61 : decode cX3_specificity 61 = .ok (.ireturn, 1) := by decide +kernel
set_option maxRecDepth 20000 in
theorem dX3_declarationsOf_0 : decode cX3_declarationsOf 0 = .ok (.iconst 0, 1) := by decide +kernel
set_option maxRecDepth 20000 in
theorem dX3_declarationsOf_1 : decode cX3_declarationsOf 1 = .ok (.istore_n 2, 1) := by decide +kernel
set_option maxRecDepth 20000 in
theorem dX3_declarationsOf_2 : decode cX3_declarationsOf 2 = .ok (.iconst 0, 1) := by decide +kernel
set_option maxRecDepth 20000 in
theorem dX3_declarationsOf_3 : decode cX3_declarationsOf 3 = .ok (.istore_n 3, 1) := by decide +kernel
set_option maxRecDepth 20000 in
theorem dX3_declarationsOf_4 : decode cX3_declarationsOf 4 = .ok (.iload_n 3, 1) := by decide +kernel
set_option maxRecDepth 20000 in
theorem dX3_declarationsOf_5 : decode cX3_declarationsOf 5 = .ok (.bipush 16, 2) := by decide +kernel
set_option maxRecDepth 20000 in
theorem dX3_declarationsOf_7 : decode cX3_declarationsOf 7 = .ok (.if_icmp .ge 21, 3) := by decide +kernel
set_option maxRecDepth 20000 in
theorem dX3_declarationsOf_10 : decode cX3_declarationsOf 10 = .ok (.aload_n 0, 1) := by decide +kernel
set_option maxRecDepth 20000 in
theorem dX3_declarationsOf_11 : decode cX3_declarationsOf 11 = .ok (.iload_n 1, 1) := by decide +kernel
set_option maxRecDepth 20000 in
theorem dX3_declarationsOf_12 : decode cX3_declarationsOf 12 = .ok (.iload_n 3, 1) := by decide +kernel
set_option maxRecDepth 20000 in
theorem dX3_declarationsOf_13 : decode cX3_declarationsOf 13 = .ok (.invokevirtual 48, 3) := by decide +kernel
set_option maxRecDepth 20000 in
theorem dX3_declarationsOf_16 : decode cX3_declarationsOf 16 = .ok (.ifCond .eq 6, 3) := by decide +kernel
set_option maxRecDepth 20000 in
theorem dX3_declarationsOf_19 : decode cX3_declarationsOf 19 = .ok (.iinc 2 1, 3) := by decide +kernel
set_option maxRecDepth 20000 in
theorem dX3_declarationsOf_22 : decode cX3_declarationsOf 22 = .ok (.iinc 3 1, 3) := by decide +kernel
set_option maxRecDepth 20000 in
theorem dX3_declarationsOf_25 : decode cX3_declarationsOf 25 = .ok (.goto (-21), 3) := by decide +kernel
set_option maxRecDepth 20000 in
theorem dX3_declarationsOf_28 : decode cX3_declarationsOf 28 = .ok (.iload_n 2, 1) := by decide +kernel
set_option maxRecDepth 20000 in
theorem dX3_declarationsOf_29 : decode cX3_declarationsOf 29 = .ok (.ireturn, 1) := by decide +kernel
set_option maxRecDepth 20000 in
theorem dX3_allDeclarations_0 : decode cX3_allDeclarations 0 = .ok (.iconst 0, 1) := by decide +kernel
set_option maxRecDepth 20000 in
theorem dX3_allDeclarations_1 : decode cX3_allDeclarations 1 = .ok (.istore_n 1, 1) := by decide +kernel
set_option maxRecDepth 20000 in
theorem dX3_allDeclarations_2 : decode cX3_allDeclarations 2 = .ok (.iconst 0, 1) := by decide +kernel
set_option maxRecDepth 20000 in
theorem dX3_allDeclarations_3 : decode cX3_allDeclarations 3 = .ok (.istore_n 2, 1) := by decide +kernel
set_option maxRecDepth 20000 in
theorem dX3_allDeclarations_4 : decode cX3_allDeclarations 4 = .ok (.iload_n 2, 1) := by decide +kernel
set_option maxRecDepth 20000 in
theorem dX3_allDeclarations_5 : decode cX3_allDeclarations 5 = .ok (.aload_n 0, 1) := by decide +kernel
set_option maxRecDepth 20000 in
theorem dX3_allDeclarations_6 : decode cX3_allDeclarations 6 = .ok (.getfield 23, 3) := by decide +kernel
set_option maxRecDepth 20000 in
theorem dX3_allDeclarations_9 : decode cX3_allDeclarations 9 = .ok (.if_icmp .ge 17, 3) := by decide +kernel
set_option maxRecDepth 20000 in
theorem dX3_allDeclarations_12 : decode cX3_allDeclarations 12 = .ok (.iload_n 1, 1) := by decide +kernel
set_option maxRecDepth 20000 in
theorem dX3_allDeclarations_13 : decode cX3_allDeclarations 13 = .ok (.aload_n 0, 1) := by decide +kernel
set_option maxRecDepth 20000 in
theorem dX3_allDeclarations_14 : decode cX3_allDeclarations 14 = .ok (.iload_n 2, 1) := by decide +kernel
set_option maxRecDepth 20000 in
theorem dX3_allDeclarations_15 : decode cX3_allDeclarations 15 = .ok (.invokevirtual 52, 3) := by decide +kernel
set_option maxRecDepth 20000 in
theorem dX3_allDeclarations_18 : decode cX3_allDeclarations 18 = .ok (.iadd, 1) := by decide +kernel
set_option maxRecDepth 20000 in
theorem dX3_allDeclarations_19 : decode cX3_allDeclarations 19 = .ok (.istore_n 1, 1) := by decide +kernel
set_option maxRecDepth 20000 in
theorem dX3_allDeclarations_20 : decode cX3_allDeclarations 20 = .ok (.iinc 2 1, 3) := by decide +kernel
set_option maxRecDepth 20000 in
theorem dX3_allDeclarations_23 : decode cX3_allDeclarations 23 = .ok (.goto (-19), 3) := by decide +kernel
set_option maxRecDepth 20000 in
theorem dX3_allDeclarations_26 : decode cX3_allDeclarations 26 = .ok (.iload_n 1, 1) := by decide +kernel
set_option maxRecDepth 20000 in
theorem dX3_allDeclarations_27 : decode cX3_allDeclarations 27 = .ok (.ireturn, 1) := by decide +kernel
set_option maxRecDepth 20000 in
theorem dX3_allReferences_0 : decode cX3_allReferences 0 = .ok (.iconst 0, 1) := by decide +kernel
set_option maxRecDepth 20000 in
theorem dX3_allReferences_1 : decode cX3_allReferences 1 = .ok (.istore_n 1, 1) := by decide +kernel
set_option maxRecDepth 20000 in
theorem dX3_allReferences_2 : decode cX3_allReferences 2 = .ok (.iconst 0, 1) := by decide +kernel
set_option maxRecDepth 20000 in
theorem dX3_allReferences_3 : decode cX3_allReferences 3 = .ok (.istore_n 2, 1) := by decide +kernel
set_option maxRecDepth 20000 in
theorem dX3_allReferences_4 : decode cX3_allReferences 4 = .ok (.iload_n 2, 1) := by decide +kernel
set_option maxRecDepth 20000 in
theorem dX3_allReferences_5 : decode cX3_allReferences 5 = .ok (.aload_n 0, 1) := by decide +kernel
set_option maxRecDepth 20000 in
theorem dX3_allReferences_6 : decode cX3_allReferences 6 = .ok (.getfield 23, 3) := by decide +kernel
set_option maxRecDepth 20000 in
theorem dX3_allReferences_9 : decode cX3_allReferences 9 = .ok (.if_icmp .ge 35, 3) := by decide +kernel
set_option maxRecDepth 20000 in
theorem dX3_allReferences_12 : decode cX3_allReferences 12 = .ok (.iconst 0, 1) := by decide +kernel
set_option maxRecDepth 20000 in
theorem dX3_allReferences_13 : decode cX3_allReferences 13 = .ok (.istore_n 3, 1) := by decide +kernel
set_option maxRecDepth 20000 in
theorem dX3_allReferences_14 : decode cX3_allReferences 14 = .ok (.iload_n 3, 1) := by decide +kernel
set_option maxRecDepth 20000 in
theorem dX3_allReferences_15 : decode cX3_allReferences 15 = .ok (.bipush 16, 2) := by decide +kernel
set_option maxRecDepth 20000 in
theorem dX3_allReferences_17 : decode cX3_allReferences 17 = .ok (.if_icmp .ge 21, 3) := by decide +kernel
set_option maxRecDepth 20000 in
theorem dX3_allReferences_20 : decode cX3_allReferences 20 = .ok (.aload_n 0, 1) := by decide +kernel
set_option maxRecDepth 20000 in
theorem dX3_allReferences_21 : decode cX3_allReferences 21 = .ok (.iload_n 2, 1) := by decide +kernel
set_option maxRecDepth 20000 in
theorem dX3_allReferences_22 : decode cX3_allReferences 22 = .ok (.iload_n 3, 1) := by decide +kernel
set_option maxRecDepth 20000 in
theorem dX3_allReferences_23 : decode cX3_allReferences 23 = .ok (.invokevirtual 55, 3) := by decide +kernel
set_option maxRecDepth 20000 in
theorem dX3_allReferences_26 : decode cX3_allReferences 26 = .ok (.ifCond .eq 6, 3) := by decide +kernel
set_option maxRecDepth 20000 in
theorem dX3_allReferences_29 : decode cX3_allReferences 29 = .ok (.iinc 1 1, 3) := by decide +kernel
set_option maxRecDepth 20000 in
theorem dX3_allReferences_32 : decode cX3_allReferences 32 = .ok (.iinc 3 1, 3) := by decide +kernel
set_option maxRecDepth 20000 in
theorem dX3_allReferences_35 : decode cX3_allReferences 35 = .ok (.goto (-21), 3) := by decide +kernel
set_option maxRecDepth 20000 in
theorem dX3_allReferences_38 : decode cX3_allReferences 38 = .ok (.iinc 2 1, 3) := by decide +kernel
set_option maxRecDepth 20000 in
theorem dX3_allReferences_41 : decode cX3_allReferences 41 = .ok (.goto (-37), 3) := by decide +kernel
set_option maxRecDepth 20000 in
theorem dX3_allReferences_44 : decode cX3_allReferences 44 = .ok (.iload_n 1, 1) := by decide +kernel
set_option maxRecDepth 20000 in
theorem dX3_allReferences_45 : decode cX3_allReferences 45 = .ok (.ireturn, 1) := by decide +kernel
set_option maxRecDepth 20000 in
theorem dX3_clear_0 : decode cX3_clear 0 = .ok (.aload_n 0, 1) := by decide +kernel
set_option maxRecDepth 20000 in
theorem dX3_clear_1 : decode cX3_clear 1 = .ok (.iconst 0, 1) := by decide +kernel
set_option maxRecDepth 20000 in
theorem dX3_clear_2 : decode cX3_clear 2 = .ok (.putfield 23, 3) := by decide +kernel
set_option maxRecDepth 20000 in
theorem dX3_clear_5 : decode cX3_clear 5 = .ok (.return_, 1) := by decide +kernel
set_option maxRecDepth 20000 in
theorem dX3_append_0 : decode cX3_append 0 = .ok (.aload_n 0, 1) := by decide +kernel
set_option maxRecDepth 20000 in
theorem dX3_append_1 : decode cX3_append 1 = .ok (.getfield 23, 3) := by decide +kernel
set_option maxRecDepth 20000 in
theorem dX3_append_4 : decode cX3_append 4 = .ok (.istore 7, 2) := by decide +kernel
set_option maxRecDepth 20000 in
theorem dX3_append_6 : decode cX3_append 6 = .ok (.iload 7, 2) := by decide +kernel
set_option maxRecDepth 20000 in
theorem dX3_append_8 : decode cX3_append 8 = .ok (.bipush 6, 2) := by decide +kernel
set_option maxRecDepth 20000 in
theorem dX3_append_10 : decode cX3_append 10 = .ok (.imul, 1) := by decide +kernel
set_option maxRecDepth 20000 in
theorem dX3_append_11 : decode cX3_append 11 = .ok (.istore 8, 2) := by decide +kernel
set_option maxRecDepth 20000 in
theorem dX3_append_13 : decode cX3_append 13 = .ok (.aload_n 0, 1) := by decide +kernel
set_option maxRecDepth 20000 in
theorem dX3_append_14 : decode cX3_append 14 = .ok (.getfield 14, 3) := by decide +kernel
set_option maxRecDepth 20000 in
theorem dX3_append_17 : decode cX3_append 17 = .ok (.iload 8, 2) := by decide +kernel
set_option maxRecDepth 20000 in
theorem dX3_append_19 : decode cX3_append 19 = .ok (.iconst 0, 1) := by decide +kernel
set_option maxRecDepth 20000 in
theorem dX3_append_20 : decode cX3_append 20 = .ok (.iadd, 1) := by decide +kernel
set_option maxRecDepth 20000 in
theorem dX3_append_21 : decode cX3_append 21 = .ok (.iload_n 1, 1) := by decide +kernel
set_option maxRecDepth 20000 in
theorem dX3_append_22 : decode cX3_append 22 = .ok (.invokevirtual 58, 3) := by decide +kernel
set_option maxRecDepth 20000 in
theorem dX3_append_25 : decode cX3_append 25 = .ok (.aload_n 0, 1) := by decide +kernel
set_option maxRecDepth 20000 in
theorem dX3_append_26 : decode cX3_append 26 = .ok (.getfield 14, 3) := by decide +kernel
set_option maxRecDepth 20000 in
theorem dX3_append_29 : decode cX3_append 29 = .ok (.iload 8, 2) := by decide +kernel
set_option maxRecDepth 20000 in
theorem dX3_append_31 : decode cX3_append 31 = .ok (.iconst 1, 1) := by decide +kernel
set_option maxRecDepth 20000 in
theorem dX3_append_32 : decode cX3_append 32 = .ok (.iadd, 1) := by decide +kernel
set_option maxRecDepth 20000 in
theorem dX3_append_33 : decode cX3_append 33 = .ok (.iload_n 2, 1) := by decide +kernel
set_option maxRecDepth 20000 in
theorem dX3_append_34 : decode cX3_append 34 = .ok (.invokevirtual 58, 3) := by decide +kernel
set_option maxRecDepth 20000 in
theorem dX3_append_37 : decode cX3_append 37 = .ok (.aload_n 0, 1) := by decide +kernel
set_option maxRecDepth 20000 in
theorem dX3_append_38 : decode cX3_append 38 = .ok (.getfield 14, 3) := by decide +kernel
set_option maxRecDepth 20000 in
theorem dX3_append_41 : decode cX3_append 41 = .ok (.iload 8, 2) := by decide +kernel
set_option maxRecDepth 20000 in
theorem dX3_append_43 : decode cX3_append 43 = .ok (.iconst 2, 1) := by decide +kernel
set_option maxRecDepth 20000 in
theorem dX3_append_44 : decode cX3_append 44 = .ok (.iadd, 1) := by decide +kernel
set_option maxRecDepth 20000 in
theorem dX3_append_45 : decode cX3_append 45 = .ok (.iload_n 3, 1) := by decide +kernel
set_option maxRecDepth 20000 in
theorem dX3_append_46 : decode cX3_append 46 = .ok (.invokevirtual 58, 3) := by decide +kernel
set_option maxRecDepth 20000 in
theorem dX3_append_49 : decode cX3_append 49 = .ok (.aload_n 0, 1) := by decide +kernel
set_option maxRecDepth 20000 in
theorem dX3_append_50 : decode cX3_append 50 = .ok (.getfield 14, 3) := by decide +kernel
set_option maxRecDepth 20000 in
theorem dX3_append_53 : decode cX3_append 53 = .ok (.iload 8, 2) := by decide +kernel
set_option maxRecDepth 20000 in
theorem dX3_append_55 : decode cX3_append 55 = .ok (.iconst 3, 1) := by decide +kernel
set_option maxRecDepth 20000 in
theorem dX3_append_56 : decode cX3_append 56 = .ok (.iadd, 1) := by decide +kernel
set_option maxRecDepth 20000 in
theorem dX3_append_57 : decode cX3_append 57 = .ok (.iload 4, 2) := by decide +kernel
set_option maxRecDepth 20000 in
theorem dX3_append_59 : decode cX3_append 59 = .ok (.invokevirtual 58, 3) := by decide +kernel
set_option maxRecDepth 20000 in
theorem dX3_append_62 : decode cX3_append 62 = .ok (.aload_n 0, 1) := by decide +kernel
set_option maxRecDepth 20000 in
theorem dX3_append_63 : decode cX3_append 63 = .ok (.getfield 14, 3) := by decide +kernel
set_option maxRecDepth 20000 in
theorem dX3_append_66 : decode cX3_append 66 = .ok (.iload 8, 2) := by decide +kernel
set_option maxRecDepth 20000 in
theorem dX3_append_68 : decode cX3_append 68 = .ok (.iconst 4, 1) := by decide +kernel
set_option maxRecDepth 20000 in
theorem dX3_append_69 : decode cX3_append 69 = .ok (.iadd, 1) := by decide +kernel
set_option maxRecDepth 20000 in
theorem dX3_append_70 : decode cX3_append 70 = .ok (.iload 5, 2) := by decide +kernel
set_option maxRecDepth 20000 in
theorem dX3_append_72 : decode cX3_append 72 = .ok (.invokevirtual 58, 3) := by decide +kernel
set_option maxRecDepth 20000 in
theorem dX3_append_75 : decode cX3_append 75 = .ok (.aload_n 0, 1) := by decide +kernel
set_option maxRecDepth 20000 in
theorem dX3_append_76 : decode cX3_append 76 = .ok (.getfield 14, 3) := by decide +kernel
set_option maxRecDepth 20000 in
theorem dX3_append_79 : decode cX3_append 79 = .ok (.iload 8, 2) := by decide +kernel
set_option maxRecDepth 20000 in
theorem dX3_append_81 : decode cX3_append 81 = .ok (.iconst 5, 1) := by decide +kernel
set_option maxRecDepth 20000 in
theorem dX3_append_82 : decode cX3_append 82 = .ok (.iadd, 1) := by decide +kernel
set_option maxRecDepth 20000 in
theorem dX3_append_83 : decode cX3_append 83 = .ok (.iload 6, 2) := by decide +kernel
set_option maxRecDepth 20000 in
theorem dX3_append_85 : decode cX3_append 85 = .ok (.invokevirtual 58, 3) := by decide +kernel
set_option maxRecDepth 20000 in
theorem dX3_append_88 : decode cX3_append 88 = .ok (.aload_n 0, 1) := by decide +kernel
set_option maxRecDepth 20000 in
theorem dX3_append_89 : decode cX3_append 89 = .ok (.getfield 20, 3) := by decide +kernel
set_option maxRecDepth 20000 in
theorem dX3_append_92 : decode cX3_append 92 = .ok (.iload 7, 2) := by decide +kernel
set_option maxRecDepth 20000 in
theorem dX3_append_94 : decode cX3_append 94 = .ok (.bipush 48, 2) := by decide +kernel
set_option maxRecDepth 20000 in
theorem dX3_append_96 : decode cX3_append 96 = .ok (.imul, 1) := by decide +kernel
set_option maxRecDepth 20000 in
theorem dX3_append_97 : decode cX3_append 97 = .ok (.iload 7, 2) := by decide +kernel
set_option maxRecDepth 20000 in
theorem dX3_append_99 : decode cX3_append 99 = .ok (.iconst 1, 1) := by decide +kernel
set_option maxRecDepth 20000 in
theorem dX3_append_100 : decode cX3_append 100 = .ok (.iadd, 1) := by decide +kernel
set_option maxRecDepth 20000 in
theorem dX3_append_101 : decode cX3_append 101 = .ok (.bipush 48, 2) := by decide +kernel
set_option maxRecDepth 20000 in
theorem dX3_append_103 : decode cX3_append 103 = .ok (.imul, 1) := by decide +kernel
set_option maxRecDepth 20000 in
theorem dX3_append_104 : decode cX3_append 104 = .ok (.iconst 1, 1) := by decide +kernel
set_option maxRecDepth 20000 in
theorem dX3_append_105 : decode cX3_append 105 = .ok (.isub, 1) := by decide +kernel
set_option maxRecDepth 20000 in
theorem dX3_append_106 : decode cX3_append 106 = .ok (.iconst (-1), 1) := by decide +kernel
set_option maxRecDepth 20000 in
theorem dX3_append_107 : decode cX3_append 107 = .ok (.invokevirtual 62, 3) := by decide +kernel
set_option maxRecDepth 20000 in
theorem dX3_append_110 : decode cX3_append 110 = .ok (.aload_n 0, 1) := by decide +kernel
set_option maxRecDepth 20000 in
theorem dX3_append_111 : decode cX3_append 111 = .ok (.dup, 1) := by decide +kernel
set_option maxRecDepth 20000 in
theorem dX3_append_112 : decode cX3_append 112 = .ok (.getfield 23, 3) := by decide +kernel
set_option maxRecDepth 20000 in
theorem dX3_append_115 : decode cX3_append 115 = .ok (.iconst 1, 1) := by decide +kernel
set_option maxRecDepth 20000 in
theorem dX3_append_116 : decode cX3_append 116 = .ok (.iadd, 1) := by decide +kernel
set_option maxRecDepth 20000 in
theorem dX3_append_117 : decode cX3_append 117 = .ok (.putfield 23, 3) := by decide +kernel
set_option maxRecDepth 20000 in
theorem dX3_append_120 : decode cX3_append 120 = .ok (.iload 7, 2) := by decide +kernel
set_option maxRecDepth 20000 in
theorem dX3_append_122 : decode cX3_append 122 = .ok (.ireturn, 1) := by decide +kernel
set_option maxRecDepth 20000 in
theorem dX3_appendFirstOf_0 : decode cX3_appendFirstOf 0 = .ok (.aload_n 0, 1) := by decide +kernel
set_option maxRecDepth 20000 in
theorem dX3_appendFirstOf_1 : decode cX3_appendFirstOf 1 = .ok (.getfield 23, 3) := by decide +kernel
set_option maxRecDepth 20000 in
theorem dX3_appendFirstOf_4 : decode cX3_appendFirstOf 4 = .ok (.istore_n 2, 1) := by decide +kernel
set_option maxRecDepth 20000 in
theorem dX3_appendFirstOf_5 : decode cX3_appendFirstOf 5 = .ok (.aload_n 1, 1) := by decide +kernel
set_option maxRecDepth 20000 in
theorem dX3_appendFirstOf_6 : decode cX3_appendFirstOf 6 = .ok (.ifnull 83, 3) := by decide +kernel
set_option maxRecDepth 20000 in
theorem dX3_appendFirstOf_9 : decode cX3_appendFirstOf 9 = .ok (.iconst 0, 1) := by decide +kernel
set_option maxRecDepth 20000 in
theorem dX3_appendFirstOf_10 : decode cX3_appendFirstOf 10 = .ok (.istore_n 3, 1) := by decide +kernel
set_option maxRecDepth 20000 in
theorem dX3_appendFirstOf_11 : decode cX3_appendFirstOf 11 = .ok (.iload_n 3, 1) := by decide +kernel
set_option maxRecDepth 20000 in
theorem dX3_appendFirstOf_12 : decode cX3_appendFirstOf 12 = .ok (.bipush 6, 2) := by decide +kernel
set_option maxRecDepth 20000 in
theorem dX3_appendFirstOf_14 : decode cX3_appendFirstOf 14 = .ok (.if_icmp .ge 30, 3) := by decide +kernel
set_option maxRecDepth 20000 in
theorem dX3_appendFirstOf_17 : decode cX3_appendFirstOf 17 = .ok (.aload_n 0, 1) := by decide +kernel
set_option maxRecDepth 20000 in
theorem dX3_appendFirstOf_18 : decode cX3_appendFirstOf 18 = .ok (.getfield 14, 3) := by decide +kernel
set_option maxRecDepth 20000 in
theorem dX3_appendFirstOf_21 : decode cX3_appendFirstOf 21 = .ok (.iload_n 2, 1) := by decide +kernel
set_option maxRecDepth 20000 in
theorem dX3_appendFirstOf_22 : decode cX3_appendFirstOf 22 = .ok (.bipush 6, 2) := by decide +kernel
set_option maxRecDepth 20000 in
theorem dX3_appendFirstOf_24 : decode cX3_appendFirstOf 24 = .ok (.imul, 1) := by decide +kernel
set_option maxRecDepth 20000 in
theorem dX3_appendFirstOf_25 : decode cX3_appendFirstOf 25 = .ok (.iload_n 3, 1) := by decide +kernel
set_option maxRecDepth 20000 in
theorem dX3_appendFirstOf_26 : decode cX3_appendFirstOf 26 = .ok (.iadd, 1) := by decide +kernel
set_option maxRecDepth 20000 in
theorem dX3_appendFirstOf_27 : decode cX3_appendFirstOf 27 = .ok (.aload_n 1, 1) := by decide +kernel
set_option maxRecDepth 20000 in
theorem dX3_appendFirstOf_28 : decode cX3_appendFirstOf 28 = .ok (.getfield 14, 3) := by decide +kernel
set_option maxRecDepth 20000 in
theorem dX3_appendFirstOf_31 : decode cX3_appendFirstOf 31 = .ok (.iload_n 3, 1) := by decide +kernel
set_option maxRecDepth 20000 in
theorem dX3_appendFirstOf_32 : decode cX3_appendFirstOf 32 = .ok (.invokevirtual 31, 3) := by decide +kernel
set_option maxRecDepth 20000 in
theorem dX3_appendFirstOf_35 : decode cX3_appendFirstOf 35 = .ok (.invokevirtual 58, 3) := by decide +kernel
set_option maxRecDepth 20000 in
theorem dX3_appendFirstOf_38 : decode cX3_appendFirstOf 38 = .ok (.iinc 3 1, 3) := by decide +kernel
set_option maxRecDepth 20000 in
theorem dX3_appendFirstOf_41 : decode cX3_appendFirstOf 41 = .ok (.goto (-30), 3) := by decide +kernel
set_option maxRecDepth 20000 in
theorem dX3_appendFirstOf_44 : decode cX3_appendFirstOf 44 = .ok (.iconst 0, 1) := by decide +kernel
set_option maxRecDepth 20000 in
theorem dX3_appendFirstOf_45 : decode cX3_appendFirstOf 45 = .ok (.istore_n 3, 1) := by decide +kernel
set_option maxRecDepth 20000 in
theorem dX3_appendFirstOf_46 : decode cX3_appendFirstOf 46 = .ok (.iload_n 3, 1) := by decide +kernel
set_option maxRecDepth 20000 in
theorem dX3_appendFirstOf_47 : decode cX3_appendFirstOf 47 = .ok (.bipush 48, 2) := by decide +kernel
set_option maxRecDepth 20000 in
theorem dX3_appendFirstOf_49 : decode cX3_appendFirstOf 49 = .ok (.if_icmp .ge 30, 3) := by decide +kernel
set_option maxRecDepth 20000 in
theorem dX3_appendFirstOf_52 : decode cX3_appendFirstOf 52 = .ok (.aload_n 0, 1) := by decide +kernel
set_option maxRecDepth 20000 in
theorem dX3_appendFirstOf_53 : decode cX3_appendFirstOf 53 = .ok (.getfield 20, 3) := by decide +kernel
set_option maxRecDepth 20000 in
theorem dX3_appendFirstOf_56 : decode cX3_appendFirstOf 56 = .ok (.iload_n 2, 1) := by decide +kernel
set_option maxRecDepth 20000 in
theorem dX3_appendFirstOf_57 : decode cX3_appendFirstOf 57 = .ok (.bipush 48, 2) := by decide +kernel
set_option maxRecDepth 20000 in
theorem dX3_appendFirstOf_59 : decode cX3_appendFirstOf 59 = .ok (.imul, 1) := by decide +kernel
set_option maxRecDepth 20000 in
theorem dX3_appendFirstOf_60 : decode cX3_appendFirstOf 60 = .ok (.iload_n 3, 1) := by decide +kernel
set_option maxRecDepth 20000 in
theorem dX3_appendFirstOf_61 : decode cX3_appendFirstOf 61 = .ok (.iadd, 1) := by decide +kernel
set_option maxRecDepth 20000 in
theorem dX3_appendFirstOf_62 : decode cX3_appendFirstOf 62 = .ok (.aload_n 1, 1) := by decide +kernel
set_option maxRecDepth 20000 in
theorem dX3_appendFirstOf_63 : decode cX3_appendFirstOf 63 = .ok (.getfield 20, 3) := by decide +kernel
set_option maxRecDepth 20000 in
theorem dX3_appendFirstOf_66 : decode cX3_appendFirstOf 66 = .ok (.iload_n 3, 1) := by decide +kernel
set_option maxRecDepth 20000 in
theorem dX3_appendFirstOf_67 : decode cX3_appendFirstOf 67 = .ok (.invokevirtual 31, 3) := by decide +kernel
set_option maxRecDepth 20000 in
theorem dX3_appendFirstOf_70 : decode cX3_appendFirstOf 70 = .ok (.invokevirtual 58, 3) := by decide +kernel
set_option maxRecDepth 20000 in
theorem dX3_appendFirstOf_73 : decode cX3_appendFirstOf 73 = .ok (.iinc 3 1, 3) := by decide +kernel
set_option maxRecDepth 20000 in
theorem dX3_appendFirstOf_76 : decode cX3_appendFirstOf 76 = .ok (.goto (-30), 3) := by decide +kernel
set_option maxRecDepth 20000 in
theorem dX3_appendFirstOf_79 : decode cX3_appendFirstOf 79 = .ok (.aload_n 0, 1) := by decide +kernel
set_option maxRecDepth 20000 in
theorem dX3_appendFirstOf_80 : decode cX3_appendFirstOf 80 = .ok (.dup, 1) := by decide +kernel
set_option maxRecDepth 20000 in
theorem dX3_appendFirstOf_81 : decode cX3_appendFirstOf 81 = .ok (.getfield 23, 3) := by decide +kernel
set_option maxRecDepth 20000 in
theorem dX3_appendFirstOf_84 : decode cX3_appendFirstOf 84 = .ok (.iconst 1, 1) := by decide +kernel
set_option maxRecDepth 20000 in
theorem dX3_appendFirstOf_85 : decode cX3_appendFirstOf 85 = .ok (.iadd, 1) := by decide +kernel
set_option maxRecDepth 20000 in
theorem dX3_appendFirstOf_86 : decode cX3_appendFirstOf 86 = .ok (.putfield 23, 3) := by decide +kernel
set_option maxRecDepth 20000 in
theorem dX3_appendFirstOf_89 : decode cX3_appendFirstOf 89 = .ok (.iload_n 2, 1) := by decide +kernel
set_option maxRecDepth 20000 in
theorem dX3_appendFirstOf_90 : decode cX3_appendFirstOf 90 = .ok (.ireturn, 1) := by decide +kernel
set_option maxRecDepth 20000 in
theorem dX3_takeOut_0 : decode cX3_takeOut 0 = .ok (.aload_n 0, 1) := by decide +kernel
set_option maxRecDepth 20000 in
theorem dX3_takeOut_1 : decode cX3_takeOut 1 = .ok (.dup, 1) := by decide +kernel
set_option maxRecDepth 20000 in
theorem dX3_takeOut_2 : decode cX3_takeOut 2 = .ok (.getfield 23, 3) := by decide +kernel
set_option maxRecDepth 20000 in
theorem dX3_takeOut_5 : decode cX3_takeOut 5 = .ok (.iconst 1, 1) := by decide +kernel
set_option maxRecDepth 20000 in
theorem dX3_takeOut_6 : decode cX3_takeOut 6 = .ok (.isub, 1) := by decide +kernel
set_option maxRecDepth 20000 in
theorem dX3_takeOut_7 : decode cX3_takeOut 7 = .ok (.putfield 23, 3) := by decide +kernel
set_option maxRecDepth 20000 in
theorem dX3_takeOut_10 : decode cX3_takeOut 10 = .ok (.iload_n 1, 1) := by decide +kernel
set_option maxRecDepth 20000 in
theorem dX3_takeOut_11 : decode cX3_takeOut 11 = .ok (.bipush 6, 2) := by decide +kernel
set_option maxRecDepth 20000 in
theorem dX3_takeOut_13 : decode cX3_takeOut 13 = .ok (.imul, 1) := by decide +kernel
set_option maxRecDepth 20000 in
theorem dX3_takeOut_14 : decode cX3_takeOut 14 = .ok (.istore_n 2, 1) := by decide +kernel
set_option maxRecDepth 20000 in
theorem dX3_takeOut_15 : decode cX3_takeOut 15 = .ok (.iload_n 2, 1) := by decide +kernel
set_option maxRecDepth 20000 in
theorem dX3_takeOut_16 : decode cX3_takeOut 16 = .ok (.aload_n 0, 1) := by decide +kernel
set_option maxRecDepth 20000 in
theorem dX3_takeOut_17 : decode cX3_takeOut 17 = .ok (.getfield 23, 3) := by decide +kernel
set_option maxRecDepth 20000 in
theorem dX3_takeOut_20 : decode cX3_takeOut 20 = .ok (.bipush 6, 2) := by decide +kernel
set_option maxRecDepth 20000 in
theorem dX3_takeOut_22 : decode cX3_takeOut 22 = .ok (.imul, 1) := by decide +kernel
set_option maxRecDepth 20000 in
theorem dX3_takeOut_23 : decode cX3_takeOut 23 = .ok (.if_icmp .ge 28, 3) := by decide +kernel
set_option maxRecDepth 20000 in
theorem dX3_takeOut_26 : decode cX3_takeOut 26 = .ok (.aload_n 0, 1) := by decide +kernel
set_option maxRecDepth 20000 in
theorem dX3_takeOut_27 : decode cX3_takeOut 27 = .ok (.getfield 14, 3) := by decide +kernel
set_option maxRecDepth 20000 in
theorem dX3_takeOut_30 : decode cX3_takeOut 30 = .ok (.iload_n 2, 1) := by decide +kernel
set_option maxRecDepth 20000 in
theorem dX3_takeOut_31 : decode cX3_takeOut 31 = .ok (.aload_n 0, 1) := by decide +kernel
set_option maxRecDepth 20000 in
theorem dX3_takeOut_32 : decode cX3_takeOut 32 = .ok (.getfield 14, 3) := by decide +kernel
set_option maxRecDepth 20000 in
theorem dX3_takeOut_35 : decode cX3_takeOut 35 = .ok (.iload_n 2, 1) := by decide +kernel
set_option maxRecDepth 20000 in
theorem dX3_takeOut_36 : decode cX3_takeOut 36 = .ok (.bipush 6, 2) := by decide +kernel
set_option maxRecDepth 20000 in
theorem dX3_takeOut_38 : decode cX3_takeOut 38 = .ok (.iadd, 1) := by decide +kernel
set_option maxRecDepth 20000 in
theorem dX3_takeOut_39 : decode cX3_takeOut 39 = .ok (.invokevirtual 31, 3) := by decide +kernel
set_option maxRecDepth 20000 in
theorem dX3_takeOut_42 : decode cX3_takeOut 42 = .ok (.invokevirtual 58, 3) := by decide +kernel
set_option maxRecDepth 20000 in
theorem dX3_takeOut_45 : decode cX3_takeOut 45 = .ok (.iinc 2 1, 3) := by decide +kernel
set_option maxRecDepth 20000 in
theorem dX3_takeOut_48 : decode cX3_takeOut 48 = .ok (.goto (-33), 3) := by decide +kernel
set_option maxRecDepth 20000 in
theorem dX3_takeOut_51 : decode cX3_takeOut 51 = .ok (.iload_n 1, 1) := by decide +kernel
set_option maxRecDepth 20000 in
theorem dX3_takeOut_52 : decode cX3_takeOut 52 = .ok (.bipush 48, 2) := by decide +kernel
set_option maxRecDepth 20000 in
theorem dX3_takeOut_54 : decode cX3_takeOut 54 = .ok (.imul, 1) := by decide +kernel
set_option maxRecDepth 20000 in
theorem dX3_takeOut_55 : decode cX3_takeOut 55 = .ok (.istore_n 2, 1) := by decide +kernel
set_option maxRecDepth 20000 in
theorem dX3_takeOut_56 : decode cX3_takeOut 56 = .ok (.iload_n 2, 1) := by decide +kernel
set_option maxRecDepth 20000 in
theorem dX3_takeOut_57 : decode cX3_takeOut 57 = .ok (.aload_n 0, 1) := by decide +kernel
set_option maxRecDepth 20000 in
theorem dX3_takeOut_58 : decode cX3_takeOut 58 = .ok (.getfield 23, 3) := by decide +kernel
set_option maxRecDepth 20000 in
theorem dX3_takeOut_61 : decode cX3_takeOut 61 = .ok (.bipush 48, 2) := by decide +kernel
set_option maxRecDepth 20000 in
theorem dX3_takeOut_63 : decode cX3_takeOut 63 = .ok (.imul, 1) := by decide +kernel
set_option maxRecDepth 20000 in
theorem dX3_takeOut_64 : decode cX3_takeOut 64 = .ok (.if_icmp .ge 28, 3) := by decide +kernel
set_option maxRecDepth 20000 in
theorem dX3_takeOut_67 : decode cX3_takeOut 67 = .ok (.aload_n 0, 1) := by decide +kernel
set_option maxRecDepth 20000 in
theorem dX3_takeOut_68 : decode cX3_takeOut 68 = .ok (.getfield 20, 3) := by decide +kernel
set_option maxRecDepth 20000 in
theorem dX3_takeOut_71 : decode cX3_takeOut 71 = .ok (.iload_n 2, 1) := by decide +kernel
set_option maxRecDepth 20000 in
theorem dX3_takeOut_72 : decode cX3_takeOut 72 = .ok (.aload_n 0, 1) := by decide +kernel
set_option maxRecDepth 20000 in
theorem dX3_takeOut_73 : decode cX3_takeOut 73 = .ok (.getfield 20, 3) := by decide +kernel
set_option maxRecDepth 20000 in
theorem dX3_takeOut_76 : decode cX3_takeOut 76 = .ok (.iload_n 2, 1) := by decide +kernel
set_option maxRecDepth 20000 in
theorem dX3_takeOut_77 : decode cX3_takeOut 77 = .ok (.bipush 48, 2) := by decide +kernel
set_option maxRecDepth 20000 in
theorem dX3_takeOut_79 : decode cX3_takeOut 79 = .ok (.iadd, 1) := by decide +kernel
set_option maxRecDepth 20000 in
theorem dX3_takeOut_80 : decode cX3_takeOut 80 = .ok (.invokevirtual 31, 3) := by decide +kernel
set_option maxRecDepth 20000 in
theorem dX3_takeOut_83 : decode cX3_takeOut 83 = .ok (.invokevirtual 58, 3) := by decide +kernel
set_option maxRecDepth 20000 in
theorem dX3_takeOut_86 : decode cX3_takeOut 86 = .ok (.iinc 2 1, 3) := by decide +kernel
set_option maxRecDepth 20000 in
theorem dX3_takeOut_89 : decode cX3_takeOut 89 = .ok (.goto (-33), 3) := by decide +kernel
set_option maxRecDepth 20000 in
theorem dX3_takeOut_92 : decode cX3_takeOut 92 = .ok (.aload_n 0, 1) := by decide +kernel
set_option maxRecDepth 20000 in
theorem dX3_takeOut_93 : decode cX3_takeOut 93 = .ok (.getfield 23, 3) := by decide +kernel
set_option maxRecDepth 20000 in
theorem dX3_takeOut_96 : decode cX3_takeOut 96 = .ok (.ireturn, 1) := by decide +kernel
set_option maxRecDepth 20000 in
theorem dX3_setDeclaration_0 : decode cX3_setDeclaration 0 = .ok (.iload_n 1, 1) := by decide +kernel
set_option maxRecDepth 20000 in
theorem dX3_setDeclaration_1 : decode cX3_setDeclaration 1 = .ok (.bipush 48, 2) := by decide +kernel
set_option maxRecDepth 20000 in
theorem dX3_setDeclaration_3 : decode cX3_setDeclaration 3 = .ok (.imul, 1) := by decide +kernel
set_option maxRecDepth 20000 in
theorem dX3_setDeclaration_4 : decode cX3_setDeclaration 4 = .ok (.iload_n 2, 1) := by decide +kernel
set_option maxRecDepth 20000 in
theorem dX3_setDeclaration_5 : decode cX3_setDeclaration 5 = .ok (.iconst 3, 1) := by decide +kernel
set_option maxRecDepth 20000 in
theorem dX3_setDeclaration_6 : decode cX3_setDeclaration 6 = .ok (.imul, 1) := by decide +kernel
set_option maxRecDepth 20000 in
theorem dX3_setDeclaration_7 : decode cX3_setDeclaration 7 = .ok (.iadd, 1) := by decide +kernel
set_option maxRecDepth 20000 in
theorem dX3_setDeclaration_8 : decode cX3_setDeclaration 8 = .ok (.istore 6, 2) := by decide +kernel
set_option maxRecDepth 20000 in
theorem dX3_setDeclaration_10 : decode cX3_setDeclaration 10 = .ok (.aload_n 0, 1) := by decide +kernel
set_option maxRecDepth 20000 in
theorem dX3_setDeclaration_11 : decode cX3_setDeclaration 11 = .ok (.getfield 20, 3) := by decide +kernel
set_option maxRecDepth 20000 in
theorem dX3_setDeclaration_14 : decode cX3_setDeclaration 14 = .ok (.iload 6, 2) := by decide +kernel
set_option maxRecDepth 20000 in
theorem dX3_setDeclaration_16 : decode cX3_setDeclaration 16 = .ok (.iconst 0, 1) := by decide +kernel
set_option maxRecDepth 20000 in
theorem dX3_setDeclaration_17 : decode cX3_setDeclaration 17 = .ok (.iadd, 1) := by decide +kernel
set_option maxRecDepth 20000 in
theorem dX3_setDeclaration_18 : decode cX3_setDeclaration 18 = .ok (.iload_n 3, 1) := by decide +kernel
set_option maxRecDepth 20000 in
theorem dX3_setDeclaration_19 : decode cX3_setDeclaration 19 = .ok (.invokevirtual 58, 3) := by decide +kernel
set_option maxRecDepth 20000 in
theorem dX3_setDeclaration_22 : decode cX3_setDeclaration 22 = .ok (.aload_n 0, 1) := by decide +kernel
set_option maxRecDepth 20000 in
theorem dX3_setDeclaration_23 : decode cX3_setDeclaration 23 = .ok (.getfield 20, 3) := by decide +kernel
set_option maxRecDepth 20000 in
theorem dX3_setDeclaration_26 : decode cX3_setDeclaration 26 = .ok (.iload 6, 2) := by decide +kernel
set_option maxRecDepth 20000 in
theorem dX3_setDeclaration_28 : decode cX3_setDeclaration 28 = .ok (.iconst 1, 1) := by decide +kernel
set_option maxRecDepth 20000 in
theorem dX3_setDeclaration_29 : decode cX3_setDeclaration 29 = .ok (.iadd, 1) := by decide +kernel
set_option maxRecDepth 20000 in
theorem dX3_setDeclaration_30 : decode cX3_setDeclaration 30 = .ok (.iload 4, 2) := by decide +kernel
set_option maxRecDepth 20000 in
theorem dX3_setDeclaration_32 : decode cX3_setDeclaration 32 = .ok (.invokevirtual 58, 3) := by decide +kernel
set_option maxRecDepth 20000 in
theorem dX3_setDeclaration_35 : decode cX3_setDeclaration 35 = .ok (.aload_n 0, 1) := by decide +kernel
set_option maxRecDepth 20000 in
theorem dX3_setDeclaration_36 : decode cX3_setDeclaration 36 = .ok (.getfield 20, 3) := by decide +kernel
set_option maxRecDepth 20000 in
theorem dX3_setDeclaration_39 : decode cX3_setDeclaration 39 = .ok (.iload 6, 2) := by decide +kernel
set_option maxRecDepth 20000 in
theorem dX3_setDeclaration_41 : decode cX3_setDeclaration 41 = .ok (.iconst 2, 1) := by decide +kernel
set_option maxRecDepth 20000 in
theorem dX3_setDeclaration_42 : decode cX3_setDeclaration 42 = .ok (.iadd, 1) := by decide +kernel
set_option maxRecDepth 20000 in
theorem dX3_setDeclaration_43 : decode cX3_setDeclaration 43 = .ok (.iload 5, 2) := by decide +kernel
set_option maxRecDepth 20000 in
theorem dX3_setDeclaration_45 : decode cX3_setDeclaration 45 = .ok (.invokevirtual 58, 3) := by decide +kernel
set_option maxRecDepth 20000 in
theorem dX3_setDeclaration_48 : decode cX3_setDeclaration 48 = .ok (.return_, 1) := by decide +kernel
set_option maxRecDepth 20000 in
theorem dX3_copy_0 : decode cX3_copy 0 = .ok (.aload_n 1, 1) := by decide +kernel
set_option maxRecDepth 20000 in
theorem dX3_copy_1 : decode cX3_copy 1 = .ok (.ifnull 33, 3) := by decide +kernel
set_option maxRecDepth 20000 in
theorem dX3_copy_4 : decode cX3_copy 4 = .ok (.aload_n 0, 1) := by decide +kernel
set_option maxRecDepth 20000 in
theorem dX3_copy_5 : decode cX3_copy 5 = .ok (.aload_n 1, 1) := by decide +kernel
set_option maxRecDepth 20000 in
theorem dX3_copy_6 : decode cX3_copy 6 = .ok (.getfield 23, 3) := by decide +kernel
set_option maxRecDepth 20000 in
theorem dX3_copy_9 : decode cX3_copy 9 = .ok (.putfield 23, 3) := by decide +kernel
set_option maxRecDepth 20000 in
theorem dX3_copy_12 : decode cX3_copy 12 = .ok (.aload_n 0, 1) := by decide +kernel
set_option maxRecDepth 20000 in
theorem dX3_copy_13 : decode cX3_copy 13 = .ok (.getfield 14, 3) := by decide +kernel
set_option maxRecDepth 20000 in
theorem dX3_copy_16 : decode cX3_copy 16 = .ok (.aload_n 1, 1) := by decide +kernel
set_option maxRecDepth 20000 in
theorem dX3_copy_17 : decode cX3_copy 17 = .ok (.getfield 14, 3) := by decide +kernel
set_option maxRecDepth 20000 in
theorem dX3_copy_20 : decode cX3_copy 20 = .ok (.invokevirtual 66, 3) := by decide +kernel
set_option maxRecDepth 20000 in
theorem dX3_copy_23 : decode cX3_copy 23 = .ok (.aload_n 0, 1) := by decide +kernel
set_option maxRecDepth 20000 in
theorem dX3_copy_24 : decode cX3_copy 24 = .ok (.getfield 20, 3) := by decide +kernel
set_option maxRecDepth 20000 in
theorem dX3_copy_27 : decode cX3_copy 27 = .ok (.aload_n 1, 1) := by decide +kernel
set_option maxRecDepth 20000 in
theorem dX3_copy_28 : decode cX3_copy 28 = .ok (.getfield 20, 3) := by decide +kernel
set_option maxRecDepth 20000 in
theorem dX3_copy_31 : decode cX3_copy 31 = .ok (.invokevirtual 66, 3) := by decide +kernel
set_option maxRecDepth 20000 in
theorem dX3_copy_34 : decode cX3_copy 34 = .ok (.return_, 1) := by decide +kernel
set_option maxRecDepth 20000 in
theorem dX4_init_0 : decode cX4_init 0 = .ok (.aload_n 0, 1) := by decide +kernel
set_option maxRecDepth 20000 in
theorem dX4_init_1 : decode cX4_init 1 = .ok (.invokespecial 3, 3) := by decide +kernel
set_option maxRecDepth 20000 in
theorem dX4_init_4 : decode cX4_init 4 = .ok (.aload_n 0, 1) := by decide +kernel
set_option maxRecDepth 20000 in
theorem dX4_init_5 : decode cX4_init 5 = .ok (.new 9, 3) := by decide +kernel
set_option maxRecDepth 20000 in
theorem dX4_init_8 : decode cX4_init 8 = .ok (.dup, 1) := by decide +kernel
set_option maxRecDepth 20000 in
theorem dX4_init_9 : decode cX4_init 9 = .ok (.invokespecial 11, 3) := by decide +kernel
set_option maxRecDepth 20000 in
theorem dX4_init_12 : decode cX4_init 12 = .ok (.putfield 12, 3) := by decide +kernel
set_option maxRecDepth 20000 in
theorem dX4_init_15 : decode cX4_init 15 = .ok (.aload_n 0, 1) := by decide +kernel
set_option maxRecDepth 20000 in
theorem dX4_init_16 : decode cX4_init 16 = .ok (.new 18, 3) := by decide +kernel
set_option maxRecDepth 20000 in
theorem dX4_init_19 : decode cX4_init 19 = .ok (.dup, 1) := by decide +kernel
set_option maxRecDepth 20000 in
theorem dX4_init_20 : decode cX4_init 20 = .ok (.bipush 16, 2) := by decide +kernel
set_option maxRecDepth 20000 in
theorem dX4_init_22 : decode cX4_init 22 = .ok (.invokespecial 20, 3) := by decide +kernel
set_option maxRecDepth 20000 in
theorem dX4_init_25 : decode cX4_init 25 = .ok (.putfield 23, 3) := by decide +kernel
set_option maxRecDepth 20000 in
theorem dX4_init_28 : decode cX4_init 28 = .ok (.return_, 1) := by decide +kernel
set_option maxRecDepth 20000 in
theorem dX4_fits_0 : decode cX4_fits 0 = .ok (.aload_n 0, 1) := by decide +kernel
set_option maxRecDepth 20000 in
theorem dX4_fits_1 : decode cX4_fits 1 = .ok (.getfield 23, 3) := by decide +kernel
set_option maxRecDepth 20000 in
theorem dX4_fits_4 : decode cX4_fits 4 = .ok (.iload_n 1, 1) := by decide +kernel
set_option maxRecDepth 20000 in
theorem dX4_fits_5 : decode cX4_fits 5 = .ok (.iconst 0, 1) := by decide +kernel
set_option maxRecDepth 20000 in
theorem dX4_fits_6 : decode cX4_fits 6 = .ok (.invokevirtual 27, 3) := by decide +kernel
set_option maxRecDepth 20000 in
theorem dX4_fits_9 : decode cX4_fits 9 = .ok (.istore_n 3, 1) := by decide +kernel
set_option maxRecDepth 20000 in
theorem dX4_fits_10 : decode cX4_fits 10 = .ok (.aload_n 0, 1) := by decide +kernel
set_option maxRecDepth 20000 in
theorem dX4_fits_11 : decode cX4_fits 11 = .ok (.getfield 23, 3) := by decide +kernel
set_option maxRecDepth 20000 in
theorem dX4_fits_14 : decode cX4_fits 14 = .ok (.iload_n 1, 1) := by decide +kernel
set_option maxRecDepth 20000 in
theorem dX4_fits_15 : decode cX4_fits 15 = .ok (.iconst 1, 1) := by decide +kernel
set_option maxRecDepth 20000 in
theorem dX4_fits_16 : decode cX4_fits 16 = .ok (.invokevirtual 27, 3) := by decide +kernel
set_option maxRecDepth 20000 in
theorem dX4_fits_19 : decode cX4_fits 19 = .ok (.istore 4, 2) := by decide +kernel
set_option maxRecDepth 20000 in
theorem dX4_fits_21 : decode cX4_fits 21 = .ok (.aload_n 0, 1) := by decide +kernel
set_option maxRecDepth 20000 in
theorem dX4_fits_22 : decode cX4_fits 22 = .ok (.getfield 23, 3) := by decide +kernel
set_option maxRecDepth 20000 in
theorem dX4_fits_25 : decode cX4_fits 25 = .ok (.iload_n 1, 1) := by decide +kernel
set_option maxRecDepth 20000 in
theorem dX4_fits_26 : decode cX4_fits 26 = .ok (.iconst 2, 1) := by decide +kernel
set_option maxRecDepth 20000 in
theorem dX4_fits_27 : decode cX4_fits 27 = .ok (.invokevirtual 27, 3) := by decide +kernel
set_option maxRecDepth 20000 in
theorem dX4_fits_30 : decode cX4_fits 30 = .ok (.istore 5, 2) := by decide +kernel
set_option maxRecDepth 20000 in
theorem dX4_fits_32 : decode cX4_fits 32 = .ok (.aload_n 0, 1) := by decide +kernel
set_option maxRecDepth 20000 in
theorem dX4_fits_33 : decode cX4_fits 33 = .ok (.getfield 23, 3) := by decide +kernel
set_option maxRecDepth 20000 in
theorem dX4_fits_36 : decode cX4_fits 36 = .ok (.iload_n 1, 1) := by decide +kernel
set_option maxRecDepth 20000 in
theorem dX4_fits_37 : decode cX4_fits 37 = .ok (.iconst 4, 1) := by decide +kernel
set_option maxRecDepth 20000 in
theorem dX4_fits_38 : decode cX4_fits 38 = .ok (.invokevirtual 27, 3) := by decide +kernel
set_option maxRecDepth 20000 in
theorem dX4_fits_41 : decode cX4_fits 41 = .ok (.istore 6, 2) := by decide +kernel
set_option maxRecDepth 20000 in
theorem dX4_fits_43 : decode cX4_fits 43 = .ok (.iload_n 3, 1) := by decide +kernel
set_option maxRecDepth 20000 in
theorem dX4_fits_44 : decode cX4_fits 44 = .ok (.iconst (-1), 1) := by decide +kernel
set_option maxRecDepth 20000 in
theorem dX4_fits_45 : decode cX4_fits 45 = .ok (.if_icmp .eq 15, 3) := by decide +kernel
set_option maxRecDepth 20000 in
theorem dX4_fits_48 : decode cX4_fits 48 = .ok (.iload_n 3, 1) := by decide +kernel
set_option maxRecDepth 20000 in
theorem dX4_fits_49 : decode cX4_fits 49 = .ok (.aload_n 0, 1) := by decide +kernel
set_option maxRecDepth 20000 in
theorem dX4_fits_50 : decode cX4_fits 50 = .ok (.getfield 12, 3) := by decide +kernel
set_option maxRecDepth 20000 in
theorem dX4_fits_53 : decode cX4_fits 53 = .ok (.iload_n 2, 1) := by decide +kernel
set_option maxRecDepth 20000 in
theorem dX4_fits_54 : decode cX4_fits 54 = .ok (.invokevirtual 31, 3) := by decide +kernel
set_option maxRecDepth 20000 in
theorem dX4_fits_57 : decode cX4_fits 57 = .ok (.if_icmp .ne 62, 3) := by decide +kernel
set_option maxRecDepth 20000 in
theorem dX4_fits_60 : decode cX4_fits 60 = .ok (.aload_n 0, 1) := by decide +kernel
set_option maxRecDepth 20000 in
theorem dX4_fits_61 : decode cX4_fits 61 = .ok (.getfield 12, 3) := by decide +kernel
set_option maxRecDepth 20000 in
theorem dX4_fits_64 : decode cX4_fits 64 = .ok (.iload_n 2, 1) := by decide +kernel
set_option maxRecDepth 20000 in
theorem dX4_fits_65 : decode cX4_fits 65 = .ok (.invokevirtual 35, 3) := by decide +kernel
set_option maxRecDepth 20000 in
theorem dX4_fits_68 : decode cX4_fits 68 = .ok (.iload 4, 2) := by decide +kernel
set_option maxRecDepth 20000 in
theorem dX4_fits_70 : decode cX4_fits 70 = .ok (.iand, 1) := by decide +kernel
set_option maxRecDepth 20000 in
theorem dX4_fits_71 : decode cX4_fits 71 = .ok (.iload 4, 2) := by decide +kernel
set_option maxRecDepth 20000 in
theorem dX4_fits_73 : decode cX4_fits 73 = .ok (.if_icmp .ne 46, 3) := by decide +kernel
set_option maxRecDepth 20000 in
theorem dX4_fits_76 : decode cX4_fits 76 = .ok (.iload 5, 2) := by decide +kernel
set_option maxRecDepth 20000 in
theorem dX4_fits_78 : decode cX4_fits 78 = .ok (.iconst (-1), 1) := by decide +kernel
set_option maxRecDepth 20000 in
theorem dX4_fits_79 : decode cX4_fits 79 = .ok (.if_icmp .eq 16, 3) := by decide +kernel
set_option maxRecDepth 20000 in
theorem dX4_fits_82 : decode cX4_fits 82 = .ok (.aload_n 0, 1) := by decide +kernel
set_option maxRecDepth 20000 in
theorem dX4_fits_83 : decode cX4_fits 83 = .ok (.getfield 12, 3) := by decide +kernel
set_option maxRecDepth 20000 in
theorem dX4_fits_86 : decode cX4_fits 86 = .ok (.iload_n 2, 1) := by decide +kernel
set_option maxRecDepth 20000 in
theorem dX4_fits_87 : decode cX4_fits 87 = .ok (.iload 5, 2) := by decide +kernel
set_option maxRecDepth 20000 in
theorem dX4_fits_89 : decode cX4_fits 89 = .ok (.invokevirtual 38, 3) := by decide +kernel
set_option maxRecDepth 20000 in
theorem dX4_fits_92 : decode cX4_fits 92 = .ok (.ifCond .eq 27, 3) := by decide +kernel
set_option maxRecDepth 20000 in
theorem dX4_fits_95 : decode cX4_fits 95 = .ok (.iload 6, 2) := by decide +kernel
set_option maxRecDepth 20000 in
theorem dX4_fits_97 : decode cX4_fits 97 = .ok (.iconst (-1), 1) := by decide +kernel
set_option maxRecDepth 20000 in
theorem dX4_fits_98 : decode cX4_fits 98 = .ok (.if_icmp .eq 17, 3) := by decide +kernel
set_option maxRecDepth 20000 in
theorem dX4_fits_101 : decode cX4_fits 101 = .ok (.aload_n 0, 1) := by decide +kernel
set_option maxRecDepth 20000 in
theorem dX4_fits_102 : decode cX4_fits 102 = .ok (.getfield 12, 3) := by decide +kernel
set_option maxRecDepth 20000 in
theorem dX4_fits_105 : decode cX4_fits 105 = .ok (.iload_n 2, 1) := by decide +kernel
set_option maxRecDepth 20000 in
theorem dX4_fits_106 : decode cX4_fits 106 = .ok (.iload 6, 2) := by decide +kernel
set_option maxRecDepth 20000 in
theorem dX4_fits_108 : decode cX4_fits 108 = .ok (.invokevirtual 42, 3) := by decide +kernel
set_option maxRecDepth 20000 in
theorem dX4_fits_111 : decode cX4_fits 111 = .ok (.iconst (-1), 1) := by decide +kernel
set_option maxRecDepth 20000 in
theorem dX4_fits_112 : decode cX4_fits 112 = .ok (.if_icmp .eq 7, 3) := by decide +kernel
set_option maxRecDepth 20000 in
theorem dX4_fits_115 : decode cX4_fits 115 = .ok (.iconst 1, 1) := by decide +kernel
set_option maxRecDepth 20000 in
theorem dX4_fits_116 : decode cX4_fits 116 = .ok (.goto 4, 3) := by decide +kernel
set_option maxRecDepth 20000 in
theorem dX4_fits_119 : decode cX4_fits 119 = .ok (.iconst 0, 1) := by decide +kernel
set_option maxRecDepth 20000 in
theorem dX4_fits_120 : decode cX4_fits 120 = .ok (.ireturn, 1) := by decide +kernel
set_option maxRecDepth 20000 in
theorem dX4_rank_0 : decode cX4_rank 0 = .ok (.aload_n 0, 1) := by decide +kernel
set_option maxRecDepth 20000 in
theorem dX4_rank_1 : decode cX4_rank 1 = .ok (.getfield 23, 3) := by decide +kernel
set_option maxRecDepth 20000 in
theorem dX4_rank_4 : decode cX4_rank 4 = .ok (.iload_n 1, 1) := by decide +kernel
set_option maxRecDepth 20000 in
theorem dX4_rank_5 : decode cX4_rank 5 = .ok (.iconst 5, 1) := by decide +kernel
set_option maxRecDepth 20000 in
theorem dX4_rank_6 : decode cX4_rank 6 = .ok (.invokevirtual 27, 3) := by decide +kernel
set_option maxRecDepth 20000 in
theorem dX4_rank_9 : decode cX4_rank 9 = .ok (.iconst 1, 1) := by decide +kernel
set_option maxRecDepth 20000 in
theorem dX4_rank_10 : decode cX4_rank 10 = .ok (.if_icmp .ne 7, 3) := by decide +kernel
set_option maxRecDepth 20000 in
theorem dX4_rank_13 : decode cX4_rank 13 = .ok (.iconst 1, 1) := by decide +kernel
set_option maxRecDepth 20000 in
theorem dX4_rank_14 : decode cX4_rank 14 = .ok (.goto 4, 3) := by decide +kernel
set_option maxRecDepth 20000 in
theorem dX4_rank_17 : decode cX4_rank 17 = .ok (.iconst 0, 1) := by decide +kernel
set_option maxRecDepth 20000 in
theorem dX4_rank_18 : decode cX4_rank 18 = .ok (.istore 4, 2) := by decide +kernel
set_option maxRecDepth 20000 in
theorem dX4_rank_20 : decode cX4_rank 20 = .ok (.aload_n 0, 1) := by decide +kernel
set_option maxRecDepth 20000 in
theorem dX4_rank_21 : decode cX4_rank 21 = .ok (.getfield 23, 3) := by decide +kernel
set_option maxRecDepth 20000 in
theorem dX4_rank_24 : decode cX4_rank 24 = .ok (.iload_n 1, 1) := by decide +kernel
set_option maxRecDepth 20000 in
theorem dX4_rank_25 : decode cX4_rank 25 = .ok (.iconst 3, 1) := by decide +kernel
set_option maxRecDepth 20000 in
theorem dX4_rank_26 : decode cX4_rank 26 = .ok (.invokevirtual 27, 3) := by decide +kernel
set_option maxRecDepth 20000 in
theorem dX4_rank_29 : decode cX4_rank 29 = .ok (.istore 5, 2) := by decide +kernel
set_option maxRecDepth 20000 in
theorem dX4_rank_31 : decode cX4_rank 31 = .ok (.aload_n 0, 1) := by decide +kernel
set_option maxRecDepth 20000 in
theorem dX4_rank_32 : decode cX4_rank 32 = .ok (.getfield 23, 3) := by decide +kernel
set_option maxRecDepth 20000 in
theorem dX4_rank_35 : decode cX4_rank 35 = .ok (.iload_n 1, 1) := by decide +kernel
set_option maxRecDepth 20000 in
theorem dX4_rank_36 : decode cX4_rank 36 = .ok (.iconst 4, 1) := by decide +kernel
set_option maxRecDepth 20000 in
theorem dX4_rank_37 : decode cX4_rank 37 = .ok (.invokevirtual 27, 3) := by decide +kernel
set_option maxRecDepth 20000 in
theorem dX4_rank_40 : decode cX4_rank 40 = .ok (.istore 6, 2) := by decide +kernel
set_option maxRecDepth 20000 in
theorem dX4_rank_42 : decode cX4_rank 42 = .ok (.iload_n 3, 1) := by decide +kernel
set_option maxRecDepth 20000 in
theorem dX4_rank_43 : decode cX4_rank 43 = .ok (.tableswitch 88 1 4 #[29, 40, 55, 79], 29) := by decide +kernel
set_option maxRecDepth 20000 in
theorem dX4_rank_72 : decode cX4_rank 72 = .ok (.iload 4, 2) := by decide +kernel
set_option maxRecDepth 20000 in
theorem dX4_rank_74 : decode cX4_rank 74 = .ok (.ifCond .eq 7, 3) := by decide +kernel
set_option maxRecDepth 20000 in
theorem dX4_rank_77 : decode cX4_rank 77 = .ok (.iconst 1, 1) := by decide +kernel
set_option maxRecDepth 20000 in
theorem dX4_rank_78 : decode cX4_rank 78 = .ok (.goto 4, 3) := by decide +kernel
set_option maxRecDepth 20000 in
theorem dX4_rank_81 : decode cX4_rank 81 = .ok (.iconst 0, 1) := by decide +kernel
set_option maxRecDepth 20000 in
theorem dX4_rank_82 : decode cX4_rank 82 = .ok (.ireturn, 1) := by decide +kernel
set_option maxRecDepth 20000 in
theorem dX4_rank_83 : decode cX4_rank 83 = .ok (.iload 4, 2) := by decide +kernel
set_option maxRecDepth 20000 in
theorem dX4_rank_85 : decode cX4_rank 85 = .ok (.ifCond .eq 10, 3) := by decide +kernel
set_option maxRecDepth 20000 in
theorem dX4_rank_88 : decode cX4_rank 88 = .ok (.iconst 3, 1) := by decide +kernel
set_option maxRecDepth 20000 in
theorem dX4_rank_89 : decode cX4_rank 89 = .ok (.iload 5, 2) := by decide +kernel
set_option maxRecDepth 20000 in
theorem dX4_rank_91 : decode cX4_rank 91 = .ok (.isub, 1) := by decide +kernel
set_option maxRecDepth 20000 in
theorem dX4_rank_92 : decode cX4_rank 92 = .ok (.goto 5, 3) := by decide +kernel
set_option maxRecDepth 20000 in
theorem dX4_rank_95 : decode cX4_rank 95 = .ok (.iload 5, 2) := by decide +kernel
set_option maxRecDepth 20000 in
theorem dX4_rank_97 : decode cX4_rank 97 = .ok (.ireturn, 1) := by decide +kernel
set_option maxRecDepth 20000 in
theorem dX4_rank_98 : decode cX4_rank 98 = .ok (.iload 6, 2) := by decide +kernel
set_option maxRecDepth 20000 in
theorem dX4_rank_100 : decode cX4_rank 100 = .ok (.iconst (-1), 1) := by decide +kernel
set_option maxRecDepth 20000 in
theorem dX4_rank_101 : decode cX4_rank 101 = .ok (.if_icmp .ne 7, 3) := by decide +kernel
set_option maxRecDepth 20000 in
theorem dX4_rank_104 : decode cX4_rank 104 = .ok (.iconst 0, 1) := by decide +kernel
set_option maxRecDepth 20000 in
theorem dX4_rank_105 : decode cX4_rank 105 = .ok (.goto 16, 3) := by decide +kernel
set_option maxRecDepth 20000 in
theorem dX4_rank_108 : decode cX4_rank 108 = .ok (.bipush 16, 2) := by decide +kernel
set_option maxRecDepth 20000 in
theorem dX4_rank_110 : decode cX4_rank 110 = .ok (.aload_n 0, 1) := by decide +kernel
set_option maxRecDepth 20000 in
theorem dX4_rank_111 : decode cX4_rank 111 = .ok (.getfield 12, 3) := by decide +kernel
set_option maxRecDepth 20000 in
theorem dX4_rank_114 : decode cX4_rank 114 = .ok (.iload_n 2, 1) := by decide +kernel
set_option maxRecDepth 20000 in
theorem dX4_rank_115 : decode cX4_rank 115 = .ok (.iload 6, 2) := by decide +kernel
set_option maxRecDepth 20000 in
theorem dX4_rank_117 : decode cX4_rank 117 = .ok (.invokevirtual 42, 3) := by decide +kernel
set_option maxRecDepth 20000 in
theorem dX4_rank_120 : decode cX4_rank 120 = .ok (.isub, 1) := by decide +kernel
set_option maxRecDepth 20000 in
theorem dX4_rank_121 : decode cX4_rank 121 = .ok (.ireturn, 1) := by decide +kernel
set_option maxRecDepth 20000 in
theorem dX4_rank_122 : decode cX4_rank 122 = .ok (.aload_n 0, 1) := by decide +kernel
set_option maxRecDepth 20000 in
theorem dX4_rank_123 : decode cX4_rank 123 = .ok (.getfield 23, 3) := by decide +kernel
set_option maxRecDepth 20000 in
theorem dX4_rank_126 : decode cX4_rank 126 = .ok (.iload_n 1, 1) := by decide +kernel
set_option maxRecDepth 20000 in
theorem dX4_rank_127 : decode cX4_rank 127 = .ok (.invokevirtual 45, 3) := by decide +kernel
set_option maxRecDepth 20000 in
theorem dX4_rank_130 : decode cX4_rank 130 = .ok (.ireturn, 1) := by decide +kernel
set_option maxRecDepth 20000 in
theorem dX4_rank_131 : decode cX4_rank 131 = .ok (.iload_n 1, 1) := by decide +kernel
set_option maxRecDepth 20000 in
theorem dX4_rank_132 : decode cX4_rank 132 = .ok (.ireturn, 1) := by decide +kernel
set_option maxRecDepth 20000 in
theorem dX4_strength_0 : decode cX4_strength 0 = .ok (.aload_n 0, 1) := by decide +kernel
set_option maxRecDepth 20000 in
theorem dX4_strength_1 : decode cX4_strength 1 = .ok (.iload_n 1, 1) := by decide +kernel
set_option maxRecDepth 20000 in
theorem dX4_strength_2 : decode cX4_strength 2 = .ok (.iload_n 2, 1) := by decide +kernel
set_option maxRecDepth 20000 in
theorem dX4_strength_3 : decode cX4_strength 3 = .ok (.invokevirtual 48, 3) := by decide +kernel
set_option maxRecDepth 20000 in
theorem dX4_strength_6 : decode cX4_strength 6 = .ok (.ifCond .ne 5, 3) := by decide +kernel
set_option maxRecDepth 20000 in
theorem dX4_strength_9 : decode cX4_strength 9 = .ok (.iconst (-1), 1) := by decide +kernel
set_option maxRecDepth 20000 in
theorem dX4_strength_10 : decode cX4_strength 10 = .ok (.ireturn, 1) := by decide +kernel
set_option maxRecDepth 20000 in
theorem dX4_strength_11 : decode cX4_strength 11 = .ok (.iconst 0, 1) := by decide +kernel
set_option maxRecDepth 20000 in
theorem dX4_strength_12 : decode cX4_strength 12 = .ok (.istore_n 3, 1) := by decide +kernel
set_option maxRecDepth 20000 in
theorem dX4_strength_13 : decode cX4_strength 13 = .ok (.iconst 1, 1) := by decide +kernel
set_option maxRecDepth 20000 in
theorem dX4_strength_14 : decode cX4_strength 14 = .ok (.istore 4, 2) := by decide +kernel
set_option maxRecDepth 20000 in
theorem dX4_strength_16 : decode cX4_strength 16 = .ok (.iload 4, 2) := by decide +kernel
set_option maxRecDepth 20000 in
theorem dX4_strength_18 : decode cX4_strength 18 = .ok (.iconst 5, 1) := by decide +kernel
set_option maxRecDepth 20000 in
theorem dX4_strength_19 : decode cX4_strength 19 = .ok (.if_icmp .gt 23, 3) := by decide +kernel
set_option maxRecDepth 20000 in
theorem dX4_strength_22 : decode cX4_strength 22 = .ok (.iload_n 3, 1) := by decide +kernel
set_option maxRecDepth 20000 in
theorem dX4_strength_23 : decode cX4_strength 23 = .ok (.bipush 64, 2) := by decide +kernel
set_option maxRecDepth 20000 in
theorem dX4_strength_25 : decode cX4_strength 25 = .ok (.imul, 1) := by decide +kernel
set_option maxRecDepth 20000 in
theorem dX4_strength_26 : decode cX4_strength 26 = .ok (.aload_n 0, 1) := by decide +kernel
set_option maxRecDepth 20000 in
theorem dX4_strength_27 : decode cX4_strength 27 = .ok (.iload_n 1, 1) := by decide +kernel
set_option maxRecDepth 20000 in
theorem dX4_strength_28 : decode cX4_strength 28 = .ok (.iload_n 2, 1) := by decide +kernel
set_option maxRecDepth 20000 in
theorem dX4_strength_29 : decode cX4_strength 29 = .ok (.iload 4, 2) := by decide +kernel
set_option maxRecDepth 20000 in
theorem dX4_strength_31 : decode cX4_strength 31 = .ok (.invokevirtual 51, 3) := by decide +kernel
set_option maxRecDepth 20000 in
theorem dX4_strength_34 : decode cX4_strength 34 = .ok (.iadd, 1) := by decide +kernel
set_option maxRecDepth 20000 in
theorem dX4_strength_35 : decode cX4_strength 35 = .ok (.istore_n 3, 1) := by decide +kernel
set_option maxRecDepth 20000 in
theorem dX4_strength_36 : decode cX4_strength 36 = .ok (.iinc 4 1, 3) := by decide +kernel
set_option maxRecDepth 20000 in
theorem dX4_strength_39 : decode cX4_strength 39 = .ok (.goto (-23), 3) := by decide +kernel
set_option maxRecDepth 20000 in
theorem dX4_strength_42 : decode cX4_strength 42 = .ok (.iload_n 3, 1) := by decide +kernel
set_option maxRecDepth 20000 in
theorem dX4_strength_43 : decode cX4_strength 43 = .ok (.ireturn, 1) := by decide +kernel
set_option maxRecDepth 20000 in
theorem dX4_criterion_0 : decode cX4_criterion 0 = .ok (.iconst 1, 1) := by decide +kernel
set_option maxRecDepth 20000 in
theorem dX4_criterion_1 : decode cX4_criterion 1 = .ok (.istore 4, 2) := by decide +kernel
set_option maxRecDepth 20000 in
theorem dX4_criterion_3 : decode cX4_criterion 3 = .ok (.iload 4, 2) := by decide +kernel
set_option maxRecDepth 20000 in
theorem dX4_criterion_5 : decode cX4_criterion 5 = .ok (.iconst 5, 1) := by decide +kernel
set_option maxRecDepth 20000 in
theorem dX4_criterion_6 : decode cX4_criterion 6 = .ok (.if_icmp .ge 31, 3) := by decide +kernel
set_option maxRecDepth 20000 in
theorem dX4_criterion_9 : decode cX4_criterion 9 = .ok (.aload_n 0, 1) := by decide +kernel
set_option maxRecDepth 20000 in
theorem dX4_criterion_10 : decode cX4_criterion 10 = .ok (.iload_n 1, 1) := by decide +kernel
set_option maxRecDepth 20000 in
theorem dX4_criterion_11 : decode cX4_criterion 11 = .ok (.iload_n 3, 1) := by decide +kernel
set_option maxRecDepth 20000 in
theorem dX4_criterion_12 : decode cX4_criterion 12 = .ok (.iload 4, 2) := by decide +kernel
set_option maxRecDepth 20000 in
theorem dX4_criterion_14 : decode cX4_criterion 14 = .ok (.invokevirtual 51, 3) := by decide +kernel
set_option maxRecDepth 20000 in
theorem dX4_criterion_17 : decode cX4_criterion 17 = .ok (.aload_n 0, 1) := by decide +kernel
set_option maxRecDepth 20000 in
theorem dX4_criterion_18 : decode cX4_criterion 18 = .ok (.iload_n 2, 1) := by decide +kernel
set_option maxRecDepth 20000 in
theorem dX4_criterion_19 : decode cX4_criterion 19 = .ok (.iload_n 3, 1) := by decide +kernel
set_option maxRecDepth 20000 in
theorem dX4_criterion_20 : decode cX4_criterion 20 = .ok (.iload 4, 2) := by decide +kernel
set_option maxRecDepth 20000 in
theorem dX4_criterion_22 : decode cX4_criterion 22 = .ok (.invokevirtual 51, 3) := by decide +kernel
set_option maxRecDepth 20000 in
theorem dX4_criterion_25 : decode cX4_criterion 25 = .ok (.if_icmp .eq 6, 3) := by decide +kernel
set_option maxRecDepth 20000 in
theorem dX4_criterion_28 : decode cX4_criterion 28 = .ok (.iload 4, 2) := by decide +kernel
set_option maxRecDepth 20000 in
theorem dX4_criterion_30 : decode cX4_criterion 30 = .ok (.ireturn, 1) := by decide +kernel
set_option maxRecDepth 20000 in
theorem dX4_criterion_31 : decode cX4_criterion 31 = .ok (.iinc 4 1, 3) := by decide +kernel
set_option maxRecDepth 20000 in
theorem dX4_criterion_34 : decode cX4_criterion 34 = .ok (.goto (-31), 3) := by decide +kernel
set_option maxRecDepth 20000 in
theorem dX4_criterion_37 : decode cX4_criterion 37 = .ok (.iconst 5, 1) := by decide +kernel
set_option maxRecDepth 20000 in
theorem dX4_criterion_38 : decode cX4_criterion 38 = .ok (.ireturn, 1) := by decide +kernel
set_option maxRecDepth 20000 in
theorem dX4_copy_0 : decode cX4_copy 0 = .ok (.aload_n 1, 1) := by decide +kernel
set_option maxRecDepth 20000 in
theorem dX4_copy_1 : decode cX4_copy 1 = .ok (.ifnull 25, 3) := by decide +kernel
set_option maxRecDepth 20000 in
theorem dX4_copy_4 : decode cX4_copy 4 = .ok (.aload_n 0, 1) := by decide +kernel
set_option maxRecDepth 20000 in
theorem dX4_copy_5 : decode cX4_copy 5 = .ok (.getfield 12, 3) := by decide +kernel
set_option maxRecDepth 20000 in
theorem dX4_copy_8 : decode cX4_copy 8 = .ok (.aload_n 1, 1) := by decide +kernel
set_option maxRecDepth 20000 in
theorem dX4_copy_9 : decode cX4_copy 9 = .ok (.getfield 12, 3) := by decide +kernel
set_option maxRecDepth 20000 in
theorem dX4_copy_12 : decode cX4_copy 12 = .ok (.invokevirtual 55, 3) := by decide +kernel
set_option maxRecDepth 20000 in
theorem dX4_copy_15 : decode cX4_copy 15 = .ok (.aload_n 0, 1) := by decide +kernel
set_option maxRecDepth 20000 in
theorem dX4_copy_16 : decode cX4_copy 16 = .ok (.getfield 23, 3) := by decide +kernel
set_option maxRecDepth 20000 in
theorem dX4_copy_19 : decode cX4_copy 19 = .ok (.aload_n 1, 1) := by decide +kernel
set_option maxRecDepth 20000 in
theorem dX4_copy_20 : decode cX4_copy 20 = .ok (.getfield 23, 3) := by decide +kernel
set_option maxRecDepth 20000 in
theorem dX4_copy_23 : decode cX4_copy 23 = .ok (.invokevirtual 59, 3) := by decide +kernel
set_option maxRecDepth 20000 in
theorem dX4_copy_26 : decode cX4_copy 26 = .ok (.return_, 1) := by decide +kernel
set_option maxRecDepth 20000 in
theorem dX5_init_0 : decode cX5_init 0 = .ok (.aload_n 0, 1) := by decide +kernel
set_option maxRecDepth 20000 in
theorem dX5_init_1 : decode cX5_init 1 = .ok (.invokespecial 3, 3) := by decide +kernel
set_option maxRecDepth 20000 in
theorem dX5_init_4 : decode cX5_init 4 = .ok (.aload_n 0, 1) := by decide +kernel
set_option maxRecDepth 20000 in
theorem dX5_init_5 : decode cX5_init 5 = .ok (.new 9, 3) := by decide +kernel
set_option maxRecDepth 20000 in
theorem dX5_init_8 : decode cX5_init 8 = .ok (.dup, 1) := by decide +kernel
set_option maxRecDepth 20000 in
theorem dX5_init_9 : decode cX5_init 9 = .ok (.bipush 80, 2) := by decide +kernel
set_option maxRecDepth 20000 in
theorem dX5_init_11 : decode cX5_init 11 = .ok (.invokespecial 11, 3) := by decide +kernel
set_option maxRecDepth 20000 in
theorem dX5_init_14 : decode cX5_init 14 = .ok (.putfield 14, 3) := by decide +kernel
set_option maxRecDepth 20000 in
theorem dX5_init_17 : decode cX5_init 17 = .ok (.aload_n 0, 1) := by decide +kernel
set_option maxRecDepth 20000 in
theorem dX5_init_18 : decode cX5_init 18 = .ok (.new 20, 3) := by decide +kernel
set_option maxRecDepth 20000 in
theorem dX5_init_21 : decode cX5_init 21 = .ok (.dup, 1) := by decide +kernel
set_option maxRecDepth 20000 in
theorem dX5_init_22 : decode cX5_init 22 = .ok (.iconst 1, 1) := by decide +kernel
set_option maxRecDepth 20000 in
theorem dX5_init_23 : decode cX5_init 23 = .ok (.invokespecial 22, 3) := by decide +kernel
set_option maxRecDepth 20000 in
theorem dX5_init_26 : decode cX5_init 26 = .ok (.putfield 23, 3) := by decide +kernel
set_option maxRecDepth 20000 in
theorem dX5_init_29 : decode cX5_init 29 = .ok (.return_, 1) := by decide +kernel
set_option maxRecDepth 20000 in
theorem dX5_length_0 : decode cX5_length 0 = .ok (.aload_n 0, 1) := by decide +kernel
set_option maxRecDepth 20000 in
theorem dX5_length_1 : decode cX5_length 1 = .ok (.getfield 27, 3) := by decide +kernel
set_option maxRecDepth 20000 in
theorem dX5_length_4 : decode cX5_length 4 = .ok (.ireturn, 1) := by decide +kernel
set_option maxRecDepth 20000 in
theorem dX5_draft_0 : decode cX5_draft 0 = .ok (.aload_n 0, 1) := by decide +kernel
set_option maxRecDepth 20000 in
theorem dX5_draft_1 : decode cX5_draft 1 = .ok (.getfield 23, 3) := by decide +kernel
set_option maxRecDepth 20000 in
theorem dX5_draft_4 : decode cX5_draft 4 = .ok (.areturn, 1) := by decide +kernel
set_option maxRecDepth 20000 in
theorem dX5_append_0 : decode cX5_append 0 = .ok (.aload_n 0, 1) := by decide +kernel
set_option maxRecDepth 20000 in
theorem dX5_append_1 : decode cX5_append 1 = .ok (.getfield 14, 3) := by decide +kernel
set_option maxRecDepth 20000 in
theorem dX5_append_4 : decode cX5_append 4 = .ok (.aload_n 0, 1) := by decide +kernel
set_option maxRecDepth 20000 in
theorem dX5_append_5 : decode cX5_append 5 = .ok (.getfield 27, 3) := by decide +kernel
set_option maxRecDepth 20000 in
theorem dX5_append_8 : decode cX5_append 8 = .ok (.iload_n 1, 1) := by decide +kernel
set_option maxRecDepth 20000 in
theorem dX5_append_9 : decode cX5_append 9 = .ok (.invokevirtual 31, 3) := by decide +kernel
set_option maxRecDepth 20000 in
theorem dX5_append_12 : decode cX5_append 12 = .ok (.aload_n 0, 1) := by decide +kernel
set_option maxRecDepth 20000 in
theorem dX5_append_13 : decode cX5_append 13 = .ok (.dup, 1) := by decide +kernel
set_option maxRecDepth 20000 in
theorem dX5_append_14 : decode cX5_append 14 = .ok (.getfield 27, 3) := by decide +kernel
set_option maxRecDepth 20000 in
theorem dX5_append_17 : decode cX5_append 17 = .ok (.iconst 1, 1) := by decide +kernel
set_option maxRecDepth 20000 in
theorem dX5_append_18 : decode cX5_append 18 = .ok (.iadd, 1) := by decide +kernel
set_option maxRecDepth 20000 in
theorem dX5_append_19 : decode cX5_append 19 = .ok (.putfield 27, 3) := by decide +kernel
set_option maxRecDepth 20000 in
theorem dX5_append_22 : decode cX5_append 22 = .ok (.aload_n 0, 1) := by decide +kernel
set_option maxRecDepth 20000 in
theorem dX5_append_23 : decode cX5_append 23 = .ok (.getfield 27, 3) := by decide +kernel
set_option maxRecDepth 20000 in
theorem dX5_append_26 : decode cX5_append 26 = .ok (.ireturn, 1) := by decide +kernel
set_option maxRecDepth 20000 in
theorem dX5_empty_0 : decode cX5_empty 0 = .ok (.aload_n 0, 1) := by decide +kernel
set_option maxRecDepth 20000 in
theorem dX5_empty_1 : decode cX5_empty 1 = .ok (.getfield 27, 3) := by decide +kernel
set_option maxRecDepth 20000 in
theorem dX5_empty_4 : decode cX5_empty 4 = .ok (.istore_n 1, 1) := by decide +kernel
set_option maxRecDepth 20000 in
theorem dX5_empty_5 : decode cX5_empty 5 = .ok (.aload_n 0, 1) := by decide +kernel
set_option maxRecDepth 20000 in
theorem dX5_empty_6 : decode cX5_empty 6 = .ok (.iconst 0, 1) := by decide +kernel
set_option maxRecDepth 20000 in
theorem dX5_empty_7 : decode cX5_empty 7 = .ok (.putfield 27, 3) := by decide +kernel
set_option maxRecDepth 20000 in
theorem dX5_empty_10 : decode cX5_empty 10 = .ok (.iload_n 1, 1) := by decide +kernel
set_option maxRecDepth 20000 in
theorem dX5_empty_11 : decode cX5_empty 11 = .ok (.ireturn, 1) := by decide +kernel
set_option maxRecDepth 20000 in
theorem dX5_parse_0 : decode cX5_parse 0 = .ok (.aload_n 0, 1) := by decide +kernel
set_option maxRecDepth 20000 in
theorem dX5_parse_1 : decode cX5_parse 1 = .ok (.iconst 0, 1) := by decide +kernel
set_option maxRecDepth 20000 in
theorem dX5_parse_2 : decode cX5_parse 2 = .ok (.putfield 35, 3) := by decide +kernel
set_option maxRecDepth 20000 in
theorem dX5_parse_5 : decode cX5_parse 5 = .ok (.aload_n 0, 1) := by decide +kernel
set_option maxRecDepth 20000 in
theorem dX5_parse_6 : decode cX5_parse 6 = .ok (.iconst (-1), 1) := by decide +kernel
set_option maxRecDepth 20000 in
theorem dX5_parse_7 : decode cX5_parse 7 = .ok (.putfield 38, 3) := by decide +kernel
set_option maxRecDepth 20000 in
theorem dX5_parse_10 : decode cX5_parse 10 = .ok (.aload_n 0, 1) := by decide +kernel
set_option maxRecDepth 20000 in
theorem dX5_parse_11 : decode cX5_parse 11 = .ok (.iconst (-1), 1) := by decide +kernel
set_option maxRecDepth 20000 in
theorem dX5_parse_12 : decode cX5_parse 12 = .ok (.putfield 41, 3) := by decide +kernel
set_option maxRecDepth 20000 in
theorem dX5_parse_15 : decode cX5_parse 15 = .ok (.aload_n 0, 1) := by decide +kernel
set_option maxRecDepth 20000 in
theorem dX5_parse_16 : decode cX5_parse 16 = .ok (.getfield 23, 3) := by decide +kernel
set_option maxRecDepth 20000 in
theorem dX5_parse_19 : decode cX5_parse 19 = .ok (.invokevirtual 44, 3) := by decide +kernel
set_option maxRecDepth 20000 in
theorem dX5_parse_22 : decode cX5_parse 22 = .ok (.aload_n 0, 1) := by decide +kernel
set_option maxRecDepth 20000 in
theorem dX5_parse_23 : decode cX5_parse 23 = .ok (.iload_n 1, 1) := by decide +kernel
set_option maxRecDepth 20000 in
theorem dX5_parse_24 : decode cX5_parse 24 = .ok (.invokevirtual 47, 3) := by decide +kernel
set_option maxRecDepth 20000 in
theorem dX5_parse_27 : decode cX5_parse 27 = .ok (.aload_n 0, 1) := by decide +kernel
set_option maxRecDepth 20000 in
theorem dX5_parse_28 : decode cX5_parse 28 = .ok (.invokevirtual 50, 3) := by decide +kernel
set_option maxRecDepth 20000 in
theorem dX5_parse_31 : decode cX5_parse 31 = .ok (.aload_n 0, 1) := by decide +kernel
set_option maxRecDepth 20000 in
theorem dX5_parse_32 : decode cX5_parse 32 = .ok (.getfield 38, 3) := by decide +kernel
set_option maxRecDepth 20000 in
theorem dX5_parse_35 : decode cX5_parse 35 = .ok (.aload_n 0, 1) := by decide +kernel
set_option maxRecDepth 20000 in
theorem dX5_parse_36 : decode cX5_parse 36 = .ok (.getfield 41, 3) := by decide +kernel
set_option maxRecDepth 20000 in
theorem dX5_parse_39 : decode cX5_parse 39 = .ok (.invokestatic 53, 3) := by decide +kernel
set_option maxRecDepth 20000 in
theorem dX5_parse_42 : decode cX5_parse 42 = .ok (.ireturn, 1) := by decide +kernel
set_option maxRecDepth 20000 in
theorem dX5_parseHead_0 : decode cX5_parseHead 0 = .ok (.aload_n 0, 1) := by decide +kernel
set_option maxRecDepth 20000 in
theorem dX5_parseHead_1 : decode cX5_parseHead 1 = .ok (.bipush 107, 2) := by decide +kernel
set_option maxRecDepth 20000 in
theorem dX5_parseHead_3 : decode cX5_parseHead 3 = .ok (.iconst 1, 1) := by decide +kernel
set_option maxRecDepth 20000 in
theorem dX5_parseHead_4 : decode cX5_parseHead 4 = .ok (.iconst 5, 1) := by decide +kernel
set_option maxRecDepth 20000 in
theorem dX5_parseHead_5 : decode cX5_parseHead 5 = .ok (.iconst (-1), 1) := by decide +kernel
set_option maxRecDepth 20000 in
theorem dX5_parseHead_6 : decode cX5_parseHead 6 = .ok (.invokevirtual 57, 3) := by decide +kernel
set_option maxRecDepth 20000 in
theorem dX5_parseHead_9 : decode cX5_parseHead 9 = .ok (.istore_n 2, 1) := by decide +kernel
set_option maxRecDepth 20000 in
theorem dX5_parseHead_10 : decode cX5_parseHead 10 = .ok (.aload_n 0, 1) := by decide +kernel
set_option maxRecDepth 20000 in
theorem dX5_parseHead_11 : decode cX5_parseHead 11 = .ok (.bipush 46, 2) := by decide +kernel
set_option maxRecDepth 20000 in
theorem dX5_parseHead_13 : decode cX5_parseHead 13 = .ok (.iconst 2, 1) := by decide +kernel
set_option maxRecDepth 20000 in
theorem dX5_parseHead_14 : decode cX5_parseHead 14 = .ok (.bipush 15, 2) := by decide +kernel
set_option maxRecDepth 20000 in
theorem dX5_parseHead_16 : decode cX5_parseHead 16 = .ok (.iconst 0, 1) := by decide +kernel
set_option maxRecDepth 20000 in
theorem dX5_parseHead_17 : decode cX5_parseHead 17 = .ok (.invokevirtual 57, 3) := by decide +kernel
set_option maxRecDepth 20000 in
theorem dX5_parseHead_20 : decode cX5_parseHead 20 = .ok (.istore_n 3, 1) := by decide +kernel
set_option maxRecDepth 20000 in
theorem dX5_parseHead_21 : decode cX5_parseHead 21 = .ok (.aload_n 0, 1) := by decide +kernel
set_option maxRecDepth 20000 in
theorem dX5_parseHead_22 : decode cX5_parseHead 22 = .ok (.bipush 60, 2) := by decide +kernel
set_option maxRecDepth 20000 in
theorem dX5_parseHead_24 : decode cX5_parseHead 24 = .ok (.iconst 1, 1) := by decide +kernel
set_option maxRecDepth 20000 in
theorem dX5_parseHead_25 : decode cX5_parseHead 25 = .ok (.iconst 5, 1) := by decide +kernel
set_option maxRecDepth 20000 in
theorem dX5_parseHead_26 : decode cX5_parseHead 26 = .ok (.iconst (-1), 1) := by decide +kernel
set_option maxRecDepth 20000 in
theorem dX5_parseHead_27 : decode cX5_parseHead 27 = .ok (.invokevirtual 57, 3) := by decide +kernel
set_option maxRecDepth 20000 in
theorem dX5_parseHead_30 : decode cX5_parseHead 30 = .ok (.istore 4, 2) := by decide +kernel
set_option maxRecDepth 20000 in
theorem dX5_parseHead_32 : decode cX5_parseHead 32 = .ok (.aload_n 0, 1) := by decide +kernel
set_option maxRecDepth 20000 in
theorem dX5_parseHead_33 : decode cX5_parseHead 33 = .ok (.bipush 64, 2) := by decide +kernel
set_option maxRecDepth 20000 in
theorem dX5_parseHead_35 : decode cX5_parseHead 35 = .ok (.iconst 2, 1) := by decide +kernel
set_option maxRecDepth 20000 in
theorem dX5_parseHead_36 : decode cX5_parseHead 36 = .ok (.iload_n 1, 1) := by decide +kernel
set_option maxRecDepth 20000 in
theorem dX5_parseHead_37 : decode cX5_parseHead 37 = .ok (.iconst 1, 1) := by decide +kernel
set_option maxRecDepth 20000 in
theorem dX5_parseHead_38 : decode cX5_parseHead 38 = .ok (.isub, 1) := by decide +kernel
set_option maxRecDepth 20000 in
theorem dX5_parseHead_39 : decode cX5_parseHead 39 = .ok (.iconst (-1), 1) := by decide +kernel
set_option maxRecDepth 20000 in
theorem dX5_parseHead_40 : decode cX5_parseHead 40 = .ok (.invokevirtual 57, 3) := by decide +kernel
set_option maxRecDepth 20000 in
theorem dX5_parseHead_43 : decode cX5_parseHead 43 = .ok (.istore 5, 2) := by decide +kernel
set_option maxRecDepth 20000 in
theorem dX5_parseHead_45 : decode cX5_parseHead 45 = .ok (.aload_n 0, 1) := by decide +kernel
set_option maxRecDepth 20000 in
theorem dX5_parseHead_46 : decode cX5_parseHead 46 = .ok (.bipush 76, 2) := by decide +kernel
set_option maxRecDepth 20000 in
theorem dX5_parseHead_48 : decode cX5_parseHead 48 = .ok (.iconst 1, 1) := by decide +kernel
set_option maxRecDepth 20000 in
theorem dX5_parseHead_49 : decode cX5_parseHead 49 = .ok (.iconst 3, 1) := by decide +kernel
set_option maxRecDepth 20000 in
theorem dX5_parseHead_50 : decode cX5_parseHead 50 = .ok (.iconst 0, 1) := by decide +kernel
set_option maxRecDepth 20000 in
theorem dX5_parseHead_51 : decode cX5_parseHead 51 = .ok (.invokevirtual 57, 3) := by decide +kernel
set_option maxRecDepth 20000 in
theorem dX5_parseHead_54 : decode cX5_parseHead 54 = .ok (.istore 6, 2) := by decide +kernel
set_option maxRecDepth 20000 in
theorem dX5_parseHead_56 : decode cX5_parseHead 56 = .ok (.aload_n 0, 1) := by decide +kernel
set_option maxRecDepth 20000 in
theorem dX5_parseHead_57 : decode cX5_parseHead 57 = .ok (.bipush 33, 2) := by decide +kernel
set_option maxRecDepth 20000 in
theorem dX5_parseHead_59 : decode cX5_parseHead 59 = .ok (.invokevirtual 61, 3) := by decide +kernel
set_option maxRecDepth 20000 in
theorem dX5_parseHead_62 : decode cX5_parseHead 62 = .ok (.ifCond .eq 7, 3) := by decide +kernel
set_option maxRecDepth 20000 in
theorem dX5_parseHead_65 : decode cX5_parseHead 65 = .ok (.iconst 1, 1) := by decide +kernel
set_option maxRecDepth 20000 in
theorem dX5_parseHead_66 : decode cX5_parseHead 66 = .ok (.goto 4, 3) := by decide +kernel
set_option maxRecDepth 20000 in
theorem dX5_parseHead_69 : decode cX5_parseHead 69 = .ok (.iconst 0, 1) := by decide +kernel
end
section
set_option maxRecDepth 20000 in
theorem dX5_parseHead_70 : decode cX5_parseHead 70 = .ok (.istore 7, 2) := by decide +kernel
set_option maxRecDepth 20000 in
theorem dX5_parseHead_72 : decode cX5_parseHead 72 = .ok (.aload_n 0, 1) := by decide +kernel
set_option maxRecDepth 20000 in
theorem dX5_parseHead_73 : decode cX5_parseHead 73 = .ok (.getfield 23, 3) := by decide +kernel
set_option maxRecDepth 20000 in
theorem dX5_parseHead_76 : decode cX5_parseHead 76 = .ok (.iload_n 2, 1) := by decide +kernel
set_option maxRecDepth 20000 in
theorem dX5_parseHead_77 : decode cX5_parseHead 77 = .ok (.iload_n 3, 1) := by decide +kernel
set_option maxRecDepth 20000 in
theorem dX5_parseHead_78 : decode cX5_parseHead 78 = .ok (.iload 4, 2) := by decide +kernel
set_option maxRecDepth 20000 in
theorem dX5_parseHead_80 : decode cX5_parseHead 80 = .ok (.iload 6, 2) := by decide +kernel
set_option maxRecDepth 20000 in
theorem dX5_parseHead_82 : decode cX5_parseHead 82 = .ok (.iload 5, 2) := by decide +kernel
set_option maxRecDepth 20000 in
theorem dX5_parseHead_84 : decode cX5_parseHead 84 = .ok (.iload 7, 2) := by decide +kernel
set_option maxRecDepth 20000 in
theorem dX5_parseHead_86 : decode cX5_parseHead 86 = .ok (.invokevirtual 65, 3) := by decide +kernel
set_option maxRecDepth 20000 in
theorem dX5_parseHead_89 : decode cX5_parseHead 89 = .ok (.pop, 1) := by decide +kernel
set_option maxRecDepth 20000 in
theorem dX5_parseHead_90 : decode cX5_parseHead 90 = .ok (.return_, 1) := by decide +kernel
set_option maxRecDepth 20000 in
theorem dX5_partAfter_0 : decode cX5_partAfter 0 = .ok (.aload_n 0, 1) := by decide +kernel
set_option maxRecDepth 20000 in
theorem dX5_partAfter_1 : decode cX5_partAfter 1 = .ok (.iload_n 1, 1) := by decide +kernel
set_option maxRecDepth 20000 in
theorem dX5_partAfter_2 : decode cX5_partAfter 2 = .ok (.invokevirtual 61, 3) := by decide +kernel
set_option maxRecDepth 20000 in
theorem dX5_partAfter_5 : decode cX5_partAfter 5 = .ok (.ifCond .eq 13, 3) := by decide +kernel
set_option maxRecDepth 20000 in
theorem dX5_partAfter_8 : decode cX5_partAfter 8 = .ok (.aload_n 0, 1) := by decide +kernel
set_option maxRecDepth 20000 in
theorem dX5_partAfter_9 : decode cX5_partAfter 9 = .ok (.iload_n 2, 1) := by decide +kernel
set_option maxRecDepth 20000 in
theorem dX5_partAfter_10 : decode cX5_partAfter 10 = .ok (.iconst 0, 1) := by decide +kernel
set_option maxRecDepth 20000 in
theorem dX5_partAfter_11 : decode cX5_partAfter 11 = .ok (.iload_n 3, 1) := by decide +kernel
set_option maxRecDepth 20000 in
theorem dX5_partAfter_12 : decode cX5_partAfter 12 = .ok (.invokevirtual 69, 3) := by decide +kernel
set_option maxRecDepth 20000 in
theorem dX5_partAfter_15 : decode cX5_partAfter 15 = .ok (.goto 5, 3) := by decide +kernel
set_option maxRecDepth 20000 in
theorem dX5_partAfter_18 : decode cX5_partAfter 18 = .ok (.iload 4, 2) := by decide +kernel
set_option maxRecDepth 20000 in
theorem dX5_partAfter_20 : decode cX5_partAfter 20 = .ok (.ireturn, 1) := by decide +kernel
set_option maxRecDepth 20000 in
theorem dX5_parseBody_0 : decode cX5_parseBody 0 = .ok (.aload_n 0, 1) := by decide +kernel
set_option maxRecDepth 20000 in
theorem dX5_parseBody_1 : decode cX5_parseBody 1 = .ok (.bipush 123, 2) := by decide +kernel
set_option maxRecDepth 20000 in
theorem dX5_parseBody_3 : decode cX5_parseBody 3 = .ok (.invokevirtual 73, 3) := by decide +kernel
set_option maxRecDepth 20000 in
theorem dX5_parseBody_6 : decode cX5_parseBody 6 = .ok (.iconst 0, 1) := by decide +kernel
set_option maxRecDepth 20000 in
theorem dX5_parseBody_7 : decode cX5_parseBody 7 = .ok (.istore_n 1, 1) := by decide +kernel
set_option maxRecDepth 20000 in
theorem dX5_parseBody_8 : decode cX5_parseBody 8 = .ok (.iconst 0, 1) := by decide +kernel
set_option maxRecDepth 20000 in
theorem dX5_parseBody_9 : decode cX5_parseBody 9 = .ok (.istore_n 2, 1) := by decide +kernel
set_option maxRecDepth 20000 in
theorem dX5_parseBody_10 : decode cX5_parseBody 10 = .ok (.iload_n 2, 1) := by decide +kernel
set_option maxRecDepth 20000 in
theorem dX5_parseBody_11 : decode cX5_parseBody 11 = .ok (.bipush 80, 2) := by decide +kernel
set_option maxRecDepth 20000 in
theorem dX5_parseBody_13 : decode cX5_parseBody 13 = .ok (.if_icmp .ge 36, 3) := by decide +kernel
set_option maxRecDepth 20000 in
theorem dX5_parseBody_16 : decode cX5_parseBody 16 = .ok (.aload_n 0, 1) := by decide +kernel
set_option maxRecDepth 20000 in
theorem dX5_parseBody_17 : decode cX5_parseBody 17 = .ok (.getfield 38, 3) := by decide +kernel
set_option maxRecDepth 20000 in
theorem dX5_parseBody_20 : decode cX5_parseBody 20 = .ok (.iconst (-1), 1) := by decide +kernel
set_option maxRecDepth 20000 in
theorem dX5_parseBody_21 : decode cX5_parseBody 21 = .ok (.if_icmp .ne 28, 3) := by decide +kernel
set_option maxRecDepth 20000 in
theorem dX5_parseBody_24 : decode cX5_parseBody 24 = .ok (.iload_n 1, 1) := by decide +kernel
set_option maxRecDepth 20000 in
theorem dX5_parseBody_25 : decode cX5_parseBody 25 = .ok (.ifCond .ne 24, 3) := by decide +kernel
set_option maxRecDepth 20000 in
theorem dX5_parseBody_28 : decode cX5_parseBody 28 = .ok (.aload_n 0, 1) := by decide +kernel
set_option maxRecDepth 20000 in
theorem dX5_parseBody_29 : decode cX5_parseBody 29 = .ok (.bipush 125, 2) := by decide +kernel
set_option maxRecDepth 20000 in
theorem dX5_parseBody_31 : decode cX5_parseBody 31 = .ok (.invokevirtual 61, 3) := by decide +kernel
set_option maxRecDepth 20000 in
theorem dX5_parseBody_34 : decode cX5_parseBody 34 = .ok (.istore_n 1, 1) := by decide +kernel
set_option maxRecDepth 20000 in
theorem dX5_parseBody_35 : decode cX5_parseBody 35 = .ok (.iload_n 1, 1) := by decide +kernel
set_option maxRecDepth 20000 in
theorem dX5_parseBody_36 : decode cX5_parseBody 36 = .ok (.ifCond .ne 7, 3) := by decide +kernel
set_option maxRecDepth 20000 in
theorem dX5_parseBody_39 : decode cX5_parseBody 39 = .ok (.aload_n 0, 1) := by decide +kernel
set_option maxRecDepth 20000 in
theorem dX5_parseBody_40 : decode cX5_parseBody 40 = .ok (.invokevirtual 77, 3) := by decide +kernel
set_option maxRecDepth 20000 in
theorem dX5_parseBody_43 : decode cX5_parseBody 43 = .ok (.iinc 2 1, 3) := by decide +kernel
set_option maxRecDepth 20000 in
theorem dX5_parseBody_46 : decode cX5_parseBody 46 = .ok (.goto (-36), 3) := by decide +kernel
set_option maxRecDepth 20000 in
theorem dX5_parseBody_49 : decode cX5_parseBody 49 = .ok (.aload_n 0, 1) := by decide +kernel
set_option maxRecDepth 20000 in
theorem dX5_parseBody_50 : decode cX5_parseBody 50 = .ok (.getfield 35, 3) := by decide +kernel
set_option maxRecDepth 20000 in
theorem dX5_parseBody_53 : decode cX5_parseBody 53 = .ok (.aload_n 0, 1) := by decide +kernel
set_option maxRecDepth 20000 in
theorem dX5_parseBody_54 : decode cX5_parseBody 54 = .ok (.getfield 27, 3) := by decide +kernel
set_option maxRecDepth 20000 in
theorem dX5_parseBody_57 : decode cX5_parseBody 57 = .ok (.if_icmp .ge 7, 3) := by decide +kernel
set_option maxRecDepth 20000 in
theorem dX5_parseBody_60 : decode cX5_parseBody 60 = .ok (.aload_n 0, 1) := by decide +kernel
set_option maxRecDepth 20000 in
theorem dX5_parseBody_61 : decode cX5_parseBody 61 = .ok (.invokevirtual 80, 3) := by decide +kernel
set_option maxRecDepth 20000 in
theorem dX5_parseBody_64 : decode cX5_parseBody 64 = .ok (.return_, 1) := by decide +kernel
set_option maxRecDepth 20000 in
theorem dX5_parseDeclaration_0 : decode cX5_parseDeclaration 0 = .ok (.aload_n 0, 1) := by decide +kernel
set_option maxRecDepth 20000 in
theorem dX5_parseDeclaration_1 : decode cX5_parseDeclaration 1 = .ok (.getfield 35, 3) := by decide +kernel
set_option maxRecDepth 20000 in
theorem dX5_parseDeclaration_4 : decode cX5_parseDeclaration 4 = .ok (.istore_n 1, 1) := by decide +kernel
set_option maxRecDepth 20000 in
theorem dX5_parseDeclaration_5 : decode cX5_parseDeclaration 5 = .ok (.aload_n 0, 1) := by decide +kernel
set_option maxRecDepth 20000 in
theorem dX5_parseDeclaration_6 : decode cX5_parseDeclaration 6 = .ok (.iconst 2, 1) := by decide +kernel
set_option maxRecDepth 20000 in
theorem dX5_parseDeclaration_7 : decode cX5_parseDeclaration 7 = .ok (.iconst 0, 1) := by decide +kernel
set_option maxRecDepth 20000 in
theorem dX5_parseDeclaration_8 : decode cX5_parseDeclaration 8 = .ok (.bipush 15, 2) := by decide +kernel
set_option maxRecDepth 20000 in
theorem dX5_parseDeclaration_10 : decode cX5_parseDeclaration 10 = .ok (.invokevirtual 69, 3) := by decide +kernel
set_option maxRecDepth 20000 in
theorem dX5_parseDeclaration_13 : decode cX5_parseDeclaration 13 = .ok (.istore_n 2, 1) := by decide +kernel
set_option maxRecDepth 20000 in
theorem dX5_parseDeclaration_14 : decode cX5_parseDeclaration 14 = .ok (.aload_n 0, 1) := by decide +kernel
set_option maxRecDepth 20000 in
theorem dX5_parseDeclaration_15 : decode cX5_parseDeclaration 15 = .ok (.getfield 23, 3) := by decide +kernel
set_option maxRecDepth 20000 in
theorem dX5_parseDeclaration_18 : decode cX5_parseDeclaration 18 = .ok (.iconst 0, 1) := by decide +kernel
set_option maxRecDepth 20000 in
theorem dX5_parseDeclaration_19 : decode cX5_parseDeclaration 19 = .ok (.iload_n 2, 1) := by decide +kernel
set_option maxRecDepth 20000 in
theorem dX5_parseDeclaration_20 : decode cX5_parseDeclaration 20 = .ok (.invokevirtual 83, 3) := by decide +kernel
set_option maxRecDepth 20000 in
theorem dX5_parseDeclaration_23 : decode cX5_parseDeclaration 23 = .ok (.ifCond .eq 8, 3) := by decide +kernel
set_option maxRecDepth 20000 in
theorem dX5_parseDeclaration_26 : decode cX5_parseDeclaration 26 = .ok (.aload_n 0, 1) := by decide +kernel
set_option maxRecDepth 20000 in
theorem dX5_parseDeclaration_27 : decode cX5_parseDeclaration 27 = .ok (.iload_n 1, 1) := by decide +kernel
set_option maxRecDepth 20000 in
theorem dX5_parseDeclaration_28 : decode cX5_parseDeclaration 28 = .ok (.invokevirtual 87, 3) := by decide +kernel
set_option maxRecDepth 20000 in
theorem dX5_parseDeclaration_31 : decode cX5_parseDeclaration 31 = .ok (.aload_n 0, 1) := by decide +kernel
set_option maxRecDepth 20000 in
theorem dX5_parseDeclaration_32 : decode cX5_parseDeclaration 32 = .ok (.bipush 61, 2) := by decide +kernel
set_option maxRecDepth 20000 in
theorem dX5_parseDeclaration_34 : decode cX5_parseDeclaration 34 = .ok (.invokevirtual 73, 3) := by decide +kernel
set_option maxRecDepth 20000 in
theorem dX5_parseDeclaration_37 : decode cX5_parseDeclaration 37 = .ok (.aload_n 0, 1) := by decide +kernel
set_option maxRecDepth 20000 in
theorem dX5_parseDeclaration_38 : decode cX5_parseDeclaration 38 = .ok (.bipush 36, 2) := by decide +kernel
set_option maxRecDepth 20000 in
theorem dX5_parseDeclaration_40 : decode cX5_parseDeclaration 40 = .ok (.invokevirtual 61, 3) := by decide +kernel
set_option maxRecDepth 20000 in
theorem dX5_parseDeclaration_43 : decode cX5_parseDeclaration 43 = .ok (.ifCond .eq 53, 3) := by decide +kernel
set_option maxRecDepth 20000 in
theorem dX5_parseDeclaration_46 : decode cX5_parseDeclaration 46 = .ok (.aload_n 0, 1) := by decide +kernel
set_option maxRecDepth 20000 in
theorem dX5_parseDeclaration_47 : decode cX5_parseDeclaration 47 = .ok (.iconst 2, 1) := by decide +kernel
set_option maxRecDepth 20000 in
theorem dX5_parseDeclaration_48 : decode cX5_parseDeclaration 48 = .ok (.bipush 8, 2) := by decide +kernel
set_option maxRecDepth 20000 in
theorem dX5_parseDeclaration_50 : decode cX5_parseDeclaration 50 = .ok (.bipush 15, 2) := by decide +kernel
set_option maxRecDepth 20000 in
theorem dX5_parseDeclaration_52 : decode cX5_parseDeclaration 52 = .ok (.invokevirtual 69, 3) := by decide +kernel
set_option maxRecDepth 20000 in
theorem dX5_parseDeclaration_55 : decode cX5_parseDeclaration 55 = .ok (.istore_n 3, 1) := by decide +kernel
set_option maxRecDepth 20000 in
theorem dX5_parseDeclaration_56 : decode cX5_parseDeclaration 56 = .ok (.aload_n 0, 1) := by decide +kernel
set_option maxRecDepth 20000 in
theorem dX5_parseDeclaration_57 : decode cX5_parseDeclaration 57 = .ok (.bipush 47, 2) := by decide +kernel
set_option maxRecDepth 20000 in
theorem dX5_parseDeclaration_59 : decode cX5_parseDeclaration 59 = .ok (.invokevirtual 61, 3) := by decide +kernel
set_option maxRecDepth 20000 in
theorem dX5_parseDeclaration_62 : decode cX5_parseDeclaration 62 = .ok (.ifCond .eq 15, 3) := by decide +kernel
set_option maxRecDepth 20000 in
theorem dX5_parseDeclaration_65 : decode cX5_parseDeclaration 65 = .ok (.aload_n 0, 1) := by decide +kernel
set_option maxRecDepth 20000 in
theorem dX5_parseDeclaration_66 : decode cX5_parseDeclaration 66 = .ok (.iconst 3, 1) := by decide +kernel
set_option maxRecDepth 20000 in
theorem dX5_parseDeclaration_67 : decode cX5_parseDeclaration 67 = .ok (.iconst 0, 1) := by decide +kernel
set_option maxRecDepth 20000 in
theorem dX5_parseDeclaration_68 : decode cX5_parseDeclaration 68 = .ok (.sipush 999, 3) := by decide +kernel
set_option maxRecDepth 20000 in
theorem dX5_parseDeclaration_71 : decode cX5_parseDeclaration 71 = .ok (.invokevirtual 69, 3) := by decide +kernel
set_option maxRecDepth 20000 in
theorem dX5_parseDeclaration_74 : decode cX5_parseDeclaration 74 = .ok (.goto 4, 3) := by decide +kernel
set_option maxRecDepth 20000 in
theorem dX5_parseDeclaration_77 : decode cX5_parseDeclaration 77 = .ok (.iconst (-1), 1) := by decide +kernel
set_option maxRecDepth 20000 in
theorem dX5_parseDeclaration_78 : decode cX5_parseDeclaration 78 = .ok (.istore 4, 2) := by decide +kernel
set_option maxRecDepth 20000 in
theorem dX5_parseDeclaration_80 : decode cX5_parseDeclaration 80 = .ok (.aload_n 0, 1) := by decide +kernel
set_option maxRecDepth 20000 in
theorem dX5_parseDeclaration_81 : decode cX5_parseDeclaration 81 = .ok (.getfield 23, 3) := by decide +kernel
set_option maxRecDepth 20000 in
theorem dX5_parseDeclaration_84 : decode cX5_parseDeclaration 84 = .ok (.iconst 0, 1) := by decide +kernel
set_option maxRecDepth 20000 in
theorem dX5_parseDeclaration_85 : decode cX5_parseDeclaration 85 = .ok (.iload_n 2, 1) := by decide +kernel
set_option maxRecDepth 20000 in
theorem dX5_parseDeclaration_86 : decode cX5_parseDeclaration 86 = .ok (.iconst (-1), 1) := by decide +kernel
set_option maxRecDepth 20000 in
theorem dX5_parseDeclaration_87 : decode cX5_parseDeclaration 87 = .ok (.iload_n 3, 1) := by decide +kernel
set_option maxRecDepth 20000 in
theorem dX5_parseDeclaration_88 : decode cX5_parseDeclaration 88 = .ok (.iload 4, 2) := by decide +kernel
set_option maxRecDepth 20000 in
theorem dX5_parseDeclaration_90 : decode cX5_parseDeclaration 90 = .ok (.invokevirtual 90, 3) := by decide +kernel
set_option maxRecDepth 20000 in
theorem dX5_parseDeclaration_93 : decode cX5_parseDeclaration 93 = .ok (.goto 23, 3) := by decide +kernel
set_option maxRecDepth 20000 in
theorem dX5_parseDeclaration_96 : decode cX5_parseDeclaration 96 = .ok (.aload_n 0, 1) := by decide +kernel
set_option maxRecDepth 20000 in
theorem dX5_parseDeclaration_97 : decode cX5_parseDeclaration 97 = .ok (.getfield 23, 3) := by decide +kernel
set_option maxRecDepth 20000 in
theorem dX5_parseDeclaration_100 : decode cX5_parseDeclaration 100 = .ok (.iconst 0, 1) := by decide +kernel
set_option maxRecDepth 20000 in
theorem dX5_parseDeclaration_101 : decode cX5_parseDeclaration 101 = .ok (.iload_n 2, 1) := by decide +kernel
set_option maxRecDepth 20000 in
theorem dX5_parseDeclaration_102 : decode cX5_parseDeclaration 102 = .ok (.aload_n 0, 1) := by decide +kernel
set_option maxRecDepth 20000 in
theorem dX5_parseDeclaration_103 : decode cX5_parseDeclaration 103 = .ok (.iconst 3, 1) := by decide +kernel
set_option maxRecDepth 20000 in
theorem dX5_parseDeclaration_104 : decode cX5_parseDeclaration 104 = .ok (.iconst 0, 1) := by decide +kernel
set_option maxRecDepth 20000 in
theorem dX5_parseDeclaration_105 : decode cX5_parseDeclaration 105 = .ok (.sipush 999, 3) := by decide +kernel
set_option maxRecDepth 20000 in
theorem dX5_parseDeclaration_108 : decode cX5_parseDeclaration 108 = .ok (.invokevirtual 69, 3) := by decide +kernel
set_option maxRecDepth 20000 in
theorem dX5_parseDeclaration_111 : decode cX5_parseDeclaration 111 = .ok (.iconst (-1), 1) := by decide +kernel
set_option maxRecDepth 20000 in
theorem dX5_parseDeclaration_112 : decode cX5_parseDeclaration 112 = .ok (.iconst (-1), 1) := by decide +kernel
set_option maxRecDepth 20000 in
theorem dX5_parseDeclaration_113 : decode cX5_parseDeclaration 113 = .ok (.invokevirtual 90, 3) := by decide +kernel
set_option maxRecDepth 20000 in
theorem dX5_parseDeclaration_116 : decode cX5_parseDeclaration 116 = .ok (.aload_n 0, 1) := by decide +kernel
set_option maxRecDepth 20000 in
theorem dX5_parseDeclaration_117 : decode cX5_parseDeclaration 117 = .ok (.bipush 59, 2) := by decide +kernel
set_option maxRecDepth 20000 in
theorem dX5_parseDeclaration_119 : decode cX5_parseDeclaration 119 = .ok (.invokevirtual 73, 3) := by decide +kernel
set_option maxRecDepth 20000 in
theorem dX5_parseDeclaration_122 : decode cX5_parseDeclaration 122 = .ok (.return_, 1) := by decide +kernel
set_option maxRecDepth 20000 in
theorem dX5_number_0 : decode cX5_number 0 = .ok (.aload_n 0, 1) := by decide +kernel
set_option maxRecDepth 20000 in
theorem dX5_number_1 : decode cX5_number 1 = .ok (.getfield 35, 3) := by decide +kernel
set_option maxRecDepth 20000 in
theorem dX5_number_4 : decode cX5_number 4 = .ok (.istore 4, 2) := by decide +kernel
set_option maxRecDepth 20000 in
theorem dX5_number_6 : decode cX5_number 6 = .ok (.iconst 0, 1) := by decide +kernel
set_option maxRecDepth 20000 in
theorem dX5_number_7 : decode cX5_number 7 = .ok (.istore 5, 2) := by decide +kernel
set_option maxRecDepth 20000 in
theorem dX5_number_9 : decode cX5_number 9 = .ok (.iconst 0, 1) := by decide +kernel
set_option maxRecDepth 20000 in
theorem dX5_number_10 : decode cX5_number 10 = .ok (.istore 6, 2) := by decide +kernel
set_option maxRecDepth 20000 in
theorem dX5_number_12 : decode cX5_number 12 = .ok (.iload 6, 2) := by decide +kernel
set_option maxRecDepth 20000 in
theorem dX5_number_14 : decode cX5_number 14 = .ok (.iload_n 1, 1) := by decide +kernel
set_option maxRecDepth 20000 in
theorem dX5_number_15 : decode cX5_number 15 = .ok (.if_icmp .ge 48, 3) := by decide +kernel
set_option maxRecDepth 20000 in
theorem dX5_number_18 : decode cX5_number 18 = .ok (.aload_n 0, 1) := by decide +kernel
set_option maxRecDepth 20000 in
theorem dX5_number_19 : decode cX5_number 19 = .ok (.invokevirtual 94, 3) := by decide +kernel
set_option maxRecDepth 20000 in
theorem dX5_number_22 : decode cX5_number 22 = .ok (.bipush 48, 2) := by decide +kernel
set_option maxRecDepth 20000 in
theorem dX5_number_24 : decode cX5_number 24 = .ok (.bipush 57, 2) := by decide +kernel
set_option maxRecDepth 20000 in
theorem dX5_number_26 : decode cX5_number 26 = .ok (.invokestatic 98, 3) := by decide +kernel
set_option maxRecDepth 20000 in
theorem dX5_number_29 : decode cX5_number 29 = .ok (.ifCond .eq 34, 3) := by decide +kernel
set_option maxRecDepth 20000 in
theorem dX5_number_32 : decode cX5_number 32 = .ok (.bipush 10, 2) := by decide +kernel
set_option maxRecDepth 20000 in
theorem dX5_number_34 : decode cX5_number 34 = .ok (.iload 5, 2) := by decide +kernel
set_option maxRecDepth 20000 in
theorem dX5_number_36 : decode cX5_number 36 = .ok (.imul, 1) := by decide +kernel
set_option maxRecDepth 20000 in
theorem dX5_number_37 : decode cX5_number 37 = .ok (.aload_n 0, 1) := by decide +kernel
set_option maxRecDepth 20000 in
theorem dX5_number_38 : decode cX5_number 38 = .ok (.invokevirtual 94, 3) := by decide +kernel
set_option maxRecDepth 20000 in
theorem dX5_number_41 : decode cX5_number 41 = .ok (.iadd, 1) := by decide +kernel
set_option maxRecDepth 20000 in
theorem dX5_number_42 : decode cX5_number 42 = .ok (.bipush 48, 2) := by decide +kernel
set_option maxRecDepth 20000 in
theorem dX5_number_44 : decode cX5_number 44 = .ok (.isub, 1) := by decide +kernel
set_option maxRecDepth 20000 in
theorem dX5_number_45 : decode cX5_number 45 = .ok (.istore 5, 2) := by decide +kernel
set_option maxRecDepth 20000 in
theorem dX5_number_47 : decode cX5_number 47 = .ok (.aload_n 0, 1) := by decide +kernel
set_option maxRecDepth 20000 in
theorem dX5_number_48 : decode cX5_number 48 = .ok (.dup, 1) := by decide +kernel
set_option maxRecDepth 20000 in
theorem dX5_number_49 : decode cX5_number 49 = .ok (.getfield 35, 3) := by decide +kernel
set_option maxRecDepth 20000 in
theorem dX5_number_52 : decode cX5_number 52 = .ok (.iconst 1, 1) := by decide +kernel
set_option maxRecDepth 20000 in
theorem dX5_number_53 : decode cX5_number 53 = .ok (.iadd, 1) := by decide +kernel
set_option maxRecDepth 20000 in
theorem dX5_number_54 : decode cX5_number 54 = .ok (.putfield 35, 3) := by decide +kernel
set_option maxRecDepth 20000 in
theorem dX5_number_57 : decode cX5_number 57 = .ok (.iinc 6 1, 3) := by decide +kernel
set_option maxRecDepth 20000 in
theorem dX5_number_60 : decode cX5_number 60 = .ok (.goto (-48), 3) := by decide +kernel
set_option maxRecDepth 20000 in
theorem dX5_number_63 : decode cX5_number 63 = .ok (.aload_n 0, 1) := by decide +kernel
set_option maxRecDepth 20000 in
theorem dX5_number_64 : decode cX5_number 64 = .ok (.getfield 35, 3) := by decide +kernel
set_option maxRecDepth 20000 in
theorem dX5_number_67 : decode cX5_number 67 = .ok (.iload 4, 2) := by decide +kernel
set_option maxRecDepth 20000 in
theorem dX5_number_69 : decode cX5_number 69 = .ok (.if_icmp .ne 10, 3) := by decide +kernel
set_option maxRecDepth 20000 in
theorem dX5_number_72 : decode cX5_number 72 = .ok (.aload_n 0, 1) := by decide +kernel
set_option maxRecDepth 20000 in
theorem dX5_number_73 : decode cX5_number 73 = .ok (.invokevirtual 80, 3) := by decide +kernel
set_option maxRecDepth 20000 in
theorem dX5_number_76 : decode cX5_number 76 = .ok (.goto 19, 3) := by decide +kernel
set_option maxRecDepth 20000 in
theorem dX5_number_79 : decode cX5_number 79 = .ok (.iload 5, 2) := by decide +kernel
set_option maxRecDepth 20000 in
theorem dX5_number_81 : decode cX5_number 81 = .ok (.iload_n 2, 1) := by decide +kernel
set_option maxRecDepth 20000 in
theorem dX5_number_82 : decode cX5_number 82 = .ok (.iload_n 3, 1) := by decide +kernel
set_option maxRecDepth 20000 in
theorem dX5_number_83 : decode cX5_number 83 = .ok (.invokestatic 98, 3) := by decide +kernel
set_option maxRecDepth 20000 in
theorem dX5_number_86 : decode cX5_number 86 = .ok (.ifCond .ne 9, 3) := by decide +kernel
set_option maxRecDepth 20000 in
theorem dX5_number_89 : decode cX5_number 89 = .ok (.aload_n 0, 1) := by decide +kernel
set_option maxRecDepth 20000 in
theorem dX5_number_90 : decode cX5_number 90 = .ok (.iload 4, 2) := by decide +kernel
set_option maxRecDepth 20000 in
theorem dX5_number_92 : decode cX5_number 92 = .ok (.invokevirtual 87, 3) := by decide +kernel
set_option maxRecDepth 20000 in
theorem dX5_number_95 : decode cX5_number 95 = .ok (.iload 5, 2) := by decide +kernel
set_option maxRecDepth 20000 in
theorem dX5_number_97 : decode cX5_number 97 = .ok (.ireturn, 1) := by decide +kernel
set_option maxRecDepth 20000 in
theorem dX5_demand_0 : decode cX5_demand 0 = .ok (.aload_n 0, 1) := by decide +kernel
set_option maxRecDepth 20000 in
theorem dX5_demand_1 : decode cX5_demand 1 = .ok (.invokevirtual 94, 3) := by decide +kernel
set_option maxRecDepth 20000 in
theorem dX5_demand_4 : decode cX5_demand 4 = .ok (.iload_n 1, 1) := by decide +kernel
set_option maxRecDepth 20000 in
theorem dX5_demand_5 : decode cX5_demand 5 = .ok (.if_icmp .ne 16, 3) := by decide +kernel
set_option maxRecDepth 20000 in
theorem dX5_demand_8 : decode cX5_demand 8 = .ok (.aload_n 0, 1) := by decide +kernel
set_option maxRecDepth 20000 in
theorem dX5_demand_9 : decode cX5_demand 9 = .ok (.dup, 1) := by decide +kernel
set_option maxRecDepth 20000 in
theorem dX5_demand_10 : decode cX5_demand 10 = .ok (.getfield 35, 3) := by decide +kernel
set_option maxRecDepth 20000 in
theorem dX5_demand_13 : decode cX5_demand 13 = .ok (.iconst 1, 1) := by decide +kernel
set_option maxRecDepth 20000 in
theorem dX5_demand_14 : decode cX5_demand 14 = .ok (.iadd, 1) := by decide +kernel
set_option maxRecDepth 20000 in
theorem dX5_demand_15 : decode cX5_demand 15 = .ok (.putfield 35, 3) := by decide +kernel
set_option maxRecDepth 20000 in
theorem dX5_demand_18 : decode cX5_demand 18 = .ok (.goto 7, 3) := by decide +kernel
set_option maxRecDepth 20000 in
theorem dX5_demand_21 : decode cX5_demand 21 = .ok (.aload_n 0, 1) := by decide +kernel
set_option maxRecDepth 20000 in
theorem dX5_demand_22 : decode cX5_demand 22 = .ok (.invokevirtual 80, 3) := by decide +kernel
set_option maxRecDepth 20000 in
theorem dX5_demand_25 : decode cX5_demand 25 = .ok (.return_, 1) := by decide +kernel
set_option maxRecDepth 20000 in
theorem dX5_accepts_0 : decode cX5_accepts 0 = .ok (.aload_n 0, 1) := by decide +kernel
set_option maxRecDepth 20000 in
theorem dX5_accepts_1 : decode cX5_accepts 1 = .ok (.invokevirtual 94, 3) := by decide +kernel
set_option maxRecDepth 20000 in
theorem dX5_accepts_4 : decode cX5_accepts 4 = .ok (.iload_n 1, 1) := by decide +kernel
set_option maxRecDepth 20000 in
theorem dX5_accepts_5 : decode cX5_accepts 5 = .ok (.if_icmp .eq 5, 3) := by decide +kernel
set_option maxRecDepth 20000 in
theorem dX5_accepts_8 : decode cX5_accepts 8 = .ok (.iconst 0, 1) := by decide +kernel
set_option maxRecDepth 20000 in
theorem dX5_accepts_9 : decode cX5_accepts 9 = .ok (.ireturn, 1) := by decide +kernel
set_option maxRecDepth 20000 in
theorem dX5_accepts_10 : decode cX5_accepts 10 = .ok (.aload_n 0, 1) := by decide +kernel
set_option maxRecDepth 20000 in
theorem dX5_accepts_11 : decode cX5_accepts 11 = .ok (.dup, 1) := by decide +kernel
set_option maxRecDepth 20000 in
theorem dX5_accepts_12 : decode cX5_accepts 12 = .ok (.getfield 35, 3) := by decide +kernel
set_option maxRecDepth 20000 in
theorem dX5_accepts_15 : decode cX5_accepts 15 = .ok (.iconst 1, 1) := by decide +kernel
set_option maxRecDepth 20000 in
theorem dX5_accepts_16 : decode cX5_accepts 16 = .ok (.iadd, 1) := by decide +kernel
set_option maxRecDepth 20000 in
theorem dX5_accepts_17 : decode cX5_accepts 17 = .ok (.putfield 35, 3) := by decide +kernel
set_option maxRecDepth 20000 in
theorem dX5_accepts_20 : decode cX5_accepts 20 = .ok (.iconst 1, 1) := by decide +kernel
set_option maxRecDepth 20000 in
theorem dX5_accepts_21 : decode cX5_accepts 21 = .ok (.ireturn, 1) := by decide +kernel
set_option maxRecDepth 20000 in
theorem dX5_current_0 : decode cX5_current 0 = .ok (.aload_n 0, 1) := by decide +kernel
set_option maxRecDepth 20000 in
theorem dX5_current_1 : decode cX5_current 1 = .ok (.getfield 38, 3) := by decide +kernel
set_option maxRecDepth 20000 in
theorem dX5_current_4 : decode cX5_current 4 = .ok (.iconst (-1), 1) := by decide +kernel
set_option maxRecDepth 20000 in
theorem dX5_current_5 : decode cX5_current 5 = .ok (.if_icmp .ne 28, 3) := by decide +kernel
set_option maxRecDepth 20000 in
theorem dX5_current_8 : decode cX5_current 8 = .ok (.aload_n 0, 1) := by decide +kernel
set_option maxRecDepth 20000 in
theorem dX5_current_9 : decode cX5_current 9 = .ok (.getfield 35, 3) := by decide +kernel
set_option maxRecDepth 20000 in
theorem dX5_current_12 : decode cX5_current 12 = .ok (.aload_n 0, 1) := by decide +kernel
set_option maxRecDepth 20000 in
theorem dX5_current_13 : decode cX5_current 13 = .ok (.getfield 27, 3) := by decide +kernel
set_option maxRecDepth 20000 in
theorem dX5_current_16 : decode cX5_current 16 = .ok (.if_icmp .ge 17, 3) := by decide +kernel
set_option maxRecDepth 20000 in
theorem dX5_current_19 : decode cX5_current 19 = .ok (.aload_n 0, 1) := by decide +kernel
set_option maxRecDepth 20000 in
theorem dX5_current_20 : decode cX5_current 20 = .ok (.getfield 14, 3) := by decide +kernel
set_option maxRecDepth 20000 in
theorem dX5_current_23 : decode cX5_current 23 = .ok (.aload_n 0, 1) := by decide +kernel
set_option maxRecDepth 20000 in
theorem dX5_current_24 : decode cX5_current 24 = .ok (.getfield 35, 3) := by decide +kernel
set_option maxRecDepth 20000 in
theorem dX5_current_27 : decode cX5_current 27 = .ok (.invokevirtual 102, 3) := by decide +kernel
set_option maxRecDepth 20000 in
theorem dX5_current_30 : decode cX5_current 30 = .ok (.goto 4, 3) := by decide +kernel
set_option maxRecDepth 20000 in
theorem dX5_current_33 : decode cX5_current 33 = .ok (.iconst (-1), 1) := by decide +kernel
set_option maxRecDepth 20000 in
theorem dX5_current_34 : decode cX5_current 34 = .ok (.ireturn, 1) := by decide +kernel
set_option maxRecDepth 20000 in
theorem dX5_failForm_0 : decode cX5_failForm 0 = .ok (.aload_n 0, 1) := by decide +kernel
set_option maxRecDepth 20000 in
theorem dX5_failForm_1 : decode cX5_failForm 1 = .ok (.getfield 38, 3) := by decide +kernel
set_option maxRecDepth 20000 in
theorem dX5_failForm_4 : decode cX5_failForm 4 = .ok (.iconst (-1), 1) := by decide +kernel
set_option maxRecDepth 20000 in
theorem dX5_failForm_5 : decode cX5_failForm 5 = .ok (.if_icmp .ne 11, 3) := by decide +kernel
set_option maxRecDepth 20000 in
theorem dX5_failForm_8 : decode cX5_failForm 8 = .ok (.aload_n 0, 1) := by decide +kernel
set_option maxRecDepth 20000 in
theorem dX5_failForm_9 : decode cX5_failForm 9 = .ok (.aload_n 0, 1) := by decide +kernel
set_option maxRecDepth 20000 in
theorem dX5_failForm_10 : decode cX5_failForm 10 = .ok (.getfield 35, 3) := by decide +kernel
set_option maxRecDepth 20000 in
theorem dX5_failForm_13 : decode cX5_failForm 13 = .ok (.putfield 38, 3) := by decide +kernel
set_option maxRecDepth 20000 in
theorem dX5_failForm_16 : decode cX5_failForm 16 = .ok (.return_, 1) := by decide +kernel
set_option maxRecDepth 20000 in
theorem dX5_failRange_0 : decode cX5_failRange 0 = .ok (.aload_n 0, 1) := by decide +kernel
set_option maxRecDepth 20000 in
theorem dX5_failRange_1 : decode cX5_failRange 1 = .ok (.getfield 41, 3) := by decide +kernel
set_option maxRecDepth 20000 in
theorem dX5_failRange_4 : decode cX5_failRange 4 = .ok (.iconst (-1), 1) := by decide +kernel
set_option maxRecDepth 20000 in
theorem dX5_failRange_5 : decode cX5_failRange 5 = .ok (.if_icmp .ne 8, 3) := by decide +kernel
set_option maxRecDepth 20000 in
theorem dX5_failRange_8 : decode cX5_failRange 8 = .ok (.aload_n 0, 1) := by decide +kernel
set_option maxRecDepth 20000 in
theorem dX5_failRange_9 : decode cX5_failRange 9 = .ok (.iload_n 1, 1) := by decide +kernel
set_option maxRecDepth 20000 in
theorem dX5_failRange_10 : decode cX5_failRange 10 = .ok (.putfield 41, 3) := by decide +kernel
set_option maxRecDepth 20000 in
theorem dX5_failRange_13 : decode cX5_failRange 13 = .ok (.return_, 1) := by decide +kernel
set_option maxRecDepth 20000 in
theorem dX6_init_0 : decode cX6_init 0 = .ok (.aload_n 0, 1) := by decide +kernel
set_option maxRecDepth 20000 in
theorem dX6_init_1 : decode cX6_init 1 = .ok (.invokespecial 3, 3) := by decide +kernel
set_option maxRecDepth 20000 in
theorem dX6_init_4 : decode cX6_init 4 = .ok (.aload_n 0, 1) := by decide +kernel
set_option maxRecDepth 20000 in
theorem dX6_init_5 : decode cX6_init 5 = .ok (.new 9, 3) := by decide +kernel
set_option maxRecDepth 20000 in
theorem dX6_init_8 : decode cX6_init 8 = .ok (.dup, 1) := by decide +kernel
set_option maxRecDepth 20000 in
theorem dX6_init_9 : decode cX6_init 9 = .ok (.bipush 16, 2) := by decide +kernel
set_option maxRecDepth 20000 in
theorem dX6_init_11 : decode cX6_init 11 = .ok (.invokespecial 11, 3) := by decide +kernel
set_option maxRecDepth 20000 in
theorem dX6_init_14 : decode cX6_init 14 = .ok (.putfield 14, 3) := by decide +kernel
set_option maxRecDepth 20000 in
theorem dX6_init_17 : decode cX6_init 17 = .ok (.aload_n 0, 1) := by decide +kernel
set_option maxRecDepth 20000 in
theorem dX6_init_18 : decode cX6_init 18 = .ok (.new 9, 3) := by decide +kernel
set_option maxRecDepth 20000 in
theorem dX6_init_21 : decode cX6_init 21 = .ok (.dup, 1) := by decide +kernel
set_option maxRecDepth 20000 in
theorem dX6_init_22 : decode cX6_init 22 = .ok (.bipush 16, 2) := by decide +kernel
set_option maxRecDepth 20000 in
theorem dX6_init_24 : decode cX6_init 24 = .ok (.invokespecial 11, 3) := by decide +kernel
set_option maxRecDepth 20000 in
theorem dX6_init_27 : decode cX6_init 27 = .ok (.putfield 20, 3) := by decide +kernel
set_option maxRecDepth 20000 in
theorem dX6_init_30 : decode cX6_init 30 = .ok (.aload_n 0, 1) := by decide +kernel
set_option maxRecDepth 20000 in
theorem dX6_init_31 : decode cX6_init 31 = .ok (.new 9, 3) := by decide +kernel
set_option maxRecDepth 20000 in
theorem dX6_init_34 : decode cX6_init 34 = .ok (.dup, 1) := by decide +kernel
set_option maxRecDepth 20000 in
theorem dX6_init_35 : decode cX6_init 35 = .ok (.bipush 16, 2) := by decide +kernel
set_option maxRecDepth 20000 in
theorem dX6_init_37 : decode cX6_init 37 = .ok (.invokespecial 11, 3) := by decide +kernel
set_option maxRecDepth 20000 in
theorem dX6_init_40 : decode cX6_init 40 = .ok (.putfield 23, 3) := by decide +kernel
set_option maxRecDepth 20000 in
theorem dX6_init_43 : decode cX6_init 43 = .ok (.aload_n 0, 1) := by decide +kernel
set_option maxRecDepth 20000 in
theorem dX6_init_44 : decode cX6_init 44 = .ok (.getfield 14, 3) := by decide +kernel
set_option maxRecDepth 20000 in
theorem dX6_init_47 : decode cX6_init 47 = .ok (.iconst 0, 1) := by decide +kernel
set_option maxRecDepth 20000 in
theorem dX6_init_48 : decode cX6_init 48 = .ok (.iconst (-1), 1) := by decide +kernel
set_option maxRecDepth 20000 in
theorem dX6_init_49 : decode cX6_init 49 = .ok (.invokevirtual 26, 3) := by decide +kernel
set_option maxRecDepth 20000 in
theorem dX6_init_52 : decode cX6_init 52 = .ok (.aload_n 0, 1) := by decide +kernel
set_option maxRecDepth 20000 in
theorem dX6_init_53 : decode cX6_init 53 = .ok (.iconst 1, 1) := by decide +kernel
set_option maxRecDepth 20000 in
theorem dX6_init_54 : decode cX6_init 54 = .ok (.putfield 30, 3) := by decide +kernel
set_option maxRecDepth 20000 in
theorem dX6_init_57 : decode cX6_init 57 = .ok (.return_, 1) := by decide +kernel
set_option maxRecDepth 20000 in
theorem dX6_size_0 : decode cX6_size 0 = .ok (.aload_n 0, 1) := by decide +kernel
set_option maxRecDepth 20000 in
theorem dX6_size_1 : decode cX6_size 1 = .ok (.getfield 30, 3) := by decide +kernel
set_option maxRecDepth 20000 in
theorem dX6_size_4 : decode cX6_size 4 = .ok (.ireturn, 1) := by decide +kernel
set_option maxRecDepth 20000 in
theorem dX6_has_0 : decode cX6_has 0 = .ok (.iload_n 1, 1) := by decide +kernel
set_option maxRecDepth 20000 in
theorem dX6_has_1 : decode cX6_has 1 = .ok (.iconst 0, 1) := by decide +kernel
set_option maxRecDepth 20000 in
theorem dX6_has_2 : decode cX6_has 2 = .ok (.aload_n 0, 1) := by decide +kernel
set_option maxRecDepth 20000 in
theorem dX6_has_3 : decode cX6_has 3 = .ok (.getfield 30, 3) := by decide +kernel
set_option maxRecDepth 20000 in
theorem dX6_has_6 : decode cX6_has 6 = .ok (.iconst 1, 1) := by decide +kernel
set_option maxRecDepth 20000 in
theorem dX6_has_7 : decode cX6_has 7 = .ok (.isub, 1) := by decide +kernel
set_option maxRecDepth 20000 in
theorem dX6_has_8 : decode cX6_has 8 = .ok (.invokestatic 34, 3) := by decide +kernel
set_option maxRecDepth 20000 in
theorem dX6_has_11 : decode cX6_has 11 = .ok (.ireturn, 1) := by decide +kernel
set_option maxRecDepth 20000 in
theorem dX6_parentOf_0 : decode cX6_parentOf 0 = .ok (.aload_n 0, 1) := by decide +kernel
set_option maxRecDepth 20000 in
theorem dX6_parentOf_1 : decode cX6_parentOf 1 = .ok (.getfield 14, 3) := by decide +kernel
set_option maxRecDepth 20000 in
theorem dX6_parentOf_4 : decode cX6_parentOf 4 = .ok (.iload_n 1, 1) := by decide +kernel
set_option maxRecDepth 20000 in
theorem dX6_parentOf_5 : decode cX6_parentOf 5 = .ok (.invokevirtual 38, 3) := by decide +kernel
set_option maxRecDepth 20000 in
theorem dX6_parentOf_8 : decode cX6_parentOf 8 = .ok (.ireturn, 1) := by decide +kernel
set_option maxRecDepth 20000 in
theorem dX6_kindOf_0 : decode cX6_kindOf 0 = .ok (.aload_n 0, 1) := by decide +kernel
set_option maxRecDepth 20000 in
theorem dX6_kindOf_1 : decode cX6_kindOf 1 = .ok (.getfield 20, 3) := by decide +kernel
set_option maxRecDepth 20000 in
theorem dX6_kindOf_4 : decode cX6_kindOf 4 = .ok (.iload_n 1, 1) := by decide +kernel
set_option maxRecDepth 20000 in
theorem dX6_kindOf_5 : decode cX6_kindOf 5 = .ok (.invokevirtual 38, 3) := by decide +kernel
set_option maxRecDepth 20000 in
theorem dX6_kindOf_8 : decode cX6_kindOf 8 = .ok (.ireturn, 1) := by decide +kernel
set_option maxRecDepth 20000 in
theorem dX6_classesOf_0 : decode cX6_classesOf 0 = .ok (.aload_n 0, 1) := by decide +kernel
set_option maxRecDepth 20000 in
theorem dX6_classesOf_1 : decode cX6_classesOf 1 = .ok (.getfield 23, 3) := by decide +kernel
set_option maxRecDepth 20000 in
theorem dX6_classesOf_4 : decode cX6_classesOf 4 = .ok (.iload_n 1, 1) := by decide +kernel
set_option maxRecDepth 20000 in
theorem dX6_classesOf_5 : decode cX6_classesOf 5 = .ok (.invokevirtual 38, 3) := by decide +kernel
set_option maxRecDepth 20000 in
theorem dX6_classesOf_8 : decode cX6_classesOf 8 = .ok (.ireturn, 1) := by decide +kernel
set_option maxRecDepth 20000 in
theorem dX6_append_0 : decode cX6_append 0 = .ok (.aload_n 0, 1) := by decide +kernel
set_option maxRecDepth 20000 in
theorem dX6_append_1 : decode cX6_append 1 = .ok (.getfield 30, 3) := by decide +kernel
set_option maxRecDepth 20000 in
theorem dX6_append_4 : decode cX6_append 4 = .ok (.istore 4, 2) := by decide +kernel
set_option maxRecDepth 20000 in
theorem dX6_append_6 : decode cX6_append 6 = .ok (.aload_n 0, 1) := by decide +kernel
set_option maxRecDepth 20000 in
theorem dX6_append_7 : decode cX6_append 7 = .ok (.getfield 14, 3) := by decide +kernel
set_option maxRecDepth 20000 in
theorem dX6_append_10 : decode cX6_append 10 = .ok (.iload 4, 2) := by decide +kernel
set_option maxRecDepth 20000 in
theorem dX6_append_12 : decode cX6_append 12 = .ok (.iload_n 1, 1) := by decide +kernel
set_option maxRecDepth 20000 in
theorem dX6_append_13 : decode cX6_append 13 = .ok (.invokevirtual 26, 3) := by decide +kernel
set_option maxRecDepth 20000 in
theorem dX6_append_16 : decode cX6_append 16 = .ok (.aload_n 0, 1) := by decide +kernel
set_option maxRecDepth 20000 in
theorem dX6_append_17 : decode cX6_append 17 = .ok (.iload 4, 2) := by decide +kernel
set_option maxRecDepth 20000 in
theorem dX6_append_19 : decode cX6_append 19 = .ok (.iload_n 2, 1) := by decide +kernel
set_option maxRecDepth 20000 in
theorem dX6_append_20 : decode cX6_append 20 = .ok (.iload_n 3, 1) := by decide +kernel
set_option maxRecDepth 20000 in
theorem dX6_append_21 : decode cX6_append 21 = .ok (.invokevirtual 42, 3) := by decide +kernel
set_option maxRecDepth 20000 in
theorem dX6_append_24 : decode cX6_append 24 = .ok (.aload_n 0, 1) := by decide +kernel
set_option maxRecDepth 20000 in
theorem dX6_append_25 : decode cX6_append 25 = .ok (.dup, 1) := by decide +kernel
set_option maxRecDepth 20000 in
theorem dX6_append_26 : decode cX6_append 26 = .ok (.getfield 30, 3) := by decide +kernel
set_option maxRecDepth 20000 in
theorem dX6_append_29 : decode cX6_append 29 = .ok (.iconst 1, 1) := by decide +kernel
set_option maxRecDepth 20000 in
theorem dX6_append_30 : decode cX6_append 30 = .ok (.iadd, 1) := by decide +kernel
set_option maxRecDepth 20000 in
theorem dX6_append_31 : decode cX6_append 31 = .ok (.putfield 30, 3) := by decide +kernel
set_option maxRecDepth 20000 in
theorem dX6_append_34 : decode cX6_append 34 = .ok (.iload 4, 2) := by decide +kernel
set_option maxRecDepth 20000 in
theorem dX6_append_36 : decode cX6_append 36 = .ok (.ireturn, 1) := by decide +kernel
set_option maxRecDepth 20000 in
theorem dX6_shorten_0 : decode cX6_shorten 0 = .ok (.aload_n 0, 1) := by decide +kernel
set_option maxRecDepth 20000 in
theorem dX6_shorten_1 : decode cX6_shorten 1 = .ok (.dup, 1) := by decide +kernel
set_option maxRecDepth 20000 in
theorem dX6_shorten_2 : decode cX6_shorten 2 = .ok (.getfield 30, 3) := by decide +kernel
set_option maxRecDepth 20000 in
theorem dX6_shorten_5 : decode cX6_shorten 5 = .ok (.iconst 1, 1) := by decide +kernel
set_option maxRecDepth 20000 in
theorem dX6_shorten_6 : decode cX6_shorten 6 = .ok (.isub, 1) := by decide +kernel
set_option maxRecDepth 20000 in
theorem dX6_shorten_7 : decode cX6_shorten 7 = .ok (.putfield 30, 3) := by decide +kernel
set_option maxRecDepth 20000 in
theorem dX6_shorten_10 : decode cX6_shorten 10 = .ok (.aload_n 0, 1) := by decide +kernel
set_option maxRecDepth 20000 in
theorem dX6_shorten_11 : decode cX6_shorten 11 = .ok (.getfield 30, 3) := by decide +kernel
set_option maxRecDepth 20000 in
theorem dX6_shorten_14 : decode cX6_shorten 14 = .ok (.ireturn, 1) := by decide +kernel
set_option maxRecDepth 20000 in
theorem dX6_setLook_0 : decode cX6_setLook 0 = .ok (.aload_n 0, 1) := by decide +kernel
set_option maxRecDepth 20000 in
theorem dX6_setLook_1 : decode cX6_setLook 1 = .ok (.getfield 20, 3) := by decide +kernel
set_option maxRecDepth 20000 in
theorem dX6_setLook_4 : decode cX6_setLook 4 = .ok (.iload_n 1, 1) := by decide +kernel
set_option maxRecDepth 20000 in
theorem dX6_setLook_5 : decode cX6_setLook 5 = .ok (.iload_n 2, 1) := by decide +kernel
set_option maxRecDepth 20000 in
theorem dX6_setLook_6 : decode cX6_setLook 6 = .ok (.invokevirtual 26, 3) := by decide +kernel
set_option maxRecDepth 20000 in
theorem dX6_setLook_9 : decode cX6_setLook 9 = .ok (.aload_n 0, 1) := by decide +kernel
set_option maxRecDepth 20000 in
theorem dX6_setLook_10 : decode cX6_setLook 10 = .ok (.getfield 23, 3) := by decide +kernel
set_option maxRecDepth 20000 in
theorem dX6_setLook_13 : decode cX6_setLook 13 = .ok (.iload_n 1, 1) := by decide +kernel
set_option maxRecDepth 20000 in
theorem dX6_setLook_14 : decode cX6_setLook 14 = .ok (.iload_n 3, 1) := by decide +kernel
set_option maxRecDepth 20000 in
theorem dX6_setLook_15 : decode cX6_setLook 15 = .ok (.invokevirtual 26, 3) := by decide +kernel
set_option maxRecDepth 20000 in
theorem dX6_setLook_18 : decode cX6_setLook 18 = .ok (.return_, 1) := by decide +kernel
set_option maxRecDepth 20000 in
theorem dX6_stepsUp_0 : decode cX6_stepsUp 0 = .ok (.iload_n 1, 1) := by decide +kernel
set_option maxRecDepth 20000 in
theorem dX6_stepsUp_1 : decode cX6_stepsUp 1 = .ok (.istore_n 3, 1) := by decide +kernel
set_option maxRecDepth 20000 in
theorem dX6_stepsUp_2 : decode cX6_stepsUp 2 = .ok (.iconst 0, 1) := by decide +kernel
set_option maxRecDepth 20000 in
theorem dX6_stepsUp_3 : decode cX6_stepsUp 3 = .ok (.istore 4, 2) := by decide +kernel
set_option maxRecDepth 20000 in
theorem dX6_stepsUp_5 : decode cX6_stepsUp 5 = .ok (.iload 4, 2) := by decide +kernel
set_option maxRecDepth 20000 in
theorem dX6_stepsUp_7 : decode cX6_stepsUp 7 = .ok (.bipush 16, 2) := by decide +kernel
set_option maxRecDepth 20000 in
theorem dX6_stepsUp_9 : decode cX6_stepsUp 9 = .ok (.if_icmp .ge 30, 3) := by decide +kernel
set_option maxRecDepth 20000 in
theorem dX6_stepsUp_12 : decode cX6_stepsUp 12 = .ok (.iload_n 3, 1) := by decide +kernel
set_option maxRecDepth 20000 in
theorem dX6_stepsUp_13 : decode cX6_stepsUp 13 = .ok (.ifCond .lt 26, 3) := by decide +kernel
set_option maxRecDepth 20000 in
theorem dX6_stepsUp_16 : decode cX6_stepsUp 16 = .ok (.iload_n 3, 1) := by decide +kernel
set_option maxRecDepth 20000 in
theorem dX6_stepsUp_17 : decode cX6_stepsUp 17 = .ok (.iload_n 2, 1) := by decide +kernel
set_option maxRecDepth 20000 in
theorem dX6_stepsUp_18 : decode cX6_stepsUp 18 = .ok (.if_icmp .ne 6, 3) := by decide +kernel
set_option maxRecDepth 20000 in
theorem dX6_stepsUp_21 : decode cX6_stepsUp 21 = .ok (.iload 4, 2) := by decide +kernel
set_option maxRecDepth 20000 in
theorem dX6_stepsUp_23 : decode cX6_stepsUp 23 = .ok (.ireturn, 1) := by decide +kernel
set_option maxRecDepth 20000 in
theorem dX6_stepsUp_24 : decode cX6_stepsUp 24 = .ok (.aload_n 0, 1) := by decide +kernel
set_option maxRecDepth 20000 in
theorem dX6_stepsUp_25 : decode cX6_stepsUp 25 = .ok (.getfield 14, 3) := by decide +kernel
set_option maxRecDepth 20000 in
theorem dX6_stepsUp_28 : decode cX6_stepsUp 28 = .ok (.iload_n 3, 1) := by decide +kernel
set_option maxRecDepth 20000 in
theorem dX6_stepsUp_29 : decode cX6_stepsUp 29 = .ok (.invokevirtual 38, 3) := by decide +kernel
set_option maxRecDepth 20000 in
theorem dX6_stepsUp_32 : decode cX6_stepsUp 32 = .ok (.istore_n 3, 1) := by decide +kernel
set_option maxRecDepth 20000 in
theorem dX6_stepsUp_33 : decode cX6_stepsUp 33 = .ok (.iinc 4 1, 3) := by decide +kernel
set_option maxRecDepth 20000 in
theorem dX6_stepsUp_36 : decode cX6_stepsUp 36 = .ok (.goto (-31), 3) := by decide +kernel
set_option maxRecDepth 20000 in
theorem dX6_stepsUp_39 : decode cX6_stepsUp 39 = .ok (.iconst (-1), 1) := by decide +kernel
set_option maxRecDepth 20000 in
theorem dX6_stepsUp_40 : decode cX6_stepsUp 40 = .ok (.ireturn, 1) := by decide +kernel
set_option maxRecDepth 20000 in
theorem dX6_hasKindAbove_0 : decode cX6_hasKindAbove 0 = .ok (.aload_n 0, 1) := by decide +kernel
set_option maxRecDepth 20000 in
theorem dX6_hasKindAbove_1 : decode cX6_hasKindAbove 1 = .ok (.getfield 14, 3) := by decide +kernel
set_option maxRecDepth 20000 in
theorem dX6_hasKindAbove_4 : decode cX6_hasKindAbove 4 = .ok (.iload_n 1, 1) := by decide +kernel
set_option maxRecDepth 20000 in
theorem dX6_hasKindAbove_5 : decode cX6_hasKindAbove 5 = .ok (.invokevirtual 38, 3) := by decide +kernel
set_option maxRecDepth 20000 in
theorem dX6_hasKindAbove_8 : decode cX6_hasKindAbove 8 = .ok (.istore_n 3, 1) := by decide +kernel
set_option maxRecDepth 20000 in
theorem dX6_hasKindAbove_9 : decode cX6_hasKindAbove 9 = .ok (.iconst 0, 1) := by decide +kernel
set_option maxRecDepth 20000 in
theorem dX6_hasKindAbove_10 : decode cX6_hasKindAbove 10 = .ok (.istore 4, 2) := by decide +kernel
set_option maxRecDepth 20000 in
theorem dX6_hasKindAbove_12 : decode cX6_hasKindAbove 12 = .ok (.iload 4, 2) := by decide +kernel
set_option maxRecDepth 20000 in
theorem dX6_hasKindAbove_14 : decode cX6_hasKindAbove 14 = .ok (.bipush 16, 2) := by decide +kernel
set_option maxRecDepth 20000 in
theorem dX6_hasKindAbove_16 : decode cX6_hasKindAbove 16 = .ok (.if_icmp .ge 36, 3) := by decide +kernel
set_option maxRecDepth 20000 in
theorem dX6_hasKindAbove_19 : decode cX6_hasKindAbove 19 = .ok (.iload_n 3, 1) := by decide +kernel
set_option maxRecDepth 20000 in
theorem dX6_hasKindAbove_20 : decode cX6_hasKindAbove 20 = .ok (.ifCond .lt 32, 3) := by decide +kernel
set_option maxRecDepth 20000 in
theorem dX6_hasKindAbove_23 : decode cX6_hasKindAbove 23 = .ok (.aload_n 0, 1) := by decide +kernel
set_option maxRecDepth 20000 in
theorem dX6_hasKindAbove_24 : decode cX6_hasKindAbove 24 = .ok (.getfield 20, 3) := by decide +kernel
set_option maxRecDepth 20000 in
theorem dX6_hasKindAbove_27 : decode cX6_hasKindAbove 27 = .ok (.iload_n 3, 1) := by decide +kernel
set_option maxRecDepth 20000 in
theorem dX6_hasKindAbove_28 : decode cX6_hasKindAbove 28 = .ok (.invokevirtual 38, 3) := by decide +kernel
set_option maxRecDepth 20000 in
theorem dX6_hasKindAbove_31 : decode cX6_hasKindAbove 31 = .ok (.iload_n 2, 1) := by decide +kernel
set_option maxRecDepth 20000 in
theorem dX6_hasKindAbove_32 : decode cX6_hasKindAbove 32 = .ok (.if_icmp .ne 5, 3) := by decide +kernel
set_option maxRecDepth 20000 in
theorem dX6_hasKindAbove_35 : decode cX6_hasKindAbove 35 = .ok (.iconst 1, 1) := by decide +kernel
set_option maxRecDepth 20000 in
theorem dX6_hasKindAbove_36 : decode cX6_hasKindAbove 36 = .ok (.ireturn, 1) := by decide +kernel
set_option maxRecDepth 20000 in
theorem dX6_hasKindAbove_37 : decode cX6_hasKindAbove 37 = .ok (.aload_n 0, 1) := by decide +kernel
set_option maxRecDepth 20000 in
theorem dX6_hasKindAbove_38 : decode cX6_hasKindAbove 38 = .ok (.getfield 14, 3) := by decide +kernel
set_option maxRecDepth 20000 in
theorem dX6_hasKindAbove_41 : decode cX6_hasKindAbove 41 = .ok (.iload_n 3, 1) := by decide +kernel
set_option maxRecDepth 20000 in
theorem dX6_hasKindAbove_42 : decode cX6_hasKindAbove 42 = .ok (.invokevirtual 38, 3) := by decide +kernel
set_option maxRecDepth 20000 in
theorem dX6_hasKindAbove_45 : decode cX6_hasKindAbove 45 = .ok (.istore_n 3, 1) := by decide +kernel
set_option maxRecDepth 20000 in
theorem dX6_hasKindAbove_46 : decode cX6_hasKindAbove 46 = .ok (.iinc 4 1, 3) := by decide +kernel
set_option maxRecDepth 20000 in
theorem dX6_hasKindAbove_49 : decode cX6_hasKindAbove 49 = .ok (.goto (-37), 3) := by decide +kernel
set_option maxRecDepth 20000 in
theorem dX6_hasKindAbove_52 : decode cX6_hasKindAbove 52 = .ok (.iconst 0, 1) := by decide +kernel
set_option maxRecDepth 20000 in
theorem dX6_hasKindAbove_53 : decode cX6_hasKindAbove 53 = .ok (.ireturn, 1) := by decide +kernel
set_option maxRecDepth 20000 in
theorem dX6_copy_0 : decode cX6_copy 0 = .ok (.aload_n 1, 1) := by decide +kernel
set_option maxRecDepth 20000 in
theorem dX6_copy_1 : decode cX6_copy 1 = .ok (.ifnull 44, 3) := by decide +kernel
set_option maxRecDepth 20000 in
theorem dX6_copy_4 : decode cX6_copy 4 = .ok (.aload_n 0, 1) := by decide +kernel
set_option maxRecDepth 20000 in
theorem dX6_copy_5 : decode cX6_copy 5 = .ok (.aload_n 1, 1) := by decide +kernel
set_option maxRecDepth 20000 in
theorem dX6_copy_6 : decode cX6_copy 6 = .ok (.getfield 30, 3) := by decide +kernel
set_option maxRecDepth 20000 in
theorem dX6_copy_9 : decode cX6_copy 9 = .ok (.putfield 30, 3) := by decide +kernel
set_option maxRecDepth 20000 in
theorem dX6_copy_12 : decode cX6_copy 12 = .ok (.aload_n 0, 1) := by decide +kernel
set_option maxRecDepth 20000 in
theorem dX6_copy_13 : decode cX6_copy 13 = .ok (.getfield 14, 3) := by decide +kernel
set_option maxRecDepth 20000 in
theorem dX6_copy_16 : decode cX6_copy 16 = .ok (.aload_n 1, 1) := by decide +kernel
set_option maxRecDepth 20000 in
theorem dX6_copy_17 : decode cX6_copy 17 = .ok (.getfield 14, 3) := by decide +kernel
set_option maxRecDepth 20000 in
theorem dX6_copy_20 : decode cX6_copy 20 = .ok (.invokevirtual 46, 3) := by decide +kernel
set_option maxRecDepth 20000 in
theorem dX6_copy_23 : decode cX6_copy 23 = .ok (.aload_n 0, 1) := by decide +kernel
set_option maxRecDepth 20000 in
theorem dX6_copy_24 : decode cX6_copy 24 = .ok (.getfield 20, 3) := by decide +kernel
set_option maxRecDepth 20000 in
theorem dX6_copy_27 : decode cX6_copy 27 = .ok (.aload_n 1, 1) := by decide +kernel
set_option maxRecDepth 20000 in
theorem dX6_copy_28 : decode cX6_copy 28 = .ok (.getfield 20, 3) := by decide +kernel
set_option maxRecDepth 20000 in
theorem dX6_copy_31 : decode cX6_copy 31 = .ok (.invokevirtual 46, 3) := by decide +kernel
set_option maxRecDepth 20000 in
theorem dX6_copy_34 : decode cX6_copy 34 = .ok (.aload_n 0, 1) := by decide +kernel
set_option maxRecDepth 20000 in
theorem dX6_copy_35 : decode cX6_copy 35 = .ok (.getfield 23, 3) := by decide +kernel
set_option maxRecDepth 20000 in
theorem dX6_copy_38 : decode cX6_copy 38 = .ok (.aload_n 1, 1) := by decide +kernel
set_option maxRecDepth 20000 in
theorem dX6_copy_39 : decode cX6_copy 39 = .ok (.getfield 23, 3) := by decide +kernel
set_option maxRecDepth 20000 in
theorem dX6_copy_42 : decode cX6_copy 42 = .ok (.invokevirtual 46, 3) := by decide +kernel
set_option maxRecDepth 20000 in
theorem dX6_copy_45 : decode cX6_copy 45 = .ok (.return_, 1) := by decide +kernel
set_option maxRecDepth 20000 in
theorem dX7_init_0 : decode cX7_init 0 = .ok (.aload_n 0, 1) := by decide +kernel
set_option maxRecDepth 20000 in
theorem dX7_init_1 : decode cX7_init 1 = .ok (.invokespecial 1, 3) := by decide +kernel
set_option maxRecDepth 20000 in
theorem dX7_init_4 : decode cX7_init 4 = .ok (.aload_n 0, 1) := by decide +kernel
set_option maxRecDepth 20000 in
theorem dX7_init_5 : decode cX7_init 5 = .ok (.new 7, 3) := by decide +kernel
set_option maxRecDepth 20000 in
theorem dX7_init_8 : decode cX7_init 8 = .ok (.dup, 1) := by decide +kernel
set_option maxRecDepth 20000 in
theorem dX7_init_9 : decode cX7_init 9 = .ok (.invokespecial 9, 3) := by decide +kernel
set_option maxRecDepth 20000 in
theorem dX7_init_12 : decode cX7_init 12 = .ok (.putfield 10, 3) := by decide +kernel
set_option maxRecDepth 20000 in
theorem dX7_init_15 : decode cX7_init 15 = .ok (.aload_n 0, 1) := by decide +kernel
set_option maxRecDepth 20000 in
theorem dX7_init_16 : decode cX7_init 16 = .ok (.new 16, 3) := by decide +kernel
set_option maxRecDepth 20000 in
theorem dX7_init_19 : decode cX7_init 19 = .ok (.dup, 1) := by decide +kernel
set_option maxRecDepth 20000 in
theorem dX7_init_20 : decode cX7_init 20 = .ok (.invokespecial 18, 3) := by decide +kernel
set_option maxRecDepth 20000 in
theorem dX7_init_23 : decode cX7_init 23 = .ok (.putfield 19, 3) := by decide +kernel
set_option maxRecDepth 20000 in
theorem dX7_init_26 : decode cX7_init 26 = .ok (.aload_n 0, 1) := by decide +kernel
set_option maxRecDepth 20000 in
theorem dX7_init_27 : decode cX7_init 27 = .ok (.new 23, 3) := by decide +kernel
set_option maxRecDepth 20000 in
theorem dX7_init_30 : decode cX7_init 30 = .ok (.dup, 1) := by decide +kernel
set_option maxRecDepth 20000 in
theorem dX7_init_31 : decode cX7_init 31 = .ok (.invokespecial 25, 3) := by decide +kernel
set_option maxRecDepth 20000 in
theorem dX7_init_34 : decode cX7_init 34 = .ok (.putfield 26, 3) := by decide +kernel
set_option maxRecDepth 20000 in
theorem dX7_init_37 : decode cX7_init 37 = .ok (.aload_n 0, 1) := by decide +kernel
set_option maxRecDepth 20000 in
theorem dX7_init_38 : decode cX7_init 38 = .ok (.new 30, 3) := by decide +kernel
set_option maxRecDepth 20000 in
theorem dX7_init_41 : decode cX7_init 41 = .ok (.dup, 1) := by decide +kernel
set_option maxRecDepth 20000 in
theorem dX7_init_42 : decode cX7_init 42 = .ok (.invokespecial 32, 3) := by decide +kernel
set_option maxRecDepth 20000 in
theorem dX7_init_45 : decode cX7_init 45 = .ok (.putfield 33, 3) := by decide +kernel
set_option maxRecDepth 20000 in
theorem dX7_init_48 : decode cX7_init 48 = .ok (.return_, 1) := by decide +kernel
set_option maxRecDepth 20000 in
theorem dX7_add_0 : decode cX7_add 0 = .ok (.aload_n 0, 1) := by decide +kernel
set_option maxRecDepth 20000 in
theorem dX7_add_1 : decode cX7_add 1 = .ok (.getfield 10, 3) := by decide +kernel
set_option maxRecDepth 20000 in
theorem dX7_add_4 : decode cX7_add 4 = .ok (.getfield 37, 3) := by decide +kernel
set_option maxRecDepth 20000 in
theorem dX7_add_7 : decode cX7_add 7 = .ok (.iload_n 1, 1) := by decide +kernel
set_option maxRecDepth 20000 in
theorem dX7_add_8 : decode cX7_add 8 = .ok (.invokevirtual 41, 3) := by decide +kernel
set_option maxRecDepth 20000 in
theorem dX7_add_11 : decode cX7_add 11 = .ok (.ifCond .eq 22, 3) := by decide +kernel
set_option maxRecDepth 20000 in
theorem dX7_add_14 : decode cX7_add 14 = .ok (.iload_n 2, 1) := by decide +kernel
set_option maxRecDepth 20000 in
theorem dX7_add_15 : decode cX7_add 15 = .ok (.iconst 0, 1) := by decide +kernel
set_option maxRecDepth 20000 in
theorem dX7_add_16 : decode cX7_add 16 = .ok (.iconst 5, 1) := by decide +kernel
set_option maxRecDepth 20000 in
theorem dX7_add_17 : decode cX7_add 17 = .ok (.invokestatic 47, 3) := by decide +kernel
set_option maxRecDepth 20000 in
theorem dX7_add_20 : decode cX7_add 20 = .ok (.ifCond .eq 13, 3) := by decide +kernel
set_option maxRecDepth 20000 in
theorem dX7_add_23 : decode cX7_add 23 = .ok (.iload_n 3, 1) := by decide +kernel
set_option maxRecDepth 20000 in
theorem dX7_add_24 : decode cX7_add 24 = .ok (.iconst 0, 1) := by decide +kernel
set_option maxRecDepth 20000 in
theorem dX7_add_25 : decode cX7_add 25 = .ok (.bipush 15, 2) := by decide +kernel
set_option maxRecDepth 20000 in
theorem dX7_add_27 : decode cX7_add 27 = .ok (.invokestatic 47, 3) := by decide +kernel
set_option maxRecDepth 20000 in
theorem dX7_add_30 : decode cX7_add 30 = .ok (.ifCond .ne 6, 3) := by decide +kernel
set_option maxRecDepth 20000 in
theorem dX7_add_33 : decode cX7_add 33 = .ok (.bipush (-11), 2) := by decide +kernel
set_option maxRecDepth 20000 in
theorem dX7_add_35 : decode cX7_add 35 = .ok (.ireturn, 1) := by decide +kernel
set_option maxRecDepth 20000 in
theorem dX7_add_36 : decode cX7_add 36 = .ok (.aload_n 0, 1) := by decide +kernel
set_option maxRecDepth 20000 in
theorem dX7_add_37 : decode cX7_add 37 = .ok (.getfield 10, 3) := by decide +kernel
set_option maxRecDepth 20000 in
theorem dX7_add_40 : decode cX7_add 40 = .ok (.getfield 37, 3) := by decide +kernel
set_option maxRecDepth 20000 in
theorem dX7_add_43 : decode cX7_add 43 = .ok (.invokevirtual 51, 3) := by decide +kernel
set_option maxRecDepth 20000 in
theorem dX7_add_46 : decode cX7_add 46 = .ok (.bipush 16, 2) := by decide +kernel
set_option maxRecDepth 20000 in
theorem dX7_add_48 : decode cX7_add 48 = .ok (.if_icmp .lt 6, 3) := by decide +kernel
set_option maxRecDepth 20000 in
theorem dX7_add_51 : decode cX7_add 51 = .ok (.bipush (-13), 2) := by decide +kernel
set_option maxRecDepth 20000 in
theorem dX7_add_53 : decode cX7_add 53 = .ok (.ireturn, 1) := by decide +kernel
set_option maxRecDepth 20000 in
theorem dX7_add_54 : decode cX7_add 54 = .ok (.aload_n 0, 1) := by decide +kernel
set_option maxRecDepth 20000 in
theorem dX7_add_55 : decode cX7_add 55 = .ok (.invokevirtual 55, 3) := by decide +kernel
set_option maxRecDepth 20000 in
theorem dX7_add_58 : decode cX7_add 58 = .ok (.aload_n 0, 1) := by decide +kernel
set_option maxRecDepth 20000 in
theorem dX7_add_59 : decode cX7_add 59 = .ok (.getfield 10, 3) := by decide +kernel
set_option maxRecDepth 20000 in
theorem dX7_add_62 : decode cX7_add 62 = .ok (.getfield 37, 3) := by decide +kernel
set_option maxRecDepth 20000 in
theorem dX7_add_65 : decode cX7_add 65 = .ok (.iload_n 1, 1) := by decide +kernel
set_option maxRecDepth 20000 in
theorem dX7_add_66 : decode cX7_add 66 = .ok (.iload_n 2, 1) := by decide +kernel
set_option maxRecDepth 20000 in
theorem dX7_add_67 : decode cX7_add 67 = .ok (.iload_n 3, 1) := by decide +kernel
set_option maxRecDepth 20000 in
theorem dX7_add_68 : decode cX7_add 68 = .ok (.invokevirtual 58, 3) := by decide +kernel
set_option maxRecDepth 20000 in
theorem dX7_add_71 : decode cX7_add 71 = .ok (.ireturn, 1) := by decide +kernel
set_option maxRecDepth 20000 in
theorem dX7_remove_0 : decode cX7_remove 0 = .ok (.aload_n 0, 1) := by decide +kernel
set_option maxRecDepth 20000 in
theorem dX7_remove_1 : decode cX7_remove 1 = .ok (.getfield 10, 3) := by decide +kernel
set_option maxRecDepth 20000 in
theorem dX7_remove_4 : decode cX7_remove 4 = .ok (.getfield 37, 3) := by decide +kernel
set_option maxRecDepth 20000 in
theorem dX7_remove_7 : decode cX7_remove 7 = .ok (.invokevirtual 51, 3) := by decide +kernel
set_option maxRecDepth 20000 in
theorem dX7_remove_10 : decode cX7_remove 10 = .ok (.iconst 1, 1) := by decide +kernel
set_option maxRecDepth 20000 in
theorem dX7_remove_11 : decode cX7_remove 11 = .ok (.isub, 1) := by decide +kernel
set_option maxRecDepth 20000 in
theorem dX7_remove_12 : decode cX7_remove 12 = .ok (.istore_n 1, 1) := by decide +kernel
set_option maxRecDepth 20000 in
theorem dX7_remove_13 : decode cX7_remove 13 = .ok (.iload_n 1, 1) := by decide +kernel
set_option maxRecDepth 20000 in
theorem dX7_remove_14 : decode cX7_remove 14 = .ok (.ifCond .le 17, 3) := by decide +kernel
set_option maxRecDepth 20000 in
theorem dX7_remove_17 : decode cX7_remove 17 = .ok (.aload_n 0, 1) := by decide +kernel
set_option maxRecDepth 20000 in
theorem dX7_remove_18 : decode cX7_remove 18 = .ok (.getfield 10, 3) := by decide +kernel
set_option maxRecDepth 20000 in
theorem dX7_remove_21 : decode cX7_remove 21 = .ok (.getfield 62, 3) := by decide +kernel
set_option maxRecDepth 20000 in
theorem dX7_remove_24 : decode cX7_remove 24 = .ok (.iload_n 1, 1) := by decide +kernel
set_option maxRecDepth 20000 in
theorem dX7_remove_25 : decode cX7_remove 25 = .ok (.invokevirtual 66, 3) := by decide +kernel
set_option maxRecDepth 20000 in
theorem dX7_remove_28 : decode cX7_remove 28 = .ok (.ifCond .eq 6, 3) := by decide +kernel
set_option maxRecDepth 20000 in
theorem dX7_remove_31 : decode cX7_remove 31 = .ok (.bipush (-12), 2) := by decide +kernel
set_option maxRecDepth 20000 in
theorem dX7_remove_33 : decode cX7_remove 33 = .ok (.ireturn, 1) := by decide +kernel
set_option maxRecDepth 20000 in
theorem dX7_remove_34 : decode cX7_remove 34 = .ok (.aload_n 0, 1) := by decide +kernel
set_option maxRecDepth 20000 in
theorem dX7_remove_35 : decode cX7_remove 35 = .ok (.invokevirtual 55, 3) := by decide +kernel
set_option maxRecDepth 20000 in
theorem dX7_remove_38 : decode cX7_remove 38 = .ok (.aload_n 0, 1) := by decide +kernel
set_option maxRecDepth 20000 in
theorem dX7_remove_39 : decode cX7_remove 39 = .ok (.getfield 10, 3) := by decide +kernel
set_option maxRecDepth 20000 in
theorem dX7_remove_42 : decode cX7_remove 42 = .ok (.getfield 37, 3) := by decide +kernel
set_option maxRecDepth 20000 in
theorem dX7_remove_45 : decode cX7_remove 45 = .ok (.invokevirtual 71, 3) := by decide +kernel
set_option maxRecDepth 20000 in
theorem dX7_remove_48 : decode cX7_remove 48 = .ok (.ireturn, 1) := by decide +kernel
set_option maxRecDepth 20000 in
theorem dX7_dress_0 : decode cX7_dress 0 = .ok (.aload_n 0, 1) := by decide +kernel
set_option maxRecDepth 20000 in
theorem dX7_dress_1 : decode cX7_dress 1 = .ok (.getfield 10, 3) := by decide +kernel
set_option maxRecDepth 20000 in
theorem dX7_dress_4 : decode cX7_dress 4 = .ok (.getfield 37, 3) := by decide +kernel
set_option maxRecDepth 20000 in
theorem dX7_dress_7 : decode cX7_dress 7 = .ok (.iload_n 1, 1) := by decide +kernel
set_option maxRecDepth 20000 in
theorem dX7_dress_8 : decode cX7_dress 8 = .ok (.invokevirtual 41, 3) := by decide +kernel
set_option maxRecDepth 20000 in
theorem dX7_dress_11 : decode cX7_dress 11 = .ok (.ifCond .eq 22, 3) := by decide +kernel
set_option maxRecDepth 20000 in
theorem dX7_dress_14 : decode cX7_dress 14 = .ok (.iload_n 2, 1) := by decide +kernel
set_option maxRecDepth 20000 in
theorem dX7_dress_15 : decode cX7_dress 15 = .ok (.iconst 0, 1) := by decide +kernel
set_option maxRecDepth 20000 in
theorem dX7_dress_16 : decode cX7_dress 16 = .ok (.iconst 5, 1) := by decide +kernel
set_option maxRecDepth 20000 in
theorem dX7_dress_17 : decode cX7_dress 17 = .ok (.invokestatic 47, 3) := by decide +kernel
set_option maxRecDepth 20000 in
theorem dX7_dress_20 : decode cX7_dress 20 = .ok (.ifCond .eq 13, 3) := by decide +kernel
set_option maxRecDepth 20000 in
theorem dX7_dress_23 : decode cX7_dress 23 = .ok (.iload_n 3, 1) := by decide +kernel
set_option maxRecDepth 20000 in
theorem dX7_dress_24 : decode cX7_dress 24 = .ok (.iconst 0, 1) := by decide +kernel
set_option maxRecDepth 20000 in
theorem dX7_dress_25 : decode cX7_dress 25 = .ok (.bipush 15, 2) := by decide +kernel
set_option maxRecDepth 20000 in
theorem dX7_dress_27 : decode cX7_dress 27 = .ok (.invokestatic 47, 3) := by decide +kernel
set_option maxRecDepth 20000 in
theorem dX7_dress_30 : decode cX7_dress 30 = .ok (.ifCond .ne 6, 3) := by decide +kernel
set_option maxRecDepth 20000 in
theorem dX7_dress_33 : decode cX7_dress 33 = .ok (.bipush (-11), 2) := by decide +kernel
set_option maxRecDepth 20000 in
theorem dX7_dress_35 : decode cX7_dress 35 = .ok (.ireturn, 1) := by decide +kernel
set_option maxRecDepth 20000 in
theorem dX7_dress_36 : decode cX7_dress 36 = .ok (.bipush 16, 2) := by decide +kernel
set_option maxRecDepth 20000 in
theorem dX7_dress_38 : decode cX7_dress 38 = .ok (.aload_n 0, 1) := by decide +kernel
set_option maxRecDepth 20000 in
theorem dX7_dress_39 : decode cX7_dress 39 = .ok (.getfield 10, 3) := by decide +kernel
set_option maxRecDepth 20000 in
theorem dX7_dress_42 : decode cX7_dress 42 = .ok (.getfield 37, 3) := by decide +kernel
set_option maxRecDepth 20000 in
theorem dX7_dress_45 : decode cX7_dress 45 = .ok (.iload_n 1, 1) := by decide +kernel
set_option maxRecDepth 20000 in
theorem dX7_dress_46 : decode cX7_dress 46 = .ok (.invokevirtual 74, 3) := by decide +kernel
set_option maxRecDepth 20000 in
theorem dX7_dress_49 : decode cX7_dress 49 = .ok (.imul, 1) := by decide +kernel
set_option maxRecDepth 20000 in
theorem dX7_dress_50 : decode cX7_dress 50 = .ok (.aload_n 0, 1) := by decide +kernel
set_option maxRecDepth 20000 in
theorem dX7_dress_51 : decode cX7_dress 51 = .ok (.getfield 10, 3) := by decide +kernel
set_option maxRecDepth 20000 in
theorem dX7_dress_54 : decode cX7_dress 54 = .ok (.getfield 37, 3) := by decide +kernel
set_option maxRecDepth 20000 in
theorem dX7_dress_57 : decode cX7_dress 57 = .ok (.iload_n 1, 1) := by decide +kernel
set_option maxRecDepth 20000 in
theorem dX7_dress_58 : decode cX7_dress 58 = .ok (.invokevirtual 78, 3) := by decide +kernel
set_option maxRecDepth 20000 in
theorem dX7_dress_61 : decode cX7_dress 61 = .ok (.iadd, 1) := by decide +kernel
set_option maxRecDepth 20000 in
theorem dX7_dress_62 : decode cX7_dress 62 = .ok (.istore 4, 2) := by decide +kernel
set_option maxRecDepth 20000 in
theorem dX7_dress_64 : decode cX7_dress 64 = .ok (.aload_n 0, 1) := by decide +kernel
set_option maxRecDepth 20000 in
theorem dX7_dress_65 : decode cX7_dress 65 = .ok (.invokevirtual 55, 3) := by decide +kernel
set_option maxRecDepth 20000 in
theorem dX7_dress_68 : decode cX7_dress 68 = .ok (.aload_n 0, 1) := by decide +kernel
set_option maxRecDepth 20000 in
theorem dX7_dress_69 : decode cX7_dress 69 = .ok (.getfield 10, 3) := by decide +kernel
set_option maxRecDepth 20000 in
theorem dX7_dress_72 : decode cX7_dress 72 = .ok (.getfield 37, 3) := by decide +kernel
set_option maxRecDepth 20000 in
theorem dX7_dress_75 : decode cX7_dress 75 = .ok (.iload_n 1, 1) := by decide +kernel
set_option maxRecDepth 20000 in
theorem dX7_dress_76 : decode cX7_dress 76 = .ok (.iload_n 2, 1) := by decide +kernel
set_option maxRecDepth 20000 in
theorem dX7_dress_77 : decode cX7_dress 77 = .ok (.iload_n 3, 1) := by decide +kernel
set_option maxRecDepth 20000 in
theorem dX7_dress_78 : decode cX7_dress 78 = .ok (.invokevirtual 81, 3) := by decide +kernel
set_option maxRecDepth 20000 in
theorem dX7_dress_81 : decode cX7_dress 81 = .ok (.iload 4, 2) := by decide +kernel
set_option maxRecDepth 20000 in
theorem dX7_dress_83 : decode cX7_dress 83 = .ok (.ireturn, 1) := by decide +kernel
set_option maxRecDepth 20000 in
theorem dX7_element_0 : decode cX7_element 0 = .ok (.aload_n 0, 1) := by decide +kernel
set_option maxRecDepth 20000 in
theorem dX7_element_1 : decode cX7_element 1 = .ok (.getfield 10, 3) := by decide +kernel
set_option maxRecDepth 20000 in
theorem dX7_element_4 : decode cX7_element 4 = .ok (.getfield 37, 3) := by decide +kernel
set_option maxRecDepth 20000 in
theorem dX7_element_7 : decode cX7_element 7 = .ok (.iload_n 1, 1) := by decide +kernel
set_option maxRecDepth 20000 in
theorem dX7_element_8 : decode cX7_element 8 = .ok (.invokevirtual 41, 3) := by decide +kernel
set_option maxRecDepth 20000 in
theorem dX7_element_11 : decode cX7_element 11 = .ok (.ifCond .ne 6, 3) := by decide +kernel
set_option maxRecDepth 20000 in
theorem dX7_element_14 : decode cX7_element 14 = .ok (.bipush (-11), 2) := by decide +kernel
set_option maxRecDepth 20000 in
theorem dX7_element_16 : decode cX7_element 16 = .ok (.ireturn, 1) := by decide +kernel
set_option maxRecDepth 20000 in
theorem dX7_element_17 : decode cX7_element 17 = .ok (.iload_n 2, 1) := by decide +kernel
set_option maxRecDepth 20000 in
theorem dX7_element_18 : decode cX7_element 18 = .ok (.tableswitch 128 0 5 #[38, 59, 71, 83, 96, 112], 38) := by decide +kernel
set_option maxRecDepth 20000 in
theorem dX7_element_56 : decode cX7_element 56 = .ok (.iload_n 1, 1) := by decide +kernel
set_option maxRecDepth 20000 in
theorem dX7_element_57 : decode cX7_element 57 = .ok (.ifCond .ne 8, 3) := by decide +kernel
set_option maxRecDepth 20000 in
theorem dX7_element_60 : decode cX7_element 60 = .ok (.bipush (-14), 2) := by decide +kernel
set_option maxRecDepth 20000 in
theorem dX7_element_62 : decode cX7_element 62 = .ok (.goto 14, 3) := by decide +kernel
set_option maxRecDepth 20000 in
theorem dX7_element_65 : decode cX7_element 65 = .ok (.aload_n 0, 1) := by decide +kernel
set_option maxRecDepth 20000 in
theorem dX7_element_66 : decode cX7_element 66 = .ok (.getfield 10, 3) := by decide +kernel
set_option maxRecDepth 20000 in
theorem dX7_element_69 : decode cX7_element 69 = .ok (.getfield 37, 3) := by decide +kernel
set_option maxRecDepth 20000 in
theorem dX7_element_72 : decode cX7_element 72 = .ok (.iload_n 1, 1) := by decide +kernel
set_option maxRecDepth 20000 in
theorem dX7_element_73 : decode cX7_element 73 = .ok (.invokevirtual 85, 3) := by decide +kernel
set_option maxRecDepth 20000 in
theorem dX7_element_76 : decode cX7_element 76 = .ok (.ireturn, 1) := by decide +kernel
set_option maxRecDepth 20000 in
theorem dX7_element_77 : decode cX7_element 77 = .ok (.aload_n 0, 1) := by decide +kernel
set_option maxRecDepth 20000 in
theorem dX7_element_78 : decode cX7_element 78 = .ok (.getfield 10, 3) := by decide +kernel
set_option maxRecDepth 20000 in
theorem dX7_element_81 : decode cX7_element 81 = .ok (.getfield 37, 3) := by decide +kernel
set_option maxRecDepth 20000 in
theorem dX7_element_84 : decode cX7_element 84 = .ok (.iload_n 1, 1) := by decide +kernel
set_option maxRecDepth 20000 in
theorem dX7_element_85 : decode cX7_element 85 = .ok (.invokevirtual 74, 3) := by decide +kernel
set_option maxRecDepth 20000 in
theorem dX7_element_88 : decode cX7_element 88 = .ok (.ireturn, 1) := by decide +kernel
set_option maxRecDepth 20000 in
theorem dX7_element_89 : decode cX7_element 89 = .ok (.aload_n 0, 1) := by decide +kernel
set_option maxRecDepth 20000 in
theorem dX7_element_90 : decode cX7_element 90 = .ok (.getfield 10, 3) := by decide +kernel
set_option maxRecDepth 20000 in
theorem dX7_element_93 : decode cX7_element 93 = .ok (.getfield 37, 3) := by decide +kernel
set_option maxRecDepth 20000 in
theorem dX7_element_96 : decode cX7_element 96 = .ok (.iload_n 1, 1) := by decide +kernel
set_option maxRecDepth 20000 in
theorem dX7_element_97 : decode cX7_element 97 = .ok (.invokevirtual 78, 3) := by decide +kernel
set_option maxRecDepth 20000 in
theorem dX7_element_100 : decode cX7_element 100 = .ok (.ireturn, 1) := by decide +kernel
set_option maxRecDepth 20000 in
theorem dX7_element_101 : decode cX7_element 101 = .ok (.aload_n 0, 1) := by decide +kernel
set_option maxRecDepth 20000 in
theorem dX7_element_102 : decode cX7_element 102 = .ok (.getfield 10, 3) := by decide +kernel
set_option maxRecDepth 20000 in
theorem dX7_element_105 : decode cX7_element 105 = .ok (.getfield 37, 3) := by decide +kernel
set_option maxRecDepth 20000 in
theorem dX7_element_108 : decode cX7_element 108 = .ok (.iload_n 1, 1) := by decide +kernel
set_option maxRecDepth 20000 in
theorem dX7_element_109 : decode cX7_element 109 = .ok (.iconst 0, 1) := by decide +kernel
set_option maxRecDepth 20000 in
theorem dX7_element_110 : decode cX7_element 110 = .ok (.invokevirtual 88, 3) := by decide +kernel
set_option maxRecDepth 20000 in
theorem dX7_element_113 : decode cX7_element 113 = .ok (.ireturn, 1) := by decide +kernel
set_option maxRecDepth 20000 in
theorem dX7_element_114 : decode cX7_element 114 = .ok (.aload_n 0, 1) := by decide +kernel
set_option maxRecDepth 20000 in
theorem dX7_element_115 : decode cX7_element 115 = .ok (.getfield 26, 3) := by decide +kernel
set_option maxRecDepth 20000 in
theorem dX7_element_118 : decode cX7_element 118 = .ok (.aload_n 0, 1) := by decide +kernel
set_option maxRecDepth 20000 in
theorem dX7_element_119 : decode cX7_element 119 = .ok (.getfield 10, 3) := by decide +kernel
set_option maxRecDepth 20000 in
theorem dX7_element_122 : decode cX7_element 122 = .ok (.invokevirtual 92, 3) := by decide +kernel
set_option maxRecDepth 20000 in
theorem dX7_element_125 : decode cX7_element 125 = .ok (.iload_n 1, 1) := by decide +kernel
set_option maxRecDepth 20000 in
theorem dX7_element_126 : decode cX7_element 126 = .ok (.invokevirtual 96, 3) := by decide +kernel
set_option maxRecDepth 20000 in
theorem dX7_element_129 : decode cX7_element 129 = .ok (.ireturn, 1) := by decide +kernel
set_option maxRecDepth 20000 in
theorem dX7_element_130 : decode cX7_element 130 = .ok (.aload_n 0, 1) := by decide +kernel
set_option maxRecDepth 20000 in
theorem dX7_element_131 : decode cX7_element 131 = .ok (.getfield 26, 3) := by decide +kernel
set_option maxRecDepth 20000 in
theorem dX7_element_134 : decode cX7_element 134 = .ok (.aload_n 0, 1) := by decide +kernel
set_option maxRecDepth 20000 in
theorem dX7_element_135 : decode cX7_element 135 = .ok (.getfield 10, 3) := by decide +kernel
set_option maxRecDepth 20000 in
theorem dX7_element_138 : decode cX7_element 138 = .ok (.invokevirtual 92, 3) := by decide +kernel
set_option maxRecDepth 20000 in
theorem dX7_element_141 : decode cX7_element 141 = .ok (.iload_n 1, 1) := by decide +kernel
set_option maxRecDepth 20000 in
theorem dX7_element_142 : decode cX7_element 142 = .ok (.invokevirtual 99, 3) := by decide +kernel
set_option maxRecDepth 20000 in
theorem dX7_element_145 : decode cX7_element 145 = .ok (.ireturn, 1) := by decide +kernel
set_option maxRecDepth 20000 in
theorem dX7_element_146 : decode cX7_element 146 = .ok (.bipush (-11), 2) := by decide +kernel
set_option maxRecDepth 20000 in
theorem dX7_element_148 : decode cX7_element 148 = .ok (.ireturn, 1) := by decide +kernel
set_option maxRecDepth 20000 in
theorem dX7_count_0 : decode cX7_count 0 = .ok (.iload_n 1, 1) := by decide +kernel
set_option maxRecDepth 20000 in
theorem dX7_count_1 : decode cX7_count 1 = .ok (.tableswitch 118 0 6 #[43, 54, 65, 76, 87, 102, 110], 43) := by decide +kernel
set_option maxRecDepth 20000 in
theorem dX7_count_44 : decode cX7_count 44 = .ok (.aload_n 0, 1) := by decide +kernel
set_option maxRecDepth 20000 in
theorem dX7_count_45 : decode cX7_count 45 = .ok (.getfield 10, 3) := by decide +kernel
set_option maxRecDepth 20000 in
theorem dX7_count_48 : decode cX7_count 48 = .ok (.getfield 37, 3) := by decide +kernel
set_option maxRecDepth 20000 in
theorem dX7_count_51 : decode cX7_count 51 = .ok (.invokevirtual 51, 3) := by decide +kernel
set_option maxRecDepth 20000 in
theorem dX7_count_54 : decode cX7_count 54 = .ok (.ireturn, 1) := by decide +kernel
set_option maxRecDepth 20000 in
theorem dX7_count_55 : decode cX7_count 55 = .ok (.aload_n 0, 1) := by decide +kernel
set_option maxRecDepth 20000 in
theorem dX7_count_56 : decode cX7_count 56 = .ok (.getfield 10, 3) := by decide +kernel
set_option maxRecDepth 20000 in
theorem dX7_count_59 : decode cX7_count 59 = .ok (.getfield 62, 3) := by decide +kernel
set_option maxRecDepth 20000 in
theorem dX7_count_62 : decode cX7_count 62 = .ok (.invokevirtual 102, 3) := by decide +kernel
set_option maxRecDepth 20000 in
theorem dX7_count_65 : decode cX7_count 65 = .ok (.ireturn, 1) := by decide +kernel
set_option maxRecDepth 20000 in
theorem dX7_count_66 : decode cX7_count 66 = .ok (.aload_n 0, 1) := by decide +kernel
set_option maxRecDepth 20000 in
theorem dX7_count_67 : decode cX7_count 67 = .ok (.getfield 10, 3) := by decide +kernel
set_option maxRecDepth 20000 in
theorem dX7_count_70 : decode cX7_count 70 = .ok (.getfield 62, 3) := by decide +kernel
set_option maxRecDepth 20000 in
theorem dX7_count_73 : decode cX7_count 73 = .ok (.invokevirtual 103, 3) := by decide +kernel
set_option maxRecDepth 20000 in
theorem dX7_count_76 : decode cX7_count 76 = .ok (.ireturn, 1) := by decide +kernel
set_option maxRecDepth 20000 in
theorem dX7_count_77 : decode cX7_count 77 = .ok (.aload_n 0, 1) := by decide +kernel
set_option maxRecDepth 20000 in
theorem dX7_count_78 : decode cX7_count 78 = .ok (.getfield 10, 3) := by decide +kernel
set_option maxRecDepth 20000 in
theorem dX7_count_81 : decode cX7_count 81 = .ok (.getfield 62, 3) := by decide +kernel
set_option maxRecDepth 20000 in
theorem dX7_count_84 : decode cX7_count 84 = .ok (.invokevirtual 106, 3) := by decide +kernel
set_option maxRecDepth 20000 in
theorem dX7_count_87 : decode cX7_count 87 = .ok (.ireturn, 1) := by decide +kernel
set_option maxRecDepth 20000 in
theorem dX7_count_88 : decode cX7_count 88 = .ok (.aload_n 0, 1) := by decide +kernel
set_option maxRecDepth 20000 in
theorem dX7_count_89 : decode cX7_count 89 = .ok (.getfield 26, 3) := by decide +kernel
set_option maxRecDepth 20000 in
theorem dX7_count_92 : decode cX7_count 92 = .ok (.aload_n 0, 1) := by decide +kernel
set_option maxRecDepth 20000 in
theorem dX7_count_93 : decode cX7_count 93 = .ok (.getfield 10, 3) := by decide +kernel
set_option maxRecDepth 20000 in
theorem dX7_count_96 : decode cX7_count 96 = .ok (.invokevirtual 92, 3) := by decide +kernel
set_option maxRecDepth 20000 in
theorem dX7_count_99 : decode cX7_count 99 = .ok (.invokevirtual 109, 3) := by decide +kernel
set_option maxRecDepth 20000 in
theorem dX7_count_102 : decode cX7_count 102 = .ok (.ireturn, 1) := by decide +kernel
set_option maxRecDepth 20000 in
theorem dX7_count_103 : decode cX7_count 103 = .ok (.aload_n 0, 1) := by decide +kernel
set_option maxRecDepth 20000 in
theorem dX7_count_104 : decode cX7_count 104 = .ok (.getfield 19, 3) := by decide +kernel
set_option maxRecDepth 20000 in
theorem dX7_count_107 : decode cX7_count 107 = .ok (.invokevirtual 112, 3) := by decide +kernel
set_option maxRecDepth 20000 in
theorem dX7_count_110 : decode cX7_count 110 = .ok (.ireturn, 1) := by decide +kernel
set_option maxRecDepth 20000 in
theorem dX7_count_111 : decode cX7_count 111 = .ok (.aload_n 0, 1) := by decide +kernel
set_option maxRecDepth 20000 in
theorem dX7_count_112 : decode cX7_count 112 = .ok (.getfield 33, 3) := by decide +kernel
set_option maxRecDepth 20000 in
theorem dX7_count_115 : decode cX7_count 115 = .ok (.invokevirtual 113, 3) := by decide +kernel
set_option maxRecDepth 20000 in
theorem dX7_count_118 : decode cX7_count 118 = .ok (.ireturn, 1) := by decide +kernel
set_option maxRecDepth 20000 in
theorem dX7_count_119 : decode cX7_count 119 = .ok (.bipush (-11), 2) := by decide +kernel
set_option maxRecDepth 20000 in
theorem dX7_count_121 : decode cX7_count 121 = .ok (.ireturn, 1) := by decide +kernel
set_option maxRecDepth 20000 in
theorem dX7_undo_0 : decode cX7_undo 0 = .ok (.aload_n 0, 1) := by decide +kernel
set_option maxRecDepth 20000 in
theorem dX7_undo_1 : decode cX7_undo 1 = .ok (.getfield 19, 3) := by decide +kernel
set_option maxRecDepth 20000 in
theorem dX7_undo_4 : decode cX7_undo 4 = .ok (.invokevirtual 112, 3) := by decide +kernel
set_option maxRecDepth 20000 in
theorem dX7_undo_7 : decode cX7_undo 7 = .ok (.ifCond .gt 6, 3) := by decide +kernel
set_option maxRecDepth 20000 in
theorem dX7_undo_10 : decode cX7_undo 10 = .ok (.bipush (-12), 2) := by decide +kernel
set_option maxRecDepth 20000 in
theorem dX7_undo_12 : decode cX7_undo 12 = .ok (.ireturn, 1) := by decide +kernel
set_option maxRecDepth 20000 in
theorem dX7_undo_13 : decode cX7_undo 13 = .ok (.aload_n 0, 1) := by decide +kernel
set_option maxRecDepth 20000 in
theorem dX7_undo_14 : decode cX7_undo 14 = .ok (.getfield 19, 3) := by decide +kernel
set_option maxRecDepth 20000 in
theorem dX7_undo_17 : decode cX7_undo 17 = .ok (.aload_n 0, 1) := by decide +kernel
set_option maxRecDepth 20000 in
theorem dX7_undo_18 : decode cX7_undo 18 = .ok (.getfield 10, 3) := by decide +kernel
set_option maxRecDepth 20000 in
theorem dX7_undo_21 : decode cX7_undo 21 = .ok (.invokevirtual 116, 3) := by decide +kernel
set_option maxRecDepth 20000 in
theorem dX7_undo_24 : decode cX7_undo 24 = .ok (.aload_n 0, 1) := by decide +kernel
set_option maxRecDepth 20000 in
theorem dX7_undo_25 : decode cX7_undo 25 = .ok (.getfield 26, 3) := by decide +kernel
set_option maxRecDepth 20000 in
theorem dX7_undo_28 : decode cX7_undo 28 = .ok (.invokevirtual 120, 3) := by decide +kernel
set_option maxRecDepth 20000 in
theorem dX7_undo_31 : decode cX7_undo 31 = .ok (.aload_n 0, 1) := by decide +kernel
set_option maxRecDepth 20000 in
theorem dX7_undo_32 : decode cX7_undo 32 = .ok (.getfield 19, 3) := by decide +kernel
set_option maxRecDepth 20000 in
theorem dX7_undo_35 : decode cX7_undo 35 = .ok (.invokevirtual 112, 3) := by decide +kernel
set_option maxRecDepth 20000 in
theorem dX7_undo_38 : decode cX7_undo 38 = .ok (.ireturn, 1) := by decide +kernel
set_option maxRecDepth 20000 in
theorem dX7_rule_0 : decode cX7_rule 0 = .ok (.iload_n 1, 1) := by decide +kernel
set_option maxRecDepth 20000 in
theorem dX7_rule_1 : decode cX7_rule 1 = .ok (.iconst (-1), 1) := by decide +kernel
set_option maxRecDepth 20000 in
theorem dX7_rule_2 : decode cX7_rule 2 = .ok (.iconst 5, 1) := by decide +kernel
set_option maxRecDepth 20000 in
theorem dX7_rule_3 : decode cX7_rule 3 = .ok (.invokestatic 47, 3) := by decide +kernel
set_option maxRecDepth 20000 in
theorem dX7_rule_6 : decode cX7_rule 6 = .ok (.ifCond .eq 26, 3) := by decide +kernel
set_option maxRecDepth 20000 in
theorem dX7_rule_9 : decode cX7_rule 9 = .ok (.iload_n 2, 1) := by decide +kernel
set_option maxRecDepth 20000 in
theorem dX7_rule_10 : decode cX7_rule 10 = .ok (.iconst 0, 1) := by decide +kernel
set_option maxRecDepth 20000 in
theorem dX7_rule_11 : decode cX7_rule 11 = .ok (.bipush 15, 2) := by decide +kernel
set_option maxRecDepth 20000 in
theorem dX7_rule_13 : decode cX7_rule 13 = .ok (.invokestatic 47, 3) := by decide +kernel
set_option maxRecDepth 20000 in
theorem dX7_rule_16 : decode cX7_rule 16 = .ok (.ifCond .eq 16, 3) := by decide +kernel
set_option maxRecDepth 20000 in
theorem dX7_rule_19 : decode cX7_rule 19 = .ok (.iload_n 3, 1) := by decide +kernel
set_option maxRecDepth 20000 in
theorem dX7_rule_20 : decode cX7_rule 20 = .ok (.iconst (-1), 1) := by decide +kernel
set_option maxRecDepth 20000 in
theorem dX7_rule_21 : decode cX7_rule 21 = .ok (.iconst 5, 1) := by decide +kernel
set_option maxRecDepth 20000 in
theorem dX7_rule_22 : decode cX7_rule 22 = .ok (.invokestatic 47, 3) := by decide +kernel
set_option maxRecDepth 20000 in
theorem dX7_rule_25 : decode cX7_rule 25 = .ok (.ifCond .eq 7, 3) := by decide +kernel
set_option maxRecDepth 20000 in
theorem dX7_rule_28 : decode cX7_rule 28 = .ok (.iconst 1, 1) := by decide +kernel
set_option maxRecDepth 20000 in
theorem dX7_rule_29 : decode cX7_rule 29 = .ok (.goto 4, 3) := by decide +kernel
set_option maxRecDepth 20000 in
theorem dX7_rule_32 : decode cX7_rule 32 = .ok (.iconst 0, 1) := by decide +kernel
set_option maxRecDepth 20000 in
theorem dX7_rule_33 : decode cX7_rule 33 = .ok (.istore 7, 2) := by decide +kernel
set_option maxRecDepth 20000 in
theorem dX7_rule_35 : decode cX7_rule 35 = .ok (.iload 4, 2) := by decide +kernel
set_option maxRecDepth 20000 in
theorem dX7_rule_37 : decode cX7_rule 37 = .ok (.iconst 0, 1) := by decide +kernel
set_option maxRecDepth 20000 in
theorem dX7_rule_38 : decode cX7_rule 38 = .ok (.iconst 3, 1) := by decide +kernel
set_option maxRecDepth 20000 in
theorem dX7_rule_39 : decode cX7_rule 39 = .ok (.invokestatic 47, 3) := by decide +kernel
set_option maxRecDepth 20000 in
theorem dX7_rule_42 : decode cX7_rule 42 = .ok (.ifCond .eq 38, 3) := by decide +kernel
set_option maxRecDepth 20000 in
theorem dX7_rule_45 : decode cX7_rule 45 = .ok (.iload 6, 2) := by decide +kernel
set_option maxRecDepth 20000 in
theorem dX7_rule_47 : decode cX7_rule 47 = .ok (.iconst 0, 1) := by decide +kernel
set_option maxRecDepth 20000 in
theorem dX7_rule_48 : decode cX7_rule 48 = .ok (.iconst 1, 1) := by decide +kernel
set_option maxRecDepth 20000 in
theorem dX7_rule_49 : decode cX7_rule 49 = .ok (.invokestatic 47, 3) := by decide +kernel
set_option maxRecDepth 20000 in
theorem dX7_rule_52 : decode cX7_rule 52 = .ok (.ifCond .eq 28, 3) := by decide +kernel
set_option maxRecDepth 20000 in
theorem dX7_rule_55 : decode cX7_rule 55 = .ok (.iload 5, 2) := by decide +kernel
set_option maxRecDepth 20000 in
theorem dX7_rule_57 : decode cX7_rule 57 = .ok (.iconst (-1), 1) := by decide +kernel
set_option maxRecDepth 20000 in
theorem dX7_rule_58 : decode cX7_rule 58 = .ok (.if_icmp .eq 18, 3) := by decide +kernel
set_option maxRecDepth 20000 in
theorem dX7_rule_61 : decode cX7_rule 61 = .ok (.aload_n 0, 1) := by decide +kernel
set_option maxRecDepth 20000 in
theorem dX7_rule_62 : decode cX7_rule 62 = .ok (.getfield 10, 3) := by decide +kernel
set_option maxRecDepth 20000 in
theorem dX7_rule_65 : decode cX7_rule 65 = .ok (.getfield 37, 3) := by decide +kernel
set_option maxRecDepth 20000 in
theorem dX7_rule_68 : decode cX7_rule 68 = .ok (.iload 5, 2) := by decide +kernel
set_option maxRecDepth 20000 in
theorem dX7_rule_70 : decode cX7_rule 70 = .ok (.invokevirtual 41, 3) := by decide +kernel
set_option maxRecDepth 20000 in
theorem dX7_rule_73 : decode cX7_rule 73 = .ok (.ifCond .eq 7, 3) := by decide +kernel
set_option maxRecDepth 20000 in
theorem dX7_rule_76 : decode cX7_rule 76 = .ok (.iconst 1, 1) := by decide +kernel
set_option maxRecDepth 20000 in
theorem dX7_rule_77 : decode cX7_rule 77 = .ok (.goto 4, 3) := by decide +kernel
set_option maxRecDepth 20000 in
theorem dX7_rule_80 : decode cX7_rule 80 = .ok (.iconst 0, 1) := by decide +kernel
set_option maxRecDepth 20000 in
theorem dX7_rule_81 : decode cX7_rule 81 = .ok (.istore 8, 2) := by decide +kernel
set_option maxRecDepth 20000 in
theorem dX7_rule_83 : decode cX7_rule 83 = .ok (.iload 7, 2) := by decide +kernel
set_option maxRecDepth 20000 in
theorem dX7_rule_85 : decode cX7_rule 85 = .ok (.ifCond .eq 8, 3) := by decide +kernel
set_option maxRecDepth 20000 in
theorem dX7_rule_88 : decode cX7_rule 88 = .ok (.iload 8, 2) := by decide +kernel
set_option maxRecDepth 20000 in
theorem dX7_rule_90 : decode cX7_rule 90 = .ok (.ifCond .ne 6, 3) := by decide +kernel
set_option maxRecDepth 20000 in
theorem dX7_rule_93 : decode cX7_rule 93 = .ok (.bipush (-11), 2) := by decide +kernel
set_option maxRecDepth 20000 in
theorem dX7_rule_95 : decode cX7_rule 95 = .ok (.ireturn, 1) := by decide +kernel
set_option maxRecDepth 20000 in
theorem dX7_rule_96 : decode cX7_rule 96 = .ok (.aload_n 0, 1) := by decide +kernel
set_option maxRecDepth 20000 in
theorem dX7_rule_97 : decode cX7_rule 97 = .ok (.getfield 10, 3) := by decide +kernel
set_option maxRecDepth 20000 in
theorem dX7_rule_100 : decode cX7_rule 100 = .ok (.getfield 62, 3) := by decide +kernel
set_option maxRecDepth 20000 in
theorem dX7_rule_103 : decode cX7_rule 103 = .ok (.invokevirtual 102, 3) := by decide +kernel
set_option maxRecDepth 20000 in
theorem dX7_rule_106 : decode cX7_rule 106 = .ok (.bipush 16, 2) := by decide +kernel
set_option maxRecDepth 20000 in
theorem dX7_rule_108 : decode cX7_rule 108 = .ok (.if_icmp .lt 6, 3) := by decide +kernel
set_option maxRecDepth 20000 in
theorem dX7_rule_111 : decode cX7_rule 111 = .ok (.bipush (-13), 2) := by decide +kernel
set_option maxRecDepth 20000 in
theorem dX7_rule_113 : decode cX7_rule 113 = .ok (.ireturn, 1) := by decide +kernel
set_option maxRecDepth 20000 in
theorem dX7_rule_114 : decode cX7_rule 114 = .ok (.aload_n 0, 1) := by decide +kernel
set_option maxRecDepth 20000 in
theorem dX7_rule_115 : decode cX7_rule 115 = .ok (.invokevirtual 55, 3) := by decide +kernel
set_option maxRecDepth 20000 in
theorem dX7_rule_118 : decode cX7_rule 118 = .ok (.aload_n 0, 1) := by decide +kernel
set_option maxRecDepth 20000 in
theorem dX7_rule_119 : decode cX7_rule 119 = .ok (.getfield 10, 3) := by decide +kernel
set_option maxRecDepth 20000 in
theorem dX7_rule_122 : decode cX7_rule 122 = .ok (.getfield 62, 3) := by decide +kernel
set_option maxRecDepth 20000 in
theorem dX7_rule_125 : decode cX7_rule 125 = .ok (.iload_n 1, 1) := by decide +kernel
set_option maxRecDepth 20000 in
theorem dX7_rule_126 : decode cX7_rule 126 = .ok (.iload_n 2, 1) := by decide +kernel
set_option maxRecDepth 20000 in
theorem dX7_rule_127 : decode cX7_rule 127 = .ok (.iload_n 3, 1) := by decide +kernel
set_option maxRecDepth 20000 in
theorem dX7_rule_128 : decode cX7_rule 128 = .ok (.iload 4, 2) := by decide +kernel
set_option maxRecDepth 20000 in
theorem dX7_rule_130 : decode cX7_rule 130 = .ok (.iload 5, 2) := by decide +kernel
set_option maxRecDepth 20000 in
theorem dX7_rule_132 : decode cX7_rule 132 = .ok (.iload 6, 2) := by decide +kernel
set_option maxRecDepth 20000 in
theorem dX7_rule_134 : decode cX7_rule 134 = .ok (.invokevirtual 123, 3) := by decide +kernel
set_option maxRecDepth 20000 in
theorem dX7_rule_137 : decode cX7_rule 137 = .ok (.ireturn, 1) := by decide +kernel
set_option maxRecDepth 20000 in
theorem dX7_drop_0 : decode cX7_drop 0 = .ok (.aload_n 0, 1) := by decide +kernel
set_option maxRecDepth 20000 in
theorem dX7_drop_1 : decode cX7_drop 1 = .ok (.getfield 10, 3) := by decide +kernel
set_option maxRecDepth 20000 in
theorem dX7_drop_4 : decode cX7_drop 4 = .ok (.getfield 62, 3) := by decide +kernel
set_option maxRecDepth 20000 in
theorem dX7_drop_7 : decode cX7_drop 7 = .ok (.iload_n 1, 1) := by decide +kernel
set_option maxRecDepth 20000 in
theorem dX7_drop_8 : decode cX7_drop 8 = .ok (.invokevirtual 126, 3) := by decide +kernel
set_option maxRecDepth 20000 in
theorem dX7_drop_11 : decode cX7_drop 11 = .ok (.ifCond .ne 6, 3) := by decide +kernel
set_option maxRecDepth 20000 in
theorem dX7_drop_14 : decode cX7_drop 14 = .ok (.bipush (-11), 2) := by decide +kernel
set_option maxRecDepth 20000 in
theorem dX7_drop_16 : decode cX7_drop 16 = .ok (.ireturn, 1) := by decide +kernel
set_option maxRecDepth 20000 in
theorem dX7_drop_17 : decode cX7_drop 17 = .ok (.aload_n 0, 1) := by decide +kernel
set_option maxRecDepth 20000 in
theorem dX7_drop_18 : decode cX7_drop 18 = .ok (.invokevirtual 55, 3) := by decide +kernel
set_option maxRecDepth 20000 in
theorem dX7_drop_21 : decode cX7_drop 21 = .ok (.aload_n 0, 1) := by decide +kernel
set_option maxRecDepth 20000 in
theorem dX7_drop_22 : decode cX7_drop 22 = .ok (.getfield 10, 3) := by decide +kernel
set_option maxRecDepth 20000 in
theorem dX7_drop_25 : decode cX7_drop 25 = .ok (.getfield 62, 3) := by decide +kernel
set_option maxRecDepth 20000 in
theorem dX7_drop_28 : decode cX7_drop 28 = .ok (.iload_n 1, 1) := by decide +kernel
set_option maxRecDepth 20000 in
theorem dX7_drop_29 : decode cX7_drop 29 = .ok (.invokevirtual 127, 3) := by decide +kernel
set_option maxRecDepth 20000 in
theorem dX7_drop_32 : decode cX7_drop 32 = .ok (.ireturn, 1) := by decide +kernel
set_option maxRecDepth 20000 in
theorem dX7_declare_0 : decode cX7_declare 0 = .ok (.aload_n 0, 1) := by decide +kernel
set_option maxRecDepth 20000 in
theorem dX7_declare_1 : decode cX7_declare 1 = .ok (.getfield 10, 3) := by decide +kernel
set_option maxRecDepth 20000 in
theorem dX7_declare_4 : decode cX7_declare 4 = .ok (.getfield 62, 3) := by decide +kernel
set_option maxRecDepth 20000 in
theorem dX7_declare_7 : decode cX7_declare 7 = .ok (.iload_n 1, 1) := by decide +kernel
set_option maxRecDepth 20000 in
theorem dX7_declare_8 : decode cX7_declare 8 = .ok (.invokevirtual 126, 3) := by decide +kernel
set_option maxRecDepth 20000 in
theorem dX7_declare_11 : decode cX7_declare 11 = .ok (.ifCond .eq 21, 3) := by decide +kernel
set_option maxRecDepth 20000 in
theorem dX7_declare_14 : decode cX7_declare 14 = .ok (.iload_n 2, 1) := by decide +kernel
set_option maxRecDepth 20000 in
theorem dX7_declare_15 : decode cX7_declare 15 = .ok (.invokestatic 130, 3) := by decide +kernel
set_option maxRecDepth 20000 in
theorem dX7_declare_18 : decode cX7_declare 18 = .ok (.ifCond .eq 14, 3) := by decide +kernel
set_option maxRecDepth 20000 in
theorem dX7_declare_21 : decode cX7_declare 21 = .ok (.iload_n 3, 1) := by decide +kernel
set_option maxRecDepth 20000 in
theorem dX7_declare_22 : decode cX7_declare 22 = .ok (.iconst 0, 1) := by decide +kernel
set_option maxRecDepth 20000 in
theorem dX7_declare_23 : decode cX7_declare 23 = .ok (.sipush 999, 3) := by decide +kernel
set_option maxRecDepth 20000 in
theorem dX7_declare_26 : decode cX7_declare 26 = .ok (.invokestatic 47, 3) := by decide +kernel
set_option maxRecDepth 20000 in
theorem dX7_declare_29 : decode cX7_declare 29 = .ok (.ifCond .ne 6, 3) := by decide +kernel
set_option maxRecDepth 20000 in
theorem dX7_declare_32 : decode cX7_declare 32 = .ok (.bipush (-11), 2) := by decide +kernel
set_option maxRecDepth 20000 in
theorem dX7_declare_34 : decode cX7_declare 34 = .ok (.ireturn, 1) := by decide +kernel
set_option maxRecDepth 20000 in
theorem dX7_declare_35 : decode cX7_declare 35 = .ok (.aload_n 0, 1) := by decide +kernel
set_option maxRecDepth 20000 in
theorem dX7_declare_36 : decode cX7_declare 36 = .ok (.invokevirtual 55, 3) := by decide +kernel
set_option maxRecDepth 20000 in
theorem dX7_declare_39 : decode cX7_declare 39 = .ok (.aload_n 0, 1) := by decide +kernel
set_option maxRecDepth 20000 in
theorem dX7_declare_40 : decode cX7_declare 40 = .ok (.getfield 10, 3) := by decide +kernel
set_option maxRecDepth 20000 in
theorem dX7_declare_43 : decode cX7_declare 43 = .ok (.getfield 62, 3) := by decide +kernel
set_option maxRecDepth 20000 in
theorem dX7_declare_46 : decode cX7_declare 46 = .ok (.iload_n 1, 1) := by decide +kernel
set_option maxRecDepth 20000 in
theorem dX7_declare_47 : decode cX7_declare 47 = .ok (.iload_n 2, 1) := by decide +kernel
set_option maxRecDepth 20000 in
theorem dX7_declare_48 : decode cX7_declare 48 = .ok (.iload_n 3, 1) := by decide +kernel
set_option maxRecDepth 20000 in
theorem dX7_declare_49 : decode cX7_declare 49 = .ok (.iconst (-1), 1) := by decide +kernel
set_option maxRecDepth 20000 in
theorem dX7_declare_50 : decode cX7_declare 50 = .ok (.iconst (-1), 1) := by decide +kernel
set_option maxRecDepth 20000 in
theorem dX7_declare_51 : decode cX7_declare 51 = .ok (.invokevirtual 133, 3) := by decide +kernel
set_option maxRecDepth 20000 in
theorem dX7_declare_54 : decode cX7_declare 54 = .ok (.aload_n 0, 1) := by decide +kernel
set_option maxRecDepth 20000 in
theorem dX7_declare_55 : decode cX7_declare 55 = .ok (.getfield 10, 3) := by decide +kernel
set_option maxRecDepth 20000 in
theorem dX7_declare_58 : decode cX7_declare 58 = .ok (.getfield 62, 3) := by decide +kernel
set_option maxRecDepth 20000 in
theorem dX7_declare_61 : decode cX7_declare 61 = .ok (.iload_n 1, 1) := by decide +kernel
set_option maxRecDepth 20000 in
theorem dX7_declare_62 : decode cX7_declare 62 = .ok (.invokevirtual 137, 3) := by decide +kernel
set_option maxRecDepth 20000 in
theorem dX7_declare_65 : decode cX7_declare 65 = .ok (.ireturn, 1) := by decide +kernel
set_option maxRecDepth 20000 in
theorem dX7_refer_0 : decode cX7_refer 0 = .ok (.aload_n 0, 1) := by decide +kernel
set_option maxRecDepth 20000 in
theorem dX7_refer_1 : decode cX7_refer 1 = .ok (.getfield 10, 3) := by decide +kernel
set_option maxRecDepth 20000 in
theorem dX7_refer_4 : decode cX7_refer 4 = .ok (.getfield 62, 3) := by decide +kernel
set_option maxRecDepth 20000 in
theorem dX7_refer_7 : decode cX7_refer 7 = .ok (.iload_n 1, 1) := by decide +kernel
set_option maxRecDepth 20000 in
theorem dX7_refer_8 : decode cX7_refer 8 = .ok (.invokevirtual 126, 3) := by decide +kernel
set_option maxRecDepth 20000 in
theorem dX7_refer_11 : decode cX7_refer 11 = .ok (.ifCond .eq 29, 3) := by decide +kernel
set_option maxRecDepth 20000 in
theorem dX7_refer_14 : decode cX7_refer 14 = .ok (.iload_n 2, 1) := by decide +kernel
set_option maxRecDepth 20000 in
theorem dX7_refer_15 : decode cX7_refer 15 = .ok (.invokestatic 130, 3) := by decide +kernel
set_option maxRecDepth 20000 in
theorem dX7_refer_18 : decode cX7_refer 18 = .ok (.ifCond .eq 22, 3) := by decide +kernel
set_option maxRecDepth 20000 in
theorem dX7_refer_21 : decode cX7_refer 21 = .ok (.iload_n 3, 1) := by decide +kernel
set_option maxRecDepth 20000 in
theorem dX7_refer_22 : decode cX7_refer 22 = .ok (.invokestatic 140, 3) := by decide +kernel
set_option maxRecDepth 20000 in
theorem dX7_refer_25 : decode cX7_refer 25 = .ok (.ifCond .eq 15, 3) := by decide +kernel
set_option maxRecDepth 20000 in
theorem dX7_refer_28 : decode cX7_refer 28 = .ok (.iload 4, 2) := by decide +kernel
set_option maxRecDepth 20000 in
theorem dX7_refer_30 : decode cX7_refer 30 = .ok (.iconst (-1), 1) := by decide +kernel
set_option maxRecDepth 20000 in
theorem dX7_refer_31 : decode cX7_refer 31 = .ok (.sipush 999, 3) := by decide +kernel
set_option maxRecDepth 20000 in
theorem dX7_refer_34 : decode cX7_refer 34 = .ok (.invokestatic 47, 3) := by decide +kernel
set_option maxRecDepth 20000 in
theorem dX7_refer_37 : decode cX7_refer 37 = .ok (.ifCond .ne 6, 3) := by decide +kernel
set_option maxRecDepth 20000 in
theorem dX7_refer_40 : decode cX7_refer 40 = .ok (.bipush (-11), 2) := by decide +kernel
set_option maxRecDepth 20000 in
theorem dX7_refer_42 : decode cX7_refer 42 = .ok (.ireturn, 1) := by decide +kernel
set_option maxRecDepth 20000 in
theorem dX7_refer_43 : decode cX7_refer 43 = .ok (.aload_n 0, 1) := by decide +kernel
set_option maxRecDepth 20000 in
theorem dX7_refer_44 : decode cX7_refer 44 = .ok (.invokevirtual 55, 3) := by decide +kernel
set_option maxRecDepth 20000 in
theorem dX7_refer_47 : decode cX7_refer 47 = .ok (.aload_n 0, 1) := by decide +kernel
set_option maxRecDepth 20000 in
theorem dX7_refer_48 : decode cX7_refer 48 = .ok (.getfield 10, 3) := by decide +kernel
set_option maxRecDepth 20000 in
theorem dX7_refer_51 : decode cX7_refer 51 = .ok (.getfield 62, 3) := by decide +kernel
set_option maxRecDepth 20000 in
theorem dX7_refer_54 : decode cX7_refer 54 = .ok (.iload_n 1, 1) := by decide +kernel
set_option maxRecDepth 20000 in
theorem dX7_refer_55 : decode cX7_refer 55 = .ok (.iload_n 2, 1) := by decide +kernel
set_option maxRecDepth 20000 in
theorem dX7_refer_56 : decode cX7_refer 56 = .ok (.iconst (-1), 1) := by decide +kernel
set_option maxRecDepth 20000 in
theorem dX7_refer_57 : decode cX7_refer 57 = .ok (.iload_n 3, 1) := by decide +kernel
set_option maxRecDepth 20000 in
theorem dX7_refer_58 : decode cX7_refer 58 = .ok (.iload 4, 2) := by decide +kernel
set_option maxRecDepth 20000 in
theorem dX7_refer_60 : decode cX7_refer 60 = .ok (.invokevirtual 133, 3) := by decide +kernel
set_option maxRecDepth 20000 in
theorem dX7_refer_63 : decode cX7_refer 63 = .ok (.aload_n 0, 1) := by decide +kernel
set_option maxRecDepth 20000 in
theorem dX7_refer_64 : decode cX7_refer 64 = .ok (.getfield 10, 3) := by decide +kernel
set_option maxRecDepth 20000 in
theorem dX7_refer_67 : decode cX7_refer 67 = .ok (.getfield 62, 3) := by decide +kernel
set_option maxRecDepth 20000 in
theorem dX7_refer_70 : decode cX7_refer 70 = .ok (.iload_n 1, 1) := by decide +kernel
set_option maxRecDepth 20000 in
theorem dX7_refer_71 : decode cX7_refer 71 = .ok (.invokevirtual 137, 3) := by decide +kernel
set_option maxRecDepth 20000 in
theorem dX7_refer_74 : decode cX7_refer 74 = .ok (.ireturn, 1) := by decide +kernel
set_option maxRecDepth 20000 in
theorem dX7_undeclare_0 : decode cX7_undeclare 0 = .ok (.aload_n 0, 1) := by decide +kernel
set_option maxRecDepth 20000 in
theorem dX7_undeclare_1 : decode cX7_undeclare 1 = .ok (.getfield 10, 3) := by decide +kernel
set_option maxRecDepth 20000 in
theorem dX7_undeclare_4 : decode cX7_undeclare 4 = .ok (.getfield 62, 3) := by decide +kernel
set_option maxRecDepth 20000 in
theorem dX7_undeclare_7 : decode cX7_undeclare 7 = .ok (.iload_n 1, 1) := by decide +kernel
set_option maxRecDepth 20000 in
theorem dX7_undeclare_8 : decode cX7_undeclare 8 = .ok (.invokevirtual 126, 3) := by decide +kernel
set_option maxRecDepth 20000 in
theorem dX7_undeclare_11 : decode cX7_undeclare 11 = .ok (.ifCond .eq 10, 3) := by decide +kernel
set_option maxRecDepth 20000 in
theorem dX7_undeclare_14 : decode cX7_undeclare 14 = .ok (.iload_n 2, 1) := by decide +kernel
set_option maxRecDepth 20000 in
theorem dX7_undeclare_15 : decode cX7_undeclare 15 = .ok (.invokestatic 130, 3) := by decide +kernel
set_option maxRecDepth 20000 in
theorem dX7_undeclare_18 : decode cX7_undeclare 18 = .ok (.ifCond .ne 6, 3) := by decide +kernel
set_option maxRecDepth 20000 in
theorem dX7_undeclare_21 : decode cX7_undeclare 21 = .ok (.bipush (-11), 2) := by decide +kernel
set_option maxRecDepth 20000 in
theorem dX7_undeclare_23 : decode cX7_undeclare 23 = .ok (.ireturn, 1) := by decide +kernel
set_option maxRecDepth 20000 in
theorem dX7_undeclare_24 : decode cX7_undeclare 24 = .ok (.aload_n 0, 1) := by decide +kernel
set_option maxRecDepth 20000 in
theorem dX7_undeclare_25 : decode cX7_undeclare 25 = .ok (.getfield 10, 3) := by decide +kernel
set_option maxRecDepth 20000 in
theorem dX7_undeclare_28 : decode cX7_undeclare 28 = .ok (.getfield 62, 3) := by decide +kernel
set_option maxRecDepth 20000 in
theorem dX7_undeclare_31 : decode cX7_undeclare 31 = .ok (.iload_n 1, 1) := by decide +kernel
set_option maxRecDepth 20000 in
theorem dX7_undeclare_32 : decode cX7_undeclare 32 = .ok (.iload_n 2, 1) := by decide +kernel
set_option maxRecDepth 20000 in
theorem dX7_undeclare_33 : decode cX7_undeclare 33 = .ok (.invokevirtual 143, 3) := by decide +kernel
set_option maxRecDepth 20000 in
theorem dX7_undeclare_36 : decode cX7_undeclare 36 = .ok (.ifCond .ne 6, 3) := by decide +kernel
set_option maxRecDepth 20000 in
theorem dX7_undeclare_39 : decode cX7_undeclare 39 = .ok (.bipush (-12), 2) := by decide +kernel
set_option maxRecDepth 20000 in
theorem dX7_undeclare_41 : decode cX7_undeclare 41 = .ok (.ireturn, 1) := by decide +kernel
set_option maxRecDepth 20000 in
theorem dX7_undeclare_42 : decode cX7_undeclare 42 = .ok (.aload_n 0, 1) := by decide +kernel
set_option maxRecDepth 20000 in
theorem dX7_undeclare_43 : decode cX7_undeclare 43 = .ok (.invokevirtual 55, 3) := by decide +kernel
set_option maxRecDepth 20000 in
theorem dX7_undeclare_46 : decode cX7_undeclare 46 = .ok (.aload_n 0, 1) := by decide +kernel
set_option maxRecDepth 20000 in
theorem dX7_undeclare_47 : decode cX7_undeclare 47 = .ok (.getfield 10, 3) := by decide +kernel
set_option maxRecDepth 20000 in
theorem dX7_undeclare_50 : decode cX7_undeclare 50 = .ok (.getfield 62, 3) := by decide +kernel
set_option maxRecDepth 20000 in
theorem dX7_undeclare_53 : decode cX7_undeclare 53 = .ok (.iload_n 1, 1) := by decide +kernel
set_option maxRecDepth 20000 in
theorem dX7_undeclare_54 : decode cX7_undeclare 54 = .ok (.iload_n 2, 1) := by decide +kernel
set_option maxRecDepth 20000 in
theorem dX7_undeclare_55 : decode cX7_undeclare 55 = .ok (.iconst (-1), 1) := by decide +kernel
set_option maxRecDepth 20000 in
theorem dX7_undeclare_56 : decode cX7_undeclare 56 = .ok (.iconst (-1), 1) := by decide +kernel
set_option maxRecDepth 20000 in
theorem dX7_undeclare_57 : decode cX7_undeclare 57 = .ok (.iconst (-1), 1) := by decide +kernel
set_option maxRecDepth 20000 in
theorem dX7_undeclare_58 : decode cX7_undeclare 58 = .ok (.invokevirtual 133, 3) := by decide +kernel
set_option maxRecDepth 20000 in
theorem dX7_undeclare_61 : decode cX7_undeclare 61 = .ok (.aload_n 0, 1) := by decide +kernel
set_option maxRecDepth 20000 in
theorem dX7_undeclare_62 : decode cX7_undeclare 62 = .ok (.getfield 10, 3) := by decide +kernel
set_option maxRecDepth 20000 in
theorem dX7_undeclare_65 : decode cX7_undeclare 65 = .ok (.getfield 62, 3) := by decide +kernel
set_option maxRecDepth 20000 in
theorem dX7_undeclare_68 : decode cX7_undeclare 68 = .ok (.iload_n 1, 1) := by decide +kernel
set_option maxRecDepth 20000 in
theorem dX7_undeclare_69 : decode cX7_undeclare 69 = .ok (.invokevirtual 137, 3) := by decide +kernel
set_option maxRecDepth 20000 in
theorem dX7_undeclare_72 : decode cX7_undeclare 72 = .ok (.ireturn, 1) := by decide +kernel
set_option maxRecDepth 20000 in
theorem dX7_ruleOf_0 : decode cX7_ruleOf 0 = .ok (.aload_n 0, 1) := by decide +kernel
set_option maxRecDepth 20000 in
theorem dX7_ruleOf_1 : decode cX7_ruleOf 1 = .ok (.getfield 10, 3) := by decide +kernel
set_option maxRecDepth 20000 in
theorem dX7_ruleOf_4 : decode cX7_ruleOf 4 = .ok (.getfield 62, 3) := by decide +kernel
set_option maxRecDepth 20000 in
theorem dX7_ruleOf_7 : decode cX7_ruleOf 7 = .ok (.iload_n 1, 1) := by decide +kernel
set_option maxRecDepth 20000 in
theorem dX7_ruleOf_8 : decode cX7_ruleOf 8 = .ok (.invokevirtual 126, 3) := by decide +kernel
set_option maxRecDepth 20000 in
theorem dX7_ruleOf_11 : decode cX7_ruleOf 11 = .ok (.ifCond .ne 6, 3) := by decide +kernel
set_option maxRecDepth 20000 in
theorem dX7_ruleOf_14 : decode cX7_ruleOf 14 = .ok (.bipush (-11), 2) := by decide +kernel
set_option maxRecDepth 20000 in
theorem dX7_ruleOf_16 : decode cX7_ruleOf 16 = .ok (.ireturn, 1) := by decide +kernel
set_option maxRecDepth 20000 in
theorem dX7_ruleOf_17 : decode cX7_ruleOf 17 = .ok (.iload_n 2, 1) := by decide +kernel
set_option maxRecDepth 20000 in
theorem dX7_ruleOf_18 : decode cX7_ruleOf 18 = .ok (.tableswitch 103 0 8 #[50, 50, 50, 50, 50, 50, 63, 75, 87], 50) := by decide +kernel
set_option maxRecDepth 20000 in
theorem dX7_ruleOf_68 : decode cX7_ruleOf 68 = .ok (.aload_n 0, 1) := by decide +kernel
set_option maxRecDepth 20000 in
theorem dX7_ruleOf_69 : decode cX7_ruleOf 69 = .ok (.getfield 10, 3) := by decide +kernel
set_option maxRecDepth 20000 in
theorem dX7_ruleOf_72 : decode cX7_ruleOf 72 = .ok (.getfield 62, 3) := by decide +kernel
set_option maxRecDepth 20000 in
theorem dX7_ruleOf_75 : decode cX7_ruleOf 75 = .ok (.iload_n 1, 1) := by decide +kernel
set_option maxRecDepth 20000 in
theorem dX7_ruleOf_76 : decode cX7_ruleOf 76 = .ok (.iload_n 2, 1) := by decide +kernel
set_option maxRecDepth 20000 in
theorem dX7_ruleOf_77 : decode cX7_ruleOf 77 = .ok (.invokevirtual 147, 3) := by decide +kernel
set_option maxRecDepth 20000 in
theorem dX7_ruleOf_80 : decode cX7_ruleOf 80 = .ok (.ireturn, 1) := by decide +kernel
set_option maxRecDepth 20000 in
theorem dX7_ruleOf_81 : decode cX7_ruleOf 81 = .ok (.aload_n 0, 1) := by decide +kernel
set_option maxRecDepth 20000 in
theorem dX7_ruleOf_82 : decode cX7_ruleOf 82 = .ok (.getfield 10, 3) := by decide +kernel
set_option maxRecDepth 20000 in
theorem dX7_ruleOf_85 : decode cX7_ruleOf 85 = .ok (.getfield 62, 3) := by decide +kernel
set_option maxRecDepth 20000 in
theorem dX7_ruleOf_88 : decode cX7_ruleOf 88 = .ok (.iload_n 1, 1) := by decide +kernel
set_option maxRecDepth 20000 in
theorem dX7_ruleOf_89 : decode cX7_ruleOf 89 = .ok (.invokevirtual 150, 3) := by decide +kernel
set_option maxRecDepth 20000 in
theorem dX7_ruleOf_92 : decode cX7_ruleOf 92 = .ok (.ireturn, 1) := by decide +kernel
set_option maxRecDepth 20000 in
theorem dX7_ruleOf_93 : decode cX7_ruleOf 93 = .ok (.aload_n 0, 1) := by decide +kernel
set_option maxRecDepth 20000 in
theorem dX7_ruleOf_94 : decode cX7_ruleOf 94 = .ok (.getfield 10, 3) := by decide +kernel
set_option maxRecDepth 20000 in
theorem dX7_ruleOf_97 : decode cX7_ruleOf 97 = .ok (.getfield 62, 3) := by decide +kernel
set_option maxRecDepth 20000 in
theorem dX7_ruleOf_100 : decode cX7_ruleOf 100 = .ok (.iload_n 1, 1) := by decide +kernel
set_option maxRecDepth 20000 in
theorem dX7_ruleOf_101 : decode cX7_ruleOf 101 = .ok (.invokevirtual 137, 3) := by decide +kernel
set_option maxRecDepth 20000 in
theorem dX7_ruleOf_104 : decode cX7_ruleOf 104 = .ok (.ireturn, 1) := by decide +kernel
set_option maxRecDepth 20000 in
theorem dX7_ruleOf_105 : decode cX7_ruleOf 105 = .ok (.aload_n 0, 1) := by decide +kernel
set_option maxRecDepth 20000 in
theorem dX7_ruleOf_106 : decode cX7_ruleOf 106 = .ok (.getfield 26, 3) := by decide +kernel
set_option maxRecDepth 20000 in
theorem dX7_ruleOf_109 : decode cX7_ruleOf 109 = .ok (.aload_n 0, 1) := by decide +kernel
set_option maxRecDepth 20000 in
theorem dX7_ruleOf_110 : decode cX7_ruleOf 110 = .ok (.getfield 10, 3) := by decide +kernel
set_option maxRecDepth 20000 in
theorem dX7_ruleOf_113 : decode cX7_ruleOf 113 = .ok (.invokevirtual 92, 3) := by decide +kernel
set_option maxRecDepth 20000 in
theorem dX7_ruleOf_116 : decode cX7_ruleOf 116 = .ok (.iload_n 1, 1) := by decide +kernel
set_option maxRecDepth 20000 in
theorem dX7_ruleOf_117 : decode cX7_ruleOf 117 = .ok (.invokevirtual 153, 3) := by decide +kernel
set_option maxRecDepth 20000 in
theorem dX7_ruleOf_120 : decode cX7_ruleOf 120 = .ok (.ireturn, 1) := by decide +kernel
set_option maxRecDepth 20000 in
theorem dX7_ruleOf_121 : decode cX7_ruleOf 121 = .ok (.bipush (-11), 2) := by decide +kernel
set_option maxRecDepth 20000 in
theorem dX7_ruleOf_123 : decode cX7_ruleOf 123 = .ok (.ireturn, 1) := by decide +kernel
set_option maxRecDepth 20000 in
theorem dX7_declared_0 : decode cX7_declared 0 = .ok (.aload_n 0, 1) := by decide +kernel
set_option maxRecDepth 20000 in
theorem dX7_declared_1 : decode cX7_declared 1 = .ok (.getfield 10, 3) := by decide +kernel
set_option maxRecDepth 20000 in
theorem dX7_declared_4 : decode cX7_declared 4 = .ok (.getfield 62, 3) := by decide +kernel
set_option maxRecDepth 20000 in
theorem dX7_declared_7 : decode cX7_declared 7 = .ok (.iload_n 1, 1) := by decide +kernel
set_option maxRecDepth 20000 in
theorem dX7_declared_8 : decode cX7_declared 8 = .ok (.invokevirtual 126, 3) := by decide +kernel
set_option maxRecDepth 20000 in
theorem dX7_declared_11 : decode cX7_declared 11 = .ok (.ifCond .eq 19, 3) := by decide +kernel
set_option maxRecDepth 20000 in
theorem dX7_declared_14 : decode cX7_declared 14 = .ok (.iload_n 2, 1) := by decide +kernel
set_option maxRecDepth 20000 in
theorem dX7_declared_15 : decode cX7_declared 15 = .ok (.invokestatic 130, 3) := by decide +kernel
set_option maxRecDepth 20000 in
theorem dX7_declared_18 : decode cX7_declared 18 = .ok (.ifCond .eq 12, 3) := by decide +kernel
set_option maxRecDepth 20000 in
theorem dX7_declared_21 : decode cX7_declared 21 = .ok (.iload_n 3, 1) := by decide +kernel
set_option maxRecDepth 20000 in
theorem dX7_declared_22 : decode cX7_declared 22 = .ok (.iconst 0, 1) := by decide +kernel
set_option maxRecDepth 20000 in
theorem dX7_declared_23 : decode cX7_declared 23 = .ok (.iconst 2, 1) := by decide +kernel
set_option maxRecDepth 20000 in
theorem dX7_declared_24 : decode cX7_declared 24 = .ok (.invokestatic 47, 3) := by decide +kernel
set_option maxRecDepth 20000 in
theorem dX7_declared_27 : decode cX7_declared 27 = .ok (.ifCond .ne 6, 3) := by decide +kernel
set_option maxRecDepth 20000 in
theorem dX7_declared_30 : decode cX7_declared 30 = .ok (.bipush (-11), 2) := by decide +kernel
set_option maxRecDepth 20000 in
theorem dX7_declared_32 : decode cX7_declared 32 = .ok (.ireturn, 1) := by decide +kernel
set_option maxRecDepth 20000 in
theorem dX7_declared_33 : decode cX7_declared 33 = .ok (.aload_n 0, 1) := by decide +kernel
set_option maxRecDepth 20000 in
theorem dX7_declared_34 : decode cX7_declared 34 = .ok (.getfield 10, 3) := by decide +kernel
set_option maxRecDepth 20000 in
theorem dX7_declared_37 : decode cX7_declared 37 = .ok (.getfield 62, 3) := by decide +kernel
set_option maxRecDepth 20000 in
theorem dX7_declared_40 : decode cX7_declared 40 = .ok (.iload_n 1, 1) := by decide +kernel
set_option maxRecDepth 20000 in
theorem dX7_declared_41 : decode cX7_declared 41 = .ok (.iload_n 2, 1) := by decide +kernel
set_option maxRecDepth 20000 in
theorem dX7_declared_42 : decode cX7_declared 42 = .ok (.iload_n 3, 1) := by decide +kernel
set_option maxRecDepth 20000 in
theorem dX7_declared_43 : decode cX7_declared 43 = .ok (.invokevirtual 156, 3) := by decide +kernel
set_option maxRecDepth 20000 in
theorem dX7_declared_46 : decode cX7_declared 46 = .ok (.bipush (-14), 2) := by decide +kernel
set_option maxRecDepth 20000 in
theorem dX7_declared_48 : decode cX7_declared 48 = .ok (.invokestatic 159, 3) := by decide +kernel
set_option maxRecDepth 20000 in
theorem dX7_declared_51 : decode cX7_declared 51 = .ok (.ireturn, 1) := by decide +kernel
set_option maxRecDepth 20000 in
theorem dX7_matches_0 : decode cX7_matches 0 = .ok (.aload_n 0, 1) := by decide +kernel
set_option maxRecDepth 20000 in
theorem dX7_matches_1 : decode cX7_matches 1 = .ok (.getfield 10, 3) := by decide +kernel
set_option maxRecDepth 20000 in
theorem dX7_matches_4 : decode cX7_matches 4 = .ok (.getfield 62, 3) := by decide +kernel
set_option maxRecDepth 20000 in
theorem dX7_matches_7 : decode cX7_matches 7 = .ok (.iload_n 1, 1) := by decide +kernel
set_option maxRecDepth 20000 in
theorem dX7_matches_8 : decode cX7_matches 8 = .ok (.invokevirtual 126, 3) := by decide +kernel
set_option maxRecDepth 20000 in
theorem dX7_matches_11 : decode cX7_matches 11 = .ok (.ifCond .eq 17, 3) := by decide +kernel
set_option maxRecDepth 20000 in
theorem dX7_matches_14 : decode cX7_matches 14 = .ok (.aload_n 0, 1) := by decide +kernel
set_option maxRecDepth 20000 in
theorem dX7_matches_15 : decode cX7_matches 15 = .ok (.getfield 10, 3) := by decide +kernel
set_option maxRecDepth 20000 in
theorem dX7_matches_18 : decode cX7_matches 18 = .ok (.getfield 37, 3) := by decide +kernel
set_option maxRecDepth 20000 in
theorem dX7_matches_21 : decode cX7_matches 21 = .ok (.iload_n 2, 1) := by decide +kernel
set_option maxRecDepth 20000 in
theorem dX7_matches_22 : decode cX7_matches 22 = .ok (.invokevirtual 41, 3) := by decide +kernel
set_option maxRecDepth 20000 in
theorem dX7_matches_25 : decode cX7_matches 25 = .ok (.ifCond .ne 6, 3) := by decide +kernel
set_option maxRecDepth 20000 in
theorem dX7_matches_28 : decode cX7_matches 28 = .ok (.bipush (-11), 2) := by decide +kernel
set_option maxRecDepth 20000 in
theorem dX7_matches_30 : decode cX7_matches 30 = .ok (.ireturn, 1) := by decide +kernel
set_option maxRecDepth 20000 in
theorem dX7_matches_31 : decode cX7_matches 31 = .ok (.aload_n 0, 1) := by decide +kernel
set_option maxRecDepth 20000 in
theorem dX7_matches_32 : decode cX7_matches 32 = .ok (.getfield 26, 3) := by decide +kernel
set_option maxRecDepth 20000 in
theorem dX7_matches_35 : decode cX7_matches 35 = .ok (.aload_n 0, 1) := by decide +kernel
set_option maxRecDepth 20000 in
theorem dX7_matches_36 : decode cX7_matches 36 = .ok (.getfield 10, 3) := by decide +kernel
set_option maxRecDepth 20000 in
theorem dX7_matches_39 : decode cX7_matches 39 = .ok (.invokevirtual 92, 3) := by decide +kernel
set_option maxRecDepth 20000 in
theorem dX7_matches_42 : decode cX7_matches 42 = .ok (.iload_n 1, 1) := by decide +kernel
set_option maxRecDepth 20000 in
theorem dX7_matches_43 : decode cX7_matches 43 = .ok (.iload_n 2, 1) := by decide +kernel
set_option maxRecDepth 20000 in
theorem dX7_matches_44 : decode cX7_matches 44 = .ok (.invokevirtual 162, 3) := by decide +kernel
set_option maxRecDepth 20000 in
theorem dX7_matches_47 : decode cX7_matches 47 = .ok (.ifCond .eq 7, 3) := by decide +kernel
set_option maxRecDepth 20000 in
theorem dX7_matches_50 : decode cX7_matches 50 = .ok (.iconst 1, 1) := by decide +kernel
set_option maxRecDepth 20000 in
theorem dX7_matches_51 : decode cX7_matches 51 = .ok (.goto 4, 3) := by decide +kernel
set_option maxRecDepth 20000 in
theorem dX7_matches_54 : decode cX7_matches 54 = .ok (.iconst 0, 1) := by decide +kernel
set_option maxRecDepth 20000 in
theorem dX7_matches_55 : decode cX7_matches 55 = .ok (.ireturn, 1) := by decide +kernel
set_option maxRecDepth 20000 in
theorem dX7_value_0 : decode cX7_value 0 = .ok (.aload_n 0, 1) := by decide +kernel
set_option maxRecDepth 20000 in
theorem dX7_value_1 : decode cX7_value 1 = .ok (.getfield 10, 3) := by decide +kernel
set_option maxRecDepth 20000 in
theorem dX7_value_4 : decode cX7_value 4 = .ok (.getfield 37, 3) := by decide +kernel
set_option maxRecDepth 20000 in
theorem dX7_value_7 : decode cX7_value 7 = .ok (.iload_n 1, 1) := by decide +kernel
set_option maxRecDepth 20000 in
theorem dX7_value_8 : decode cX7_value 8 = .ok (.invokevirtual 41, 3) := by decide +kernel
set_option maxRecDepth 20000 in
theorem dX7_value_11 : decode cX7_value 11 = .ok (.ifCond .eq 10, 3) := by decide +kernel
set_option maxRecDepth 20000 in
theorem dX7_value_14 : decode cX7_value 14 = .ok (.iload_n 2, 1) := by decide +kernel
set_option maxRecDepth 20000 in
theorem dX7_value_15 : decode cX7_value 15 = .ok (.invokestatic 130, 3) := by decide +kernel
set_option maxRecDepth 20000 in
theorem dX7_value_18 : decode cX7_value 18 = .ok (.ifCond .ne 6, 3) := by decide +kernel
set_option maxRecDepth 20000 in
theorem dX7_value_21 : decode cX7_value 21 = .ok (.bipush (-11), 2) := by decide +kernel
set_option maxRecDepth 20000 in
theorem dX7_value_23 : decode cX7_value 23 = .ok (.ireturn, 1) := by decide +kernel
set_option maxRecDepth 20000 in
theorem dX7_value_24 : decode cX7_value 24 = .ok (.aload_n 0, 1) := by decide +kernel
set_option maxRecDepth 20000 in
theorem dX7_value_25 : decode cX7_value 25 = .ok (.getfield 26, 3) := by decide +kernel
set_option maxRecDepth 20000 in
theorem dX7_value_28 : decode cX7_value 28 = .ok (.aload_n 0, 1) := by decide +kernel
set_option maxRecDepth 20000 in
theorem dX7_value_29 : decode cX7_value 29 = .ok (.getfield 10, 3) := by decide +kernel
set_option maxRecDepth 20000 in
theorem dX7_value_32 : decode cX7_value 32 = .ok (.invokevirtual 92, 3) := by decide +kernel
set_option maxRecDepth 20000 in
theorem dX7_value_35 : decode cX7_value 35 = .ok (.iload_n 1, 1) := by decide +kernel
set_option maxRecDepth 20000 in
theorem dX7_value_36 : decode cX7_value 36 = .ok (.iload_n 2, 1) := by decide +kernel
set_option maxRecDepth 20000 in
theorem dX7_value_37 : decode cX7_value 37 = .ok (.invokevirtual 165, 3) := by decide +kernel
set_option maxRecDepth 20000 in
theorem dX7_value_40 : decode cX7_value 40 = .ok (.iload_n 2, 1) := by decide +kernel
set_option maxRecDepth 20000 in
theorem dX7_value_41 : decode cX7_value 41 = .ok (.invokestatic 140, 3) := by decide +kernel
set_option maxRecDepth 20000 in
theorem dX7_value_44 : decode cX7_value 44 = .ok (.ifCond .eq 8, 3) := by decide +kernel
set_option maxRecDepth 20000 in
theorem dX7_value_47 : decode cX7_value 47 = .ok (.bipush (-14), 2) := by decide +kernel
set_option maxRecDepth 20000 in
theorem dX7_value_49 : decode cX7_value 49 = .ok (.goto 4, 3) := by decide +kernel
set_option maxRecDepth 20000 in
theorem dX7_value_52 : decode cX7_value 52 = .ok (.iconst 0, 1) := by decide +kernel
set_option maxRecDepth 20000 in
theorem dX7_value_53 : decode cX7_value 53 = .ok (.invokestatic 159, 3) := by decide +kernel
set_option maxRecDepth 20000 in
theorem dX7_value_56 : decode cX7_value 56 = .ok (.ireturn, 1) := by decide +kernel
set_option maxRecDepth 20000 in
theorem dX7_winner_0 : decode cX7_winner 0 = .ok (.aload_n 0, 1) := by decide +kernel
set_option maxRecDepth 20000 in
theorem dX7_winner_1 : decode cX7_winner 1 = .ok (.getfield 10, 3) := by decide +kernel
set_option maxRecDepth 20000 in
theorem dX7_winner_4 : decode cX7_winner 4 = .ok (.getfield 37, 3) := by decide +kernel
set_option maxRecDepth 20000 in
theorem dX7_winner_7 : decode cX7_winner 7 = .ok (.iload_n 1, 1) := by decide +kernel
set_option maxRecDepth 20000 in
theorem dX7_winner_8 : decode cX7_winner 8 = .ok (.invokevirtual 41, 3) := by decide +kernel
set_option maxRecDepth 20000 in
theorem dX7_winner_11 : decode cX7_winner 11 = .ok (.ifCond .eq 10, 3) := by decide +kernel
set_option maxRecDepth 20000 in
theorem dX7_winner_14 : decode cX7_winner 14 = .ok (.iload_n 2, 1) := by decide +kernel
set_option maxRecDepth 20000 in
theorem dX7_winner_15 : decode cX7_winner 15 = .ok (.invokestatic 130, 3) := by decide +kernel
set_option maxRecDepth 20000 in
theorem dX7_winner_18 : decode cX7_winner 18 = .ok (.ifCond .ne 6, 3) := by decide +kernel
set_option maxRecDepth 20000 in
theorem dX7_winner_21 : decode cX7_winner 21 = .ok (.bipush (-11), 2) := by decide +kernel
set_option maxRecDepth 20000 in
theorem dX7_winner_23 : decode cX7_winner 23 = .ok (.ireturn, 1) := by decide +kernel
set_option maxRecDepth 20000 in
theorem dX7_winner_24 : decode cX7_winner 24 = .ok (.aload_n 0, 1) := by decide +kernel
set_option maxRecDepth 20000 in
theorem dX7_winner_25 : decode cX7_winner 25 = .ok (.getfield 26, 3) := by decide +kernel
set_option maxRecDepth 20000 in
theorem dX7_winner_28 : decode cX7_winner 28 = .ok (.aload_n 0, 1) := by decide +kernel
set_option maxRecDepth 20000 in
theorem dX7_winner_29 : decode cX7_winner 29 = .ok (.getfield 10, 3) := by decide +kernel
set_option maxRecDepth 20000 in
theorem dX7_winner_32 : decode cX7_winner 32 = .ok (.invokevirtual 92, 3) := by decide +kernel
set_option maxRecDepth 20000 in
theorem dX7_winner_35 : decode cX7_winner 35 = .ok (.iload_n 1, 1) := by decide +kernel
set_option maxRecDepth 20000 in
theorem dX7_winner_36 : decode cX7_winner 36 = .ok (.iload_n 2, 1) := by decide +kernel
set_option maxRecDepth 20000 in
theorem dX7_winner_37 : decode cX7_winner 37 = .ok (.invokevirtual 168, 3) := by decide +kernel
set_option maxRecDepth 20000 in
theorem dX7_winner_40 : decode cX7_winner 40 = .ok (.bipush (-14), 2) := by decide +kernel
set_option maxRecDepth 20000 in
theorem dX7_winner_42 : decode cX7_winner 42 = .ok (.invokestatic 159, 3) := by decide +kernel
set_option maxRecDepth 20000 in
theorem dX7_winner_45 : decode cX7_winner 45 = .ok (.ireturn, 1) := by decide +kernel
set_option maxRecDepth 20000 in
theorem dX7_why_0 : decode cX7_why 0 = .ok (.aload_n 0, 1) := by decide +kernel
set_option maxRecDepth 20000 in
theorem dX7_why_1 : decode cX7_why 1 = .ok (.getfield 10, 3) := by decide +kernel
set_option maxRecDepth 20000 in
theorem dX7_why_4 : decode cX7_why 4 = .ok (.getfield 37, 3) := by decide +kernel
set_option maxRecDepth 20000 in
theorem dX7_why_7 : decode cX7_why 7 = .ok (.iload_n 1, 1) := by decide +kernel
set_option maxRecDepth 20000 in
theorem dX7_why_8 : decode cX7_why 8 = .ok (.invokevirtual 41, 3) := by decide +kernel
set_option maxRecDepth 20000 in
theorem dX7_why_11 : decode cX7_why 11 = .ok (.ifCond .eq 24, 3) := by decide +kernel
set_option maxRecDepth 20000 in
theorem dX7_why_14 : decode cX7_why 14 = .ok (.iload_n 2, 1) := by decide +kernel
set_option maxRecDepth 20000 in
theorem dX7_why_15 : decode cX7_why 15 = .ok (.invokestatic 130, 3) := by decide +kernel
set_option maxRecDepth 20000 in
theorem dX7_why_18 : decode cX7_why 18 = .ok (.ifCond .eq 17, 3) := by decide +kernel
set_option maxRecDepth 20000 in
theorem dX7_why_21 : decode cX7_why 21 = .ok (.iload_n 3, 1) := by decide +kernel
set_option maxRecDepth 20000 in
theorem dX7_why_22 : decode cX7_why 22 = .ok (.ifCond .lt 13, 3) := by decide +kernel
set_option maxRecDepth 20000 in
theorem dX7_why_25 : decode cX7_why 25 = .ok (.iload 4, 2) := by decide +kernel
set_option maxRecDepth 20000 in
theorem dX7_why_27 : decode cX7_why 27 = .ok (.iconst 0, 1) := by decide +kernel
set_option maxRecDepth 20000 in
theorem dX7_why_28 : decode cX7_why 28 = .ok (.iconst 1, 1) := by decide +kernel
set_option maxRecDepth 20000 in
theorem dX7_why_29 : decode cX7_why 29 = .ok (.invokestatic 47, 3) := by decide +kernel
set_option maxRecDepth 20000 in
theorem dX7_why_32 : decode cX7_why 32 = .ok (.ifCond .ne 6, 3) := by decide +kernel
set_option maxRecDepth 20000 in
theorem dX7_why_35 : decode cX7_why 35 = .ok (.bipush (-11), 2) := by decide +kernel
set_option maxRecDepth 20000 in
theorem dX7_why_37 : decode cX7_why 37 = .ok (.ireturn, 1) := by decide +kernel
set_option maxRecDepth 20000 in
theorem dX7_why_38 : decode cX7_why 38 = .ok (.aload_n 0, 1) := by decide +kernel
set_option maxRecDepth 20000 in
theorem dX7_why_39 : decode cX7_why 39 = .ok (.getfield 26, 3) := by decide +kernel
set_option maxRecDepth 20000 in
theorem dX7_why_42 : decode cX7_why 42 = .ok (.aload_n 0, 1) := by decide +kernel
set_option maxRecDepth 20000 in
theorem dX7_why_43 : decode cX7_why 43 = .ok (.getfield 10, 3) := by decide +kernel
set_option maxRecDepth 20000 in
theorem dX7_why_46 : decode cX7_why 46 = .ok (.invokevirtual 92, 3) := by decide +kernel
set_option maxRecDepth 20000 in
theorem dX7_why_49 : decode cX7_why 49 = .ok (.aload_n 0, 1) := by decide +kernel
set_option maxRecDepth 20000 in
theorem dX7_why_50 : decode cX7_why 50 = .ok (.getfield 10, 3) := by decide +kernel
set_option maxRecDepth 20000 in
theorem dX7_why_53 : decode cX7_why 53 = .ok (.getfield 62, 3) := by decide +kernel
set_option maxRecDepth 20000 in
theorem dX7_why_56 : decode cX7_why 56 = .ok (.iload_n 1, 1) := by decide +kernel
set_option maxRecDepth 20000 in
theorem dX7_why_57 : decode cX7_why 57 = .ok (.iload_n 2, 1) := by decide +kernel
set_option maxRecDepth 20000 in
theorem dX7_why_58 : decode cX7_why 58 = .ok (.iload_n 3, 1) := by decide +kernel
set_option maxRecDepth 20000 in
theorem dX7_why_59 : decode cX7_why 59 = .ok (.invokevirtual 171, 3) := by decide +kernel
set_option maxRecDepth 20000 in
theorem dX7_why_62 : decode cX7_why 62 = .ok (.istore 5, 2) := by decide +kernel
set_option maxRecDepth 20000 in
theorem dX7_why_64 : decode cX7_why 64 = .ok (.iload 5, 2) := by decide +kernel
set_option maxRecDepth 20000 in
theorem dX7_why_66 : decode cX7_why 66 = .ok (.iconst (-1), 1) := by decide +kernel
set_option maxRecDepth 20000 in
theorem dX7_why_67 : decode cX7_why 67 = .ok (.if_icmp .ne 6, 3) := by decide +kernel
set_option maxRecDepth 20000 in
theorem dX7_why_70 : decode cX7_why 70 = .ok (.bipush (-14), 2) := by decide +kernel
set_option maxRecDepth 20000 in
theorem dX7_why_72 : decode cX7_why 72 = .ok (.ireturn, 1) := by decide +kernel
set_option maxRecDepth 20000 in
theorem dX7_why_73 : decode cX7_why 73 = .ok (.iload 4, 2) := by decide +kernel
set_option maxRecDepth 20000 in
theorem dX7_why_75 : decode cX7_why 75 = .ok (.ifCond .ne 6, 3) := by decide +kernel
set_option maxRecDepth 20000 in
theorem dX7_why_78 : decode cX7_why 78 = .ok (.iload 5, 2) := by decide +kernel
set_option maxRecDepth 20000 in
theorem dX7_why_80 : decode cX7_why 80 = .ok (.ireturn, 1) := by decide +kernel
set_option maxRecDepth 20000 in
theorem dX7_why_81 : decode cX7_why 81 = .ok (.iload_n 3, 1) := by decide +kernel
set_option maxRecDepth 20000 in
theorem dX7_why_82 : decode cX7_why 82 = .ok (.ifCond .ne 5, 3) := by decide +kernel
set_option maxRecDepth 20000 in
theorem dX7_why_85 : decode cX7_why 85 = .ok (.iconst 0, 1) := by decide +kernel
set_option maxRecDepth 20000 in
theorem dX7_why_86 : decode cX7_why 86 = .ok (.ireturn, 1) := by decide +kernel
set_option maxRecDepth 20000 in
theorem dX7_why_87 : decode cX7_why 87 = .ok (.aload_n 0, 1) := by decide +kernel
set_option maxRecDepth 20000 in
theorem dX7_why_88 : decode cX7_why 88 = .ok (.getfield 26, 3) := by decide +kernel
set_option maxRecDepth 20000 in
theorem dX7_why_91 : decode cX7_why 91 = .ok (.aload_n 0, 1) := by decide +kernel
set_option maxRecDepth 20000 in
theorem dX7_why_92 : decode cX7_why 92 = .ok (.getfield 10, 3) := by decide +kernel
set_option maxRecDepth 20000 in
theorem dX7_why_95 : decode cX7_why 95 = .ok (.getfield 62, 3) := by decide +kernel
set_option maxRecDepth 20000 in
theorem dX7_why_98 : decode cX7_why 98 = .ok (.iload_n 1, 1) := by decide +kernel
set_option maxRecDepth 20000 in
theorem dX7_why_99 : decode cX7_why 99 = .ok (.iload_n 2, 1) := by decide +kernel
set_option maxRecDepth 20000 in
theorem dX7_why_100 : decode cX7_why 100 = .ok (.iload_n 3, 1) := by decide +kernel
set_option maxRecDepth 20000 in
theorem dX7_why_101 : decode cX7_why 101 = .ok (.iconst 1, 1) := by decide +kernel
set_option maxRecDepth 20000 in
theorem dX7_why_102 : decode cX7_why 102 = .ok (.isub, 1) := by decide +kernel
set_option maxRecDepth 20000 in
theorem dX7_why_103 : decode cX7_why 103 = .ok (.invokevirtual 171, 3) := by decide +kernel
set_option maxRecDepth 20000 in
theorem dX7_why_106 : decode cX7_why 106 = .ok (.istore 6, 2) := by decide +kernel
set_option maxRecDepth 20000 in
theorem dX7_why_108 : decode cX7_why 108 = .ok (.aload_n 0, 1) := by decide +kernel
set_option maxRecDepth 20000 in
theorem dX7_why_109 : decode cX7_why 109 = .ok (.getfield 10, 3) := by decide +kernel
set_option maxRecDepth 20000 in
theorem dX7_why_112 : decode cX7_why 112 = .ok (.iload 6, 2) := by decide +kernel
set_option maxRecDepth 20000 in
theorem dX7_why_114 : decode cX7_why 114 = .ok (.iload 5, 2) := by decide +kernel
set_option maxRecDepth 20000 in
theorem dX7_why_116 : decode cX7_why 116 = .ok (.iload_n 1, 1) := by decide +kernel
set_option maxRecDepth 20000 in
theorem dX7_why_117 : decode cX7_why 117 = .ok (.invokevirtual 175, 3) := by decide +kernel
set_option maxRecDepth 20000 in
theorem dX7_why_120 : decode cX7_why 120 = .ok (.ireturn, 1) := by decide +kernel
set_option maxRecDepth 20000 in
theorem dX7_from_0 : decode cX7_from 0 = .ok (.aload_n 0, 1) := by decide +kernel
set_option maxRecDepth 20000 in
theorem dX7_from_1 : decode cX7_from 1 = .ok (.getfield 10, 3) := by decide +kernel
set_option maxRecDepth 20000 in
theorem dX7_from_4 : decode cX7_from 4 = .ok (.getfield 37, 3) := by decide +kernel
set_option maxRecDepth 20000 in
theorem dX7_from_7 : decode cX7_from 7 = .ok (.iload_n 1, 1) := by decide +kernel
set_option maxRecDepth 20000 in
theorem dX7_from_8 : decode cX7_from 8 = .ok (.invokevirtual 41, 3) := by decide +kernel
set_option maxRecDepth 20000 in
theorem dX7_from_11 : decode cX7_from 11 = .ok (.ifCond .eq 10, 3) := by decide +kernel
set_option maxRecDepth 20000 in
theorem dX7_from_14 : decode cX7_from 14 = .ok (.iload_n 2, 1) := by decide +kernel
set_option maxRecDepth 20000 in
theorem dX7_from_15 : decode cX7_from 15 = .ok (.invokestatic 130, 3) := by decide +kernel
set_option maxRecDepth 20000 in
theorem dX7_from_18 : decode cX7_from 18 = .ok (.ifCond .ne 6, 3) := by decide +kernel
set_option maxRecDepth 20000 in
theorem dX7_from_21 : decode cX7_from 21 = .ok (.bipush (-11), 2) := by decide +kernel
set_option maxRecDepth 20000 in
theorem dX7_from_23 : decode cX7_from 23 = .ok (.ireturn, 1) := by decide +kernel
set_option maxRecDepth 20000 in
theorem dX7_from_24 : decode cX7_from 24 = .ok (.aload_n 0, 1) := by decide +kernel
set_option maxRecDepth 20000 in
theorem dX7_from_25 : decode cX7_from 25 = .ok (.getfield 26, 3) := by decide +kernel
set_option maxRecDepth 20000 in
theorem dX7_from_28 : decode cX7_from 28 = .ok (.aload_n 0, 1) := by decide +kernel
set_option maxRecDepth 20000 in
theorem dX7_from_29 : decode cX7_from 29 = .ok (.getfield 10, 3) := by decide +kernel
set_option maxRecDepth 20000 in
theorem dX7_from_32 : decode cX7_from 32 = .ok (.invokevirtual 92, 3) := by decide +kernel
set_option maxRecDepth 20000 in
theorem dX7_from_35 : decode cX7_from 35 = .ok (.iload_n 1, 1) := by decide +kernel
set_option maxRecDepth 20000 in
theorem dX7_from_36 : decode cX7_from 36 = .ok (.iload_n 2, 1) := by decide +kernel
set_option maxRecDepth 20000 in
theorem dX7_from_37 : decode cX7_from 37 = .ok (.invokevirtual 178, 3) := by decide +kernel
set_option maxRecDepth 20000 in
theorem dX7_from_40 : decode cX7_from 40 = .ok (.bipush (-14), 2) := by decide +kernel
set_option maxRecDepth 20000 in
theorem dX7_from_42 : decode cX7_from 42 = .ok (.invokestatic 159, 3) := by decide +kernel
set_option maxRecDepth 20000 in
theorem dX7_from_45 : decode cX7_from 45 = .ok (.ireturn, 1) := by decide +kernel
set_option maxRecDepth 20000 in
theorem dX7_cycle_0 : decode cX7_cycle 0 = .ok (.aload_n 0, 1) := by decide +kernel
set_option maxRecDepth 20000 in
theorem dX7_cycle_1 : decode cX7_cycle 1 = .ok (.getfield 10, 3) := by decide +kernel
set_option maxRecDepth 20000 in
theorem dX7_cycle_4 : decode cX7_cycle 4 = .ok (.getfield 37, 3) := by decide +kernel
set_option maxRecDepth 20000 in
theorem dX7_cycle_7 : decode cX7_cycle 7 = .ok (.iload_n 1, 1) := by decide +kernel
set_option maxRecDepth 20000 in
theorem dX7_cycle_8 : decode cX7_cycle 8 = .ok (.invokevirtual 41, 3) := by decide +kernel
set_option maxRecDepth 20000 in
theorem dX7_cycle_11 : decode cX7_cycle 11 = .ok (.ifCond .eq 10, 3) := by decide +kernel
set_option maxRecDepth 20000 in
theorem dX7_cycle_14 : decode cX7_cycle 14 = .ok (.iload_n 2, 1) := by decide +kernel
set_option maxRecDepth 20000 in
theorem dX7_cycle_15 : decode cX7_cycle 15 = .ok (.invokestatic 140, 3) := by decide +kernel
set_option maxRecDepth 20000 in
theorem dX7_cycle_18 : decode cX7_cycle 18 = .ok (.ifCond .ne 6, 3) := by decide +kernel
set_option maxRecDepth 20000 in
theorem dX7_cycle_21 : decode cX7_cycle 21 = .ok (.bipush (-11), 2) := by decide +kernel
set_option maxRecDepth 20000 in
theorem dX7_cycle_23 : decode cX7_cycle 23 = .ok (.ireturn, 1) := by decide +kernel
set_option maxRecDepth 20000 in
theorem dX7_cycle_24 : decode cX7_cycle 24 = .ok (.aload_n 0, 1) := by decide +kernel
set_option maxRecDepth 20000 in
theorem dX7_cycle_25 : decode cX7_cycle 25 = .ok (.getfield 26, 3) := by decide +kernel
set_option maxRecDepth 20000 in
theorem dX7_cycle_28 : decode cX7_cycle 28 = .ok (.aload_n 0, 1) := by decide +kernel
set_option maxRecDepth 20000 in
theorem dX7_cycle_29 : decode cX7_cycle 29 = .ok (.getfield 10, 3) := by decide +kernel
set_option maxRecDepth 20000 in
theorem dX7_cycle_32 : decode cX7_cycle 32 = .ok (.invokevirtual 92, 3) := by decide +kernel
set_option maxRecDepth 20000 in
theorem dX7_cycle_35 : decode cX7_cycle 35 = .ok (.iload_n 1, 1) := by decide +kernel
set_option maxRecDepth 20000 in
theorem dX7_cycle_36 : decode cX7_cycle 36 = .ok (.iload_n 2, 1) := by decide +kernel
set_option maxRecDepth 20000 in
theorem dX7_cycle_37 : decode cX7_cycle 37 = .ok (.invokevirtual 181, 3) := by decide +kernel
set_option maxRecDepth 20000 in
theorem dX7_cycle_40 : decode cX7_cycle 40 = .ok (.ireturn, 1) := by decide +kernel
set_option maxRecDepth 20000 in
theorem dX7_type_0 : decode cX7_type 0 = .ok (.iload_n 1, 1) := by decide +kernel
set_option maxRecDepth 20000 in
theorem dX7_type_1 : decode cX7_type 1 = .ok (.bipush 32, 2) := by decide +kernel
set_option maxRecDepth 20000 in
theorem dX7_type_3 : decode cX7_type 3 = .ok (.bipush 126, 2) := by decide +kernel
set_option maxRecDepth 20000 in
theorem dX7_type_5 : decode cX7_type 5 = .ok (.invokestatic 47, 3) := by decide +kernel
set_option maxRecDepth 20000 in
theorem dX7_type_8 : decode cX7_type 8 = .ok (.ifCond .ne 6, 3) := by decide +kernel
set_option maxRecDepth 20000 in
theorem dX7_type_11 : decode cX7_type 11 = .ok (.bipush (-11), 2) := by decide +kernel
set_option maxRecDepth 20000 in
theorem dX7_type_13 : decode cX7_type 13 = .ok (.ireturn, 1) := by decide +kernel
set_option maxRecDepth 20000 in
theorem dX7_type_14 : decode cX7_type 14 = .ok (.aload_n 0, 1) := by decide +kernel
set_option maxRecDepth 20000 in
theorem dX7_type_15 : decode cX7_type 15 = .ok (.getfield 33, 3) := by decide +kernel
set_option maxRecDepth 20000 in
theorem dX7_type_18 : decode cX7_type 18 = .ok (.invokevirtual 113, 3) := by decide +kernel
set_option maxRecDepth 20000 in
theorem dX7_type_21 : decode cX7_type 21 = .ok (.bipush 80, 2) := by decide +kernel
set_option maxRecDepth 20000 in
theorem dX7_type_23 : decode cX7_type 23 = .ok (.if_icmp .lt 6, 3) := by decide +kernel
set_option maxRecDepth 20000 in
theorem dX7_type_26 : decode cX7_type 26 = .ok (.bipush (-13), 2) := by decide +kernel
set_option maxRecDepth 20000 in
theorem dX7_type_28 : decode cX7_type 28 = .ok (.ireturn, 1) := by decide +kernel
set_option maxRecDepth 20000 in
theorem dX7_type_29 : decode cX7_type 29 = .ok (.aload_n 0, 1) := by decide +kernel
set_option maxRecDepth 20000 in
theorem dX7_type_30 : decode cX7_type 30 = .ok (.getfield 33, 3) := by decide +kernel
set_option maxRecDepth 20000 in
theorem dX7_type_33 : decode cX7_type 33 = .ok (.iload_n 1, 1) := by decide +kernel
set_option maxRecDepth 20000 in
theorem dX7_type_34 : decode cX7_type 34 = .ok (.invokevirtual 184, 3) := by decide +kernel
set_option maxRecDepth 20000 in
theorem dX7_type_37 : decode cX7_type 37 = .ok (.ireturn, 1) := by decide +kernel
set_option maxRecDepth 20000 in
theorem dX7_clearText_0 : decode cX7_clearText 0 = .ok (.aload_n 0, 1) := by decide +kernel
set_option maxRecDepth 20000 in
theorem dX7_clearText_1 : decode cX7_clearText 1 = .ok (.getfield 33, 3) := by decide +kernel
set_option maxRecDepth 20000 in
theorem dX7_clearText_4 : decode cX7_clearText 4 = .ok (.invokevirtual 186, 3) := by decide +kernel
set_option maxRecDepth 20000 in
theorem dX7_clearText_7 : decode cX7_clearText 7 = .ok (.ireturn, 1) := by decide +kernel
set_option maxRecDepth 20000 in
theorem dX7_fault_0 : decode cX7_fault 0 = .ok (.aload_n 0, 1) := by decide +kernel
set_option maxRecDepth 20000 in
theorem dX7_fault_1 : decode cX7_fault 1 = .ok (.getfield 33, 3) := by decide +kernel
set_option maxRecDepth 20000 in
theorem dX7_fault_4 : decode cX7_fault 4 = .ok (.aload_n 0, 1) := by decide +kernel
set_option maxRecDepth 20000 in
theorem dX7_fault_5 : decode cX7_fault 5 = .ok (.getfield 10, 3) := by decide +kernel
set_option maxRecDepth 20000 in
theorem dX7_fault_8 : decode cX7_fault 8 = .ok (.getfield 37, 3) := by decide +kernel
set_option maxRecDepth 20000 in
theorem dX7_fault_11 : decode cX7_fault 11 = .ok (.invokevirtual 51, 3) := by decide +kernel
set_option maxRecDepth 20000 in
theorem dX7_fault_14 : decode cX7_fault 14 = .ok (.invokevirtual 189, 3) := by decide +kernel
set_option maxRecDepth 20000 in
theorem dX7_fault_17 : decode cX7_fault 17 = .ok (.bipush (-14), 2) := by decide +kernel
set_option maxRecDepth 20000 in
theorem dX7_fault_19 : decode cX7_fault 19 = .ok (.invokestatic 159, 3) := by decide +kernel
set_option maxRecDepth 20000 in
theorem dX7_fault_22 : decode cX7_fault 22 = .ok (.ireturn, 1) := by decide +kernel
set_option maxRecDepth 20000 in
theorem dX7_read_0 : decode cX7_read 0 = .ok (.aload_n 0, 1) := by decide +kernel
set_option maxRecDepth 20000 in
theorem dX7_read_1 : decode cX7_read 1 = .ok (.getfield 33, 3) := by decide +kernel
set_option maxRecDepth 20000 in
theorem dX7_read_4 : decode cX7_read 4 = .ok (.aload_n 0, 1) := by decide +kernel
set_option maxRecDepth 20000 in
theorem dX7_read_5 : decode cX7_read 5 = .ok (.getfield 10, 3) := by decide +kernel
set_option maxRecDepth 20000 in
theorem dX7_read_8 : decode cX7_read 8 = .ok (.getfield 37, 3) := by decide +kernel
set_option maxRecDepth 20000 in
theorem dX7_read_11 : decode cX7_read 11 = .ok (.invokevirtual 51, 3) := by decide +kernel
set_option maxRecDepth 20000 in
theorem dX7_read_14 : decode cX7_read 14 = .ok (.invokevirtual 189, 3) := by decide +kernel
set_option maxRecDepth 20000 in
theorem dX7_read_17 : decode cX7_read 17 = .ok (.iconst (-1), 1) := by decide +kernel
set_option maxRecDepth 20000 in
theorem dX7_read_18 : decode cX7_read 18 = .ok (.if_icmp .eq 6, 3) := by decide +kernel
set_option maxRecDepth 20000 in
theorem dX7_read_21 : decode cX7_read 21 = .ok (.bipush (-12), 2) := by decide +kernel
set_option maxRecDepth 20000 in
theorem dX7_read_23 : decode cX7_read 23 = .ok (.ireturn, 1) := by decide +kernel
set_option maxRecDepth 20000 in
theorem dX7_read_24 : decode cX7_read 24 = .ok (.aload_n 0, 1) := by decide +kernel
set_option maxRecDepth 20000 in
theorem dX7_read_25 : decode cX7_read 25 = .ok (.getfield 10, 3) := by decide +kernel
set_option maxRecDepth 20000 in
theorem dX7_read_28 : decode cX7_read 28 = .ok (.getfield 62, 3) := by decide +kernel
set_option maxRecDepth 20000 in
theorem dX7_read_31 : decode cX7_read 31 = .ok (.invokevirtual 102, 3) := by decide +kernel
set_option maxRecDepth 20000 in
theorem dX7_read_34 : decode cX7_read 34 = .ok (.bipush 16, 2) := by decide +kernel
set_option maxRecDepth 20000 in
theorem dX7_read_36 : decode cX7_read 36 = .ok (.if_icmp .lt 6, 3) := by decide +kernel
set_option maxRecDepth 20000 in
theorem dX7_read_39 : decode cX7_read 39 = .ok (.bipush (-13), 2) := by decide +kernel
set_option maxRecDepth 20000 in
theorem dX7_read_41 : decode cX7_read 41 = .ok (.ireturn, 1) := by decide +kernel
set_option maxRecDepth 20000 in
theorem dX7_read_42 : decode cX7_read 42 = .ok (.aload_n 0, 1) := by decide +kernel
set_option maxRecDepth 20000 in
theorem dX7_read_43 : decode cX7_read 43 = .ok (.invokevirtual 55, 3) := by decide +kernel
set_option maxRecDepth 20000 in
theorem dX7_read_46 : decode cX7_read 46 = .ok (.aload_n 0, 1) := by decide +kernel
set_option maxRecDepth 20000 in
theorem dX7_read_47 : decode cX7_read 47 = .ok (.getfield 10, 3) := by decide +kernel
set_option maxRecDepth 20000 in
theorem dX7_read_50 : decode cX7_read 50 = .ok (.getfield 62, 3) := by decide +kernel
set_option maxRecDepth 20000 in
theorem dX7_read_53 : decode cX7_read 53 = .ok (.aload_n 0, 1) := by decide +kernel
set_option maxRecDepth 20000 in
theorem dX7_read_54 : decode cX7_read 54 = .ok (.getfield 33, 3) := by decide +kernel
set_option maxRecDepth 20000 in
theorem dX7_read_57 : decode cX7_read 57 = .ok (.invokevirtual 192, 3) := by decide +kernel
set_option maxRecDepth 20000 in
theorem dX7_read_60 : decode cX7_read 60 = .ok (.invokevirtual 196, 3) := by decide +kernel
set_option maxRecDepth 20000 in
theorem dX7_read_63 : decode cX7_read 63 = .ok (.ireturn, 1) := by decide +kernel
set_option maxRecDepth 20000 in
theorem dX7_beginChange_0 : decode cX7_beginChange 0 = .ok (.aload_n 0, 1) := by decide +kernel
set_option maxRecDepth 20000 in
theorem dX7_beginChange_1 : decode cX7_beginChange 1 = .ok (.getfield 19, 3) := by decide +kernel
set_option maxRecDepth 20000 in
theorem dX7_beginChange_4 : decode cX7_beginChange 4 = .ok (.aload_n 0, 1) := by decide +kernel
set_option maxRecDepth 20000 in
theorem dX7_beginChange_5 : decode cX7_beginChange 5 = .ok (.getfield 10, 3) := by decide +kernel
set_option maxRecDepth 20000 in
theorem dX7_beginChange_8 : decode cX7_beginChange 8 = .ok (.invokevirtual 200, 3) := by decide +kernel
set_option maxRecDepth 20000 in
theorem dX7_beginChange_11 : decode cX7_beginChange 11 = .ok (.aload_n 0, 1) := by decide +kernel
set_option maxRecDepth 20000 in
theorem dX7_beginChange_12 : decode cX7_beginChange 12 = .ok (.getfield 26, 3) := by decide +kernel
set_option maxRecDepth 20000 in
theorem dX7_beginChange_15 : decode cX7_beginChange 15 = .ok (.invokevirtual 120, 3) := by decide +kernel
set_option maxRecDepth 20000 in
theorem dX7_beginChange_18 : decode cX7_beginChange 18 = .ok (.return_, 1) := by decide +kernel
set_option maxRecDepth 20000 in
theorem dX7_foundOr_0 : decode cX7_foundOr 0 = .ok (.iload_n 0, 1) := by decide +kernel
set_option maxRecDepth 20000 in
theorem dX7_foundOr_1 : decode cX7_foundOr 1 = .ok (.iconst (-1), 1) := by decide +kernel
set_option maxRecDepth 20000 in
theorem dX7_foundOr_2 : decode cX7_foundOr 2 = .ok (.if_icmp .ne 7, 3) := by decide +kernel
set_option maxRecDepth 20000 in
theorem dX7_foundOr_5 : decode cX7_foundOr 5 = .ok (.iload_n 1, 1) := by decide +kernel
set_option maxRecDepth 20000 in
theorem dX7_foundOr_6 : decode cX7_foundOr 6 = .ok (.goto 4, 3) := by decide +kernel
set_option maxRecDepth 20000 in
theorem dX7_foundOr_9 : decode cX7_foundOr 9 = .ok (.iload_n 0, 1) := by decide +kernel
set_option maxRecDepth 20000 in
theorem dX7_foundOr_10 : decode cX7_foundOr 10 = .ok (.ireturn, 1) := by decide +kernel
set_option maxRecDepth 20000 in
theorem dX7_isWithin_0 : decode cX7_isWithin 0 = .ok (.iload_n 0, 1) := by decide +kernel
set_option maxRecDepth 20000 in
theorem dX7_isWithin_1 : decode cX7_isWithin 1 = .ok (.iload_n 1, 1) := by decide +kernel
set_option maxRecDepth 20000 in
theorem dX7_isWithin_2 : decode cX7_isWithin 2 = .ok (.if_icmp .lt 12, 3) := by decide +kernel
set_option maxRecDepth 20000 in
theorem dX7_isWithin_5 : decode cX7_isWithin 5 = .ok (.iload_n 0, 1) := by decide +kernel
set_option maxRecDepth 20000 in
theorem dX7_isWithin_6 : decode cX7_isWithin 6 = .ok (.iload_n 2, 1) := by decide +kernel
set_option maxRecDepth 20000 in
theorem dX7_isWithin_7 : decode cX7_isWithin 7 = .ok (.if_icmp .gt 7, 3) := by decide +kernel
set_option maxRecDepth 20000 in
theorem dX7_isWithin_10 : decode cX7_isWithin 10 = .ok (.iconst 1, 1) := by decide +kernel
set_option maxRecDepth 20000 in
theorem dX7_isWithin_11 : decode cX7_isWithin 11 = .ok (.goto 4, 3) := by decide +kernel
set_option maxRecDepth 20000 in
theorem dX7_isWithin_14 : decode cX7_isWithin 14 = .ok (.iconst 0, 1) := by decide +kernel
set_option maxRecDepth 20000 in
theorem dX7_isWithin_15 : decode cX7_isWithin 15 = .ok (.ireturn, 1) := by decide +kernel
set_option maxRecDepth 20000 in
theorem dX7_isProperty_0 : decode cX7_isProperty 0 = .ok (.iload_n 0, 1) := by decide +kernel
set_option maxRecDepth 20000 in
theorem dX7_isProperty_1 : decode cX7_isProperty 1 = .ok (.iconst 0, 1) := by decide +kernel
set_option maxRecDepth 20000 in
theorem dX7_isProperty_2 : decode cX7_isProperty 2 = .ok (.bipush 15, 2) := by decide +kernel
set_option maxRecDepth 20000 in
theorem dX7_isProperty_4 : decode cX7_isProperty 4 = .ok (.invokestatic 47, 3) := by decide +kernel
set_option maxRecDepth 20000 in
theorem dX7_isProperty_7 : decode cX7_isProperty 7 = .ok (.ireturn, 1) := by decide +kernel
set_option maxRecDepth 20000 in
theorem dX7_isCustom_0 : decode cX7_isCustom 0 = .ok (.iload_n 0, 1) := by decide +kernel
set_option maxRecDepth 20000 in
theorem dX7_isCustom_1 : decode cX7_isCustom 1 = .ok (.bipush 8, 2) := by decide +kernel
set_option maxRecDepth 20000 in
theorem dX7_isCustom_3 : decode cX7_isCustom 3 = .ok (.bipush 15, 2) := by decide +kernel
set_option maxRecDepth 20000 in
theorem dX7_isCustom_5 : decode cX7_isCustom 5 = .ok (.invokestatic 47, 3) := by decide +kernel
set_option maxRecDepth 20000 in
theorem dX7_isCustom_8 : decode cX7_isCustom 8 = .ok (.ireturn, 1) := by decide +kernel
set_option maxRecDepth 20000 in
theorem dX8_init_0 : decode cX8_init 0 = .ok (.aload_n 0, 1) := by decide +kernel
set_option maxRecDepth 20000 in
theorem dX8_init_1 : decode cX8_init 1 = .ok (.invokespecial 1, 3) := by decide +kernel
set_option maxRecDepth 20000 in
theorem dX8_init_4 : decode cX8_init 4 = .ok (.aload_n 0, 1) := by decide +kernel
set_option maxRecDepth 20000 in
theorem dX8_init_5 : decode cX8_init 5 = .ok (.sipush 914, 3) := by decide +kernel
set_option maxRecDepth 20000 in
theorem dX8_init_8 : decode cX8_init 8 = .ok (.newarray .int, 2) := by decide +kernel
set_option maxRecDepth 20000 in
theorem dX8_init_10 : decode cX8_init 10 = .ok (.putfield 7, 3) := by decide +kernel
set_option maxRecDepth 20000 in
theorem dX8_init_13 : decode cX8_init 13 = .ok (.aload_n 0, 1) := by decide +kernel
set_option maxRecDepth 20000 in
theorem dX8_init_14 : decode cX8_init 14 = .ok (.sipush 4570, 3) := by decide +kernel
set_option maxRecDepth 20000 in
theorem dX8_init_17 : decode cX8_init 17 = .ok (.newarray .int, 2) := by decide +kernel
set_option maxRecDepth 20000 in
theorem dX8_init_19 : decode cX8_init 19 = .ok (.putfield 13, 3) := by decide +kernel
set_option maxRecDepth 20000 in
theorem dX8_init_22 : decode cX8_init 22 = .ok (.aload_n 0, 1) := by decide +kernel
set_option maxRecDepth 20000 in
theorem dX8_init_23 : decode cX8_init 23 = .ok (.bipush 80, 2) := by decide +kernel
set_option maxRecDepth 20000 in
theorem dX8_init_25 : decode cX8_init 25 = .ok (.newarray .char, 2) := by decide +kernel
set_option maxRecDepth 20000 in
theorem dX8_init_27 : decode cX8_init 27 = .ok (.putfield 16, 3) := by decide +kernel
set_option maxRecDepth 20000 in
theorem dX8_init_30 : decode cX8_init 30 = .ok (.aload_n 0, 1) := by decide +kernel
set_option maxRecDepth 20000 in
theorem dX8_init_31 : decode cX8_init 31 = .ok (.bipush 6, 2) := by decide +kernel
set_option maxRecDepth 20000 in
theorem dX8_init_33 : decode cX8_init 33 = .ok (.newarray .int, 2) := by decide +kernel
set_option maxRecDepth 20000 in
theorem dX8_init_35 : decode cX8_init 35 = .ok (.putfield 20, 3) := by decide +kernel
set_option maxRecDepth 20000 in
theorem dX8_init_38 : decode cX8_init 38 = .ok (.aload_n 0, 1) := by decide +kernel
set_option maxRecDepth 20000 in
theorem dX8_init_39 : decode cX8_init 39 = .ok (.bipush 48, 2) := by decide +kernel
set_option maxRecDepth 20000 in
theorem dX8_init_41 : decode cX8_init 41 = .ok (.newarray .int, 2) := by decide +kernel
set_option maxRecDepth 20000 in
theorem dX8_init_43 : decode cX8_init 43 = .ok (.putfield 23, 3) := by decide +kernel
set_option maxRecDepth 20000 in
theorem dX8_init_46 : decode cX8_init 46 = .ok (.aload_n 0, 1) := by decide +kernel
set_option maxRecDepth 20000 in
theorem dX8_init_47 : decode cX8_init 47 = .ok (.sipush 256, 3) := by decide +kernel
set_option maxRecDepth 20000 in
theorem dX8_init_50 : decode cX8_init 50 = .ok (.newarray .int, 2) := by decide +kernel
set_option maxRecDepth 20000 in
theorem dX8_init_52 : decode cX8_init 52 = .ok (.putfield 26, 3) := by decide +kernel
set_option maxRecDepth 20000 in
theorem dX8_init_55 : decode cX8_init 55 = .ok (.aload_n 0, 1) := by decide +kernel
set_option maxRecDepth 20000 in
theorem dX8_init_56 : decode cX8_init 56 = .ok (.sipush 256, 3) := by decide +kernel
set_option maxRecDepth 20000 in
theorem dX8_init_59 : decode cX8_init 59 = .ok (.newarray .boolean, 2) := by decide +kernel
set_option maxRecDepth 20000 in
theorem dX8_init_61 : decode cX8_init 61 = .ok (.putfield 29, 3) := by decide +kernel
set_option maxRecDepth 20000 in
theorem dX8_init_64 : decode cX8_init 64 = .ok (.aload_n 0, 1) := by decide +kernel
set_option maxRecDepth 20000 in
theorem dX8_init_65 : decode cX8_init 65 = .ok (.bipush 16, 2) := by decide +kernel
set_option maxRecDepth 20000 in
theorem dX8_init_67 : decode cX8_init 67 = .ok (.newarray .boolean, 2) := by decide +kernel
set_option maxRecDepth 20000 in
theorem dX8_init_69 : decode cX8_init 69 = .ok (.putfield 33, 3) := by decide +kernel
set_option maxRecDepth 20000 in
theorem dX8_init_72 : decode cX8_init 72 = .ok (.aload_n 0, 1) := by decide +kernel
set_option maxRecDepth 20000 in
theorem dX8_init_73 : decode cX8_init 73 = .ok (.bipush 16, 2) := by decide +kernel
set_option maxRecDepth 20000 in
theorem dX8_init_75 : decode cX8_init 75 = .ok (.newarray .int, 2) := by decide +kernel
set_option maxRecDepth 20000 in
theorem dX8_init_77 : decode cX8_init 77 = .ok (.putfield 36, 3) := by decide +kernel
set_option maxRecDepth 20000 in
theorem dX8_init_80 : decode cX8_init 80 = .ok (.aload_n 0, 1) := by decide +kernel
set_option maxRecDepth 20000 in
theorem dX8_init_81 : decode cX8_init 81 = .ok (.getfield 7, 3) := by decide +kernel
set_option maxRecDepth 20000 in
theorem dX8_init_84 : decode cX8_init 84 = .ok (.iconst 0, 1) := by decide +kernel
set_option maxRecDepth 20000 in
theorem dX8_init_85 : decode cX8_init 85 = .ok (.iconst 1, 1) := by decide +kernel
set_option maxRecDepth 20000 in
theorem dX8_init_86 : decode cX8_init 86 = .ok (.iastore, 1) := by decide +kernel
set_option maxRecDepth 20000 in
theorem dX8_init_87 : decode cX8_init 87 = .ok (.aload_n 0, 1) := by decide +kernel
set_option maxRecDepth 20000 in
theorem dX8_init_88 : decode cX8_init 88 = .ok (.getfield 7, 3) := by decide +kernel
set_option maxRecDepth 20000 in
theorem dX8_init_91 : decode cX8_init 91 = .ok (.iconst 2, 1) := by decide +kernel
set_option maxRecDepth 20000 in
theorem dX8_init_92 : decode cX8_init 92 = .ok (.iconst (-1), 1) := by decide +kernel
set_option maxRecDepth 20000 in
theorem dX8_init_93 : decode cX8_init 93 = .ok (.iastore, 1) := by decide +kernel
set_option maxRecDepth 20000 in
theorem dX8_init_94 : decode cX8_init 94 = .ok (.return_, 1) := by decide +kernel
set_option maxRecDepth 20000 in
theorem dX8_in_0 : decode cX8_in 0 = .ok (.iload_n 0, 1) := by decide +kernel
set_option maxRecDepth 20000 in
theorem dX8_in_1 : decode cX8_in 1 = .ok (.iload_n 1, 1) := by decide +kernel
set_option maxRecDepth 20000 in
theorem dX8_in_2 : decode cX8_in 2 = .ok (.if_icmp .lt 12, 3) := by decide +kernel
set_option maxRecDepth 20000 in
theorem dX8_in_5 : decode cX8_in 5 = .ok (.iload_n 0, 1) := by decide +kernel
set_option maxRecDepth 20000 in
theorem dX8_in_6 : decode cX8_in 6 = .ok (.iload_n 2, 1) := by decide +kernel
set_option maxRecDepth 20000 in
theorem dX8_in_7 : decode cX8_in 7 = .ok (.if_icmp .gt 7, 3) := by decide +kernel
set_option maxRecDepth 20000 in
theorem dX8_in_10 : decode cX8_in 10 = .ok (.iconst 1, 1) := by decide +kernel
set_option maxRecDepth 20000 in
theorem dX8_in_11 : decode cX8_in 11 = .ok (.goto 4, 3) := by decide +kernel
set_option maxRecDepth 20000 in
theorem dX8_in_14 : decode cX8_in 14 = .ok (.iconst 0, 1) := by decide +kernel
set_option maxRecDepth 20000 in
theorem dX8_in_15 : decode cX8_in 15 = .ok (.ireturn, 1) := by decide +kernel
set_option maxRecDepth 20000 in
theorem dX8_isElement_0 : decode cX8_isElement 0 = .ok (.iload_n 1, 1) := by decide +kernel
set_option maxRecDepth 20000 in
theorem dX8_isElement_1 : decode cX8_isElement 1 = .ok (.iconst 0, 1) := by decide +kernel
set_option maxRecDepth 20000 in
theorem dX8_isElement_2 : decode cX8_isElement 2 = .ok (.aload_n 0, 1) := by decide +kernel
set_option maxRecDepth 20000 in
theorem dX8_isElement_3 : decode cX8_isElement 3 = .ok (.getfield 7, 3) := by decide +kernel
set_option maxRecDepth 20000 in
theorem dX8_isElement_6 : decode cX8_isElement 6 = .ok (.iconst 0, 1) := by decide +kernel
set_option maxRecDepth 20000 in
theorem dX8_isElement_7 : decode cX8_isElement 7 = .ok (.iaload, 1) := by decide +kernel
set_option maxRecDepth 20000 in
theorem dX8_isElement_8 : decode cX8_isElement 8 = .ok (.iconst 1, 1) := by decide +kernel
set_option maxRecDepth 20000 in
theorem dX8_isElement_9 : decode cX8_isElement 9 = .ok (.isub, 1) := by decide +kernel
set_option maxRecDepth 20000 in
theorem dX8_isElement_10 : decode cX8_isElement 10 = .ok (.invokestatic 39, 3) := by decide +kernel
set_option maxRecDepth 20000 in
theorem dX8_isElement_13 : decode cX8_isElement 13 = .ok (.ireturn, 1) := by decide +kernel
set_option maxRecDepth 20000 in
theorem dX8_isRule_0 : decode cX8_isRule 0 = .ok (.iload_n 1, 1) := by decide +kernel
set_option maxRecDepth 20000 in
theorem dX8_isRule_1 : decode cX8_isRule 1 = .ok (.iconst 0, 1) := by decide +kernel
set_option maxRecDepth 20000 in
theorem dX8_isRule_2 : decode cX8_isRule 2 = .ok (.aload_n 0, 1) := by decide +kernel
set_option maxRecDepth 20000 in
theorem dX8_isRule_3 : decode cX8_isRule 3 = .ok (.getfield 7, 3) := by decide +kernel
set_option maxRecDepth 20000 in
theorem dX8_isRule_6 : decode cX8_isRule 6 = .ok (.iconst 1, 1) := by decide +kernel
set_option maxRecDepth 20000 in
theorem dX8_isRule_7 : decode cX8_isRule 7 = .ok (.iaload, 1) := by decide +kernel
set_option maxRecDepth 20000 in
theorem dX8_isRule_8 : decode cX8_isRule 8 = .ok (.iconst 1, 1) := by decide +kernel
set_option maxRecDepth 20000 in
theorem dX8_isRule_9 : decode cX8_isRule 9 = .ok (.isub, 1) := by decide +kernel
set_option maxRecDepth 20000 in
theorem dX8_isRule_10 : decode cX8_isRule 10 = .ok (.invokestatic 39, 3) := by decide +kernel
set_option maxRecDepth 20000 in
theorem dX8_isRule_13 : decode cX8_isRule 13 = .ok (.ireturn, 1) := by decide +kernel
set_option maxRecDepth 20000 in
theorem dX8_isProperty_0 : decode cX8_isProperty 0 = .ok (.iload_n 0, 1) := by decide +kernel
set_option maxRecDepth 20000 in
theorem dX8_isProperty_1 : decode cX8_isProperty 1 = .ok (.iconst 0, 1) := by decide +kernel
set_option maxRecDepth 20000 in
theorem dX8_isProperty_2 : decode cX8_isProperty 2 = .ok (.bipush 15, 2) := by decide +kernel
set_option maxRecDepth 20000 in
theorem dX8_isProperty_4 : decode cX8_isProperty 4 = .ok (.invokestatic 39, 3) := by decide +kernel
set_option maxRecDepth 20000 in
theorem dX8_isProperty_7 : decode cX8_isProperty 7 = .ok (.ireturn, 1) := by decide +kernel
set_option maxRecDepth 20000 in
theorem dX8_of_0 : decode cX8_of 0 = .ok (.aload_n 0, 1) := by decide +kernel
set_option maxRecDepth 20000 in
theorem dX8_of_1 : decode cX8_of 1 = .ok (.getfield 7, 3) := by decide +kernel
set_option maxRecDepth 20000 in
theorem dX8_of_4 : decode cX8_of 4 = .ok (.bipush 50, 2) := by decide +kernel
set_option maxRecDepth 20000 in
theorem dX8_of_6 : decode cX8_of 6 = .ok (.bipush 6, 2) := by decide +kernel
set_option maxRecDepth 20000 in
theorem dX8_of_8 : decode cX8_of 8 = .ok (.iload_n 1, 1) := by decide +kernel
set_option maxRecDepth 20000 in
theorem dX8_of_9 : decode cX8_of 9 = .ok (.imul, 1) := by decide +kernel
set_option maxRecDepth 20000 in
theorem dX8_of_10 : decode cX8_of 10 = .ok (.iadd, 1) := by decide +kernel
set_option maxRecDepth 20000 in
theorem dX8_of_11 : decode cX8_of 11 = .ok (.iload_n 2, 1) := by decide +kernel
set_option maxRecDepth 20000 in
theorem dX8_of_12 : decode cX8_of 12 = .ok (.iadd, 1) := by decide +kernel
set_option maxRecDepth 20000 in
theorem dX8_of_13 : decode cX8_of 13 = .ok (.iaload, 1) := by decide +kernel
set_option maxRecDepth 20000 in
theorem dX8_of_14 : decode cX8_of 14 = .ok (.ireturn, 1) := by decide +kernel
set_option maxRecDepth 20000 in
theorem dX8_says_0 : decode cX8_says 0 = .ok (.sipush 146, 3) := by decide +kernel
set_option maxRecDepth 20000 in
theorem dX8_says_3 : decode cX8_says 3 = .ok (.bipush 48, 2) := by decide +kernel
set_option maxRecDepth 20000 in
theorem dX8_says_5 : decode cX8_says 5 = .ok (.iload_n 0, 1) := by decide +kernel
set_option maxRecDepth 20000 in
theorem dX8_says_6 : decode cX8_says 6 = .ok (.imul, 1) := by decide +kernel
set_option maxRecDepth 20000 in
theorem dX8_says_7 : decode cX8_says 7 = .ok (.iadd, 1) := by decide +kernel
set_option maxRecDepth 20000 in
theorem dX8_says_8 : decode cX8_says 8 = .ok (.iconst 3, 1) := by decide +kernel
set_option maxRecDepth 20000 in
theorem dX8_says_9 : decode cX8_says 9 = .ok (.iload_n 1, 1) := by decide +kernel
set_option maxRecDepth 20000 in
theorem dX8_says_10 : decode cX8_says 10 = .ok (.imul, 1) := by decide +kernel
set_option maxRecDepth 20000 in
theorem dX8_says_11 : decode cX8_says 11 = .ok (.iadd, 1) := by decide +kernel
set_option maxRecDepth 20000 in
theorem dX8_says_12 : decode cX8_says 12 = .ok (.ireturn, 1) := by decide +kernel
set_option maxRecDepth 20000 in
theorem dX8_records_0 : decode cX8_records 0 = .ok (.aload_n 0, 1) := by decide +kernel
set_option maxRecDepth 20000 in
theorem dX8_records_1 : decode cX8_records 1 = .ok (.getfield 43, 3) := by decide +kernel
set_option maxRecDepth 20000 in
theorem dX8_records_4 : decode cX8_records 4 = .ok (.iconst 5, 1) := by decide +kernel
set_option maxRecDepth 20000 in
theorem dX8_records_5 : decode cX8_records 5 = .ok (.if_icmp .ne 44, 3) := by decide +kernel
set_option maxRecDepth 20000 in
theorem dX8_records_8 : decode cX8_records 8 = .ok (.iconst 0, 1) := by decide +kernel
set_option maxRecDepth 20000 in
theorem dX8_records_9 : decode cX8_records 9 = .ok (.istore_n 1, 1) := by decide +kernel
set_option maxRecDepth 20000 in
theorem dX8_records_10 : decode cX8_records 10 = .ok (.iload_n 1, 1) := by decide +kernel
set_option maxRecDepth 20000 in
theorem dX8_records_11 : decode cX8_records 11 = .ok (.sipush 3656, 3) := by decide +kernel
set_option maxRecDepth 20000 in
theorem dX8_records_14 : decode cX8_records 14 = .ok (.if_icmp .ge 25, 3) := by decide +kernel
set_option maxRecDepth 20000 in
theorem dX8_records_17 : decode cX8_records 17 = .ok (.aload_n 0, 1) := by decide +kernel
set_option maxRecDepth 20000 in
theorem dX8_records_18 : decode cX8_records 18 = .ok (.getfield 13, 3) := by decide +kernel
set_option maxRecDepth 20000 in
theorem dX8_records_21 : decode cX8_records 21 = .ok (.iload_n 1, 1) := by decide +kernel
set_option maxRecDepth 20000 in
theorem dX8_records_22 : decode cX8_records 22 = .ok (.aload_n 0, 1) := by decide +kernel
set_option maxRecDepth 20000 in
theorem dX8_records_23 : decode cX8_records 23 = .ok (.getfield 13, 3) := by decide +kernel
set_option maxRecDepth 20000 in
theorem dX8_records_26 : decode cX8_records 26 = .ok (.iload_n 1, 1) := by decide +kernel
set_option maxRecDepth 20000 in
theorem dX8_records_27 : decode cX8_records 27 = .ok (.sipush 914, 3) := by decide +kernel
set_option maxRecDepth 20000 in
theorem dX8_records_30 : decode cX8_records 30 = .ok (.iadd, 1) := by decide +kernel
set_option maxRecDepth 20000 in
theorem dX8_records_31 : decode cX8_records 31 = .ok (.iaload, 1) := by decide +kernel
set_option maxRecDepth 20000 in
theorem dX8_records_32 : decode cX8_records 32 = .ok (.iastore, 1) := by decide +kernel
set_option maxRecDepth 20000 in
theorem dX8_records_33 : decode cX8_records 33 = .ok (.iinc 1 1, 3) := by decide +kernel
set_option maxRecDepth 20000 in
theorem dX8_records_36 : decode cX8_records 36 = .ok (.goto (-26), 3) := by decide +kernel
set_option maxRecDepth 20000 in
theorem dX8_records_39 : decode cX8_records 39 = .ok (.aload_n 0, 1) := by decide +kernel
set_option maxRecDepth 20000 in
theorem dX8_records_40 : decode cX8_records 40 = .ok (.dup, 1) := by decide +kernel
set_option maxRecDepth 20000 in
theorem dX8_records_41 : decode cX8_records 41 = .ok (.getfield 43, 3) := by decide +kernel
set_option maxRecDepth 20000 in
theorem dX8_records_44 : decode cX8_records 44 = .ok (.iconst 1, 1) := by decide +kernel
set_option maxRecDepth 20000 in
theorem dX8_records_45 : decode cX8_records 45 = .ok (.isub, 1) := by decide +kernel
set_option maxRecDepth 20000 in
theorem dX8_records_46 : decode cX8_records 46 = .ok (.putfield 43, 3) := by decide +kernel
set_option maxRecDepth 20000 in
theorem dX8_records_49 : decode cX8_records 49 = .ok (.iconst 0, 1) := by decide +kernel
set_option maxRecDepth 20000 in
theorem dX8_records_50 : decode cX8_records 50 = .ok (.istore_n 1, 1) := by decide +kernel
set_option maxRecDepth 20000 in
theorem dX8_records_51 : decode cX8_records 51 = .ok (.iload_n 1, 1) := by decide +kernel
set_option maxRecDepth 20000 in
theorem dX8_records_52 : decode cX8_records 52 = .ok (.sipush 914, 3) := by decide +kernel
set_option maxRecDepth 20000 in
theorem dX8_records_55 : decode cX8_records 55 = .ok (.if_icmp .ge 30, 3) := by decide +kernel
set_option maxRecDepth 20000 in
theorem dX8_records_58 : decode cX8_records 58 = .ok (.aload_n 0, 1) := by decide +kernel
set_option maxRecDepth 20000 in
theorem dX8_records_59 : decode cX8_records 59 = .ok (.getfield 13, 3) := by decide +kernel
set_option maxRecDepth 20000 in
theorem dX8_records_62 : decode cX8_records 62 = .ok (.sipush 914, 3) := by decide +kernel
set_option maxRecDepth 20000 in
theorem dX8_records_65 : decode cX8_records 65 = .ok (.aload_n 0, 1) := by decide +kernel
set_option maxRecDepth 20000 in
theorem dX8_records_66 : decode cX8_records 66 = .ok (.getfield 43, 3) := by decide +kernel
set_option maxRecDepth 20000 in
theorem dX8_records_69 : decode cX8_records 69 = .ok (.imul, 1) := by decide +kernel
set_option maxRecDepth 20000 in
theorem dX8_records_70 : decode cX8_records 70 = .ok (.iload_n 1, 1) := by decide +kernel
set_option maxRecDepth 20000 in
theorem dX8_records_71 : decode cX8_records 71 = .ok (.iadd, 1) := by decide +kernel
set_option maxRecDepth 20000 in
theorem dX8_records_72 : decode cX8_records 72 = .ok (.aload_n 0, 1) := by decide +kernel
set_option maxRecDepth 20000 in
theorem dX8_records_73 : decode cX8_records 73 = .ok (.getfield 7, 3) := by decide +kernel
set_option maxRecDepth 20000 in
theorem dX8_records_76 : decode cX8_records 76 = .ok (.iload_n 1, 1) := by decide +kernel
set_option maxRecDepth 20000 in
theorem dX8_records_77 : decode cX8_records 77 = .ok (.iaload, 1) := by decide +kernel
set_option maxRecDepth 20000 in
theorem dX8_records_78 : decode cX8_records 78 = .ok (.iastore, 1) := by decide +kernel
set_option maxRecDepth 20000 in
theorem dX8_records_79 : decode cX8_records 79 = .ok (.iinc 1 1, 3) := by decide +kernel
set_option maxRecDepth 20000 in
theorem dX8_records_82 : decode cX8_records 82 = .ok (.goto (-31), 3) := by decide +kernel
set_option maxRecDepth 20000 in
theorem dX8_records_85 : decode cX8_records 85 = .ok (.aload_n 0, 1) := by decide +kernel
set_option maxRecDepth 20000 in
theorem dX8_records_86 : decode cX8_records 86 = .ok (.dup, 1) := by decide +kernel
set_option maxRecDepth 20000 in
theorem dX8_records_87 : decode cX8_records 87 = .ok (.getfield 43, 3) := by decide +kernel
set_option maxRecDepth 20000 in
theorem dX8_records_90 : decode cX8_records 90 = .ok (.iconst 1, 1) := by decide +kernel
set_option maxRecDepth 20000 in
theorem dX8_records_91 : decode cX8_records 91 = .ok (.iadd, 1) := by decide +kernel
set_option maxRecDepth 20000 in
theorem dX8_records_92 : decode cX8_records 92 = .ok (.putfield 43, 3) := by decide +kernel
set_option maxRecDepth 20000 in
theorem dX8_records_95 : decode cX8_records 95 = .ok (.return_, 1) := by decide +kernel
set_option maxRecDepth 20000 in
theorem dX8_isDress_0 : decode cX8_isDress 0 = .ok (.iload_n 0, 1) := by decide +kernel
set_option maxRecDepth 20000 in
theorem dX8_isDress_1 : decode cX8_isDress 1 = .ok (.iconst 0, 1) := by decide +kernel
set_option maxRecDepth 20000 in
theorem dX8_isDress_2 : decode cX8_isDress 2 = .ok (.iconst 5, 1) := by decide +kernel
set_option maxRecDepth 20000 in
theorem dX8_isDress_3 : decode cX8_isDress 3 = .ok (.invokestatic 39, 3) := by decide +kernel
set_option maxRecDepth 20000 in
theorem dX8_isDress_6 : decode cX8_isDress 6 = .ok (.ifCond .eq 17, 3) := by decide +kernel
set_option maxRecDepth 20000 in
theorem dX8_isDress_9 : decode cX8_isDress 9 = .ok (.iload_n 1, 1) := by decide +kernel
set_option maxRecDepth 20000 in
theorem dX8_isDress_10 : decode cX8_isDress 10 = .ok (.iconst 0, 1) := by decide +kernel
set_option maxRecDepth 20000 in
theorem dX8_isDress_11 : decode cX8_isDress 11 = .ok (.bipush 15, 2) := by decide +kernel
set_option maxRecDepth 20000 in
theorem dX8_isDress_13 : decode cX8_isDress 13 = .ok (.invokestatic 39, 3) := by decide +kernel
set_option maxRecDepth 20000 in
theorem dX8_isDress_16 : decode cX8_isDress 16 = .ok (.ifCond .eq 7, 3) := by decide +kernel
set_option maxRecDepth 20000 in
theorem dX8_isDress_19 : decode cX8_isDress 19 = .ok (.iconst 1, 1) := by decide +kernel
set_option maxRecDepth 20000 in
theorem dX8_isDress_20 : decode cX8_isDress 20 = .ok (.goto 4, 3) := by decide +kernel
set_option maxRecDepth 20000 in
theorem dX8_isDress_23 : decode cX8_isDress 23 = .ok (.iconst 0, 1) := by decide +kernel
set_option maxRecDepth 20000 in
theorem dX8_isDress_24 : decode cX8_isDress 24 = .ok (.ireturn, 1) := by decide +kernel
set_option maxRecDepth 20000 in
theorem dX8_add_0 : decode cX8_add 0 = .ok (.aload_n 0, 1) := by decide +kernel
set_option maxRecDepth 20000 in
theorem dX8_add_1 : decode cX8_add 1 = .ok (.iload_n 1, 1) := by decide +kernel
set_option maxRecDepth 20000 in
theorem dX8_add_2 : decode cX8_add 2 = .ok (.invokevirtual 47, 3) := by decide +kernel
set_option maxRecDepth 20000 in
theorem dX8_add_5 : decode cX8_add 5 = .ok (.ifCond .eq 11, 3) := by decide +kernel
set_option maxRecDepth 20000 in
theorem dX8_add_8 : decode cX8_add 8 = .ok (.iload_n 2, 1) := by decide +kernel
set_option maxRecDepth 20000 in
theorem dX8_add_9 : decode cX8_add 9 = .ok (.iload_n 3, 1) := by decide +kernel
set_option maxRecDepth 20000 in
theorem dX8_add_10 : decode cX8_add 10 = .ok (.invokestatic 51, 3) := by decide +kernel
set_option maxRecDepth 20000 in
theorem dX8_add_13 : decode cX8_add 13 = .ok (.ifCond .ne 6, 3) := by decide +kernel
set_option maxRecDepth 20000 in
theorem dX8_add_16 : decode cX8_add 16 = .ok (.bipush (-11), 2) := by decide +kernel
set_option maxRecDepth 20000 in
theorem dX8_add_18 : decode cX8_add 18 = .ok (.ireturn, 1) := by decide +kernel
set_option maxRecDepth 20000 in
theorem dX8_add_19 : decode cX8_add 19 = .ok (.aload_n 0, 1) := by decide +kernel
set_option maxRecDepth 20000 in
theorem dX8_add_20 : decode cX8_add 20 = .ok (.getfield 7, 3) := by decide +kernel
set_option maxRecDepth 20000 in
theorem dX8_add_23 : decode cX8_add 23 = .ok (.iconst 0, 1) := by decide +kernel
set_option maxRecDepth 20000 in
theorem dX8_add_24 : decode cX8_add 24 = .ok (.iaload, 1) := by decide +kernel
set_option maxRecDepth 20000 in
theorem dX8_add_25 : decode cX8_add 25 = .ok (.bipush 16, 2) := by decide +kernel
set_option maxRecDepth 20000 in
theorem dX8_add_27 : decode cX8_add 27 = .ok (.if_icmp .ne 6, 3) := by decide +kernel
set_option maxRecDepth 20000 in
theorem dX8_add_30 : decode cX8_add 30 = .ok (.bipush (-13), 2) := by decide +kernel
set_option maxRecDepth 20000 in
theorem dX8_add_32 : decode cX8_add 32 = .ok (.ireturn, 1) := by decide +kernel
set_option maxRecDepth 20000 in
theorem dX8_add_33 : decode cX8_add 33 = .ok (.aload_n 0, 1) := by decide +kernel
set_option maxRecDepth 20000 in
theorem dX8_add_34 : decode cX8_add 34 = .ok (.invokevirtual 55, 3) := by decide +kernel
set_option maxRecDepth 20000 in
theorem dX8_add_37 : decode cX8_add 37 = .ok (.aload_n 0, 1) := by decide +kernel
set_option maxRecDepth 20000 in
theorem dX8_add_38 : decode cX8_add 38 = .ok (.getfield 7, 3) := by decide +kernel
set_option maxRecDepth 20000 in
theorem dX8_add_41 : decode cX8_add 41 = .ok (.iconst 2, 1) := by decide +kernel
set_option maxRecDepth 20000 in
theorem dX8_add_42 : decode cX8_add 42 = .ok (.aload_n 0, 1) := by decide +kernel
set_option maxRecDepth 20000 in
theorem dX8_add_43 : decode cX8_add 43 = .ok (.getfield 7, 3) := by decide +kernel
set_option maxRecDepth 20000 in
theorem dX8_add_46 : decode cX8_add 46 = .ok (.iconst 0, 1) := by decide +kernel
set_option maxRecDepth 20000 in
theorem dX8_add_47 : decode cX8_add 47 = .ok (.iaload, 1) := by decide +kernel
set_option maxRecDepth 20000 in
theorem dX8_add_48 : decode cX8_add 48 = .ok (.iadd, 1) := by decide +kernel
set_option maxRecDepth 20000 in
theorem dX8_add_49 : decode cX8_add 49 = .ok (.iload_n 1, 1) := by decide +kernel
set_option maxRecDepth 20000 in
theorem dX8_add_50 : decode cX8_add 50 = .ok (.iastore, 1) := by decide +kernel
set_option maxRecDepth 20000 in
theorem dX8_add_51 : decode cX8_add 51 = .ok (.aload_n 0, 1) := by decide +kernel
set_option maxRecDepth 20000 in
theorem dX8_add_52 : decode cX8_add 52 = .ok (.getfield 7, 3) := by decide +kernel
set_option maxRecDepth 20000 in
theorem dX8_add_55 : decode cX8_add 55 = .ok (.bipush 18, 2) := by decide +kernel
set_option maxRecDepth 20000 in
theorem dX8_add_57 : decode cX8_add 57 = .ok (.aload_n 0, 1) := by decide +kernel
set_option maxRecDepth 20000 in
theorem dX8_add_58 : decode cX8_add 58 = .ok (.getfield 7, 3) := by decide +kernel
set_option maxRecDepth 20000 in
theorem dX8_add_61 : decode cX8_add 61 = .ok (.iconst 0, 1) := by decide +kernel
set_option maxRecDepth 20000 in
theorem dX8_add_62 : decode cX8_add 62 = .ok (.iaload, 1) := by decide +kernel
set_option maxRecDepth 20000 in
theorem dX8_add_63 : decode cX8_add 63 = .ok (.iadd, 1) := by decide +kernel
set_option maxRecDepth 20000 in
theorem dX8_add_64 : decode cX8_add 64 = .ok (.iload_n 2, 1) := by decide +kernel
set_option maxRecDepth 20000 in
theorem dX8_add_65 : decode cX8_add 65 = .ok (.iastore, 1) := by decide +kernel
set_option maxRecDepth 20000 in
theorem dX8_add_66 : decode cX8_add 66 = .ok (.aload_n 0, 1) := by decide +kernel
set_option maxRecDepth 20000 in
theorem dX8_add_67 : decode cX8_add 67 = .ok (.getfield 7, 3) := by decide +kernel
set_option maxRecDepth 20000 in
theorem dX8_add_70 : decode cX8_add 70 = .ok (.bipush 34, 2) := by decide +kernel
set_option maxRecDepth 20000 in
theorem dX8_add_72 : decode cX8_add 72 = .ok (.aload_n 0, 1) := by decide +kernel
set_option maxRecDepth 20000 in
theorem dX8_add_73 : decode cX8_add 73 = .ok (.getfield 7, 3) := by decide +kernel
set_option maxRecDepth 20000 in
theorem dX8_add_76 : decode cX8_add 76 = .ok (.iconst 0, 1) := by decide +kernel
set_option maxRecDepth 20000 in
theorem dX8_add_77 : decode cX8_add 77 = .ok (.iaload, 1) := by decide +kernel
set_option maxRecDepth 20000 in
theorem dX8_add_78 : decode cX8_add 78 = .ok (.iadd, 1) := by decide +kernel
set_option maxRecDepth 20000 in
theorem dX8_add_79 : decode cX8_add 79 = .ok (.iload_n 3, 1) := by decide +kernel
set_option maxRecDepth 20000 in
theorem dX8_add_80 : decode cX8_add 80 = .ok (.iastore, 1) := by decide +kernel
set_option maxRecDepth 20000 in
theorem dX8_add_81 : decode cX8_add 81 = .ok (.aload_n 0, 1) := by decide +kernel
set_option maxRecDepth 20000 in
theorem dX8_add_82 : decode cX8_add 82 = .ok (.getfield 7, 3) := by decide +kernel
set_option maxRecDepth 20000 in
theorem dX8_add_85 : decode cX8_add 85 = .ok (.iconst 0, 1) := by decide +kernel
set_option maxRecDepth 20000 in
theorem dX8_add_86 : decode cX8_add 86 = .ok (.dup2, 1) := by decide +kernel
set_option maxRecDepth 20000 in
theorem dX8_add_87 : decode cX8_add 87 = .ok (.iaload, 1) := by decide +kernel
set_option maxRecDepth 20000 in
theorem dX8_add_88 : decode cX8_add 88 = .ok (.iconst 1, 1) := by decide +kernel
set_option maxRecDepth 20000 in
theorem dX8_add_89 : decode cX8_add 89 = .ok (.iadd, 1) := by decide +kernel
set_option maxRecDepth 20000 in
theorem dX8_add_90 : decode cX8_add 90 = .ok (.iastore, 1) := by decide +kernel
set_option maxRecDepth 20000 in
theorem dX8_add_91 : decode cX8_add 91 = .ok (.aload_n 0, 1) := by decide +kernel
set_option maxRecDepth 20000 in
theorem dX8_add_92 : decode cX8_add 92 = .ok (.getfield 7, 3) := by decide +kernel
set_option maxRecDepth 20000 in
theorem dX8_add_95 : decode cX8_add 95 = .ok (.iconst 0, 1) := by decide +kernel
set_option maxRecDepth 20000 in
theorem dX8_add_96 : decode cX8_add 96 = .ok (.iaload, 1) := by decide +kernel
set_option maxRecDepth 20000 in
theorem dX8_add_97 : decode cX8_add 97 = .ok (.iconst 1, 1) := by decide +kernel
set_option maxRecDepth 20000 in
theorem dX8_add_98 : decode cX8_add 98 = .ok (.isub, 1) := by decide +kernel
set_option maxRecDepth 20000 in
theorem dX8_add_99 : decode cX8_add 99 = .ok (.ireturn, 1) := by decide +kernel
set_option maxRecDepth 20000 in
theorem dX8_remove_0 : decode cX8_remove 0 = .ok (.iconst 0, 1) := by decide +kernel
set_option maxRecDepth 20000 in
theorem dX8_remove_1 : decode cX8_remove 1 = .ok (.istore_n 1, 1) := by decide +kernel
set_option maxRecDepth 20000 in
theorem dX8_remove_2 : decode cX8_remove 2 = .ok (.iconst 0, 1) := by decide +kernel
set_option maxRecDepth 20000 in
theorem dX8_remove_3 : decode cX8_remove 3 = .ok (.istore_n 2, 1) := by decide +kernel
set_option maxRecDepth 20000 in
theorem dX8_remove_4 : decode cX8_remove 4 = .ok (.iload_n 2, 1) := by decide +kernel
set_option maxRecDepth 20000 in
theorem dX8_remove_5 : decode cX8_remove 5 = .ok (.aload_n 0, 1) := by decide +kernel
set_option maxRecDepth 20000 in
theorem dX8_remove_6 : decode cX8_remove 6 = .ok (.getfield 7, 3) := by decide +kernel
set_option maxRecDepth 20000 in
theorem dX8_remove_9 : decode cX8_remove 9 = .ok (.iconst 1, 1) := by decide +kernel
set_option maxRecDepth 20000 in
theorem dX8_remove_10 : decode cX8_remove 10 = .ok (.iaload, 1) := by decide +kernel
set_option maxRecDepth 20000 in
theorem dX8_remove_11 : decode cX8_remove 11 = .ok (.if_icmp .ge 36, 3) := by decide +kernel
set_option maxRecDepth 20000 in
theorem dX8_remove_14 : decode cX8_remove 14 = .ok (.iload_n 1, 1) := by decide +kernel
set_option maxRecDepth 20000 in
theorem dX8_remove_15 : decode cX8_remove 15 = .ok (.ifCond .ne 20, 3) := by decide +kernel
set_option maxRecDepth 20000 in
theorem dX8_remove_18 : decode cX8_remove 18 = .ok (.aload_n 0, 1) := by decide +kernel
set_option maxRecDepth 20000 in
theorem dX8_remove_19 : decode cX8_remove 19 = .ok (.iload_n 2, 1) := by decide +kernel
set_option maxRecDepth 20000 in
theorem dX8_remove_20 : decode cX8_remove 20 = .ok (.iconst 4, 1) := by decide +kernel
set_option maxRecDepth 20000 in
theorem dX8_remove_21 : decode cX8_remove 21 = .ok (.invokevirtual 58, 3) := by decide +kernel
set_option maxRecDepth 20000 in
theorem dX8_remove_24 : decode cX8_remove 24 = .ok (.aload_n 0, 1) := by decide +kernel
set_option maxRecDepth 20000 in
theorem dX8_remove_25 : decode cX8_remove 25 = .ok (.getfield 7, 3) := by decide +kernel
set_option maxRecDepth 20000 in
theorem dX8_remove_28 : decode cX8_remove 28 = .ok (.iconst 0, 1) := by decide +kernel
set_option maxRecDepth 20000 in
theorem dX8_remove_29 : decode cX8_remove 29 = .ok (.iaload, 1) := by decide +kernel
set_option maxRecDepth 20000 in
theorem dX8_remove_30 : decode cX8_remove 30 = .ok (.iconst 1, 1) := by decide +kernel
set_option maxRecDepth 20000 in
theorem dX8_remove_31 : decode cX8_remove 31 = .ok (.isub, 1) := by decide +kernel
set_option maxRecDepth 20000 in
theorem dX8_remove_32 : decode cX8_remove 32 = .ok (.if_icmp .ne 7, 3) := by decide +kernel
set_option maxRecDepth 20000 in
theorem dX8_remove_35 : decode cX8_remove 35 = .ok (.iconst 1, 1) := by decide +kernel
set_option maxRecDepth 20000 in
theorem dX8_remove_36 : decode cX8_remove 36 = .ok (.goto 4, 3) := by decide +kernel
set_option maxRecDepth 20000 in
theorem dX8_remove_39 : decode cX8_remove 39 = .ok (.iconst 0, 1) := by decide +kernel
set_option maxRecDepth 20000 in
theorem dX8_remove_40 : decode cX8_remove 40 = .ok (.istore_n 1, 1) := by decide +kernel
set_option maxRecDepth 20000 in
theorem dX8_remove_41 : decode cX8_remove 41 = .ok (.iinc 2 1, 3) := by decide +kernel
set_option maxRecDepth 20000 in
theorem dX8_remove_44 : decode cX8_remove 44 = .ok (.goto (-40), 3) := by decide +kernel
end
section
set_option maxRecDepth 20000 in
theorem dX8_remove_47 : decode cX8_remove 47 = .ok (.aload_n 0, 1) := by decide +kernel
set_option maxRecDepth 20000 in
theorem dX8_remove_48 : decode cX8_remove 48 = .ok (.getfield 7, 3) := by decide +kernel
set_option maxRecDepth 20000 in
theorem dX8_remove_51 : decode cX8_remove 51 = .ok (.iconst 0, 1) := by decide +kernel
set_option maxRecDepth 20000 in
theorem dX8_remove_52 : decode cX8_remove 52 = .ok (.iaload, 1) := by decide +kernel
set_option maxRecDepth 20000 in
theorem dX8_remove_53 : decode cX8_remove 53 = .ok (.iconst 1, 1) := by decide +kernel
set_option maxRecDepth 20000 in
theorem dX8_remove_54 : decode cX8_remove 54 = .ok (.if_icmp .eq 7, 3) := by decide +kernel
set_option maxRecDepth 20000 in
theorem dX8_remove_57 : decode cX8_remove 57 = .ok (.iload_n 1, 1) := by decide +kernel
set_option maxRecDepth 20000 in
theorem dX8_remove_58 : decode cX8_remove 58 = .ok (.ifCond .eq 6, 3) := by decide +kernel
set_option maxRecDepth 20000 in
theorem dX8_remove_61 : decode cX8_remove 61 = .ok (.bipush (-12), 2) := by decide +kernel
set_option maxRecDepth 20000 in
theorem dX8_remove_63 : decode cX8_remove 63 = .ok (.ireturn, 1) := by decide +kernel
set_option maxRecDepth 20000 in
theorem dX8_remove_64 : decode cX8_remove 64 = .ok (.aload_n 0, 1) := by decide +kernel
set_option maxRecDepth 20000 in
theorem dX8_remove_65 : decode cX8_remove 65 = .ok (.invokevirtual 55, 3) := by decide +kernel
set_option maxRecDepth 20000 in
theorem dX8_remove_68 : decode cX8_remove 68 = .ok (.aload_n 0, 1) := by decide +kernel
set_option maxRecDepth 20000 in
theorem dX8_remove_69 : decode cX8_remove 69 = .ok (.getfield 7, 3) := by decide +kernel
set_option maxRecDepth 20000 in
theorem dX8_remove_72 : decode cX8_remove 72 = .ok (.iconst 0, 1) := by decide +kernel
set_option maxRecDepth 20000 in
theorem dX8_remove_73 : decode cX8_remove 73 = .ok (.dup2, 1) := by decide +kernel
set_option maxRecDepth 20000 in
theorem dX8_remove_74 : decode cX8_remove 74 = .ok (.iaload, 1) := by decide +kernel
set_option maxRecDepth 20000 in
theorem dX8_remove_75 : decode cX8_remove 75 = .ok (.iconst 1, 1) := by decide +kernel
set_option maxRecDepth 20000 in
theorem dX8_remove_76 : decode cX8_remove 76 = .ok (.isub, 1) := by decide +kernel
set_option maxRecDepth 20000 in
theorem dX8_remove_77 : decode cX8_remove 77 = .ok (.iastore, 1) := by decide +kernel
set_option maxRecDepth 20000 in
theorem dX8_remove_78 : decode cX8_remove 78 = .ok (.aload_n 0, 1) := by decide +kernel
set_option maxRecDepth 20000 in
theorem dX8_remove_79 : decode cX8_remove 79 = .ok (.getfield 7, 3) := by decide +kernel
set_option maxRecDepth 20000 in
theorem dX8_remove_82 : decode cX8_remove 82 = .ok (.iconst 0, 1) := by decide +kernel
set_option maxRecDepth 20000 in
theorem dX8_remove_83 : decode cX8_remove 83 = .ok (.iaload, 1) := by decide +kernel
set_option maxRecDepth 20000 in
theorem dX8_remove_84 : decode cX8_remove 84 = .ok (.ireturn, 1) := by decide +kernel
set_option maxRecDepth 20000 in
theorem dX8_dress_0 : decode cX8_dress 0 = .ok (.aload_n 0, 1) := by decide +kernel
set_option maxRecDepth 20000 in
theorem dX8_dress_1 : decode cX8_dress 1 = .ok (.iload_n 1, 1) := by decide +kernel
set_option maxRecDepth 20000 in
theorem dX8_dress_2 : decode cX8_dress 2 = .ok (.invokevirtual 47, 3) := by decide +kernel
set_option maxRecDepth 20000 in
theorem dX8_dress_5 : decode cX8_dress 5 = .ok (.ifCond .eq 11, 3) := by decide +kernel
set_option maxRecDepth 20000 in
theorem dX8_dress_8 : decode cX8_dress 8 = .ok (.iload_n 2, 1) := by decide +kernel
set_option maxRecDepth 20000 in
theorem dX8_dress_9 : decode cX8_dress 9 = .ok (.iload_n 3, 1) := by decide +kernel
set_option maxRecDepth 20000 in
theorem dX8_dress_10 : decode cX8_dress 10 = .ok (.invokestatic 51, 3) := by decide +kernel
set_option maxRecDepth 20000 in
theorem dX8_dress_13 : decode cX8_dress 13 = .ok (.ifCond .ne 6, 3) := by decide +kernel
set_option maxRecDepth 20000 in
theorem dX8_dress_16 : decode cX8_dress 16 = .ok (.bipush (-11), 2) := by decide +kernel
set_option maxRecDepth 20000 in
theorem dX8_dress_18 : decode cX8_dress 18 = .ok (.ireturn, 1) := by decide +kernel
set_option maxRecDepth 20000 in
theorem dX8_dress_19 : decode cX8_dress 19 = .ok (.aload_n 0, 1) := by decide +kernel
set_option maxRecDepth 20000 in
theorem dX8_dress_20 : decode cX8_dress 20 = .ok (.invokevirtual 55, 3) := by decide +kernel
set_option maxRecDepth 20000 in
theorem dX8_dress_23 : decode cX8_dress 23 = .ok (.bipush 16, 2) := by decide +kernel
set_option maxRecDepth 20000 in
theorem dX8_dress_25 : decode cX8_dress 25 = .ok (.aload_n 0, 1) := by decide +kernel
set_option maxRecDepth 20000 in
theorem dX8_dress_26 : decode cX8_dress 26 = .ok (.getfield 7, 3) := by decide +kernel
set_option maxRecDepth 20000 in
theorem dX8_dress_29 : decode cX8_dress 29 = .ok (.bipush 18, 2) := by decide +kernel
set_option maxRecDepth 20000 in
theorem dX8_dress_31 : decode cX8_dress 31 = .ok (.iload_n 1, 1) := by decide +kernel
set_option maxRecDepth 20000 in
theorem dX8_dress_32 : decode cX8_dress 32 = .ok (.iadd, 1) := by decide +kernel
set_option maxRecDepth 20000 in
theorem dX8_dress_33 : decode cX8_dress 33 = .ok (.iaload, 1) := by decide +kernel
set_option maxRecDepth 20000 in
theorem dX8_dress_34 : decode cX8_dress 34 = .ok (.imul, 1) := by decide +kernel
set_option maxRecDepth 20000 in
theorem dX8_dress_35 : decode cX8_dress 35 = .ok (.aload_n 0, 1) := by decide +kernel
set_option maxRecDepth 20000 in
theorem dX8_dress_36 : decode cX8_dress 36 = .ok (.getfield 7, 3) := by decide +kernel
set_option maxRecDepth 20000 in
theorem dX8_dress_39 : decode cX8_dress 39 = .ok (.bipush 34, 2) := by decide +kernel
set_option maxRecDepth 20000 in
theorem dX8_dress_41 : decode cX8_dress 41 = .ok (.iload_n 1, 1) := by decide +kernel
set_option maxRecDepth 20000 in
theorem dX8_dress_42 : decode cX8_dress 42 = .ok (.iadd, 1) := by decide +kernel
set_option maxRecDepth 20000 in
theorem dX8_dress_43 : decode cX8_dress 43 = .ok (.iaload, 1) := by decide +kernel
set_option maxRecDepth 20000 in
theorem dX8_dress_44 : decode cX8_dress 44 = .ok (.iadd, 1) := by decide +kernel
set_option maxRecDepth 20000 in
theorem dX8_dress_45 : decode cX8_dress 45 = .ok (.istore 4, 2) := by decide +kernel
set_option maxRecDepth 20000 in
theorem dX8_dress_47 : decode cX8_dress 47 = .ok (.aload_n 0, 1) := by decide +kernel
set_option maxRecDepth 20000 in
theorem dX8_dress_48 : decode cX8_dress 48 = .ok (.getfield 7, 3) := by decide +kernel
set_option maxRecDepth 20000 in
theorem dX8_dress_51 : decode cX8_dress 51 = .ok (.bipush 18, 2) := by decide +kernel
set_option maxRecDepth 20000 in
theorem dX8_dress_53 : decode cX8_dress 53 = .ok (.iload_n 1, 1) := by decide +kernel
set_option maxRecDepth 20000 in
theorem dX8_dress_54 : decode cX8_dress 54 = .ok (.iadd, 1) := by decide +kernel
set_option maxRecDepth 20000 in
theorem dX8_dress_55 : decode cX8_dress 55 = .ok (.iload_n 2, 1) := by decide +kernel
set_option maxRecDepth 20000 in
theorem dX8_dress_56 : decode cX8_dress 56 = .ok (.iastore, 1) := by decide +kernel
set_option maxRecDepth 20000 in
theorem dX8_dress_57 : decode cX8_dress 57 = .ok (.aload_n 0, 1) := by decide +kernel
set_option maxRecDepth 20000 in
theorem dX8_dress_58 : decode cX8_dress 58 = .ok (.getfield 7, 3) := by decide +kernel
set_option maxRecDepth 20000 in
theorem dX8_dress_61 : decode cX8_dress 61 = .ok (.bipush 34, 2) := by decide +kernel
set_option maxRecDepth 20000 in
theorem dX8_dress_63 : decode cX8_dress 63 = .ok (.iload_n 1, 1) := by decide +kernel
set_option maxRecDepth 20000 in
theorem dX8_dress_64 : decode cX8_dress 64 = .ok (.iadd, 1) := by decide +kernel
set_option maxRecDepth 20000 in
theorem dX8_dress_65 : decode cX8_dress 65 = .ok (.iload_n 3, 1) := by decide +kernel
set_option maxRecDepth 20000 in
theorem dX8_dress_66 : decode cX8_dress 66 = .ok (.iastore, 1) := by decide +kernel
set_option maxRecDepth 20000 in
theorem dX8_dress_67 : decode cX8_dress 67 = .ok (.iload 4, 2) := by decide +kernel
set_option maxRecDepth 20000 in
theorem dX8_dress_69 : decode cX8_dress 69 = .ok (.ireturn, 1) := by decide +kernel
set_option maxRecDepth 20000 in
theorem dX8_stepsTo_0 : decode cX8_stepsTo 0 = .ok (.iconst 0, 1) := by decide +kernel
set_option maxRecDepth 20000 in
theorem dX8_stepsTo_1 : decode cX8_stepsTo 1 = .ok (.istore_n 3, 1) := by decide +kernel
set_option maxRecDepth 20000 in
theorem dX8_stepsTo_2 : decode cX8_stepsTo 2 = .ok (.iload_n 1, 1) := by decide +kernel
set_option maxRecDepth 20000 in
theorem dX8_stepsTo_3 : decode cX8_stepsTo 3 = .ok (.istore 4, 2) := by decide +kernel
set_option maxRecDepth 20000 in
theorem dX8_stepsTo_5 : decode cX8_stepsTo 5 = .ok (.iload 4, 2) := by decide +kernel
set_option maxRecDepth 20000 in
theorem dX8_stepsTo_7 : decode cX8_stepsTo 7 = .ok (.iconst (-1), 1) := by decide +kernel
set_option maxRecDepth 20000 in
theorem dX8_stepsTo_8 : decode cX8_stepsTo 8 = .ok (.if_icmp .eq 26, 3) := by decide +kernel
set_option maxRecDepth 20000 in
theorem dX8_stepsTo_11 : decode cX8_stepsTo 11 = .ok (.iload 4, 2) := by decide +kernel
set_option maxRecDepth 20000 in
theorem dX8_stepsTo_13 : decode cX8_stepsTo 13 = .ok (.iload_n 2, 1) := by decide +kernel
set_option maxRecDepth 20000 in
theorem dX8_stepsTo_14 : decode cX8_stepsTo 14 = .ok (.if_icmp .eq 20, 3) := by decide +kernel
set_option maxRecDepth 20000 in
theorem dX8_stepsTo_17 : decode cX8_stepsTo 17 = .ok (.aload_n 0, 1) := by decide +kernel
set_option maxRecDepth 20000 in
theorem dX8_stepsTo_18 : decode cX8_stepsTo 18 = .ok (.getfield 7, 3) := by decide +kernel
set_option maxRecDepth 20000 in
theorem dX8_stepsTo_21 : decode cX8_stepsTo 21 = .ok (.iconst 2, 1) := by decide +kernel
set_option maxRecDepth 20000 in
theorem dX8_stepsTo_22 : decode cX8_stepsTo 22 = .ok (.iload 4, 2) := by decide +kernel
set_option maxRecDepth 20000 in
theorem dX8_stepsTo_24 : decode cX8_stepsTo 24 = .ok (.iadd, 1) := by decide +kernel
set_option maxRecDepth 20000 in
theorem dX8_stepsTo_25 : decode cX8_stepsTo 25 = .ok (.iaload, 1) := by decide +kernel
set_option maxRecDepth 20000 in
theorem dX8_stepsTo_26 : decode cX8_stepsTo 26 = .ok (.istore 4, 2) := by decide +kernel
set_option maxRecDepth 20000 in
theorem dX8_stepsTo_28 : decode cX8_stepsTo 28 = .ok (.iinc 3 1, 3) := by decide +kernel
set_option maxRecDepth 20000 in
theorem dX8_stepsTo_31 : decode cX8_stepsTo 31 = .ok (.goto (-26), 3) := by decide +kernel
set_option maxRecDepth 20000 in
theorem dX8_stepsTo_34 : decode cX8_stepsTo 34 = .ok (.iload 4, 2) := by decide +kernel
set_option maxRecDepth 20000 in
theorem dX8_stepsTo_36 : decode cX8_stepsTo 36 = .ok (.iload_n 2, 1) := by decide +kernel
set_option maxRecDepth 20000 in
theorem dX8_stepsTo_37 : decode cX8_stepsTo 37 = .ok (.if_icmp .ne 7, 3) := by decide +kernel
set_option maxRecDepth 20000 in
theorem dX8_stepsTo_40 : decode cX8_stepsTo 40 = .ok (.iload_n 3, 1) := by decide +kernel
set_option maxRecDepth 20000 in
theorem dX8_stepsTo_41 : decode cX8_stepsTo 41 = .ok (.goto 4, 3) := by decide +kernel
set_option maxRecDepth 20000 in
theorem dX8_stepsTo_44 : decode cX8_stepsTo 44 = .ok (.iconst (-1), 1) := by decide +kernel
set_option maxRecDepth 20000 in
theorem dX8_stepsTo_45 : decode cX8_stepsTo 45 = .ok (.ireturn, 1) := by decide +kernel
set_option maxRecDepth 20000 in
theorem dX8_meets_0 : decode cX8_meets 0 = .ok (.aload_n 0, 1) := by decide +kernel
set_option maxRecDepth 20000 in
theorem dX8_meets_1 : decode cX8_meets 1 = .ok (.iload_n 1, 1) := by decide +kernel
set_option maxRecDepth 20000 in
theorem dX8_meets_2 : decode cX8_meets 2 = .ok (.iconst 0, 1) := by decide +kernel
set_option maxRecDepth 20000 in
theorem dX8_meets_3 : decode cX8_meets 3 = .ok (.invokevirtual 58, 3) := by decide +kernel
set_option maxRecDepth 20000 in
theorem dX8_meets_6 : decode cX8_meets 6 = .ok (.iconst (-1), 1) := by decide +kernel
set_option maxRecDepth 20000 in
theorem dX8_meets_7 : decode cX8_meets 7 = .ok (.if_icmp .eq 21, 3) := by decide +kernel
set_option maxRecDepth 20000 in
theorem dX8_meets_10 : decode cX8_meets 10 = .ok (.aload_n 0, 1) := by decide +kernel
set_option maxRecDepth 20000 in
theorem dX8_meets_11 : decode cX8_meets 11 = .ok (.iload_n 1, 1) := by decide +kernel
set_option maxRecDepth 20000 in
theorem dX8_meets_12 : decode cX8_meets 12 = .ok (.iconst 0, 1) := by decide +kernel
set_option maxRecDepth 20000 in
theorem dX8_meets_13 : decode cX8_meets 13 = .ok (.invokevirtual 58, 3) := by decide +kernel
set_option maxRecDepth 20000 in
theorem dX8_meets_16 : decode cX8_meets 16 = .ok (.aload_n 0, 1) := by decide +kernel
set_option maxRecDepth 20000 in
theorem dX8_meets_17 : decode cX8_meets 17 = .ok (.getfield 7, 3) := by decide +kernel
set_option maxRecDepth 20000 in
theorem dX8_meets_20 : decode cX8_meets 20 = .ok (.bipush 18, 2) := by decide +kernel
set_option maxRecDepth 20000 in
theorem dX8_meets_22 : decode cX8_meets 22 = .ok (.iload_n 2, 1) := by decide +kernel
set_option maxRecDepth 20000 in
theorem dX8_meets_23 : decode cX8_meets 23 = .ok (.iadd, 1) := by decide +kernel
set_option maxRecDepth 20000 in
theorem dX8_meets_24 : decode cX8_meets 24 = .ok (.iaload, 1) := by decide +kernel
set_option maxRecDepth 20000 in
theorem dX8_meets_25 : decode cX8_meets 25 = .ok (.if_icmp .ne 7, 3) := by decide +kernel
set_option maxRecDepth 20000 in
theorem dX8_meets_28 : decode cX8_meets 28 = .ok (.iconst 1, 1) := by decide +kernel
set_option maxRecDepth 20000 in
theorem dX8_meets_29 : decode cX8_meets 29 = .ok (.goto 4, 3) := by decide +kernel
set_option maxRecDepth 20000 in
theorem dX8_meets_32 : decode cX8_meets 32 = .ok (.iconst 0, 1) := by decide +kernel
set_option maxRecDepth 20000 in
theorem dX8_meets_33 : decode cX8_meets 33 = .ok (.istore_n 3, 1) := by decide +kernel
set_option maxRecDepth 20000 in
theorem dX8_meets_34 : decode cX8_meets 34 = .ok (.aload_n 0, 1) := by decide +kernel
set_option maxRecDepth 20000 in
theorem dX8_meets_35 : decode cX8_meets 35 = .ok (.iload_n 1, 1) := by decide +kernel
set_option maxRecDepth 20000 in
theorem dX8_meets_36 : decode cX8_meets 36 = .ok (.iconst 1, 1) := by decide +kernel
set_option maxRecDepth 20000 in
theorem dX8_meets_37 : decode cX8_meets 37 = .ok (.invokevirtual 58, 3) := by decide +kernel
set_option maxRecDepth 20000 in
theorem dX8_meets_40 : decode cX8_meets 40 = .ok (.aload_n 0, 1) := by decide +kernel
set_option maxRecDepth 20000 in
theorem dX8_meets_41 : decode cX8_meets 41 = .ok (.getfield 7, 3) := by decide +kernel
set_option maxRecDepth 20000 in
theorem dX8_meets_44 : decode cX8_meets 44 = .ok (.bipush 34, 2) := by decide +kernel
set_option maxRecDepth 20000 in
theorem dX8_meets_46 : decode cX8_meets 46 = .ok (.iload_n 2, 1) := by decide +kernel
set_option maxRecDepth 20000 in
theorem dX8_meets_47 : decode cX8_meets 47 = .ok (.iadd, 1) := by decide +kernel
set_option maxRecDepth 20000 in
theorem dX8_meets_48 : decode cX8_meets 48 = .ok (.iaload, 1) := by decide +kernel
set_option maxRecDepth 20000 in
theorem dX8_meets_49 : decode cX8_meets 49 = .ok (.iconst (-1), 1) := by decide +kernel
set_option maxRecDepth 20000 in
theorem dX8_meets_50 : decode cX8_meets 50 = .ok (.ixor, 1) := by decide +kernel
set_option maxRecDepth 20000 in
theorem dX8_meets_51 : decode cX8_meets 51 = .ok (.iand, 1) := by decide +kernel
set_option maxRecDepth 20000 in
theorem dX8_meets_52 : decode cX8_meets 52 = .ok (.ifCond .ne 7, 3) := by decide +kernel
set_option maxRecDepth 20000 in
theorem dX8_meets_55 : decode cX8_meets 55 = .ok (.iconst 1, 1) := by decide +kernel
set_option maxRecDepth 20000 in
theorem dX8_meets_56 : decode cX8_meets 56 = .ok (.goto 4, 3) := by decide +kernel
set_option maxRecDepth 20000 in
theorem dX8_meets_59 : decode cX8_meets 59 = .ok (.iconst 0, 1) := by decide +kernel
set_option maxRecDepth 20000 in
theorem dX8_meets_60 : decode cX8_meets 60 = .ok (.istore 4, 2) := by decide +kernel
set_option maxRecDepth 20000 in
theorem dX8_meets_62 : decode cX8_meets 62 = .ok (.aload_n 0, 1) := by decide +kernel
set_option maxRecDepth 20000 in
theorem dX8_meets_63 : decode cX8_meets 63 = .ok (.iload_n 1, 1) := by decide +kernel
set_option maxRecDepth 20000 in
theorem dX8_meets_64 : decode cX8_meets 64 = .ok (.iconst 2, 1) := by decide +kernel
set_option maxRecDepth 20000 in
theorem dX8_meets_65 : decode cX8_meets 65 = .ok (.invokevirtual 58, 3) := by decide +kernel
set_option maxRecDepth 20000 in
theorem dX8_meets_68 : decode cX8_meets 68 = .ok (.iconst (-1), 1) := by decide +kernel
set_option maxRecDepth 20000 in
theorem dX8_meets_69 : decode cX8_meets 69 = .ok (.if_icmp .ne 7, 3) := by decide +kernel
set_option maxRecDepth 20000 in
theorem dX8_meets_72 : decode cX8_meets 72 = .ok (.iconst 1, 1) := by decide +kernel
set_option maxRecDepth 20000 in
theorem dX8_meets_73 : decode cX8_meets 73 = .ok (.goto 4, 3) := by decide +kernel
set_option maxRecDepth 20000 in
theorem dX8_meets_76 : decode cX8_meets 76 = .ok (.iconst 0, 1) := by decide +kernel
set_option maxRecDepth 20000 in
theorem dX8_meets_77 : decode cX8_meets 77 = .ok (.istore 5, 2) := by decide +kernel
set_option maxRecDepth 20000 in
theorem dX8_meets_79 : decode cX8_meets 79 = .ok (.aload_n 0, 1) := by decide +kernel
set_option maxRecDepth 20000 in
theorem dX8_meets_80 : decode cX8_meets 80 = .ok (.getfield 7, 3) := by decide +kernel
set_option maxRecDepth 20000 in
theorem dX8_meets_83 : decode cX8_meets 83 = .ok (.iconst 2, 1) := by decide +kernel
set_option maxRecDepth 20000 in
theorem dX8_meets_84 : decode cX8_meets 84 = .ok (.iload_n 2, 1) := by decide +kernel
set_option maxRecDepth 20000 in
theorem dX8_meets_85 : decode cX8_meets 85 = .ok (.iadd, 1) := by decide +kernel
set_option maxRecDepth 20000 in
theorem dX8_meets_86 : decode cX8_meets 86 = .ok (.iaload, 1) := by decide +kernel
set_option maxRecDepth 20000 in
theorem dX8_meets_87 : decode cX8_meets 87 = .ok (.istore 6, 2) := by decide +kernel
set_option maxRecDepth 20000 in
theorem dX8_meets_89 : decode cX8_meets 89 = .ok (.iload 6, 2) := by decide +kernel
set_option maxRecDepth 20000 in
theorem dX8_meets_91 : decode cX8_meets 91 = .ok (.iconst (-1), 1) := by decide +kernel
set_option maxRecDepth 20000 in
theorem dX8_meets_92 : decode cX8_meets 92 = .ok (.if_icmp .eq 48, 3) := by decide +kernel
set_option maxRecDepth 20000 in
theorem dX8_meets_95 : decode cX8_meets 95 = .ok (.iload 5, 2) := by decide +kernel
set_option maxRecDepth 20000 in
theorem dX8_meets_97 : decode cX8_meets 97 = .ok (.ifCond .ne 22, 3) := by decide +kernel
set_option maxRecDepth 20000 in
theorem dX8_meets_100 : decode cX8_meets 100 = .ok (.aload_n 0, 1) := by decide +kernel
set_option maxRecDepth 20000 in
theorem dX8_meets_101 : decode cX8_meets 101 = .ok (.getfield 7, 3) := by decide +kernel
set_option maxRecDepth 20000 in
theorem dX8_meets_104 : decode cX8_meets 104 = .ok (.bipush 18, 2) := by decide +kernel
set_option maxRecDepth 20000 in
theorem dX8_meets_106 : decode cX8_meets 106 = .ok (.iload 6, 2) := by decide +kernel
set_option maxRecDepth 20000 in
theorem dX8_meets_108 : decode cX8_meets 108 = .ok (.iadd, 1) := by decide +kernel
set_option maxRecDepth 20000 in
theorem dX8_meets_109 : decode cX8_meets 109 = .ok (.iaload, 1) := by decide +kernel
set_option maxRecDepth 20000 in
theorem dX8_meets_110 : decode cX8_meets 110 = .ok (.aload_n 0, 1) := by decide +kernel
set_option maxRecDepth 20000 in
theorem dX8_meets_111 : decode cX8_meets 111 = .ok (.iload_n 1, 1) := by decide +kernel
set_option maxRecDepth 20000 in
theorem dX8_meets_112 : decode cX8_meets 112 = .ok (.iconst 2, 1) := by decide +kernel
set_option maxRecDepth 20000 in
theorem dX8_meets_113 : decode cX8_meets 113 = .ok (.invokevirtual 58, 3) := by decide +kernel
set_option maxRecDepth 20000 in
theorem dX8_meets_116 : decode cX8_meets 116 = .ok (.if_icmp .ne 7, 3) := by decide +kernel
set_option maxRecDepth 20000 in
theorem dX8_meets_119 : decode cX8_meets 119 = .ok (.iconst 1, 1) := by decide +kernel
set_option maxRecDepth 20000 in
theorem dX8_meets_120 : decode cX8_meets 120 = .ok (.goto 4, 3) := by decide +kernel
set_option maxRecDepth 20000 in
theorem dX8_meets_123 : decode cX8_meets 123 = .ok (.iconst 0, 1) := by decide +kernel
set_option maxRecDepth 20000 in
theorem dX8_meets_124 : decode cX8_meets 124 = .ok (.istore 5, 2) := by decide +kernel
set_option maxRecDepth 20000 in
theorem dX8_meets_126 : decode cX8_meets 126 = .ok (.aload_n 0, 1) := by decide +kernel
set_option maxRecDepth 20000 in
theorem dX8_meets_127 : decode cX8_meets 127 = .ok (.getfield 7, 3) := by decide +kernel
set_option maxRecDepth 20000 in
theorem dX8_meets_130 : decode cX8_meets 130 = .ok (.iconst 2, 1) := by decide +kernel
set_option maxRecDepth 20000 in
theorem dX8_meets_131 : decode cX8_meets 131 = .ok (.iload 6, 2) := by decide +kernel
set_option maxRecDepth 20000 in
theorem dX8_meets_133 : decode cX8_meets 133 = .ok (.iadd, 1) := by decide +kernel
set_option maxRecDepth 20000 in
theorem dX8_meets_134 : decode cX8_meets 134 = .ok (.iaload, 1) := by decide +kernel
set_option maxRecDepth 20000 in
theorem dX8_meets_135 : decode cX8_meets 135 = .ok (.istore 6, 2) := by decide +kernel
set_option maxRecDepth 20000 in
theorem dX8_meets_137 : decode cX8_meets 137 = .ok (.goto (-48), 3) := by decide +kernel
set_option maxRecDepth 20000 in
theorem dX8_meets_140 : decode cX8_meets 140 = .ok (.iload_n 3, 1) := by decide +kernel
set_option maxRecDepth 20000 in
theorem dX8_meets_141 : decode cX8_meets 141 = .ok (.ifCond .eq 41, 3) := by decide +kernel
set_option maxRecDepth 20000 in
theorem dX8_meets_144 : decode cX8_meets 144 = .ok (.iload 4, 2) := by decide +kernel
set_option maxRecDepth 20000 in
theorem dX8_meets_146 : decode cX8_meets 146 = .ok (.ifCond .eq 36, 3) := by decide +kernel
set_option maxRecDepth 20000 in
theorem dX8_meets_149 : decode cX8_meets 149 = .ok (.iload 5, 2) := by decide +kernel
set_option maxRecDepth 20000 in
theorem dX8_meets_151 : decode cX8_meets 151 = .ok (.ifCond .eq 31, 3) := by decide +kernel
set_option maxRecDepth 20000 in
theorem dX8_meets_154 : decode cX8_meets 154 = .ok (.aload_n 0, 1) := by decide +kernel
set_option maxRecDepth 20000 in
theorem dX8_meets_155 : decode cX8_meets 155 = .ok (.iload_n 1, 1) := by decide +kernel
set_option maxRecDepth 20000 in
theorem dX8_meets_156 : decode cX8_meets 156 = .ok (.iconst 4, 1) := by decide +kernel
set_option maxRecDepth 20000 in
theorem dX8_meets_157 : decode cX8_meets 157 = .ok (.invokevirtual 58, 3) := by decide +kernel
set_option maxRecDepth 20000 in
theorem dX8_meets_160 : decode cX8_meets 160 = .ok (.iconst (-1), 1) := by decide +kernel
set_option maxRecDepth 20000 in
theorem dX8_meets_161 : decode cX8_meets 161 = .ok (.if_icmp .eq 17, 3) := by decide +kernel
set_option maxRecDepth 20000 in
theorem dX8_meets_164 : decode cX8_meets 164 = .ok (.aload_n 0, 1) := by decide +kernel
set_option maxRecDepth 20000 in
theorem dX8_meets_165 : decode cX8_meets 165 = .ok (.iload_n 2, 1) := by decide +kernel
set_option maxRecDepth 20000 in
theorem dX8_meets_166 : decode cX8_meets 166 = .ok (.aload_n 0, 1) := by decide +kernel
set_option maxRecDepth 20000 in
theorem dX8_meets_167 : decode cX8_meets 167 = .ok (.iload_n 1, 1) := by decide +kernel
set_option maxRecDepth 20000 in
theorem dX8_meets_168 : decode cX8_meets 168 = .ok (.iconst 4, 1) := by decide +kernel
set_option maxRecDepth 20000 in
theorem dX8_meets_169 : decode cX8_meets 169 = .ok (.invokevirtual 58, 3) := by decide +kernel
set_option maxRecDepth 20000 in
theorem dX8_meets_172 : decode cX8_meets 172 = .ok (.invokevirtual 62, 3) := by decide +kernel
set_option maxRecDepth 20000 in
theorem dX8_meets_175 : decode cX8_meets 175 = .ok (.ifCond .lt 7, 3) := by decide +kernel
set_option maxRecDepth 20000 in
theorem dX8_meets_178 : decode cX8_meets 178 = .ok (.iconst 1, 1) := by decide +kernel
set_option maxRecDepth 20000 in
theorem dX8_meets_179 : decode cX8_meets 179 = .ok (.goto 4, 3) := by decide +kernel
set_option maxRecDepth 20000 in
theorem dX8_meets_182 : decode cX8_meets 182 = .ok (.iconst 0, 1) := by decide +kernel
set_option maxRecDepth 20000 in
theorem dX8_meets_183 : decode cX8_meets 183 = .ok (.ireturn, 1) := by decide +kernel
set_option maxRecDepth 20000 in
theorem dX8_matching_0 : decode cX8_matching 0 = .ok (.iconst 0, 1) := by decide +kernel
set_option maxRecDepth 20000 in
theorem dX8_matching_1 : decode cX8_matching 1 = .ok (.istore_n 2, 1) := by decide +kernel
set_option maxRecDepth 20000 in
theorem dX8_matching_2 : decode cX8_matching 2 = .ok (.iconst 0, 1) := by decide +kernel
set_option maxRecDepth 20000 in
theorem dX8_matching_3 : decode cX8_matching 3 = .ok (.istore_n 3, 1) := by decide +kernel
set_option maxRecDepth 20000 in
theorem dX8_matching_4 : decode cX8_matching 4 = .ok (.iload_n 3, 1) := by decide +kernel
set_option maxRecDepth 20000 in
theorem dX8_matching_5 : decode cX8_matching 5 = .ok (.aload_n 0, 1) := by decide +kernel
set_option maxRecDepth 20000 in
theorem dX8_matching_6 : decode cX8_matching 6 = .ok (.getfield 7, 3) := by decide +kernel
set_option maxRecDepth 20000 in
theorem dX8_matching_9 : decode cX8_matching 9 = .ok (.iconst 1, 1) := by decide +kernel
set_option maxRecDepth 20000 in
theorem dX8_matching_10 : decode cX8_matching 10 = .ok (.iaload, 1) := by decide +kernel
set_option maxRecDepth 20000 in
theorem dX8_matching_11 : decode cX8_matching 11 = .ok (.if_icmp .ge 26, 3) := by decide +kernel
set_option maxRecDepth 20000 in
theorem dX8_matching_14 : decode cX8_matching 14 = .ok (.iload_n 2, 1) := by decide +kernel
set_option maxRecDepth 20000 in
theorem dX8_matching_15 : decode cX8_matching 15 = .ok (.aload_n 0, 1) := by decide +kernel
set_option maxRecDepth 20000 in
theorem dX8_matching_16 : decode cX8_matching 16 = .ok (.iload_n 3, 1) := by decide +kernel
set_option maxRecDepth 20000 in
theorem dX8_matching_17 : decode cX8_matching 17 = .ok (.iload_n 1, 1) := by decide +kernel
set_option maxRecDepth 20000 in
theorem dX8_matching_18 : decode cX8_matching 18 = .ok (.invokevirtual 65, 3) := by decide +kernel
set_option maxRecDepth 20000 in
theorem dX8_matching_21 : decode cX8_matching 21 = .ok (.ifCond .eq 7, 3) := by decide +kernel
set_option maxRecDepth 20000 in
theorem dX8_matching_24 : decode cX8_matching 24 = .ok (.iconst 1, 1) := by decide +kernel
set_option maxRecDepth 20000 in
theorem dX8_matching_25 : decode cX8_matching 25 = .ok (.goto 4, 3) := by decide +kernel
set_option maxRecDepth 20000 in
theorem dX8_matching_28 : decode cX8_matching 28 = .ok (.iconst 0, 1) := by decide +kernel
set_option maxRecDepth 20000 in
theorem dX8_matching_29 : decode cX8_matching 29 = .ok (.iadd, 1) := by decide +kernel
set_option maxRecDepth 20000 in
theorem dX8_matching_30 : decode cX8_matching 30 = .ok (.istore_n 2, 1) := by decide +kernel
set_option maxRecDepth 20000 in
theorem dX8_matching_31 : decode cX8_matching 31 = .ok (.iinc 3 1, 3) := by decide +kernel
set_option maxRecDepth 20000 in
theorem dX8_matching_34 : decode cX8_matching 34 = .ok (.goto (-30), 3) := by decide +kernel
set_option maxRecDepth 20000 in
theorem dX8_matching_37 : decode cX8_matching 37 = .ok (.iload_n 2, 1) := by decide +kernel
set_option maxRecDepth 20000 in
theorem dX8_matching_38 : decode cX8_matching 38 = .ok (.ireturn, 1) := by decide +kernel
set_option maxRecDepth 20000 in
theorem dX8_cycles_0 : decode cX8_cycles 0 = .ok (.iconst 0, 1) := by decide +kernel
set_option maxRecDepth 20000 in
theorem dX8_cycles_1 : decode cX8_cycles 1 = .ok (.istore_n 2, 1) := by decide +kernel
set_option maxRecDepth 20000 in
theorem dX8_cycles_2 : decode cX8_cycles 2 = .ok (.bipush 8, 2) := by decide +kernel
set_option maxRecDepth 20000 in
theorem dX8_cycles_4 : decode cX8_cycles 4 = .ok (.istore_n 3, 1) := by decide +kernel
set_option maxRecDepth 20000 in
theorem dX8_cycles_5 : decode cX8_cycles 5 = .ok (.iload_n 3, 1) := by decide +kernel
set_option maxRecDepth 20000 in
theorem dX8_cycles_6 : decode cX8_cycles 6 = .ok (.bipush 16, 2) := by decide +kernel
set_option maxRecDepth 20000 in
theorem dX8_cycles_8 : decode cX8_cycles 8 = .ok (.if_icmp .ge 26, 3) := by decide +kernel
set_option maxRecDepth 20000 in
theorem dX8_cycles_11 : decode cX8_cycles 11 = .ok (.iload_n 2, 1) := by decide +kernel
set_option maxRecDepth 20000 in
theorem dX8_cycles_12 : decode cX8_cycles 12 = .ok (.aload_n 0, 1) := by decide +kernel
set_option maxRecDepth 20000 in
theorem dX8_cycles_13 : decode cX8_cycles 13 = .ok (.iload_n 1, 1) := by decide +kernel
set_option maxRecDepth 20000 in
theorem dX8_cycles_14 : decode cX8_cycles 14 = .ok (.iload_n 3, 1) := by decide +kernel
set_option maxRecDepth 20000 in
theorem dX8_cycles_15 : decode cX8_cycles 15 = .ok (.invokevirtual 68, 3) := by decide +kernel
set_option maxRecDepth 20000 in
theorem dX8_cycles_18 : decode cX8_cycles 18 = .ok (.ifCond .le 7, 3) := by decide +kernel
set_option maxRecDepth 20000 in
theorem dX8_cycles_21 : decode cX8_cycles 21 = .ok (.iconst 1, 1) := by decide +kernel
set_option maxRecDepth 20000 in
theorem dX8_cycles_22 : decode cX8_cycles 22 = .ok (.goto 4, 3) := by decide +kernel
set_option maxRecDepth 20000 in
theorem dX8_cycles_25 : decode cX8_cycles 25 = .ok (.iconst 0, 1) := by decide +kernel
set_option maxRecDepth 20000 in
theorem dX8_cycles_26 : decode cX8_cycles 26 = .ok (.iadd, 1) := by decide +kernel
set_option maxRecDepth 20000 in
theorem dX8_cycles_27 : decode cX8_cycles 27 = .ok (.istore_n 2, 1) := by decide +kernel
set_option maxRecDepth 20000 in
theorem dX8_cycles_28 : decode cX8_cycles 28 = .ok (.iinc 3 1, 3) := by decide +kernel
set_option maxRecDepth 20000 in
theorem dX8_cycles_31 : decode cX8_cycles 31 = .ok (.goto (-26), 3) := by decide +kernel
set_option maxRecDepth 20000 in
theorem dX8_cycles_34 : decode cX8_cycles 34 = .ok (.iload_n 2, 1) := by decide +kernel
set_option maxRecDepth 20000 in
theorem dX8_cycles_35 : decode cX8_cycles 35 = .ok (.ireturn, 1) := by decide +kernel
set_option maxRecDepth 20000 in
theorem dX8_element_0 : decode cX8_element 0 = .ok (.aload_n 0, 1) := by decide +kernel
set_option maxRecDepth 20000 in
theorem dX8_element_1 : decode cX8_element 1 = .ok (.iload_n 1, 1) := by decide +kernel
set_option maxRecDepth 20000 in
theorem dX8_element_2 : decode cX8_element 2 = .ok (.invokevirtual 47, 3) := by decide +kernel
set_option maxRecDepth 20000 in
theorem dX8_element_5 : decode cX8_element 5 = .ok (.ifCond .eq 12, 3) := by decide +kernel
set_option maxRecDepth 20000 in
theorem dX8_element_8 : decode cX8_element 8 = .ok (.iload_n 2, 1) := by decide +kernel
set_option maxRecDepth 20000 in
theorem dX8_element_9 : decode cX8_element 9 = .ok (.iconst 0, 1) := by decide +kernel
set_option maxRecDepth 20000 in
theorem dX8_element_10 : decode cX8_element 10 = .ok (.iconst 5, 1) := by decide +kernel
set_option maxRecDepth 20000 in
theorem dX8_element_11 : decode cX8_element 11 = .ok (.invokestatic 39, 3) := by decide +kernel
set_option maxRecDepth 20000 in
theorem dX8_element_14 : decode cX8_element 14 = .ok (.ifCond .ne 6, 3) := by decide +kernel
set_option maxRecDepth 20000 in
theorem dX8_element_17 : decode cX8_element 17 = .ok (.bipush (-11), 2) := by decide +kernel
set_option maxRecDepth 20000 in
theorem dX8_element_19 : decode cX8_element 19 = .ok (.ireturn, 1) := by decide +kernel
set_option maxRecDepth 20000 in
theorem dX8_element_20 : decode cX8_element 20 = .ok (.iload_n 2, 1) := by decide +kernel
set_option maxRecDepth 20000 in
theorem dX8_element_21 : decode cX8_element 21 = .ok (.tableswitch 86 0 4 #[35, 53, 63, 73, 80], 35) := by decide +kernel
set_option maxRecDepth 20000 in
theorem dX8_element_56 : decode cX8_element 56 = .ok (.iload_n 1, 1) := by decide +kernel
set_option maxRecDepth 20000 in
theorem dX8_element_57 : decode cX8_element 57 = .ok (.ifCond .ne 8, 3) := by decide +kernel
set_option maxRecDepth 20000 in
theorem dX8_element_60 : decode cX8_element 60 = .ok (.bipush (-14), 2) := by decide +kernel
set_option maxRecDepth 20000 in
theorem dX8_element_62 : decode cX8_element 62 = .ok (.goto 11, 3) := by decide +kernel
set_option maxRecDepth 20000 in
theorem dX8_element_65 : decode cX8_element 65 = .ok (.aload_n 0, 1) := by decide +kernel
set_option maxRecDepth 20000 in
theorem dX8_element_66 : decode cX8_element 66 = .ok (.getfield 7, 3) := by decide +kernel
set_option maxRecDepth 20000 in
theorem dX8_element_69 : decode cX8_element 69 = .ok (.iconst 2, 1) := by decide +kernel
set_option maxRecDepth 20000 in
theorem dX8_element_70 : decode cX8_element 70 = .ok (.iload_n 1, 1) := by decide +kernel
set_option maxRecDepth 20000 in
theorem dX8_element_71 : decode cX8_element 71 = .ok (.iadd, 1) := by decide +kernel
set_option maxRecDepth 20000 in
theorem dX8_element_72 : decode cX8_element 72 = .ok (.iaload, 1) := by decide +kernel
set_option maxRecDepth 20000 in
theorem dX8_element_73 : decode cX8_element 73 = .ok (.ireturn, 1) := by decide +kernel
set_option maxRecDepth 20000 in
theorem dX8_element_74 : decode cX8_element 74 = .ok (.aload_n 0, 1) := by decide +kernel
set_option maxRecDepth 20000 in
theorem dX8_element_75 : decode cX8_element 75 = .ok (.getfield 7, 3) := by decide +kernel
set_option maxRecDepth 20000 in
theorem dX8_element_78 : decode cX8_element 78 = .ok (.bipush 18, 2) := by decide +kernel
set_option maxRecDepth 20000 in
theorem dX8_element_80 : decode cX8_element 80 = .ok (.iload_n 1, 1) := by decide +kernel
set_option maxRecDepth 20000 in
theorem dX8_element_81 : decode cX8_element 81 = .ok (.iadd, 1) := by decide +kernel
set_option maxRecDepth 20000 in
theorem dX8_element_82 : decode cX8_element 82 = .ok (.iaload, 1) := by decide +kernel
set_option maxRecDepth 20000 in
theorem dX8_element_83 : decode cX8_element 83 = .ok (.ireturn, 1) := by decide +kernel
set_option maxRecDepth 20000 in
theorem dX8_element_84 : decode cX8_element 84 = .ok (.aload_n 0, 1) := by decide +kernel
set_option maxRecDepth 20000 in
theorem dX8_element_85 : decode cX8_element 85 = .ok (.getfield 7, 3) := by decide +kernel
set_option maxRecDepth 20000 in
theorem dX8_element_88 : decode cX8_element 88 = .ok (.bipush 34, 2) := by decide +kernel
set_option maxRecDepth 20000 in
theorem dX8_element_90 : decode cX8_element 90 = .ok (.iload_n 1, 1) := by decide +kernel
set_option maxRecDepth 20000 in
theorem dX8_element_91 : decode cX8_element 91 = .ok (.iadd, 1) := by decide +kernel
set_option maxRecDepth 20000 in
theorem dX8_element_92 : decode cX8_element 92 = .ok (.iaload, 1) := by decide +kernel
set_option maxRecDepth 20000 in
theorem dX8_element_93 : decode cX8_element 93 = .ok (.ireturn, 1) := by decide +kernel
set_option maxRecDepth 20000 in
theorem dX8_element_94 : decode cX8_element 94 = .ok (.aload_n 0, 1) := by decide +kernel
set_option maxRecDepth 20000 in
theorem dX8_element_95 : decode cX8_element 95 = .ok (.iload_n 1, 1) := by decide +kernel
set_option maxRecDepth 20000 in
theorem dX8_element_96 : decode cX8_element 96 = .ok (.iconst 0, 1) := by decide +kernel
set_option maxRecDepth 20000 in
theorem dX8_element_97 : decode cX8_element 97 = .ok (.invokevirtual 62, 3) := by decide +kernel
set_option maxRecDepth 20000 in
theorem dX8_element_100 : decode cX8_element 100 = .ok (.ireturn, 1) := by decide +kernel
set_option maxRecDepth 20000 in
theorem dX8_element_101 : decode cX8_element 101 = .ok (.aload_n 0, 1) := by decide +kernel
set_option maxRecDepth 20000 in
theorem dX8_element_102 : decode cX8_element 102 = .ok (.iload_n 1, 1) := by decide +kernel
set_option maxRecDepth 20000 in
theorem dX8_element_103 : decode cX8_element 103 = .ok (.invokevirtual 71, 3) := by decide +kernel
set_option maxRecDepth 20000 in
theorem dX8_element_106 : decode cX8_element 106 = .ok (.ireturn, 1) := by decide +kernel
set_option maxRecDepth 20000 in
theorem dX8_element_107 : decode cX8_element 107 = .ok (.aload_n 0, 1) := by decide +kernel
set_option maxRecDepth 20000 in
theorem dX8_element_108 : decode cX8_element 108 = .ok (.iload_n 1, 1) := by decide +kernel
set_option maxRecDepth 20000 in
theorem dX8_element_109 : decode cX8_element 109 = .ok (.invokevirtual 75, 3) := by decide +kernel
set_option maxRecDepth 20000 in
theorem dX8_element_112 : decode cX8_element 112 = .ok (.ireturn, 1) := by decide +kernel
set_option maxRecDepth 20000 in
theorem dX8_declarations_0 : decode cX8_declarations 0 = .ok (.iconst 0, 1) := by decide +kernel
set_option maxRecDepth 20000 in
theorem dX8_declarations_1 : decode cX8_declarations 1 = .ok (.istore_n 2, 1) := by decide +kernel
set_option maxRecDepth 20000 in
theorem dX8_declarations_2 : decode cX8_declarations 2 = .ok (.iconst 0, 1) := by decide +kernel
set_option maxRecDepth 20000 in
theorem dX8_declarations_3 : decode cX8_declarations 3 = .ok (.istore_n 3, 1) := by decide +kernel
set_option maxRecDepth 20000 in
theorem dX8_declarations_4 : decode cX8_declarations 4 = .ok (.iload_n 3, 1) := by decide +kernel
set_option maxRecDepth 20000 in
theorem dX8_declarations_5 : decode cX8_declarations 5 = .ok (.bipush 16, 2) := by decide +kernel
set_option maxRecDepth 20000 in
theorem dX8_declarations_7 : decode cX8_declarations 7 = .ok (.if_icmp .ge 30, 3) := by decide +kernel
set_option maxRecDepth 20000 in
theorem dX8_declarations_10 : decode cX8_declarations 10 = .ok (.iload_n 2, 1) := by decide +kernel
set_option maxRecDepth 20000 in
theorem dX8_declarations_11 : decode cX8_declarations 11 = .ok (.aload_n 0, 1) := by decide +kernel
set_option maxRecDepth 20000 in
theorem dX8_declarations_12 : decode cX8_declarations 12 = .ok (.getfield 7, 3) := by decide +kernel
set_option maxRecDepth 20000 in
theorem dX8_declarations_15 : decode cX8_declarations 15 = .ok (.iload_n 1, 1) := by decide +kernel
set_option maxRecDepth 20000 in
theorem dX8_declarations_16 : decode cX8_declarations 16 = .ok (.iload_n 3, 1) := by decide +kernel
set_option maxRecDepth 20000 in
theorem dX8_declarations_17 : decode cX8_declarations 17 = .ok (.invokestatic 78, 3) := by decide +kernel
set_option maxRecDepth 20000 in
theorem dX8_declarations_20 : decode cX8_declarations 20 = .ok (.iaload, 1) := by decide +kernel
set_option maxRecDepth 20000 in
theorem dX8_declarations_21 : decode cX8_declarations 21 = .ok (.ifCond .ne 7, 3) := by decide +kernel
set_option maxRecDepth 20000 in
theorem dX8_declarations_24 : decode cX8_declarations 24 = .ok (.iconst 0, 1) := by decide +kernel
set_option maxRecDepth 20000 in
theorem dX8_declarations_25 : decode cX8_declarations 25 = .ok (.goto 4, 3) := by decide +kernel
set_option maxRecDepth 20000 in
theorem dX8_declarations_28 : decode cX8_declarations 28 = .ok (.iconst 1, 1) := by decide +kernel
set_option maxRecDepth 20000 in
theorem dX8_declarations_29 : decode cX8_declarations 29 = .ok (.iadd, 1) := by decide +kernel
set_option maxRecDepth 20000 in
theorem dX8_declarations_30 : decode cX8_declarations 30 = .ok (.istore_n 2, 1) := by decide +kernel
set_option maxRecDepth 20000 in
theorem dX8_declarations_31 : decode cX8_declarations 31 = .ok (.iinc 3 1, 3) := by decide +kernel
set_option maxRecDepth 20000 in
theorem dX8_declarations_34 : decode cX8_declarations 34 = .ok (.goto (-30), 3) := by decide +kernel
set_option maxRecDepth 20000 in
theorem dX8_declarations_37 : decode cX8_declarations 37 = .ok (.iload_n 2, 1) := by decide +kernel
set_option maxRecDepth 20000 in
theorem dX8_declarations_38 : decode cX8_declarations 38 = .ok (.ireturn, 1) := by decide +kernel
set_option maxRecDepth 20000 in
theorem dX8_inRules_0 : decode cX8_inRules 0 = .ok (.iconst 0, 1) := by decide +kernel
set_option maxRecDepth 20000 in
theorem dX8_inRules_1 : decode cX8_inRules 1 = .ok (.istore_n 2, 1) := by decide +kernel
set_option maxRecDepth 20000 in
theorem dX8_inRules_2 : decode cX8_inRules 2 = .ok (.iconst 0, 1) := by decide +kernel
set_option maxRecDepth 20000 in
theorem dX8_inRules_3 : decode cX8_inRules 3 = .ok (.istore_n 3, 1) := by decide +kernel
set_option maxRecDepth 20000 in
theorem dX8_inRules_4 : decode cX8_inRules 4 = .ok (.iload_n 3, 1) := by decide +kernel
set_option maxRecDepth 20000 in
theorem dX8_inRules_5 : decode cX8_inRules 5 = .ok (.aload_n 0, 1) := by decide +kernel
set_option maxRecDepth 20000 in
theorem dX8_inRules_6 : decode cX8_inRules 6 = .ok (.getfield 7, 3) := by decide +kernel
set_option maxRecDepth 20000 in
theorem dX8_inRules_9 : decode cX8_inRules 9 = .ok (.iconst 1, 1) := by decide +kernel
set_option maxRecDepth 20000 in
theorem dX8_inRules_10 : decode cX8_inRules 10 = .ok (.iaload, 1) := by decide +kernel
set_option maxRecDepth 20000 in
theorem dX8_inRules_11 : decode cX8_inRules 11 = .ok (.if_icmp .ge 67, 3) := by decide +kernel
set_option maxRecDepth 20000 in
theorem dX8_inRules_14 : decode cX8_inRules 14 = .ok (.iconst 0, 1) := by decide +kernel
set_option maxRecDepth 20000 in
theorem dX8_inRules_15 : decode cX8_inRules 15 = .ok (.istore 4, 2) := by decide +kernel
set_option maxRecDepth 20000 in
theorem dX8_inRules_17 : decode cX8_inRules 17 = .ok (.iload 4, 2) := by decide +kernel
set_option maxRecDepth 20000 in
theorem dX8_inRules_19 : decode cX8_inRules 19 = .ok (.bipush 16, 2) := by decide +kernel
set_option maxRecDepth 20000 in
theorem dX8_inRules_21 : decode cX8_inRules 21 = .ok (.if_icmp .ge 51, 3) := by decide +kernel
set_option maxRecDepth 20000 in
theorem dX8_inRules_24 : decode cX8_inRules 24 = .ok (.iload_n 2, 1) := by decide +kernel
set_option maxRecDepth 20000 in
theorem dX8_inRules_25 : decode cX8_inRules 25 = .ok (.aload_n 0, 1) := by decide +kernel
set_option maxRecDepth 20000 in
theorem dX8_inRules_26 : decode cX8_inRules 26 = .ok (.getfield 7, 3) := by decide +kernel
set_option maxRecDepth 20000 in
theorem dX8_inRules_29 : decode cX8_inRules 29 = .ok (.iload_n 3, 1) := by decide +kernel
set_option maxRecDepth 20000 in
theorem dX8_inRules_30 : decode cX8_inRules 30 = .ok (.iload 4, 2) := by decide +kernel
set_option maxRecDepth 20000 in
theorem dX8_inRules_32 : decode cX8_inRules 32 = .ok (.invokestatic 78, 3) := by decide +kernel
set_option maxRecDepth 20000 in
theorem dX8_inRules_35 : decode cX8_inRules 35 = .ok (.iaload, 1) := by decide +kernel
set_option maxRecDepth 20000 in
theorem dX8_inRules_36 : decode cX8_inRules 36 = .ok (.iconst 2, 1) := by decide +kernel
set_option maxRecDepth 20000 in
theorem dX8_inRules_37 : decode cX8_inRules 37 = .ok (.if_icmp .eq 22, 3) := by decide +kernel
set_option maxRecDepth 20000 in
theorem dX8_inRules_40 : decode cX8_inRules 40 = .ok (.iload_n 1, 1) := by decide +kernel
set_option maxRecDepth 20000 in
theorem dX8_inRules_41 : decode cX8_inRules 41 = .ok (.ifCond .ne 22, 3) := by decide +kernel
set_option maxRecDepth 20000 in
theorem dX8_inRules_44 : decode cX8_inRules 44 = .ok (.aload_n 0, 1) := by decide +kernel
set_option maxRecDepth 20000 in
theorem dX8_inRules_45 : decode cX8_inRules 45 = .ok (.getfield 7, 3) := by decide +kernel
set_option maxRecDepth 20000 in
theorem dX8_inRules_48 : decode cX8_inRules 48 = .ok (.iload_n 3, 1) := by decide +kernel
set_option maxRecDepth 20000 in
theorem dX8_inRules_49 : decode cX8_inRules 49 = .ok (.iload 4, 2) := by decide +kernel
set_option maxRecDepth 20000 in
theorem dX8_inRules_51 : decode cX8_inRules 51 = .ok (.invokestatic 78, 3) := by decide +kernel
set_option maxRecDepth 20000 in
theorem dX8_inRules_54 : decode cX8_inRules 54 = .ok (.iaload, 1) := by decide +kernel
set_option maxRecDepth 20000 in
theorem dX8_inRules_55 : decode cX8_inRules 55 = .ok (.iconst 1, 1) := by decide +kernel
set_option maxRecDepth 20000 in
theorem dX8_inRules_56 : decode cX8_inRules 56 = .ok (.if_icmp .ne 7, 3) := by decide +kernel
set_option maxRecDepth 20000 in
theorem dX8_inRules_59 : decode cX8_inRules 59 = .ok (.iconst 1, 1) := by decide +kernel
set_option maxRecDepth 20000 in
theorem dX8_inRules_60 : decode cX8_inRules 60 = .ok (.goto 4, 3) := by decide +kernel
set_option maxRecDepth 20000 in
theorem dX8_inRules_63 : decode cX8_inRules 63 = .ok (.iconst 0, 1) := by decide +kernel
set_option maxRecDepth 20000 in
theorem dX8_inRules_64 : decode cX8_inRules 64 = .ok (.iadd, 1) := by decide +kernel
set_option maxRecDepth 20000 in
theorem dX8_inRules_65 : decode cX8_inRules 65 = .ok (.istore_n 2, 1) := by decide +kernel
set_option maxRecDepth 20000 in
theorem dX8_inRules_66 : decode cX8_inRules 66 = .ok (.iinc 4 1, 3) := by decide +kernel
set_option maxRecDepth 20000 in
theorem dX8_inRules_69 : decode cX8_inRules 69 = .ok (.goto (-52), 3) := by decide +kernel
set_option maxRecDepth 20000 in
theorem dX8_inRules_72 : decode cX8_inRules 72 = .ok (.iinc 3 1, 3) := by decide +kernel
set_option maxRecDepth 20000 in
theorem dX8_inRules_75 : decode cX8_inRules 75 = .ok (.goto (-71), 3) := by decide +kernel
set_option maxRecDepth 20000 in
theorem dX8_inRules_78 : decode cX8_inRules 78 = .ok (.iload_n 2, 1) := by decide +kernel
set_option maxRecDepth 20000 in
theorem dX8_inRules_79 : decode cX8_inRules 79 = .ok (.ireturn, 1) := by decide +kernel
set_option maxRecDepth 20000 in
theorem dX8_count_0 : decode cX8_count 0 = .ok (.iconst 0, 1) := by decide +kernel
set_option maxRecDepth 20000 in
theorem dX8_count_1 : decode cX8_count 1 = .ok (.istore_n 2, 1) := by decide +kernel
set_option maxRecDepth 20000 in
theorem dX8_count_2 : decode cX8_count 2 = .ok (.iload_n 1, 1) := by decide +kernel
set_option maxRecDepth 20000 in
theorem dX8_count_3 : decode cX8_count 3 = .ok (.tableswitch 98 0 6 #[41, 41, 48, 54, 60, 88, 93], 41) := by decide +kernel
set_option maxRecDepth 20000 in
theorem dX8_count_44 : decode cX8_count 44 = .ok (.aload_n 0, 1) := by decide +kernel
set_option maxRecDepth 20000 in
theorem dX8_count_45 : decode cX8_count 45 = .ok (.getfield 7, 3) := by decide +kernel
set_option maxRecDepth 20000 in
theorem dX8_count_48 : decode cX8_count 48 = .ok (.iload_n 1, 1) := by decide +kernel
set_option maxRecDepth 20000 in
theorem dX8_count_49 : decode cX8_count 49 = .ok (.iaload, 1) := by decide +kernel
set_option maxRecDepth 20000 in
theorem dX8_count_50 : decode cX8_count 50 = .ok (.ireturn, 1) := by decide +kernel
set_option maxRecDepth 20000 in
theorem dX8_count_51 : decode cX8_count 51 = .ok (.aload_n 0, 1) := by decide +kernel
set_option maxRecDepth 20000 in
theorem dX8_count_52 : decode cX8_count 52 = .ok (.iconst 0, 1) := by decide +kernel
set_option maxRecDepth 20000 in
theorem dX8_count_53 : decode cX8_count 53 = .ok (.invokevirtual 81, 3) := by decide +kernel
set_option maxRecDepth 20000 in
theorem dX8_count_56 : decode cX8_count 56 = .ok (.ireturn, 1) := by decide +kernel
set_option maxRecDepth 20000 in
theorem dX8_count_57 : decode cX8_count 57 = .ok (.aload_n 0, 1) := by decide +kernel
set_option maxRecDepth 20000 in
theorem dX8_count_58 : decode cX8_count 58 = .ok (.iconst 1, 1) := by decide +kernel
set_option maxRecDepth 20000 in
theorem dX8_count_59 : decode cX8_count 59 = .ok (.invokevirtual 81, 3) := by decide +kernel
set_option maxRecDepth 20000 in
theorem dX8_count_62 : decode cX8_count 62 = .ok (.ireturn, 1) := by decide +kernel
set_option maxRecDepth 20000 in
theorem dX8_count_63 : decode cX8_count 63 = .ok (.iconst 0, 1) := by decide +kernel
set_option maxRecDepth 20000 in
theorem dX8_count_64 : decode cX8_count 64 = .ok (.istore_n 3, 1) := by decide +kernel
set_option maxRecDepth 20000 in
theorem dX8_count_65 : decode cX8_count 65 = .ok (.iload_n 3, 1) := by decide +kernel
set_option maxRecDepth 20000 in
theorem dX8_count_66 : decode cX8_count 66 = .ok (.aload_n 0, 1) := by decide +kernel
set_option maxRecDepth 20000 in
theorem dX8_count_67 : decode cX8_count 67 = .ok (.getfield 7, 3) := by decide +kernel
set_option maxRecDepth 20000 in
theorem dX8_count_70 : decode cX8_count 70 = .ok (.iconst 0, 1) := by decide +kernel
set_option maxRecDepth 20000 in
theorem dX8_count_71 : decode cX8_count 71 = .ok (.iaload, 1) := by decide +kernel
set_option maxRecDepth 20000 in
theorem dX8_count_72 : decode cX8_count 72 = .ok (.if_icmp .ge 17, 3) := by decide +kernel
set_option maxRecDepth 20000 in
theorem dX8_count_75 : decode cX8_count 75 = .ok (.iload_n 2, 1) := by decide +kernel
set_option maxRecDepth 20000 in
theorem dX8_count_76 : decode cX8_count 76 = .ok (.aload_n 0, 1) := by decide +kernel
set_option maxRecDepth 20000 in
theorem dX8_count_77 : decode cX8_count 77 = .ok (.iload_n 3, 1) := by decide +kernel
set_option maxRecDepth 20000 in
theorem dX8_count_78 : decode cX8_count 78 = .ok (.invokevirtual 75, 3) := by decide +kernel
set_option maxRecDepth 20000 in
theorem dX8_count_81 : decode cX8_count 81 = .ok (.iadd, 1) := by decide +kernel
set_option maxRecDepth 20000 in
theorem dX8_count_82 : decode cX8_count 82 = .ok (.istore_n 2, 1) := by decide +kernel
set_option maxRecDepth 20000 in
theorem dX8_count_83 : decode cX8_count 83 = .ok (.iinc 3 1, 3) := by decide +kernel
set_option maxRecDepth 20000 in
theorem dX8_count_86 : decode cX8_count 86 = .ok (.goto (-21), 3) := by decide +kernel
set_option maxRecDepth 20000 in
theorem dX8_count_89 : decode cX8_count 89 = .ok (.iload_n 2, 1) := by decide +kernel
set_option maxRecDepth 20000 in
theorem dX8_count_90 : decode cX8_count 90 = .ok (.ireturn, 1) := by decide +kernel
set_option maxRecDepth 20000 in
theorem dX8_count_91 : decode cX8_count 91 = .ok (.aload_n 0, 1) := by decide +kernel
set_option maxRecDepth 20000 in
theorem dX8_count_92 : decode cX8_count 92 = .ok (.getfield 43, 3) := by decide +kernel
set_option maxRecDepth 20000 in
theorem dX8_count_95 : decode cX8_count 95 = .ok (.ireturn, 1) := by decide +kernel
set_option maxRecDepth 20000 in
theorem dX8_count_96 : decode cX8_count 96 = .ok (.aload_n 0, 1) := by decide +kernel
set_option maxRecDepth 20000 in
theorem dX8_count_97 : decode cX8_count 97 = .ok (.getfield 85, 3) := by decide +kernel
set_option maxRecDepth 20000 in
theorem dX8_count_100 : decode cX8_count 100 = .ok (.ireturn, 1) := by decide +kernel
set_option maxRecDepth 20000 in
theorem dX8_count_101 : decode cX8_count 101 = .ok (.bipush (-11), 2) := by decide +kernel
set_option maxRecDepth 20000 in
theorem dX8_count_103 : decode cX8_count 103 = .ok (.ireturn, 1) := by decide +kernel
set_option maxRecDepth 20000 in
theorem dX8_undo_0 : decode cX8_undo 0 = .ok (.aload_n 0, 1) := by decide +kernel
set_option maxRecDepth 20000 in
theorem dX8_undo_1 : decode cX8_undo 1 = .ok (.getfield 43, 3) := by decide +kernel
set_option maxRecDepth 20000 in
theorem dX8_undo_4 : decode cX8_undo 4 = .ok (.ifCond .ne 6, 3) := by decide +kernel
set_option maxRecDepth 20000 in
theorem dX8_undo_7 : decode cX8_undo 7 = .ok (.bipush (-12), 2) := by decide +kernel
set_option maxRecDepth 20000 in
theorem dX8_undo_9 : decode cX8_undo 9 = .ok (.ireturn, 1) := by decide +kernel
set_option maxRecDepth 20000 in
theorem dX8_undo_10 : decode cX8_undo 10 = .ok (.aload_n 0, 1) := by decide +kernel
set_option maxRecDepth 20000 in
theorem dX8_undo_11 : decode cX8_undo 11 = .ok (.dup, 1) := by decide +kernel
set_option maxRecDepth 20000 in
theorem dX8_undo_12 : decode cX8_undo 12 = .ok (.getfield 43, 3) := by decide +kernel
set_option maxRecDepth 20000 in
theorem dX8_undo_15 : decode cX8_undo 15 = .ok (.iconst 1, 1) := by decide +kernel
set_option maxRecDepth 20000 in
theorem dX8_undo_16 : decode cX8_undo 16 = .ok (.isub, 1) := by decide +kernel
set_option maxRecDepth 20000 in
theorem dX8_undo_17 : decode cX8_undo 17 = .ok (.putfield 43, 3) := by decide +kernel
set_option maxRecDepth 20000 in
theorem dX8_undo_20 : decode cX8_undo 20 = .ok (.iconst 0, 1) := by decide +kernel
set_option maxRecDepth 20000 in
theorem dX8_undo_21 : decode cX8_undo 21 = .ok (.istore_n 1, 1) := by decide +kernel
set_option maxRecDepth 20000 in
theorem dX8_undo_22 : decode cX8_undo 22 = .ok (.iload_n 1, 1) := by decide +kernel
set_option maxRecDepth 20000 in
theorem dX8_undo_23 : decode cX8_undo 23 = .ok (.sipush 914, 3) := by decide +kernel
set_option maxRecDepth 20000 in
theorem dX8_undo_26 : decode cX8_undo 26 = .ok (.if_icmp .ge 30, 3) := by decide +kernel
set_option maxRecDepth 20000 in
theorem dX8_undo_29 : decode cX8_undo 29 = .ok (.aload_n 0, 1) := by decide +kernel
set_option maxRecDepth 20000 in
theorem dX8_undo_30 : decode cX8_undo 30 = .ok (.getfield 7, 3) := by decide +kernel
set_option maxRecDepth 20000 in
theorem dX8_undo_33 : decode cX8_undo 33 = .ok (.iload_n 1, 1) := by decide +kernel
set_option maxRecDepth 20000 in
theorem dX8_undo_34 : decode cX8_undo 34 = .ok (.aload_n 0, 1) := by decide +kernel
set_option maxRecDepth 20000 in
theorem dX8_undo_35 : decode cX8_undo 35 = .ok (.getfield 13, 3) := by decide +kernel
set_option maxRecDepth 20000 in
theorem dX8_undo_38 : decode cX8_undo 38 = .ok (.sipush 914, 3) := by decide +kernel
set_option maxRecDepth 20000 in
theorem dX8_undo_41 : decode cX8_undo 41 = .ok (.aload_n 0, 1) := by decide +kernel
set_option maxRecDepth 20000 in
theorem dX8_undo_42 : decode cX8_undo 42 = .ok (.getfield 43, 3) := by decide +kernel
set_option maxRecDepth 20000 in
theorem dX8_undo_45 : decode cX8_undo 45 = .ok (.imul, 1) := by decide +kernel
set_option maxRecDepth 20000 in
theorem dX8_undo_46 : decode cX8_undo 46 = .ok (.iload_n 1, 1) := by decide +kernel
set_option maxRecDepth 20000 in
theorem dX8_undo_47 : decode cX8_undo 47 = .ok (.iadd, 1) := by decide +kernel
set_option maxRecDepth 20000 in
theorem dX8_undo_48 : decode cX8_undo 48 = .ok (.iaload, 1) := by decide +kernel
set_option maxRecDepth 20000 in
theorem dX8_undo_49 : decode cX8_undo 49 = .ok (.iastore, 1) := by decide +kernel
set_option maxRecDepth 20000 in
theorem dX8_undo_50 : decode cX8_undo 50 = .ok (.iinc 1 1, 3) := by decide +kernel
set_option maxRecDepth 20000 in
theorem dX8_undo_53 : decode cX8_undo 53 = .ok (.goto (-31), 3) := by decide +kernel
set_option maxRecDepth 20000 in
theorem dX8_undo_56 : decode cX8_undo 56 = .ok (.aload_n 0, 1) := by decide +kernel
set_option maxRecDepth 20000 in
theorem dX8_undo_57 : decode cX8_undo 57 = .ok (.getfield 43, 3) := by decide +kernel
set_option maxRecDepth 20000 in
theorem dX8_undo_60 : decode cX8_undo 60 = .ok (.ireturn, 1) := by decide +kernel
set_option maxRecDepth 20000 in
theorem dX8_isScope_0 : decode cX8_isScope 0 = .ok (.iload_n 1, 1) := by decide +kernel
set_option maxRecDepth 20000 in
theorem dX8_isScope_1 : decode cX8_isScope 1 = .ok (.iconst (-1), 1) := by decide +kernel
set_option maxRecDepth 20000 in
theorem dX8_isScope_2 : decode cX8_isScope 2 = .ok (.if_icmp .eq 11, 3) := by decide +kernel
set_option maxRecDepth 20000 in
theorem dX8_isScope_5 : decode cX8_isScope 5 = .ok (.aload_n 0, 1) := by decide +kernel
set_option maxRecDepth 20000 in
theorem dX8_isScope_6 : decode cX8_isScope 6 = .ok (.iload_n 1, 1) := by decide +kernel
set_option maxRecDepth 20000 in
theorem dX8_isScope_7 : decode cX8_isScope 7 = .ok (.invokevirtual 47, 3) := by decide +kernel
set_option maxRecDepth 20000 in
theorem dX8_isScope_10 : decode cX8_isScope 10 = .ok (.ifCond .eq 7, 3) := by decide +kernel
set_option maxRecDepth 20000 in
theorem dX8_isScope_13 : decode cX8_isScope 13 = .ok (.iconst 1, 1) := by decide +kernel
set_option maxRecDepth 20000 in
theorem dX8_isScope_14 : decode cX8_isScope 14 = .ok (.goto 4, 3) := by decide +kernel
set_option maxRecDepth 20000 in
theorem dX8_isScope_17 : decode cX8_isScope 17 = .ok (.iconst 0, 1) := by decide +kernel
set_option maxRecDepth 20000 in
theorem dX8_isScope_18 : decode cX8_isScope 18 = .ok (.ireturn, 1) := by decide +kernel
set_option maxRecDepth 20000 in
theorem dX8_appends_0 : decode cX8_appends 0 = .ok (.bipush 50, 2) := by decide +kernel
set_option maxRecDepth 20000 in
theorem dX8_appends_2 : decode cX8_appends 2 = .ok (.bipush 6, 2) := by decide +kernel
set_option maxRecDepth 20000 in
theorem dX8_appends_4 : decode cX8_appends 4 = .ok (.aload_n 0, 1) := by decide +kernel
set_option maxRecDepth 20000 in
theorem dX8_appends_5 : decode cX8_appends 5 = .ok (.getfield 7, 3) := by decide +kernel
set_option maxRecDepth 20000 in
theorem dX8_appends_8 : decode cX8_appends 8 = .ok (.iconst 1, 1) := by decide +kernel
set_option maxRecDepth 20000 in
theorem dX8_appends_9 : decode cX8_appends 9 = .ok (.iaload, 1) := by decide +kernel
set_option maxRecDepth 20000 in
theorem dX8_appends_10 : decode cX8_appends 10 = .ok (.imul, 1) := by decide +kernel
set_option maxRecDepth 20000 in
theorem dX8_appends_11 : decode cX8_appends 11 = .ok (.iadd, 1) := by decide +kernel
set_option maxRecDepth 20000 in
theorem dX8_appends_12 : decode cX8_appends 12 = .ok (.istore 7, 2) := by decide +kernel
set_option maxRecDepth 20000 in
theorem dX8_appends_14 : decode cX8_appends 14 = .ok (.aload_n 0, 1) := by decide +kernel
set_option maxRecDepth 20000 in
theorem dX8_appends_15 : decode cX8_appends 15 = .ok (.getfield 7, 3) := by decide +kernel
set_option maxRecDepth 20000 in
theorem dX8_appends_18 : decode cX8_appends 18 = .ok (.iload 7, 2) := by decide +kernel
set_option maxRecDepth 20000 in
theorem dX8_appends_20 : decode cX8_appends 20 = .ok (.iload_n 1, 1) := by decide +kernel
set_option maxRecDepth 20000 in
theorem dX8_appends_21 : decode cX8_appends 21 = .ok (.iastore, 1) := by decide +kernel
set_option maxRecDepth 20000 in
theorem dX8_appends_22 : decode cX8_appends 22 = .ok (.aload_n 0, 1) := by decide +kernel
set_option maxRecDepth 20000 in
theorem dX8_appends_23 : decode cX8_appends 23 = .ok (.getfield 7, 3) := by decide +kernel
set_option maxRecDepth 20000 in
theorem dX8_appends_26 : decode cX8_appends 26 = .ok (.iload 7, 2) := by decide +kernel
set_option maxRecDepth 20000 in
theorem dX8_appends_28 : decode cX8_appends 28 = .ok (.iconst 1, 1) := by decide +kernel
set_option maxRecDepth 20000 in
theorem dX8_appends_29 : decode cX8_appends 29 = .ok (.iadd, 1) := by decide +kernel
set_option maxRecDepth 20000 in
theorem dX8_appends_30 : decode cX8_appends 30 = .ok (.iload_n 2, 1) := by decide +kernel
set_option maxRecDepth 20000 in
theorem dX8_appends_31 : decode cX8_appends 31 = .ok (.iastore, 1) := by decide +kernel
set_option maxRecDepth 20000 in
theorem dX8_appends_32 : decode cX8_appends 32 = .ok (.aload_n 0, 1) := by decide +kernel
set_option maxRecDepth 20000 in
theorem dX8_appends_33 : decode cX8_appends 33 = .ok (.getfield 7, 3) := by decide +kernel
set_option maxRecDepth 20000 in
theorem dX8_appends_36 : decode cX8_appends 36 = .ok (.iload 7, 2) := by decide +kernel
set_option maxRecDepth 20000 in
theorem dX8_appends_38 : decode cX8_appends 38 = .ok (.iconst 2, 1) := by decide +kernel
set_option maxRecDepth 20000 in
theorem dX8_appends_39 : decode cX8_appends 39 = .ok (.iadd, 1) := by decide +kernel
set_option maxRecDepth 20000 in
theorem dX8_appends_40 : decode cX8_appends 40 = .ok (.iload_n 3, 1) := by decide +kernel
set_option maxRecDepth 20000 in
theorem dX8_appends_41 : decode cX8_appends 41 = .ok (.iastore, 1) := by decide +kernel
set_option maxRecDepth 20000 in
theorem dX8_appends_42 : decode cX8_appends 42 = .ok (.aload_n 0, 1) := by decide +kernel
set_option maxRecDepth 20000 in
theorem dX8_appends_43 : decode cX8_appends 43 = .ok (.getfield 7, 3) := by decide +kernel
set_option maxRecDepth 20000 in
theorem dX8_appends_46 : decode cX8_appends 46 = .ok (.iload 7, 2) := by decide +kernel
set_option maxRecDepth 20000 in
theorem dX8_appends_48 : decode cX8_appends 48 = .ok (.iconst 3, 1) := by decide +kernel
set_option maxRecDepth 20000 in
theorem dX8_appends_49 : decode cX8_appends 49 = .ok (.iadd, 1) := by decide +kernel
set_option maxRecDepth 20000 in
theorem dX8_appends_50 : decode cX8_appends 50 = .ok (.iload 4, 2) := by decide +kernel
set_option maxRecDepth 20000 in
theorem dX8_appends_52 : decode cX8_appends 52 = .ok (.iastore, 1) := by decide +kernel
set_option maxRecDepth 20000 in
theorem dX8_appends_53 : decode cX8_appends 53 = .ok (.aload_n 0, 1) := by decide +kernel
set_option maxRecDepth 20000 in
theorem dX8_appends_54 : decode cX8_appends 54 = .ok (.getfield 7, 3) := by decide +kernel
set_option maxRecDepth 20000 in
theorem dX8_appends_57 : decode cX8_appends 57 = .ok (.iload 7, 2) := by decide +kernel
set_option maxRecDepth 20000 in
theorem dX8_appends_59 : decode cX8_appends 59 = .ok (.iconst 4, 1) := by decide +kernel
set_option maxRecDepth 20000 in
theorem dX8_appends_60 : decode cX8_appends 60 = .ok (.iadd, 1) := by decide +kernel
set_option maxRecDepth 20000 in
theorem dX8_appends_61 : decode cX8_appends 61 = .ok (.iload 5, 2) := by decide +kernel
set_option maxRecDepth 20000 in
theorem dX8_appends_63 : decode cX8_appends 63 = .ok (.iastore, 1) := by decide +kernel
set_option maxRecDepth 20000 in
theorem dX8_appends_64 : decode cX8_appends 64 = .ok (.aload_n 0, 1) := by decide +kernel
set_option maxRecDepth 20000 in
theorem dX8_appends_65 : decode cX8_appends 65 = .ok (.getfield 7, 3) := by decide +kernel
set_option maxRecDepth 20000 in
theorem dX8_appends_68 : decode cX8_appends 68 = .ok (.iload 7, 2) := by decide +kernel
set_option maxRecDepth 20000 in
theorem dX8_appends_70 : decode cX8_appends 70 = .ok (.iconst 5, 1) := by decide +kernel
set_option maxRecDepth 20000 in
theorem dX8_appends_71 : decode cX8_appends 71 = .ok (.iadd, 1) := by decide +kernel
set_option maxRecDepth 20000 in
theorem dX8_appends_72 : decode cX8_appends 72 = .ok (.iload 6, 2) := by decide +kernel
set_option maxRecDepth 20000 in
theorem dX8_appends_74 : decode cX8_appends 74 = .ok (.iastore, 1) := by decide +kernel
set_option maxRecDepth 20000 in
theorem dX8_appends_75 : decode cX8_appends 75 = .ok (.iconst 0, 1) := by decide +kernel
set_option maxRecDepth 20000 in
theorem dX8_appends_76 : decode cX8_appends 76 = .ok (.istore 8, 2) := by decide +kernel
set_option maxRecDepth 20000 in
theorem dX8_appends_78 : decode cX8_appends 78 = .ok (.iload 8, 2) := by decide +kernel
set_option maxRecDepth 20000 in
theorem dX8_appends_80 : decode cX8_appends 80 = .ok (.bipush 16, 2) := by decide +kernel
set_option maxRecDepth 20000 in
theorem dX8_appends_82 : decode cX8_appends 82 = .ok (.if_icmp .ge 26, 3) := by decide +kernel
set_option maxRecDepth 20000 in
theorem dX8_appends_85 : decode cX8_appends 85 = .ok (.aload_n 0, 1) := by decide +kernel
set_option maxRecDepth 20000 in
theorem dX8_appends_86 : decode cX8_appends 86 = .ok (.getfield 7, 3) := by decide +kernel
set_option maxRecDepth 20000 in
theorem dX8_appends_89 : decode cX8_appends 89 = .ok (.aload_n 0, 1) := by decide +kernel
set_option maxRecDepth 20000 in
theorem dX8_appends_90 : decode cX8_appends 90 = .ok (.getfield 7, 3) := by decide +kernel
set_option maxRecDepth 20000 in
theorem dX8_appends_93 : decode cX8_appends 93 = .ok (.iconst 1, 1) := by decide +kernel
set_option maxRecDepth 20000 in
theorem dX8_appends_94 : decode cX8_appends 94 = .ok (.iaload, 1) := by decide +kernel
set_option maxRecDepth 20000 in
theorem dX8_appends_95 : decode cX8_appends 95 = .ok (.iload 8, 2) := by decide +kernel
set_option maxRecDepth 20000 in
theorem dX8_appends_97 : decode cX8_appends 97 = .ok (.invokestatic 78, 3) := by decide +kernel
set_option maxRecDepth 20000 in
theorem dX8_appends_100 : decode cX8_appends 100 = .ok (.iconst 0, 1) := by decide +kernel
set_option maxRecDepth 20000 in
theorem dX8_appends_101 : decode cX8_appends 101 = .ok (.iastore, 1) := by decide +kernel
set_option maxRecDepth 20000 in
theorem dX8_appends_102 : decode cX8_appends 102 = .ok (.iinc 8 1, 3) := by decide +kernel
set_option maxRecDepth 20000 in
theorem dX8_appends_105 : decode cX8_appends 105 = .ok (.goto (-27), 3) := by decide +kernel
set_option maxRecDepth 20000 in
theorem dX8_appends_108 : decode cX8_appends 108 = .ok (.aload_n 0, 1) := by decide +kernel
set_option maxRecDepth 20000 in
theorem dX8_appends_109 : decode cX8_appends 109 = .ok (.getfield 7, 3) := by decide +kernel
set_option maxRecDepth 20000 in
theorem dX8_appends_112 : decode cX8_appends 112 = .ok (.iconst 1, 1) := by decide +kernel
set_option maxRecDepth 20000 in
theorem dX8_appends_113 : decode cX8_appends 113 = .ok (.dup2, 1) := by decide +kernel
set_option maxRecDepth 20000 in
theorem dX8_appends_114 : decode cX8_appends 114 = .ok (.iaload, 1) := by decide +kernel
set_option maxRecDepth 20000 in
theorem dX8_appends_115 : decode cX8_appends 115 = .ok (.iconst 1, 1) := by decide +kernel
set_option maxRecDepth 20000 in
theorem dX8_appends_116 : decode cX8_appends 116 = .ok (.iadd, 1) := by decide +kernel
set_option maxRecDepth 20000 in
theorem dX8_appends_117 : decode cX8_appends 117 = .ok (.iastore, 1) := by decide +kernel
set_option maxRecDepth 20000 in
theorem dX8_appends_118 : decode cX8_appends 118 = .ok (.aload_n 0, 1) := by decide +kernel
set_option maxRecDepth 20000 in
theorem dX8_appends_119 : decode cX8_appends 119 = .ok (.getfield 7, 3) := by decide +kernel
set_option maxRecDepth 20000 in
theorem dX8_appends_122 : decode cX8_appends 122 = .ok (.iconst 1, 1) := by decide +kernel
set_option maxRecDepth 20000 in
theorem dX8_appends_123 : decode cX8_appends 123 = .ok (.iaload, 1) := by decide +kernel
set_option maxRecDepth 20000 in
theorem dX8_appends_124 : decode cX8_appends 124 = .ok (.iconst 1, 1) := by decide +kernel
set_option maxRecDepth 20000 in
theorem dX8_appends_125 : decode cX8_appends 125 = .ok (.isub, 1) := by decide +kernel
set_option maxRecDepth 20000 in
theorem dX8_appends_126 : decode cX8_appends 126 = .ok (.ireturn, 1) := by decide +kernel
set_option maxRecDepth 20000 in
theorem dX8_rule_0 : decode cX8_rule 0 = .ok (.iload_n 1, 1) := by decide +kernel
set_option maxRecDepth 20000 in
theorem dX8_rule_1 : decode cX8_rule 1 = .ok (.iconst (-1), 1) := by decide +kernel
set_option maxRecDepth 20000 in
theorem dX8_rule_2 : decode cX8_rule 2 = .ok (.iconst 5, 1) := by decide +kernel
set_option maxRecDepth 20000 in
theorem dX8_rule_3 : decode cX8_rule 3 = .ok (.invokestatic 39, 3) := by decide +kernel
set_option maxRecDepth 20000 in
theorem dX8_rule_6 : decode cX8_rule 6 = .ok (.ifCond .eq 51, 3) := by decide +kernel
set_option maxRecDepth 20000 in
theorem dX8_rule_9 : decode cX8_rule 9 = .ok (.iload_n 2, 1) := by decide +kernel
set_option maxRecDepth 20000 in
theorem dX8_rule_10 : decode cX8_rule 10 = .ok (.iconst 0, 1) := by decide +kernel
set_option maxRecDepth 20000 in
theorem dX8_rule_11 : decode cX8_rule 11 = .ok (.bipush 15, 2) := by decide +kernel
set_option maxRecDepth 20000 in
theorem dX8_rule_13 : decode cX8_rule 13 = .ok (.invokestatic 39, 3) := by decide +kernel
set_option maxRecDepth 20000 in
theorem dX8_rule_16 : decode cX8_rule 16 = .ok (.ifCond .eq 41, 3) := by decide +kernel
set_option maxRecDepth 20000 in
theorem dX8_rule_19 : decode cX8_rule 19 = .ok (.iload_n 3, 1) := by decide +kernel
set_option maxRecDepth 20000 in
theorem dX8_rule_20 : decode cX8_rule 20 = .ok (.iconst (-1), 1) := by decide +kernel
set_option maxRecDepth 20000 in
theorem dX8_rule_21 : decode cX8_rule 21 = .ok (.iconst 5, 1) := by decide +kernel
set_option maxRecDepth 20000 in
theorem dX8_rule_22 : decode cX8_rule 22 = .ok (.invokestatic 39, 3) := by decide +kernel
set_option maxRecDepth 20000 in
theorem dX8_rule_25 : decode cX8_rule 25 = .ok (.ifCond .eq 32, 3) := by decide +kernel
set_option maxRecDepth 20000 in
theorem dX8_rule_28 : decode cX8_rule 28 = .ok (.iload 4, 2) := by decide +kernel
set_option maxRecDepth 20000 in
theorem dX8_rule_30 : decode cX8_rule 30 = .ok (.iconst 0, 1) := by decide +kernel
set_option maxRecDepth 20000 in
theorem dX8_rule_31 : decode cX8_rule 31 = .ok (.iconst 3, 1) := by decide +kernel
set_option maxRecDepth 20000 in
theorem dX8_rule_32 : decode cX8_rule 32 = .ok (.invokestatic 39, 3) := by decide +kernel
set_option maxRecDepth 20000 in
theorem dX8_rule_35 : decode cX8_rule 35 = .ok (.ifCond .eq 22, 3) := by decide +kernel
set_option maxRecDepth 20000 in
theorem dX8_rule_38 : decode cX8_rule 38 = .ok (.aload_n 0, 1) := by decide +kernel
set_option maxRecDepth 20000 in
theorem dX8_rule_39 : decode cX8_rule 39 = .ok (.iload 5, 2) := by decide +kernel
set_option maxRecDepth 20000 in
theorem dX8_rule_41 : decode cX8_rule 41 = .ok (.invokevirtual 88, 3) := by decide +kernel
set_option maxRecDepth 20000 in
theorem dX8_rule_44 : decode cX8_rule 44 = .ok (.ifCond .eq 13, 3) := by decide +kernel
set_option maxRecDepth 20000 in
theorem dX8_rule_47 : decode cX8_rule 47 = .ok (.iload 6, 2) := by decide +kernel
set_option maxRecDepth 20000 in
theorem dX8_rule_49 : decode cX8_rule 49 = .ok (.iconst 0, 1) := by decide +kernel
set_option maxRecDepth 20000 in
theorem dX8_rule_50 : decode cX8_rule 50 = .ok (.iconst 1, 1) := by decide +kernel
set_option maxRecDepth 20000 in
theorem dX8_rule_51 : decode cX8_rule 51 = .ok (.invokestatic 39, 3) := by decide +kernel
set_option maxRecDepth 20000 in
theorem dX8_rule_54 : decode cX8_rule 54 = .ok (.ifCond .ne 6, 3) := by decide +kernel
set_option maxRecDepth 20000 in
theorem dX8_rule_57 : decode cX8_rule 57 = .ok (.bipush (-11), 2) := by decide +kernel
set_option maxRecDepth 20000 in
theorem dX8_rule_59 : decode cX8_rule 59 = .ok (.ireturn, 1) := by decide +kernel
set_option maxRecDepth 20000 in
theorem dX8_rule_60 : decode cX8_rule 60 = .ok (.aload_n 0, 1) := by decide +kernel
set_option maxRecDepth 20000 in
theorem dX8_rule_61 : decode cX8_rule 61 = .ok (.getfield 7, 3) := by decide +kernel
set_option maxRecDepth 20000 in
theorem dX8_rule_64 : decode cX8_rule 64 = .ok (.iconst 1, 1) := by decide +kernel
set_option maxRecDepth 20000 in
theorem dX8_rule_65 : decode cX8_rule 65 = .ok (.iaload, 1) := by decide +kernel
set_option maxRecDepth 20000 in
theorem dX8_rule_66 : decode cX8_rule 66 = .ok (.bipush 16, 2) := by decide +kernel
set_option maxRecDepth 20000 in
theorem dX8_rule_68 : decode cX8_rule 68 = .ok (.if_icmp .ne 6, 3) := by decide +kernel
set_option maxRecDepth 20000 in
theorem dX8_rule_71 : decode cX8_rule 71 = .ok (.bipush (-13), 2) := by decide +kernel
set_option maxRecDepth 20000 in
theorem dX8_rule_73 : decode cX8_rule 73 = .ok (.ireturn, 1) := by decide +kernel
set_option maxRecDepth 20000 in
theorem dX8_rule_74 : decode cX8_rule 74 = .ok (.aload_n 0, 1) := by decide +kernel
set_option maxRecDepth 20000 in
theorem dX8_rule_75 : decode cX8_rule 75 = .ok (.invokevirtual 55, 3) := by decide +kernel
set_option maxRecDepth 20000 in
theorem dX8_rule_78 : decode cX8_rule 78 = .ok (.aload_n 0, 1) := by decide +kernel
set_option maxRecDepth 20000 in
theorem dX8_rule_79 : decode cX8_rule 79 = .ok (.iload_n 1, 1) := by decide +kernel
set_option maxRecDepth 20000 in
theorem dX8_rule_80 : decode cX8_rule 80 = .ok (.iload_n 2, 1) := by decide +kernel
set_option maxRecDepth 20000 in
theorem dX8_rule_81 : decode cX8_rule 81 = .ok (.iload_n 3, 1) := by decide +kernel
set_option maxRecDepth 20000 in
theorem dX8_rule_82 : decode cX8_rule 82 = .ok (.iload 4, 2) := by decide +kernel
set_option maxRecDepth 20000 in
theorem dX8_rule_84 : decode cX8_rule 84 = .ok (.iload 5, 2) := by decide +kernel
set_option maxRecDepth 20000 in
theorem dX8_rule_86 : decode cX8_rule 86 = .ok (.iload 6, 2) := by decide +kernel
set_option maxRecDepth 20000 in
theorem dX8_rule_88 : decode cX8_rule 88 = .ok (.invokevirtual 91, 3) := by decide +kernel
set_option maxRecDepth 20000 in
theorem dX8_rule_91 : decode cX8_rule 91 = .ok (.ireturn, 1) := by decide +kernel
set_option maxRecDepth 20000 in
theorem dX8_drop_0 : decode cX8_drop 0 = .ok (.aload_n 0, 1) := by decide +kernel
set_option maxRecDepth 20000 in
theorem dX8_drop_1 : decode cX8_drop 1 = .ok (.iload_n 1, 1) := by decide +kernel
set_option maxRecDepth 20000 in
theorem dX8_drop_2 : decode cX8_drop 2 = .ok (.invokevirtual 95, 3) := by decide +kernel
set_option maxRecDepth 20000 in
theorem dX8_drop_5 : decode cX8_drop 5 = .ok (.ifCond .ne 6, 3) := by decide +kernel
set_option maxRecDepth 20000 in
theorem dX8_drop_8 : decode cX8_drop 8 = .ok (.bipush (-11), 2) := by decide +kernel
set_option maxRecDepth 20000 in
theorem dX8_drop_10 : decode cX8_drop 10 = .ok (.ireturn, 1) := by decide +kernel
set_option maxRecDepth 20000 in
theorem dX8_drop_11 : decode cX8_drop 11 = .ok (.aload_n 0, 1) := by decide +kernel
set_option maxRecDepth 20000 in
theorem dX8_drop_12 : decode cX8_drop 12 = .ok (.invokevirtual 55, 3) := by decide +kernel
set_option maxRecDepth 20000 in
theorem dX8_drop_15 : decode cX8_drop 15 = .ok (.aload_n 0, 1) := by decide +kernel
set_option maxRecDepth 20000 in
theorem dX8_drop_16 : decode cX8_drop 16 = .ok (.getfield 7, 3) := by decide +kernel
set_option maxRecDepth 20000 in
theorem dX8_drop_19 : decode cX8_drop 19 = .ok (.iconst 1, 1) := by decide +kernel
set_option maxRecDepth 20000 in
theorem dX8_drop_20 : decode cX8_drop 20 = .ok (.dup2, 1) := by decide +kernel
set_option maxRecDepth 20000 in
theorem dX8_drop_21 : decode cX8_drop 21 = .ok (.iaload, 1) := by decide +kernel
set_option maxRecDepth 20000 in
theorem dX8_drop_22 : decode cX8_drop 22 = .ok (.iconst 1, 1) := by decide +kernel
set_option maxRecDepth 20000 in
theorem dX8_drop_23 : decode cX8_drop 23 = .ok (.isub, 1) := by decide +kernel
set_option maxRecDepth 20000 in
theorem dX8_drop_24 : decode cX8_drop 24 = .ok (.iastore, 1) := by decide +kernel
set_option maxRecDepth 20000 in
theorem dX8_drop_25 : decode cX8_drop 25 = .ok (.iload_n 1, 1) := by decide +kernel
set_option maxRecDepth 20000 in
theorem dX8_drop_26 : decode cX8_drop 26 = .ok (.istore_n 2, 1) := by decide +kernel
set_option maxRecDepth 20000 in
theorem dX8_drop_27 : decode cX8_drop 27 = .ok (.iload_n 2, 1) := by decide +kernel
set_option maxRecDepth 20000 in
theorem dX8_drop_28 : decode cX8_drop 28 = .ok (.aload_n 0, 1) := by decide +kernel
set_option maxRecDepth 20000 in
theorem dX8_drop_29 : decode cX8_drop 29 = .ok (.getfield 7, 3) := by decide +kernel
set_option maxRecDepth 20000 in
theorem dX8_drop_32 : decode cX8_drop 32 = .ok (.iconst 1, 1) := by decide +kernel
set_option maxRecDepth 20000 in
theorem dX8_drop_33 : decode cX8_drop 33 = .ok (.iaload, 1) := by decide +kernel
set_option maxRecDepth 20000 in
theorem dX8_drop_34 : decode cX8_drop 34 = .ok (.if_icmp .ge 85, 3) := by decide +kernel
set_option maxRecDepth 20000 in
theorem dX8_drop_37 : decode cX8_drop 37 = .ok (.iconst 0, 1) := by decide +kernel
set_option maxRecDepth 20000 in
theorem dX8_drop_38 : decode cX8_drop 38 = .ok (.istore_n 3, 1) := by decide +kernel
set_option maxRecDepth 20000 in
theorem dX8_drop_39 : decode cX8_drop 39 = .ok (.iload_n 3, 1) := by decide +kernel
set_option maxRecDepth 20000 in
theorem dX8_drop_40 : decode cX8_drop 40 = .ok (.bipush 6, 2) := by decide +kernel
set_option maxRecDepth 20000 in
theorem dX8_drop_42 : decode cX8_drop 42 = .ok (.if_icmp .ge 31, 3) := by decide +kernel
set_option maxRecDepth 20000 in
theorem dX8_drop_45 : decode cX8_drop 45 = .ok (.aload_n 0, 1) := by decide +kernel
set_option maxRecDepth 20000 in
theorem dX8_drop_46 : decode cX8_drop 46 = .ok (.getfield 7, 3) := by decide +kernel
set_option maxRecDepth 20000 in
theorem dX8_drop_49 : decode cX8_drop 49 = .ok (.bipush 50, 2) := by decide +kernel
set_option maxRecDepth 20000 in
theorem dX8_drop_51 : decode cX8_drop 51 = .ok (.bipush 6, 2) := by decide +kernel
set_option maxRecDepth 20000 in
theorem dX8_drop_53 : decode cX8_drop 53 = .ok (.iload_n 2, 1) := by decide +kernel
set_option maxRecDepth 20000 in
theorem dX8_drop_54 : decode cX8_drop 54 = .ok (.imul, 1) := by decide +kernel
set_option maxRecDepth 20000 in
theorem dX8_drop_55 : decode cX8_drop 55 = .ok (.iadd, 1) := by decide +kernel
set_option maxRecDepth 20000 in
theorem dX8_drop_56 : decode cX8_drop 56 = .ok (.iload_n 3, 1) := by decide +kernel
set_option maxRecDepth 20000 in
theorem dX8_drop_57 : decode cX8_drop 57 = .ok (.iadd, 1) := by decide +kernel
set_option maxRecDepth 20000 in
theorem dX8_drop_58 : decode cX8_drop 58 = .ok (.aload_n 0, 1) := by decide +kernel
set_option maxRecDepth 20000 in
theorem dX8_drop_59 : decode cX8_drop 59 = .ok (.iload_n 2, 1) := by decide +kernel
set_option maxRecDepth 20000 in
theorem dX8_drop_60 : decode cX8_drop 60 = .ok (.iconst 1, 1) := by decide +kernel
set_option maxRecDepth 20000 in
theorem dX8_drop_61 : decode cX8_drop 61 = .ok (.iadd, 1) := by decide +kernel
set_option maxRecDepth 20000 in
theorem dX8_drop_62 : decode cX8_drop 62 = .ok (.iload_n 3, 1) := by decide +kernel
set_option maxRecDepth 20000 in
theorem dX8_drop_63 : decode cX8_drop 63 = .ok (.invokevirtual 58, 3) := by decide +kernel
set_option maxRecDepth 20000 in
theorem dX8_drop_66 : decode cX8_drop 66 = .ok (.iastore, 1) := by decide +kernel
set_option maxRecDepth 20000 in
theorem dX8_drop_67 : decode cX8_drop 67 = .ok (.iinc 3 1, 3) := by decide +kernel
set_option maxRecDepth 20000 in
theorem dX8_drop_70 : decode cX8_drop 70 = .ok (.goto (-31), 3) := by decide +kernel
set_option maxRecDepth 20000 in
theorem dX8_drop_73 : decode cX8_drop 73 = .ok (.iconst 0, 1) := by decide +kernel
set_option maxRecDepth 20000 in
theorem dX8_drop_74 : decode cX8_drop 74 = .ok (.istore_n 3, 1) := by decide +kernel
set_option maxRecDepth 20000 in
theorem dX8_drop_75 : decode cX8_drop 75 = .ok (.iload_n 3, 1) := by decide +kernel
set_option maxRecDepth 20000 in
theorem dX8_drop_76 : decode cX8_drop 76 = .ok (.bipush 48, 2) := by decide +kernel
set_option maxRecDepth 20000 in
theorem dX8_drop_78 : decode cX8_drop 78 = .ok (.if_icmp .ge 35, 3) := by decide +kernel
set_option maxRecDepth 20000 in
theorem dX8_drop_81 : decode cX8_drop 81 = .ok (.aload_n 0, 1) := by decide +kernel
set_option maxRecDepth 20000 in
theorem dX8_drop_82 : decode cX8_drop 82 = .ok (.getfield 7, 3) := by decide +kernel
set_option maxRecDepth 20000 in
theorem dX8_drop_85 : decode cX8_drop 85 = .ok (.iload_n 2, 1) := by decide +kernel
set_option maxRecDepth 20000 in
theorem dX8_drop_86 : decode cX8_drop 86 = .ok (.iconst 0, 1) := by decide +kernel
set_option maxRecDepth 20000 in
theorem dX8_drop_87 : decode cX8_drop 87 = .ok (.invokestatic 78, 3) := by decide +kernel
set_option maxRecDepth 20000 in
theorem dX8_drop_90 : decode cX8_drop 90 = .ok (.iload_n 3, 1) := by decide +kernel
set_option maxRecDepth 20000 in
theorem dX8_drop_91 : decode cX8_drop 91 = .ok (.iadd, 1) := by decide +kernel
set_option maxRecDepth 20000 in
theorem dX8_drop_92 : decode cX8_drop 92 = .ok (.aload_n 0, 1) := by decide +kernel
set_option maxRecDepth 20000 in
theorem dX8_drop_93 : decode cX8_drop 93 = .ok (.getfield 7, 3) := by decide +kernel
set_option maxRecDepth 20000 in
theorem dX8_drop_96 : decode cX8_drop 96 = .ok (.iload_n 2, 1) := by decide +kernel
set_option maxRecDepth 20000 in
theorem dX8_drop_97 : decode cX8_drop 97 = .ok (.iconst 1, 1) := by decide +kernel
set_option maxRecDepth 20000 in
theorem dX8_drop_98 : decode cX8_drop 98 = .ok (.iadd, 1) := by decide +kernel
set_option maxRecDepth 20000 in
theorem dX8_drop_99 : decode cX8_drop 99 = .ok (.iconst 0, 1) := by decide +kernel
set_option maxRecDepth 20000 in
theorem dX8_drop_100 : decode cX8_drop 100 = .ok (.invokestatic 78, 3) := by decide +kernel
set_option maxRecDepth 20000 in
theorem dX8_drop_103 : decode cX8_drop 103 = .ok (.iload_n 3, 1) := by decide +kernel
set_option maxRecDepth 20000 in
theorem dX8_drop_104 : decode cX8_drop 104 = .ok (.iadd, 1) := by decide +kernel
set_option maxRecDepth 20000 in
theorem dX8_drop_105 : decode cX8_drop 105 = .ok (.iaload, 1) := by decide +kernel
set_option maxRecDepth 20000 in
theorem dX8_drop_106 : decode cX8_drop 106 = .ok (.iastore, 1) := by decide +kernel
set_option maxRecDepth 20000 in
theorem dX8_drop_107 : decode cX8_drop 107 = .ok (.iinc 3 1, 3) := by decide +kernel
set_option maxRecDepth 20000 in
theorem dX8_drop_110 : decode cX8_drop 110 = .ok (.goto (-35), 3) := by decide +kernel
set_option maxRecDepth 20000 in
theorem dX8_drop_113 : decode cX8_drop 113 = .ok (.iinc 2 1, 3) := by decide +kernel
set_option maxRecDepth 20000 in
theorem dX8_drop_116 : decode cX8_drop 116 = .ok (.goto (-89), 3) := by decide +kernel
set_option maxRecDepth 20000 in
theorem dX8_drop_119 : decode cX8_drop 119 = .ok (.aload_n 0, 1) := by decide +kernel
set_option maxRecDepth 20000 in
theorem dX8_drop_120 : decode cX8_drop 120 = .ok (.getfield 7, 3) := by decide +kernel
set_option maxRecDepth 20000 in
theorem dX8_drop_123 : decode cX8_drop 123 = .ok (.iconst 1, 1) := by decide +kernel
set_option maxRecDepth 20000 in
theorem dX8_drop_124 : decode cX8_drop 124 = .ok (.iaload, 1) := by decide +kernel
set_option maxRecDepth 20000 in
theorem dX8_drop_125 : decode cX8_drop 125 = .ok (.ireturn, 1) := by decide +kernel
set_option maxRecDepth 20000 in
theorem dX8_lays_0 : decode cX8_lays 0 = .ok (.aload_n 0, 1) := by decide +kernel
set_option maxRecDepth 20000 in
theorem dX8_lays_1 : decode cX8_lays 1 = .ok (.getfield 7, 3) := by decide +kernel
set_option maxRecDepth 20000 in
theorem dX8_lays_4 : decode cX8_lays 4 = .ok (.iload_n 1, 1) := by decide +kernel
set_option maxRecDepth 20000 in
theorem dX8_lays_5 : decode cX8_lays 5 = .ok (.iload_n 2, 1) := by decide +kernel
set_option maxRecDepth 20000 in
theorem dX8_lays_6 : decode cX8_lays 6 = .ok (.invokestatic 78, 3) := by decide +kernel
set_option maxRecDepth 20000 in
theorem dX8_lays_9 : decode cX8_lays 9 = .ok (.iload_n 3, 1) := by decide +kernel
set_option maxRecDepth 20000 in
theorem dX8_lays_10 : decode cX8_lays 10 = .ok (.iastore, 1) := by decide +kernel
set_option maxRecDepth 20000 in
theorem dX8_lays_11 : decode cX8_lays 11 = .ok (.aload_n 0, 1) := by decide +kernel
set_option maxRecDepth 20000 in
theorem dX8_lays_12 : decode cX8_lays 12 = .ok (.getfield 7, 3) := by decide +kernel
set_option maxRecDepth 20000 in
theorem dX8_lays_15 : decode cX8_lays 15 = .ok (.iload_n 1, 1) := by decide +kernel
set_option maxRecDepth 20000 in
theorem dX8_lays_16 : decode cX8_lays 16 = .ok (.iload_n 2, 1) := by decide +kernel
set_option maxRecDepth 20000 in
theorem dX8_lays_17 : decode cX8_lays 17 = .ok (.invokestatic 78, 3) := by decide +kernel
set_option maxRecDepth 20000 in
theorem dX8_lays_20 : decode cX8_lays 20 = .ok (.iconst 1, 1) := by decide +kernel
set_option maxRecDepth 20000 in
theorem dX8_lays_21 : decode cX8_lays 21 = .ok (.iadd, 1) := by decide +kernel
set_option maxRecDepth 20000 in
theorem dX8_lays_22 : decode cX8_lays 22 = .ok (.iload 4, 2) := by decide +kernel
set_option maxRecDepth 20000 in
theorem dX8_lays_24 : decode cX8_lays 24 = .ok (.iastore, 1) := by decide +kernel
set_option maxRecDepth 20000 in
theorem dX8_lays_25 : decode cX8_lays 25 = .ok (.aload_n 0, 1) := by decide +kernel
set_option maxRecDepth 20000 in
theorem dX8_lays_26 : decode cX8_lays 26 = .ok (.getfield 7, 3) := by decide +kernel
set_option maxRecDepth 20000 in
theorem dX8_lays_29 : decode cX8_lays 29 = .ok (.iload_n 1, 1) := by decide +kernel
set_option maxRecDepth 20000 in
theorem dX8_lays_30 : decode cX8_lays 30 = .ok (.iload_n 2, 1) := by decide +kernel
set_option maxRecDepth 20000 in
theorem dX8_lays_31 : decode cX8_lays 31 = .ok (.invokestatic 78, 3) := by decide +kernel
set_option maxRecDepth 20000 in
theorem dX8_lays_34 : decode cX8_lays 34 = .ok (.iconst 2, 1) := by decide +kernel
set_option maxRecDepth 20000 in
theorem dX8_lays_35 : decode cX8_lays 35 = .ok (.iadd, 1) := by decide +kernel
set_option maxRecDepth 20000 in
theorem dX8_lays_36 : decode cX8_lays 36 = .ok (.iload 5, 2) := by decide +kernel
set_option maxRecDepth 20000 in
theorem dX8_lays_38 : decode cX8_lays 38 = .ok (.iastore, 1) := by decide +kernel
set_option maxRecDepth 20000 in
theorem dX8_lays_39 : decode cX8_lays 39 = .ok (.return_, 1) := by decide +kernel
set_option maxRecDepth 20000 in
theorem dX8_declare_0 : decode cX8_declare 0 = .ok (.aload_n 0, 1) := by decide +kernel
set_option maxRecDepth 20000 in
theorem dX8_declare_1 : decode cX8_declare 1 = .ok (.iload_n 1, 1) := by decide +kernel
set_option maxRecDepth 20000 in
theorem dX8_declare_2 : decode cX8_declare 2 = .ok (.invokevirtual 95, 3) := by decide +kernel
set_option maxRecDepth 20000 in
theorem dX8_declare_5 : decode cX8_declare 5 = .ok (.ifCond .eq 21, 3) := by decide +kernel
set_option maxRecDepth 20000 in
theorem dX8_declare_8 : decode cX8_declare 8 = .ok (.iload_n 2, 1) := by decide +kernel
set_option maxRecDepth 20000 in
theorem dX8_declare_9 : decode cX8_declare 9 = .ok (.invokestatic 98, 3) := by decide +kernel
set_option maxRecDepth 20000 in
theorem dX8_declare_12 : decode cX8_declare 12 = .ok (.ifCond .eq 14, 3) := by decide +kernel
set_option maxRecDepth 20000 in
theorem dX8_declare_15 : decode cX8_declare 15 = .ok (.iload_n 3, 1) := by decide +kernel
set_option maxRecDepth 20000 in
theorem dX8_declare_16 : decode cX8_declare 16 = .ok (.iconst 0, 1) := by decide +kernel
set_option maxRecDepth 20000 in
theorem dX8_declare_17 : decode cX8_declare 17 = .ok (.sipush 999, 3) := by decide +kernel
set_option maxRecDepth 20000 in
theorem dX8_declare_20 : decode cX8_declare 20 = .ok (.invokestatic 39, 3) := by decide +kernel
set_option maxRecDepth 20000 in
theorem dX8_declare_23 : decode cX8_declare 23 = .ok (.ifCond .ne 6, 3) := by decide +kernel
set_option maxRecDepth 20000 in
theorem dX8_declare_26 : decode cX8_declare 26 = .ok (.bipush (-11), 2) := by decide +kernel
set_option maxRecDepth 20000 in
theorem dX8_declare_28 : decode cX8_declare 28 = .ok (.ireturn, 1) := by decide +kernel
set_option maxRecDepth 20000 in
theorem dX8_declare_29 : decode cX8_declare 29 = .ok (.aload_n 0, 1) := by decide +kernel
set_option maxRecDepth 20000 in
theorem dX8_declare_30 : decode cX8_declare 30 = .ok (.invokevirtual 55, 3) := by decide +kernel
set_option maxRecDepth 20000 in
theorem dX8_declare_33 : decode cX8_declare 33 = .ok (.aload_n 0, 1) := by decide +kernel
set_option maxRecDepth 20000 in
theorem dX8_declare_34 : decode cX8_declare 34 = .ok (.iload_n 1, 1) := by decide +kernel
set_option maxRecDepth 20000 in
theorem dX8_declare_35 : decode cX8_declare 35 = .ok (.iload_n 2, 1) := by decide +kernel
set_option maxRecDepth 20000 in
theorem dX8_declare_36 : decode cX8_declare 36 = .ok (.iconst 1, 1) := by decide +kernel
set_option maxRecDepth 20000 in
theorem dX8_declare_37 : decode cX8_declare 37 = .ok (.iload_n 3, 1) := by decide +kernel
set_option maxRecDepth 20000 in
theorem dX8_declare_38 : decode cX8_declare 38 = .ok (.iconst (-1), 1) := by decide +kernel
set_option maxRecDepth 20000 in
theorem dX8_declare_39 : decode cX8_declare 39 = .ok (.invokevirtual 101, 3) := by decide +kernel
set_option maxRecDepth 20000 in
theorem dX8_declare_42 : decode cX8_declare 42 = .ok (.aload_n 0, 1) := by decide +kernel
set_option maxRecDepth 20000 in
theorem dX8_declare_43 : decode cX8_declare 43 = .ok (.iload_n 1, 1) := by decide +kernel
set_option maxRecDepth 20000 in
theorem dX8_declare_44 : decode cX8_declare 44 = .ok (.invokevirtual 105, 3) := by decide +kernel
set_option maxRecDepth 20000 in
theorem dX8_declare_47 : decode cX8_declare 47 = .ok (.ireturn, 1) := by decide +kernel
set_option maxRecDepth 20000 in
theorem dX8_refer_0 : decode cX8_refer 0 = .ok (.aload_n 0, 1) := by decide +kernel
set_option maxRecDepth 20000 in
theorem dX8_refer_1 : decode cX8_refer 1 = .ok (.iload_n 1, 1) := by decide +kernel
set_option maxRecDepth 20000 in
theorem dX8_refer_2 : decode cX8_refer 2 = .ok (.invokevirtual 95, 3) := by decide +kernel
set_option maxRecDepth 20000 in
theorem dX8_refer_5 : decode cX8_refer 5 = .ok (.ifCond .eq 33, 3) := by decide +kernel
set_option maxRecDepth 20000 in
theorem dX8_refer_8 : decode cX8_refer 8 = .ok (.iload_n 2, 1) := by decide +kernel
set_option maxRecDepth 20000 in
theorem dX8_refer_9 : decode cX8_refer 9 = .ok (.invokestatic 98, 3) := by decide +kernel
set_option maxRecDepth 20000 in
theorem dX8_refer_12 : decode cX8_refer 12 = .ok (.ifCond .eq 26, 3) := by decide +kernel
set_option maxRecDepth 20000 in
theorem dX8_refer_15 : decode cX8_refer 15 = .ok (.iload_n 3, 1) := by decide +kernel
set_option maxRecDepth 20000 in
theorem dX8_refer_16 : decode cX8_refer 16 = .ok (.bipush 8, 2) := by decide +kernel
set_option maxRecDepth 20000 in
theorem dX8_refer_18 : decode cX8_refer 18 = .ok (.bipush 15, 2) := by decide +kernel
set_option maxRecDepth 20000 in
theorem dX8_refer_20 : decode cX8_refer 20 = .ok (.invokestatic 39, 3) := by decide +kernel
set_option maxRecDepth 20000 in
theorem dX8_refer_23 : decode cX8_refer 23 = .ok (.ifCond .eq 15, 3) := by decide +kernel
set_option maxRecDepth 20000 in
theorem dX8_refer_26 : decode cX8_refer 26 = .ok (.iload 4, 2) := by decide +kernel
set_option maxRecDepth 20000 in
theorem dX8_refer_28 : decode cX8_refer 28 = .ok (.iconst (-1), 1) := by decide +kernel
set_option maxRecDepth 20000 in
theorem dX8_refer_29 : decode cX8_refer 29 = .ok (.sipush 999, 3) := by decide +kernel
set_option maxRecDepth 20000 in
theorem dX8_refer_32 : decode cX8_refer 32 = .ok (.invokestatic 39, 3) := by decide +kernel
set_option maxRecDepth 20000 in
theorem dX8_refer_35 : decode cX8_refer 35 = .ok (.ifCond .ne 6, 3) := by decide +kernel
set_option maxRecDepth 20000 in
theorem dX8_refer_38 : decode cX8_refer 38 = .ok (.bipush (-11), 2) := by decide +kernel
set_option maxRecDepth 20000 in
theorem dX8_refer_40 : decode cX8_refer 40 = .ok (.ireturn, 1) := by decide +kernel
set_option maxRecDepth 20000 in
theorem dX8_refer_41 : decode cX8_refer 41 = .ok (.aload_n 0, 1) := by decide +kernel
set_option maxRecDepth 20000 in
theorem dX8_refer_42 : decode cX8_refer 42 = .ok (.invokevirtual 55, 3) := by decide +kernel
set_option maxRecDepth 20000 in
theorem dX8_refer_45 : decode cX8_refer 45 = .ok (.aload_n 0, 1) := by decide +kernel
set_option maxRecDepth 20000 in
theorem dX8_refer_46 : decode cX8_refer 46 = .ok (.iload_n 1, 1) := by decide +kernel
set_option maxRecDepth 20000 in
theorem dX8_refer_47 : decode cX8_refer 47 = .ok (.iload_n 2, 1) := by decide +kernel
set_option maxRecDepth 20000 in
theorem dX8_refer_48 : decode cX8_refer 48 = .ok (.iconst 2, 1) := by decide +kernel
set_option maxRecDepth 20000 in
theorem dX8_refer_49 : decode cX8_refer 49 = .ok (.iload_n 3, 1) := by decide +kernel
set_option maxRecDepth 20000 in
theorem dX8_refer_50 : decode cX8_refer 50 = .ok (.iload 4, 2) := by decide +kernel
set_option maxRecDepth 20000 in
theorem dX8_refer_52 : decode cX8_refer 52 = .ok (.invokevirtual 101, 3) := by decide +kernel
set_option maxRecDepth 20000 in
theorem dX8_refer_55 : decode cX8_refer 55 = .ok (.aload_n 0, 1) := by decide +kernel
set_option maxRecDepth 20000 in
theorem dX8_refer_56 : decode cX8_refer 56 = .ok (.iload_n 1, 1) := by decide +kernel
set_option maxRecDepth 20000 in
theorem dX8_refer_57 : decode cX8_refer 57 = .ok (.invokevirtual 105, 3) := by decide +kernel
set_option maxRecDepth 20000 in
theorem dX8_refer_60 : decode cX8_refer 60 = .ok (.ireturn, 1) := by decide +kernel
set_option maxRecDepth 20000 in
theorem dX8_undeclare_0 : decode cX8_undeclare 0 = .ok (.aload_n 0, 1) := by decide +kernel
set_option maxRecDepth 20000 in
theorem dX8_undeclare_1 : decode cX8_undeclare 1 = .ok (.iload_n 1, 1) := by decide +kernel
set_option maxRecDepth 20000 in
theorem dX8_undeclare_2 : decode cX8_undeclare 2 = .ok (.invokevirtual 95, 3) := by decide +kernel
set_option maxRecDepth 20000 in
theorem dX8_undeclare_5 : decode cX8_undeclare 5 = .ok (.ifCond .eq 10, 3) := by decide +kernel
set_option maxRecDepth 20000 in
theorem dX8_undeclare_8 : decode cX8_undeclare 8 = .ok (.iload_n 2, 1) := by decide +kernel
set_option maxRecDepth 20000 in
theorem dX8_undeclare_9 : decode cX8_undeclare 9 = .ok (.invokestatic 98, 3) := by decide +kernel
set_option maxRecDepth 20000 in
theorem dX8_undeclare_12 : decode cX8_undeclare 12 = .ok (.ifCond .ne 6, 3) := by decide +kernel
set_option maxRecDepth 20000 in
theorem dX8_undeclare_15 : decode cX8_undeclare 15 = .ok (.bipush (-11), 2) := by decide +kernel
set_option maxRecDepth 20000 in
theorem dX8_undeclare_17 : decode cX8_undeclare 17 = .ok (.ireturn, 1) := by decide +kernel
set_option maxRecDepth 20000 in
theorem dX8_undeclare_18 : decode cX8_undeclare 18 = .ok (.aload_n 0, 1) := by decide +kernel
set_option maxRecDepth 20000 in
theorem dX8_undeclare_19 : decode cX8_undeclare 19 = .ok (.getfield 7, 3) := by decide +kernel
set_option maxRecDepth 20000 in
theorem dX8_undeclare_22 : decode cX8_undeclare 22 = .ok (.iload_n 1, 1) := by decide +kernel
set_option maxRecDepth 20000 in
theorem dX8_undeclare_23 : decode cX8_undeclare 23 = .ok (.iload_n 2, 1) := by decide +kernel
set_option maxRecDepth 20000 in
theorem dX8_undeclare_24 : decode cX8_undeclare 24 = .ok (.invokestatic 78, 3) := by decide +kernel
set_option maxRecDepth 20000 in
theorem dX8_undeclare_27 : decode cX8_undeclare 27 = .ok (.iaload, 1) := by decide +kernel
set_option maxRecDepth 20000 in
theorem dX8_undeclare_28 : decode cX8_undeclare 28 = .ok (.ifCond .ne 6, 3) := by decide +kernel
set_option maxRecDepth 20000 in
theorem dX8_undeclare_31 : decode cX8_undeclare 31 = .ok (.bipush (-12), 2) := by decide +kernel
set_option maxRecDepth 20000 in
theorem dX8_undeclare_33 : decode cX8_undeclare 33 = .ok (.ireturn, 1) := by decide +kernel
set_option maxRecDepth 20000 in
theorem dX8_undeclare_34 : decode cX8_undeclare 34 = .ok (.aload_n 0, 1) := by decide +kernel
set_option maxRecDepth 20000 in
theorem dX8_undeclare_35 : decode cX8_undeclare 35 = .ok (.invokevirtual 55, 3) := by decide +kernel
set_option maxRecDepth 20000 in
theorem dX8_undeclare_38 : decode cX8_undeclare 38 = .ok (.aload_n 0, 1) := by decide +kernel
set_option maxRecDepth 20000 in
theorem dX8_undeclare_39 : decode cX8_undeclare 39 = .ok (.getfield 7, 3) := by decide +kernel
set_option maxRecDepth 20000 in
theorem dX8_undeclare_42 : decode cX8_undeclare 42 = .ok (.iload_n 1, 1) := by decide +kernel
set_option maxRecDepth 20000 in
theorem dX8_undeclare_43 : decode cX8_undeclare 43 = .ok (.iload_n 2, 1) := by decide +kernel
set_option maxRecDepth 20000 in
theorem dX8_undeclare_44 : decode cX8_undeclare 44 = .ok (.invokestatic 78, 3) := by decide +kernel
set_option maxRecDepth 20000 in
theorem dX8_undeclare_47 : decode cX8_undeclare 47 = .ok (.iconst 0, 1) := by decide +kernel
set_option maxRecDepth 20000 in
theorem dX8_undeclare_48 : decode cX8_undeclare 48 = .ok (.iastore, 1) := by decide +kernel
set_option maxRecDepth 20000 in
theorem dX8_undeclare_49 : decode cX8_undeclare 49 = .ok (.aload_n 0, 1) := by decide +kernel
set_option maxRecDepth 20000 in
theorem dX8_undeclare_50 : decode cX8_undeclare 50 = .ok (.iload_n 1, 1) := by decide +kernel
set_option maxRecDepth 20000 in
theorem dX8_undeclare_51 : decode cX8_undeclare 51 = .ok (.invokevirtual 105, 3) := by decide +kernel
set_option maxRecDepth 20000 in
theorem dX8_undeclare_54 : decode cX8_undeclare 54 = .ok (.ireturn, 1) := by decide +kernel
set_option maxRecDepth 20000 in
theorem dX8_specificity_0 : decode cX8_specificity 0 = .ok (.aload_n 0, 1) := by decide +kernel
set_option maxRecDepth 20000 in
theorem dX8_specificity_1 : decode cX8_specificity 1 = .ok (.iload_n 1, 1) := by decide +kernel
set_option maxRecDepth 20000 in
theorem dX8_specificity_2 : decode cX8_specificity 2 = .ok (.iconst 0, 1) := by decide +kernel
set_option maxRecDepth 20000 in
theorem dX8_specificity_3 : decode cX8_specificity 3 = .ok (.invokevirtual 58, 3) := by decide +kernel
set_option maxRecDepth 20000 in
theorem dX8_specificity_6 : decode cX8_specificity 6 = .ok (.iconst (-1), 1) := by decide +kernel
set_option maxRecDepth 20000 in
theorem dX8_specificity_7 : decode cX8_specificity 7 = .ok (.if_icmp .ne 7, 3) := by decide +kernel
set_option maxRecDepth 20000 in
theorem dX8_specificity_10 : decode cX8_specificity 10 = .ok (.iconst 0, 1) := by decide +kernel
set_option maxRecDepth 20000 in
theorem dX8_specificity_11 : decode cX8_specificity 11 = .ok (.goto 4, 3) := by decide +kernel
set_option maxRecDepth 20000 in
theorem dX8_specificity_14 : decode cX8_specificity 14 = .ok (.iconst 1, 1) := by decide +kernel
set_option maxRecDepth 20000 in
theorem dX8_specificity_15 : decode cX8_specificity 15 = .ok (.aload_n 0, 1) := by decide +kernel
set_option maxRecDepth 20000 in
theorem dX8_specificity_16 : decode cX8_specificity 16 = .ok (.iload_n 1, 1) := by decide +kernel
set_option maxRecDepth 20000 in
theorem dX8_specificity_17 : decode cX8_specificity 17 = .ok (.iconst 2, 1) := by decide +kernel
set_option maxRecDepth 20000 in
theorem dX8_specificity_18 : decode cX8_specificity 18 = .ok (.invokevirtual 58, 3) := by decide +kernel
set_option maxRecDepth 20000 in
theorem dX8_specificity_21 : decode cX8_specificity 21 = .ok (.iconst (-1), 1) := by decide +kernel
set_option maxRecDepth 20000 in
theorem dX8_specificity_22 : decode cX8_specificity 22 = .ok (.if_icmp .ne 7, 3) := by decide +kernel
set_option maxRecDepth 20000 in
theorem dX8_specificity_25 : decode cX8_specificity 25 = .ok (.iconst 0, 1) := by decide +kernel
set_option maxRecDepth 20000 in
theorem dX8_specificity_26 : decode cX8_specificity 26 = .ok (.goto 4, 3) := by decide +kernel
set_option maxRecDepth 20000 in
theorem dX8_specificity_29 : decode cX8_specificity 29 = .ok (.iconst 1, 1) := by decide +kernel
set_option maxRecDepth 20000 in
theorem dX8_specificity_30 : decode cX8_specificity 30 = .ok (.iadd, 1) := by decide +kernel
set_option maxRecDepth 20000 in
theorem dX8_specificity_31 : decode cX8_specificity 31 = .ok (.istore_n 2, 1) := by decide +kernel
set_option maxRecDepth 20000 in
theorem dX8_specificity_32 : decode cX8_specificity 32 = .ok (.iconst 0, 1) := by decide +kernel
set_option maxRecDepth 20000 in
theorem dX8_specificity_33 : decode cX8_specificity 33 = .ok (.istore_n 3, 1) := by decide +kernel
set_option maxRecDepth 20000 in
theorem dX8_specificity_34 : decode cX8_specificity 34 = .ok (.iload_n 3, 1) := by decide +kernel
set_option maxRecDepth 20000 in
theorem dX8_specificity_35 : decode cX8_specificity 35 = .ok (.iconst 4, 1) := by decide +kernel
set_option maxRecDepth 20000 in
theorem dX8_specificity_36 : decode cX8_specificity 36 = .ok (.if_icmp .ge 25, 3) := by decide +kernel
set_option maxRecDepth 20000 in
theorem dX8_specificity_39 : decode cX8_specificity 39 = .ok (.iload_n 2, 1) := by decide +kernel
set_option maxRecDepth 20000 in
theorem dX8_specificity_40 : decode cX8_specificity 40 = .ok (.bipush 10, 2) := by decide +kernel
set_option maxRecDepth 20000 in
theorem dX8_specificity_42 : decode cX8_specificity 42 = .ok (.aload_n 0, 1) := by decide +kernel
set_option maxRecDepth 20000 in
theorem dX8_specificity_43 : decode cX8_specificity 43 = .ok (.iload_n 1, 1) := by decide +kernel
set_option maxRecDepth 20000 in
theorem dX8_specificity_44 : decode cX8_specificity 44 = .ok (.iconst 1, 1) := by decide +kernel
set_option maxRecDepth 20000 in
theorem dX8_specificity_45 : decode cX8_specificity 45 = .ok (.invokevirtual 58, 3) := by decide +kernel
set_option maxRecDepth 20000 in
theorem dX8_specificity_48 : decode cX8_specificity 48 = .ok (.iload_n 3, 1) := by decide +kernel
set_option maxRecDepth 20000 in
theorem dX8_specificity_49 : decode cX8_specificity 49 = .ok (.ishr, 1) := by decide +kernel
set_option maxRecDepth 20000 in
theorem dX8_specificity_50 : decode cX8_specificity 50 = .ok (.iconst 1, 1) := by decide +kernel
set_option maxRecDepth 20000 in
theorem dX8_specificity_51 : decode cX8_specificity 51 = .ok (.iand, 1) := by decide +kernel
set_option maxRecDepth 20000 in
theorem dX8_specificity_52 : decode cX8_specificity 52 = .ok (.imul, 1) := by decide +kernel
set_option maxRecDepth 20000 in
theorem dX8_specificity_53 : decode cX8_specificity 53 = .ok (.iadd, 1) := by decide +kernel
set_option maxRecDepth 20000 in
theorem dX8_specificity_54 : decode cX8_specificity 54 = .ok (.istore_n 2, 1) := by decide +kernel
set_option maxRecDepth 20000 in
theorem dX8_specificity_55 : decode cX8_specificity 55 = .ok (.iinc 3 1, 3) := by decide +kernel
set_option maxRecDepth 20000 in
theorem dX8_specificity_58 : decode cX8_specificity 58 = .ok (.goto (-24), 3) := by decide +kernel
set_option maxRecDepth 20000 in
theorem dX8_specificity_61 : decode cX8_specificity 61 = .ok (.iload_n 2, 1) := by decide +kernel
set_option maxRecDepth 20000 in
theorem dX8_specificity_62 : decode cX8_specificity 62 = .ok (.ireturn, 1) := by decide +kernel
set_option maxRecDepth 20000 in
theorem dX8_ruleOf_0 : decode cX8_ruleOf 0 = .ok (.aload_n 0, 1) := by decide +kernel
set_option maxRecDepth 20000 in
theorem dX8_ruleOf_1 : decode cX8_ruleOf 1 = .ok (.iload_n 1, 1) := by decide +kernel
set_option maxRecDepth 20000 in
theorem dX8_ruleOf_2 : decode cX8_ruleOf 2 = .ok (.invokevirtual 95, 3) := by decide +kernel
set_option maxRecDepth 20000 in
theorem dX8_ruleOf_5 : decode cX8_ruleOf 5 = .ok (.ifCond .eq 13, 3) := by decide +kernel
set_option maxRecDepth 20000 in
theorem dX8_ruleOf_8 : decode cX8_ruleOf 8 = .ok (.iload_n 2, 1) := by decide +kernel
set_option maxRecDepth 20000 in
theorem dX8_ruleOf_9 : decode cX8_ruleOf 9 = .ok (.iconst 0, 1) := by decide +kernel
set_option maxRecDepth 20000 in
theorem dX8_ruleOf_10 : decode cX8_ruleOf 10 = .ok (.bipush 8, 2) := by decide +kernel
set_option maxRecDepth 20000 in
theorem dX8_ruleOf_12 : decode cX8_ruleOf 12 = .ok (.invokestatic 39, 3) := by decide +kernel
set_option maxRecDepth 20000 in
theorem dX8_ruleOf_15 : decode cX8_ruleOf 15 = .ok (.ifCond .ne 6, 3) := by decide +kernel
set_option maxRecDepth 20000 in
theorem dX8_ruleOf_18 : decode cX8_ruleOf 18 = .ok (.bipush (-11), 2) := by decide +kernel
set_option maxRecDepth 20000 in
theorem dX8_ruleOf_20 : decode cX8_ruleOf 20 = .ok (.ireturn, 1) := by decide +kernel
set_option maxRecDepth 20000 in
theorem dX8_ruleOf_21 : decode cX8_ruleOf 21 = .ok (.iload_n 2, 1) := by decide +kernel
set_option maxRecDepth 20000 in
theorem dX8_ruleOf_22 : decode cX8_ruleOf 22 = .ok (.bipush 6, 2) := by decide +kernel
set_option maxRecDepth 20000 in
theorem dX8_ruleOf_24 : decode cX8_ruleOf 24 = .ok (.if_icmp .ge 10, 3) := by decide +kernel
set_option maxRecDepth 20000 in
theorem dX8_ruleOf_27 : decode cX8_ruleOf 27 = .ok (.aload_n 0, 1) := by decide +kernel
set_option maxRecDepth 20000 in
theorem dX8_ruleOf_28 : decode cX8_ruleOf 28 = .ok (.iload_n 1, 1) := by decide +kernel
set_option maxRecDepth 20000 in
theorem dX8_ruleOf_29 : decode cX8_ruleOf 29 = .ok (.iload_n 2, 1) := by decide +kernel
set_option maxRecDepth 20000 in
theorem dX8_ruleOf_30 : decode cX8_ruleOf 30 = .ok (.invokevirtual 58, 3) := by decide +kernel
set_option maxRecDepth 20000 in
theorem dX8_ruleOf_33 : decode cX8_ruleOf 33 = .ok (.ireturn, 1) := by decide +kernel
set_option maxRecDepth 20000 in
theorem dX8_ruleOf_34 : decode cX8_ruleOf 34 = .ok (.iconst 0, 1) := by decide +kernel
set_option maxRecDepth 20000 in
theorem dX8_ruleOf_35 : decode cX8_ruleOf 35 = .ok (.istore_n 3, 1) := by decide +kernel
set_option maxRecDepth 20000 in
theorem dX8_ruleOf_36 : decode cX8_ruleOf 36 = .ok (.iconst 0, 1) := by decide +kernel
set_option maxRecDepth 20000 in
theorem dX8_ruleOf_37 : decode cX8_ruleOf 37 = .ok (.istore 4, 2) := by decide +kernel
set_option maxRecDepth 20000 in
theorem dX8_ruleOf_39 : decode cX8_ruleOf 39 = .ok (.iload 4, 2) := by decide +kernel
set_option maxRecDepth 20000 in
theorem dX8_ruleOf_41 : decode cX8_ruleOf 41 = .ok (.aload_n 0, 1) := by decide +kernel
set_option maxRecDepth 20000 in
theorem dX8_ruleOf_42 : decode cX8_ruleOf 42 = .ok (.getfield 7, 3) := by decide +kernel
set_option maxRecDepth 20000 in
theorem dX8_ruleOf_45 : decode cX8_ruleOf 45 = .ok (.iconst 0, 1) := by decide +kernel
set_option maxRecDepth 20000 in
theorem dX8_ruleOf_46 : decode cX8_ruleOf 46 = .ok (.iaload, 1) := by decide +kernel
set_option maxRecDepth 20000 in
theorem dX8_ruleOf_47 : decode cX8_ruleOf 47 = .ok (.if_icmp .ge 27, 3) := by decide +kernel
set_option maxRecDepth 20000 in
theorem dX8_ruleOf_50 : decode cX8_ruleOf 50 = .ok (.iload_n 3, 1) := by decide +kernel
set_option maxRecDepth 20000 in
theorem dX8_ruleOf_51 : decode cX8_ruleOf 51 = .ok (.aload_n 0, 1) := by decide +kernel
set_option maxRecDepth 20000 in
theorem dX8_ruleOf_52 : decode cX8_ruleOf 52 = .ok (.iload_n 1, 1) := by decide +kernel
set_option maxRecDepth 20000 in
theorem dX8_ruleOf_53 : decode cX8_ruleOf 53 = .ok (.iload 4, 2) := by decide +kernel
set_option maxRecDepth 20000 in
theorem dX8_ruleOf_55 : decode cX8_ruleOf 55 = .ok (.invokevirtual 65, 3) := by decide +kernel
set_option maxRecDepth 20000 in
theorem dX8_ruleOf_58 : decode cX8_ruleOf 58 = .ok (.ifCond .eq 7, 3) := by decide +kernel
set_option maxRecDepth 20000 in
theorem dX8_ruleOf_61 : decode cX8_ruleOf 61 = .ok (.iconst 1, 1) := by decide +kernel
set_option maxRecDepth 20000 in
theorem dX8_ruleOf_62 : decode cX8_ruleOf 62 = .ok (.goto 4, 3) := by decide +kernel
set_option maxRecDepth 20000 in
theorem dX8_ruleOf_65 : decode cX8_ruleOf 65 = .ok (.iconst 0, 1) := by decide +kernel
set_option maxRecDepth 20000 in
theorem dX8_ruleOf_66 : decode cX8_ruleOf 66 = .ok (.iadd, 1) := by decide +kernel
set_option maxRecDepth 20000 in
theorem dX8_ruleOf_67 : decode cX8_ruleOf 67 = .ok (.istore_n 3, 1) := by decide +kernel
set_option maxRecDepth 20000 in
theorem dX8_ruleOf_68 : decode cX8_ruleOf 68 = .ok (.iinc 4 1, 3) := by decide +kernel
set_option maxRecDepth 20000 in
theorem dX8_ruleOf_71 : decode cX8_ruleOf 71 = .ok (.goto (-32), 3) := by decide +kernel
set_option maxRecDepth 20000 in
theorem dX8_ruleOf_74 : decode cX8_ruleOf 74 = .ok (.iload_n 2, 1) := by decide +kernel
set_option maxRecDepth 20000 in
theorem dX8_ruleOf_75 : decode cX8_ruleOf 75 = .ok (.bipush 6, 2) := by decide +kernel
set_option maxRecDepth 20000 in
theorem dX8_ruleOf_77 : decode cX8_ruleOf 77 = .ok (.if_icmp .ne 11, 3) := by decide +kernel
set_option maxRecDepth 20000 in
theorem dX8_ruleOf_80 : decode cX8_ruleOf 80 = .ok (.aload_n 0, 1) := by decide +kernel
set_option maxRecDepth 20000 in
theorem dX8_ruleOf_81 : decode cX8_ruleOf 81 = .ok (.iload_n 1, 1) := by decide +kernel
set_option maxRecDepth 20000 in
theorem dX8_ruleOf_82 : decode cX8_ruleOf 82 = .ok (.invokevirtual 108, 3) := by decide +kernel
set_option maxRecDepth 20000 in
theorem dX8_ruleOf_85 : decode cX8_ruleOf 85 = .ok (.goto 18, 3) := by decide +kernel
set_option maxRecDepth 20000 in
theorem dX8_ruleOf_88 : decode cX8_ruleOf 88 = .ok (.iload_n 2, 1) := by decide +kernel
set_option maxRecDepth 20000 in
theorem dX8_ruleOf_89 : decode cX8_ruleOf 89 = .ok (.bipush 7, 2) := by decide +kernel
set_option maxRecDepth 20000 in
theorem dX8_ruleOf_91 : decode cX8_ruleOf 91 = .ok (.if_icmp .ne 11, 3) := by decide +kernel
set_option maxRecDepth 20000 in
theorem dX8_ruleOf_94 : decode cX8_ruleOf 94 = .ok (.aload_n 0, 1) := by decide +kernel
set_option maxRecDepth 20000 in
theorem dX8_ruleOf_95 : decode cX8_ruleOf 95 = .ok (.iload_n 1, 1) := by decide +kernel
set_option maxRecDepth 20000 in
theorem dX8_ruleOf_96 : decode cX8_ruleOf 96 = .ok (.invokevirtual 105, 3) := by decide +kernel
set_option maxRecDepth 20000 in
theorem dX8_ruleOf_99 : decode cX8_ruleOf 99 = .ok (.goto 4, 3) := by decide +kernel
set_option maxRecDepth 20000 in
theorem dX8_ruleOf_102 : decode cX8_ruleOf 102 = .ok (.iload_n 3, 1) := by decide +kernel
set_option maxRecDepth 20000 in
theorem dX8_ruleOf_103 : decode cX8_ruleOf 103 = .ok (.ireturn, 1) := by decide +kernel
set_option maxRecDepth 20000 in
theorem dX8_declared_0 : decode cX8_declared 0 = .ok (.aload_n 0, 1) := by decide +kernel
set_option maxRecDepth 20000 in
theorem dX8_declared_1 : decode cX8_declared 1 = .ok (.iload_n 1, 1) := by decide +kernel
set_option maxRecDepth 20000 in
theorem dX8_declared_2 : decode cX8_declared 2 = .ok (.invokevirtual 95, 3) := by decide +kernel
set_option maxRecDepth 20000 in
theorem dX8_declared_5 : decode cX8_declared 5 = .ok (.ifCond .eq 19, 3) := by decide +kernel
set_option maxRecDepth 20000 in
theorem dX8_declared_8 : decode cX8_declared 8 = .ok (.iload_n 2, 1) := by decide +kernel
set_option maxRecDepth 20000 in
theorem dX8_declared_9 : decode cX8_declared 9 = .ok (.invokestatic 98, 3) := by decide +kernel
set_option maxRecDepth 20000 in
theorem dX8_declared_12 : decode cX8_declared 12 = .ok (.ifCond .eq 12, 3) := by decide +kernel
set_option maxRecDepth 20000 in
theorem dX8_declared_15 : decode cX8_declared 15 = .ok (.iload_n 3, 1) := by decide +kernel
set_option maxRecDepth 20000 in
theorem dX8_declared_16 : decode cX8_declared 16 = .ok (.iconst 0, 1) := by decide +kernel
set_option maxRecDepth 20000 in
theorem dX8_declared_17 : decode cX8_declared 17 = .ok (.iconst 2, 1) := by decide +kernel
set_option maxRecDepth 20000 in
theorem dX8_declared_18 : decode cX8_declared 18 = .ok (.invokestatic 39, 3) := by decide +kernel
set_option maxRecDepth 20000 in
theorem dX8_declared_21 : decode cX8_declared 21 = .ok (.ifCond .ne 6, 3) := by decide +kernel
set_option maxRecDepth 20000 in
theorem dX8_declared_24 : decode cX8_declared 24 = .ok (.bipush (-11), 2) := by decide +kernel
set_option maxRecDepth 20000 in
theorem dX8_declared_26 : decode cX8_declared 26 = .ok (.ireturn, 1) := by decide +kernel
set_option maxRecDepth 20000 in
theorem dX8_declared_27 : decode cX8_declared 27 = .ok (.iload_n 1, 1) := by decide +kernel
set_option maxRecDepth 20000 in
theorem dX8_declared_28 : decode cX8_declared 28 = .ok (.iload_n 2, 1) := by decide +kernel
set_option maxRecDepth 20000 in
theorem dX8_declared_29 : decode cX8_declared 29 = .ok (.invokestatic 78, 3) := by decide +kernel
set_option maxRecDepth 20000 in
theorem dX8_declared_32 : decode cX8_declared 32 = .ok (.istore 4, 2) := by decide +kernel
set_option maxRecDepth 20000 in
theorem dX8_declared_34 : decode cX8_declared 34 = .ok (.aload_n 0, 1) := by decide +kernel
set_option maxRecDepth 20000 in
theorem dX8_declared_35 : decode cX8_declared 35 = .ok (.getfield 7, 3) := by decide +kernel
set_option maxRecDepth 20000 in
theorem dX8_declared_38 : decode cX8_declared 38 = .ok (.iload 4, 2) := by decide +kernel
set_option maxRecDepth 20000 in
theorem dX8_declared_40 : decode cX8_declared 40 = .ok (.iaload, 1) := by decide +kernel
set_option maxRecDepth 20000 in
theorem dX8_declared_41 : decode cX8_declared 41 = .ok (.iload_n 3, 1) := by decide +kernel
set_option maxRecDepth 20000 in
theorem dX8_declared_42 : decode cX8_declared 42 = .ok (.ifCond .ne 7, 3) := by decide +kernel
set_option maxRecDepth 20000 in
theorem dX8_declared_45 : decode cX8_declared 45 = .ok (.iconst 1, 1) := by decide +kernel
set_option maxRecDepth 20000 in
theorem dX8_declared_46 : decode cX8_declared 46 = .ok (.goto 4, 3) := by decide +kernel
set_option maxRecDepth 20000 in
theorem dX8_declared_49 : decode cX8_declared 49 = .ok (.iconst 2, 1) := by decide +kernel
set_option maxRecDepth 20000 in
theorem dX8_declared_50 : decode cX8_declared 50 = .ok (.if_icmp .eq 6, 3) := by decide +kernel
set_option maxRecDepth 20000 in
theorem dX8_declared_53 : decode cX8_declared 53 = .ok (.bipush (-14), 2) := by decide +kernel
set_option maxRecDepth 20000 in
theorem dX8_declared_55 : decode cX8_declared 55 = .ok (.ireturn, 1) := by decide +kernel
set_option maxRecDepth 20000 in
theorem dX8_declared_56 : decode cX8_declared 56 = .ok (.iload_n 3, 1) := by decide +kernel
set_option maxRecDepth 20000 in
theorem dX8_declared_57 : decode cX8_declared 57 = .ok (.iconst 2, 1) := by decide +kernel
set_option maxRecDepth 20000 in
theorem dX8_declared_58 : decode cX8_declared 58 = .ok (.if_icmp .ge 15, 3) := by decide +kernel
set_option maxRecDepth 20000 in
theorem dX8_declared_61 : decode cX8_declared 61 = .ok (.aload_n 0, 1) := by decide +kernel
set_option maxRecDepth 20000 in
theorem dX8_declared_62 : decode cX8_declared 62 = .ok (.getfield 7, 3) := by decide +kernel
set_option maxRecDepth 20000 in
theorem dX8_declared_65 : decode cX8_declared 65 = .ok (.iload 4, 2) := by decide +kernel
set_option maxRecDepth 20000 in
theorem dX8_declared_67 : decode cX8_declared 67 = .ok (.iconst 1, 1) := by decide +kernel
set_option maxRecDepth 20000 in
theorem dX8_declared_68 : decode cX8_declared 68 = .ok (.iadd, 1) := by decide +kernel
set_option maxRecDepth 20000 in
theorem dX8_declared_69 : decode cX8_declared 69 = .ok (.iaload, 1) := by decide +kernel
set_option maxRecDepth 20000 in
theorem dX8_declared_70 : decode cX8_declared 70 = .ok (.goto 30, 3) := by decide +kernel
set_option maxRecDepth 20000 in
theorem dX8_declared_73 : decode cX8_declared 73 = .ok (.aload_n 0, 1) := by decide +kernel
set_option maxRecDepth 20000 in
theorem dX8_declared_74 : decode cX8_declared 74 = .ok (.getfield 7, 3) := by decide +kernel
set_option maxRecDepth 20000 in
theorem dX8_declared_77 : decode cX8_declared 77 = .ok (.iload 4, 2) := by decide +kernel
set_option maxRecDepth 20000 in
theorem dX8_declared_79 : decode cX8_declared 79 = .ok (.iconst 2, 1) := by decide +kernel
set_option maxRecDepth 20000 in
theorem dX8_declared_80 : decode cX8_declared 80 = .ok (.iadd, 1) := by decide +kernel
set_option maxRecDepth 20000 in
theorem dX8_declared_81 : decode cX8_declared 81 = .ok (.iaload, 1) := by decide +kernel
set_option maxRecDepth 20000 in
theorem dX8_declared_82 : decode cX8_declared 82 = .ok (.iconst (-1), 1) := by decide +kernel
set_option maxRecDepth 20000 in
theorem dX8_declared_83 : decode cX8_declared 83 = .ok (.if_icmp .ne 8, 3) := by decide +kernel
set_option maxRecDepth 20000 in
theorem dX8_declared_86 : decode cX8_declared 86 = .ok (.bipush (-14), 2) := by decide +kernel
set_option maxRecDepth 20000 in
theorem dX8_declared_88 : decode cX8_declared 88 = .ok (.goto 12, 3) := by decide +kernel
set_option maxRecDepth 20000 in
theorem dX8_declared_91 : decode cX8_declared 91 = .ok (.aload_n 0, 1) := by decide +kernel
set_option maxRecDepth 20000 in
theorem dX8_declared_92 : decode cX8_declared 92 = .ok (.getfield 7, 3) := by decide +kernel
set_option maxRecDepth 20000 in
theorem dX8_declared_95 : decode cX8_declared 95 = .ok (.iload 4, 2) := by decide +kernel
set_option maxRecDepth 20000 in
theorem dX8_declared_97 : decode cX8_declared 97 = .ok (.iconst 2, 1) := by decide +kernel
set_option maxRecDepth 20000 in
theorem dX8_declared_98 : decode cX8_declared 98 = .ok (.iadd, 1) := by decide +kernel
set_option maxRecDepth 20000 in
theorem dX8_declared_99 : decode cX8_declared 99 = .ok (.iaload, 1) := by decide +kernel
set_option maxRecDepth 20000 in
theorem dX8_declared_100 : decode cX8_declared 100 = .ok (.ireturn, 1) := by decide +kernel
set_option maxRecDepth 20000 in
theorem dX8_matches_0 : decode cX8_matches 0 = .ok (.aload_n 0, 1) := by decide +kernel
set_option maxRecDepth 20000 in
theorem dX8_matches_1 : decode cX8_matches 1 = .ok (.iload_n 1, 1) := by decide +kernel
set_option maxRecDepth 20000 in
theorem dX8_matches_2 : decode cX8_matches 2 = .ok (.invokevirtual 95, 3) := by decide +kernel
set_option maxRecDepth 20000 in
theorem dX8_matches_5 : decode cX8_matches 5 = .ok (.ifCond .eq 28, 3) := by decide +kernel
set_option maxRecDepth 20000 in
theorem dX8_matches_8 : decode cX8_matches 8 = .ok (.aload_n 0, 1) := by decide +kernel
set_option maxRecDepth 20000 in
theorem dX8_matches_9 : decode cX8_matches 9 = .ok (.iload_n 2, 1) := by decide +kernel
set_option maxRecDepth 20000 in
theorem dX8_matches_10 : decode cX8_matches 10 = .ok (.invokevirtual 47, 3) := by decide +kernel
set_option maxRecDepth 20000 in
theorem dX8_matches_13 : decode cX8_matches 13 = .ok (.ifCond .eq 20, 3) := by decide +kernel
set_option maxRecDepth 20000 in
theorem dX8_matches_16 : decode cX8_matches 16 = .ok (.aload_n 0, 1) := by decide +kernel
set_option maxRecDepth 20000 in
theorem dX8_matches_17 : decode cX8_matches 17 = .ok (.iload_n 1, 1) := by decide +kernel
set_option maxRecDepth 20000 in
theorem dX8_matches_18 : decode cX8_matches 18 = .ok (.iload_n 2, 1) := by decide +kernel
set_option maxRecDepth 20000 in
theorem dX8_matches_19 : decode cX8_matches 19 = .ok (.invokevirtual 65, 3) := by decide +kernel
set_option maxRecDepth 20000 in
theorem dX8_matches_22 : decode cX8_matches 22 = .ok (.ifCond .eq 7, 3) := by decide +kernel
set_option maxRecDepth 20000 in
theorem dX8_matches_25 : decode cX8_matches 25 = .ok (.iconst 1, 1) := by decide +kernel
set_option maxRecDepth 20000 in
theorem dX8_matches_26 : decode cX8_matches 26 = .ok (.goto 9, 3) := by decide +kernel
set_option maxRecDepth 20000 in
theorem dX8_matches_29 : decode cX8_matches 29 = .ok (.iconst 0, 1) := by decide +kernel
set_option maxRecDepth 20000 in
theorem dX8_matches_30 : decode cX8_matches 30 = .ok (.goto 5, 3) := by decide +kernel
set_option maxRecDepth 20000 in
theorem dX8_matches_33 : decode cX8_matches 33 = .ok (.bipush (-11), 2) := by decide +kernel
set_option maxRecDepth 20000 in
theorem dX8_matches_35 : decode cX8_matches 35 = .ok (.ireturn, 1) := by decide +kernel
set_option maxRecDepth 20000 in
theorem dX8_wins_0 : decode cX8_wins 0 = .ok (.aload_n 0, 1) := by decide +kernel
set_option maxRecDepth 20000 in
theorem dX8_wins_1 : decode cX8_wins 1 = .ok (.iload_n 2, 1) := by decide +kernel
set_option maxRecDepth 20000 in
theorem dX8_wins_2 : decode cX8_wins 2 = .ok (.iconst 5, 1) := by decide +kernel
set_option maxRecDepth 20000 in
theorem dX8_wins_3 : decode cX8_wins 3 = .ok (.invokevirtual 58, 3) := by decide +kernel
set_option maxRecDepth 20000 in
theorem dX8_wins_6 : decode cX8_wins 6 = .ok (.aload_n 0, 1) := by decide +kernel
set_option maxRecDepth 20000 in
theorem dX8_wins_7 : decode cX8_wins 7 = .ok (.iload_n 3, 1) := by decide +kernel
set_option maxRecDepth 20000 in
theorem dX8_wins_8 : decode cX8_wins 8 = .ok (.iconst 5, 1) := by decide +kernel
set_option maxRecDepth 20000 in
theorem dX8_wins_9 : decode cX8_wins 9 = .ok (.invokevirtual 58, 3) := by decide +kernel
set_option maxRecDepth 20000 in
theorem dX8_wins_12 : decode cX8_wins 12 = .ok (.if_icmp .eq 24, 3) := by decide +kernel
set_option maxRecDepth 20000 in
theorem dX8_wins_15 : decode cX8_wins 15 = .ok (.aload_n 0, 1) := by decide +kernel
set_option maxRecDepth 20000 in
theorem dX8_wins_16 : decode cX8_wins 16 = .ok (.iload_n 2, 1) := by decide +kernel
set_option maxRecDepth 20000 in
theorem dX8_wins_17 : decode cX8_wins 17 = .ok (.iconst 5, 1) := by decide +kernel
set_option maxRecDepth 20000 in
theorem dX8_wins_18 : decode cX8_wins 18 = .ok (.invokevirtual 58, 3) := by decide +kernel
set_option maxRecDepth 20000 in
theorem dX8_wins_21 : decode cX8_wins 21 = .ok (.aload_n 0, 1) := by decide +kernel
set_option maxRecDepth 20000 in
theorem dX8_wins_22 : decode cX8_wins 22 = .ok (.iload_n 3, 1) := by decide +kernel
set_option maxRecDepth 20000 in
theorem dX8_wins_23 : decode cX8_wins 23 = .ok (.iconst 5, 1) := by decide +kernel
set_option maxRecDepth 20000 in
theorem dX8_wins_24 : decode cX8_wins 24 = .ok (.invokevirtual 58, 3) := by decide +kernel
set_option maxRecDepth 20000 in
theorem dX8_wins_27 : decode cX8_wins 27 = .ok (.if_icmp .le 7, 3) := by decide +kernel
set_option maxRecDepth 20000 in
theorem dX8_wins_30 : decode cX8_wins 30 = .ok (.iconst 1, 1) := by decide +kernel
set_option maxRecDepth 20000 in
theorem dX8_wins_31 : decode cX8_wins 31 = .ok (.goto 4, 3) := by decide +kernel
set_option maxRecDepth 20000 in
theorem dX8_wins_34 : decode cX8_wins 34 = .ok (.iconst (-1), 1) := by decide +kernel
set_option maxRecDepth 20000 in
theorem dX8_wins_35 : decode cX8_wins 35 = .ok (.ireturn, 1) := by decide +kernel
set_option maxRecDepth 20000 in
theorem dX8_wins_36 : decode cX8_wins 36 = .ok (.aload_n 0, 1) := by decide +kernel
set_option maxRecDepth 20000 in
theorem dX8_wins_37 : decode cX8_wins 37 = .ok (.iload_n 2, 1) := by decide +kernel
set_option maxRecDepth 20000 in
theorem dX8_wins_38 : decode cX8_wins 38 = .ok (.iconst 3, 1) := by decide +kernel
set_option maxRecDepth 20000 in
theorem dX8_wins_39 : decode cX8_wins 39 = .ok (.invokevirtual 58, 3) := by decide +kernel
set_option maxRecDepth 20000 in
theorem dX8_wins_42 : decode cX8_wins 42 = .ok (.aload_n 0, 1) := by decide +kernel
set_option maxRecDepth 20000 in
theorem dX8_wins_43 : decode cX8_wins 43 = .ok (.iload_n 3, 1) := by decide +kernel
set_option maxRecDepth 20000 in
theorem dX8_wins_44 : decode cX8_wins 44 = .ok (.iconst 3, 1) := by decide +kernel
set_option maxRecDepth 20000 in
theorem dX8_wins_45 : decode cX8_wins 45 = .ok (.invokevirtual 58, 3) := by decide +kernel
set_option maxRecDepth 20000 in
theorem dX8_wins_48 : decode cX8_wins 48 = .ok (.if_icmp .eq 47, 3) := by decide +kernel
set_option maxRecDepth 20000 in
theorem dX8_wins_51 : decode cX8_wins 51 = .ok (.aload_n 0, 1) := by decide +kernel
set_option maxRecDepth 20000 in
theorem dX8_wins_52 : decode cX8_wins 52 = .ok (.iload_n 2, 1) := by decide +kernel
set_option maxRecDepth 20000 in
theorem dX8_wins_53 : decode cX8_wins 53 = .ok (.iconst 3, 1) := by decide +kernel
set_option maxRecDepth 20000 in
theorem dX8_wins_54 : decode cX8_wins 54 = .ok (.invokevirtual 58, 3) := by decide +kernel
set_option maxRecDepth 20000 in
theorem dX8_wins_57 : decode cX8_wins 57 = .ok (.aload_n 0, 1) := by decide +kernel
set_option maxRecDepth 20000 in
theorem dX8_wins_58 : decode cX8_wins 58 = .ok (.iload_n 3, 1) := by decide +kernel
set_option maxRecDepth 20000 in
theorem dX8_wins_59 : decode cX8_wins 59 = .ok (.iconst 3, 1) := by decide +kernel
set_option maxRecDepth 20000 in
theorem dX8_wins_60 : decode cX8_wins 60 = .ok (.invokevirtual 58, 3) := by decide +kernel
set_option maxRecDepth 20000 in
theorem dX8_wins_63 : decode cX8_wins 63 = .ok (.if_icmp .le 7, 3) := by decide +kernel
set_option maxRecDepth 20000 in
theorem dX8_wins_66 : decode cX8_wins 66 = .ok (.iconst 1, 1) := by decide +kernel
set_option maxRecDepth 20000 in
theorem dX8_wins_67 : decode cX8_wins 67 = .ok (.goto 4, 3) := by decide +kernel
set_option maxRecDepth 20000 in
theorem dX8_wins_70 : decode cX8_wins 70 = .ok (.iconst 0, 1) := by decide +kernel
set_option maxRecDepth 20000 in
theorem dX8_wins_71 : decode cX8_wins 71 = .ok (.aload_n 0, 1) := by decide +kernel
set_option maxRecDepth 20000 in
theorem dX8_wins_72 : decode cX8_wins 72 = .ok (.iload_n 2, 1) := by decide +kernel
set_option maxRecDepth 20000 in
theorem dX8_wins_73 : decode cX8_wins 73 = .ok (.iconst 5, 1) := by decide +kernel
set_option maxRecDepth 20000 in
theorem dX8_wins_74 : decode cX8_wins 74 = .ok (.invokevirtual 58, 3) := by decide +kernel
set_option maxRecDepth 20000 in
theorem dX8_wins_77 : decode cX8_wins 77 = .ok (.ifCond .ne 7, 3) := by decide +kernel
set_option maxRecDepth 20000 in
theorem dX8_wins_80 : decode cX8_wins 80 = .ok (.iconst 1, 1) := by decide +kernel
set_option maxRecDepth 20000 in
theorem dX8_wins_81 : decode cX8_wins 81 = .ok (.goto 4, 3) := by decide +kernel
set_option maxRecDepth 20000 in
theorem dX8_wins_84 : decode cX8_wins 84 = .ok (.iconst 0, 1) := by decide +kernel
set_option maxRecDepth 20000 in
theorem dX8_wins_85 : decode cX8_wins 85 = .ok (.if_icmp .ne 7, 3) := by decide +kernel
set_option maxRecDepth 20000 in
theorem dX8_wins_88 : decode cX8_wins 88 = .ok (.iconst 2, 1) := by decide +kernel
set_option maxRecDepth 20000 in
theorem dX8_wins_89 : decode cX8_wins 89 = .ok (.goto 5, 3) := by decide +kernel
set_option maxRecDepth 20000 in
theorem dX8_wins_92 : decode cX8_wins 92 = .ok (.bipush (-2), 2) := by decide +kernel
set_option maxRecDepth 20000 in
theorem dX8_wins_94 : decode cX8_wins 94 = .ok (.ireturn, 1) := by decide +kernel
set_option maxRecDepth 20000 in
theorem dX8_wins_95 : decode cX8_wins 95 = .ok (.aload_n 0, 1) := by decide +kernel
set_option maxRecDepth 20000 in
theorem dX8_wins_96 : decode cX8_wins 96 = .ok (.iload_n 2, 1) := by decide +kernel
set_option maxRecDepth 20000 in
theorem dX8_wins_97 : decode cX8_wins 97 = .ok (.iconst 4, 1) := by decide +kernel
set_option maxRecDepth 20000 in
theorem dX8_wins_98 : decode cX8_wins 98 = .ok (.invokevirtual 58, 3) := by decide +kernel
set_option maxRecDepth 20000 in
theorem dX8_wins_101 : decode cX8_wins 101 = .ok (.iconst (-1), 1) := by decide +kernel
set_option maxRecDepth 20000 in
theorem dX8_wins_102 : decode cX8_wins 102 = .ok (.if_icmp .ne 8, 3) := by decide +kernel
set_option maxRecDepth 20000 in
theorem dX8_wins_105 : decode cX8_wins 105 = .ok (.bipush 99, 2) := by decide +kernel
set_option maxRecDepth 20000 in
theorem dX8_wins_107 : decode cX8_wins 107 = .ok (.goto 14, 3) := by decide +kernel
set_option maxRecDepth 20000 in
theorem dX8_wins_110 : decode cX8_wins 110 = .ok (.aload_n 0, 1) := by decide +kernel
set_option maxRecDepth 20000 in
theorem dX8_wins_111 : decode cX8_wins 111 = .ok (.iload_n 1, 1) := by decide +kernel
set_option maxRecDepth 20000 in
theorem dX8_wins_112 : decode cX8_wins 112 = .ok (.aload_n 0, 1) := by decide +kernel
set_option maxRecDepth 20000 in
theorem dX8_wins_113 : decode cX8_wins 113 = .ok (.iload_n 2, 1) := by decide +kernel
set_option maxRecDepth 20000 in
theorem dX8_wins_114 : decode cX8_wins 114 = .ok (.iconst 4, 1) := by decide +kernel
set_option maxRecDepth 20000 in
theorem dX8_wins_115 : decode cX8_wins 115 = .ok (.invokevirtual 58, 3) := by decide +kernel
set_option maxRecDepth 20000 in
theorem dX8_wins_118 : decode cX8_wins 118 = .ok (.invokevirtual 62, 3) := by decide +kernel
set_option maxRecDepth 20000 in
theorem dX8_wins_121 : decode cX8_wins 121 = .ok (.istore 4, 2) := by decide +kernel
set_option maxRecDepth 20000 in
theorem dX8_wins_123 : decode cX8_wins 123 = .ok (.aload_n 0, 1) := by decide +kernel
set_option maxRecDepth 20000 in
theorem dX8_wins_124 : decode cX8_wins 124 = .ok (.iload_n 3, 1) := by decide +kernel
set_option maxRecDepth 20000 in
theorem dX8_wins_125 : decode cX8_wins 125 = .ok (.iconst 4, 1) := by decide +kernel
set_option maxRecDepth 20000 in
theorem dX8_wins_126 : decode cX8_wins 126 = .ok (.invokevirtual 58, 3) := by decide +kernel
set_option maxRecDepth 20000 in
theorem dX8_wins_129 : decode cX8_wins 129 = .ok (.iconst (-1), 1) := by decide +kernel
set_option maxRecDepth 20000 in
theorem dX8_wins_130 : decode cX8_wins 130 = .ok (.if_icmp .ne 8, 3) := by decide +kernel
set_option maxRecDepth 20000 in
theorem dX8_wins_133 : decode cX8_wins 133 = .ok (.bipush 99, 2) := by decide +kernel
set_option maxRecDepth 20000 in
theorem dX8_wins_135 : decode cX8_wins 135 = .ok (.goto 14, 3) := by decide +kernel
set_option maxRecDepth 20000 in
theorem dX8_wins_138 : decode cX8_wins 138 = .ok (.aload_n 0, 1) := by decide +kernel
set_option maxRecDepth 20000 in
theorem dX8_wins_139 : decode cX8_wins 139 = .ok (.iload_n 1, 1) := by decide +kernel
set_option maxRecDepth 20000 in
theorem dX8_wins_140 : decode cX8_wins 140 = .ok (.aload_n 0, 1) := by decide +kernel
set_option maxRecDepth 20000 in
theorem dX8_wins_141 : decode cX8_wins 141 = .ok (.iload_n 3, 1) := by decide +kernel
set_option maxRecDepth 20000 in
theorem dX8_wins_142 : decode cX8_wins 142 = .ok (.iconst 4, 1) := by decide +kernel
set_option maxRecDepth 20000 in
theorem dX8_wins_143 : decode cX8_wins 143 = .ok (.invokevirtual 58, 3) := by decide +kernel
set_option maxRecDepth 20000 in
theorem dX8_wins_146 : decode cX8_wins 146 = .ok (.invokevirtual 62, 3) := by decide +kernel
set_option maxRecDepth 20000 in
theorem dX8_wins_149 : decode cX8_wins 149 = .ok (.istore 5, 2) := by decide +kernel
set_option maxRecDepth 20000 in
theorem dX8_wins_151 : decode cX8_wins 151 = .ok (.iload 4, 2) := by decide +kernel
set_option maxRecDepth 20000 in
theorem dX8_wins_153 : decode cX8_wins 153 = .ok (.iload 5, 2) := by decide +kernel
set_option maxRecDepth 20000 in
theorem dX8_wins_155 : decode cX8_wins 155 = .ok (.if_icmp .eq 17, 3) := by decide +kernel
set_option maxRecDepth 20000 in
theorem dX8_wins_158 : decode cX8_wins 158 = .ok (.iload 4, 2) := by decide +kernel
set_option maxRecDepth 20000 in
theorem dX8_wins_160 : decode cX8_wins 160 = .ok (.iload 5, 2) := by decide +kernel
set_option maxRecDepth 20000 in
theorem dX8_wins_162 : decode cX8_wins 162 = .ok (.if_icmp .ge 7, 3) := by decide +kernel
set_option maxRecDepth 20000 in
theorem dX8_wins_165 : decode cX8_wins 165 = .ok (.iconst 3, 1) := by decide +kernel
set_option maxRecDepth 20000 in
theorem dX8_wins_166 : decode cX8_wins 166 = .ok (.goto 5, 3) := by decide +kernel
set_option maxRecDepth 20000 in
theorem dX8_wins_169 : decode cX8_wins 169 = .ok (.bipush (-3), 2) := by decide +kernel
set_option maxRecDepth 20000 in
theorem dX8_wins_171 : decode cX8_wins 171 = .ok (.ireturn, 1) := by decide +kernel
set_option maxRecDepth 20000 in
theorem dX8_wins_172 : decode cX8_wins 172 = .ok (.aload_n 0, 1) := by decide +kernel
set_option maxRecDepth 20000 in
theorem dX8_wins_173 : decode cX8_wins 173 = .ok (.iload_n 2, 1) := by decide +kernel
set_option maxRecDepth 20000 in
theorem dX8_wins_174 : decode cX8_wins 174 = .ok (.invokevirtual 108, 3) := by decide +kernel
set_option maxRecDepth 20000 in
theorem dX8_wins_177 : decode cX8_wins 177 = .ok (.aload_n 0, 1) := by decide +kernel
set_option maxRecDepth 20000 in
theorem dX8_wins_178 : decode cX8_wins 178 = .ok (.iload_n 3, 1) := by decide +kernel
set_option maxRecDepth 20000 in
theorem dX8_wins_179 : decode cX8_wins 179 = .ok (.invokevirtual 108, 3) := by decide +kernel
set_option maxRecDepth 20000 in
theorem dX8_wins_182 : decode cX8_wins 182 = .ok (.if_icmp .eq 23, 3) := by decide +kernel
set_option maxRecDepth 20000 in
theorem dX8_wins_185 : decode cX8_wins 185 = .ok (.aload_n 0, 1) := by decide +kernel
set_option maxRecDepth 20000 in
theorem dX8_wins_186 : decode cX8_wins 186 = .ok (.iload_n 2, 1) := by decide +kernel
set_option maxRecDepth 20000 in
theorem dX8_wins_187 : decode cX8_wins 187 = .ok (.invokevirtual 108, 3) := by decide +kernel
set_option maxRecDepth 20000 in
theorem dX8_wins_190 : decode cX8_wins 190 = .ok (.aload_n 0, 1) := by decide +kernel
set_option maxRecDepth 20000 in
theorem dX8_wins_191 : decode cX8_wins 191 = .ok (.iload_n 3, 1) := by decide +kernel
set_option maxRecDepth 20000 in
theorem dX8_wins_192 : decode cX8_wins 192 = .ok (.invokevirtual 108, 3) := by decide +kernel
set_option maxRecDepth 20000 in
theorem dX8_wins_195 : decode cX8_wins 195 = .ok (.if_icmp .le 7, 3) := by decide +kernel
set_option maxRecDepth 20000 in
theorem dX8_wins_198 : decode cX8_wins 198 = .ok (.iconst 4, 1) := by decide +kernel
set_option maxRecDepth 20000 in
theorem dX8_wins_199 : decode cX8_wins 199 = .ok (.goto 5, 3) := by decide +kernel
set_option maxRecDepth 20000 in
theorem dX8_wins_202 : decode cX8_wins 202 = .ok (.bipush (-4), 2) := by decide +kernel
set_option maxRecDepth 20000 in
theorem dX8_wins_204 : decode cX8_wins 204 = .ok (.ireturn, 1) := by decide +kernel
set_option maxRecDepth 20000 in
theorem dX8_wins_205 : decode cX8_wins 205 = .ok (.iload_n 2, 1) := by decide +kernel
set_option maxRecDepth 20000 in
theorem dX8_wins_206 : decode cX8_wins 206 = .ok (.iload_n 3, 1) := by decide +kernel
set_option maxRecDepth 20000 in
theorem dX8_wins_207 : decode cX8_wins 207 = .ok (.if_icmp .le 7, 3) := by decide +kernel
set_option maxRecDepth 20000 in
theorem dX8_wins_210 : decode cX8_wins 210 = .ok (.iconst 5, 1) := by decide +kernel
set_option maxRecDepth 20000 in
theorem dX8_wins_211 : decode cX8_wins 211 = .ok (.goto 5, 3) := by decide +kernel
set_option maxRecDepth 20000 in
theorem dX8_wins_214 : decode cX8_wins 214 = .ok (.bipush (-5), 2) := by decide +kernel
set_option maxRecDepth 20000 in
theorem dX8_wins_216 : decode cX8_wins 216 = .ok (.ireturn, 1) := by decide +kernel
set_option maxRecDepth 20000 in
theorem dX8_orders_0 : decode cX8_orders 0 = .ok (.iconst 0, 1) := by decide +kernel
set_option maxRecDepth 20000 in
theorem dX8_orders_1 : decode cX8_orders 1 = .ok (.istore_n 3, 1) := by decide +kernel
set_option maxRecDepth 20000 in
theorem dX8_orders_2 : decode cX8_orders 2 = .ok (.iconst 0, 1) := by decide +kernel
set_option maxRecDepth 20000 in
theorem dX8_orders_3 : decode cX8_orders 3 = .ok (.istore 4, 2) := by decide +kernel
set_option maxRecDepth 20000 in
theorem dX8_orders_5 : decode cX8_orders 5 = .ok (.iload 4, 2) := by decide +kernel
set_option maxRecDepth 20000 in
theorem dX8_orders_7 : decode cX8_orders 7 = .ok (.aload_n 0, 1) := by decide +kernel
set_option maxRecDepth 20000 in
theorem dX8_orders_8 : decode cX8_orders 8 = .ok (.getfield 7, 3) := by decide +kernel
set_option maxRecDepth 20000 in
theorem dX8_orders_11 : decode cX8_orders 11 = .ok (.iconst 1, 1) := by decide +kernel
set_option maxRecDepth 20000 in
theorem dX8_orders_12 : decode cX8_orders 12 = .ok (.iaload, 1) := by decide +kernel
set_option maxRecDepth 20000 in
theorem dX8_orders_13 : decode cX8_orders 13 = .ok (.if_icmp .ge 94, 3) := by decide +kernel
set_option maxRecDepth 20000 in
theorem dX8_orders_16 : decode cX8_orders 16 = .ok (.aload_n 0, 1) := by decide +kernel
set_option maxRecDepth 20000 in
theorem dX8_orders_17 : decode cX8_orders 17 = .ok (.getfield 7, 3) := by decide +kernel
set_option maxRecDepth 20000 in
theorem dX8_orders_20 : decode cX8_orders 20 = .ok (.iload 4, 2) := by decide +kernel
set_option maxRecDepth 20000 in
theorem dX8_orders_22 : decode cX8_orders 22 = .ok (.iload_n 2, 1) := by decide +kernel
set_option maxRecDepth 20000 in
theorem dX8_orders_23 : decode cX8_orders 23 = .ok (.invokestatic 78, 3) := by decide +kernel
set_option maxRecDepth 20000 in
theorem dX8_orders_26 : decode cX8_orders 26 = .ok (.iaload, 1) := by decide +kernel
set_option maxRecDepth 20000 in
theorem dX8_orders_27 : decode cX8_orders 27 = .ok (.ifCond .le 74, 3) := by decide +kernel
set_option maxRecDepth 20000 in
theorem dX8_orders_30 : decode cX8_orders 30 = .ok (.aload_n 0, 1) := by decide +kernel
set_option maxRecDepth 20000 in
theorem dX8_orders_31 : decode cX8_orders 31 = .ok (.iload 4, 2) := by decide +kernel
set_option maxRecDepth 20000 in
theorem dX8_orders_33 : decode cX8_orders 33 = .ok (.iload_n 1, 1) := by decide +kernel
set_option maxRecDepth 20000 in
theorem dX8_orders_34 : decode cX8_orders 34 = .ok (.invokevirtual 65, 3) := by decide +kernel
set_option maxRecDepth 20000 in
theorem dX8_orders_37 : decode cX8_orders 37 = .ok (.ifCond .eq 64, 3) := by decide +kernel
set_option maxRecDepth 20000 in
theorem dX8_orders_40 : decode cX8_orders 40 = .ok (.iload_n 3, 1) := by decide +kernel
set_option maxRecDepth 20000 in
theorem dX8_orders_41 : decode cX8_orders 41 = .ok (.istore 5, 2) := by decide +kernel
set_option maxRecDepth 20000 in
theorem dX8_orders_43 : decode cX8_orders 43 = .ok (.iload 5, 2) := by decide +kernel
set_option maxRecDepth 20000 in
theorem dX8_orders_45 : decode cX8_orders 45 = .ok (.ifCond .le 44, 3) := by decide +kernel
set_option maxRecDepth 20000 in
theorem dX8_orders_48 : decode cX8_orders 48 = .ok (.aload_n 0, 1) := by decide +kernel
set_option maxRecDepth 20000 in
theorem dX8_orders_49 : decode cX8_orders 49 = .ok (.iload_n 1, 1) := by decide +kernel
set_option maxRecDepth 20000 in
theorem dX8_orders_50 : decode cX8_orders 50 = .ok (.iload 4, 2) := by decide +kernel
set_option maxRecDepth 20000 in
theorem dX8_orders_52 : decode cX8_orders 52 = .ok (.aload_n 0, 1) := by decide +kernel
set_option maxRecDepth 20000 in
theorem dX8_orders_53 : decode cX8_orders 53 = .ok (.getfield 36, 3) := by decide +kernel
set_option maxRecDepth 20000 in
theorem dX8_orders_56 : decode cX8_orders 56 = .ok (.iload 5, 2) := by decide +kernel
set_option maxRecDepth 20000 in
theorem dX8_orders_58 : decode cX8_orders 58 = .ok (.iconst 1, 1) := by decide +kernel
set_option maxRecDepth 20000 in
theorem dX8_orders_59 : decode cX8_orders 59 = .ok (.isub, 1) := by decide +kernel
set_option maxRecDepth 20000 in
theorem dX8_orders_60 : decode cX8_orders 60 = .ok (.iaload, 1) := by decide +kernel
set_option maxRecDepth 20000 in
theorem dX8_orders_61 : decode cX8_orders 61 = .ok (.invokevirtual 111, 3) := by decide +kernel
set_option maxRecDepth 20000 in
theorem dX8_orders_64 : decode cX8_orders 64 = .ok (.ifCond .le 25, 3) := by decide +kernel
set_option maxRecDepth 20000 in
theorem dX8_orders_67 : decode cX8_orders 67 = .ok (.aload_n 0, 1) := by decide +kernel
set_option maxRecDepth 20000 in
theorem dX8_orders_68 : decode cX8_orders 68 = .ok (.getfield 36, 3) := by decide +kernel
set_option maxRecDepth 20000 in
theorem dX8_orders_71 : decode cX8_orders 71 = .ok (.iload 5, 2) := by decide +kernel
set_option maxRecDepth 20000 in
theorem dX8_orders_73 : decode cX8_orders 73 = .ok (.aload_n 0, 1) := by decide +kernel
set_option maxRecDepth 20000 in
theorem dX8_orders_74 : decode cX8_orders 74 = .ok (.getfield 36, 3) := by decide +kernel
set_option maxRecDepth 20000 in
theorem dX8_orders_77 : decode cX8_orders 77 = .ok (.iload 5, 2) := by decide +kernel
set_option maxRecDepth 20000 in
theorem dX8_orders_79 : decode cX8_orders 79 = .ok (.iconst 1, 1) := by decide +kernel
set_option maxRecDepth 20000 in
theorem dX8_orders_80 : decode cX8_orders 80 = .ok (.isub, 1) := by decide +kernel
set_option maxRecDepth 20000 in
theorem dX8_orders_81 : decode cX8_orders 81 = .ok (.iaload, 1) := by decide +kernel
set_option maxRecDepth 20000 in
theorem dX8_orders_82 : decode cX8_orders 82 = .ok (.iastore, 1) := by decide +kernel
set_option maxRecDepth 20000 in
theorem dX8_orders_83 : decode cX8_orders 83 = .ok (.iinc 5 (-1), 3) := by decide +kernel
set_option maxRecDepth 20000 in
theorem dX8_orders_86 : decode cX8_orders 86 = .ok (.goto (-43), 3) := by decide +kernel
set_option maxRecDepth 20000 in
theorem dX8_orders_89 : decode cX8_orders 89 = .ok (.aload_n 0, 1) := by decide +kernel
set_option maxRecDepth 20000 in
theorem dX8_orders_90 : decode cX8_orders 90 = .ok (.getfield 36, 3) := by decide +kernel
set_option maxRecDepth 20000 in
theorem dX8_orders_93 : decode cX8_orders 93 = .ok (.iload 5, 2) := by decide +kernel
set_option maxRecDepth 20000 in
theorem dX8_orders_95 : decode cX8_orders 95 = .ok (.iload 4, 2) := by decide +kernel
set_option maxRecDepth 20000 in
theorem dX8_orders_97 : decode cX8_orders 97 = .ok (.iastore, 1) := by decide +kernel
set_option maxRecDepth 20000 in
theorem dX8_orders_98 : decode cX8_orders 98 = .ok (.iinc 3 1, 3) := by decide +kernel
set_option maxRecDepth 20000 in
theorem dX8_orders_101 : decode cX8_orders 101 = .ok (.iinc 4 1, 3) := by decide +kernel
set_option maxRecDepth 20000 in
theorem dX8_orders_104 : decode cX8_orders 104 = .ok (.goto (-99), 3) := by decide +kernel
set_option maxRecDepth 20000 in
theorem dX8_orders_107 : decode cX8_orders 107 = .ok (.iload_n 3, 1) := by decide +kernel
set_option maxRecDepth 20000 in
theorem dX8_orders_108 : decode cX8_orders 108 = .ok (.ireturn, 1) := by decide +kernel
set_option maxRecDepth 20000 in
theorem dX8_winnerOf_0 : decode cX8_winnerOf 0 = .ok (.aload_n 0, 1) := by decide +kernel
set_option maxRecDepth 20000 in
theorem dX8_winnerOf_1 : decode cX8_winnerOf 1 = .ok (.iload_n 1, 1) := by decide +kernel
set_option maxRecDepth 20000 in
theorem dX8_winnerOf_2 : decode cX8_winnerOf 2 = .ok (.iload_n 2, 1) := by decide +kernel
set_option maxRecDepth 20000 in
theorem dX8_winnerOf_3 : decode cX8_winnerOf 3 = .ok (.invokevirtual 115, 3) := by decide +kernel
set_option maxRecDepth 20000 in
theorem dX8_winnerOf_6 : decode cX8_winnerOf 6 = .ok (.ifCond .ne 7, 3) := by decide +kernel
set_option maxRecDepth 20000 in
theorem dX8_winnerOf_9 : decode cX8_winnerOf 9 = .ok (.iconst (-1), 1) := by decide +kernel
set_option maxRecDepth 20000 in
theorem dX8_winnerOf_10 : decode cX8_winnerOf 10 = .ok (.goto 9, 3) := by decide +kernel
set_option maxRecDepth 20000 in
theorem dX8_winnerOf_13 : decode cX8_winnerOf 13 = .ok (.aload_n 0, 1) := by decide +kernel
set_option maxRecDepth 20000 in
theorem dX8_winnerOf_14 : decode cX8_winnerOf 14 = .ok (.getfield 36, 3) := by decide +kernel
set_option maxRecDepth 20000 in
theorem dX8_winnerOf_17 : decode cX8_winnerOf 17 = .ok (.iconst 0, 1) := by decide +kernel
set_option maxRecDepth 20000 in
theorem dX8_winnerOf_18 : decode cX8_winnerOf 18 = .ok (.iaload, 1) := by decide +kernel
set_option maxRecDepth 20000 in
theorem dX8_winnerOf_19 : decode cX8_winnerOf 19 = .ok (.ireturn, 1) := by decide +kernel
set_option maxRecDepth 20000 in
theorem dX8_leadsTo_0 : decode cX8_leadsTo 0 = .ok (.aload_n 0, 1) := by decide +kernel
set_option maxRecDepth 20000 in
theorem dX8_leadsTo_1 : decode cX8_leadsTo 1 = .ok (.iload_n 1, 1) := by decide +kernel
set_option maxRecDepth 20000 in
theorem dX8_leadsTo_2 : decode cX8_leadsTo 2 = .ok (.iload_n 2, 1) := by decide +kernel
set_option maxRecDepth 20000 in
theorem dX8_leadsTo_3 : decode cX8_leadsTo 3 = .ok (.invokevirtual 118, 3) := by decide +kernel
set_option maxRecDepth 20000 in
theorem dX8_leadsTo_6 : decode cX8_leadsTo 6 = .ok (.istore_n 3, 1) := by decide +kernel
set_option maxRecDepth 20000 in
theorem dX8_leadsTo_7 : decode cX8_leadsTo 7 = .ok (.iload_n 3, 1) := by decide +kernel
set_option maxRecDepth 20000 in
theorem dX8_leadsTo_8 : decode cX8_leadsTo 8 = .ok (.iconst (-1), 1) := by decide +kernel
set_option maxRecDepth 20000 in
theorem dX8_leadsTo_9 : decode cX8_leadsTo 9 = .ok (.if_icmp .eq 32, 3) := by decide +kernel
set_option maxRecDepth 20000 in
theorem dX8_leadsTo_12 : decode cX8_leadsTo 12 = .ok (.aload_n 0, 1) := by decide +kernel
set_option maxRecDepth 20000 in
theorem dX8_leadsTo_13 : decode cX8_leadsTo 13 = .ok (.getfield 7, 3) := by decide +kernel
set_option maxRecDepth 20000 in
theorem dX8_leadsTo_16 : decode cX8_leadsTo 16 = .ok (.iload_n 3, 1) := by decide +kernel
set_option maxRecDepth 20000 in
theorem dX8_leadsTo_17 : decode cX8_leadsTo 17 = .ok (.iload_n 2, 1) := by decide +kernel
set_option maxRecDepth 20000 in
theorem dX8_leadsTo_18 : decode cX8_leadsTo 18 = .ok (.invokestatic 78, 3) := by decide +kernel
set_option maxRecDepth 20000 in
theorem dX8_leadsTo_21 : decode cX8_leadsTo 21 = .ok (.iaload, 1) := by decide +kernel
set_option maxRecDepth 20000 in
theorem dX8_leadsTo_22 : decode cX8_leadsTo 22 = .ok (.iconst 2, 1) := by decide +kernel
set_option maxRecDepth 20000 in
theorem dX8_leadsTo_23 : decode cX8_leadsTo 23 = .ok (.if_icmp .ne 18, 3) := by decide +kernel
set_option maxRecDepth 20000 in
theorem dX8_leadsTo_26 : decode cX8_leadsTo 26 = .ok (.aload_n 0, 1) := by decide +kernel
set_option maxRecDepth 20000 in
theorem dX8_leadsTo_27 : decode cX8_leadsTo 27 = .ok (.getfield 7, 3) := by decide +kernel
set_option maxRecDepth 20000 in
theorem dX8_leadsTo_30 : decode cX8_leadsTo 30 = .ok (.iload_n 3, 1) := by decide +kernel
set_option maxRecDepth 20000 in
theorem dX8_leadsTo_31 : decode cX8_leadsTo 31 = .ok (.iload_n 2, 1) := by decide +kernel
set_option maxRecDepth 20000 in
theorem dX8_leadsTo_32 : decode cX8_leadsTo 32 = .ok (.invokestatic 78, 3) := by decide +kernel
set_option maxRecDepth 20000 in
theorem dX8_leadsTo_35 : decode cX8_leadsTo 35 = .ok (.iconst 1, 1) := by decide +kernel
set_option maxRecDepth 20000 in
theorem dX8_leadsTo_36 : decode cX8_leadsTo 36 = .ok (.iadd, 1) := by decide +kernel
set_option maxRecDepth 20000 in
theorem dX8_leadsTo_37 : decode cX8_leadsTo 37 = .ok (.iaload, 1) := by decide +kernel
set_option maxRecDepth 20000 in
theorem dX8_leadsTo_38 : decode cX8_leadsTo 38 = .ok (.goto 4, 3) := by decide +kernel
set_option maxRecDepth 20000 in
theorem dX8_leadsTo_41 : decode cX8_leadsTo 41 = .ok (.iconst (-1), 1) := by decide +kernel
set_option maxRecDepth 20000 in
theorem dX8_leadsTo_42 : decode cX8_leadsTo 42 = .ok (.ireturn, 1) := by decide +kernel
set_option maxRecDepth 20000 in
theorem dX8_cycleOf_0 : decode cX8_cycleOf 0 = .ok (.iconst 1, 1) := by decide +kernel
set_option maxRecDepth 20000 in
theorem dX8_cycleOf_1 : decode cX8_cycleOf 1 = .ok (.istore_n 3, 1) := by decide +kernel
set_option maxRecDepth 20000 in
theorem dX8_cycleOf_2 : decode cX8_cycleOf 2 = .ok (.aload_n 0, 1) := by decide +kernel
set_option maxRecDepth 20000 in
theorem dX8_cycleOf_3 : decode cX8_cycleOf 3 = .ok (.iload_n 1, 1) := by decide +kernel
set_option maxRecDepth 20000 in
theorem dX8_cycleOf_4 : decode cX8_cycleOf 4 = .ok (.iload_n 2, 1) := by decide +kernel
set_option maxRecDepth 20000 in
theorem dX8_cycleOf_5 : decode cX8_cycleOf 5 = .ok (.invokevirtual 121, 3) := by decide +kernel
set_option maxRecDepth 20000 in
theorem dX8_cycleOf_8 : decode cX8_cycleOf 8 = .ok (.istore 4, 2) := by decide +kernel
set_option maxRecDepth 20000 in
theorem dX8_cycleOf_10 : decode cX8_cycleOf 10 = .ok (.iload 4, 2) := by decide +kernel
set_option maxRecDepth 20000 in
theorem dX8_cycleOf_12 : decode cX8_cycleOf 12 = .ok (.iconst (-1), 1) := by decide +kernel
set_option maxRecDepth 20000 in
theorem dX8_cycleOf_13 : decode cX8_cycleOf 13 = .ok (.if_icmp .eq 30, 3) := by decide +kernel
set_option maxRecDepth 20000 in
theorem dX8_cycleOf_16 : decode cX8_cycleOf 16 = .ok (.iload 4, 2) := by decide +kernel
set_option maxRecDepth 20000 in
theorem dX8_cycleOf_18 : decode cX8_cycleOf 18 = .ok (.iload_n 2, 1) := by decide +kernel
set_option maxRecDepth 20000 in
theorem dX8_cycleOf_19 : decode cX8_cycleOf 19 = .ok (.if_icmp .eq 24, 3) := by decide +kernel
set_option maxRecDepth 20000 in
theorem dX8_cycleOf_22 : decode cX8_cycleOf 22 = .ok (.iload_n 3, 1) := by decide +kernel
set_option maxRecDepth 20000 in
theorem dX8_cycleOf_23 : decode cX8_cycleOf 23 = .ok (.bipush 8, 2) := by decide +kernel
set_option maxRecDepth 20000 in
theorem dX8_cycleOf_25 : decode cX8_cycleOf 25 = .ok (.if_icmp .gt 18, 3) := by decide +kernel
set_option maxRecDepth 20000 in
theorem dX8_cycleOf_28 : decode cX8_cycleOf 28 = .ok (.aload_n 0, 1) := by decide +kernel
set_option maxRecDepth 20000 in
theorem dX8_cycleOf_29 : decode cX8_cycleOf 29 = .ok (.iload_n 1, 1) := by decide +kernel
set_option maxRecDepth 20000 in
theorem dX8_cycleOf_30 : decode cX8_cycleOf 30 = .ok (.iload 4, 2) := by decide +kernel
set_option maxRecDepth 20000 in
theorem dX8_cycleOf_32 : decode cX8_cycleOf 32 = .ok (.invokevirtual 121, 3) := by decide +kernel
set_option maxRecDepth 20000 in
theorem dX8_cycleOf_35 : decode cX8_cycleOf 35 = .ok (.istore 4, 2) := by decide +kernel
set_option maxRecDepth 20000 in
theorem dX8_cycleOf_37 : decode cX8_cycleOf 37 = .ok (.iinc 3 1, 3) := by decide +kernel
set_option maxRecDepth 20000 in
theorem dX8_cycleOf_40 : decode cX8_cycleOf 40 = .ok (.goto (-30), 3) := by decide +kernel
set_option maxRecDepth 20000 in
theorem dX8_cycleOf_43 : decode cX8_cycleOf 43 = .ok (.iload 4, 2) := by decide +kernel
set_option maxRecDepth 20000 in
theorem dX8_cycleOf_45 : decode cX8_cycleOf 45 = .ok (.iload_n 2, 1) := by decide +kernel
set_option maxRecDepth 20000 in
theorem dX8_cycleOf_46 : decode cX8_cycleOf 46 = .ok (.if_icmp .ne 7, 3) := by decide +kernel
set_option maxRecDepth 20000 in
theorem dX8_cycleOf_49 : decode cX8_cycleOf 49 = .ok (.iload_n 3, 1) := by decide +kernel
set_option maxRecDepth 20000 in
theorem dX8_cycleOf_50 : decode cX8_cycleOf 50 = .ok (.goto 4, 3) := by decide +kernel
set_option maxRecDepth 20000 in
theorem dX8_cycleOf_53 : decode cX8_cycleOf 53 = .ok (.iconst 0, 1) := by decide +kernel
set_option maxRecDepth 20000 in
theorem dX8_cycleOf_54 : decode cX8_cycleOf 54 = .ok (.ireturn, 1) := by decide +kernel
set_option maxRecDepth 20000 in
theorem dX8_given_0 : decode cX8_given 0 = .ok (.aload_n 0, 1) := by decide +kernel
set_option maxRecDepth 20000 in
theorem dX8_given_1 : decode cX8_given 1 = .ok (.iload_n 1, 1) := by decide +kernel
set_option maxRecDepth 20000 in
theorem dX8_given_2 : decode cX8_given 2 = .ok (.iload_n 2, 1) := by decide +kernel
set_option maxRecDepth 20000 in
theorem dX8_given_3 : decode cX8_given 3 = .ok (.invokevirtual 118, 3) := by decide +kernel
set_option maxRecDepth 20000 in
theorem dX8_given_6 : decode cX8_given 6 = .ok (.istore_n 3, 1) := by decide +kernel
set_option maxRecDepth 20000 in
theorem dX8_given_7 : decode cX8_given 7 = .ok (.iload_n 3, 1) := by decide +kernel
set_option maxRecDepth 20000 in
theorem dX8_given_8 : decode cX8_given 8 = .ok (.iconst (-1), 1) := by decide +kernel
set_option maxRecDepth 20000 in
theorem dX8_given_9 : decode cX8_given 9 = .ok (.if_icmp .ne 5, 3) := by decide +kernel
set_option maxRecDepth 20000 in
theorem dX8_given_12 : decode cX8_given 12 = .ok (.iconst (-1), 1) := by decide +kernel
set_option maxRecDepth 20000 in
theorem dX8_given_13 : decode cX8_given 13 = .ok (.ireturn, 1) := by decide +kernel
set_option maxRecDepth 20000 in
theorem dX8_given_14 : decode cX8_given 14 = .ok (.iload_n 3, 1) := by decide +kernel
set_option maxRecDepth 20000 in
theorem dX8_given_15 : decode cX8_given 15 = .ok (.iload_n 2, 1) := by decide +kernel
set_option maxRecDepth 20000 in
theorem dX8_given_16 : decode cX8_given 16 = .ok (.invokestatic 78, 3) := by decide +kernel
set_option maxRecDepth 20000 in
theorem dX8_given_19 : decode cX8_given 19 = .ok (.istore 4, 2) := by decide +kernel
set_option maxRecDepth 20000 in
theorem dX8_given_21 : decode cX8_given 21 = .ok (.aload_n 0, 1) := by decide +kernel
set_option maxRecDepth 20000 in
theorem dX8_given_22 : decode cX8_given 22 = .ok (.getfield 7, 3) := by decide +kernel
set_option maxRecDepth 20000 in
theorem dX8_given_25 : decode cX8_given 25 = .ok (.iload 4, 2) := by decide +kernel
set_option maxRecDepth 20000 in
theorem dX8_given_27 : decode cX8_given 27 = .ok (.iaload, 1) := by decide +kernel
set_option maxRecDepth 20000 in
theorem dX8_given_28 : decode cX8_given 28 = .ok (.iconst 1, 1) := by decide +kernel
set_option maxRecDepth 20000 in
theorem dX8_given_29 : decode cX8_given 29 = .ok (.if_icmp .ne 13, 3) := by decide +kernel
set_option maxRecDepth 20000 in
theorem dX8_given_32 : decode cX8_given 32 = .ok (.aload_n 0, 1) := by decide +kernel
set_option maxRecDepth 20000 in
theorem dX8_given_33 : decode cX8_given 33 = .ok (.getfield 7, 3) := by decide +kernel
set_option maxRecDepth 20000 in
theorem dX8_given_36 : decode cX8_given 36 = .ok (.iload 4, 2) := by decide +kernel
set_option maxRecDepth 20000 in
theorem dX8_given_38 : decode cX8_given 38 = .ok (.iconst 1, 1) := by decide +kernel
set_option maxRecDepth 20000 in
theorem dX8_given_39 : decode cX8_given 39 = .ok (.iadd, 1) := by decide +kernel
set_option maxRecDepth 20000 in
theorem dX8_given_40 : decode cX8_given 40 = .ok (.iaload, 1) := by decide +kernel
set_option maxRecDepth 20000 in
theorem dX8_given_41 : decode cX8_given 41 = .ok (.ireturn, 1) := by decide +kernel
set_option maxRecDepth 20000 in
theorem dX8_given_42 : decode cX8_given 42 = .ok (.aload_n 0, 1) := by decide +kernel
set_option maxRecDepth 20000 in
theorem dX8_given_43 : decode cX8_given 43 = .ok (.getfield 26, 3) := by decide +kernel
set_option maxRecDepth 20000 in
theorem dX8_given_46 : decode cX8_given 46 = .ok (.bipush 16, 2) := by decide +kernel
set_option maxRecDepth 20000 in
theorem dX8_given_48 : decode cX8_given 48 = .ok (.iload_n 1, 1) := by decide +kernel
set_option maxRecDepth 20000 in
theorem dX8_given_49 : decode cX8_given 49 = .ok (.imul, 1) := by decide +kernel
set_option maxRecDepth 20000 in
theorem dX8_given_50 : decode cX8_given 50 = .ok (.aload_n 0, 1) := by decide +kernel
set_option maxRecDepth 20000 in
theorem dX8_given_51 : decode cX8_given 51 = .ok (.getfield 7, 3) := by decide +kernel
set_option maxRecDepth 20000 in
theorem dX8_given_54 : decode cX8_given 54 = .ok (.iload 4, 2) := by decide +kernel
set_option maxRecDepth 20000 in
theorem dX8_given_56 : decode cX8_given 56 = .ok (.iconst 1, 1) := by decide +kernel
set_option maxRecDepth 20000 in
theorem dX8_given_57 : decode cX8_given 57 = .ok (.iadd, 1) := by decide +kernel
set_option maxRecDepth 20000 in
theorem dX8_given_58 : decode cX8_given 58 = .ok (.iaload, 1) := by decide +kernel
set_option maxRecDepth 20000 in
theorem dX8_given_59 : decode cX8_given 59 = .ok (.iadd, 1) := by decide +kernel
set_option maxRecDepth 20000 in
theorem dX8_given_60 : decode cX8_given 60 = .ok (.iaload, 1) := by decide +kernel
set_option maxRecDepth 20000 in
theorem dX8_given_61 : decode cX8_given 61 = .ok (.istore 5, 2) := by decide +kernel
set_option maxRecDepth 20000 in
theorem dX8_given_63 : decode cX8_given 63 = .ok (.iload 5, 2) := by decide +kernel
set_option maxRecDepth 20000 in
theorem dX8_given_65 : decode cX8_given 65 = .ok (.iconst (-1), 1) := by decide +kernel
set_option maxRecDepth 20000 in
theorem dX8_given_66 : decode cX8_given 66 = .ok (.if_icmp .ne 15, 3) := by decide +kernel
set_option maxRecDepth 20000 in
theorem dX8_given_69 : decode cX8_given 69 = .ok (.aload_n 0, 1) := by decide +kernel
set_option maxRecDepth 20000 in
theorem dX8_given_70 : decode cX8_given 70 = .ok (.getfield 7, 3) := by decide +kernel
set_option maxRecDepth 20000 in
theorem dX8_given_73 : decode cX8_given 73 = .ok (.iload 4, 2) := by decide +kernel
set_option maxRecDepth 20000 in
theorem dX8_given_75 : decode cX8_given 75 = .ok (.iconst 2, 1) := by decide +kernel
set_option maxRecDepth 20000 in
theorem dX8_given_76 : decode cX8_given 76 = .ok (.iadd, 1) := by decide +kernel
set_option maxRecDepth 20000 in
theorem dX8_given_77 : decode cX8_given 77 = .ok (.iaload, 1) := by decide +kernel
set_option maxRecDepth 20000 in
theorem dX8_given_78 : decode cX8_given 78 = .ok (.goto 5, 3) := by decide +kernel
set_option maxRecDepth 20000 in
theorem dX8_given_81 : decode cX8_given 81 = .ok (.iload 5, 2) := by decide +kernel
set_option maxRecDepth 20000 in
theorem dX8_given_83 : decode cX8_given 83 = .ok (.ireturn, 1) := by decide +kernel
set_option maxRecDepth 20000 in
theorem dX8_settles_0 : decode cX8_settles 0 = .ok (.bipush 16, 2) := by decide +kernel
set_option maxRecDepth 20000 in
theorem dX8_settles_2 : decode cX8_settles 2 = .ok (.iload_n 1, 1) := by decide +kernel
set_option maxRecDepth 20000 in
theorem dX8_settles_3 : decode cX8_settles 3 = .ok (.imul, 1) := by decide +kernel
set_option maxRecDepth 20000 in
theorem dX8_settles_4 : decode cX8_settles 4 = .ok (.iload_n 2, 1) := by decide +kernel
set_option maxRecDepth 20000 in
theorem dX8_settles_5 : decode cX8_settles 5 = .ok (.iadd, 1) := by decide +kernel
set_option maxRecDepth 20000 in
theorem dX8_settles_6 : decode cX8_settles 6 = .ok (.istore 4, 2) := by decide +kernel
set_option maxRecDepth 20000 in
theorem dX8_settles_8 : decode cX8_settles 8 = .ok (.aload_n 0, 1) := by decide +kernel
set_option maxRecDepth 20000 in
theorem dX8_settles_9 : decode cX8_settles 9 = .ok (.iload_n 1, 1) := by decide +kernel
set_option maxRecDepth 20000 in
theorem dX8_settles_10 : decode cX8_settles 10 = .ok (.iload_n 2, 1) := by decide +kernel
set_option maxRecDepth 20000 in
theorem dX8_settles_11 : decode cX8_settles 11 = .ok (.invokevirtual 124, 3) := by decide +kernel
set_option maxRecDepth 20000 in
theorem dX8_settles_14 : decode cX8_settles 14 = .ok (.istore 5, 2) := by decide +kernel
set_option maxRecDepth 20000 in
theorem dX8_settles_16 : decode cX8_settles 16 = .ok (.aload_n 0, 1) := by decide +kernel
set_option maxRecDepth 20000 in
theorem dX8_settles_17 : decode cX8_settles 17 = .ok (.getfield 29, 3) := by decide +kernel
set_option maxRecDepth 20000 in
theorem dX8_settles_20 : decode cX8_settles 20 = .ok (.iload 4, 2) := by decide +kernel
set_option maxRecDepth 20000 in
theorem dX8_settles_22 : decode cX8_settles 22 = .ok (.iload 5, 2) := by decide +kernel
set_option maxRecDepth 20000 in
theorem dX8_settles_24 : decode cX8_settles 24 = .ok (.iconst (-1), 1) := by decide +kernel
set_option maxRecDepth 20000 in
theorem dX8_settles_25 : decode cX8_settles 25 = .ok (.if_icmp .eq 7, 3) := by decide +kernel
set_option maxRecDepth 20000 in
theorem dX8_settles_28 : decode cX8_settles 28 = .ok (.iconst 1, 1) := by decide +kernel
set_option maxRecDepth 20000 in
theorem dX8_settles_29 : decode cX8_settles 29 = .ok (.goto 4, 3) := by decide +kernel
set_option maxRecDepth 20000 in
theorem dX8_settles_32 : decode cX8_settles 32 = .ok (.iconst 0, 1) := by decide +kernel
set_option maxRecDepth 20000 in
theorem dX8_settles_33 : decode cX8_settles 33 = .ok (.bastore, 1) := by decide +kernel
set_option maxRecDepth 20000 in
theorem dX8_settles_34 : decode cX8_settles 34 = .ok (.iload_n 1, 1) := by decide +kernel
set_option maxRecDepth 20000 in
theorem dX8_settles_35 : decode cX8_settles 35 = .ok (.ifCond .ne 7, 3) := by decide +kernel
set_option maxRecDepth 20000 in
theorem dX8_settles_38 : decode cX8_settles 38 = .ok (.iconst (-1), 1) := by decide +kernel
set_option maxRecDepth 20000 in
theorem dX8_settles_39 : decode cX8_settles 39 = .ok (.goto 21, 3) := by decide +kernel
set_option maxRecDepth 20000 in
theorem dX8_settles_42 : decode cX8_settles 42 = .ok (.aload_n 0, 1) := by decide +kernel
set_option maxRecDepth 20000 in
theorem dX8_settles_43 : decode cX8_settles 43 = .ok (.getfield 26, 3) := by decide +kernel
set_option maxRecDepth 20000 in
theorem dX8_settles_46 : decode cX8_settles 46 = .ok (.bipush 16, 2) := by decide +kernel
set_option maxRecDepth 20000 in
theorem dX8_settles_48 : decode cX8_settles 48 = .ok (.aload_n 0, 1) := by decide +kernel
set_option maxRecDepth 20000 in
theorem dX8_settles_49 : decode cX8_settles 49 = .ok (.getfield 7, 3) := by decide +kernel
set_option maxRecDepth 20000 in
theorem dX8_settles_52 : decode cX8_settles 52 = .ok (.iconst 2, 1) := by decide +kernel
set_option maxRecDepth 20000 in
theorem dX8_settles_53 : decode cX8_settles 53 = .ok (.iload_n 1, 1) := by decide +kernel
set_option maxRecDepth 20000 in
theorem dX8_settles_54 : decode cX8_settles 54 = .ok (.iadd, 1) := by decide +kernel
set_option maxRecDepth 20000 in
theorem dX8_settles_55 : decode cX8_settles 55 = .ok (.iaload, 1) := by decide +kernel
set_option maxRecDepth 20000 in
theorem dX8_settles_56 : decode cX8_settles 56 = .ok (.imul, 1) := by decide +kernel
set_option maxRecDepth 20000 in
theorem dX8_settles_57 : decode cX8_settles 57 = .ok (.iload_n 2, 1) := by decide +kernel
set_option maxRecDepth 20000 in
theorem dX8_settles_58 : decode cX8_settles 58 = .ok (.iadd, 1) := by decide +kernel
set_option maxRecDepth 20000 in
theorem dX8_settles_59 : decode cX8_settles 59 = .ok (.iaload, 1) := by decide +kernel
set_option maxRecDepth 20000 in
theorem dX8_settles_60 : decode cX8_settles 60 = .ok (.istore 6, 2) := by decide +kernel
set_option maxRecDepth 20000 in
theorem dX8_settles_62 : decode cX8_settles 62 = .ok (.aload_n 0, 1) := by decide +kernel
set_option maxRecDepth 20000 in
theorem dX8_settles_63 : decode cX8_settles 63 = .ok (.getfield 26, 3) := by decide +kernel
set_option maxRecDepth 20000 in
theorem dX8_settles_66 : decode cX8_settles 66 = .ok (.iload 4, 2) := by decide +kernel
set_option maxRecDepth 20000 in
theorem dX8_settles_68 : decode cX8_settles 68 = .ok (.iload 5, 2) := by decide +kernel
set_option maxRecDepth 20000 in
theorem dX8_settles_70 : decode cX8_settles 70 = .ok (.iconst (-1), 1) := by decide +kernel
set_option maxRecDepth 20000 in
theorem dX8_settles_71 : decode cX8_settles 71 = .ok (.if_icmp .eq 8, 3) := by decide +kernel
set_option maxRecDepth 20000 in
theorem dX8_settles_74 : decode cX8_settles 74 = .ok (.iload 5, 2) := by decide +kernel
set_option maxRecDepth 20000 in
theorem dX8_settles_76 : decode cX8_settles 76 = .ok (.goto 13, 3) := by decide +kernel
set_option maxRecDepth 20000 in
theorem dX8_settles_79 : decode cX8_settles 79 = .ok (.iload_n 3, 1) := by decide +kernel
set_option maxRecDepth 20000 in
theorem dX8_settles_80 : decode cX8_settles 80 = .ok (.ifCond .eq 8, 3) := by decide +kernel
set_option maxRecDepth 20000 in
theorem dX8_settles_83 : decode cX8_settles 83 = .ok (.iload 6, 2) := by decide +kernel
set_option maxRecDepth 20000 in
theorem dX8_settles_85 : decode cX8_settles 85 = .ok (.goto 4, 3) := by decide +kernel
set_option maxRecDepth 20000 in
theorem dX8_settles_88 : decode cX8_settles 88 = .ok (.iconst (-1), 1) := by decide +kernel
set_option maxRecDepth 20000 in
theorem dX8_settles_89 : decode cX8_settles 89 = .ok (.iastore, 1) := by decide +kernel
set_option maxRecDepth 20000 in
theorem dX8_settles_90 : decode cX8_settles 90 = .ok (.return_, 1) := by decide +kernel
set_option maxRecDepth 20000 in
theorem dX8_settlesAll_0 : decode cX8_settlesAll 0 = .ok (.bipush 8, 2) := by decide +kernel
set_option maxRecDepth 20000 in
theorem dX8_settlesAll_2 : decode cX8_settlesAll 2 = .ok (.istore_n 2, 1) := by decide +kernel
set_option maxRecDepth 20000 in
theorem dX8_settlesAll_3 : decode cX8_settlesAll 3 = .ok (.iload_n 2, 1) := by decide +kernel
set_option maxRecDepth 20000 in
theorem dX8_settlesAll_4 : decode cX8_settlesAll 4 = .ok (.bipush 16, 2) := by decide +kernel
set_option maxRecDepth 20000 in
theorem dX8_settlesAll_6 : decode cX8_settlesAll 6 = .ok (.if_icmp .ge 53, 3) := by decide +kernel
set_option maxRecDepth 20000 in
theorem dX8_settlesAll_9 : decode cX8_settlesAll 9 = .ok (.aload_n 0, 1) := by decide +kernel
set_option maxRecDepth 20000 in
theorem dX8_settlesAll_10 : decode cX8_settlesAll 10 = .ok (.getfield 33, 3) := by decide +kernel
set_option maxRecDepth 20000 in
theorem dX8_settlesAll_13 : decode cX8_settlesAll 13 = .ok (.iload_n 2, 1) := by decide +kernel
set_option maxRecDepth 20000 in
theorem dX8_settlesAll_14 : decode cX8_settlesAll 14 = .ok (.aload_n 0, 1) := by decide +kernel
set_option maxRecDepth 20000 in
theorem dX8_settlesAll_15 : decode cX8_settlesAll 15 = .ok (.iload_n 1, 1) := by decide +kernel
set_option maxRecDepth 20000 in
theorem dX8_settlesAll_16 : decode cX8_settlesAll 16 = .ok (.iload_n 2, 1) := by decide +kernel
set_option maxRecDepth 20000 in
theorem dX8_settlesAll_17 : decode cX8_settlesAll 17 = .ok (.invokevirtual 68, 3) := by decide +kernel
set_option maxRecDepth 20000 in
theorem dX8_settlesAll_20 : decode cX8_settlesAll 20 = .ok (.ifCond .le 7, 3) := by decide +kernel
set_option maxRecDepth 20000 in
theorem dX8_settlesAll_23 : decode cX8_settlesAll 23 = .ok (.iconst 1, 1) := by decide +kernel
set_option maxRecDepth 20000 in
theorem dX8_settlesAll_24 : decode cX8_settlesAll 24 = .ok (.goto 4, 3) := by decide +kernel
set_option maxRecDepth 20000 in
theorem dX8_settlesAll_27 : decode cX8_settlesAll 27 = .ok (.iconst 0, 1) := by decide +kernel
set_option maxRecDepth 20000 in
theorem dX8_settlesAll_28 : decode cX8_settlesAll 28 = .ok (.bastore, 1) := by decide +kernel
set_option maxRecDepth 20000 in
theorem dX8_settlesAll_29 : decode cX8_settlesAll 29 = .ok (.aload_n 0, 1) := by decide +kernel
set_option maxRecDepth 20000 in
theorem dX8_settlesAll_30 : decode cX8_settlesAll 30 = .ok (.getfield 29, 3) := by decide +kernel
set_option maxRecDepth 20000 in
theorem dX8_settlesAll_33 : decode cX8_settlesAll 33 = .ok (.bipush 16, 2) := by decide +kernel
set_option maxRecDepth 20000 in
theorem dX8_settlesAll_35 : decode cX8_settlesAll 35 = .ok (.iload_n 1, 1) := by decide +kernel
set_option maxRecDepth 20000 in
theorem dX8_settlesAll_36 : decode cX8_settlesAll 36 = .ok (.imul, 1) := by decide +kernel
set_option maxRecDepth 20000 in
theorem dX8_settlesAll_37 : decode cX8_settlesAll 37 = .ok (.iload_n 2, 1) := by decide +kernel
set_option maxRecDepth 20000 in
theorem dX8_settlesAll_38 : decode cX8_settlesAll 38 = .ok (.iadd, 1) := by decide +kernel
set_option maxRecDepth 20000 in
theorem dX8_settlesAll_39 : decode cX8_settlesAll 39 = .ok (.iconst 0, 1) := by decide +kernel
set_option maxRecDepth 20000 in
theorem dX8_settlesAll_40 : decode cX8_settlesAll 40 = .ok (.bastore, 1) := by decide +kernel
set_option maxRecDepth 20000 in
theorem dX8_settlesAll_41 : decode cX8_settlesAll 41 = .ok (.aload_n 0, 1) := by decide +kernel
set_option maxRecDepth 20000 in
theorem dX8_settlesAll_42 : decode cX8_settlesAll 42 = .ok (.getfield 26, 3) := by decide +kernel
set_option maxRecDepth 20000 in
theorem dX8_settlesAll_45 : decode cX8_settlesAll 45 = .ok (.bipush 16, 2) := by decide +kernel
set_option maxRecDepth 20000 in
theorem dX8_settlesAll_47 : decode cX8_settlesAll 47 = .ok (.iload_n 1, 1) := by decide +kernel
set_option maxRecDepth 20000 in
theorem dX8_settlesAll_48 : decode cX8_settlesAll 48 = .ok (.imul, 1) := by decide +kernel
set_option maxRecDepth 20000 in
theorem dX8_settlesAll_49 : decode cX8_settlesAll 49 = .ok (.iload_n 2, 1) := by decide +kernel
set_option maxRecDepth 20000 in
theorem dX8_settlesAll_50 : decode cX8_settlesAll 50 = .ok (.iadd, 1) := by decide +kernel
set_option maxRecDepth 20000 in
theorem dX8_settlesAll_51 : decode cX8_settlesAll 51 = .ok (.iconst (-1), 1) := by decide +kernel
set_option maxRecDepth 20000 in
theorem dX8_settlesAll_52 : decode cX8_settlesAll 52 = .ok (.iastore, 1) := by decide +kernel
set_option maxRecDepth 20000 in
theorem dX8_settlesAll_53 : decode cX8_settlesAll 53 = .ok (.iinc 2 1, 3) := by decide +kernel
set_option maxRecDepth 20000 in
theorem dX8_settlesAll_56 : decode cX8_settlesAll 56 = .ok (.goto (-53), 3) := by decide +kernel
set_option maxRecDepth 20000 in
theorem dX8_settlesAll_59 : decode cX8_settlesAll 59 = .ok (.iconst 0, 1) := by decide +kernel
set_option maxRecDepth 20000 in
theorem dX8_settlesAll_60 : decode cX8_settlesAll 60 = .ok (.istore_n 2, 1) := by decide +kernel
set_option maxRecDepth 20000 in
theorem dX8_settlesAll_61 : decode cX8_settlesAll 61 = .ok (.iload_n 2, 1) := by decide +kernel
set_option maxRecDepth 20000 in
theorem dX8_settlesAll_62 : decode cX8_settlesAll 62 = .ok (.bipush 8, 2) := by decide +kernel
set_option maxRecDepth 20000 in
theorem dX8_settlesAll_64 : decode cX8_settlesAll 64 = .ok (.if_icmp .ge 71, 3) := by decide +kernel
set_option maxRecDepth 20000 in
theorem dX8_settlesAll_67 : decode cX8_settlesAll 67 = .ok (.bipush 8, 2) := by decide +kernel
set_option maxRecDepth 20000 in
theorem dX8_settlesAll_69 : decode cX8_settlesAll 69 = .ok (.istore_n 3, 1) := by decide +kernel
set_option maxRecDepth 20000 in
theorem dX8_settlesAll_70 : decode cX8_settlesAll 70 = .ok (.iload_n 3, 1) := by decide +kernel
set_option maxRecDepth 20000 in
theorem dX8_settlesAll_71 : decode cX8_settlesAll 71 = .ok (.bipush 16, 2) := by decide +kernel
set_option maxRecDepth 20000 in
theorem dX8_settlesAll_73 : decode cX8_settlesAll 73 = .ok (.if_icmp .ge 56, 3) := by decide +kernel
set_option maxRecDepth 20000 in
theorem dX8_settlesAll_76 : decode cX8_settlesAll 76 = .ok (.aload_n 0, 1) := by decide +kernel
set_option maxRecDepth 20000 in
theorem dX8_settlesAll_77 : decode cX8_settlesAll 77 = .ok (.iload_n 1, 1) := by decide +kernel
set_option maxRecDepth 20000 in
theorem dX8_settlesAll_78 : decode cX8_settlesAll 78 = .ok (.iload_n 3, 1) := by decide +kernel
set_option maxRecDepth 20000 in
theorem dX8_settlesAll_79 : decode cX8_settlesAll 79 = .ok (.invokevirtual 121, 3) := by decide +kernel
set_option maxRecDepth 20000 in
theorem dX8_settlesAll_82 : decode cX8_settlesAll 82 = .ok (.istore 4, 2) := by decide +kernel
set_option maxRecDepth 20000 in
theorem dX8_settlesAll_84 : decode cX8_settlesAll 84 = .ok (.aload_n 0, 1) := by decide +kernel
set_option maxRecDepth 20000 in
theorem dX8_settlesAll_85 : decode cX8_settlesAll 85 = .ok (.getfield 33, 3) := by decide +kernel
set_option maxRecDepth 20000 in
theorem dX8_settlesAll_88 : decode cX8_settlesAll 88 = .ok (.iload_n 3, 1) := by decide +kernel
set_option maxRecDepth 20000 in
theorem dX8_settlesAll_89 : decode cX8_settlesAll 89 = .ok (.baload, 1) := by decide +kernel
set_option maxRecDepth 20000 in
theorem dX8_settlesAll_90 : decode cX8_settlesAll 90 = .ok (.ifCond .ne 33, 3) := by decide +kernel
set_option maxRecDepth 20000 in
theorem dX8_settlesAll_93 : decode cX8_settlesAll 93 = .ok (.iload 4, 2) := by decide +kernel
set_option maxRecDepth 20000 in
theorem dX8_settlesAll_95 : decode cX8_settlesAll 95 = .ok (.iconst (-1), 1) := by decide +kernel
set_option maxRecDepth 20000 in
theorem dX8_settlesAll_96 : decode cX8_settlesAll 96 = .ok (.if_icmp .eq 13, 3) := by decide +kernel
set_option maxRecDepth 20000 in
theorem dX8_settlesAll_99 : decode cX8_settlesAll 99 = .ok (.aload_n 0, 1) := by decide +kernel
set_option maxRecDepth 20000 in
theorem dX8_settlesAll_100 : decode cX8_settlesAll 100 = .ok (.getfield 33, 3) := by decide +kernel
set_option maxRecDepth 20000 in
theorem dX8_settlesAll_103 : decode cX8_settlesAll 103 = .ok (.iload 4, 2) := by decide +kernel
set_option maxRecDepth 20000 in
theorem dX8_settlesAll_105 : decode cX8_settlesAll 105 = .ok (.baload, 1) := by decide +kernel
set_option maxRecDepth 20000 in
theorem dX8_settlesAll_106 : decode cX8_settlesAll 106 = .ok (.ifCond .eq 17, 3) := by decide +kernel
set_option maxRecDepth 20000 in
theorem dX8_settlesAll_109 : decode cX8_settlesAll 109 = .ok (.aload_n 0, 1) := by decide +kernel
set_option maxRecDepth 20000 in
theorem dX8_settlesAll_110 : decode cX8_settlesAll 110 = .ok (.iload_n 1, 1) := by decide +kernel
set_option maxRecDepth 20000 in
theorem dX8_settlesAll_111 : decode cX8_settlesAll 111 = .ok (.iload_n 3, 1) := by decide +kernel
set_option maxRecDepth 20000 in
theorem dX8_settlesAll_112 : decode cX8_settlesAll 112 = .ok (.iconst 1, 1) := by decide +kernel
set_option maxRecDepth 20000 in
theorem dX8_settlesAll_113 : decode cX8_settlesAll 113 = .ok (.invokevirtual 127, 3) := by decide +kernel
set_option maxRecDepth 20000 in
theorem dX8_settlesAll_116 : decode cX8_settlesAll 116 = .ok (.aload_n 0, 1) := by decide +kernel
set_option maxRecDepth 20000 in
theorem dX8_settlesAll_117 : decode cX8_settlesAll 117 = .ok (.getfield 33, 3) := by decide +kernel
set_option maxRecDepth 20000 in
theorem dX8_settlesAll_120 : decode cX8_settlesAll 120 = .ok (.iload_n 3, 1) := by decide +kernel
set_option maxRecDepth 20000 in
theorem dX8_settlesAll_121 : decode cX8_settlesAll 121 = .ok (.iconst 1, 1) := by decide +kernel
set_option maxRecDepth 20000 in
theorem dX8_settlesAll_122 : decode cX8_settlesAll 122 = .ok (.bastore, 1) := by decide +kernel
set_option maxRecDepth 20000 in
theorem dX8_settlesAll_123 : decode cX8_settlesAll 123 = .ok (.iinc 3 1, 3) := by decide +kernel
set_option maxRecDepth 20000 in
theorem dX8_settlesAll_126 : decode cX8_settlesAll 126 = .ok (.goto (-56), 3) := by decide +kernel
set_option maxRecDepth 20000 in
theorem dX8_settlesAll_129 : decode cX8_settlesAll 129 = .ok (.iinc 2 1, 3) := by decide +kernel
set_option maxRecDepth 20000 in
theorem dX8_settlesAll_132 : decode cX8_settlesAll 132 = .ok (.goto (-71), 3) := by decide +kernel
set_option maxRecDepth 20000 in
theorem dX8_settlesAll_135 : decode cX8_settlesAll 135 = .ok (.iconst 0, 1) := by decide +kernel
set_option maxRecDepth 20000 in
theorem dX8_settlesAll_136 : decode cX8_settlesAll 136 = .ok (.istore_n 2, 1) := by decide +kernel
set_option maxRecDepth 20000 in
theorem dX8_settlesAll_137 : decode cX8_settlesAll 137 = .ok (.iload_n 2, 1) := by decide +kernel
set_option maxRecDepth 20000 in
theorem dX8_settlesAll_138 : decode cX8_settlesAll 138 = .ok (.bipush 8, 2) := by decide +kernel
set_option maxRecDepth 20000 in
theorem dX8_settlesAll_140 : decode cX8_settlesAll 140 = .ok (.if_icmp .ge 59, 3) := by decide +kernel
set_option maxRecDepth 20000 in
theorem dX8_settlesAll_143 : decode cX8_settlesAll 143 = .ok (.aload_n 0, 1) := by decide +kernel
set_option maxRecDepth 20000 in
theorem dX8_settlesAll_144 : decode cX8_settlesAll 144 = .ok (.iload_n 1, 1) := by decide +kernel
set_option maxRecDepth 20000 in
theorem dX8_settlesAll_145 : decode cX8_settlesAll 145 = .ok (.iload_n 2, 1) := by decide +kernel
set_option maxRecDepth 20000 in
theorem dX8_settlesAll_146 : decode cX8_settlesAll 146 = .ok (.iload_n 2, 1) := by decide +kernel
set_option maxRecDepth 20000 in
theorem dX8_settlesAll_147 : decode cX8_settlesAll 147 = .ok (.iconst 2, 1) := by decide +kernel
set_option maxRecDepth 20000 in
theorem dX8_settlesAll_148 : decode cX8_settlesAll 148 = .ok (.irem, 1) := by decide +kernel
set_option maxRecDepth 20000 in
theorem dX8_settlesAll_149 : decode cX8_settlesAll 149 = .ok (.ifCond .ne 7, 3) := by decide +kernel
set_option maxRecDepth 20000 in
theorem dX8_settlesAll_152 : decode cX8_settlesAll 152 = .ok (.iconst 1, 1) := by decide +kernel
set_option maxRecDepth 20000 in
theorem dX8_settlesAll_153 : decode cX8_settlesAll 153 = .ok (.goto 4, 3) := by decide +kernel
set_option maxRecDepth 20000 in
theorem dX8_settlesAll_156 : decode cX8_settlesAll 156 = .ok (.iconst 0, 1) := by decide +kernel
set_option maxRecDepth 20000 in
theorem dX8_settlesAll_157 : decode cX8_settlesAll 157 = .ok (.invokevirtual 127, 3) := by decide +kernel
set_option maxRecDepth 20000 in
theorem dX8_settlesAll_160 : decode cX8_settlesAll 160 = .ok (.bipush 16, 2) := by decide +kernel
set_option maxRecDepth 20000 in
theorem dX8_settlesAll_162 : decode cX8_settlesAll 162 = .ok (.iload_n 1, 1) := by decide +kernel
set_option maxRecDepth 20000 in
theorem dX8_settlesAll_163 : decode cX8_settlesAll 163 = .ok (.imul, 1) := by decide +kernel
set_option maxRecDepth 20000 in
theorem dX8_settlesAll_164 : decode cX8_settlesAll 164 = .ok (.iload_n 2, 1) := by decide +kernel
set_option maxRecDepth 20000 in
theorem dX8_settlesAll_165 : decode cX8_settlesAll 165 = .ok (.iadd, 1) := by decide +kernel
set_option maxRecDepth 20000 in
theorem dX8_settlesAll_166 : decode cX8_settlesAll 166 = .ok (.istore_n 3, 1) := by decide +kernel
set_option maxRecDepth 20000 in
theorem dX8_settlesAll_167 : decode cX8_settlesAll 167 = .ok (.aload_n 0, 1) := by decide +kernel
set_option maxRecDepth 20000 in
theorem dX8_settlesAll_168 : decode cX8_settlesAll 168 = .ok (.getfield 26, 3) := by decide +kernel
set_option maxRecDepth 20000 in
theorem dX8_settlesAll_171 : decode cX8_settlesAll 171 = .ok (.iload_n 3, 1) := by decide +kernel
set_option maxRecDepth 20000 in
theorem dX8_settlesAll_172 : decode cX8_settlesAll 172 = .ok (.aload_n 0, 1) := by decide +kernel
set_option maxRecDepth 20000 in
theorem dX8_settlesAll_173 : decode cX8_settlesAll 173 = .ok (.getfield 26, 3) := by decide +kernel
set_option maxRecDepth 20000 in
theorem dX8_settlesAll_176 : decode cX8_settlesAll 176 = .ok (.iload_n 3, 1) := by decide +kernel
set_option maxRecDepth 20000 in
theorem dX8_settlesAll_177 : decode cX8_settlesAll 177 = .ok (.iaload, 1) := by decide +kernel
set_option maxRecDepth 20000 in
theorem dX8_settlesAll_178 : decode cX8_settlesAll 178 = .ok (.iconst (-1), 1) := by decide +kernel
set_option maxRecDepth 20000 in
theorem dX8_settlesAll_179 : decode cX8_settlesAll 179 = .ok (.if_icmp .ne 7, 3) := by decide +kernel
set_option maxRecDepth 20000 in
theorem dX8_settlesAll_182 : decode cX8_settlesAll 182 = .ok (.iconst 0, 1) := by decide +kernel
set_option maxRecDepth 20000 in
theorem dX8_settlesAll_183 : decode cX8_settlesAll 183 = .ok (.goto 9, 3) := by decide +kernel
set_option maxRecDepth 20000 in
theorem dX8_settlesAll_186 : decode cX8_settlesAll 186 = .ok (.aload_n 0, 1) := by decide +kernel
set_option maxRecDepth 20000 in
theorem dX8_settlesAll_187 : decode cX8_settlesAll 187 = .ok (.getfield 26, 3) := by decide +kernel
set_option maxRecDepth 20000 in
theorem dX8_settlesAll_190 : decode cX8_settlesAll 190 = .ok (.iload_n 3, 1) := by decide +kernel
set_option maxRecDepth 20000 in
theorem dX8_settlesAll_191 : decode cX8_settlesAll 191 = .ok (.iaload, 1) := by decide +kernel
set_option maxRecDepth 20000 in
theorem dX8_settlesAll_192 : decode cX8_settlesAll 192 = .ok (.iastore, 1) := by decide +kernel
set_option maxRecDepth 20000 in
theorem dX8_settlesAll_193 : decode cX8_settlesAll 193 = .ok (.iinc 2 1, 3) := by decide +kernel
set_option maxRecDepth 20000 in
theorem dX8_settlesAll_196 : decode cX8_settlesAll 196 = .ok (.goto (-59), 3) := by decide +kernel
set_option maxRecDepth 20000 in
theorem dX8_settlesAll_199 : decode cX8_settlesAll 199 = .ok (.return_, 1) := by decide +kernel
set_option maxRecDepth 20000 in
theorem dX8_settlesTo_0 : decode cX8_settlesTo 0 = .ok (.iconst 0, 1) := by decide +kernel
set_option maxRecDepth 20000 in
theorem dX8_settlesTo_1 : decode cX8_settlesTo 1 = .ok (.istore_n 2, 1) := by decide +kernel
set_option maxRecDepth 20000 in
theorem dX8_settlesTo_2 : decode cX8_settlesTo 2 = .ok (.iload_n 2, 1) := by decide +kernel
set_option maxRecDepth 20000 in
theorem dX8_settlesTo_3 : decode cX8_settlesTo 3 = .ok (.iload_n 1, 1) := by decide +kernel
set_option maxRecDepth 20000 in
theorem dX8_settlesTo_4 : decode cX8_settlesTo 4 = .ok (.if_icmp .gt 23, 3) := by decide +kernel
set_option maxRecDepth 20000 in
theorem dX8_settlesTo_7 : decode cX8_settlesTo 7 = .ok (.aload_n 0, 1) := by decide +kernel
set_option maxRecDepth 20000 in
theorem dX8_settlesTo_8 : decode cX8_settlesTo 8 = .ok (.iload_n 1, 1) := by decide +kernel
set_option maxRecDepth 20000 in
theorem dX8_settlesTo_9 : decode cX8_settlesTo 9 = .ok (.iload_n 2, 1) := by decide +kernel
set_option maxRecDepth 20000 in
theorem dX8_settlesTo_10 : decode cX8_settlesTo 10 = .ok (.invokevirtual 62, 3) := by decide +kernel
set_option maxRecDepth 20000 in
theorem dX8_settlesTo_13 : decode cX8_settlesTo 13 = .ok (.ifCond .lt 8, 3) := by decide +kernel
set_option maxRecDepth 20000 in
theorem dX8_settlesTo_16 : decode cX8_settlesTo 16 = .ok (.aload_n 0, 1) := by decide +kernel
set_option maxRecDepth 20000 in
theorem dX8_settlesTo_17 : decode cX8_settlesTo 17 = .ok (.iload_n 2, 1) := by decide +kernel
end
section
set_option maxRecDepth 20000 in
theorem dX8_settlesTo_18 : decode cX8_settlesTo 18 = .ok (.invokevirtual 131, 3) := by decide +kernel
set_option maxRecDepth 20000 in
theorem dX8_settlesTo_21 : decode cX8_settlesTo 21 = .ok (.iinc 2 1, 3) := by decide +kernel
set_option maxRecDepth 20000 in
theorem dX8_settlesTo_24 : decode cX8_settlesTo 24 = .ok (.goto (-22), 3) := by decide +kernel
set_option maxRecDepth 20000 in
theorem dX8_settlesTo_27 : decode cX8_settlesTo 27 = .ok (.return_, 1) := by decide +kernel
set_option maxRecDepth 20000 in
theorem dX8_value_0 : decode cX8_value 0 = .ok (.aload_n 0, 1) := by decide +kernel
set_option maxRecDepth 20000 in
theorem dX8_value_1 : decode cX8_value 1 = .ok (.iload_n 1, 1) := by decide +kernel
set_option maxRecDepth 20000 in
theorem dX8_value_2 : decode cX8_value 2 = .ok (.invokevirtual 47, 3) := by decide +kernel
set_option maxRecDepth 20000 in
theorem dX8_value_5 : decode cX8_value 5 = .ok (.ifCond .eq 10, 3) := by decide +kernel
set_option maxRecDepth 20000 in
theorem dX8_value_8 : decode cX8_value 8 = .ok (.iload_n 2, 1) := by decide +kernel
set_option maxRecDepth 20000 in
theorem dX8_value_9 : decode cX8_value 9 = .ok (.invokestatic 98, 3) := by decide +kernel
set_option maxRecDepth 20000 in
theorem dX8_value_12 : decode cX8_value 12 = .ok (.ifCond .ne 6, 3) := by decide +kernel
set_option maxRecDepth 20000 in
theorem dX8_value_15 : decode cX8_value 15 = .ok (.bipush (-11), 2) := by decide +kernel
set_option maxRecDepth 20000 in
theorem dX8_value_17 : decode cX8_value 17 = .ok (.ireturn, 1) := by decide +kernel
set_option maxRecDepth 20000 in
theorem dX8_value_18 : decode cX8_value 18 = .ok (.aload_n 0, 1) := by decide +kernel
set_option maxRecDepth 20000 in
theorem dX8_value_19 : decode cX8_value 19 = .ok (.iload_n 1, 1) := by decide +kernel
set_option maxRecDepth 20000 in
theorem dX8_value_20 : decode cX8_value 20 = .ok (.invokevirtual 135, 3) := by decide +kernel
set_option maxRecDepth 20000 in
theorem dX8_value_23 : decode cX8_value 23 = .ok (.aload_n 0, 1) := by decide +kernel
set_option maxRecDepth 20000 in
theorem dX8_value_24 : decode cX8_value 24 = .ok (.getfield 26, 3) := by decide +kernel
set_option maxRecDepth 20000 in
theorem dX8_value_27 : decode cX8_value 27 = .ok (.bipush 16, 2) := by decide +kernel
set_option maxRecDepth 20000 in
theorem dX8_value_29 : decode cX8_value 29 = .ok (.iload_n 1, 1) := by decide +kernel
set_option maxRecDepth 20000 in
theorem dX8_value_30 : decode cX8_value 30 = .ok (.imul, 1) := by decide +kernel
set_option maxRecDepth 20000 in
theorem dX8_value_31 : decode cX8_value 31 = .ok (.iload_n 2, 1) := by decide +kernel
set_option maxRecDepth 20000 in
theorem dX8_value_32 : decode cX8_value 32 = .ok (.iadd, 1) := by decide +kernel
set_option maxRecDepth 20000 in
theorem dX8_value_33 : decode cX8_value 33 = .ok (.iaload, 1) := by decide +kernel
set_option maxRecDepth 20000 in
theorem dX8_value_34 : decode cX8_value 34 = .ok (.istore_n 3, 1) := by decide +kernel
set_option maxRecDepth 20000 in
theorem dX8_value_35 : decode cX8_value 35 = .ok (.iload_n 3, 1) := by decide +kernel
set_option maxRecDepth 20000 in
theorem dX8_value_36 : decode cX8_value 36 = .ok (.iconst (-1), 1) := by decide +kernel
set_option maxRecDepth 20000 in
theorem dX8_value_37 : decode cX8_value 37 = .ok (.if_icmp .ne 8, 3) := by decide +kernel
set_option maxRecDepth 20000 in
theorem dX8_value_40 : decode cX8_value 40 = .ok (.bipush (-14), 2) := by decide +kernel
set_option maxRecDepth 20000 in
theorem dX8_value_42 : decode cX8_value 42 = .ok (.goto 4, 3) := by decide +kernel
set_option maxRecDepth 20000 in
theorem dX8_value_45 : decode cX8_value 45 = .ok (.iload_n 3, 1) := by decide +kernel
set_option maxRecDepth 20000 in
theorem dX8_value_46 : decode cX8_value 46 = .ok (.ireturn, 1) := by decide +kernel
set_option maxRecDepth 20000 in
theorem dX8_winner_0 : decode cX8_winner 0 = .ok (.aload_n 0, 1) := by decide +kernel
set_option maxRecDepth 20000 in
theorem dX8_winner_1 : decode cX8_winner 1 = .ok (.iload_n 1, 1) := by decide +kernel
set_option maxRecDepth 20000 in
theorem dX8_winner_2 : decode cX8_winner 2 = .ok (.invokevirtual 47, 3) := by decide +kernel
set_option maxRecDepth 20000 in
theorem dX8_winner_5 : decode cX8_winner 5 = .ok (.ifCond .eq 10, 3) := by decide +kernel
set_option maxRecDepth 20000 in
theorem dX8_winner_8 : decode cX8_winner 8 = .ok (.iload_n 2, 1) := by decide +kernel
set_option maxRecDepth 20000 in
theorem dX8_winner_9 : decode cX8_winner 9 = .ok (.invokestatic 98, 3) := by decide +kernel
set_option maxRecDepth 20000 in
theorem dX8_winner_12 : decode cX8_winner 12 = .ok (.ifCond .ne 6, 3) := by decide +kernel
set_option maxRecDepth 20000 in
theorem dX8_winner_15 : decode cX8_winner 15 = .ok (.bipush (-11), 2) := by decide +kernel
set_option maxRecDepth 20000 in
theorem dX8_winner_17 : decode cX8_winner 17 = .ok (.ireturn, 1) := by decide +kernel
set_option maxRecDepth 20000 in
theorem dX8_winner_18 : decode cX8_winner 18 = .ok (.aload_n 0, 1) := by decide +kernel
set_option maxRecDepth 20000 in
theorem dX8_winner_19 : decode cX8_winner 19 = .ok (.iload_n 1, 1) := by decide +kernel
set_option maxRecDepth 20000 in
theorem dX8_winner_20 : decode cX8_winner 20 = .ok (.iload_n 2, 1) := by decide +kernel
set_option maxRecDepth 20000 in
theorem dX8_winner_21 : decode cX8_winner 21 = .ok (.invokevirtual 118, 3) := by decide +kernel
set_option maxRecDepth 20000 in
theorem dX8_winner_24 : decode cX8_winner 24 = .ok (.istore_n 3, 1) := by decide +kernel
set_option maxRecDepth 20000 in
theorem dX8_winner_25 : decode cX8_winner 25 = .ok (.iload_n 3, 1) := by decide +kernel
set_option maxRecDepth 20000 in
theorem dX8_winner_26 : decode cX8_winner 26 = .ok (.iconst (-1), 1) := by decide +kernel
set_option maxRecDepth 20000 in
theorem dX8_winner_27 : decode cX8_winner 27 = .ok (.if_icmp .ne 8, 3) := by decide +kernel
set_option maxRecDepth 20000 in
theorem dX8_winner_30 : decode cX8_winner 30 = .ok (.bipush (-14), 2) := by decide +kernel
set_option maxRecDepth 20000 in
theorem dX8_winner_32 : decode cX8_winner 32 = .ok (.goto 4, 3) := by decide +kernel
set_option maxRecDepth 20000 in
theorem dX8_winner_35 : decode cX8_winner 35 = .ok (.iload_n 3, 1) := by decide +kernel
set_option maxRecDepth 20000 in
theorem dX8_winner_36 : decode cX8_winner 36 = .ok (.ireturn, 1) := by decide +kernel
set_option maxRecDepth 20000 in
theorem dX8_why_0 : decode cX8_why 0 = .ok (.aload_n 0, 1) := by decide +kernel
set_option maxRecDepth 20000 in
theorem dX8_why_1 : decode cX8_why 1 = .ok (.iload_n 1, 1) := by decide +kernel
set_option maxRecDepth 20000 in
theorem dX8_why_2 : decode cX8_why 2 = .ok (.invokevirtual 47, 3) := by decide +kernel
set_option maxRecDepth 20000 in
theorem dX8_why_5 : decode cX8_why 5 = .ok (.ifCond .eq 24, 3) := by decide +kernel
set_option maxRecDepth 20000 in
theorem dX8_why_8 : decode cX8_why 8 = .ok (.iload_n 2, 1) := by decide +kernel
set_option maxRecDepth 20000 in
theorem dX8_why_9 : decode cX8_why 9 = .ok (.invokestatic 98, 3) := by decide +kernel
set_option maxRecDepth 20000 in
theorem dX8_why_12 : decode cX8_why 12 = .ok (.ifCond .eq 17, 3) := by decide +kernel
set_option maxRecDepth 20000 in
theorem dX8_why_15 : decode cX8_why 15 = .ok (.iload_n 3, 1) := by decide +kernel
set_option maxRecDepth 20000 in
theorem dX8_why_16 : decode cX8_why 16 = .ok (.ifCond .lt 13, 3) := by decide +kernel
set_option maxRecDepth 20000 in
theorem dX8_why_19 : decode cX8_why 19 = .ok (.iload 4, 2) := by decide +kernel
set_option maxRecDepth 20000 in
theorem dX8_why_21 : decode cX8_why 21 = .ok (.iconst 0, 1) := by decide +kernel
set_option maxRecDepth 20000 in
theorem dX8_why_22 : decode cX8_why 22 = .ok (.iconst 1, 1) := by decide +kernel
set_option maxRecDepth 20000 in
theorem dX8_why_23 : decode cX8_why 23 = .ok (.invokestatic 39, 3) := by decide +kernel
set_option maxRecDepth 20000 in
theorem dX8_why_26 : decode cX8_why 26 = .ok (.ifCond .ne 6, 3) := by decide +kernel
set_option maxRecDepth 20000 in
theorem dX8_why_29 : decode cX8_why 29 = .ok (.bipush (-11), 2) := by decide +kernel
set_option maxRecDepth 20000 in
theorem dX8_why_31 : decode cX8_why 31 = .ok (.ireturn, 1) := by decide +kernel
set_option maxRecDepth 20000 in
theorem dX8_why_32 : decode cX8_why 32 = .ok (.iload_n 3, 1) := by decide +kernel
set_option maxRecDepth 20000 in
theorem dX8_why_33 : decode cX8_why 33 = .ok (.aload_n 0, 1) := by decide +kernel
set_option maxRecDepth 20000 in
theorem dX8_why_34 : decode cX8_why 34 = .ok (.iload_n 1, 1) := by decide +kernel
set_option maxRecDepth 20000 in
theorem dX8_why_35 : decode cX8_why 35 = .ok (.iload_n 2, 1) := by decide +kernel
set_option maxRecDepth 20000 in
theorem dX8_why_36 : decode cX8_why 36 = .ok (.invokevirtual 115, 3) := by decide +kernel
set_option maxRecDepth 20000 in
theorem dX8_why_39 : decode cX8_why 39 = .ok (.if_icmp .lt 6, 3) := by decide +kernel
set_option maxRecDepth 20000 in
theorem dX8_why_42 : decode cX8_why 42 = .ok (.bipush (-14), 2) := by decide +kernel
set_option maxRecDepth 20000 in
theorem dX8_why_44 : decode cX8_why 44 = .ok (.ireturn, 1) := by decide +kernel
set_option maxRecDepth 20000 in
theorem dX8_why_45 : decode cX8_why 45 = .ok (.iload 4, 2) := by decide +kernel
set_option maxRecDepth 20000 in
theorem dX8_why_47 : decode cX8_why 47 = .ok (.ifCond .ne 12, 3) := by decide +kernel
set_option maxRecDepth 20000 in
theorem dX8_why_50 : decode cX8_why 50 = .ok (.aload_n 0, 1) := by decide +kernel
set_option maxRecDepth 20000 in
theorem dX8_why_51 : decode cX8_why 51 = .ok (.getfield 36, 3) := by decide +kernel
set_option maxRecDepth 20000 in
theorem dX8_why_54 : decode cX8_why 54 = .ok (.iload_n 3, 1) := by decide +kernel
set_option maxRecDepth 20000 in
theorem dX8_why_55 : decode cX8_why 55 = .ok (.iaload, 1) := by decide +kernel
set_option maxRecDepth 20000 in
theorem dX8_why_56 : decode cX8_why 56 = .ok (.goto 30, 3) := by decide +kernel
set_option maxRecDepth 20000 in
theorem dX8_why_59 : decode cX8_why 59 = .ok (.iload_n 3, 1) := by decide +kernel
set_option maxRecDepth 20000 in
theorem dX8_why_60 : decode cX8_why 60 = .ok (.ifCond .ne 7, 3) := by decide +kernel
set_option maxRecDepth 20000 in
theorem dX8_why_63 : decode cX8_why 63 = .ok (.iconst 0, 1) := by decide +kernel
set_option maxRecDepth 20000 in
theorem dX8_why_64 : decode cX8_why 64 = .ok (.goto 22, 3) := by decide +kernel
set_option maxRecDepth 20000 in
theorem dX8_why_67 : decode cX8_why 67 = .ok (.aload_n 0, 1) := by decide +kernel
set_option maxRecDepth 20000 in
theorem dX8_why_68 : decode cX8_why 68 = .ok (.iload_n 1, 1) := by decide +kernel
set_option maxRecDepth 20000 in
theorem dX8_why_69 : decode cX8_why 69 = .ok (.aload_n 0, 1) := by decide +kernel
set_option maxRecDepth 20000 in
theorem dX8_why_70 : decode cX8_why 70 = .ok (.getfield 36, 3) := by decide +kernel
set_option maxRecDepth 20000 in
theorem dX8_why_73 : decode cX8_why 73 = .ok (.iload_n 3, 1) := by decide +kernel
set_option maxRecDepth 20000 in
theorem dX8_why_74 : decode cX8_why 74 = .ok (.iconst 1, 1) := by decide +kernel
set_option maxRecDepth 20000 in
theorem dX8_why_75 : decode cX8_why 75 = .ok (.isub, 1) := by decide +kernel
set_option maxRecDepth 20000 in
theorem dX8_why_76 : decode cX8_why 76 = .ok (.iaload, 1) := by decide +kernel
set_option maxRecDepth 20000 in
theorem dX8_why_77 : decode cX8_why 77 = .ok (.aload_n 0, 1) := by decide +kernel
set_option maxRecDepth 20000 in
theorem dX8_why_78 : decode cX8_why 78 = .ok (.getfield 36, 3) := by decide +kernel
set_option maxRecDepth 20000 in
theorem dX8_why_81 : decode cX8_why 81 = .ok (.iload_n 3, 1) := by decide +kernel
set_option maxRecDepth 20000 in
theorem dX8_why_82 : decode cX8_why 82 = .ok (.iaload, 1) := by decide +kernel
set_option maxRecDepth 20000 in
theorem dX8_why_83 : decode cX8_why 83 = .ok (.invokevirtual 111, 3) := by decide +kernel
set_option maxRecDepth 20000 in
theorem dX8_why_86 : decode cX8_why 86 = .ok (.ireturn, 1) := by decide +kernel
set_option maxRecDepth 20000 in
theorem dX8_from_0 : decode cX8_from 0 = .ok (.aload_n 0, 1) := by decide +kernel
set_option maxRecDepth 20000 in
theorem dX8_from_1 : decode cX8_from 1 = .ok (.iload_n 1, 1) := by decide +kernel
set_option maxRecDepth 20000 in
theorem dX8_from_2 : decode cX8_from 2 = .ok (.invokevirtual 47, 3) := by decide +kernel
set_option maxRecDepth 20000 in
theorem dX8_from_5 : decode cX8_from 5 = .ok (.ifCond .eq 10, 3) := by decide +kernel
set_option maxRecDepth 20000 in
theorem dX8_from_8 : decode cX8_from 8 = .ok (.iload_n 2, 1) := by decide +kernel
set_option maxRecDepth 20000 in
theorem dX8_from_9 : decode cX8_from 9 = .ok (.invokestatic 98, 3) := by decide +kernel
set_option maxRecDepth 20000 in
theorem dX8_from_12 : decode cX8_from 12 = .ok (.ifCond .ne 6, 3) := by decide +kernel
set_option maxRecDepth 20000 in
theorem dX8_from_15 : decode cX8_from 15 = .ok (.bipush (-11), 2) := by decide +kernel
set_option maxRecDepth 20000 in
theorem dX8_from_17 : decode cX8_from 17 = .ok (.ireturn, 1) := by decide +kernel
set_option maxRecDepth 20000 in
theorem dX8_from_18 : decode cX8_from 18 = .ok (.aload_n 0, 1) := by decide +kernel
set_option maxRecDepth 20000 in
theorem dX8_from_19 : decode cX8_from 19 = .ok (.iload_n 1, 1) := by decide +kernel
set_option maxRecDepth 20000 in
theorem dX8_from_20 : decode cX8_from 20 = .ok (.invokevirtual 135, 3) := by decide +kernel
set_option maxRecDepth 20000 in
theorem dX8_from_23 : decode cX8_from 23 = .ok (.iload_n 1, 1) := by decide +kernel
set_option maxRecDepth 20000 in
theorem dX8_from_24 : decode cX8_from 24 = .ok (.istore_n 3, 1) := by decide +kernel
set_option maxRecDepth 20000 in
theorem dX8_from_25 : decode cX8_from 25 = .ok (.iload_n 2, 1) := by decide +kernel
set_option maxRecDepth 20000 in
theorem dX8_from_26 : decode cX8_from 26 = .ok (.bipush 7, 2) := by decide +kernel
set_option maxRecDepth 20000 in
theorem dX8_from_28 : decode cX8_from 28 = .ok (.if_icmp .gt 9, 3) := by decide +kernel
set_option maxRecDepth 20000 in
theorem dX8_from_31 : decode cX8_from 31 = .ok (.iload_n 2, 1) := by decide +kernel
set_option maxRecDepth 20000 in
theorem dX8_from_32 : decode cX8_from 32 = .ok (.iconst 2, 1) := by decide +kernel
set_option maxRecDepth 20000 in
theorem dX8_from_33 : decode cX8_from 33 = .ok (.irem, 1) := by decide +kernel
set_option maxRecDepth 20000 in
theorem dX8_from_34 : decode cX8_from 34 = .ok (.ifCond .ne 7, 3) := by decide +kernel
set_option maxRecDepth 20000 in
theorem dX8_from_37 : decode cX8_from 37 = .ok (.iconst 1, 1) := by decide +kernel
set_option maxRecDepth 20000 in
theorem dX8_from_38 : decode cX8_from 38 = .ok (.goto 4, 3) := by decide +kernel
set_option maxRecDepth 20000 in
theorem dX8_from_41 : decode cX8_from 41 = .ok (.iconst 0, 1) := by decide +kernel
set_option maxRecDepth 20000 in
theorem dX8_from_42 : decode cX8_from 42 = .ok (.istore 4, 2) := by decide +kernel
set_option maxRecDepth 20000 in
theorem dX8_from_44 : decode cX8_from 44 = .ok (.aload_n 0, 1) := by decide +kernel
set_option maxRecDepth 20000 in
theorem dX8_from_45 : decode cX8_from 45 = .ok (.getfield 26, 3) := by decide +kernel
set_option maxRecDepth 20000 in
theorem dX8_from_48 : decode cX8_from 48 = .ok (.bipush 16, 2) := by decide +kernel
set_option maxRecDepth 20000 in
theorem dX8_from_50 : decode cX8_from 50 = .ok (.iload_n 3, 1) := by decide +kernel
set_option maxRecDepth 20000 in
theorem dX8_from_51 : decode cX8_from 51 = .ok (.imul, 1) := by decide +kernel
set_option maxRecDepth 20000 in
theorem dX8_from_52 : decode cX8_from 52 = .ok (.iload_n 2, 1) := by decide +kernel
set_option maxRecDepth 20000 in
theorem dX8_from_53 : decode cX8_from 53 = .ok (.iadd, 1) := by decide +kernel
set_option maxRecDepth 20000 in
theorem dX8_from_54 : decode cX8_from 54 = .ok (.iaload, 1) := by decide +kernel
set_option maxRecDepth 20000 in
theorem dX8_from_55 : decode cX8_from 55 = .ok (.iconst (-1), 1) := by decide +kernel
set_option maxRecDepth 20000 in
theorem dX8_from_56 : decode cX8_from 56 = .ok (.if_icmp .ne 6, 3) := by decide +kernel
set_option maxRecDepth 20000 in
theorem dX8_from_59 : decode cX8_from 59 = .ok (.bipush (-14), 2) := by decide +kernel
set_option maxRecDepth 20000 in
theorem dX8_from_61 : decode cX8_from 61 = .ok (.ireturn, 1) := by decide +kernel
set_option maxRecDepth 20000 in
theorem dX8_from_62 : decode cX8_from 62 = .ok (.iload_n 3, 1) := by decide +kernel
set_option maxRecDepth 20000 in
theorem dX8_from_63 : decode cX8_from 63 = .ok (.iconst (-1), 1) := by decide +kernel
set_option maxRecDepth 20000 in
theorem dX8_from_64 : decode cX8_from 64 = .ok (.if_icmp .eq 38, 3) := by decide +kernel
set_option maxRecDepth 20000 in
theorem dX8_from_67 : decode cX8_from 67 = .ok (.aload_n 0, 1) := by decide +kernel
set_option maxRecDepth 20000 in
theorem dX8_from_68 : decode cX8_from 68 = .ok (.getfield 29, 3) := by decide +kernel
set_option maxRecDepth 20000 in
theorem dX8_from_71 : decode cX8_from 71 = .ok (.bipush 16, 2) := by decide +kernel
set_option maxRecDepth 20000 in
theorem dX8_from_73 : decode cX8_from 73 = .ok (.iload_n 3, 1) := by decide +kernel
set_option maxRecDepth 20000 in
theorem dX8_from_74 : decode cX8_from 74 = .ok (.imul, 1) := by decide +kernel
set_option maxRecDepth 20000 in
theorem dX8_from_75 : decode cX8_from 75 = .ok (.iload_n 2, 1) := by decide +kernel
set_option maxRecDepth 20000 in
theorem dX8_from_76 : decode cX8_from 76 = .ok (.iadd, 1) := by decide +kernel
set_option maxRecDepth 20000 in
theorem dX8_from_77 : decode cX8_from 77 = .ok (.baload, 1) := by decide +kernel
set_option maxRecDepth 20000 in
theorem dX8_from_78 : decode cX8_from 78 = .ok (.ifCond .ne 24, 3) := by decide +kernel
set_option maxRecDepth 20000 in
theorem dX8_from_81 : decode cX8_from 81 = .ok (.iload 4, 2) := by decide +kernel
set_option maxRecDepth 20000 in
theorem dX8_from_83 : decode cX8_from 83 = .ok (.ifCond .eq 14, 3) := by decide +kernel
set_option maxRecDepth 20000 in
theorem dX8_from_86 : decode cX8_from 86 = .ok (.aload_n 0, 1) := by decide +kernel
set_option maxRecDepth 20000 in
theorem dX8_from_87 : decode cX8_from 87 = .ok (.getfield 7, 3) := by decide +kernel
set_option maxRecDepth 20000 in
theorem dX8_from_90 : decode cX8_from 90 = .ok (.iconst 2, 1) := by decide +kernel
set_option maxRecDepth 20000 in
theorem dX8_from_91 : decode cX8_from 91 = .ok (.iload_n 3, 1) := by decide +kernel
set_option maxRecDepth 20000 in
theorem dX8_from_92 : decode cX8_from 92 = .ok (.iadd, 1) := by decide +kernel
set_option maxRecDepth 20000 in
theorem dX8_from_93 : decode cX8_from 93 = .ok (.iaload, 1) := by decide +kernel
set_option maxRecDepth 20000 in
theorem dX8_from_94 : decode cX8_from 94 = .ok (.goto 4, 3) := by decide +kernel
set_option maxRecDepth 20000 in
theorem dX8_from_97 : decode cX8_from 97 = .ok (.iconst (-1), 1) := by decide +kernel
set_option maxRecDepth 20000 in
theorem dX8_from_98 : decode cX8_from 98 = .ok (.istore_n 3, 1) := by decide +kernel
set_option maxRecDepth 20000 in
theorem dX8_from_99 : decode cX8_from 99 = .ok (.goto (-37), 3) := by decide +kernel
set_option maxRecDepth 20000 in
theorem dX8_from_102 : decode cX8_from 102 = .ok (.iload_n 3, 1) := by decide +kernel
set_option maxRecDepth 20000 in
theorem dX8_from_103 : decode cX8_from 103 = .ok (.iconst (-1), 1) := by decide +kernel
set_option maxRecDepth 20000 in
theorem dX8_from_104 : decode cX8_from 104 = .ok (.if_icmp .ne 8, 3) := by decide +kernel
set_option maxRecDepth 20000 in
theorem dX8_from_107 : decode cX8_from 107 = .ok (.bipush (-14), 2) := by decide +kernel
set_option maxRecDepth 20000 in
theorem dX8_from_109 : decode cX8_from 109 = .ok (.goto 4, 3) := by decide +kernel
set_option maxRecDepth 20000 in
theorem dX8_from_112 : decode cX8_from 112 = .ok (.iload_n 3, 1) := by decide +kernel
set_option maxRecDepth 20000 in
theorem dX8_from_113 : decode cX8_from 113 = .ok (.ireturn, 1) := by decide +kernel
set_option maxRecDepth 20000 in
theorem dX8_cycle_0 : decode cX8_cycle 0 = .ok (.aload_n 0, 1) := by decide +kernel
set_option maxRecDepth 20000 in
theorem dX8_cycle_1 : decode cX8_cycle 1 = .ok (.iload_n 1, 1) := by decide +kernel
set_option maxRecDepth 20000 in
theorem dX8_cycle_2 : decode cX8_cycle 2 = .ok (.invokevirtual 47, 3) := by decide +kernel
set_option maxRecDepth 20000 in
theorem dX8_cycle_5 : decode cX8_cycle 5 = .ok (.ifCond .eq 23, 3) := by decide +kernel
set_option maxRecDepth 20000 in
theorem dX8_cycle_8 : decode cX8_cycle 8 = .ok (.iload_n 2, 1) := by decide +kernel
set_option maxRecDepth 20000 in
theorem dX8_cycle_9 : decode cX8_cycle 9 = .ok (.bipush 8, 2) := by decide +kernel
set_option maxRecDepth 20000 in
theorem dX8_cycle_11 : decode cX8_cycle 11 = .ok (.bipush 15, 2) := by decide +kernel
set_option maxRecDepth 20000 in
theorem dX8_cycle_13 : decode cX8_cycle 13 = .ok (.invokestatic 39, 3) := by decide +kernel
set_option maxRecDepth 20000 in
theorem dX8_cycle_16 : decode cX8_cycle 16 = .ok (.ifCond .eq 12, 3) := by decide +kernel
set_option maxRecDepth 20000 in
theorem dX8_cycle_19 : decode cX8_cycle 19 = .ok (.aload_n 0, 1) := by decide +kernel
set_option maxRecDepth 20000 in
theorem dX8_cycle_20 : decode cX8_cycle 20 = .ok (.iload_n 1, 1) := by decide +kernel
set_option maxRecDepth 20000 in
theorem dX8_cycle_21 : decode cX8_cycle 21 = .ok (.iload_n 2, 1) := by decide +kernel
set_option maxRecDepth 20000 in
theorem dX8_cycle_22 : decode cX8_cycle 22 = .ok (.invokevirtual 68, 3) := by decide +kernel
set_option maxRecDepth 20000 in
theorem dX8_cycle_25 : decode cX8_cycle 25 = .ok (.goto 5, 3) := by decide +kernel
set_option maxRecDepth 20000 in
theorem dX8_cycle_28 : decode cX8_cycle 28 = .ok (.bipush (-11), 2) := by decide +kernel
set_option maxRecDepth 20000 in
theorem dX8_cycle_30 : decode cX8_cycle 30 = .ok (.ireturn, 1) := by decide +kernel
set_option maxRecDepth 20000 in
theorem dX8_type_0 : decode cX8_type 0 = .ok (.iload_n 1, 1) := by decide +kernel
set_option maxRecDepth 20000 in
theorem dX8_type_1 : decode cX8_type 1 = .ok (.bipush 32, 2) := by decide +kernel
set_option maxRecDepth 20000 in
theorem dX8_type_3 : decode cX8_type 3 = .ok (.bipush 126, 2) := by decide +kernel
set_option maxRecDepth 20000 in
theorem dX8_type_5 : decode cX8_type 5 = .ok (.invokestatic 39, 3) := by decide +kernel
set_option maxRecDepth 20000 in
theorem dX8_type_8 : decode cX8_type 8 = .ok (.ifCond .ne 6, 3) := by decide +kernel
set_option maxRecDepth 20000 in
theorem dX8_type_11 : decode cX8_type 11 = .ok (.bipush (-11), 2) := by decide +kernel
set_option maxRecDepth 20000 in
theorem dX8_type_13 : decode cX8_type 13 = .ok (.ireturn, 1) := by decide +kernel
set_option maxRecDepth 20000 in
theorem dX8_type_14 : decode cX8_type 14 = .ok (.aload_n 0, 1) := by decide +kernel
set_option maxRecDepth 20000 in
theorem dX8_type_15 : decode cX8_type 15 = .ok (.getfield 85, 3) := by decide +kernel
set_option maxRecDepth 20000 in
theorem dX8_type_18 : decode cX8_type 18 = .ok (.bipush 80, 2) := by decide +kernel
set_option maxRecDepth 20000 in
theorem dX8_type_20 : decode cX8_type 20 = .ok (.if_icmp .ne 6, 3) := by decide +kernel
set_option maxRecDepth 20000 in
theorem dX8_type_23 : decode cX8_type 23 = .ok (.bipush (-13), 2) := by decide +kernel
set_option maxRecDepth 20000 in
theorem dX8_type_25 : decode cX8_type 25 = .ok (.ireturn, 1) := by decide +kernel
set_option maxRecDepth 20000 in
theorem dX8_type_26 : decode cX8_type 26 = .ok (.aload_n 0, 1) := by decide +kernel
set_option maxRecDepth 20000 in
theorem dX8_type_27 : decode cX8_type 27 = .ok (.getfield 16, 3) := by decide +kernel
set_option maxRecDepth 20000 in
theorem dX8_type_30 : decode cX8_type 30 = .ok (.aload_n 0, 1) := by decide +kernel
set_option maxRecDepth 20000 in
theorem dX8_type_31 : decode cX8_type 31 = .ok (.getfield 85, 3) := by decide +kernel
set_option maxRecDepth 20000 in
theorem dX8_type_34 : decode cX8_type 34 = .ok (.iload_n 1, 1) := by decide +kernel
set_option maxRecDepth 20000 in
theorem dX8_type_35 : decode cX8_type 35 = .ok (.i2c, 1) := by decide +kernel
set_option maxRecDepth 20000 in
theorem dX8_type_36 : decode cX8_type 36 = .ok (.castore, 1) := by decide +kernel
set_option maxRecDepth 20000 in
theorem dX8_type_37 : decode cX8_type 37 = .ok (.aload_n 0, 1) := by decide +kernel
set_option maxRecDepth 20000 in
theorem dX8_type_38 : decode cX8_type 38 = .ok (.dup, 1) := by decide +kernel
set_option maxRecDepth 20000 in
theorem dX8_type_39 : decode cX8_type 39 = .ok (.getfield 85, 3) := by decide +kernel
set_option maxRecDepth 20000 in
theorem dX8_type_42 : decode cX8_type 42 = .ok (.iconst 1, 1) := by decide +kernel
set_option maxRecDepth 20000 in
theorem dX8_type_43 : decode cX8_type 43 = .ok (.iadd, 1) := by decide +kernel
set_option maxRecDepth 20000 in
theorem dX8_type_44 : decode cX8_type 44 = .ok (.putfield 85, 3) := by decide +kernel
set_option maxRecDepth 20000 in
theorem dX8_type_47 : decode cX8_type 47 = .ok (.aload_n 0, 1) := by decide +kernel
set_option maxRecDepth 20000 in
theorem dX8_type_48 : decode cX8_type 48 = .ok (.getfield 85, 3) := by decide +kernel
set_option maxRecDepth 20000 in
theorem dX8_type_51 : decode cX8_type 51 = .ok (.ireturn, 1) := by decide +kernel
set_option maxRecDepth 20000 in
theorem dX8_clearText_0 : decode cX8_clearText 0 = .ok (.aload_n 0, 1) := by decide +kernel
set_option maxRecDepth 20000 in
theorem dX8_clearText_1 : decode cX8_clearText 1 = .ok (.getfield 85, 3) := by decide +kernel
set_option maxRecDepth 20000 in
theorem dX8_clearText_4 : decode cX8_clearText 4 = .ok (.istore_n 1, 1) := by decide +kernel
set_option maxRecDepth 20000 in
theorem dX8_clearText_5 : decode cX8_clearText 5 = .ok (.aload_n 0, 1) := by decide +kernel
set_option maxRecDepth 20000 in
theorem dX8_clearText_6 : decode cX8_clearText 6 = .ok (.iconst 0, 1) := by decide +kernel
set_option maxRecDepth 20000 in
theorem dX8_clearText_7 : decode cX8_clearText 7 = .ok (.putfield 85, 3) := by decide +kernel
set_option maxRecDepth 20000 in
theorem dX8_clearText_10 : decode cX8_clearText 10 = .ok (.iload_n 1, 1) := by decide +kernel
set_option maxRecDepth 20000 in
theorem dX8_clearText_11 : decode cX8_clearText 11 = .ok (.ireturn, 1) := by decide +kernel
set_option maxRecDepth 20000 in
theorem dX8_passes_0 : decode cX8_passes 0 = .ok (.aload_n 0, 1) := by decide +kernel
set_option maxRecDepth 20000 in
theorem dX8_passes_1 : decode cX8_passes 1 = .ok (.getfield 138, 3) := by decide +kernel
set_option maxRecDepth 20000 in
theorem dX8_passes_4 : decode cX8_passes 4 = .ok (.ifCond .ne 31, 3) := by decide +kernel
set_option maxRecDepth 20000 in
theorem dX8_passes_7 : decode cX8_passes 7 = .ok (.aload_n 0, 1) := by decide +kernel
set_option maxRecDepth 20000 in
theorem dX8_passes_8 : decode cX8_passes 8 = .ok (.getfield 142, 3) := by decide +kernel
set_option maxRecDepth 20000 in
theorem dX8_passes_11 : decode cX8_passes 11 = .ok (.aload_n 0, 1) := by decide +kernel
set_option maxRecDepth 20000 in
theorem dX8_passes_12 : decode cX8_passes 12 = .ok (.getfield 85, 3) := by decide +kernel
set_option maxRecDepth 20000 in
theorem dX8_passes_15 : decode cX8_passes 15 = .ok (.if_icmp .ge 20, 3) := by decide +kernel
set_option maxRecDepth 20000 in
theorem dX8_passes_18 : decode cX8_passes 18 = .ok (.aload_n 0, 1) := by decide +kernel
set_option maxRecDepth 20000 in
theorem dX8_passes_19 : decode cX8_passes 19 = .ok (.getfield 16, 3) := by decide +kernel
set_option maxRecDepth 20000 in
theorem dX8_passes_22 : decode cX8_passes 22 = .ok (.aload_n 0, 1) := by decide +kernel
set_option maxRecDepth 20000 in
theorem dX8_passes_23 : decode cX8_passes 23 = .ok (.getfield 142, 3) := by decide +kernel
set_option maxRecDepth 20000 in
theorem dX8_passes_26 : decode cX8_passes 26 = .ok (.caload, 1) := by decide +kernel
set_option maxRecDepth 20000 in
theorem dX8_passes_27 : decode cX8_passes 27 = .ok (.iload_n 1, 1) := by decide +kernel
set_option maxRecDepth 20000 in
theorem dX8_passes_28 : decode cX8_passes 28 = .ok (.if_icmp .ne 7, 3) := by decide +kernel
set_option maxRecDepth 20000 in
theorem dX8_passes_31 : decode cX8_passes 31 = .ok (.iconst 1, 1) := by decide +kernel
set_option maxRecDepth 20000 in
theorem dX8_passes_32 : decode cX8_passes 32 = .ok (.goto 4, 3) := by decide +kernel
set_option maxRecDepth 20000 in
theorem dX8_passes_35 : decode cX8_passes 35 = .ok (.iconst 0, 1) := by decide +kernel
set_option maxRecDepth 20000 in
theorem dX8_passes_36 : decode cX8_passes 36 = .ok (.istore_n 2, 1) := by decide +kernel
set_option maxRecDepth 20000 in
theorem dX8_passes_37 : decode cX8_passes 37 = .ok (.aload_n 0, 1) := by decide +kernel
set_option maxRecDepth 20000 in
theorem dX8_passes_38 : decode cX8_passes 38 = .ok (.dup, 1) := by decide +kernel
set_option maxRecDepth 20000 in
theorem dX8_passes_39 : decode cX8_passes 39 = .ok (.getfield 142, 3) := by decide +kernel
set_option maxRecDepth 20000 in
theorem dX8_passes_42 : decode cX8_passes 42 = .ok (.iload_n 2, 1) := by decide +kernel
set_option maxRecDepth 20000 in
theorem dX8_passes_43 : decode cX8_passes 43 = .ok (.ifCond .eq 7, 3) := by decide +kernel
set_option maxRecDepth 20000 in
theorem dX8_passes_46 : decode cX8_passes 46 = .ok (.iconst 1, 1) := by decide +kernel
set_option maxRecDepth 20000 in
theorem dX8_passes_47 : decode cX8_passes 47 = .ok (.goto 4, 3) := by decide +kernel
set_option maxRecDepth 20000 in
theorem dX8_passes_50 : decode cX8_passes 50 = .ok (.iconst 0, 1) := by decide +kernel
set_option maxRecDepth 20000 in
theorem dX8_passes_51 : decode cX8_passes 51 = .ok (.iadd, 1) := by decide +kernel
set_option maxRecDepth 20000 in
theorem dX8_passes_52 : decode cX8_passes 52 = .ok (.putfield 142, 3) := by decide +kernel
set_option maxRecDepth 20000 in
theorem dX8_passes_55 : decode cX8_passes 55 = .ok (.iload_n 2, 1) := by decide +kernel
set_option maxRecDepth 20000 in
theorem dX8_passes_56 : decode cX8_passes 56 = .ok (.ireturn, 1) := by decide +kernel
set_option maxRecDepth 20000 in
theorem dX8_wants_0 : decode cX8_wants 0 = .ok (.aload_n 0, 1) := by decide +kernel
set_option maxRecDepth 20000 in
theorem dX8_wants_1 : decode cX8_wants 1 = .ok (.aload_n 0, 1) := by decide +kernel
set_option maxRecDepth 20000 in
theorem dX8_wants_2 : decode cX8_wants 2 = .ok (.getfield 138, 3) := by decide +kernel
set_option maxRecDepth 20000 in
theorem dX8_wants_5 : decode cX8_wants 5 = .ok (.ifCond .ne 11, 3) := by decide +kernel
set_option maxRecDepth 20000 in
theorem dX8_wants_8 : decode cX8_wants 8 = .ok (.aload_n 0, 1) := by decide +kernel
set_option maxRecDepth 20000 in
theorem dX8_wants_9 : decode cX8_wants 9 = .ok (.iload_n 1, 1) := by decide +kernel
set_option maxRecDepth 20000 in
theorem dX8_wants_10 : decode cX8_wants 10 = .ok (.invokevirtual 145, 3) := by decide +kernel
set_option maxRecDepth 20000 in
theorem dX8_wants_13 : decode cX8_wants 13 = .ok (.ifCond .ne 7, 3) := by decide +kernel
set_option maxRecDepth 20000 in
theorem dX8_wants_16 : decode cX8_wants 16 = .ok (.iconst 1, 1) := by decide +kernel
set_option maxRecDepth 20000 in
theorem dX8_wants_17 : decode cX8_wants 17 = .ok (.goto 4, 3) := by decide +kernel
set_option maxRecDepth 20000 in
theorem dX8_wants_20 : decode cX8_wants 20 = .ok (.iconst 0, 1) := by decide +kernel
set_option maxRecDepth 20000 in
theorem dX8_wants_21 : decode cX8_wants 21 = .ok (.putfield 138, 3) := by decide +kernel
set_option maxRecDepth 20000 in
theorem dX8_wants_24 : decode cX8_wants 24 = .ok (.return_, 1) := by decide +kernel
set_option maxRecDepth 20000 in
theorem dX8_number_0 : decode cX8_number 0 = .ok (.aload_n 0, 1) := by decide +kernel
set_option maxRecDepth 20000 in
theorem dX8_number_1 : decode cX8_number 1 = .ok (.getfield 142, 3) := by decide +kernel
set_option maxRecDepth 20000 in
theorem dX8_number_4 : decode cX8_number 4 = .ok (.istore 4, 2) := by decide +kernel
set_option maxRecDepth 20000 in
theorem dX8_number_6 : decode cX8_number 6 = .ok (.iconst 0, 1) := by decide +kernel
set_option maxRecDepth 20000 in
theorem dX8_number_7 : decode cX8_number 7 = .ok (.istore 5, 2) := by decide +kernel
set_option maxRecDepth 20000 in
theorem dX8_number_9 : decode cX8_number 9 = .ok (.aload_n 0, 1) := by decide +kernel
set_option maxRecDepth 20000 in
theorem dX8_number_10 : decode cX8_number 10 = .ok (.getfield 138, 3) := by decide +kernel
set_option maxRecDepth 20000 in
theorem dX8_number_13 : decode cX8_number 13 = .ok (.ifCond .ne 77, 3) := by decide +kernel
set_option maxRecDepth 20000 in
theorem dX8_number_16 : decode cX8_number 16 = .ok (.aload_n 0, 1) := by decide +kernel
set_option maxRecDepth 20000 in
theorem dX8_number_17 : decode cX8_number 17 = .ok (.getfield 142, 3) := by decide +kernel
set_option maxRecDepth 20000 in
theorem dX8_number_20 : decode cX8_number 20 = .ok (.aload_n 0, 1) := by decide +kernel
set_option maxRecDepth 20000 in
theorem dX8_number_21 : decode cX8_number 21 = .ok (.getfield 85, 3) := by decide +kernel
set_option maxRecDepth 20000 in
theorem dX8_number_24 : decode cX8_number 24 = .ok (.if_icmp .ge 66, 3) := by decide +kernel
set_option maxRecDepth 20000 in
theorem dX8_number_27 : decode cX8_number 27 = .ok (.aload_n 0, 1) := by decide +kernel
set_option maxRecDepth 20000 in
theorem dX8_number_28 : decode cX8_number 28 = .ok (.getfield 142, 3) := by decide +kernel
set_option maxRecDepth 20000 in
theorem dX8_number_31 : decode cX8_number 31 = .ok (.iload 4, 2) := by decide +kernel
set_option maxRecDepth 20000 in
theorem dX8_number_33 : decode cX8_number 33 = .ok (.iload_n 1, 1) := by decide +kernel
set_option maxRecDepth 20000 in
theorem dX8_number_34 : decode cX8_number 34 = .ok (.iadd, 1) := by decide +kernel
set_option maxRecDepth 20000 in
theorem dX8_number_35 : decode cX8_number 35 = .ok (.if_icmp .ge 55, 3) := by decide +kernel
set_option maxRecDepth 20000 in
theorem dX8_number_38 : decode cX8_number 38 = .ok (.aload_n 0, 1) := by decide +kernel
set_option maxRecDepth 20000 in
theorem dX8_number_39 : decode cX8_number 39 = .ok (.getfield 16, 3) := by decide +kernel
set_option maxRecDepth 20000 in
theorem dX8_number_42 : decode cX8_number 42 = .ok (.aload_n 0, 1) := by decide +kernel
set_option maxRecDepth 20000 in
theorem dX8_number_43 : decode cX8_number 43 = .ok (.getfield 142, 3) := by decide +kernel
set_option maxRecDepth 20000 in
theorem dX8_number_46 : decode cX8_number 46 = .ok (.caload, 1) := by decide +kernel
set_option maxRecDepth 20000 in
theorem dX8_number_47 : decode cX8_number 47 = .ok (.bipush 48, 2) := by decide +kernel
set_option maxRecDepth 20000 in
theorem dX8_number_49 : decode cX8_number 49 = .ok (.bipush 57, 2) := by decide +kernel
set_option maxRecDepth 20000 in
theorem dX8_number_51 : decode cX8_number 51 = .ok (.invokestatic 39, 3) := by decide +kernel
set_option maxRecDepth 20000 in
theorem dX8_number_54 : decode cX8_number 54 = .ok (.ifCond .eq 36, 3) := by decide +kernel
set_option maxRecDepth 20000 in
theorem dX8_number_57 : decode cX8_number 57 = .ok (.bipush 10, 2) := by decide +kernel
set_option maxRecDepth 20000 in
theorem dX8_number_59 : decode cX8_number 59 = .ok (.iload 5, 2) := by decide +kernel
set_option maxRecDepth 20000 in
theorem dX8_number_61 : decode cX8_number 61 = .ok (.imul, 1) := by decide +kernel
set_option maxRecDepth 20000 in
theorem dX8_number_62 : decode cX8_number 62 = .ok (.aload_n 0, 1) := by decide +kernel
set_option maxRecDepth 20000 in
theorem dX8_number_63 : decode cX8_number 63 = .ok (.getfield 16, 3) := by decide +kernel
set_option maxRecDepth 20000 in
theorem dX8_number_66 : decode cX8_number 66 = .ok (.aload_n 0, 1) := by decide +kernel
set_option maxRecDepth 20000 in
theorem dX8_number_67 : decode cX8_number 67 = .ok (.getfield 142, 3) := by decide +kernel
set_option maxRecDepth 20000 in
theorem dX8_number_70 : decode cX8_number 70 = .ok (.caload, 1) := by decide +kernel
set_option maxRecDepth 20000 in
theorem dX8_number_71 : decode cX8_number 71 = .ok (.iadd, 1) := by decide +kernel
set_option maxRecDepth 20000 in
theorem dX8_number_72 : decode cX8_number 72 = .ok (.bipush 48, 2) := by decide +kernel
set_option maxRecDepth 20000 in
theorem dX8_number_74 : decode cX8_number 74 = .ok (.isub, 1) := by decide +kernel
set_option maxRecDepth 20000 in
theorem dX8_number_75 : decode cX8_number 75 = .ok (.istore 5, 2) := by decide +kernel
set_option maxRecDepth 20000 in
theorem dX8_number_77 : decode cX8_number 77 = .ok (.aload_n 0, 1) := by decide +kernel
set_option maxRecDepth 20000 in
theorem dX8_number_78 : decode cX8_number 78 = .ok (.dup, 1) := by decide +kernel
set_option maxRecDepth 20000 in
theorem dX8_number_79 : decode cX8_number 79 = .ok (.getfield 142, 3) := by decide +kernel
set_option maxRecDepth 20000 in
theorem dX8_number_82 : decode cX8_number 82 = .ok (.iconst 1, 1) := by decide +kernel
set_option maxRecDepth 20000 in
theorem dX8_number_83 : decode cX8_number 83 = .ok (.iadd, 1) := by decide +kernel
set_option maxRecDepth 20000 in
theorem dX8_number_84 : decode cX8_number 84 = .ok (.putfield 142, 3) := by decide +kernel
set_option maxRecDepth 20000 in
theorem dX8_number_87 : decode cX8_number 87 = .ok (.goto (-78), 3) := by decide +kernel
set_option maxRecDepth 20000 in
theorem dX8_number_90 : decode cX8_number 90 = .ok (.aload_n 0, 1) := by decide +kernel
set_option maxRecDepth 20000 in
theorem dX8_number_91 : decode cX8_number 91 = .ok (.aload_n 0, 1) := by decide +kernel
set_option maxRecDepth 20000 in
theorem dX8_number_92 : decode cX8_number 92 = .ok (.getfield 138, 3) := by decide +kernel
set_option maxRecDepth 20000 in
theorem dX8_number_95 : decode cX8_number 95 = .ok (.ifCond .ne 12, 3) := by decide +kernel
set_option maxRecDepth 20000 in
theorem dX8_number_98 : decode cX8_number 98 = .ok (.aload_n 0, 1) := by decide +kernel
set_option maxRecDepth 20000 in
theorem dX8_number_99 : decode cX8_number 99 = .ok (.getfield 142, 3) := by decide +kernel
set_option maxRecDepth 20000 in
theorem dX8_number_102 : decode cX8_number 102 = .ok (.iload 4, 2) := by decide +kernel
set_option maxRecDepth 20000 in
theorem dX8_number_104 : decode cX8_number 104 = .ok (.if_icmp .ne 7, 3) := by decide +kernel
set_option maxRecDepth 20000 in
theorem dX8_number_107 : decode cX8_number 107 = .ok (.iconst 1, 1) := by decide +kernel
set_option maxRecDepth 20000 in
theorem dX8_number_108 : decode cX8_number 108 = .ok (.goto 4, 3) := by decide +kernel
set_option maxRecDepth 20000 in
theorem dX8_number_111 : decode cX8_number 111 = .ok (.iconst 0, 1) := by decide +kernel
set_option maxRecDepth 20000 in
theorem dX8_number_112 : decode cX8_number 112 = .ok (.putfield 138, 3) := by decide +kernel
set_option maxRecDepth 20000 in
theorem dX8_number_115 : decode cX8_number 115 = .ok (.aload_n 0, 1) := by decide +kernel
set_option maxRecDepth 20000 in
theorem dX8_number_116 : decode cX8_number 116 = .ok (.aload_n 0, 1) := by decide +kernel
set_option maxRecDepth 20000 in
theorem dX8_number_117 : decode cX8_number 117 = .ok (.getfield 138, 3) := by decide +kernel
set_option maxRecDepth 20000 in
theorem dX8_number_120 : decode cX8_number 120 = .ok (.ifCond .ne 26, 3) := by decide +kernel
set_option maxRecDepth 20000 in
theorem dX8_number_123 : decode cX8_number 123 = .ok (.aload_n 0, 1) := by decide +kernel
set_option maxRecDepth 20000 in
theorem dX8_number_124 : decode cX8_number 124 = .ok (.getfield 149, 3) := by decide +kernel
set_option maxRecDepth 20000 in
theorem dX8_number_127 : decode cX8_number 127 = .ok (.iconst (-1), 1) := by decide +kernel
set_option maxRecDepth 20000 in
theorem dX8_number_128 : decode cX8_number 128 = .ok (.if_icmp .ne 18, 3) := by decide +kernel
set_option maxRecDepth 20000 in
theorem dX8_number_131 : decode cX8_number 131 = .ok (.iload 5, 2) := by decide +kernel
set_option maxRecDepth 20000 in
theorem dX8_number_133 : decode cX8_number 133 = .ok (.iload_n 2, 1) := by decide +kernel
set_option maxRecDepth 20000 in
theorem dX8_number_134 : decode cX8_number 134 = .ok (.iload_n 3, 1) := by decide +kernel
set_option maxRecDepth 20000 in
theorem dX8_number_135 : decode cX8_number 135 = .ok (.invokestatic 39, 3) := by decide +kernel
set_option maxRecDepth 20000 in
theorem dX8_number_138 : decode cX8_number 138 = .ok (.ifCond .ne 8, 3) := by decide +kernel
set_option maxRecDepth 20000 in
theorem dX8_number_141 : decode cX8_number 141 = .ok (.iload 4, 2) := by decide +kernel
set_option maxRecDepth 20000 in
theorem dX8_number_143 : decode cX8_number 143 = .ok (.goto 7, 3) := by decide +kernel
set_option maxRecDepth 20000 in
theorem dX8_number_146 : decode cX8_number 146 = .ok (.aload_n 0, 1) := by decide +kernel
set_option maxRecDepth 20000 in
theorem dX8_number_147 : decode cX8_number 147 = .ok (.getfield 149, 3) := by decide +kernel
set_option maxRecDepth 20000 in
theorem dX8_number_150 : decode cX8_number 150 = .ok (.putfield 149, 3) := by decide +kernel
set_option maxRecDepth 20000 in
theorem dX8_number_153 : decode cX8_number 153 = .ok (.iload 5, 2) := by decide +kernel
set_option maxRecDepth 20000 in
theorem dX8_number_155 : decode cX8_number 155 = .ok (.ireturn, 1) := by decide +kernel
set_option maxRecDepth 20000 in
theorem dX8_declares_0 : decode cX8_declares 0 = .ok (.aload_n 0, 1) := by decide +kernel
set_option maxRecDepth 20000 in
theorem dX8_declares_1 : decode cX8_declares 1 = .ok (.getfield 142, 3) := by decide +kernel
set_option maxRecDepth 20000 in
theorem dX8_declares_4 : decode cX8_declares 4 = .ok (.istore_n 1, 1) := by decide +kernel
set_option maxRecDepth 20000 in
theorem dX8_declares_5 : decode cX8_declares 5 = .ok (.aload_n 0, 1) := by decide +kernel
set_option maxRecDepth 20000 in
theorem dX8_declares_6 : decode cX8_declares 6 = .ok (.iconst 2, 1) := by decide +kernel
set_option maxRecDepth 20000 in
theorem dX8_declares_7 : decode cX8_declares 7 = .ok (.iconst 0, 1) := by decide +kernel
set_option maxRecDepth 20000 in
theorem dX8_declares_8 : decode cX8_declares 8 = .ok (.bipush 15, 2) := by decide +kernel
set_option maxRecDepth 20000 in
theorem dX8_declares_10 : decode cX8_declares 10 = .ok (.invokevirtual 152, 3) := by decide +kernel
set_option maxRecDepth 20000 in
theorem dX8_declares_13 : decode cX8_declares 13 = .ok (.istore_n 2, 1) := by decide +kernel
set_option maxRecDepth 20000 in
theorem dX8_declares_14 : decode cX8_declares 14 = .ok (.aload_n 0, 1) := by decide +kernel
set_option maxRecDepth 20000 in
theorem dX8_declares_15 : decode cX8_declares 15 = .ok (.getfield 138, 3) := by decide +kernel
set_option maxRecDepth 20000 in
theorem dX8_declares_18 : decode cX8_declares 18 = .ok (.ifCond .ne 24, 3) := by decide +kernel
set_option maxRecDepth 20000 in
theorem dX8_declares_21 : decode cX8_declares 21 = .ok (.iload_n 2, 1) := by decide +kernel
set_option maxRecDepth 20000 in
theorem dX8_declares_22 : decode cX8_declares 22 = .ok (.bipush 16, 2) := by decide +kernel
set_option maxRecDepth 20000 in
theorem dX8_declares_24 : decode cX8_declares 24 = .ok (.if_icmp .ge 18, 3) := by decide +kernel
set_option maxRecDepth 20000 in
theorem dX8_declares_27 : decode cX8_declares 27 = .ok (.aload_n 0, 1) := by decide +kernel
set_option maxRecDepth 20000 in
theorem dX8_declares_28 : decode cX8_declares 28 = .ok (.getfield 23, 3) := by decide +kernel
set_option maxRecDepth 20000 in
theorem dX8_declares_31 : decode cX8_declares 31 = .ok (.iconst 3, 1) := by decide +kernel
set_option maxRecDepth 20000 in
theorem dX8_declares_32 : decode cX8_declares 32 = .ok (.iload_n 2, 1) := by decide +kernel
set_option maxRecDepth 20000 in
theorem dX8_declares_33 : decode cX8_declares 33 = .ok (.imul, 1) := by decide +kernel
set_option maxRecDepth 20000 in
theorem dX8_declares_34 : decode cX8_declares 34 = .ok (.iaload, 1) := by decide +kernel
set_option maxRecDepth 20000 in
theorem dX8_declares_35 : decode cX8_declares 35 = .ok (.ifCond .le 7, 3) := by decide +kernel
set_option maxRecDepth 20000 in
theorem dX8_declares_38 : decode cX8_declares 38 = .ok (.iconst 1, 1) := by decide +kernel
set_option maxRecDepth 20000 in
theorem dX8_declares_39 : decode cX8_declares 39 = .ok (.goto 4, 3) := by decide +kernel
set_option maxRecDepth 20000 in
theorem dX8_declares_42 : decode cX8_declares 42 = .ok (.iconst 0, 1) := by decide +kernel
set_option maxRecDepth 20000 in
theorem dX8_declares_43 : decode cX8_declares 43 = .ok (.istore_n 3, 1) := by decide +kernel
set_option maxRecDepth 20000 in
theorem dX8_declares_44 : decode cX8_declares 44 = .ok (.aload_n 0, 1) := by decide +kernel
set_option maxRecDepth 20000 in
theorem dX8_declares_45 : decode cX8_declares 45 = .ok (.iload_n 3, 1) := by decide +kernel
set_option maxRecDepth 20000 in
theorem dX8_declares_46 : decode cX8_declares 46 = .ok (.ifCond .eq 15, 3) := by decide +kernel
set_option maxRecDepth 20000 in
theorem dX8_declares_49 : decode cX8_declares 49 = .ok (.aload_n 0, 1) := by decide +kernel
set_option maxRecDepth 20000 in
theorem dX8_declares_50 : decode cX8_declares 50 = .ok (.getfield 149, 3) := by decide +kernel
set_option maxRecDepth 20000 in
theorem dX8_declares_53 : decode cX8_declares 53 = .ok (.iconst (-1), 1) := by decide +kernel
set_option maxRecDepth 20000 in
theorem dX8_declares_54 : decode cX8_declares 54 = .ok (.if_icmp .ne 7, 3) := by decide +kernel
set_option maxRecDepth 20000 in
theorem dX8_declares_57 : decode cX8_declares 57 = .ok (.iload_n 1, 1) := by decide +kernel
set_option maxRecDepth 20000 in
theorem dX8_declares_58 : decode cX8_declares 58 = .ok (.goto 7, 3) := by decide +kernel
set_option maxRecDepth 20000 in
theorem dX8_declares_61 : decode cX8_declares 61 = .ok (.aload_n 0, 1) := by decide +kernel
set_option maxRecDepth 20000 in
theorem dX8_declares_62 : decode cX8_declares 62 = .ok (.getfield 149, 3) := by decide +kernel
set_option maxRecDepth 20000 in
theorem dX8_declares_65 : decode cX8_declares 65 = .ok (.putfield 149, 3) := by decide +kernel
set_option maxRecDepth 20000 in
theorem dX8_declares_68 : decode cX8_declares 68 = .ok (.aload_n 0, 1) := by decide +kernel
set_option maxRecDepth 20000 in
theorem dX8_declares_69 : decode cX8_declares 69 = .ok (.bipush 61, 2) := by decide +kernel
set_option maxRecDepth 20000 in
theorem dX8_declares_71 : decode cX8_declares 71 = .ok (.invokevirtual 155, 3) := by decide +kernel
set_option maxRecDepth 20000 in
theorem dX8_declares_74 : decode cX8_declares 74 = .ok (.aload_n 0, 1) := by decide +kernel
set_option maxRecDepth 20000 in
theorem dX8_declares_75 : decode cX8_declares 75 = .ok (.bipush 36, 2) := by decide +kernel
set_option maxRecDepth 20000 in
theorem dX8_declares_77 : decode cX8_declares 77 = .ok (.invokevirtual 145, 3) := by decide +kernel
set_option maxRecDepth 20000 in
theorem dX8_declares_80 : decode cX8_declares 80 = .ok (.istore 4, 2) := by decide +kernel
set_option maxRecDepth 20000 in
theorem dX8_declares_82 : decode cX8_declares 82 = .ok (.iload 4, 2) := by decide +kernel
set_option maxRecDepth 20000 in
theorem dX8_declares_84 : decode cX8_declares 84 = .ok (.ifCond .eq 15, 3) := by decide +kernel
set_option maxRecDepth 20000 in
theorem dX8_declares_87 : decode cX8_declares 87 = .ok (.aload_n 0, 1) := by decide +kernel
set_option maxRecDepth 20000 in
theorem dX8_declares_88 : decode cX8_declares 88 = .ok (.iconst 2, 1) := by decide +kernel
set_option maxRecDepth 20000 in
theorem dX8_declares_89 : decode cX8_declares 89 = .ok (.bipush 8, 2) := by decide +kernel
set_option maxRecDepth 20000 in
theorem dX8_declares_91 : decode cX8_declares 91 = .ok (.bipush 15, 2) := by decide +kernel
set_option maxRecDepth 20000 in
theorem dX8_declares_93 : decode cX8_declares 93 = .ok (.invokevirtual 152, 3) := by decide +kernel
set_option maxRecDepth 20000 in
theorem dX8_declares_96 : decode cX8_declares 96 = .ok (.goto 12, 3) := by decide +kernel
set_option maxRecDepth 20000 in
theorem dX8_declares_99 : decode cX8_declares 99 = .ok (.aload_n 0, 1) := by decide +kernel
set_option maxRecDepth 20000 in
theorem dX8_declares_100 : decode cX8_declares 100 = .ok (.iconst 3, 1) := by decide +kernel
set_option maxRecDepth 20000 in
theorem dX8_declares_101 : decode cX8_declares 101 = .ok (.iconst 0, 1) := by decide +kernel
set_option maxRecDepth 20000 in
theorem dX8_declares_102 : decode cX8_declares 102 = .ok (.sipush 999, 3) := by decide +kernel
set_option maxRecDepth 20000 in
theorem dX8_declares_105 : decode cX8_declares 105 = .ok (.invokevirtual 152, 3) := by decide +kernel
set_option maxRecDepth 20000 in
theorem dX8_declares_108 : decode cX8_declares 108 = .ok (.istore 5, 2) := by decide +kernel
set_option maxRecDepth 20000 in
theorem dX8_declares_110 : decode cX8_declares 110 = .ok (.iload 4, 2) := by decide +kernel
set_option maxRecDepth 20000 in
theorem dX8_declares_112 : decode cX8_declares 112 = .ok (.ifCond .eq 24, 3) := by decide +kernel
set_option maxRecDepth 20000 in
theorem dX8_declares_115 : decode cX8_declares 115 = .ok (.aload_n 0, 1) := by decide +kernel
set_option maxRecDepth 20000 in
theorem dX8_declares_116 : decode cX8_declares 116 = .ok (.bipush 47, 2) := by decide +kernel
set_option maxRecDepth 20000 in
theorem dX8_declares_118 : decode cX8_declares 118 = .ok (.invokevirtual 145, 3) := by decide +kernel
set_option maxRecDepth 20000 in
theorem dX8_declares_121 : decode cX8_declares 121 = .ok (.ifCond .eq 15, 3) := by decide +kernel
set_option maxRecDepth 20000 in
theorem dX8_declares_124 : decode cX8_declares 124 = .ok (.aload_n 0, 1) := by decide +kernel
set_option maxRecDepth 20000 in
theorem dX8_declares_125 : decode cX8_declares 125 = .ok (.iconst 3, 1) := by decide +kernel
set_option maxRecDepth 20000 in
theorem dX8_declares_126 : decode cX8_declares 126 = .ok (.iconst 0, 1) := by decide +kernel
set_option maxRecDepth 20000 in
theorem dX8_declares_127 : decode cX8_declares 127 = .ok (.sipush 999, 3) := by decide +kernel
set_option maxRecDepth 20000 in
theorem dX8_declares_130 : decode cX8_declares 130 = .ok (.invokevirtual 152, 3) := by decide +kernel
set_option maxRecDepth 20000 in
theorem dX8_declares_133 : decode cX8_declares 133 = .ok (.goto 4, 3) := by decide +kernel
set_option maxRecDepth 20000 in
theorem dX8_declares_136 : decode cX8_declares 136 = .ok (.iconst (-1), 1) := by decide +kernel
set_option maxRecDepth 20000 in
theorem dX8_declares_137 : decode cX8_declares 137 = .ok (.istore 6, 2) := by decide +kernel
set_option maxRecDepth 20000 in
theorem dX8_declares_139 : decode cX8_declares 139 = .ok (.aload_n 0, 1) := by decide +kernel
set_option maxRecDepth 20000 in
theorem dX8_declares_140 : decode cX8_declares 140 = .ok (.bipush 59, 2) := by decide +kernel
set_option maxRecDepth 20000 in
theorem dX8_declares_142 : decode cX8_declares 142 = .ok (.invokevirtual 155, 3) := by decide +kernel
set_option maxRecDepth 20000 in
theorem dX8_declares_145 : decode cX8_declares 145 = .ok (.aload_n 0, 1) := by decide +kernel
set_option maxRecDepth 20000 in
theorem dX8_declares_146 : decode cX8_declares 146 = .ok (.getfield 138, 3) := by decide +kernel
set_option maxRecDepth 20000 in
theorem dX8_declares_149 : decode cX8_declares 149 = .ok (.ifCond .ne 51, 3) := by decide +kernel
set_option maxRecDepth 20000 in
theorem dX8_declares_152 : decode cX8_declares 152 = .ok (.iload_n 2, 1) := by decide +kernel
set_option maxRecDepth 20000 in
theorem dX8_declares_153 : decode cX8_declares 153 = .ok (.bipush 16, 2) := by decide +kernel
set_option maxRecDepth 20000 in
theorem dX8_declares_155 : decode cX8_declares 155 = .ok (.if_icmp .ge 45, 3) := by decide +kernel
set_option maxRecDepth 20000 in
theorem dX8_declares_158 : decode cX8_declares 158 = .ok (.aload_n 0, 1) := by decide +kernel
set_option maxRecDepth 20000 in
theorem dX8_declares_159 : decode cX8_declares 159 = .ok (.getfield 23, 3) := by decide +kernel
set_option maxRecDepth 20000 in
theorem dX8_declares_162 : decode cX8_declares 162 = .ok (.iconst 3, 1) := by decide +kernel
set_option maxRecDepth 20000 in
theorem dX8_declares_163 : decode cX8_declares 163 = .ok (.iload_n 2, 1) := by decide +kernel
set_option maxRecDepth 20000 in
theorem dX8_declares_164 : decode cX8_declares 164 = .ok (.imul, 1) := by decide +kernel
set_option maxRecDepth 20000 in
theorem dX8_declares_165 : decode cX8_declares 165 = .ok (.iload 4, 2) := by decide +kernel
set_option maxRecDepth 20000 in
theorem dX8_declares_167 : decode cX8_declares 167 = .ok (.ifCond .eq 7, 3) := by decide +kernel
set_option maxRecDepth 20000 in
theorem dX8_declares_170 : decode cX8_declares 170 = .ok (.iconst 2, 1) := by decide +kernel
set_option maxRecDepth 20000 in
theorem dX8_declares_171 : decode cX8_declares 171 = .ok (.goto 4, 3) := by decide +kernel
set_option maxRecDepth 20000 in
theorem dX8_declares_174 : decode cX8_declares 174 = .ok (.iconst 1, 1) := by decide +kernel
set_option maxRecDepth 20000 in
theorem dX8_declares_175 : decode cX8_declares 175 = .ok (.iastore, 1) := by decide +kernel
set_option maxRecDepth 20000 in
theorem dX8_declares_176 : decode cX8_declares 176 = .ok (.aload_n 0, 1) := by decide +kernel
set_option maxRecDepth 20000 in
theorem dX8_declares_177 : decode cX8_declares 177 = .ok (.getfield 23, 3) := by decide +kernel
set_option maxRecDepth 20000 in
theorem dX8_declares_180 : decode cX8_declares 180 = .ok (.iconst 3, 1) := by decide +kernel
set_option maxRecDepth 20000 in
theorem dX8_declares_181 : decode cX8_declares 181 = .ok (.iload_n 2, 1) := by decide +kernel
set_option maxRecDepth 20000 in
theorem dX8_declares_182 : decode cX8_declares 182 = .ok (.imul, 1) := by decide +kernel
set_option maxRecDepth 20000 in
theorem dX8_declares_183 : decode cX8_declares 183 = .ok (.iconst 1, 1) := by decide +kernel
set_option maxRecDepth 20000 in
theorem dX8_declares_184 : decode cX8_declares 184 = .ok (.iadd, 1) := by decide +kernel
set_option maxRecDepth 20000 in
theorem dX8_declares_185 : decode cX8_declares 185 = .ok (.iload 5, 2) := by decide +kernel
set_option maxRecDepth 20000 in
theorem dX8_declares_187 : decode cX8_declares 187 = .ok (.iastore, 1) := by decide +kernel
set_option maxRecDepth 20000 in
theorem dX8_declares_188 : decode cX8_declares 188 = .ok (.aload_n 0, 1) := by decide +kernel
set_option maxRecDepth 20000 in
theorem dX8_declares_189 : decode cX8_declares 189 = .ok (.getfield 23, 3) := by decide +kernel
set_option maxRecDepth 20000 in
theorem dX8_declares_192 : decode cX8_declares 192 = .ok (.iconst 3, 1) := by decide +kernel
set_option maxRecDepth 20000 in
theorem dX8_declares_193 : decode cX8_declares 193 = .ok (.iload_n 2, 1) := by decide +kernel
set_option maxRecDepth 20000 in
theorem dX8_declares_194 : decode cX8_declares 194 = .ok (.imul, 1) := by decide +kernel
set_option maxRecDepth 20000 in
theorem dX8_declares_195 : decode cX8_declares 195 = .ok (.iconst 2, 1) := by decide +kernel
set_option maxRecDepth 20000 in
theorem dX8_declares_196 : decode cX8_declares 196 = .ok (.iadd, 1) := by decide +kernel
set_option maxRecDepth 20000 in
theorem dX8_declares_197 : decode cX8_declares 197 = .ok (.iload 6, 2) := by decide +kernel
set_option maxRecDepth 20000 in
theorem dX8_declares_199 : decode cX8_declares 199 = .ok (.iastore, 1) := by decide +kernel
set_option maxRecDepth 20000 in
theorem dX8_declares_200 : decode cX8_declares 200 = .ok (.return_, 1) := by decide +kernel
set_option maxRecDepth 20000 in
theorem dX8_faulty_0 : decode cX8_faulty 0 = .ok (.aload_n 0, 1) := by decide +kernel
set_option maxRecDepth 20000 in
theorem dX8_faulty_1 : decode cX8_faulty 1 = .ok (.iconst 0, 1) := by decide +kernel
set_option maxRecDepth 20000 in
theorem dX8_faulty_2 : decode cX8_faulty 2 = .ok (.putfield 142, 3) := by decide +kernel
set_option maxRecDepth 20000 in
theorem dX8_faulty_5 : decode cX8_faulty 5 = .ok (.aload_n 0, 1) := by decide +kernel
set_option maxRecDepth 20000 in
theorem dX8_faulty_6 : decode cX8_faulty 6 = .ok (.iconst (-1), 1) := by decide +kernel
set_option maxRecDepth 20000 in
theorem dX8_faulty_7 : decode cX8_faulty 7 = .ok (.putfield 149, 3) := by decide +kernel
set_option maxRecDepth 20000 in
theorem dX8_faulty_10 : decode cX8_faulty 10 = .ok (.aload_n 0, 1) := by decide +kernel
set_option maxRecDepth 20000 in
theorem dX8_faulty_11 : decode cX8_faulty 11 = .ok (.iconst 0, 1) := by decide +kernel
set_option maxRecDepth 20000 in
theorem dX8_faulty_12 : decode cX8_faulty 12 = .ok (.putfield 138, 3) := by decide +kernel
set_option maxRecDepth 20000 in
theorem dX8_faulty_15 : decode cX8_faulty 15 = .ok (.iconst 0, 1) := by decide +kernel
set_option maxRecDepth 20000 in
theorem dX8_faulty_16 : decode cX8_faulty 16 = .ok (.istore_n 1, 1) := by decide +kernel
set_option maxRecDepth 20000 in
theorem dX8_faulty_17 : decode cX8_faulty 17 = .ok (.iload_n 1, 1) := by decide +kernel
set_option maxRecDepth 20000 in
theorem dX8_faulty_18 : decode cX8_faulty 18 = .ok (.bipush 48, 2) := by decide +kernel
set_option maxRecDepth 20000 in
theorem dX8_faulty_20 : decode cX8_faulty 20 = .ok (.if_icmp .ge 16, 3) := by decide +kernel
set_option maxRecDepth 20000 in
theorem dX8_faulty_23 : decode cX8_faulty 23 = .ok (.aload_n 0, 1) := by decide +kernel
set_option maxRecDepth 20000 in
theorem dX8_faulty_24 : decode cX8_faulty 24 = .ok (.getfield 23, 3) := by decide +kernel
set_option maxRecDepth 20000 in
theorem dX8_faulty_27 : decode cX8_faulty 27 = .ok (.iload_n 1, 1) := by decide +kernel
set_option maxRecDepth 20000 in
theorem dX8_faulty_28 : decode cX8_faulty 28 = .ok (.iconst 0, 1) := by decide +kernel
set_option maxRecDepth 20000 in
theorem dX8_faulty_29 : decode cX8_faulty 29 = .ok (.iastore, 1) := by decide +kernel
set_option maxRecDepth 20000 in
theorem dX8_faulty_30 : decode cX8_faulty 30 = .ok (.iinc 1 1, 3) := by decide +kernel
set_option maxRecDepth 20000 in
theorem dX8_faulty_33 : decode cX8_faulty 33 = .ok (.goto (-16), 3) := by decide +kernel
set_option maxRecDepth 20000 in
theorem dX8_faulty_36 : decode cX8_faulty 36 = .ok (.aload_n 0, 1) := by decide +kernel
set_option maxRecDepth 20000 in
theorem dX8_faulty_37 : decode cX8_faulty 37 = .ok (.getfield 20, 3) := by decide +kernel
set_option maxRecDepth 20000 in
theorem dX8_faulty_40 : decode cX8_faulty 40 = .ok (.iconst 0, 1) := by decide +kernel
set_option maxRecDepth 20000 in
theorem dX8_faulty_41 : decode cX8_faulty 41 = .ok (.aload_n 0, 1) := by decide +kernel
set_option maxRecDepth 20000 in
theorem dX8_faulty_42 : decode cX8_faulty 42 = .ok (.bipush 107, 2) := by decide +kernel
set_option maxRecDepth 20000 in
theorem dX8_faulty_44 : decode cX8_faulty 44 = .ok (.invokevirtual 145, 3) := by decide +kernel
set_option maxRecDepth 20000 in
theorem dX8_faulty_47 : decode cX8_faulty 47 = .ok (.ifCond .eq 13, 3) := by decide +kernel
set_option maxRecDepth 20000 in
theorem dX8_faulty_50 : decode cX8_faulty 50 = .ok (.aload_n 0, 1) := by decide +kernel
set_option maxRecDepth 20000 in
theorem dX8_faulty_51 : decode cX8_faulty 51 = .ok (.iconst 1, 1) := by decide +kernel
set_option maxRecDepth 20000 in
theorem dX8_faulty_52 : decode cX8_faulty 52 = .ok (.iconst 0, 1) := by decide +kernel
set_option maxRecDepth 20000 in
theorem dX8_faulty_53 : decode cX8_faulty 53 = .ok (.iconst 5, 1) := by decide +kernel
set_option maxRecDepth 20000 in
theorem dX8_faulty_54 : decode cX8_faulty 54 = .ok (.invokevirtual 152, 3) := by decide +kernel
set_option maxRecDepth 20000 in
theorem dX8_faulty_57 : decode cX8_faulty 57 = .ok (.goto 4, 3) := by decide +kernel
set_option maxRecDepth 20000 in
theorem dX8_faulty_60 : decode cX8_faulty 60 = .ok (.iconst (-1), 1) := by decide +kernel
set_option maxRecDepth 20000 in
theorem dX8_faulty_61 : decode cX8_faulty 61 = .ok (.iastore, 1) := by decide +kernel
set_option maxRecDepth 20000 in
theorem dX8_faulty_62 : decode cX8_faulty 62 = .ok (.aload_n 0, 1) := by decide +kernel
set_option maxRecDepth 20000 in
theorem dX8_faulty_63 : decode cX8_faulty 63 = .ok (.getfield 20, 3) := by decide +kernel
set_option maxRecDepth 20000 in
theorem dX8_faulty_66 : decode cX8_faulty 66 = .ok (.iconst 1, 1) := by decide +kernel
set_option maxRecDepth 20000 in
theorem dX8_faulty_67 : decode cX8_faulty 67 = .ok (.aload_n 0, 1) := by decide +kernel
set_option maxRecDepth 20000 in
theorem dX8_faulty_68 : decode cX8_faulty 68 = .ok (.bipush 46, 2) := by decide +kernel
set_option maxRecDepth 20000 in
theorem dX8_faulty_70 : decode cX8_faulty 70 = .ok (.invokevirtual 145, 3) := by decide +kernel
set_option maxRecDepth 20000 in
theorem dX8_faulty_73 : decode cX8_faulty 73 = .ok (.ifCond .eq 14, 3) := by decide +kernel
set_option maxRecDepth 20000 in
theorem dX8_faulty_76 : decode cX8_faulty 76 = .ok (.aload_n 0, 1) := by decide +kernel
set_option maxRecDepth 20000 in
theorem dX8_faulty_77 : decode cX8_faulty 77 = .ok (.iconst 2, 1) := by decide +kernel
set_option maxRecDepth 20000 in
theorem dX8_faulty_78 : decode cX8_faulty 78 = .ok (.iconst 0, 1) := by decide +kernel
set_option maxRecDepth 20000 in
theorem dX8_faulty_79 : decode cX8_faulty 79 = .ok (.bipush 15, 2) := by decide +kernel
set_option maxRecDepth 20000 in
theorem dX8_faulty_81 : decode cX8_faulty 81 = .ok (.invokevirtual 152, 3) := by decide +kernel
set_option maxRecDepth 20000 in
theorem dX8_faulty_84 : decode cX8_faulty 84 = .ok (.goto 4, 3) := by decide +kernel
set_option maxRecDepth 20000 in
theorem dX8_faulty_87 : decode cX8_faulty 87 = .ok (.iconst 0, 1) := by decide +kernel
set_option maxRecDepth 20000 in
theorem dX8_faulty_88 : decode cX8_faulty 88 = .ok (.iastore, 1) := by decide +kernel
set_option maxRecDepth 20000 in
theorem dX8_faulty_89 : decode cX8_faulty 89 = .ok (.aload_n 0, 1) := by decide +kernel
set_option maxRecDepth 20000 in
theorem dX8_faulty_90 : decode cX8_faulty 90 = .ok (.getfield 20, 3) := by decide +kernel
set_option maxRecDepth 20000 in
theorem dX8_faulty_93 : decode cX8_faulty 93 = .ok (.iconst 2, 1) := by decide +kernel
set_option maxRecDepth 20000 in
theorem dX8_faulty_94 : decode cX8_faulty 94 = .ok (.aload_n 0, 1) := by decide +kernel
set_option maxRecDepth 20000 in
theorem dX8_faulty_95 : decode cX8_faulty 95 = .ok (.bipush 60, 2) := by decide +kernel
set_option maxRecDepth 20000 in
theorem dX8_faulty_97 : decode cX8_faulty 97 = .ok (.invokevirtual 145, 3) := by decide +kernel
set_option maxRecDepth 20000 in
theorem dX8_faulty_100 : decode cX8_faulty 100 = .ok (.ifCond .eq 13, 3) := by decide +kernel
set_option maxRecDepth 20000 in
theorem dX8_faulty_103 : decode cX8_faulty 103 = .ok (.aload_n 0, 1) := by decide +kernel
set_option maxRecDepth 20000 in
theorem dX8_faulty_104 : decode cX8_faulty 104 = .ok (.iconst 1, 1) := by decide +kernel
set_option maxRecDepth 20000 in
theorem dX8_faulty_105 : decode cX8_faulty 105 = .ok (.iconst 0, 1) := by decide +kernel
set_option maxRecDepth 20000 in
theorem dX8_faulty_106 : decode cX8_faulty 106 = .ok (.iconst 5, 1) := by decide +kernel
set_option maxRecDepth 20000 in
theorem dX8_faulty_107 : decode cX8_faulty 107 = .ok (.invokevirtual 152, 3) := by decide +kernel
set_option maxRecDepth 20000 in
theorem dX8_faulty_110 : decode cX8_faulty 110 = .ok (.goto 4, 3) := by decide +kernel
set_option maxRecDepth 20000 in
theorem dX8_faulty_113 : decode cX8_faulty 113 = .ok (.iconst (-1), 1) := by decide +kernel
set_option maxRecDepth 20000 in
theorem dX8_faulty_114 : decode cX8_faulty 114 = .ok (.iastore, 1) := by decide +kernel
set_option maxRecDepth 20000 in
theorem dX8_faulty_115 : decode cX8_faulty 115 = .ok (.aload_n 0, 1) := by decide +kernel
set_option maxRecDepth 20000 in
theorem dX8_faulty_116 : decode cX8_faulty 116 = .ok (.getfield 20, 3) := by decide +kernel
set_option maxRecDepth 20000 in
theorem dX8_faulty_119 : decode cX8_faulty 119 = .ok (.iconst 4, 1) := by decide +kernel
set_option maxRecDepth 20000 in
theorem dX8_faulty_120 : decode cX8_faulty 120 = .ok (.aload_n 0, 1) := by decide +kernel
set_option maxRecDepth 20000 in
theorem dX8_faulty_121 : decode cX8_faulty 121 = .ok (.bipush 64, 2) := by decide +kernel
set_option maxRecDepth 20000 in
theorem dX8_faulty_123 : decode cX8_faulty 123 = .ok (.invokevirtual 145, 3) := by decide +kernel
set_option maxRecDepth 20000 in
theorem dX8_faulty_126 : decode cX8_faulty 126 = .ok (.ifCond .eq 20, 3) := by decide +kernel
set_option maxRecDepth 20000 in
theorem dX8_faulty_129 : decode cX8_faulty 129 = .ok (.aload_n 0, 1) := by decide +kernel
set_option maxRecDepth 20000 in
theorem dX8_faulty_130 : decode cX8_faulty 130 = .ok (.iconst 2, 1) := by decide +kernel
set_option maxRecDepth 20000 in
theorem dX8_faulty_131 : decode cX8_faulty 131 = .ok (.iconst 0, 1) := by decide +kernel
set_option maxRecDepth 20000 in
theorem dX8_faulty_132 : decode cX8_faulty 132 = .ok (.aload_n 0, 1) := by decide +kernel
set_option maxRecDepth 20000 in
theorem dX8_faulty_133 : decode cX8_faulty 133 = .ok (.getfield 7, 3) := by decide +kernel
set_option maxRecDepth 20000 in
theorem dX8_faulty_136 : decode cX8_faulty 136 = .ok (.iconst 0, 1) := by decide +kernel
set_option maxRecDepth 20000 in
theorem dX8_faulty_137 : decode cX8_faulty 137 = .ok (.iaload, 1) := by decide +kernel
set_option maxRecDepth 20000 in
theorem dX8_faulty_138 : decode cX8_faulty 138 = .ok (.iconst 1, 1) := by decide +kernel
set_option maxRecDepth 20000 in
theorem dX8_faulty_139 : decode cX8_faulty 139 = .ok (.isub, 1) := by decide +kernel
set_option maxRecDepth 20000 in
theorem dX8_faulty_140 : decode cX8_faulty 140 = .ok (.invokevirtual 152, 3) := by decide +kernel
set_option maxRecDepth 20000 in
theorem dX8_faulty_143 : decode cX8_faulty 143 = .ok (.goto 4, 3) := by decide +kernel
set_option maxRecDepth 20000 in
theorem dX8_faulty_146 : decode cX8_faulty 146 = .ok (.iconst (-1), 1) := by decide +kernel
set_option maxRecDepth 20000 in
theorem dX8_faulty_147 : decode cX8_faulty 147 = .ok (.iastore, 1) := by decide +kernel
set_option maxRecDepth 20000 in
theorem dX8_faulty_148 : decode cX8_faulty 148 = .ok (.aload_n 0, 1) := by decide +kernel
set_option maxRecDepth 20000 in
theorem dX8_faulty_149 : decode cX8_faulty 149 = .ok (.getfield 20, 3) := by decide +kernel
set_option maxRecDepth 20000 in
theorem dX8_faulty_152 : decode cX8_faulty 152 = .ok (.iconst 3, 1) := by decide +kernel
set_option maxRecDepth 20000 in
theorem dX8_faulty_153 : decode cX8_faulty 153 = .ok (.aload_n 0, 1) := by decide +kernel
set_option maxRecDepth 20000 in
theorem dX8_faulty_154 : decode cX8_faulty 154 = .ok (.bipush 76, 2) := by decide +kernel
set_option maxRecDepth 20000 in
theorem dX8_faulty_156 : decode cX8_faulty 156 = .ok (.invokevirtual 145, 3) := by decide +kernel
set_option maxRecDepth 20000 in
theorem dX8_faulty_159 : decode cX8_faulty 159 = .ok (.ifCond .eq 13, 3) := by decide +kernel
set_option maxRecDepth 20000 in
theorem dX8_faulty_162 : decode cX8_faulty 162 = .ok (.aload_n 0, 1) := by decide +kernel
set_option maxRecDepth 20000 in
theorem dX8_faulty_163 : decode cX8_faulty 163 = .ok (.iconst 1, 1) := by decide +kernel
set_option maxRecDepth 20000 in
theorem dX8_faulty_164 : decode cX8_faulty 164 = .ok (.iconst 0, 1) := by decide +kernel
set_option maxRecDepth 20000 in
theorem dX8_faulty_165 : decode cX8_faulty 165 = .ok (.iconst 3, 1) := by decide +kernel
set_option maxRecDepth 20000 in
theorem dX8_faulty_166 : decode cX8_faulty 166 = .ok (.invokevirtual 152, 3) := by decide +kernel
set_option maxRecDepth 20000 in
theorem dX8_faulty_169 : decode cX8_faulty 169 = .ok (.goto 4, 3) := by decide +kernel
set_option maxRecDepth 20000 in
theorem dX8_faulty_172 : decode cX8_faulty 172 = .ok (.iconst 0, 1) := by decide +kernel
set_option maxRecDepth 20000 in
theorem dX8_faulty_173 : decode cX8_faulty 173 = .ok (.iastore, 1) := by decide +kernel
set_option maxRecDepth 20000 in
theorem dX8_faulty_174 : decode cX8_faulty 174 = .ok (.aload_n 0, 1) := by decide +kernel
set_option maxRecDepth 20000 in
theorem dX8_faulty_175 : decode cX8_faulty 175 = .ok (.getfield 20, 3) := by decide +kernel
set_option maxRecDepth 20000 in
theorem dX8_faulty_178 : decode cX8_faulty 178 = .ok (.iconst 5, 1) := by decide +kernel
set_option maxRecDepth 20000 in
theorem dX8_faulty_179 : decode cX8_faulty 179 = .ok (.aload_n 0, 1) := by decide +kernel
set_option maxRecDepth 20000 in
theorem dX8_faulty_180 : decode cX8_faulty 180 = .ok (.bipush 33, 2) := by decide +kernel
set_option maxRecDepth 20000 in
theorem dX8_faulty_182 : decode cX8_faulty 182 = .ok (.invokevirtual 145, 3) := by decide +kernel
set_option maxRecDepth 20000 in
theorem dX8_faulty_185 : decode cX8_faulty 185 = .ok (.ifCond .eq 7, 3) := by decide +kernel
set_option maxRecDepth 20000 in
theorem dX8_faulty_188 : decode cX8_faulty 188 = .ok (.iconst 1, 1) := by decide +kernel
set_option maxRecDepth 20000 in
theorem dX8_faulty_189 : decode cX8_faulty 189 = .ok (.goto 4, 3) := by decide +kernel
set_option maxRecDepth 20000 in
theorem dX8_faulty_192 : decode cX8_faulty 192 = .ok (.iconst 0, 1) := by decide +kernel
set_option maxRecDepth 20000 in
theorem dX8_faulty_193 : decode cX8_faulty 193 = .ok (.iastore, 1) := by decide +kernel
set_option maxRecDepth 20000 in
theorem dX8_faulty_194 : decode cX8_faulty 194 = .ok (.aload_n 0, 1) := by decide +kernel
set_option maxRecDepth 20000 in
theorem dX8_faulty_195 : decode cX8_faulty 195 = .ok (.bipush 123, 2) := by decide +kernel
set_option maxRecDepth 20000 in
theorem dX8_faulty_197 : decode cX8_faulty 197 = .ok (.invokevirtual 155, 3) := by decide +kernel
set_option maxRecDepth 20000 in
theorem dX8_faulty_200 : decode cX8_faulty 200 = .ok (.aload_n 0, 1) := by decide +kernel
set_option maxRecDepth 20000 in
theorem dX8_faulty_201 : decode cX8_faulty 201 = .ok (.getfield 138, 3) := by decide +kernel
set_option maxRecDepth 20000 in
theorem dX8_faulty_204 : decode cX8_faulty 204 = .ok (.ifCond .ne 35, 3) := by decide +kernel
set_option maxRecDepth 20000 in
theorem dX8_faulty_207 : decode cX8_faulty 207 = .ok (.aload_n 0, 1) := by decide +kernel
set_option maxRecDepth 20000 in
theorem dX8_faulty_208 : decode cX8_faulty 208 = .ok (.getfield 142, 3) := by decide +kernel
set_option maxRecDepth 20000 in
theorem dX8_faulty_211 : decode cX8_faulty 211 = .ok (.aload_n 0, 1) := by decide +kernel
set_option maxRecDepth 20000 in
theorem dX8_faulty_212 : decode cX8_faulty 212 = .ok (.getfield 85, 3) := by decide +kernel
set_option maxRecDepth 20000 in
theorem dX8_faulty_215 : decode cX8_faulty 215 = .ok (.if_icmp .ge 17, 3) := by decide +kernel
set_option maxRecDepth 20000 in
theorem dX8_faulty_218 : decode cX8_faulty 218 = .ok (.aload_n 0, 1) := by decide +kernel
set_option maxRecDepth 20000 in
theorem dX8_faulty_219 : decode cX8_faulty 219 = .ok (.getfield 16, 3) := by decide +kernel
set_option maxRecDepth 20000 in
theorem dX8_faulty_222 : decode cX8_faulty 222 = .ok (.aload_n 0, 1) := by decide +kernel
set_option maxRecDepth 20000 in
theorem dX8_faulty_223 : decode cX8_faulty 223 = .ok (.getfield 142, 3) := by decide +kernel
set_option maxRecDepth 20000 in
theorem dX8_faulty_226 : decode cX8_faulty 226 = .ok (.caload, 1) := by decide +kernel
set_option maxRecDepth 20000 in
theorem dX8_faulty_227 : decode cX8_faulty 227 = .ok (.bipush 125, 2) := by decide +kernel
set_option maxRecDepth 20000 in
theorem dX8_faulty_229 : decode cX8_faulty 229 = .ok (.if_icmp .eq 10, 3) := by decide +kernel
set_option maxRecDepth 20000 in
theorem dX8_faulty_232 : decode cX8_faulty 232 = .ok (.aload_n 0, 1) := by decide +kernel
set_option maxRecDepth 20000 in
theorem dX8_faulty_233 : decode cX8_faulty 233 = .ok (.invokevirtual 159, 3) := by decide +kernel
set_option maxRecDepth 20000 in
theorem dX8_faulty_236 : decode cX8_faulty 236 = .ok (.goto (-36), 3) := by decide +kernel
set_option maxRecDepth 20000 in
theorem dX8_faulty_239 : decode cX8_faulty 239 = .ok (.aload_n 0, 1) := by decide +kernel
set_option maxRecDepth 20000 in
theorem dX8_faulty_240 : decode cX8_faulty 240 = .ok (.bipush 125, 2) := by decide +kernel
set_option maxRecDepth 20000 in
theorem dX8_faulty_242 : decode cX8_faulty 242 = .ok (.invokevirtual 155, 3) := by decide +kernel
set_option maxRecDepth 20000 in
theorem dX8_faulty_245 : decode cX8_faulty 245 = .ok (.aload_n 0, 1) := by decide +kernel
set_option maxRecDepth 20000 in
theorem dX8_faulty_246 : decode cX8_faulty 246 = .ok (.getfield 138, 3) := by decide +kernel
set_option maxRecDepth 20000 in
theorem dX8_faulty_249 : decode cX8_faulty 249 = .ok (.ifCond .ne 14, 3) := by decide +kernel
set_option maxRecDepth 20000 in
theorem dX8_faulty_252 : decode cX8_faulty 252 = .ok (.aload_n 0, 1) := by decide +kernel
set_option maxRecDepth 20000 in
theorem dX8_faulty_253 : decode cX8_faulty 253 = .ok (.getfield 142, 3) := by decide +kernel
set_option maxRecDepth 20000 in
theorem dX8_faulty_256 : decode cX8_faulty 256 = .ok (.aload_n 0, 1) := by decide +kernel
set_option maxRecDepth 20000 in
theorem dX8_faulty_257 : decode cX8_faulty 257 = .ok (.getfield 85, 3) := by decide +kernel
set_option maxRecDepth 20000 in
theorem dX8_faulty_260 : decode cX8_faulty 260 = .ok (.if_icmp .ge 10, 3) := by decide +kernel
set_option maxRecDepth 20000 in
theorem dX8_faulty_263 : decode cX8_faulty 263 = .ok (.aload_n 0, 1) := by decide +kernel
set_option maxRecDepth 20000 in
theorem dX8_faulty_264 : decode cX8_faulty 264 = .ok (.getfield 142, 3) := by decide +kernel
set_option maxRecDepth 20000 in
theorem dX8_faulty_267 : decode cX8_faulty 267 = .ok (.goto 20, 3) := by decide +kernel
set_option maxRecDepth 20000 in
theorem dX8_faulty_270 : decode cX8_faulty 270 = .ok (.aload_n 0, 1) := by decide +kernel
set_option maxRecDepth 20000 in
theorem dX8_faulty_271 : decode cX8_faulty 271 = .ok (.getfield 149, 3) := by decide +kernel
set_option maxRecDepth 20000 in
theorem dX8_faulty_274 : decode cX8_faulty 274 = .ok (.iconst (-1), 1) := by decide +kernel
set_option maxRecDepth 20000 in
theorem dX8_faulty_275 : decode cX8_faulty 275 = .ok (.if_icmp .ne 8, 3) := by decide +kernel
set_option maxRecDepth 20000 in
theorem dX8_faulty_278 : decode cX8_faulty 278 = .ok (.bipush (-14), 2) := by decide +kernel
set_option maxRecDepth 20000 in
theorem dX8_faulty_280 : decode cX8_faulty 280 = .ok (.goto 7, 3) := by decide +kernel
set_option maxRecDepth 20000 in
theorem dX8_faulty_283 : decode cX8_faulty 283 = .ok (.aload_n 0, 1) := by decide +kernel
set_option maxRecDepth 20000 in
theorem dX8_faulty_284 : decode cX8_faulty 284 = .ok (.getfield 149, 3) := by decide +kernel
set_option maxRecDepth 20000 in
theorem dX8_faulty_287 : decode cX8_faulty 287 = .ok (.ireturn, 1) := by decide +kernel
set_option maxRecDepth 20000 in
theorem dX8_fault_0 : decode cX8_fault 0 = .ok (.aload_n 0, 1) := by decide +kernel
set_option maxRecDepth 20000 in
theorem dX8_fault_1 : decode cX8_fault 1 = .ok (.invokevirtual 162, 3) := by decide +kernel
set_option maxRecDepth 20000 in
theorem dX8_fault_4 : decode cX8_fault 4 = .ok (.ireturn, 1) := by decide +kernel
set_option maxRecDepth 20000 in
theorem dX8_read_0 : decode cX8_read 0 = .ok (.aload_n 0, 1) := by decide +kernel
set_option maxRecDepth 20000 in
theorem dX8_read_1 : decode cX8_read 1 = .ok (.invokevirtual 162, 3) := by decide +kernel
set_option maxRecDepth 20000 in
theorem dX8_read_4 : decode cX8_read 4 = .ok (.bipush (-14), 2) := by decide +kernel
set_option maxRecDepth 20000 in
theorem dX8_read_6 : decode cX8_read 6 = .ok (.if_icmp .eq 6, 3) := by decide +kernel
set_option maxRecDepth 20000 in
theorem dX8_read_9 : decode cX8_read 9 = .ok (.bipush (-12), 2) := by decide +kernel
set_option maxRecDepth 20000 in
theorem dX8_read_11 : decode cX8_read 11 = .ok (.ireturn, 1) := by decide +kernel
set_option maxRecDepth 20000 in
theorem dX8_read_12 : decode cX8_read 12 = .ok (.aload_n 0, 1) := by decide +kernel
set_option maxRecDepth 20000 in
theorem dX8_read_13 : decode cX8_read 13 = .ok (.getfield 7, 3) := by decide +kernel
set_option maxRecDepth 20000 in
theorem dX8_read_16 : decode cX8_read 16 = .ok (.iconst 1, 1) := by decide +kernel
set_option maxRecDepth 20000 in
theorem dX8_read_17 : decode cX8_read 17 = .ok (.iaload, 1) := by decide +kernel
set_option maxRecDepth 20000 in
theorem dX8_read_18 : decode cX8_read 18 = .ok (.bipush 16, 2) := by decide +kernel
set_option maxRecDepth 20000 in
theorem dX8_read_20 : decode cX8_read 20 = .ok (.if_icmp .ne 6, 3) := by decide +kernel
set_option maxRecDepth 20000 in
theorem dX8_read_23 : decode cX8_read 23 = .ok (.bipush (-13), 2) := by decide +kernel
set_option maxRecDepth 20000 in
theorem dX8_read_25 : decode cX8_read 25 = .ok (.ireturn, 1) := by decide +kernel
set_option maxRecDepth 20000 in
theorem dX8_read_26 : decode cX8_read 26 = .ok (.aload_n 0, 1) := by decide +kernel
set_option maxRecDepth 20000 in
theorem dX8_read_27 : decode cX8_read 27 = .ok (.invokevirtual 55, 3) := by decide +kernel
set_option maxRecDepth 20000 in
theorem dX8_read_30 : decode cX8_read 30 = .ok (.aload_n 0, 1) := by decide +kernel
set_option maxRecDepth 20000 in
theorem dX8_read_31 : decode cX8_read 31 = .ok (.aload_n 0, 1) := by decide +kernel
set_option maxRecDepth 20000 in
theorem dX8_read_32 : decode cX8_read 32 = .ok (.getfield 20, 3) := by decide +kernel
set_option maxRecDepth 20000 in
theorem dX8_read_35 : decode cX8_read 35 = .ok (.iconst 0, 1) := by decide +kernel
set_option maxRecDepth 20000 in
theorem dX8_read_36 : decode cX8_read 36 = .ok (.iaload, 1) := by decide +kernel
set_option maxRecDepth 20000 in
theorem dX8_read_37 : decode cX8_read 37 = .ok (.aload_n 0, 1) := by decide +kernel
set_option maxRecDepth 20000 in
theorem dX8_read_38 : decode cX8_read 38 = .ok (.getfield 20, 3) := by decide +kernel
set_option maxRecDepth 20000 in
theorem dX8_read_41 : decode cX8_read 41 = .ok (.iconst 1, 1) := by decide +kernel
set_option maxRecDepth 20000 in
theorem dX8_read_42 : decode cX8_read 42 = .ok (.iaload, 1) := by decide +kernel
set_option maxRecDepth 20000 in
theorem dX8_read_43 : decode cX8_read 43 = .ok (.aload_n 0, 1) := by decide +kernel
set_option maxRecDepth 20000 in
theorem dX8_read_44 : decode cX8_read 44 = .ok (.getfield 20, 3) := by decide +kernel
set_option maxRecDepth 20000 in
theorem dX8_read_47 : decode cX8_read 47 = .ok (.iconst 2, 1) := by decide +kernel
set_option maxRecDepth 20000 in
theorem dX8_read_48 : decode cX8_read 48 = .ok (.iaload, 1) := by decide +kernel
set_option maxRecDepth 20000 in
theorem dX8_read_49 : decode cX8_read 49 = .ok (.aload_n 0, 1) := by decide +kernel
set_option maxRecDepth 20000 in
theorem dX8_read_50 : decode cX8_read 50 = .ok (.getfield 20, 3) := by decide +kernel
set_option maxRecDepth 20000 in
theorem dX8_read_53 : decode cX8_read 53 = .ok (.iconst 3, 1) := by decide +kernel
set_option maxRecDepth 20000 in
theorem dX8_read_54 : decode cX8_read 54 = .ok (.iaload, 1) := by decide +kernel
set_option maxRecDepth 20000 in
theorem dX8_read_55 : decode cX8_read 55 = .ok (.aload_n 0, 1) := by decide +kernel
set_option maxRecDepth 20000 in
theorem dX8_read_56 : decode cX8_read 56 = .ok (.getfield 20, 3) := by decide +kernel
set_option maxRecDepth 20000 in
theorem dX8_read_59 : decode cX8_read 59 = .ok (.iconst 4, 1) := by decide +kernel
set_option maxRecDepth 20000 in
theorem dX8_read_60 : decode cX8_read 60 = .ok (.iaload, 1) := by decide +kernel
set_option maxRecDepth 20000 in
theorem dX8_read_61 : decode cX8_read 61 = .ok (.aload_n 0, 1) := by decide +kernel
set_option maxRecDepth 20000 in
theorem dX8_read_62 : decode cX8_read 62 = .ok (.getfield 20, 3) := by decide +kernel
set_option maxRecDepth 20000 in
theorem dX8_read_65 : decode cX8_read 65 = .ok (.iconst 5, 1) := by decide +kernel
set_option maxRecDepth 20000 in
theorem dX8_read_66 : decode cX8_read 66 = .ok (.iaload, 1) := by decide +kernel
set_option maxRecDepth 20000 in
theorem dX8_read_67 : decode cX8_read 67 = .ok (.invokevirtual 91, 3) := by decide +kernel
set_option maxRecDepth 20000 in
theorem dX8_read_70 : decode cX8_read 70 = .ok (.istore_n 1, 1) := by decide +kernel
set_option maxRecDepth 20000 in
theorem dX8_read_71 : decode cX8_read 71 = .ok (.iconst 0, 1) := by decide +kernel
set_option maxRecDepth 20000 in
theorem dX8_read_72 : decode cX8_read 72 = .ok (.istore_n 2, 1) := by decide +kernel
set_option maxRecDepth 20000 in
theorem dX8_read_73 : decode cX8_read 73 = .ok (.iload_n 2, 1) := by decide +kernel
set_option maxRecDepth 20000 in
theorem dX8_read_74 : decode cX8_read 74 = .ok (.bipush 48, 2) := by decide +kernel
set_option maxRecDepth 20000 in
theorem dX8_read_76 : decode cX8_read 76 = .ok (.if_icmp .ge 27, 3) := by decide +kernel
set_option maxRecDepth 20000 in
theorem dX8_read_79 : decode cX8_read 79 = .ok (.aload_n 0, 1) := by decide +kernel
set_option maxRecDepth 20000 in
theorem dX8_read_80 : decode cX8_read 80 = .ok (.getfield 7, 3) := by decide +kernel
set_option maxRecDepth 20000 in
theorem dX8_read_83 : decode cX8_read 83 = .ok (.iload_n 1, 1) := by decide +kernel
set_option maxRecDepth 20000 in
theorem dX8_read_84 : decode cX8_read 84 = .ok (.iconst 0, 1) := by decide +kernel
set_option maxRecDepth 20000 in
theorem dX8_read_85 : decode cX8_read 85 = .ok (.invokestatic 78, 3) := by decide +kernel
set_option maxRecDepth 20000 in
theorem dX8_read_88 : decode cX8_read 88 = .ok (.iload_n 2, 1) := by decide +kernel
set_option maxRecDepth 20000 in
theorem dX8_read_89 : decode cX8_read 89 = .ok (.iadd, 1) := by decide +kernel
set_option maxRecDepth 20000 in
theorem dX8_read_90 : decode cX8_read 90 = .ok (.aload_n 0, 1) := by decide +kernel
set_option maxRecDepth 20000 in
theorem dX8_read_91 : decode cX8_read 91 = .ok (.getfield 23, 3) := by decide +kernel
set_option maxRecDepth 20000 in
theorem dX8_read_94 : decode cX8_read 94 = .ok (.iload_n 2, 1) := by decide +kernel
set_option maxRecDepth 20000 in
theorem dX8_read_95 : decode cX8_read 95 = .ok (.iaload, 1) := by decide +kernel
set_option maxRecDepth 20000 in
theorem dX8_read_96 : decode cX8_read 96 = .ok (.iastore, 1) := by decide +kernel
set_option maxRecDepth 20000 in
theorem dX8_read_97 : decode cX8_read 97 = .ok (.iinc 2 1, 3) := by decide +kernel
set_option maxRecDepth 20000 in
theorem dX8_read_100 : decode cX8_read 100 = .ok (.goto (-27), 3) := by decide +kernel
set_option maxRecDepth 20000 in
theorem dX8_read_103 : decode cX8_read 103 = .ok (.iload_n 1, 1) := by decide +kernel
set_option maxRecDepth 20000 in
theorem dX8_read_104 : decode cX8_read 104 = .ok (.ireturn, 1) := by decide +kernel
set_option maxRecDepth 20000 in
theorem dJ6_bitCount_0f7a4_0 : decode cJ6_bitCount_0f7a4 0 = .ok (.iload_n 0, 1) := by decide +kernel
set_option maxRecDepth 20000 in
theorem dJ6_bitCount_0f7a4_1 : decode cJ6_bitCount_0f7a4 1 = .ok (.iload_n 0, 1) := by decide +kernel
set_option maxRecDepth 20000 in
theorem dJ6_bitCount_0f7a4_2 : decode cJ6_bitCount_0f7a4 2 = .ok (.iconst 1, 1) := by decide +kernel
set_option maxRecDepth 20000 in
theorem dJ6_bitCount_0f7a4_3 : decode cJ6_bitCount_0f7a4 3 = .ok (.iushr, 1) := by decide +kernel
set_option maxRecDepth 20000 in
theorem dJ6_bitCount_0f7a4_4 : decode cJ6_bitCount_0f7a4 4 = .ok (.ldc_w 265, 3) := by decide +kernel
set_option maxRecDepth 20000 in
theorem dJ6_bitCount_0f7a4_7 : decode cJ6_bitCount_0f7a4 7 = .ok (.iand, 1) := by decide +kernel
set_option maxRecDepth 20000 in
theorem dJ6_bitCount_0f7a4_8 : decode cJ6_bitCount_0f7a4 8 = .ok (.isub, 1) := by decide +kernel
set_option maxRecDepth 20000 in
theorem dJ6_bitCount_0f7a4_9 : decode cJ6_bitCount_0f7a4 9 = .ok (.istore_n 0, 1) := by decide +kernel
set_option maxRecDepth 20000 in
theorem dJ6_bitCount_0f7a4_10 : decode cJ6_bitCount_0f7a4 10 = .ok (.iload_n 0, 1) := by decide +kernel
set_option maxRecDepth 20000 in
theorem dJ6_bitCount_0f7a4_11 : decode cJ6_bitCount_0f7a4 11 = .ok (.ldc_w 266, 3) := by decide +kernel
set_option maxRecDepth 20000 in
theorem dJ6_bitCount_0f7a4_14 : decode cJ6_bitCount_0f7a4 14 = .ok (.iand, 1) := by decide +kernel
set_option maxRecDepth 20000 in
theorem dJ6_bitCount_0f7a4_15 : decode cJ6_bitCount_0f7a4 15 = .ok (.iload_n 0, 1) := by decide +kernel
set_option maxRecDepth 20000 in
theorem dJ6_bitCount_0f7a4_16 : decode cJ6_bitCount_0f7a4 16 = .ok (.iconst 2, 1) := by decide +kernel
set_option maxRecDepth 20000 in
theorem dJ6_bitCount_0f7a4_17 : decode cJ6_bitCount_0f7a4 17 = .ok (.iushr, 1) := by decide +kernel
set_option maxRecDepth 20000 in
theorem dJ6_bitCount_0f7a4_18 : decode cJ6_bitCount_0f7a4 18 = .ok (.ldc_w 266, 3) := by decide +kernel
set_option maxRecDepth 20000 in
theorem dJ6_bitCount_0f7a4_21 : decode cJ6_bitCount_0f7a4 21 = .ok (.iand, 1) := by decide +kernel
set_option maxRecDepth 20000 in
theorem dJ6_bitCount_0f7a4_22 : decode cJ6_bitCount_0f7a4 22 = .ok (.iadd, 1) := by decide +kernel
set_option maxRecDepth 20000 in
theorem dJ6_bitCount_0f7a4_23 : decode cJ6_bitCount_0f7a4 23 = .ok (.istore_n 0, 1) := by decide +kernel
set_option maxRecDepth 20000 in
theorem dJ6_bitCount_0f7a4_24 : decode cJ6_bitCount_0f7a4 24 = .ok (.iload_n 0, 1) := by decide +kernel
set_option maxRecDepth 20000 in
theorem dJ6_bitCount_0f7a4_25 : decode cJ6_bitCount_0f7a4 25 = .ok (.iload_n 0, 1) := by decide +kernel
set_option maxRecDepth 20000 in
theorem dJ6_bitCount_0f7a4_26 : decode cJ6_bitCount_0f7a4 26 = .ok (.iconst 4, 1) := by decide +kernel
set_option maxRecDepth 20000 in
theorem dJ6_bitCount_0f7a4_27 : decode cJ6_bitCount_0f7a4 27 = .ok (.iushr, 1) := by decide +kernel
set_option maxRecDepth 20000 in
theorem dJ6_bitCount_0f7a4_28 : decode cJ6_bitCount_0f7a4 28 = .ok (.iadd, 1) := by decide +kernel
set_option maxRecDepth 20000 in
theorem dJ6_bitCount_0f7a4_29 : decode cJ6_bitCount_0f7a4 29 = .ok (.ldc_w 267, 3) := by decide +kernel
set_option maxRecDepth 20000 in
theorem dJ6_bitCount_0f7a4_32 : decode cJ6_bitCount_0f7a4 32 = .ok (.iand, 1) := by decide +kernel
set_option maxRecDepth 20000 in
theorem dJ6_bitCount_0f7a4_33 : decode cJ6_bitCount_0f7a4 33 = .ok (.istore_n 0, 1) := by decide +kernel
set_option maxRecDepth 20000 in
theorem dJ6_bitCount_0f7a4_34 : decode cJ6_bitCount_0f7a4 34 = .ok (.iload_n 0, 1) := by decide +kernel
set_option maxRecDepth 20000 in
theorem dJ6_bitCount_0f7a4_35 : decode cJ6_bitCount_0f7a4 35 = .ok (.iload_n 0, 1) := by decide +kernel
set_option maxRecDepth 20000 in
theorem dJ6_bitCount_0f7a4_36 : decode cJ6_bitCount_0f7a4 36 = .ok (.bipush 8, 2) := by decide +kernel
set_option maxRecDepth 20000 in
theorem dJ6_bitCount_0f7a4_38 : decode cJ6_bitCount_0f7a4 38 = .ok (.iushr, 1) := by decide +kernel
set_option maxRecDepth 20000 in
theorem dJ6_bitCount_0f7a4_39 : decode cJ6_bitCount_0f7a4 39 = .ok (.iadd, 1) := by decide +kernel
set_option maxRecDepth 20000 in
theorem dJ6_bitCount_0f7a4_40 : decode cJ6_bitCount_0f7a4 40 = .ok (.istore_n 0, 1) := by decide +kernel
set_option maxRecDepth 20000 in
theorem dJ6_bitCount_0f7a4_41 : decode cJ6_bitCount_0f7a4 41 = .ok (.iload_n 0, 1) := by decide +kernel
set_option maxRecDepth 20000 in
theorem dJ6_bitCount_0f7a4_42 : decode cJ6_bitCount_0f7a4 42 = .ok (.iload_n 0, 1) := by decide +kernel
set_option maxRecDepth 20000 in
theorem dJ6_bitCount_0f7a4_43 : decode cJ6_bitCount_0f7a4 43 = .ok (.bipush 16, 2) := by decide +kernel
set_option maxRecDepth 20000 in
theorem dJ6_bitCount_0f7a4_45 : decode cJ6_bitCount_0f7a4 45 = .ok (.iushr, 1) := by decide +kernel
set_option maxRecDepth 20000 in
theorem dJ6_bitCount_0f7a4_46 : decode cJ6_bitCount_0f7a4 46 = .ok (.iadd, 1) := by decide +kernel
set_option maxRecDepth 20000 in
theorem dJ6_bitCount_0f7a4_47 : decode cJ6_bitCount_0f7a4 47 = .ok (.istore_n 0, 1) := by decide +kernel
set_option maxRecDepth 20000 in
theorem dJ6_bitCount_0f7a4_48 : decode cJ6_bitCount_0f7a4 48 = .ok (.iload_n 0, 1) := by decide +kernel
set_option maxRecDepth 20000 in
theorem dJ6_bitCount_0f7a4_49 : decode cJ6_bitCount_0f7a4 49 = .ok (.bipush 63, 2) := by decide +kernel
set_option maxRecDepth 20000 in
theorem dJ6_bitCount_0f7a4_51 : decode cJ6_bitCount_0f7a4 51 = .ok (.iand, 1) := by decide +kernel
set_option maxRecDepth 20000 in
theorem dJ6_bitCount_0f7a4_52 : decode cJ6_bitCount_0f7a4 52 = .ok (.ireturn, 1) := by decide +kernel
set_option maxRecDepth 20000 in
theorem dJ9_max_7cf53_0 : decode cJ9_max_7cf53 0 = .ok (.iload_n 0, 1) := by decide +kernel
set_option maxRecDepth 20000 in
theorem dJ9_max_7cf53_1 : decode cJ9_max_7cf53 1 = .ok (.iload_n 1, 1) := by decide +kernel
set_option maxRecDepth 20000 in
theorem dJ9_max_7cf53_2 : decode cJ9_max_7cf53 2 = .ok (.if_icmp .lt 7, 3) := by decide +kernel
set_option maxRecDepth 20000 in
theorem dJ9_max_7cf53_5 : decode cJ9_max_7cf53 5 = .ok (.iload_n 0, 1) := by decide +kernel
set_option maxRecDepth 20000 in
theorem dJ9_max_7cf53_6 : decode cJ9_max_7cf53 6 = .ok (.goto 4, 3) := by decide +kernel
set_option maxRecDepth 20000 in
theorem dJ9_max_7cf53_9 : decode cJ9_max_7cf53 9 = .ok (.iload_n 1, 1) := by decide +kernel
set_option maxRecDepth 20000 in
theorem dJ9_max_7cf53_10 : decode cJ9_max_7cf53 10 = .ok (.ireturn, 1) := by decide +kernel
set_option maxRecDepth 20000 in
theorem dJ9_min_7cf53_0 : decode cJ9_min_7cf53 0 = .ok (.iload_n 0, 1) := by decide +kernel
set_option maxRecDepth 20000 in
theorem dJ9_min_7cf53_1 : decode cJ9_min_7cf53 1 = .ok (.iload_n 1, 1) := by decide +kernel
set_option maxRecDepth 20000 in
theorem dJ9_min_7cf53_2 : decode cJ9_min_7cf53 2 = .ok (.if_icmp .gt 7, 3) := by decide +kernel
set_option maxRecDepth 20000 in
theorem dJ9_min_7cf53_5 : decode cJ9_min_7cf53 5 = .ok (.iload_n 0, 1) := by decide +kernel
set_option maxRecDepth 20000 in
theorem dJ9_min_7cf53_6 : decode cJ9_min_7cf53 6 = .ok (.goto 4, 3) := by decide +kernel
set_option maxRecDepth 20000 in
theorem dJ9_min_7cf53_9 : decode cJ9_min_7cf53 9 = .ok (.iload_n 1, 1) := by decide +kernel
set_option maxRecDepth 20000 in
theorem dJ9_min_7cf53_10 : decode cJ9_min_7cf53 10 = .ok (.ireturn, 1) := by decide +kernel
set_option maxRecDepth 20000 in
theorem dL_law_0 : decode cL_law 0 = .ok (.new 7, 3) := by decide +kernel
set_option maxRecDepth 20000 in
theorem dL_law_3 : decode cL_law 3 = .ok (.dup, 1) := by decide +kernel
set_option maxRecDepth 20000 in
theorem dL_law_4 : decode cL_law 4 = .ok (.invokespecial 9, 3) := by decide +kernel
set_option maxRecDepth 20000 in
theorem dL_law_7 : decode cL_law 7 = .ok (.astore_n 1, 1) := by decide +kernel
set_option maxRecDepth 20000 in
theorem dL_law_8 : decode cL_law 8 = .ok (.new 10, 3) := by decide +kernel
set_option maxRecDepth 20000 in
theorem dL_law_11 : decode cL_law 11 = .ok (.dup, 1) := by decide +kernel
set_option maxRecDepth 20000 in
theorem dL_law_12 : decode cL_law 12 = .ok (.invokespecial 12, 3) := by decide +kernel
set_option maxRecDepth 20000 in
theorem dL_law_15 : decode cL_law 15 = .ok (.astore_n 2, 1) := by decide +kernel
set_option maxRecDepth 20000 in
theorem dL_law_16 : decode cL_law 16 = .ok (.iconst 0, 1) := by decide +kernel
set_option maxRecDepth 20000 in
theorem dL_law_17 : decode cL_law 17 = .ok (.istore_n 3, 1) := by decide +kernel
set_option maxRecDepth 20000 in
theorem dL_law_18 : decode cL_law 18 = .ok (.iload_n 3, 1) := by decide +kernel
set_option maxRecDepth 20000 in
theorem dL_law_19 : decode cL_law 19 = .ok (.aload_n 0, 1) := by decide +kernel
set_option maxRecDepth 20000 in
theorem dL_law_20 : decode cL_law 20 = .ok (.arraylength, 1) := by decide +kernel
set_option maxRecDepth 20000 in
theorem dL_law_21 : decode cL_law 21 = .ok (.bipush 7, 2) := by decide +kernel
set_option maxRecDepth 20000 in
theorem dL_law_23 : decode cL_law 23 = .ok (.isub, 1) := by decide +kernel
set_option maxRecDepth 20000 in
theorem dL_law_24 : decode cL_law 24 = .ok (.if_icmp .gt 873, 3) := by decide +kernel
set_option maxRecDepth 20000 in
theorem dL_law_27 : decode cL_law 27 = .ok (.aload_n 0, 1) := by decide +kernel
set_option maxRecDepth 20000 in
theorem dL_law_28 : decode cL_law 28 = .ok (.iload_n 3, 1) := by decide +kernel
set_option maxRecDepth 20000 in
theorem dL_law_29 : decode cL_law 29 = .ok (.iaload, 1) := by decide +kernel
set_option maxRecDepth 20000 in
theorem dL_law_30 : decode cL_law 30 = .ok (.bipush 31, 2) := by decide +kernel
set_option maxRecDepth 20000 in
theorem dL_law_32 : decode cL_law 32 = .ok (.iand, 1) := by decide +kernel
set_option maxRecDepth 20000 in
theorem dL_law_33 : decode cL_law 33 = .ok (.tableswitch 858 0 22 #[107, 150, 163, 206, 239, 262, 275, 350, 373, 416, 469, 502, 535, 578, 611, 644, 677, 730, 763, 796, 819, 832, 845], 107) := by decide +kernel
set_option maxRecDepth 20000 in
theorem dL_law_140 : decode cL_law 140 = .ok (.aload_n 1, 1) := by decide +kernel
set_option maxRecDepth 20000 in
theorem dL_law_141 : decode cL_law 141 = .ok (.aload_n 0, 1) := by decide +kernel
set_option maxRecDepth 20000 in
theorem dL_law_142 : decode cL_law 142 = .ok (.iload_n 3, 1) := by decide +kernel
set_option maxRecDepth 20000 in
theorem dL_law_143 : decode cL_law 143 = .ok (.iconst 1, 1) := by decide +kernel
set_option maxRecDepth 20000 in
theorem dL_law_144 : decode cL_law 144 = .ok (.iadd, 1) := by decide +kernel
set_option maxRecDepth 20000 in
theorem dL_law_145 : decode cL_law 145 = .ok (.iaload, 1) := by decide +kernel
set_option maxRecDepth 20000 in
theorem dL_law_146 : decode cL_law 146 = .ok (.aload_n 0, 1) := by decide +kernel
set_option maxRecDepth 20000 in
theorem dL_law_147 : decode cL_law 147 = .ok (.iload_n 3, 1) := by decide +kernel
set_option maxRecDepth 20000 in
theorem dL_law_148 : decode cL_law 148 = .ok (.iconst 2, 1) := by decide +kernel
set_option maxRecDepth 20000 in
theorem dL_law_149 : decode cL_law 149 = .ok (.iadd, 1) := by decide +kernel
set_option maxRecDepth 20000 in
theorem dL_law_150 : decode cL_law 150 = .ok (.iaload, 1) := by decide +kernel
set_option maxRecDepth 20000 in
theorem dL_law_151 : decode cL_law 151 = .ok (.aload_n 0, 1) := by decide +kernel
set_option maxRecDepth 20000 in
theorem dL_law_152 : decode cL_law 152 = .ok (.iload_n 3, 1) := by decide +kernel
set_option maxRecDepth 20000 in
theorem dL_law_153 : decode cL_law 153 = .ok (.iconst 3, 1) := by decide +kernel
set_option maxRecDepth 20000 in
theorem dL_law_154 : decode cL_law 154 = .ok (.iadd, 1) := by decide +kernel
set_option maxRecDepth 20000 in
theorem dL_law_155 : decode cL_law 155 = .ok (.iaload, 1) := by decide +kernel
set_option maxRecDepth 20000 in
theorem dL_law_156 : decode cL_law 156 = .ok (.invokevirtual 13, 3) := by decide +kernel
set_option maxRecDepth 20000 in
theorem dL_law_159 : decode cL_law 159 = .ok (.aload_n 2, 1) := by decide +kernel
set_option maxRecDepth 20000 in
theorem dL_law_160 : decode cL_law 160 = .ok (.aload_n 0, 1) := by decide +kernel
set_option maxRecDepth 20000 in
theorem dL_law_161 : decode cL_law 161 = .ok (.iload_n 3, 1) := by decide +kernel
set_option maxRecDepth 20000 in
theorem dL_law_162 : decode cL_law 162 = .ok (.iconst 1, 1) := by decide +kernel
set_option maxRecDepth 20000 in
theorem dL_law_163 : decode cL_law 163 = .ok (.iadd, 1) := by decide +kernel
set_option maxRecDepth 20000 in
theorem dL_law_164 : decode cL_law 164 = .ok (.iaload, 1) := by decide +kernel
set_option maxRecDepth 20000 in
theorem dL_law_165 : decode cL_law 165 = .ok (.aload_n 0, 1) := by decide +kernel
set_option maxRecDepth 20000 in
theorem dL_law_166 : decode cL_law 166 = .ok (.iload_n 3, 1) := by decide +kernel
set_option maxRecDepth 20000 in
theorem dL_law_167 : decode cL_law 167 = .ok (.iconst 2, 1) := by decide +kernel
set_option maxRecDepth 20000 in
theorem dL_law_168 : decode cL_law 168 = .ok (.iadd, 1) := by decide +kernel
set_option maxRecDepth 20000 in
theorem dL_law_169 : decode cL_law 169 = .ok (.iaload, 1) := by decide +kernel
set_option maxRecDepth 20000 in
theorem dL_law_170 : decode cL_law 170 = .ok (.aload_n 0, 1) := by decide +kernel
set_option maxRecDepth 20000 in
theorem dL_law_171 : decode cL_law 171 = .ok (.iload_n 3, 1) := by decide +kernel
set_option maxRecDepth 20000 in
theorem dL_law_172 : decode cL_law 172 = .ok (.iconst 3, 1) := by decide +kernel
set_option maxRecDepth 20000 in
theorem dL_law_173 : decode cL_law 173 = .ok (.iadd, 1) := by decide +kernel
set_option maxRecDepth 20000 in
theorem dL_law_174 : decode cL_law 174 = .ok (.iaload, 1) := by decide +kernel
set_option maxRecDepth 20000 in
theorem dL_law_175 : decode cL_law 175 = .ok (.invokevirtual 17, 3) := by decide +kernel
set_option maxRecDepth 20000 in
theorem dL_law_178 : decode cL_law 178 = .ok (.if_icmp .eq 713, 3) := by decide +kernel
set_option maxRecDepth 20000 in
theorem dL_law_181 : decode cL_law 181 = .ok (.iconst 0, 1) := by decide +kernel
set_option maxRecDepth 20000 in
theorem dL_law_182 : decode cL_law 182 = .ok (.ireturn, 1) := by decide +kernel
set_option maxRecDepth 20000 in
theorem dL_law_183 : decode cL_law 183 = .ok (.aload_n 1, 1) := by decide +kernel
set_option maxRecDepth 20000 in
theorem dL_law_184 : decode cL_law 184 = .ok (.invokevirtual 18, 3) := by decide +kernel
set_option maxRecDepth 20000 in
theorem dL_law_187 : decode cL_law 187 = .ok (.aload_n 2, 1) := by decide +kernel
set_option maxRecDepth 20000 in
theorem dL_law_188 : decode cL_law 188 = .ok (.invokevirtual 22, 3) := by decide +kernel
set_option maxRecDepth 20000 in
theorem dL_law_191 : decode cL_law 191 = .ok (.if_icmp .eq 700, 3) := by decide +kernel
set_option maxRecDepth 20000 in
theorem dL_law_194 : decode cL_law 194 = .ok (.iconst 0, 1) := by decide +kernel
set_option maxRecDepth 20000 in
theorem dL_law_195 : decode cL_law 195 = .ok (.ireturn, 1) := by decide +kernel
set_option maxRecDepth 20000 in
theorem dL_law_196 : decode cL_law 196 = .ok (.aload_n 1, 1) := by decide +kernel
set_option maxRecDepth 20000 in
theorem dL_law_197 : decode cL_law 197 = .ok (.aload_n 0, 1) := by decide +kernel
set_option maxRecDepth 20000 in
theorem dL_law_198 : decode cL_law 198 = .ok (.iload_n 3, 1) := by decide +kernel
set_option maxRecDepth 20000 in
theorem dL_law_199 : decode cL_law 199 = .ok (.iconst 1, 1) := by decide +kernel
set_option maxRecDepth 20000 in
theorem dL_law_200 : decode cL_law 200 = .ok (.iadd, 1) := by decide +kernel
set_option maxRecDepth 20000 in
theorem dL_law_201 : decode cL_law 201 = .ok (.iaload, 1) := by decide +kernel
set_option maxRecDepth 20000 in
theorem dL_law_202 : decode cL_law 202 = .ok (.aload_n 0, 1) := by decide +kernel
set_option maxRecDepth 20000 in
theorem dL_law_203 : decode cL_law 203 = .ok (.iload_n 3, 1) := by decide +kernel
set_option maxRecDepth 20000 in
theorem dL_law_204 : decode cL_law 204 = .ok (.iconst 2, 1) := by decide +kernel
set_option maxRecDepth 20000 in
theorem dL_law_205 : decode cL_law 205 = .ok (.iadd, 1) := by decide +kernel
set_option maxRecDepth 20000 in
theorem dL_law_206 : decode cL_law 206 = .ok (.iaload, 1) := by decide +kernel
set_option maxRecDepth 20000 in
theorem dL_law_207 : decode cL_law 207 = .ok (.aload_n 0, 1) := by decide +kernel
set_option maxRecDepth 20000 in
theorem dL_law_208 : decode cL_law 208 = .ok (.iload_n 3, 1) := by decide +kernel
set_option maxRecDepth 20000 in
theorem dL_law_209 : decode cL_law 209 = .ok (.iconst 3, 1) := by decide +kernel
set_option maxRecDepth 20000 in
theorem dL_law_210 : decode cL_law 210 = .ok (.iadd, 1) := by decide +kernel
set_option maxRecDepth 20000 in
theorem dL_law_211 : decode cL_law 211 = .ok (.iaload, 1) := by decide +kernel
set_option maxRecDepth 20000 in
theorem dL_law_212 : decode cL_law 212 = .ok (.invokevirtual 23, 3) := by decide +kernel
set_option maxRecDepth 20000 in
theorem dL_law_215 : decode cL_law 215 = .ok (.aload_n 2, 1) := by decide +kernel
set_option maxRecDepth 20000 in
theorem dL_law_216 : decode cL_law 216 = .ok (.aload_n 0, 1) := by decide +kernel
set_option maxRecDepth 20000 in
theorem dL_law_217 : decode cL_law 217 = .ok (.iload_n 3, 1) := by decide +kernel
set_option maxRecDepth 20000 in
theorem dL_law_218 : decode cL_law 218 = .ok (.iconst 1, 1) := by decide +kernel
set_option maxRecDepth 20000 in
theorem dL_law_219 : decode cL_law 219 = .ok (.iadd, 1) := by decide +kernel
set_option maxRecDepth 20000 in
theorem dL_law_220 : decode cL_law 220 = .ok (.iaload, 1) := by decide +kernel
set_option maxRecDepth 20000 in
theorem dL_law_221 : decode cL_law 221 = .ok (.aload_n 0, 1) := by decide +kernel
set_option maxRecDepth 20000 in
theorem dL_law_222 : decode cL_law 222 = .ok (.iload_n 3, 1) := by decide +kernel
set_option maxRecDepth 20000 in
theorem dL_law_223 : decode cL_law 223 = .ok (.iconst 2, 1) := by decide +kernel
set_option maxRecDepth 20000 in
theorem dL_law_224 : decode cL_law 224 = .ok (.iadd, 1) := by decide +kernel
set_option maxRecDepth 20000 in
theorem dL_law_225 : decode cL_law 225 = .ok (.iaload, 1) := by decide +kernel
set_option maxRecDepth 20000 in
theorem dL_law_226 : decode cL_law 226 = .ok (.aload_n 0, 1) := by decide +kernel
set_option maxRecDepth 20000 in
theorem dL_law_227 : decode cL_law 227 = .ok (.iload_n 3, 1) := by decide +kernel
set_option maxRecDepth 20000 in
theorem dL_law_228 : decode cL_law 228 = .ok (.iconst 3, 1) := by decide +kernel
set_option maxRecDepth 20000 in
theorem dL_law_229 : decode cL_law 229 = .ok (.iadd, 1) := by decide +kernel
set_option maxRecDepth 20000 in
theorem dL_law_230 : decode cL_law 230 = .ok (.iaload, 1) := by decide +kernel
set_option maxRecDepth 20000 in
theorem dL_law_231 : decode cL_law 231 = .ok (.invokevirtual 26, 3) := by decide +kernel
set_option maxRecDepth 20000 in
theorem dL_law_234 : decode cL_law 234 = .ok (.if_icmp .eq 657, 3) := by decide +kernel
set_option maxRecDepth 20000 in
theorem dL_law_237 : decode cL_law 237 = .ok (.iconst 0, 1) := by decide +kernel
set_option maxRecDepth 20000 in
theorem dL_law_238 : decode cL_law 238 = .ok (.ireturn, 1) := by decide +kernel
set_option maxRecDepth 20000 in
theorem dL_law_239 : decode cL_law 239 = .ok (.aload_n 1, 1) := by decide +kernel
set_option maxRecDepth 20000 in
theorem dL_law_240 : decode cL_law 240 = .ok (.aload_n 0, 1) := by decide +kernel
set_option maxRecDepth 20000 in
theorem dL_law_241 : decode cL_law 241 = .ok (.iload_n 3, 1) := by decide +kernel
set_option maxRecDepth 20000 in
theorem dL_law_242 : decode cL_law 242 = .ok (.iconst 1, 1) := by decide +kernel
set_option maxRecDepth 20000 in
theorem dL_law_243 : decode cL_law 243 = .ok (.iadd, 1) := by decide +kernel
set_option maxRecDepth 20000 in
theorem dL_law_244 : decode cL_law 244 = .ok (.iaload, 1) := by decide +kernel
set_option maxRecDepth 20000 in
theorem dL_law_245 : decode cL_law 245 = .ok (.aload_n 0, 1) := by decide +kernel
set_option maxRecDepth 20000 in
theorem dL_law_246 : decode cL_law 246 = .ok (.iload_n 3, 1) := by decide +kernel
set_option maxRecDepth 20000 in
theorem dL_law_247 : decode cL_law 247 = .ok (.iconst 2, 1) := by decide +kernel
set_option maxRecDepth 20000 in
theorem dL_law_248 : decode cL_law 248 = .ok (.iadd, 1) := by decide +kernel
set_option maxRecDepth 20000 in
theorem dL_law_249 : decode cL_law 249 = .ok (.iaload, 1) := by decide +kernel
set_option maxRecDepth 20000 in
theorem dL_law_250 : decode cL_law 250 = .ok (.invokevirtual 27, 3) := by decide +kernel
set_option maxRecDepth 20000 in
theorem dL_law_253 : decode cL_law 253 = .ok (.aload_n 2, 1) := by decide +kernel
set_option maxRecDepth 20000 in
theorem dL_law_254 : decode cL_law 254 = .ok (.aload_n 0, 1) := by decide +kernel
set_option maxRecDepth 20000 in
theorem dL_law_255 : decode cL_law 255 = .ok (.iload_n 3, 1) := by decide +kernel
set_option maxRecDepth 20000 in
theorem dL_law_256 : decode cL_law 256 = .ok (.iconst 1, 1) := by decide +kernel
set_option maxRecDepth 20000 in
theorem dL_law_257 : decode cL_law 257 = .ok (.iadd, 1) := by decide +kernel
set_option maxRecDepth 20000 in
theorem dL_law_258 : decode cL_law 258 = .ok (.iaload, 1) := by decide +kernel
set_option maxRecDepth 20000 in
theorem dL_law_259 : decode cL_law 259 = .ok (.aload_n 0, 1) := by decide +kernel
set_option maxRecDepth 20000 in
theorem dL_law_260 : decode cL_law 260 = .ok (.iload_n 3, 1) := by decide +kernel
set_option maxRecDepth 20000 in
theorem dL_law_261 : decode cL_law 261 = .ok (.iconst 2, 1) := by decide +kernel
set_option maxRecDepth 20000 in
theorem dL_law_262 : decode cL_law 262 = .ok (.iadd, 1) := by decide +kernel
set_option maxRecDepth 20000 in
theorem dL_law_263 : decode cL_law 263 = .ok (.iaload, 1) := by decide +kernel
set_option maxRecDepth 20000 in
theorem dL_law_264 : decode cL_law 264 = .ok (.invokevirtual 31, 3) := by decide +kernel
set_option maxRecDepth 20000 in
theorem dL_law_267 : decode cL_law 267 = .ok (.if_icmp .eq 624, 3) := by decide +kernel
set_option maxRecDepth 20000 in
theorem dL_law_270 : decode cL_law 270 = .ok (.iconst 0, 1) := by decide +kernel
set_option maxRecDepth 20000 in
theorem dL_law_271 : decode cL_law 271 = .ok (.ireturn, 1) := by decide +kernel
set_option maxRecDepth 20000 in
theorem dL_law_272 : decode cL_law 272 = .ok (.aload_n 1, 1) := by decide +kernel
set_option maxRecDepth 20000 in
theorem dL_law_273 : decode cL_law 273 = .ok (.aload_n 0, 1) := by decide +kernel
set_option maxRecDepth 20000 in
theorem dL_law_274 : decode cL_law 274 = .ok (.iload_n 3, 1) := by decide +kernel
set_option maxRecDepth 20000 in
theorem dL_law_275 : decode cL_law 275 = .ok (.iconst 1, 1) := by decide +kernel
set_option maxRecDepth 20000 in
theorem dL_law_276 : decode cL_law 276 = .ok (.iadd, 1) := by decide +kernel
set_option maxRecDepth 20000 in
theorem dL_law_277 : decode cL_law 277 = .ok (.iaload, 1) := by decide +kernel
set_option maxRecDepth 20000 in
theorem dL_law_278 : decode cL_law 278 = .ok (.invokevirtual 32, 3) := by decide +kernel
set_option maxRecDepth 20000 in
theorem dL_law_281 : decode cL_law 281 = .ok (.aload_n 2, 1) := by decide +kernel
set_option maxRecDepth 20000 in
theorem dL_law_282 : decode cL_law 282 = .ok (.aload_n 0, 1) := by decide +kernel
set_option maxRecDepth 20000 in
theorem dL_law_283 : decode cL_law 283 = .ok (.iload_n 3, 1) := by decide +kernel
set_option maxRecDepth 20000 in
theorem dL_law_284 : decode cL_law 284 = .ok (.iconst 1, 1) := by decide +kernel
set_option maxRecDepth 20000 in
theorem dL_law_285 : decode cL_law 285 = .ok (.iadd, 1) := by decide +kernel
set_option maxRecDepth 20000 in
theorem dL_law_286 : decode cL_law 286 = .ok (.iaload, 1) := by decide +kernel
set_option maxRecDepth 20000 in
theorem dL_law_287 : decode cL_law 287 = .ok (.invokevirtual 36, 3) := by decide +kernel
set_option maxRecDepth 20000 in
theorem dL_law_290 : decode cL_law 290 = .ok (.if_icmp .eq 601, 3) := by decide +kernel
set_option maxRecDepth 20000 in
theorem dL_law_293 : decode cL_law 293 = .ok (.iconst 0, 1) := by decide +kernel
set_option maxRecDepth 20000 in
theorem dL_law_294 : decode cL_law 294 = .ok (.ireturn, 1) := by decide +kernel
set_option maxRecDepth 20000 in
theorem dL_law_295 : decode cL_law 295 = .ok (.aload_n 1, 1) := by decide +kernel
set_option maxRecDepth 20000 in
theorem dL_law_296 : decode cL_law 296 = .ok (.invokevirtual 37, 3) := by decide +kernel
set_option maxRecDepth 20000 in
theorem dL_law_299 : decode cL_law 299 = .ok (.aload_n 2, 1) := by decide +kernel
set_option maxRecDepth 20000 in
theorem dL_law_300 : decode cL_law 300 = .ok (.invokevirtual 40, 3) := by decide +kernel
set_option maxRecDepth 20000 in
theorem dL_law_303 : decode cL_law 303 = .ok (.if_icmp .eq 588, 3) := by decide +kernel
set_option maxRecDepth 20000 in
theorem dL_law_306 : decode cL_law 306 = .ok (.iconst 0, 1) := by decide +kernel
set_option maxRecDepth 20000 in
theorem dL_law_307 : decode cL_law 307 = .ok (.ireturn, 1) := by decide +kernel
set_option maxRecDepth 20000 in
theorem dL_law_308 : decode cL_law 308 = .ok (.aload_n 1, 1) := by decide +kernel
set_option maxRecDepth 20000 in
theorem dL_law_309 : decode cL_law 309 = .ok (.aload_n 0, 1) := by decide +kernel
set_option maxRecDepth 20000 in
theorem dL_law_310 : decode cL_law 310 = .ok (.iload_n 3, 1) := by decide +kernel
set_option maxRecDepth 20000 in
theorem dL_law_311 : decode cL_law 311 = .ok (.iconst 1, 1) := by decide +kernel
set_option maxRecDepth 20000 in
theorem dL_law_312 : decode cL_law 312 = .ok (.iadd, 1) := by decide +kernel
set_option maxRecDepth 20000 in
theorem dL_law_313 : decode cL_law 313 = .ok (.iaload, 1) := by decide +kernel
set_option maxRecDepth 20000 in
theorem dL_law_314 : decode cL_law 314 = .ok (.aload_n 0, 1) := by decide +kernel
set_option maxRecDepth 20000 in
theorem dL_law_315 : decode cL_law 315 = .ok (.iload_n 3, 1) := by decide +kernel
set_option maxRecDepth 20000 in
theorem dL_law_316 : decode cL_law 316 = .ok (.iconst 2, 1) := by decide +kernel
set_option maxRecDepth 20000 in
theorem dL_law_317 : decode cL_law 317 = .ok (.iadd, 1) := by decide +kernel
set_option maxRecDepth 20000 in
theorem dL_law_318 : decode cL_law 318 = .ok (.iaload, 1) := by decide +kernel
set_option maxRecDepth 20000 in
theorem dL_law_319 : decode cL_law 319 = .ok (.aload_n 0, 1) := by decide +kernel
set_option maxRecDepth 20000 in
theorem dL_law_320 : decode cL_law 320 = .ok (.iload_n 3, 1) := by decide +kernel
set_option maxRecDepth 20000 in
theorem dL_law_321 : decode cL_law 321 = .ok (.iconst 3, 1) := by decide +kernel
set_option maxRecDepth 20000 in
theorem dL_law_322 : decode cL_law 322 = .ok (.iadd, 1) := by decide +kernel
set_option maxRecDepth 20000 in
theorem dL_law_323 : decode cL_law 323 = .ok (.iaload, 1) := by decide +kernel
set_option maxRecDepth 20000 in
theorem dL_law_324 : decode cL_law 324 = .ok (.aload_n 0, 1) := by decide +kernel
set_option maxRecDepth 20000 in
theorem dL_law_325 : decode cL_law 325 = .ok (.iload_n 3, 1) := by decide +kernel
set_option maxRecDepth 20000 in
theorem dL_law_326 : decode cL_law 326 = .ok (.iconst 4, 1) := by decide +kernel
set_option maxRecDepth 20000 in
theorem dL_law_327 : decode cL_law 327 = .ok (.iadd, 1) := by decide +kernel
set_option maxRecDepth 20000 in
theorem dL_law_328 : decode cL_law 328 = .ok (.iaload, 1) := by decide +kernel
set_option maxRecDepth 20000 in
theorem dL_law_329 : decode cL_law 329 = .ok (.aload_n 0, 1) := by decide +kernel
set_option maxRecDepth 20000 in
theorem dL_law_330 : decode cL_law 330 = .ok (.iload_n 3, 1) := by decide +kernel
set_option maxRecDepth 20000 in
theorem dL_law_331 : decode cL_law 331 = .ok (.iconst 5, 1) := by decide +kernel
set_option maxRecDepth 20000 in
theorem dL_law_332 : decode cL_law 332 = .ok (.iadd, 1) := by decide +kernel
set_option maxRecDepth 20000 in
theorem dL_law_333 : decode cL_law 333 = .ok (.iaload, 1) := by decide +kernel
set_option maxRecDepth 20000 in
theorem dL_law_334 : decode cL_law 334 = .ok (.aload_n 0, 1) := by decide +kernel
set_option maxRecDepth 20000 in
theorem dL_law_335 : decode cL_law 335 = .ok (.iload_n 3, 1) := by decide +kernel
set_option maxRecDepth 20000 in
theorem dL_law_336 : decode cL_law 336 = .ok (.bipush 6, 2) := by decide +kernel
set_option maxRecDepth 20000 in
theorem dL_law_338 : decode cL_law 338 = .ok (.iadd, 1) := by decide +kernel
set_option maxRecDepth 20000 in
theorem dL_law_339 : decode cL_law 339 = .ok (.iaload, 1) := by decide +kernel
set_option maxRecDepth 20000 in
theorem dL_law_340 : decode cL_law 340 = .ok (.invokevirtual 41, 3) := by decide +kernel
set_option maxRecDepth 20000 in
theorem dL_law_343 : decode cL_law 343 = .ok (.aload_n 2, 1) := by decide +kernel
set_option maxRecDepth 20000 in
theorem dL_law_344 : decode cL_law 344 = .ok (.aload_n 0, 1) := by decide +kernel
set_option maxRecDepth 20000 in
theorem dL_law_345 : decode cL_law 345 = .ok (.iload_n 3, 1) := by decide +kernel
set_option maxRecDepth 20000 in
theorem dL_law_346 : decode cL_law 346 = .ok (.iconst 1, 1) := by decide +kernel
set_option maxRecDepth 20000 in
theorem dL_law_347 : decode cL_law 347 = .ok (.iadd, 1) := by decide +kernel
set_option maxRecDepth 20000 in
theorem dL_law_348 : decode cL_law 348 = .ok (.iaload, 1) := by decide +kernel
set_option maxRecDepth 20000 in
theorem dL_law_349 : decode cL_law 349 = .ok (.aload_n 0, 1) := by decide +kernel
set_option maxRecDepth 20000 in
theorem dL_law_350 : decode cL_law 350 = .ok (.iload_n 3, 1) := by decide +kernel
set_option maxRecDepth 20000 in
theorem dL_law_351 : decode cL_law 351 = .ok (.iconst 2, 1) := by decide +kernel
set_option maxRecDepth 20000 in
theorem dL_law_352 : decode cL_law 352 = .ok (.iadd, 1) := by decide +kernel
set_option maxRecDepth 20000 in
theorem dL_law_353 : decode cL_law 353 = .ok (.iaload, 1) := by decide +kernel
set_option maxRecDepth 20000 in
theorem dL_law_354 : decode cL_law 354 = .ok (.aload_n 0, 1) := by decide +kernel
set_option maxRecDepth 20000 in
theorem dL_law_355 : decode cL_law 355 = .ok (.iload_n 3, 1) := by decide +kernel
set_option maxRecDepth 20000 in
theorem dL_law_356 : decode cL_law 356 = .ok (.iconst 3, 1) := by decide +kernel
set_option maxRecDepth 20000 in
theorem dL_law_357 : decode cL_law 357 = .ok (.iadd, 1) := by decide +kernel
set_option maxRecDepth 20000 in
theorem dL_law_358 : decode cL_law 358 = .ok (.iaload, 1) := by decide +kernel
set_option maxRecDepth 20000 in
theorem dL_law_359 : decode cL_law 359 = .ok (.aload_n 0, 1) := by decide +kernel
set_option maxRecDepth 20000 in
theorem dL_law_360 : decode cL_law 360 = .ok (.iload_n 3, 1) := by decide +kernel
set_option maxRecDepth 20000 in
theorem dL_law_361 : decode cL_law 361 = .ok (.iconst 4, 1) := by decide +kernel
set_option maxRecDepth 20000 in
theorem dL_law_362 : decode cL_law 362 = .ok (.iadd, 1) := by decide +kernel
set_option maxRecDepth 20000 in
theorem dL_law_363 : decode cL_law 363 = .ok (.iaload, 1) := by decide +kernel
set_option maxRecDepth 20000 in
theorem dL_law_364 : decode cL_law 364 = .ok (.aload_n 0, 1) := by decide +kernel
set_option maxRecDepth 20000 in
theorem dL_law_365 : decode cL_law 365 = .ok (.iload_n 3, 1) := by decide +kernel
set_option maxRecDepth 20000 in
theorem dL_law_366 : decode cL_law 366 = .ok (.iconst 5, 1) := by decide +kernel
set_option maxRecDepth 20000 in
theorem dL_law_367 : decode cL_law 367 = .ok (.iadd, 1) := by decide +kernel
set_option maxRecDepth 20000 in
theorem dL_law_368 : decode cL_law 368 = .ok (.iaload, 1) := by decide +kernel
set_option maxRecDepth 20000 in
theorem dL_law_369 : decode cL_law 369 = .ok (.aload_n 0, 1) := by decide +kernel
set_option maxRecDepth 20000 in
theorem dL_law_370 : decode cL_law 370 = .ok (.iload_n 3, 1) := by decide +kernel
set_option maxRecDepth 20000 in
theorem dL_law_371 : decode cL_law 371 = .ok (.bipush 6, 2) := by decide +kernel
set_option maxRecDepth 20000 in
theorem dL_law_373 : decode cL_law 373 = .ok (.iadd, 1) := by decide +kernel
set_option maxRecDepth 20000 in
theorem dL_law_374 : decode cL_law 374 = .ok (.iaload, 1) := by decide +kernel
set_option maxRecDepth 20000 in
theorem dL_law_375 : decode cL_law 375 = .ok (.invokevirtual 45, 3) := by decide +kernel
set_option maxRecDepth 20000 in
theorem dL_law_378 : decode cL_law 378 = .ok (.if_icmp .eq 513, 3) := by decide +kernel
set_option maxRecDepth 20000 in
theorem dL_law_381 : decode cL_law 381 = .ok (.iconst 0, 1) := by decide +kernel
set_option maxRecDepth 20000 in
theorem dL_law_382 : decode cL_law 382 = .ok (.ireturn, 1) := by decide +kernel
set_option maxRecDepth 20000 in
theorem dL_law_383 : decode cL_law 383 = .ok (.aload_n 1, 1) := by decide +kernel
set_option maxRecDepth 20000 in
theorem dL_law_384 : decode cL_law 384 = .ok (.aload_n 0, 1) := by decide +kernel
set_option maxRecDepth 20000 in
theorem dL_law_385 : decode cL_law 385 = .ok (.iload_n 3, 1) := by decide +kernel
set_option maxRecDepth 20000 in
theorem dL_law_386 : decode cL_law 386 = .ok (.iconst 1, 1) := by decide +kernel
set_option maxRecDepth 20000 in
theorem dL_law_387 : decode cL_law 387 = .ok (.iadd, 1) := by decide +kernel
set_option maxRecDepth 20000 in
theorem dL_law_388 : decode cL_law 388 = .ok (.iaload, 1) := by decide +kernel
set_option maxRecDepth 20000 in
theorem dL_law_389 : decode cL_law 389 = .ok (.invokevirtual 46, 3) := by decide +kernel
set_option maxRecDepth 20000 in
theorem dL_law_392 : decode cL_law 392 = .ok (.aload_n 2, 1) := by decide +kernel
set_option maxRecDepth 20000 in
theorem dL_law_393 : decode cL_law 393 = .ok (.aload_n 0, 1) := by decide +kernel
set_option maxRecDepth 20000 in
theorem dL_law_394 : decode cL_law 394 = .ok (.iload_n 3, 1) := by decide +kernel
set_option maxRecDepth 20000 in
theorem dL_law_395 : decode cL_law 395 = .ok (.iconst 1, 1) := by decide +kernel
set_option maxRecDepth 20000 in
theorem dL_law_396 : decode cL_law 396 = .ok (.iadd, 1) := by decide +kernel
set_option maxRecDepth 20000 in
theorem dL_law_397 : decode cL_law 397 = .ok (.iaload, 1) := by decide +kernel
set_option maxRecDepth 20000 in
theorem dL_law_398 : decode cL_law 398 = .ok (.invokevirtual 49, 3) := by decide +kernel
set_option maxRecDepth 20000 in
theorem dL_law_401 : decode cL_law 401 = .ok (.if_icmp .eq 490, 3) := by decide +kernel
set_option maxRecDepth 20000 in
theorem dL_law_404 : decode cL_law 404 = .ok (.iconst 0, 1) := by decide +kernel
set_option maxRecDepth 20000 in
theorem dL_law_405 : decode cL_law 405 = .ok (.ireturn, 1) := by decide +kernel
set_option maxRecDepth 20000 in
theorem dL_law_406 : decode cL_law 406 = .ok (.aload_n 1, 1) := by decide +kernel
set_option maxRecDepth 20000 in
theorem dL_law_407 : decode cL_law 407 = .ok (.aload_n 0, 1) := by decide +kernel
set_option maxRecDepth 20000 in
theorem dL_law_408 : decode cL_law 408 = .ok (.iload_n 3, 1) := by decide +kernel
set_option maxRecDepth 20000 in
theorem dL_law_409 : decode cL_law 409 = .ok (.iconst 1, 1) := by decide +kernel
set_option maxRecDepth 20000 in
theorem dL_law_410 : decode cL_law 410 = .ok (.iadd, 1) := by decide +kernel
set_option maxRecDepth 20000 in
theorem dL_law_411 : decode cL_law 411 = .ok (.iaload, 1) := by decide +kernel
set_option maxRecDepth 20000 in
theorem dL_law_412 : decode cL_law 412 = .ok (.aload_n 0, 1) := by decide +kernel
set_option maxRecDepth 20000 in
theorem dL_law_413 : decode cL_law 413 = .ok (.iload_n 3, 1) := by decide +kernel
set_option maxRecDepth 20000 in
theorem dL_law_414 : decode cL_law 414 = .ok (.iconst 2, 1) := by decide +kernel
set_option maxRecDepth 20000 in
theorem dL_law_415 : decode cL_law 415 = .ok (.iadd, 1) := by decide +kernel
set_option maxRecDepth 20000 in
theorem dL_law_416 : decode cL_law 416 = .ok (.iaload, 1) := by decide +kernel
set_option maxRecDepth 20000 in
theorem dL_law_417 : decode cL_law 417 = .ok (.aload_n 0, 1) := by decide +kernel
set_option maxRecDepth 20000 in
theorem dL_law_418 : decode cL_law 418 = .ok (.iload_n 3, 1) := by decide +kernel
set_option maxRecDepth 20000 in
theorem dL_law_419 : decode cL_law 419 = .ok (.iconst 3, 1) := by decide +kernel
set_option maxRecDepth 20000 in
theorem dL_law_420 : decode cL_law 420 = .ok (.iadd, 1) := by decide +kernel
set_option maxRecDepth 20000 in
theorem dL_law_421 : decode cL_law 421 = .ok (.iaload, 1) := by decide +kernel
set_option maxRecDepth 20000 in
theorem dL_law_422 : decode cL_law 422 = .ok (.invokevirtual 50, 3) := by decide +kernel
set_option maxRecDepth 20000 in
theorem dL_law_425 : decode cL_law 425 = .ok (.aload_n 2, 1) := by decide +kernel
set_option maxRecDepth 20000 in
theorem dL_law_426 : decode cL_law 426 = .ok (.aload_n 0, 1) := by decide +kernel
set_option maxRecDepth 20000 in
theorem dL_law_427 : decode cL_law 427 = .ok (.iload_n 3, 1) := by decide +kernel
set_option maxRecDepth 20000 in
theorem dL_law_428 : decode cL_law 428 = .ok (.iconst 1, 1) := by decide +kernel
set_option maxRecDepth 20000 in
theorem dL_law_429 : decode cL_law 429 = .ok (.iadd, 1) := by decide +kernel
set_option maxRecDepth 20000 in
theorem dL_law_430 : decode cL_law 430 = .ok (.iaload, 1) := by decide +kernel
set_option maxRecDepth 20000 in
theorem dL_law_431 : decode cL_law 431 = .ok (.aload_n 0, 1) := by decide +kernel
set_option maxRecDepth 20000 in
theorem dL_law_432 : decode cL_law 432 = .ok (.iload_n 3, 1) := by decide +kernel
set_option maxRecDepth 20000 in
theorem dL_law_433 : decode cL_law 433 = .ok (.iconst 2, 1) := by decide +kernel
set_option maxRecDepth 20000 in
theorem dL_law_434 : decode cL_law 434 = .ok (.iadd, 1) := by decide +kernel
set_option maxRecDepth 20000 in
theorem dL_law_435 : decode cL_law 435 = .ok (.iaload, 1) := by decide +kernel
set_option maxRecDepth 20000 in
theorem dL_law_436 : decode cL_law 436 = .ok (.aload_n 0, 1) := by decide +kernel
set_option maxRecDepth 20000 in
theorem dL_law_437 : decode cL_law 437 = .ok (.iload_n 3, 1) := by decide +kernel
set_option maxRecDepth 20000 in
theorem dL_law_438 : decode cL_law 438 = .ok (.iconst 3, 1) := by decide +kernel
set_option maxRecDepth 20000 in
theorem dL_law_439 : decode cL_law 439 = .ok (.iadd, 1) := by decide +kernel
set_option maxRecDepth 20000 in
theorem dL_law_440 : decode cL_law 440 = .ok (.iaload, 1) := by decide +kernel
set_option maxRecDepth 20000 in
theorem dL_law_441 : decode cL_law 441 = .ok (.invokevirtual 53, 3) := by decide +kernel
set_option maxRecDepth 20000 in
theorem dL_law_444 : decode cL_law 444 = .ok (.if_icmp .eq 447, 3) := by decide +kernel
set_option maxRecDepth 20000 in
theorem dL_law_447 : decode cL_law 447 = .ok (.iconst 0, 1) := by decide +kernel
set_option maxRecDepth 20000 in
theorem dL_law_448 : decode cL_law 448 = .ok (.ireturn, 1) := by decide +kernel
set_option maxRecDepth 20000 in
theorem dL_law_449 : decode cL_law 449 = .ok (.aload_n 1, 1) := by decide +kernel
set_option maxRecDepth 20000 in
theorem dL_law_450 : decode cL_law 450 = .ok (.aload_n 0, 1) := by decide +kernel
set_option maxRecDepth 20000 in
theorem dL_law_451 : decode cL_law 451 = .ok (.iload_n 3, 1) := by decide +kernel
set_option maxRecDepth 20000 in
theorem dL_law_452 : decode cL_law 452 = .ok (.iconst 1, 1) := by decide +kernel
set_option maxRecDepth 20000 in
theorem dL_law_453 : decode cL_law 453 = .ok (.iadd, 1) := by decide +kernel
set_option maxRecDepth 20000 in
theorem dL_law_454 : decode cL_law 454 = .ok (.iaload, 1) := by decide +kernel
set_option maxRecDepth 20000 in
theorem dL_law_455 : decode cL_law 455 = .ok (.aload_n 0, 1) := by decide +kernel
set_option maxRecDepth 20000 in
theorem dL_law_456 : decode cL_law 456 = .ok (.iload_n 3, 1) := by decide +kernel
set_option maxRecDepth 20000 in
theorem dL_law_457 : decode cL_law 457 = .ok (.iconst 2, 1) := by decide +kernel
set_option maxRecDepth 20000 in
theorem dL_law_458 : decode cL_law 458 = .ok (.iadd, 1) := by decide +kernel
set_option maxRecDepth 20000 in
theorem dL_law_459 : decode cL_law 459 = .ok (.iaload, 1) := by decide +kernel
set_option maxRecDepth 20000 in
theorem dL_law_460 : decode cL_law 460 = .ok (.aload_n 0, 1) := by decide +kernel
set_option maxRecDepth 20000 in
theorem dL_law_461 : decode cL_law 461 = .ok (.iload_n 3, 1) := by decide +kernel
set_option maxRecDepth 20000 in
theorem dL_law_462 : decode cL_law 462 = .ok (.iconst 3, 1) := by decide +kernel
set_option maxRecDepth 20000 in
theorem dL_law_463 : decode cL_law 463 = .ok (.iadd, 1) := by decide +kernel
set_option maxRecDepth 20000 in
theorem dL_law_464 : decode cL_law 464 = .ok (.iaload, 1) := by decide +kernel
set_option maxRecDepth 20000 in
theorem dL_law_465 : decode cL_law 465 = .ok (.aload_n 0, 1) := by decide +kernel
set_option maxRecDepth 20000 in
theorem dL_law_466 : decode cL_law 466 = .ok (.iload_n 3, 1) := by decide +kernel
set_option maxRecDepth 20000 in
theorem dL_law_467 : decode cL_law 467 = .ok (.iconst 4, 1) := by decide +kernel
set_option maxRecDepth 20000 in
theorem dL_law_468 : decode cL_law 468 = .ok (.iadd, 1) := by decide +kernel
set_option maxRecDepth 20000 in
theorem dL_law_469 : decode cL_law 469 = .ok (.iaload, 1) := by decide +kernel
set_option maxRecDepth 20000 in
theorem dL_law_470 : decode cL_law 470 = .ok (.invokevirtual 54, 3) := by decide +kernel
set_option maxRecDepth 20000 in
theorem dL_law_473 : decode cL_law 473 = .ok (.aload_n 2, 1) := by decide +kernel
set_option maxRecDepth 20000 in
theorem dL_law_474 : decode cL_law 474 = .ok (.aload_n 0, 1) := by decide +kernel
set_option maxRecDepth 20000 in
theorem dL_law_475 : decode cL_law 475 = .ok (.iload_n 3, 1) := by decide +kernel
set_option maxRecDepth 20000 in
theorem dL_law_476 : decode cL_law 476 = .ok (.iconst 1, 1) := by decide +kernel
set_option maxRecDepth 20000 in
theorem dL_law_477 : decode cL_law 477 = .ok (.iadd, 1) := by decide +kernel
set_option maxRecDepth 20000 in
theorem dL_law_478 : decode cL_law 478 = .ok (.iaload, 1) := by decide +kernel
set_option maxRecDepth 20000 in
theorem dL_law_479 : decode cL_law 479 = .ok (.aload_n 0, 1) := by decide +kernel
set_option maxRecDepth 20000 in
theorem dL_law_480 : decode cL_law 480 = .ok (.iload_n 3, 1) := by decide +kernel
set_option maxRecDepth 20000 in
theorem dL_law_481 : decode cL_law 481 = .ok (.iconst 2, 1) := by decide +kernel
set_option maxRecDepth 20000 in
theorem dL_law_482 : decode cL_law 482 = .ok (.iadd, 1) := by decide +kernel
set_option maxRecDepth 20000 in
theorem dL_law_483 : decode cL_law 483 = .ok (.iaload, 1) := by decide +kernel
set_option maxRecDepth 20000 in
theorem dL_law_484 : decode cL_law 484 = .ok (.aload_n 0, 1) := by decide +kernel
set_option maxRecDepth 20000 in
theorem dL_law_485 : decode cL_law 485 = .ok (.iload_n 3, 1) := by decide +kernel
set_option maxRecDepth 20000 in
theorem dL_law_486 : decode cL_law 486 = .ok (.iconst 3, 1) := by decide +kernel
set_option maxRecDepth 20000 in
theorem dL_law_487 : decode cL_law 487 = .ok (.iadd, 1) := by decide +kernel
set_option maxRecDepth 20000 in
theorem dL_law_488 : decode cL_law 488 = .ok (.iaload, 1) := by decide +kernel
set_option maxRecDepth 20000 in
theorem dL_law_489 : decode cL_law 489 = .ok (.aload_n 0, 1) := by decide +kernel
set_option maxRecDepth 20000 in
theorem dL_law_490 : decode cL_law 490 = .ok (.iload_n 3, 1) := by decide +kernel
set_option maxRecDepth 20000 in
theorem dL_law_491 : decode cL_law 491 = .ok (.iconst 4, 1) := by decide +kernel
set_option maxRecDepth 20000 in
theorem dL_law_492 : decode cL_law 492 = .ok (.iadd, 1) := by decide +kernel
set_option maxRecDepth 20000 in
theorem dL_law_493 : decode cL_law 493 = .ok (.iaload, 1) := by decide +kernel
set_option maxRecDepth 20000 in
theorem dL_law_494 : decode cL_law 494 = .ok (.invokevirtual 58, 3) := by decide +kernel
set_option maxRecDepth 20000 in
theorem dL_law_497 : decode cL_law 497 = .ok (.if_icmp .eq 394, 3) := by decide +kernel
set_option maxRecDepth 20000 in
theorem dL_law_500 : decode cL_law 500 = .ok (.iconst 0, 1) := by decide +kernel
set_option maxRecDepth 20000 in
theorem dL_law_501 : decode cL_law 501 = .ok (.ireturn, 1) := by decide +kernel
set_option maxRecDepth 20000 in
theorem dL_law_502 : decode cL_law 502 = .ok (.aload_n 1, 1) := by decide +kernel
set_option maxRecDepth 20000 in
theorem dL_law_503 : decode cL_law 503 = .ok (.aload_n 0, 1) := by decide +kernel
set_option maxRecDepth 20000 in
theorem dL_law_504 : decode cL_law 504 = .ok (.iload_n 3, 1) := by decide +kernel
set_option maxRecDepth 20000 in
theorem dL_law_505 : decode cL_law 505 = .ok (.iconst 1, 1) := by decide +kernel
set_option maxRecDepth 20000 in
theorem dL_law_506 : decode cL_law 506 = .ok (.iadd, 1) := by decide +kernel
set_option maxRecDepth 20000 in
theorem dL_law_507 : decode cL_law 507 = .ok (.iaload, 1) := by decide +kernel
set_option maxRecDepth 20000 in
theorem dL_law_508 : decode cL_law 508 = .ok (.aload_n 0, 1) := by decide +kernel
set_option maxRecDepth 20000 in
theorem dL_law_509 : decode cL_law 509 = .ok (.iload_n 3, 1) := by decide +kernel
set_option maxRecDepth 20000 in
theorem dL_law_510 : decode cL_law 510 = .ok (.iconst 2, 1) := by decide +kernel
set_option maxRecDepth 20000 in
theorem dL_law_511 : decode cL_law 511 = .ok (.iadd, 1) := by decide +kernel
set_option maxRecDepth 20000 in
theorem dL_law_512 : decode cL_law 512 = .ok (.iaload, 1) := by decide +kernel
set_option maxRecDepth 20000 in
theorem dL_law_513 : decode cL_law 513 = .ok (.invokevirtual 59, 3) := by decide +kernel
set_option maxRecDepth 20000 in
theorem dL_law_516 : decode cL_law 516 = .ok (.aload_n 2, 1) := by decide +kernel
set_option maxRecDepth 20000 in
theorem dL_law_517 : decode cL_law 517 = .ok (.aload_n 0, 1) := by decide +kernel
set_option maxRecDepth 20000 in
theorem dL_law_518 : decode cL_law 518 = .ok (.iload_n 3, 1) := by decide +kernel
set_option maxRecDepth 20000 in
theorem dL_law_519 : decode cL_law 519 = .ok (.iconst 1, 1) := by decide +kernel
set_option maxRecDepth 20000 in
theorem dL_law_520 : decode cL_law 520 = .ok (.iadd, 1) := by decide +kernel
set_option maxRecDepth 20000 in
theorem dL_law_521 : decode cL_law 521 = .ok (.iaload, 1) := by decide +kernel
set_option maxRecDepth 20000 in
theorem dL_law_522 : decode cL_law 522 = .ok (.aload_n 0, 1) := by decide +kernel
set_option maxRecDepth 20000 in
theorem dL_law_523 : decode cL_law 523 = .ok (.iload_n 3, 1) := by decide +kernel
set_option maxRecDepth 20000 in
theorem dL_law_524 : decode cL_law 524 = .ok (.iconst 2, 1) := by decide +kernel
set_option maxRecDepth 20000 in
theorem dL_law_525 : decode cL_law 525 = .ok (.iadd, 1) := by decide +kernel
set_option maxRecDepth 20000 in
theorem dL_law_526 : decode cL_law 526 = .ok (.iaload, 1) := by decide +kernel
set_option maxRecDepth 20000 in
theorem dL_law_527 : decode cL_law 527 = .ok (.invokevirtual 62, 3) := by decide +kernel
set_option maxRecDepth 20000 in
theorem dL_law_530 : decode cL_law 530 = .ok (.if_icmp .eq 361, 3) := by decide +kernel
set_option maxRecDepth 20000 in
theorem dL_law_533 : decode cL_law 533 = .ok (.iconst 0, 1) := by decide +kernel
set_option maxRecDepth 20000 in
theorem dL_law_534 : decode cL_law 534 = .ok (.ireturn, 1) := by decide +kernel
set_option maxRecDepth 20000 in
theorem dL_law_535 : decode cL_law 535 = .ok (.aload_n 1, 1) := by decide +kernel
set_option maxRecDepth 20000 in
theorem dL_law_536 : decode cL_law 536 = .ok (.aload_n 0, 1) := by decide +kernel
set_option maxRecDepth 20000 in
theorem dL_law_537 : decode cL_law 537 = .ok (.iload_n 3, 1) := by decide +kernel
set_option maxRecDepth 20000 in
theorem dL_law_538 : decode cL_law 538 = .ok (.iconst 1, 1) := by decide +kernel
set_option maxRecDepth 20000 in
theorem dL_law_539 : decode cL_law 539 = .ok (.iadd, 1) := by decide +kernel
set_option maxRecDepth 20000 in
theorem dL_law_540 : decode cL_law 540 = .ok (.iaload, 1) := by decide +kernel
set_option maxRecDepth 20000 in
theorem dL_law_541 : decode cL_law 541 = .ok (.aload_n 0, 1) := by decide +kernel
set_option maxRecDepth 20000 in
theorem dL_law_542 : decode cL_law 542 = .ok (.iload_n 3, 1) := by decide +kernel
set_option maxRecDepth 20000 in
theorem dL_law_543 : decode cL_law 543 = .ok (.iconst 2, 1) := by decide +kernel
set_option maxRecDepth 20000 in
theorem dL_law_544 : decode cL_law 544 = .ok (.iadd, 1) := by decide +kernel
set_option maxRecDepth 20000 in
theorem dL_law_545 : decode cL_law 545 = .ok (.iaload, 1) := by decide +kernel
set_option maxRecDepth 20000 in
theorem dL_law_546 : decode cL_law 546 = .ok (.invokevirtual 63, 3) := by decide +kernel
set_option maxRecDepth 20000 in
theorem dL_law_549 : decode cL_law 549 = .ok (.aload_n 2, 1) := by decide +kernel
set_option maxRecDepth 20000 in
theorem dL_law_550 : decode cL_law 550 = .ok (.aload_n 0, 1) := by decide +kernel
set_option maxRecDepth 20000 in
theorem dL_law_551 : decode cL_law 551 = .ok (.iload_n 3, 1) := by decide +kernel
set_option maxRecDepth 20000 in
theorem dL_law_552 : decode cL_law 552 = .ok (.iconst 1, 1) := by decide +kernel
set_option maxRecDepth 20000 in
theorem dL_law_553 : decode cL_law 553 = .ok (.iadd, 1) := by decide +kernel
set_option maxRecDepth 20000 in
theorem dL_law_554 : decode cL_law 554 = .ok (.iaload, 1) := by decide +kernel
set_option maxRecDepth 20000 in
theorem dL_law_555 : decode cL_law 555 = .ok (.aload_n 0, 1) := by decide +kernel
set_option maxRecDepth 20000 in
theorem dL_law_556 : decode cL_law 556 = .ok (.iload_n 3, 1) := by decide +kernel
set_option maxRecDepth 20000 in
theorem dL_law_557 : decode cL_law 557 = .ok (.iconst 2, 1) := by decide +kernel
set_option maxRecDepth 20000 in
theorem dL_law_558 : decode cL_law 558 = .ok (.iadd, 1) := by decide +kernel
set_option maxRecDepth 20000 in
theorem dL_law_559 : decode cL_law 559 = .ok (.iaload, 1) := by decide +kernel
set_option maxRecDepth 20000 in
theorem dL_law_560 : decode cL_law 560 = .ok (.invokevirtual 66, 3) := by decide +kernel
set_option maxRecDepth 20000 in
theorem dL_law_563 : decode cL_law 563 = .ok (.if_icmp .eq 328, 3) := by decide +kernel
set_option maxRecDepth 20000 in
theorem dL_law_566 : decode cL_law 566 = .ok (.iconst 0, 1) := by decide +kernel
set_option maxRecDepth 20000 in
theorem dL_law_567 : decode cL_law 567 = .ok (.ireturn, 1) := by decide +kernel
set_option maxRecDepth 20000 in
theorem dL_law_568 : decode cL_law 568 = .ok (.aload_n 1, 1) := by decide +kernel
set_option maxRecDepth 20000 in
theorem dL_law_569 : decode cL_law 569 = .ok (.aload_n 0, 1) := by decide +kernel
set_option maxRecDepth 20000 in
theorem dL_law_570 : decode cL_law 570 = .ok (.iload_n 3, 1) := by decide +kernel
set_option maxRecDepth 20000 in
theorem dL_law_571 : decode cL_law 571 = .ok (.iconst 1, 1) := by decide +kernel
set_option maxRecDepth 20000 in
theorem dL_law_572 : decode cL_law 572 = .ok (.iadd, 1) := by decide +kernel
set_option maxRecDepth 20000 in
theorem dL_law_573 : decode cL_law 573 = .ok (.iaload, 1) := by decide +kernel
set_option maxRecDepth 20000 in
theorem dL_law_574 : decode cL_law 574 = .ok (.aload_n 0, 1) := by decide +kernel
set_option maxRecDepth 20000 in
theorem dL_law_575 : decode cL_law 575 = .ok (.iload_n 3, 1) := by decide +kernel
set_option maxRecDepth 20000 in
theorem dL_law_576 : decode cL_law 576 = .ok (.iconst 2, 1) := by decide +kernel
set_option maxRecDepth 20000 in
theorem dL_law_577 : decode cL_law 577 = .ok (.iadd, 1) := by decide +kernel
set_option maxRecDepth 20000 in
theorem dL_law_578 : decode cL_law 578 = .ok (.iaload, 1) := by decide +kernel
set_option maxRecDepth 20000 in
theorem dL_law_579 : decode cL_law 579 = .ok (.aload_n 0, 1) := by decide +kernel
set_option maxRecDepth 20000 in
theorem dL_law_580 : decode cL_law 580 = .ok (.iload_n 3, 1) := by decide +kernel
set_option maxRecDepth 20000 in
theorem dL_law_581 : decode cL_law 581 = .ok (.iconst 3, 1) := by decide +kernel
set_option maxRecDepth 20000 in
theorem dL_law_582 : decode cL_law 582 = .ok (.iadd, 1) := by decide +kernel
set_option maxRecDepth 20000 in
theorem dL_law_583 : decode cL_law 583 = .ok (.iaload, 1) := by decide +kernel
set_option maxRecDepth 20000 in
theorem dL_law_584 : decode cL_law 584 = .ok (.invokevirtual 67, 3) := by decide +kernel
set_option maxRecDepth 20000 in
theorem dL_law_587 : decode cL_law 587 = .ok (.aload_n 2, 1) := by decide +kernel
set_option maxRecDepth 20000 in
theorem dL_law_588 : decode cL_law 588 = .ok (.aload_n 0, 1) := by decide +kernel
set_option maxRecDepth 20000 in
theorem dL_law_589 : decode cL_law 589 = .ok (.iload_n 3, 1) := by decide +kernel
set_option maxRecDepth 20000 in
theorem dL_law_590 : decode cL_law 590 = .ok (.iconst 1, 1) := by decide +kernel
set_option maxRecDepth 20000 in
theorem dL_law_591 : decode cL_law 591 = .ok (.iadd, 1) := by decide +kernel
set_option maxRecDepth 20000 in
theorem dL_law_592 : decode cL_law 592 = .ok (.iaload, 1) := by decide +kernel
set_option maxRecDepth 20000 in
theorem dL_law_593 : decode cL_law 593 = .ok (.aload_n 0, 1) := by decide +kernel
set_option maxRecDepth 20000 in
theorem dL_law_594 : decode cL_law 594 = .ok (.iload_n 3, 1) := by decide +kernel
set_option maxRecDepth 20000 in
theorem dL_law_595 : decode cL_law 595 = .ok (.iconst 2, 1) := by decide +kernel
set_option maxRecDepth 20000 in
theorem dL_law_596 : decode cL_law 596 = .ok (.iadd, 1) := by decide +kernel
set_option maxRecDepth 20000 in
theorem dL_law_597 : decode cL_law 597 = .ok (.iaload, 1) := by decide +kernel
set_option maxRecDepth 20000 in
theorem dL_law_598 : decode cL_law 598 = .ok (.aload_n 0, 1) := by decide +kernel
set_option maxRecDepth 20000 in
theorem dL_law_599 : decode cL_law 599 = .ok (.iload_n 3, 1) := by decide +kernel
set_option maxRecDepth 20000 in
theorem dL_law_600 : decode cL_law 600 = .ok (.iconst 3, 1) := by decide +kernel
set_option maxRecDepth 20000 in
theorem dL_law_601 : decode cL_law 601 = .ok (.iadd, 1) := by decide +kernel
set_option maxRecDepth 20000 in
theorem dL_law_602 : decode cL_law 602 = .ok (.iaload, 1) := by decide +kernel
set_option maxRecDepth 20000 in
theorem dL_law_603 : decode cL_law 603 = .ok (.invokevirtual 70, 3) := by decide +kernel
set_option maxRecDepth 20000 in
theorem dL_law_606 : decode cL_law 606 = .ok (.if_icmp .eq 285, 3) := by decide +kernel
set_option maxRecDepth 20000 in
theorem dL_law_609 : decode cL_law 609 = .ok (.iconst 0, 1) := by decide +kernel
set_option maxRecDepth 20000 in
theorem dL_law_610 : decode cL_law 610 = .ok (.ireturn, 1) := by decide +kernel
set_option maxRecDepth 20000 in
theorem dL_law_611 : decode cL_law 611 = .ok (.aload_n 1, 1) := by decide +kernel
set_option maxRecDepth 20000 in
theorem dL_law_612 : decode cL_law 612 = .ok (.aload_n 0, 1) := by decide +kernel
set_option maxRecDepth 20000 in
theorem dL_law_613 : decode cL_law 613 = .ok (.iload_n 3, 1) := by decide +kernel
set_option maxRecDepth 20000 in
theorem dL_law_614 : decode cL_law 614 = .ok (.iconst 1, 1) := by decide +kernel
set_option maxRecDepth 20000 in
theorem dL_law_615 : decode cL_law 615 = .ok (.iadd, 1) := by decide +kernel
set_option maxRecDepth 20000 in
theorem dL_law_616 : decode cL_law 616 = .ok (.iaload, 1) := by decide +kernel
set_option maxRecDepth 20000 in
theorem dL_law_617 : decode cL_law 617 = .ok (.aload_n 0, 1) := by decide +kernel
set_option maxRecDepth 20000 in
theorem dL_law_618 : decode cL_law 618 = .ok (.iload_n 3, 1) := by decide +kernel
set_option maxRecDepth 20000 in
theorem dL_law_619 : decode cL_law 619 = .ok (.iconst 2, 1) := by decide +kernel
set_option maxRecDepth 20000 in
theorem dL_law_620 : decode cL_law 620 = .ok (.iadd, 1) := by decide +kernel
set_option maxRecDepth 20000 in
theorem dL_law_621 : decode cL_law 621 = .ok (.iaload, 1) := by decide +kernel
set_option maxRecDepth 20000 in
theorem dL_law_622 : decode cL_law 622 = .ok (.invokevirtual 71, 3) := by decide +kernel
set_option maxRecDepth 20000 in
theorem dL_law_625 : decode cL_law 625 = .ok (.aload_n 2, 1) := by decide +kernel
set_option maxRecDepth 20000 in
theorem dL_law_626 : decode cL_law 626 = .ok (.aload_n 0, 1) := by decide +kernel
set_option maxRecDepth 20000 in
theorem dL_law_627 : decode cL_law 627 = .ok (.iload_n 3, 1) := by decide +kernel
set_option maxRecDepth 20000 in
theorem dL_law_628 : decode cL_law 628 = .ok (.iconst 1, 1) := by decide +kernel
set_option maxRecDepth 20000 in
theorem dL_law_629 : decode cL_law 629 = .ok (.iadd, 1) := by decide +kernel
set_option maxRecDepth 20000 in
theorem dL_law_630 : decode cL_law 630 = .ok (.iaload, 1) := by decide +kernel
set_option maxRecDepth 20000 in
theorem dL_law_631 : decode cL_law 631 = .ok (.aload_n 0, 1) := by decide +kernel
set_option maxRecDepth 20000 in
theorem dL_law_632 : decode cL_law 632 = .ok (.iload_n 3, 1) := by decide +kernel
set_option maxRecDepth 20000 in
theorem dL_law_633 : decode cL_law 633 = .ok (.iconst 2, 1) := by decide +kernel
set_option maxRecDepth 20000 in
theorem dL_law_634 : decode cL_law 634 = .ok (.iadd, 1) := by decide +kernel
set_option maxRecDepth 20000 in
theorem dL_law_635 : decode cL_law 635 = .ok (.iaload, 1) := by decide +kernel
set_option maxRecDepth 20000 in
theorem dL_law_636 : decode cL_law 636 = .ok (.invokevirtual 74, 3) := by decide +kernel
set_option maxRecDepth 20000 in
theorem dL_law_639 : decode cL_law 639 = .ok (.if_icmp .eq 252, 3) := by decide +kernel
set_option maxRecDepth 20000 in
theorem dL_law_642 : decode cL_law 642 = .ok (.iconst 0, 1) := by decide +kernel
set_option maxRecDepth 20000 in
theorem dL_law_643 : decode cL_law 643 = .ok (.ireturn, 1) := by decide +kernel
set_option maxRecDepth 20000 in
theorem dL_law_644 : decode cL_law 644 = .ok (.aload_n 1, 1) := by decide +kernel
set_option maxRecDepth 20000 in
theorem dL_law_645 : decode cL_law 645 = .ok (.aload_n 0, 1) := by decide +kernel
set_option maxRecDepth 20000 in
theorem dL_law_646 : decode cL_law 646 = .ok (.iload_n 3, 1) := by decide +kernel
set_option maxRecDepth 20000 in
theorem dL_law_647 : decode cL_law 647 = .ok (.iconst 1, 1) := by decide +kernel
set_option maxRecDepth 20000 in
theorem dL_law_648 : decode cL_law 648 = .ok (.iadd, 1) := by decide +kernel
set_option maxRecDepth 20000 in
theorem dL_law_649 : decode cL_law 649 = .ok (.iaload, 1) := by decide +kernel
set_option maxRecDepth 20000 in
theorem dL_law_650 : decode cL_law 650 = .ok (.aload_n 0, 1) := by decide +kernel
set_option maxRecDepth 20000 in
theorem dL_law_651 : decode cL_law 651 = .ok (.iload_n 3, 1) := by decide +kernel
set_option maxRecDepth 20000 in
theorem dL_law_652 : decode cL_law 652 = .ok (.iconst 2, 1) := by decide +kernel
set_option maxRecDepth 20000 in
theorem dL_law_653 : decode cL_law 653 = .ok (.iadd, 1) := by decide +kernel
set_option maxRecDepth 20000 in
theorem dL_law_654 : decode cL_law 654 = .ok (.iaload, 1) := by decide +kernel
set_option maxRecDepth 20000 in
theorem dL_law_655 : decode cL_law 655 = .ok (.invokevirtual 75, 3) := by decide +kernel
set_option maxRecDepth 20000 in
theorem dL_law_658 : decode cL_law 658 = .ok (.aload_n 2, 1) := by decide +kernel
set_option maxRecDepth 20000 in
theorem dL_law_659 : decode cL_law 659 = .ok (.aload_n 0, 1) := by decide +kernel
set_option maxRecDepth 20000 in
theorem dL_law_660 : decode cL_law 660 = .ok (.iload_n 3, 1) := by decide +kernel
set_option maxRecDepth 20000 in
theorem dL_law_661 : decode cL_law 661 = .ok (.iconst 1, 1) := by decide +kernel
set_option maxRecDepth 20000 in
theorem dL_law_662 : decode cL_law 662 = .ok (.iadd, 1) := by decide +kernel
set_option maxRecDepth 20000 in
theorem dL_law_663 : decode cL_law 663 = .ok (.iaload, 1) := by decide +kernel
set_option maxRecDepth 20000 in
theorem dL_law_664 : decode cL_law 664 = .ok (.aload_n 0, 1) := by decide +kernel
set_option maxRecDepth 20000 in
theorem dL_law_665 : decode cL_law 665 = .ok (.iload_n 3, 1) := by decide +kernel
set_option maxRecDepth 20000 in
theorem dL_law_666 : decode cL_law 666 = .ok (.iconst 2, 1) := by decide +kernel
set_option maxRecDepth 20000 in
theorem dL_law_667 : decode cL_law 667 = .ok (.iadd, 1) := by decide +kernel
set_option maxRecDepth 20000 in
theorem dL_law_668 : decode cL_law 668 = .ok (.iaload, 1) := by decide +kernel
set_option maxRecDepth 20000 in
theorem dL_law_669 : decode cL_law 669 = .ok (.invokevirtual 78, 3) := by decide +kernel
set_option maxRecDepth 20000 in
theorem dL_law_672 : decode cL_law 672 = .ok (.if_icmp .eq 219, 3) := by decide +kernel
set_option maxRecDepth 20000 in
theorem dL_law_675 : decode cL_law 675 = .ok (.iconst 0, 1) := by decide +kernel
set_option maxRecDepth 20000 in
theorem dL_law_676 : decode cL_law 676 = .ok (.ireturn, 1) := by decide +kernel
set_option maxRecDepth 20000 in
theorem dL_law_677 : decode cL_law 677 = .ok (.aload_n 1, 1) := by decide +kernel
set_option maxRecDepth 20000 in
theorem dL_law_678 : decode cL_law 678 = .ok (.aload_n 0, 1) := by decide +kernel
set_option maxRecDepth 20000 in
theorem dL_law_679 : decode cL_law 679 = .ok (.iload_n 3, 1) := by decide +kernel
set_option maxRecDepth 20000 in
theorem dL_law_680 : decode cL_law 680 = .ok (.iconst 1, 1) := by decide +kernel
set_option maxRecDepth 20000 in
theorem dL_law_681 : decode cL_law 681 = .ok (.iadd, 1) := by decide +kernel
set_option maxRecDepth 20000 in
theorem dL_law_682 : decode cL_law 682 = .ok (.iaload, 1) := by decide +kernel
set_option maxRecDepth 20000 in
theorem dL_law_683 : decode cL_law 683 = .ok (.aload_n 0, 1) := by decide +kernel
set_option maxRecDepth 20000 in
theorem dL_law_684 : decode cL_law 684 = .ok (.iload_n 3, 1) := by decide +kernel
set_option maxRecDepth 20000 in
theorem dL_law_685 : decode cL_law 685 = .ok (.iconst 2, 1) := by decide +kernel
set_option maxRecDepth 20000 in
theorem dL_law_686 : decode cL_law 686 = .ok (.iadd, 1) := by decide +kernel
set_option maxRecDepth 20000 in
theorem dL_law_687 : decode cL_law 687 = .ok (.iaload, 1) := by decide +kernel
set_option maxRecDepth 20000 in
theorem dL_law_688 : decode cL_law 688 = .ok (.invokevirtual 79, 3) := by decide +kernel
set_option maxRecDepth 20000 in
theorem dL_law_691 : decode cL_law 691 = .ok (.aload_n 2, 1) := by decide +kernel
set_option maxRecDepth 20000 in
theorem dL_law_692 : decode cL_law 692 = .ok (.aload_n 0, 1) := by decide +kernel
set_option maxRecDepth 20000 in
theorem dL_law_693 : decode cL_law 693 = .ok (.iload_n 3, 1) := by decide +kernel
set_option maxRecDepth 20000 in
theorem dL_law_694 : decode cL_law 694 = .ok (.iconst 1, 1) := by decide +kernel
set_option maxRecDepth 20000 in
theorem dL_law_695 : decode cL_law 695 = .ok (.iadd, 1) := by decide +kernel
set_option maxRecDepth 20000 in
theorem dL_law_696 : decode cL_law 696 = .ok (.iaload, 1) := by decide +kernel
set_option maxRecDepth 20000 in
theorem dL_law_697 : decode cL_law 697 = .ok (.aload_n 0, 1) := by decide +kernel
set_option maxRecDepth 20000 in
theorem dL_law_698 : decode cL_law 698 = .ok (.iload_n 3, 1) := by decide +kernel
set_option maxRecDepth 20000 in
theorem dL_law_699 : decode cL_law 699 = .ok (.iconst 2, 1) := by decide +kernel
set_option maxRecDepth 20000 in
theorem dL_law_700 : decode cL_law 700 = .ok (.iadd, 1) := by decide +kernel
set_option maxRecDepth 20000 in
theorem dL_law_701 : decode cL_law 701 = .ok (.iaload, 1) := by decide +kernel
set_option maxRecDepth 20000 in
theorem dL_law_702 : decode cL_law 702 = .ok (.invokevirtual 82, 3) := by decide +kernel
set_option maxRecDepth 20000 in
theorem dL_law_705 : decode cL_law 705 = .ok (.if_icmp .eq 186, 3) := by decide +kernel
set_option maxRecDepth 20000 in
theorem dL_law_708 : decode cL_law 708 = .ok (.iconst 0, 1) := by decide +kernel
set_option maxRecDepth 20000 in
theorem dL_law_709 : decode cL_law 709 = .ok (.ireturn, 1) := by decide +kernel
set_option maxRecDepth 20000 in
theorem dL_law_710 : decode cL_law 710 = .ok (.aload_n 1, 1) := by decide +kernel
set_option maxRecDepth 20000 in
theorem dL_law_711 : decode cL_law 711 = .ok (.aload_n 0, 1) := by decide +kernel
set_option maxRecDepth 20000 in
theorem dL_law_712 : decode cL_law 712 = .ok (.iload_n 3, 1) := by decide +kernel
set_option maxRecDepth 20000 in
theorem dL_law_713 : decode cL_law 713 = .ok (.iconst 1, 1) := by decide +kernel
set_option maxRecDepth 20000 in
theorem dL_law_714 : decode cL_law 714 = .ok (.iadd, 1) := by decide +kernel
set_option maxRecDepth 20000 in
theorem dL_law_715 : decode cL_law 715 = .ok (.iaload, 1) := by decide +kernel
set_option maxRecDepth 20000 in
theorem dL_law_716 : decode cL_law 716 = .ok (.aload_n 0, 1) := by decide +kernel
set_option maxRecDepth 20000 in
theorem dL_law_717 : decode cL_law 717 = .ok (.iload_n 3, 1) := by decide +kernel
set_option maxRecDepth 20000 in
theorem dL_law_718 : decode cL_law 718 = .ok (.iconst 2, 1) := by decide +kernel
set_option maxRecDepth 20000 in
theorem dL_law_719 : decode cL_law 719 = .ok (.iadd, 1) := by decide +kernel
set_option maxRecDepth 20000 in
theorem dL_law_720 : decode cL_law 720 = .ok (.iaload, 1) := by decide +kernel
set_option maxRecDepth 20000 in
theorem dL_law_721 : decode cL_law 721 = .ok (.aload_n 0, 1) := by decide +kernel
set_option maxRecDepth 20000 in
theorem dL_law_722 : decode cL_law 722 = .ok (.iload_n 3, 1) := by decide +kernel
set_option maxRecDepth 20000 in
theorem dL_law_723 : decode cL_law 723 = .ok (.iconst 3, 1) := by decide +kernel
set_option maxRecDepth 20000 in
theorem dL_law_724 : decode cL_law 724 = .ok (.iadd, 1) := by decide +kernel
set_option maxRecDepth 20000 in
theorem dL_law_725 : decode cL_law 725 = .ok (.iaload, 1) := by decide +kernel
set_option maxRecDepth 20000 in
theorem dL_law_726 : decode cL_law 726 = .ok (.aload_n 0, 1) := by decide +kernel
set_option maxRecDepth 20000 in
theorem dL_law_727 : decode cL_law 727 = .ok (.iload_n 3, 1) := by decide +kernel
set_option maxRecDepth 20000 in
theorem dL_law_728 : decode cL_law 728 = .ok (.iconst 4, 1) := by decide +kernel
set_option maxRecDepth 20000 in
theorem dL_law_729 : decode cL_law 729 = .ok (.iadd, 1) := by decide +kernel
set_option maxRecDepth 20000 in
theorem dL_law_730 : decode cL_law 730 = .ok (.iaload, 1) := by decide +kernel
set_option maxRecDepth 20000 in
theorem dL_law_731 : decode cL_law 731 = .ok (.invokevirtual 83, 3) := by decide +kernel
set_option maxRecDepth 20000 in
theorem dL_law_734 : decode cL_law 734 = .ok (.aload_n 2, 1) := by decide +kernel
set_option maxRecDepth 20000 in
theorem dL_law_735 : decode cL_law 735 = .ok (.aload_n 0, 1) := by decide +kernel
set_option maxRecDepth 20000 in
theorem dL_law_736 : decode cL_law 736 = .ok (.iload_n 3, 1) := by decide +kernel
set_option maxRecDepth 20000 in
theorem dL_law_737 : decode cL_law 737 = .ok (.iconst 1, 1) := by decide +kernel
set_option maxRecDepth 20000 in
theorem dL_law_738 : decode cL_law 738 = .ok (.iadd, 1) := by decide +kernel
set_option maxRecDepth 20000 in
theorem dL_law_739 : decode cL_law 739 = .ok (.iaload, 1) := by decide +kernel
set_option maxRecDepth 20000 in
theorem dL_law_740 : decode cL_law 740 = .ok (.aload_n 0, 1) := by decide +kernel
set_option maxRecDepth 20000 in
theorem dL_law_741 : decode cL_law 741 = .ok (.iload_n 3, 1) := by decide +kernel
set_option maxRecDepth 20000 in
theorem dL_law_742 : decode cL_law 742 = .ok (.iconst 2, 1) := by decide +kernel
set_option maxRecDepth 20000 in
theorem dL_law_743 : decode cL_law 743 = .ok (.iadd, 1) := by decide +kernel
set_option maxRecDepth 20000 in
theorem dL_law_744 : decode cL_law 744 = .ok (.iaload, 1) := by decide +kernel
set_option maxRecDepth 20000 in
theorem dL_law_745 : decode cL_law 745 = .ok (.aload_n 0, 1) := by decide +kernel
set_option maxRecDepth 20000 in
theorem dL_law_746 : decode cL_law 746 = .ok (.iload_n 3, 1) := by decide +kernel
set_option maxRecDepth 20000 in
theorem dL_law_747 : decode cL_law 747 = .ok (.iconst 3, 1) := by decide +kernel
set_option maxRecDepth 20000 in
theorem dL_law_748 : decode cL_law 748 = .ok (.iadd, 1) := by decide +kernel
set_option maxRecDepth 20000 in
theorem dL_law_749 : decode cL_law 749 = .ok (.iaload, 1) := by decide +kernel
set_option maxRecDepth 20000 in
theorem dL_law_750 : decode cL_law 750 = .ok (.aload_n 0, 1) := by decide +kernel
set_option maxRecDepth 20000 in
theorem dL_law_751 : decode cL_law 751 = .ok (.iload_n 3, 1) := by decide +kernel
set_option maxRecDepth 20000 in
theorem dL_law_752 : decode cL_law 752 = .ok (.iconst 4, 1) := by decide +kernel
set_option maxRecDepth 20000 in
theorem dL_law_753 : decode cL_law 753 = .ok (.iadd, 1) := by decide +kernel
set_option maxRecDepth 20000 in
theorem dL_law_754 : decode cL_law 754 = .ok (.iaload, 1) := by decide +kernel
set_option maxRecDepth 20000 in
theorem dL_law_755 : decode cL_law 755 = .ok (.invokevirtual 86, 3) := by decide +kernel
set_option maxRecDepth 20000 in
theorem dL_law_758 : decode cL_law 758 = .ok (.if_icmp .eq 133, 3) := by decide +kernel
set_option maxRecDepth 20000 in
theorem dL_law_761 : decode cL_law 761 = .ok (.iconst 0, 1) := by decide +kernel
set_option maxRecDepth 20000 in
theorem dL_law_762 : decode cL_law 762 = .ok (.ireturn, 1) := by decide +kernel
set_option maxRecDepth 20000 in
theorem dL_law_763 : decode cL_law 763 = .ok (.aload_n 1, 1) := by decide +kernel
set_option maxRecDepth 20000 in
theorem dL_law_764 : decode cL_law 764 = .ok (.aload_n 0, 1) := by decide +kernel
set_option maxRecDepth 20000 in
theorem dL_law_765 : decode cL_law 765 = .ok (.iload_n 3, 1) := by decide +kernel
set_option maxRecDepth 20000 in
theorem dL_law_766 : decode cL_law 766 = .ok (.iconst 1, 1) := by decide +kernel
set_option maxRecDepth 20000 in
theorem dL_law_767 : decode cL_law 767 = .ok (.iadd, 1) := by decide +kernel
set_option maxRecDepth 20000 in
theorem dL_law_768 : decode cL_law 768 = .ok (.iaload, 1) := by decide +kernel
set_option maxRecDepth 20000 in
theorem dL_law_769 : decode cL_law 769 = .ok (.aload_n 0, 1) := by decide +kernel
set_option maxRecDepth 20000 in
theorem dL_law_770 : decode cL_law 770 = .ok (.iload_n 3, 1) := by decide +kernel
set_option maxRecDepth 20000 in
theorem dL_law_771 : decode cL_law 771 = .ok (.iconst 2, 1) := by decide +kernel
set_option maxRecDepth 20000 in
theorem dL_law_772 : decode cL_law 772 = .ok (.iadd, 1) := by decide +kernel
set_option maxRecDepth 20000 in
theorem dL_law_773 : decode cL_law 773 = .ok (.iaload, 1) := by decide +kernel
set_option maxRecDepth 20000 in
theorem dL_law_774 : decode cL_law 774 = .ok (.invokevirtual 87, 3) := by decide +kernel
set_option maxRecDepth 20000 in
theorem dL_law_777 : decode cL_law 777 = .ok (.aload_n 2, 1) := by decide +kernel
set_option maxRecDepth 20000 in
theorem dL_law_778 : decode cL_law 778 = .ok (.aload_n 0, 1) := by decide +kernel
set_option maxRecDepth 20000 in
theorem dL_law_779 : decode cL_law 779 = .ok (.iload_n 3, 1) := by decide +kernel
set_option maxRecDepth 20000 in
theorem dL_law_780 : decode cL_law 780 = .ok (.iconst 1, 1) := by decide +kernel
set_option maxRecDepth 20000 in
theorem dL_law_781 : decode cL_law 781 = .ok (.iadd, 1) := by decide +kernel
set_option maxRecDepth 20000 in
theorem dL_law_782 : decode cL_law 782 = .ok (.iaload, 1) := by decide +kernel
set_option maxRecDepth 20000 in
theorem dL_law_783 : decode cL_law 783 = .ok (.aload_n 0, 1) := by decide +kernel
set_option maxRecDepth 20000 in
theorem dL_law_784 : decode cL_law 784 = .ok (.iload_n 3, 1) := by decide +kernel
set_option maxRecDepth 20000 in
theorem dL_law_785 : decode cL_law 785 = .ok (.iconst 2, 1) := by decide +kernel
set_option maxRecDepth 20000 in
theorem dL_law_786 : decode cL_law 786 = .ok (.iadd, 1) := by decide +kernel
set_option maxRecDepth 20000 in
theorem dL_law_787 : decode cL_law 787 = .ok (.iaload, 1) := by decide +kernel
set_option maxRecDepth 20000 in
theorem dL_law_788 : decode cL_law 788 = .ok (.invokevirtual 90, 3) := by decide +kernel
set_option maxRecDepth 20000 in
theorem dL_law_791 : decode cL_law 791 = .ok (.if_icmp .eq 100, 3) := by decide +kernel
set_option maxRecDepth 20000 in
theorem dL_law_794 : decode cL_law 794 = .ok (.iconst 0, 1) := by decide +kernel
set_option maxRecDepth 20000 in
theorem dL_law_795 : decode cL_law 795 = .ok (.ireturn, 1) := by decide +kernel
set_option maxRecDepth 20000 in
theorem dL_law_796 : decode cL_law 796 = .ok (.aload_n 1, 1) := by decide +kernel
set_option maxRecDepth 20000 in
theorem dL_law_797 : decode cL_law 797 = .ok (.aload_n 0, 1) := by decide +kernel
set_option maxRecDepth 20000 in
theorem dL_law_798 : decode cL_law 798 = .ok (.iload_n 3, 1) := by decide +kernel
set_option maxRecDepth 20000 in
theorem dL_law_799 : decode cL_law 799 = .ok (.iconst 1, 1) := by decide +kernel
set_option maxRecDepth 20000 in
theorem dL_law_800 : decode cL_law 800 = .ok (.iadd, 1) := by decide +kernel
set_option maxRecDepth 20000 in
theorem dL_law_801 : decode cL_law 801 = .ok (.iaload, 1) := by decide +kernel
set_option maxRecDepth 20000 in
theorem dL_law_802 : decode cL_law 802 = .ok (.aload_n 0, 1) := by decide +kernel
set_option maxRecDepth 20000 in
theorem dL_law_803 : decode cL_law 803 = .ok (.iload_n 3, 1) := by decide +kernel
set_option maxRecDepth 20000 in
theorem dL_law_804 : decode cL_law 804 = .ok (.iconst 2, 1) := by decide +kernel
set_option maxRecDepth 20000 in
theorem dL_law_805 : decode cL_law 805 = .ok (.iadd, 1) := by decide +kernel
set_option maxRecDepth 20000 in
theorem dL_law_806 : decode cL_law 806 = .ok (.iaload, 1) := by decide +kernel
set_option maxRecDepth 20000 in
theorem dL_law_807 : decode cL_law 807 = .ok (.invokevirtual 91, 3) := by decide +kernel
set_option maxRecDepth 20000 in
theorem dL_law_810 : decode cL_law 810 = .ok (.aload_n 2, 1) := by decide +kernel
set_option maxRecDepth 20000 in
theorem dL_law_811 : decode cL_law 811 = .ok (.aload_n 0, 1) := by decide +kernel
set_option maxRecDepth 20000 in
theorem dL_law_812 : decode cL_law 812 = .ok (.iload_n 3, 1) := by decide +kernel
set_option maxRecDepth 20000 in
theorem dL_law_813 : decode cL_law 813 = .ok (.iconst 1, 1) := by decide +kernel
set_option maxRecDepth 20000 in
theorem dL_law_814 : decode cL_law 814 = .ok (.iadd, 1) := by decide +kernel
set_option maxRecDepth 20000 in
theorem dL_law_815 : decode cL_law 815 = .ok (.iaload, 1) := by decide +kernel
set_option maxRecDepth 20000 in
theorem dL_law_816 : decode cL_law 816 = .ok (.aload_n 0, 1) := by decide +kernel
set_option maxRecDepth 20000 in
theorem dL_law_817 : decode cL_law 817 = .ok (.iload_n 3, 1) := by decide +kernel
set_option maxRecDepth 20000 in
theorem dL_law_818 : decode cL_law 818 = .ok (.iconst 2, 1) := by decide +kernel
set_option maxRecDepth 20000 in
theorem dL_law_819 : decode cL_law 819 = .ok (.iadd, 1) := by decide +kernel
set_option maxRecDepth 20000 in
theorem dL_law_820 : decode cL_law 820 = .ok (.iaload, 1) := by decide +kernel
set_option maxRecDepth 20000 in
theorem dL_law_821 : decode cL_law 821 = .ok (.invokevirtual 94, 3) := by decide +kernel
set_option maxRecDepth 20000 in
theorem dL_law_824 : decode cL_law 824 = .ok (.if_icmp .eq 67, 3) := by decide +kernel
set_option maxRecDepth 20000 in
theorem dL_law_827 : decode cL_law 827 = .ok (.iconst 0, 1) := by decide +kernel
set_option maxRecDepth 20000 in
theorem dL_law_828 : decode cL_law 828 = .ok (.ireturn, 1) := by decide +kernel
set_option maxRecDepth 20000 in
theorem dL_law_829 : decode cL_law 829 = .ok (.aload_n 1, 1) := by decide +kernel
set_option maxRecDepth 20000 in
theorem dL_law_830 : decode cL_law 830 = .ok (.aload_n 0, 1) := by decide +kernel
set_option maxRecDepth 20000 in
theorem dL_law_831 : decode cL_law 831 = .ok (.iload_n 3, 1) := by decide +kernel
set_option maxRecDepth 20000 in
theorem dL_law_832 : decode cL_law 832 = .ok (.iconst 1, 1) := by decide +kernel
set_option maxRecDepth 20000 in
theorem dL_law_833 : decode cL_law 833 = .ok (.iadd, 1) := by decide +kernel
set_option maxRecDepth 20000 in
theorem dL_law_834 : decode cL_law 834 = .ok (.iaload, 1) := by decide +kernel
set_option maxRecDepth 20000 in
theorem dL_law_835 : decode cL_law 835 = .ok (.invokevirtual 95, 3) := by decide +kernel
set_option maxRecDepth 20000 in
theorem dL_law_838 : decode cL_law 838 = .ok (.aload_n 2, 1) := by decide +kernel
set_option maxRecDepth 20000 in
theorem dL_law_839 : decode cL_law 839 = .ok (.aload_n 0, 1) := by decide +kernel
set_option maxRecDepth 20000 in
theorem dL_law_840 : decode cL_law 840 = .ok (.iload_n 3, 1) := by decide +kernel
set_option maxRecDepth 20000 in
theorem dL_law_841 : decode cL_law 841 = .ok (.iconst 1, 1) := by decide +kernel
set_option maxRecDepth 20000 in
theorem dL_law_842 : decode cL_law 842 = .ok (.iadd, 1) := by decide +kernel
set_option maxRecDepth 20000 in
theorem dL_law_843 : decode cL_law 843 = .ok (.iaload, 1) := by decide +kernel
set_option maxRecDepth 20000 in
theorem dL_law_844 : decode cL_law 844 = .ok (.invokevirtual 98, 3) := by decide +kernel
set_option maxRecDepth 20000 in
theorem dL_law_847 : decode cL_law 847 = .ok (.if_icmp .eq 44, 3) := by decide +kernel
set_option maxRecDepth 20000 in
theorem dL_law_850 : decode cL_law 850 = .ok (.iconst 0, 1) := by decide +kernel
set_option maxRecDepth 20000 in
theorem dL_law_851 : decode cL_law 851 = .ok (.ireturn, 1) := by decide +kernel
set_option maxRecDepth 20000 in
theorem dL_law_852 : decode cL_law 852 = .ok (.aload_n 1, 1) := by decide +kernel
set_option maxRecDepth 20000 in
theorem dL_law_853 : decode cL_law 853 = .ok (.invokevirtual 99, 3) := by decide +kernel
set_option maxRecDepth 20000 in
theorem dL_law_856 : decode cL_law 856 = .ok (.aload_n 2, 1) := by decide +kernel
set_option maxRecDepth 20000 in
theorem dL_law_857 : decode cL_law 857 = .ok (.invokevirtual 102, 3) := by decide +kernel
set_option maxRecDepth 20000 in
theorem dL_law_860 : decode cL_law 860 = .ok (.if_icmp .eq 31, 3) := by decide +kernel
set_option maxRecDepth 20000 in
theorem dL_law_863 : decode cL_law 863 = .ok (.iconst 0, 1) := by decide +kernel
set_option maxRecDepth 20000 in
theorem dL_law_864 : decode cL_law 864 = .ok (.ireturn, 1) := by decide +kernel
set_option maxRecDepth 20000 in
theorem dL_law_865 : decode cL_law 865 = .ok (.aload_n 1, 1) := by decide +kernel
set_option maxRecDepth 20000 in
theorem dL_law_866 : decode cL_law 866 = .ok (.invokevirtual 103, 3) := by decide +kernel
set_option maxRecDepth 20000 in
theorem dL_law_869 : decode cL_law 869 = .ok (.aload_n 2, 1) := by decide +kernel
set_option maxRecDepth 20000 in
theorem dL_law_870 : decode cL_law 870 = .ok (.invokevirtual 106, 3) := by decide +kernel
set_option maxRecDepth 20000 in
theorem dL_law_873 : decode cL_law 873 = .ok (.if_icmp .eq 18, 3) := by decide +kernel
set_option maxRecDepth 20000 in
theorem dL_law_876 : decode cL_law 876 = .ok (.iconst 0, 1) := by decide +kernel
set_option maxRecDepth 20000 in
theorem dL_law_877 : decode cL_law 877 = .ok (.ireturn, 1) := by decide +kernel
set_option maxRecDepth 20000 in
theorem dL_law_878 : decode cL_law 878 = .ok (.aload_n 1, 1) := by decide +kernel
set_option maxRecDepth 20000 in
theorem dL_law_879 : decode cL_law 879 = .ok (.invokevirtual 107, 3) := by decide +kernel
set_option maxRecDepth 20000 in
theorem dL_law_882 : decode cL_law 882 = .ok (.aload_n 2, 1) := by decide +kernel
set_option maxRecDepth 20000 in
theorem dL_law_883 : decode cL_law 883 = .ok (.invokevirtual 110, 3) := by decide +kernel
set_option maxRecDepth 20000 in
theorem dL_law_886 : decode cL_law 886 = .ok (.if_icmp .eq 5, 3) := by decide +kernel
set_option maxRecDepth 20000 in
theorem dL_law_889 : decode cL_law 889 = .ok (.iconst 0, 1) := by decide +kernel
set_option maxRecDepth 20000 in
theorem dL_law_890 : decode cL_law 890 = .ok (.ireturn, 1) := by decide +kernel
set_option maxRecDepth 20000 in
theorem dL_law_891 : decode cL_law 891 = .ok (.iinc 3 7, 3) := by decide +kernel
set_option maxRecDepth 20000 in
theorem dL_law_894 : decode cL_law 894 = .ok (.goto (-876), 3) := by decide +kernel
set_option maxRecDepth 20000 in
theorem dL_law_897 : decode cL_law 897 = .ok (.iconst 1, 1) := by decide +kernel
set_option maxRecDepth 20000 in
theorem dL_law_898 : decode cL_law 898 = .ok (.ireturn, 1) := by decide +kernel
end
section
/-! THE BASE: a small machine over numbers (Int), with the heap as shapes (S) and numbers (M); each rule goes back to rows of the kit -/
abbrev ev_V : Type := Int ⊕ Option (Option Nat)
abbrev vi (x : Int) : ev_V := .inl x
abbrev vr (i : Nat) : ev_V := .inr (some (some i))
abbrev vs : ev_V := .inr (some none)
abbrev vn : ev_V := .inr none
abbrev ev_M : Type := Nat → Nat → Int
abbrev ev_Sh : Type := (Nat × Nat) ⊕ (Nat × List (Option (Option Nat))) ⊕ (Nat × Nat × (Nat → Option Nat))
abbrev ev_K : Type := ByteArray × String × Nat × Option FieldType × Bool
def inR (x : Int) : Prop := -2147483648 ≤ x ∧ x < 2147483648
def RM (M : ev_M) : Prop := ∀ i k, inR (M i k)
def okv (v : Option ev_V) : Prop := ∀ x, v = some (vi x) → inR x
def up (M : ev_M) (i k : Nat) (x : Int) : ev_M := fun a b => if a = i ∧ b = k then x else M a b
def tr (sb o : Nat) (v : ev_V) : Value := match v with
  | .inl x => .int (Int32.ofInt x)
  | .inr none => .null
  | .inr (some none) => .ref sb
  | .inr (some (some i)) => .ref (o + i)
def ev_f1 (o : Nat) (f : Nat → Int) (k : Nat) (q : Option (Option Nat)) : Value := match q with
  | none => .int (Int32.ofInt (f k))
  | some r => va_rf (r.map (fun j => o + j))
def ev_fv (o : Nat) (f : Nat → Int) (fl : List (Option (Option Nat))) : List Value := fl.mapIdx (ev_f1 o f)
def ev_cell (o : Nat) (ca : Nat → ClassId) (f : Nat → Int) (sh : ev_Sh) : va_E := match sh with
  | .inl (t, n) => .inl (ca t, n, .inl (fun j => Int32.ofInt (f j)))
  | .inr (.inl (ci, fl)) => .inr (ci, ev_fv o f fl)
  | .inr (.inr (t, n, g)) => .inl (ca t, n, .inr (.inr (.inr (.inr (fun j => (g j).map (fun j => o + j))))))
def ev_w (o : Nat) (ca : Nat → ClassId) (S : List ev_Sh) (M : ev_M) : va_W := S.mapIdx fun i sh => (o + i, ev_cell o ca (M i) sh)
def ev_tys (ca : Nat → ClassId) : List (ClassId × FieldType) := [(ca 0, .int), (ca 1, .boolean), (ca 2, .char), (ca 3, .object "StyleCascade$State")]
def ev_A (o : Nat) : Nat → Prop := fun q => o ≤ q
theorem ev_w_at {o : Nat} {ca : Nat → ClassId} {S : List ev_Sh} {M : ev_M} {i : Nat} {sh : ev_Sh} (h : S[i]? = some sh) : (ev_w o ca S M)[i]? = some (o + i, ev_cell o ca (M i) sh) := by
  simp [ev_w, List.getElem?_mapIdx, h]
theorem ev_w_inv {o : Nat} {ca : Nat → ClassId} {S : List ev_Sh} {M : ev_M} {i : Nat} {q : Nat × va_E} (h : (ev_w o ca S M)[i]? = some q) : ∃ sh, S[i]? = some sh ∧ q = (o + i, ev_cell o ca (M i) sh) := by
  simp only [ev_w, List.getElem?_mapIdx] at h
  cases hs : S[i]? with
  | none => rw [hs] at h; cases h
  | some sh => rw [hs] at h; exact ⟨sh, rfl, (Option.some.inj h).symm⟩
theorem ev_D (o : Nat) (ca : Nat → ClassId) (S : List ev_Sh) (M : ev_M) : va_D (ev_A o) (ev_w o ca S M) := by
  refine ⟨fun i j p q hi hj hpq => ?_, fun k q hk => ?_⟩
  · obtain ⟨s1, -, rfl⟩ := ev_w_inv hi
    obtain ⟨s2, -, rfl⟩ := ev_w_inv hj
    dsimp only at hpq; omega
  · obtain ⟨s1, -, rfl⟩ := ev_w_inv hk
    exact Nat.le_add_right _ _
theorem ev_w_set {o : Nat} {ca : Nat → ClassId} {S : List ev_Sh} {M M' : ev_M} {i : Nat} {sh : ev_Sh} {e : va_E} (h : S[i]? = some sh) (he : e = ev_cell o ca (M' i) sh) (hM : ∀ j, j ≠ i → M' j = M j) : (ev_w o ca S M).set i (o + i, e) = ev_w o ca S M' := by
  apply List.ext_getElem?
  intro j
  have hl : i < (ev_w o ca S M).length := (List.getElem?_eq_some_iff.mp (ev_w_at (o := o) (ca := ca) (M := M) h)).1
  by_cases hj : j = i
  · subst hj
    rw [List.getElem?_set_self hl, ev_w_at h, he]
  · rw [List.getElem?_set_ne (Ne.symm hj)]
    simp only [ev_w, List.getElem?_mapIdx, hM j hj]
theorem ev_w_setS {o : Nat} {ca : Nat → ClassId} {S : List ev_Sh} {M : ev_M} {i : Nat} {sh sh' : ev_Sh} {e : va_E} (h : S[i]? = some sh) (he : e = ev_cell o ca (M i) sh') : (ev_w o ca S M).set i (o + i, e) = ev_w o ca (S.set i sh') M := by
  have hl : i < S.length := (List.getElem?_eq_some_iff.mp h).1
  apply List.ext_getElem?
  intro j
  by_cases hj : j = i
  · subst hj
    rw [List.getElem?_set_self (by simpa [ev_w] using hl)]
    simp [ev_w, List.getElem?_mapIdx, hl, he]
  · rw [List.getElem?_set_ne (Ne.symm hj)]
    simp only [ev_w, List.getElem?_mapIdx, List.getElem?_set_ne (Ne.symm hj)]
theorem ev_w_push {o : Nat} {ca : Nat → ClassId} {S : List ev_Sh} {M : ev_M} {f : Nat → Int} {sh : ev_Sh} {e : va_E} (he : e = ev_cell o ca f sh) : ev_w o ca S M ++ [(o + S.length, e)] = ev_w o ca (S ++ [sh]) (fun a b => if a = S.length then f b else M a b) := by
  unfold ev_w
  rw [List.mapIdx_append]
  congr 1
  · apply List.ext_getElem?
    intro j
    simp only [List.getElem?_mapIdx]
    by_cases hj : j < S.length
    · have : j ≠ S.length := by omega
      simp [this]
    · simp [List.getElem?_eq_none (Nat.le_of_not_lt hj)]
  · simp [he]
-- locals
def ev_Ls (sb o : Nat) (lsr : Array Slot) (nL : Nat) (ls : List (Option ev_V)) : Prop := lsr.size = nL ∧ lv_wf lsr ∧ ∀ (i : Nat) (v : ev_V), ls[i]? = some (some v) → lsr[i]? = some (.val (tr sb o v))
def ev_lst (sb o : Nat) (ls : List (Option ev_V)) : List (Nat × Value) := (List.range ls.length).filterMap fun j => (ls[j]?).join.map fun v => (j, tr sb o v)
theorem tr_cat (sb o : Nat) (v : ev_V) : (tr sb o v).category = 1 := by
  rcases v with x | r
  · rfl
  · rcases r with _ | r
    · rfl
    · rcases r with _ | r <;> rfl
theorem ev_lst_mem {sb o : Nat} {ls : List (Option ev_V)} {i : Nat} {v : ev_V} (h : ls[i]? = some (some v)) : (i, tr sb o v) ∈ ev_lst sb o ls := by
  refine List.mem_filterMap.mpr ⟨i, List.mem_range.mpr (List.getElem?_eq_some_iff.mp h).1, ?_⟩
  simp [h]
theorem ev_lst_inv {sb o : Nat} {ls : List (Option ev_V)} {q : Nat × Value} (h : q ∈ ev_lst sb o ls) : ∃ v, ls[q.1]? = some (some v) ∧ q.2 = tr sb o v := by
  obtain ⟨j, -, hj⟩ := List.mem_filterMap.mp h
  cases hx : ls[j]? with
  | none => rw [hx] at hj; cases hj
  | some y =>
    cases y with
    | none => rw [hx] at hj; cases hj
    | some v =>
      rw [hx] at hj
      cases hj
      exact ⟨v, hx, rfl⟩
theorem ev_Ls.has {sb o : Nat} {lsr : Array Slot} {nL : Nat} {ls : List (Option ev_V)} (h : ev_Ls sb o lsr nL ls) : lv_has lsr nL (ev_lst sb o ls) := by
  refine ⟨h.1, h.2.1, fun q hq => ?_⟩
  obtain ⟨v, h1, h2⟩ := ev_lst_inv hq
  rw [h2]
  exact h.2.2 _ _ h1
theorem ev_Ls.of_store {sb o : Nat} {lsr : Array Slot} {nL : Nat} {ls : List (Option ev_V)} {i : Nat} {v : ev_V} (h : lv_has lsr nL ((i, tr sb o v) :: (ev_lst sb o ls).filter (fun q => !(q.1 == i) && !(q.1 + 1 == i && q.2.category == 2)))) : ev_Ls sb o lsr nL (ls.set i (some v)) := by
  refine ⟨h.1, h.2.1, fun j w hj => ?_⟩
  by_cases hji : j = i
  · subst hji
    have hl : j < ls.length := by
      have := (List.getElem?_eq_some_iff.mp hj).1
      simpa using this
    rw [List.getElem?_set_self hl] at hj
    cases hj
    exact h.2.2 _ List.mem_cons_self
  · rw [List.getElem?_set_ne (Ne.symm hji)] at hj
    refine h.2.2 (j, tr sb o w) (List.mem_cons_of_mem _ (List.mem_filter.mpr ⟨ev_lst_mem hj, ?_⟩))
    simp [hji, tr_cat]
-- numbers
theorem oi_add (x y : Int) : Int32.ofInt x + Int32.ofInt y = Int32.ofInt (x + y) := by
  apply Int32.toBitVec.inj
  simp [BitVec.ofInt_add]
theorem oi_mul (x y : Int) : Int32.ofInt x * Int32.ofInt y = Int32.ofInt (x * y) := by
  apply Int32.toBitVec.inj
  simp [BitVec.ofInt_mul]
theorem oi_sub (x y : Int) : Int32.ofInt x - Int32.ofInt y = Int32.ofInt (x - y) := by
  rw [Int32.sub_eq_add_neg, Int32.neg_ofInt, oi_add, Int.sub_eq_add_neg]
theorem oi_toInt {x : Int} (h : inR x) : (Int32.ofInt x).toInt = x := Int32.toInt_ofInt_of_le h.1 h.2
theorem oi_lt {x y : Int} (hx : inR x) (hy : inR y) : Int32.ofInt x < Int32.ofInt y ↔ x < y := by
  rw [Int32.lt_iff_toInt_lt, oi_toInt hx, oi_toInt hy]
theorem oi_le {x y : Int} (hx : inR x) (hy : inR y) : Int32.ofInt x ≤ Int32.ofInt y ↔ x ≤ y := by
  rw [Int32.le_iff_toInt_le, oi_toInt hx, oi_toInt hy]
theorem oi_eq {x y : Int} (hx : inR x) (hy : inR y) : Int32.ofInt x = Int32.ofInt y ↔ x = y := by
  rw [← Int32.toInt_inj, oi_toInt hx, oi_toInt hy]
theorem in0 : inR 0 := by unfold inR; decide
theorem oi_0 : Int32.ofInt 0 = 0 := by decide
theorem oi_lt0 {x : Int} (hx : inR x) : Int32.ofInt x < 0 ↔ x < 0 := by rw [← oi_0]; exact oi_lt hx in0
theorem oi_le0 {x : Int} (hx : inR x) : Int32.ofInt x ≤ 0 ↔ x ≤ 0 := by rw [← oi_0]; exact oi_le hx in0
theorem oi_0lt {x : Int} (hx : inR x) : 0 < Int32.ofInt x ↔ 0 < x := by rw [← oi_0]; exact oi_lt in0 hx
theorem oi_0le {x : Int} (hx : inR x) : 0 ≤ Int32.ofInt x ↔ 0 ≤ x := by rw [← oi_0]; exact oi_le in0 hx
theorem oi_eq0 {x : Int} (hx : inR x) : Int32.ofInt x = 0 ↔ x = 0 := by rw [← oi_0]; exact oi_eq hx in0
theorem oi_clamp {x : Int} (h : inR x) : (Int32.ofInt x).toNatClampNeg = x.toNat := Int32.toNatClampNeg_ofInt_of_le h.1 h.2
theorem oi_in {x : Int} {n : Nat} (h : inR x) (h0 : 0 ≤ x) (h1 : x < n) : vp_in (Int32.ofInt x) n := by
  unfold vp_in
  rw [oi_lt0 h, oi_clamp h]
  omega
-- the tables' words that a call hands on; those of nest mates
def ev_T : List Cond := lw_tbl.filter goodWord
theorem ev_in {w : Cond} (i : Nat) (h : lw_tbl[i]? = some w) (g : goodWord w = true) : w ∈ ev_T := List.mem_filter.mpr ⟨List.mem_of_getElem? h, g⟩
theorem ev_good : GoodIn ev_T ev_T := fun w hw => ⟨hw, good_of_word (List.mem_filter.mp hw).2⟩
def ev_nw : Cond → Bool
  | .fieldLinkNest .. | .methodLinkNest .. => true
  | _ => false
def ev_Ex (U : State) : Prop := (∀ w ∈ lw_tbl, ev_nw w = true → va_Nw w U) ∧ va_AO "StyleCascade$State" U
theorem ev_nw_tab {w : Cond} (h : ev_nw w = true) : w.onTables = true := by
  cases w <;> first | rfl | (simp [ev_nw] at h)
theorem ev_nw_warm {w : Cond} {s U : State} (h : ev_nw w = true) (hW : s.WarmedH U.vm) (hZ : va_Nw w s) : va_Nw w U := by
  cases w <;> first | exact va_Nw.warmF hW hZ | exact va_Nw.warmM hW hZ | (simp [ev_nw] at h)
theorem ev_Ex.warm {s U : State} (hW : s.WarmedH U.vm) (h : ev_Ex s) : ev_Ex U := ⟨fun w hw hn => ev_nw_warm hn hW (h.1 w hw hn), h.2.moved hW.alike⟩
theorem ev_Ex.same {u U : State} (e : u.vm = U.vm) (h : ev_Ex u) : ev_Ex U := ⟨fun w hw hn => va_Nw.same (ev_nw_tab hn) e (h.1 w hw hn), h.2.moved (by rw [e]; exact Vm.Alike.refl U.vm)⟩
-- the judgement
def ev_Wd (G : va_G) (ca : Nat → ClassId) (o : Nat) (S : List ev_Sh) (M : ev_M) (s : State) (H : Heap) (locs : List Loc) : Prop := H.size = o + S.length ∧ va_P G vwCl (ev_w o ca S M) H ∧ va_S (ev_A o) s.heap H locs
def ev_Cx (X : Option (Nat × (Nat → Int))) (d : Nat) (k : ev_K) (G : va_G) (ca : Nat → ClassId) (sb o : Nat) (p : Program) (R : Room) (s : State) (m : MethodId) (args : Array Value) (meth : Method) (c : Code) : Prop :=
  p.tables.exec = Jvm.exec ∧ c.code = k.1 ∧ meth.sig.returnType = k.2.2.2.1 ∧ meth.locks = false ∧ c.maxLocals = k.2.2.1 ∧ s.vm.findClass k.2.1 = some m.cls ∧ (∀ w ∈ ev_T, w.before args s = true) ∧ ev_Ex s ∧ (k.2.2.2.2 = true → meth.name = "<init>") ∧ d ≤ R.frames ∧ 40 * d ≤ R.locals ∧ va_K G vwCl (ev_tys ca) s ∧ (∀ q, s.heap.size ≤ q → o ≤ q) ∧ ∀ L xs, X = some (L, xs) → va_X sb L (fun j => Int32.ofInt (xs j)) s s.heap ∧ sb < o ∧ sb < s.heap.size
def ev_Qc (G : va_G) (ca : Nat → ClassId) (sb o : Nat) (Q : Option ev_V → List ev_Sh → ev_M → Prop) : Array Value → State → Outcome → State → Prop := fun _ st oc t =>
  (∃ v S' M', Q v S' M' ∧ RM M' ∧ okv v ∧ oc = .returned (v.map (tr sb o)) ∧ t.heap.size = o + S'.length ∧ va_P G vwCl (ev_w o ca S' M') t.heap) ∧ va_F (ev_A o) st t
def Ev (l : Launch) (X : Option (Nat × (Nat → Int))) (d : Nat) (k : ev_K) (b : Nat × Nat) (S : List ev_Sh) (M : ev_M) (pc : Nat) (ls : List (Option ev_V)) (st : List ev_V) (Q : Option ev_V → List ev_Sh → ev_M → Prop) : Prop :=
  RM M → ∀ (p : Program) (e : Env) (R : Room) (s : State) (m : MethodId) (args : Array Value) (below : List Frame) (meth : Method) (c : Code) (G : va_G) (ca : Nat → ClassId) (sb o : Nat), ev_Cx X d k G ca sb o p R s m args meth c →
    ∀ (H : Heap) (locs : List Loc) (cells slots : Nat) (lsr : Array Slot), ev_Wd G ca o S M s H locs → cells + b.1 ≤ R.cells → slots + b.2 ≤ R.slots → ev_Ls sb o lsr k.2.2.1 ls →
      W p l e R s m args below meth c H locs cells slots (MQ below (ev_Qc G ca sb o Q) args s R.cells R.slots (ev_A o)) (F0 m pc lsr (st.map (tr sb o)))
def ev_rm (d : Nat) (b : Nat × Nat) : Room := { frames := d, cells := b.1, slots := b.2, locals := 40 * d }
def ev_Pc (G : va_G) (ca : Nat → ClassId) (sb o : Nat) (S : List ev_Sh) (M : ev_M) (av : List ev_V) : Array Value → State → Prop :=
  va_Pc (av.map (tr sb o)) (fun U => U.heap.size = o + S.length ∧ va_P G vwCl (ev_w o ca S M) U.heap ∧ va_K G vwCl (ev_tys ca) U ∧ ev_Ex U)
def Ct (l : Launch) (d : Nat) (k : ev_K) (y : MethodName) (b : Nat × Nat) (S : List ev_Sh) (M : ev_M) (av : List ev_V) (Q : Option ev_V → List ev_Sh → ev_M → Prop) : Prop :=
  RM M → ∀ (G : va_G) (ca : Nat → ClassId) (sb o : Nat), Met l y (.code y k.1 k.2.2.1 k.2.2.2.1 :: ev_T) (ev_rm d b) (ev_Pc G ca sb o S M av) (ev_Qc G ca sb o Q) b.1 b.2 (ev_A o)
/-- a method's words, and how it is called -/
def ev_MO (y : MethodName) (k : ev_K) (n : Nat) : Prop := Cond.code y k.1 k.2.2.1 k.2.2.2.1 ∈ ev_T ∧ Cond.initialized y.cls ∈ ev_T ∧ (y.cls ≠ "java/lang/invoke/MethodHandle" ∧ y.cls ≠ "java/lang/invoke/VarHandle" ∧ (parseMethodDescriptor y.desc).map (fun d => d.parameters.length) = some n) ∧ k.2.2.1 ≤ 21
def ev_LK (own : String) (idx : Nat) (y : MethodName) : Prop := Cond.methodLink own idx y ∈ ev_T ∨ ∃ host, Cond.methodLinkNest own idx y host ∈ lw_tbl
end
section
section EvRules
variable {l : Launch} {X : Option (Nat × (Nat → Int))} {d : Nat} {k : ev_K} {b : Nat × Nat} {S : List ev_Sh} {M : ev_M} {pc q : Nat} {ls tl : List (Option ev_V)} {st : List ev_V} {Q : Option ev_V → List ev_Sh → ev_M → Prop}

theorem ev_iconst {n : Int} (hd : decode k.1 pc = .ok (.iconst n, 1)) (hq : pc + 1 = q) (K : Ev l X d k b S M q ls (vi n :: st) Q) : Ev l X d k b S M pc ls st Q := by
  intro hR p e R s m args below meth c G ca sb o hC H locs cells slots lsr hW h1 h2 hL
  obtain ⟨hx, hb, hr, hlk, hml, hown, hts, hex, hin, hf, hlo, hK, hos, hX⟩ := id hC
  subst hq
  exact lv_iconst hx hb hd rfl (K hR p e R s m args below meth c G ca sb o hC H locs cells slots lsr hW h1 h2 hL)
theorem ev_bipush {n : Int} (hd : decode k.1 pc = .ok (.bipush n, 2)) (hq : pc + 2 = q) (hn : -128 ≤ n ∧ n < 128) (K : Ev l X d k b S M q ls (vi n :: st) Q) : Ev l X d k b S M pc ls st Q := by
  intro hR p e R s m args below meth c G ca sb o hC H locs cells slots lsr hW h1 h2 hL
  obtain ⟨hx, hb, hr, hlk, hml, hown, hts, hex, hin, hf, hlo, hK, hos, hX⟩ := id hC
  subst hq
  exact lv_bipush hx hb hd (Int8.toInt32_ofInt (by rw [show Int8.minValue.toInt = -128 from rfl]; omega) (by rw [show Int8.maxValue.toInt = 127 from rfl]; omega)) (K hR p e R s m args below meth c G ca sb o hC H locs cells slots lsr hW h1 h2 hL)
theorem ev_sipush {n : Int} (hd : decode k.1 pc = .ok (.sipush n, 3)) (hq : pc + 3 = q) (hn : -32768 ≤ n ∧ n < 32768) (K : Ev l X d k b S M q ls (vi n :: st) Q) : Ev l X d k b S M pc ls st Q := by
  intro hR p e R s m args below meth c G ca sb o hC H locs cells slots lsr hW h1 h2 hL
  obtain ⟨hx, hb, hr, hlk, hml, hown, hts, hex, hin, hf, hlo, hK, hos, hX⟩ := id hC
  subst hq
  exact lv_sipush hx hb hd (Int16.toInt32_ofInt (by rw [show Int16.minValue.toInt = -32768 from rfl]; omega) (by rw [show Int16.maxValue.toInt = 32767 from rfl]; omega)) (K hR p e R s m args below meth c G ca sb o hC H locs cells slots lsr hW h1 h2 hL)
theorem ev_ldc {n : Int} {v : Int32} {idx : Nat} (hd : decode k.1 pc = .ok (.ldc idx, 2)) (hq : pc + 2 = q) (hw : Cond.constant k.2.1 idx v ∈ ev_T) (hv : v = Int32.ofInt n) (K : Ev l X d k b S M q ls (vi n :: st) Q) : Ev l X d k b S M pc ls st Q := by
  intro hR p e R s m args below meth c G ca sb o hC H locs cells slots lsr hW h1 h2 hL
  obtain ⟨hx, hb, hr, hlk, hml, hown, hts, hex, hin, hf, hlo, hK, hos, hX⟩ := id hC
  subst hq
  subst hv
  exact lv_ldc hx hb hown (hts _ hw) hd (K hR p e R s m args below meth c G ca sb o hC H locs cells slots lsr hW h1 h2 hL)
theorem ev_ldcw {n : Int} {v : Int32} {idx : Nat} (hd : decode k.1 pc = .ok (.ldc_w idx, 3)) (hq : pc + 3 = q) (hw : Cond.constant k.2.1 idx v ∈ ev_T) (hv : v = Int32.ofInt n) (K : Ev l X d k b S M q ls (vi n :: st) Q) : Ev l X d k b S M pc ls st Q := by
  intro hR p e R s m args below meth c G ca sb o hC H locs cells slots lsr hW h1 h2 hL
  obtain ⟨hx, hb, hr, hlk, hml, hown, hts, hex, hin, hf, hlo, hK, hos, hX⟩ := id hC
  subst hq
  subst hv
  exact lv_ldcw hx hb hown (hts _ hw) hd (K hR p e R s m args below meth c G ca sb o hC H locs cells slots lsr hW h1 h2 hL)
theorem ev_null (hd : decode k.1 pc = .ok (.aconst_null, 1)) (hq : pc + 1 = q) (K : Ev l X d k b S M q ls (vn :: st) Q) : Ev l X d k b S M pc ls st Q := by
  intro hR p e R s m args below meth c G ca sb o hC H locs cells slots lsr hW h1 h2 hL
  obtain ⟨hx, hb, hr, hlk, hml, hown, hts, hex, hin, hf, hlo, hK, hos, hX⟩ := id hC
  subst hq
  exact lv_null hx hb hd (K hR p e R s m args below meth c G ca sb o hC H locs cells slots lsr hW h1 h2 hL)

theorem ev_iload_g {i : Nat} {x : Int} (hd : (∃ j : Fin 4, (j : Nat) = i ∧ decode k.1 pc = .ok (.iload_n j, 1) ∧ pc + 1 = q) ∨ (decode k.1 pc = .ok (.iload i, 2) ∧ pc + 2 = q)) (hl : ls[i]? = some (some (vi x))) (K : Ev l X d k b S M q ls (vi x :: st) Q) : Ev l X d k b S M pc ls st Q := by
  intro hR p e R s m args below meth c G ca sb o hC H locs cells slots lsr hW h1 h2 hL
  obtain ⟨hx, hb, hr, hlk, hml, hown, hts, hex, hin, hf, hlo, hK, hos, hX⟩ := id hC
  have hv := hL.2.2 i _ hl
  rcases hd with ⟨j, hj, hd, hq⟩ | ⟨hd, hq⟩ <;> subst hq
  · exact lv_iload_n hx hb hd hj hv (K hR p e R s m args below meth c G ca sb o hC H locs cells slots lsr hW h1 h2 hL)
  · exact lv_iload hx hb hd hv (K hR p e R s m args below meth c G ca sb o hC H locs cells slots lsr hW h1 h2 hL)
theorem ev_aload_g {i : Nat} {r : Option (Option Nat)} (hd : (∃ j : Fin 4, (j : Nat) = i ∧ decode k.1 pc = .ok (.aload_n j, 1) ∧ pc + 1 = q) ∨ (decode k.1 pc = .ok (.aload i, 2) ∧ pc + 2 = q)) (hl : ls[i]? = some (some (.inr r))) (K : Ev l X d k b S M q ls (.inr r :: st) Q) : Ev l X d k b S M pc ls st Q := by
  intro hR p e R s m args below meth c G ca sb o hC H locs cells slots lsr hW h1 h2 hL
  obtain ⟨hx, hb, hr, hlk, hml, hown, hts, hex, hin, hf, hlo, hK, hos, hX⟩ := id hC
  have hv := hL.2.2 i _ hl
  rcases hd with ⟨j, hj, hd, hq⟩ | ⟨hd, hq⟩ <;> subst hq <;> rcases r with _ | r
  · exact lv_aload_nN hx hb hd hj hv (K hR p e R s m args below meth c G ca sb o hC H locs cells slots lsr hW h1 h2 hL)
  · rcases r with _ | r
    · exact lv_aload_n hx hb hd hj hv (K hR p e R s m args below meth c G ca sb o hC H locs cells slots lsr hW h1 h2 hL)
    · exact lv_aload_n hx hb hd hj hv (K hR p e R s m args below meth c G ca sb o hC H locs cells slots lsr hW h1 h2 hL)
  · exact lv_aloadN hx hb hd hv (K hR p e R s m args below meth c G ca sb o hC H locs cells slots lsr hW h1 h2 hL)
  · rcases r with _ | r
    · exact lv_aload hx hb hd hv (K hR p e R s m args below meth c G ca sb o hC H locs cells slots lsr hW h1 h2 hL)
    · exact lv_aload hx hb hd hv (K hR p e R s m args below meth c G ca sb o hC H locs cells slots lsr hW h1 h2 hL)
theorem ev_istore_g {i : Nat} {x : Int} (hd : (∃ j : Fin 4, (j : Nat) = i ∧ decode k.1 pc = .ok (.istore_n j, 1) ∧ pc + 1 = q) ∨ (decode k.1 pc = .ok (.istore i, 2) ∧ pc + 2 = q)) (hi : i < k.2.2.1) (K : Ev l X d k b S M q (ls.set i (some (vi x))) st Q) : Ev l X d k b S M pc ls (vi x :: st) Q := by
  intro hR p e R s m args below meth c G ca sb o hC H locs cells slots lsr hW h1 h2 hL
  obtain ⟨hx, hb, hr, hlk, hml, hown, hts, hex, hin, hf, hlo, hK, hos, hX⟩ := id hC
  have hh := hL.has
  rcases hd with ⟨j, hj, hd, hq⟩ | ⟨hd, hq⟩ <;> subst hq
  · exact lv_istore_n hx hb hd hj hh hi rfl (fun lsr' h' => K hR p e R s m args below meth c G ca sb o hC H locs cells slots lsr' hW h1 h2 (ev_Ls.of_store (v := vi x) h'))
  · exact lv_istore hx hb hd hh hi rfl (fun lsr' h' => K hR p e R s m args below meth c G ca sb o hC H locs cells slots lsr' hW h1 h2 (ev_Ls.of_store (v := vi x) h'))
theorem ev_astore_g {i : Nat} {r : Option (Option Nat)} (hd : (∃ j : Fin 4, (j : Nat) = i ∧ decode k.1 pc = .ok (.astore_n j, 1) ∧ pc + 1 = q) ∨ (decode k.1 pc = .ok (.astore i, 2) ∧ pc + 2 = q)) (hi : i < k.2.2.1) (K : Ev l X d k b S M q (ls.set i (some (.inr r))) st Q) : Ev l X d k b S M pc ls (.inr r :: st) Q := by
  intro hR p e R s m args below meth c G ca sb o hC H locs cells slots lsr hW h1 h2 hL
  obtain ⟨hx, hb, hr, hlk, hml, hown, hts, hex, hin, hf, hlo, hK, hos, hX⟩ := id hC
  have hh := hL.has
  rcases hd with ⟨j, hj, hd, hq⟩ | ⟨hd, hq⟩ <;> subst hq <;> rcases r with _ | r
  · exact lv_astore_nN hx hb hd hj hh hi rfl (fun lsr' h' => K hR p e R s m args below meth c G ca sb o hC H locs cells slots lsr' hW h1 h2 (ev_Ls.of_store (v := vn) h'))
  · rcases r with _ | r
    · exact lv_astore_n hx hb hd hj hh hi rfl (fun lsr' h' => K hR p e R s m args below meth c G ca sb o hC H locs cells slots lsr' hW h1 h2 (ev_Ls.of_store (v := vs) h'))
    · exact lv_astore_n hx hb hd hj hh hi rfl (fun lsr' h' => K hR p e R s m args below meth c G ca sb o hC H locs cells slots lsr' hW h1 h2 (ev_Ls.of_store (v := vr r) h'))
  · exact lv_astoreN hx hb hd hh hi rfl (fun lsr' h' => K hR p e R s m args below meth c G ca sb o hC H locs cells slots lsr' hW h1 h2 (ev_Ls.of_store (v := vn) h'))
  · rcases r with _ | r
    · exact lv_astore hx hb hd hh hi rfl (fun lsr' h' => K hR p e R s m args below meth c G ca sb o hC H locs cells slots lsr' hW h1 h2 (ev_Ls.of_store (v := vs) h'))
    · exact lv_astore hx hb hd hh hi rfl (fun lsr' h' => K hR p e R s m args below meth c G ca sb o hC H locs cells slots lsr' hW h1 h2 (ev_Ls.of_store (v := vr r) h'))
theorem ev_iinc_g {i : Nat} {x n : Int} (hd : decode k.1 pc = .ok (.iinc i n, 3)) (hq : pc + 3 = q) (hi : i < k.2.2.1) (hl : ls[i]? = some (some (vi x))) (K : Ev l X d k b S M q (ls.set i (some (vi (x + n)))) st Q) : Ev l X d k b S M pc ls st Q := by
  intro hR p e R s m args below meth c G ca sb o hC H locs cells slots lsr hW h1 h2 hL
  obtain ⟨hx, hb, hr, hlk, hml, hown, hts, hex, hin, hf, hlo, hK, hos, hX⟩ := id hC
  have hh := hL.has
  obtain ⟨j, hj⟩ := List.getElem?_of_mem (ev_lst_mem (sb := sb) (o := o) hl)
  subst hq
  exact lv_iinc (v := Int32.ofInt (x + n)) hx hb hd hh hj (oi_add x n) hi rfl (fun lsr' h' => K hR p e R s m args below meth c G ca sb o hC H locs cells slots lsr' hW h1 h2 (ev_Ls.of_store (v := vi (x + n)) h'))

theorem ev_iload_0 {x : Int} (hd : decode k.1 pc = .ok (.iload_n 0, 1)) (hq : pc + 1 = q) (K : Ev l X d k b S M q (some (vi x) :: tl) (vi x :: st) Q) : Ev l X d k b S M pc (some (vi x) :: tl) st Q := ev_iload_g (Or.inl ⟨0, rfl, hd, hq⟩) rfl K
theorem ev_aload_0 {r : Option (Option Nat)} (hd : decode k.1 pc = .ok (.aload_n 0, 1)) (hq : pc + 1 = q) (K : Ev l X d k b S M q (some (.inr r) :: tl) (.inr r :: st) Q) : Ev l X d k b S M pc (some (.inr r) :: tl) st Q := ev_aload_g (Or.inl ⟨0, rfl, hd, hq⟩) rfl K
theorem ev_istore_0 { z : Option ev_V} {x : Int} (hd : decode k.1 pc = .ok (.istore_n 0, 1)) (hq : pc + 1 = q) (hi : 0 < k.2.2.1) (K : Ev l X d k b S M q (some (vi x) :: tl) st Q) : Ev l X d k b S M pc (z :: tl) (vi x :: st) Q := ev_istore_g (Or.inl ⟨0, rfl, hd, hq⟩) hi K
theorem ev_astore_0 { z : Option ev_V} {r : Option (Option Nat)} (hd : decode k.1 pc = .ok (.astore_n 0, 1)) (hq : pc + 1 = q) (hi : 0 < k.2.2.1) (K : Ev l X d k b S M q (some (.inr r) :: tl) st Q) : Ev l X d k b S M pc (z :: tl) (.inr r :: st) Q := ev_astore_g (Or.inl ⟨0, rfl, hd, hq⟩) hi K
theorem ev_iinc_0 {x n : Int} (hd : decode k.1 pc = .ok (.iinc 0 n, 3)) (hq : pc + 3 = q) (hi : 0 < k.2.2.1) (K : Ev l X d k b S M q (some (vi (x + n)) :: tl) st Q) : Ev l X d k b S M pc (some (vi x) :: tl) st Q := ev_iinc_g hd hq hi rfl K
theorem ev_iload_1 {a0 : Option ev_V} {x : Int} (hd : decode k.1 pc = .ok (.iload_n 1, 1)) (hq : pc + 1 = q) (K : Ev l X d k b S M q (a0 :: some (vi x) :: tl) (vi x :: st) Q) : Ev l X d k b S M pc (a0 :: some (vi x) :: tl) st Q := ev_iload_g (Or.inl ⟨1, rfl, hd, hq⟩) rfl K
theorem ev_aload_1 {a0 : Option ev_V} {r : Option (Option Nat)} (hd : decode k.1 pc = .ok (.aload_n 1, 1)) (hq : pc + 1 = q) (K : Ev l X d k b S M q (a0 :: some (.inr r) :: tl) (.inr r :: st) Q) : Ev l X d k b S M pc (a0 :: some (.inr r) :: tl) st Q := ev_aload_g (Or.inl ⟨1, rfl, hd, hq⟩) rfl K
theorem ev_istore_1 {a0 z : Option ev_V} {x : Int} (hd : decode k.1 pc = .ok (.istore_n 1, 1)) (hq : pc + 1 = q) (hi : 1 < k.2.2.1) (K : Ev l X d k b S M q (a0 :: some (vi x) :: tl) st Q) : Ev l X d k b S M pc (a0 :: z :: tl) (vi x :: st) Q := ev_istore_g (Or.inl ⟨1, rfl, hd, hq⟩) hi K
theorem ev_astore_1 {a0 z : Option ev_V} {r : Option (Option Nat)} (hd : decode k.1 pc = .ok (.astore_n 1, 1)) (hq : pc + 1 = q) (hi : 1 < k.2.2.1) (K : Ev l X d k b S M q (a0 :: some (.inr r) :: tl) st Q) : Ev l X d k b S M pc (a0 :: z :: tl) (.inr r :: st) Q := ev_astore_g (Or.inl ⟨1, rfl, hd, hq⟩) hi K
theorem ev_iinc_1 {a0 : Option ev_V} {x n : Int} (hd : decode k.1 pc = .ok (.iinc 1 n, 3)) (hq : pc + 3 = q) (hi : 1 < k.2.2.1) (K : Ev l X d k b S M q (a0 :: some (vi (x + n)) :: tl) st Q) : Ev l X d k b S M pc (a0 :: some (vi x) :: tl) st Q := ev_iinc_g hd hq hi rfl K
theorem ev_iload_2 {a0 a1 : Option ev_V} {x : Int} (hd : decode k.1 pc = .ok (.iload_n 2, 1)) (hq : pc + 1 = q) (K : Ev l X d k b S M q (a0 :: a1 :: some (vi x) :: tl) (vi x :: st) Q) : Ev l X d k b S M pc (a0 :: a1 :: some (vi x) :: tl) st Q := ev_iload_g (Or.inl ⟨2, rfl, hd, hq⟩) rfl K
theorem ev_aload_2 {a0 a1 : Option ev_V} {r : Option (Option Nat)} (hd : decode k.1 pc = .ok (.aload_n 2, 1)) (hq : pc + 1 = q) (K : Ev l X d k b S M q (a0 :: a1 :: some (.inr r) :: tl) (.inr r :: st) Q) : Ev l X d k b S M pc (a0 :: a1 :: some (.inr r) :: tl) st Q := ev_aload_g (Or.inl ⟨2, rfl, hd, hq⟩) rfl K
theorem ev_istore_2 {a0 a1 z : Option ev_V} {x : Int} (hd : decode k.1 pc = .ok (.istore_n 2, 1)) (hq : pc + 1 = q) (hi : 2 < k.2.2.1) (K : Ev l X d k b S M q (a0 :: a1 :: some (vi x) :: tl) st Q) : Ev l X d k b S M pc (a0 :: a1 :: z :: tl) (vi x :: st) Q := ev_istore_g (Or.inl ⟨2, rfl, hd, hq⟩) hi K
theorem ev_astore_2 {a0 a1 z : Option ev_V} {r : Option (Option Nat)} (hd : decode k.1 pc = .ok (.astore_n 2, 1)) (hq : pc + 1 = q) (hi : 2 < k.2.2.1) (K : Ev l X d k b S M q (a0 :: a1 :: some (.inr r) :: tl) st Q) : Ev l X d k b S M pc (a0 :: a1 :: z :: tl) (.inr r :: st) Q := ev_astore_g (Or.inl ⟨2, rfl, hd, hq⟩) hi K
theorem ev_iinc_2 {a0 a1 : Option ev_V} {x n : Int} (hd : decode k.1 pc = .ok (.iinc 2 n, 3)) (hq : pc + 3 = q) (hi : 2 < k.2.2.1) (K : Ev l X d k b S M q (a0 :: a1 :: some (vi (x + n)) :: tl) st Q) : Ev l X d k b S M pc (a0 :: a1 :: some (vi x) :: tl) st Q := ev_iinc_g hd hq hi rfl K
theorem ev_iload_3 {a0 a1 a2 : Option ev_V} {x : Int} (hd : decode k.1 pc = .ok (.iload_n 3, 1)) (hq : pc + 1 = q) (K : Ev l X d k b S M q (a0 :: a1 :: a2 :: some (vi x) :: tl) (vi x :: st) Q) : Ev l X d k b S M pc (a0 :: a1 :: a2 :: some (vi x) :: tl) st Q := ev_iload_g (Or.inl ⟨3, rfl, hd, hq⟩) rfl K
theorem ev_aload_3 {a0 a1 a2 : Option ev_V} {r : Option (Option Nat)} (hd : decode k.1 pc = .ok (.aload_n 3, 1)) (hq : pc + 1 = q) (K : Ev l X d k b S M q (a0 :: a1 :: a2 :: some (.inr r) :: tl) (.inr r :: st) Q) : Ev l X d k b S M pc (a0 :: a1 :: a2 :: some (.inr r) :: tl) st Q := ev_aload_g (Or.inl ⟨3, rfl, hd, hq⟩) rfl K
theorem ev_istore_3 {a0 a1 a2 z : Option ev_V} {x : Int} (hd : decode k.1 pc = .ok (.istore_n 3, 1)) (hq : pc + 1 = q) (hi : 3 < k.2.2.1) (K : Ev l X d k b S M q (a0 :: a1 :: a2 :: some (vi x) :: tl) st Q) : Ev l X d k b S M pc (a0 :: a1 :: a2 :: z :: tl) (vi x :: st) Q := ev_istore_g (Or.inl ⟨3, rfl, hd, hq⟩) hi K
theorem ev_astore_3 {a0 a1 a2 z : Option ev_V} {r : Option (Option Nat)} (hd : decode k.1 pc = .ok (.astore_n 3, 1)) (hq : pc + 1 = q) (hi : 3 < k.2.2.1) (K : Ev l X d k b S M q (a0 :: a1 :: a2 :: some (.inr r) :: tl) st Q) : Ev l X d k b S M pc (a0 :: a1 :: a2 :: z :: tl) (.inr r :: st) Q := ev_astore_g (Or.inl ⟨3, rfl, hd, hq⟩) hi K
theorem ev_iinc_3 {a0 a1 a2 : Option ev_V} {x n : Int} (hd : decode k.1 pc = .ok (.iinc 3 n, 3)) (hq : pc + 3 = q) (hi : 3 < k.2.2.1) (K : Ev l X d k b S M q (a0 :: a1 :: a2 :: some (vi (x + n)) :: tl) st Q) : Ev l X d k b S M pc (a0 :: a1 :: a2 :: some (vi x) :: tl) st Q := ev_iinc_g hd hq hi rfl K
theorem ev_iload_4 {a0 a1 a2 a3 : Option ev_V} {x : Int} (hd : decode k.1 pc = .ok (.iload 4, 2)) (hq : pc + 2 = q) (K : Ev l X d k b S M q (a0 :: a1 :: a2 :: a3 :: some (vi x) :: tl) (vi x :: st) Q) : Ev l X d k b S M pc (a0 :: a1 :: a2 :: a3 :: some (vi x) :: tl) st Q := ev_iload_g (Or.inr ⟨hd, hq⟩) rfl K
theorem ev_aload_4 {a0 a1 a2 a3 : Option ev_V} {r : Option (Option Nat)} (hd : decode k.1 pc = .ok (.aload 4, 2)) (hq : pc + 2 = q) (K : Ev l X d k b S M q (a0 :: a1 :: a2 :: a3 :: some (.inr r) :: tl) (.inr r :: st) Q) : Ev l X d k b S M pc (a0 :: a1 :: a2 :: a3 :: some (.inr r) :: tl) st Q := ev_aload_g (Or.inr ⟨hd, hq⟩) rfl K
theorem ev_istore_4 {a0 a1 a2 a3 z : Option ev_V} {x : Int} (hd : decode k.1 pc = .ok (.istore 4, 2)) (hq : pc + 2 = q) (hi : 4 < k.2.2.1) (K : Ev l X d k b S M q (a0 :: a1 :: a2 :: a3 :: some (vi x) :: tl) st Q) : Ev l X d k b S M pc (a0 :: a1 :: a2 :: a3 :: z :: tl) (vi x :: st) Q := ev_istore_g (Or.inr ⟨hd, hq⟩) hi K
theorem ev_astore_4 {a0 a1 a2 a3 z : Option ev_V} {r : Option (Option Nat)} (hd : decode k.1 pc = .ok (.astore 4, 2)) (hq : pc + 2 = q) (hi : 4 < k.2.2.1) (K : Ev l X d k b S M q (a0 :: a1 :: a2 :: a3 :: some (.inr r) :: tl) st Q) : Ev l X d k b S M pc (a0 :: a1 :: a2 :: a3 :: z :: tl) (.inr r :: st) Q := ev_astore_g (Or.inr ⟨hd, hq⟩) hi K
theorem ev_iinc_4 {a0 a1 a2 a3 : Option ev_V} {x n : Int} (hd : decode k.1 pc = .ok (.iinc 4 n, 3)) (hq : pc + 3 = q) (hi : 4 < k.2.2.1) (K : Ev l X d k b S M q (a0 :: a1 :: a2 :: a3 :: some (vi (x + n)) :: tl) st Q) : Ev l X d k b S M pc (a0 :: a1 :: a2 :: a3 :: some (vi x) :: tl) st Q := ev_iinc_g hd hq hi rfl K
theorem ev_iload_5 {a0 a1 a2 a3 a4 : Option ev_V} {x : Int} (hd : decode k.1 pc = .ok (.iload 5, 2)) (hq : pc + 2 = q) (K : Ev l X d k b S M q (a0 :: a1 :: a2 :: a3 :: a4 :: some (vi x) :: tl) (vi x :: st) Q) : Ev l X d k b S M pc (a0 :: a1 :: a2 :: a3 :: a4 :: some (vi x) :: tl) st Q := ev_iload_g (Or.inr ⟨hd, hq⟩) rfl K
theorem ev_aload_5 {a0 a1 a2 a3 a4 : Option ev_V} {r : Option (Option Nat)} (hd : decode k.1 pc = .ok (.aload 5, 2)) (hq : pc + 2 = q) (K : Ev l X d k b S M q (a0 :: a1 :: a2 :: a3 :: a4 :: some (.inr r) :: tl) (.inr r :: st) Q) : Ev l X d k b S M pc (a0 :: a1 :: a2 :: a3 :: a4 :: some (.inr r) :: tl) st Q := ev_aload_g (Or.inr ⟨hd, hq⟩) rfl K
theorem ev_istore_5 {a0 a1 a2 a3 a4 z : Option ev_V} {x : Int} (hd : decode k.1 pc = .ok (.istore 5, 2)) (hq : pc + 2 = q) (hi : 5 < k.2.2.1) (K : Ev l X d k b S M q (a0 :: a1 :: a2 :: a3 :: a4 :: some (vi x) :: tl) st Q) : Ev l X d k b S M pc (a0 :: a1 :: a2 :: a3 :: a4 :: z :: tl) (vi x :: st) Q := ev_istore_g (Or.inr ⟨hd, hq⟩) hi K
theorem ev_astore_5 {a0 a1 a2 a3 a4 z : Option ev_V} {r : Option (Option Nat)} (hd : decode k.1 pc = .ok (.astore 5, 2)) (hq : pc + 2 = q) (hi : 5 < k.2.2.1) (K : Ev l X d k b S M q (a0 :: a1 :: a2 :: a3 :: a4 :: some (.inr r) :: tl) st Q) : Ev l X d k b S M pc (a0 :: a1 :: a2 :: a3 :: a4 :: z :: tl) (.inr r :: st) Q := ev_astore_g (Or.inr ⟨hd, hq⟩) hi K
theorem ev_iinc_5 {a0 a1 a2 a3 a4 : Option ev_V} {x n : Int} (hd : decode k.1 pc = .ok (.iinc 5 n, 3)) (hq : pc + 3 = q) (hi : 5 < k.2.2.1) (K : Ev l X d k b S M q (a0 :: a1 :: a2 :: a3 :: a4 :: some (vi (x + n)) :: tl) st Q) : Ev l X d k b S M pc (a0 :: a1 :: a2 :: a3 :: a4 :: some (vi x) :: tl) st Q := ev_iinc_g hd hq hi rfl K
theorem ev_iload_6 {a0 a1 a2 a3 a4 a5 : Option ev_V} {x : Int} (hd : decode k.1 pc = .ok (.iload 6, 2)) (hq : pc + 2 = q) (K : Ev l X d k b S M q (a0 :: a1 :: a2 :: a3 :: a4 :: a5 :: some (vi x) :: tl) (vi x :: st) Q) : Ev l X d k b S M pc (a0 :: a1 :: a2 :: a3 :: a4 :: a5 :: some (vi x) :: tl) st Q := ev_iload_g (Or.inr ⟨hd, hq⟩) rfl K
theorem ev_aload_6 {a0 a1 a2 a3 a4 a5 : Option ev_V} {r : Option (Option Nat)} (hd : decode k.1 pc = .ok (.aload 6, 2)) (hq : pc + 2 = q) (K : Ev l X d k b S M q (a0 :: a1 :: a2 :: a3 :: a4 :: a5 :: some (.inr r) :: tl) (.inr r :: st) Q) : Ev l X d k b S M pc (a0 :: a1 :: a2 :: a3 :: a4 :: a5 :: some (.inr r) :: tl) st Q := ev_aload_g (Or.inr ⟨hd, hq⟩) rfl K
theorem ev_istore_6 {a0 a1 a2 a3 a4 a5 z : Option ev_V} {x : Int} (hd : decode k.1 pc = .ok (.istore 6, 2)) (hq : pc + 2 = q) (hi : 6 < k.2.2.1) (K : Ev l X d k b S M q (a0 :: a1 :: a2 :: a3 :: a4 :: a5 :: some (vi x) :: tl) st Q) : Ev l X d k b S M pc (a0 :: a1 :: a2 :: a3 :: a4 :: a5 :: z :: tl) (vi x :: st) Q := ev_istore_g (Or.inr ⟨hd, hq⟩) hi K
theorem ev_astore_6 {a0 a1 a2 a3 a4 a5 z : Option ev_V} {r : Option (Option Nat)} (hd : decode k.1 pc = .ok (.astore 6, 2)) (hq : pc + 2 = q) (hi : 6 < k.2.2.1) (K : Ev l X d k b S M q (a0 :: a1 :: a2 :: a3 :: a4 :: a5 :: some (.inr r) :: tl) st Q) : Ev l X d k b S M pc (a0 :: a1 :: a2 :: a3 :: a4 :: a5 :: z :: tl) (.inr r :: st) Q := ev_astore_g (Or.inr ⟨hd, hq⟩) hi K
theorem ev_iinc_6 {a0 a1 a2 a3 a4 a5 : Option ev_V} {x n : Int} (hd : decode k.1 pc = .ok (.iinc 6 n, 3)) (hq : pc + 3 = q) (hi : 6 < k.2.2.1) (K : Ev l X d k b S M q (a0 :: a1 :: a2 :: a3 :: a4 :: a5 :: some (vi (x + n)) :: tl) st Q) : Ev l X d k b S M pc (a0 :: a1 :: a2 :: a3 :: a4 :: a5 :: some (vi x) :: tl) st Q := ev_iinc_g hd hq hi rfl K
theorem ev_iload_7 {a0 a1 a2 a3 a4 a5 a6 : Option ev_V} {x : Int} (hd : decode k.1 pc = .ok (.iload 7, 2)) (hq : pc + 2 = q) (K : Ev l X d k b S M q (a0 :: a1 :: a2 :: a3 :: a4 :: a5 :: a6 :: some (vi x) :: tl) (vi x :: st) Q) : Ev l X d k b S M pc (a0 :: a1 :: a2 :: a3 :: a4 :: a5 :: a6 :: some (vi x) :: tl) st Q := ev_iload_g (Or.inr ⟨hd, hq⟩) rfl K
theorem ev_aload_7 {a0 a1 a2 a3 a4 a5 a6 : Option ev_V} {r : Option (Option Nat)} (hd : decode k.1 pc = .ok (.aload 7, 2)) (hq : pc + 2 = q) (K : Ev l X d k b S M q (a0 :: a1 :: a2 :: a3 :: a4 :: a5 :: a6 :: some (.inr r) :: tl) (.inr r :: st) Q) : Ev l X d k b S M pc (a0 :: a1 :: a2 :: a3 :: a4 :: a5 :: a6 :: some (.inr r) :: tl) st Q := ev_aload_g (Or.inr ⟨hd, hq⟩) rfl K
theorem ev_istore_7 {a0 a1 a2 a3 a4 a5 a6 z : Option ev_V} {x : Int} (hd : decode k.1 pc = .ok (.istore 7, 2)) (hq : pc + 2 = q) (hi : 7 < k.2.2.1) (K : Ev l X d k b S M q (a0 :: a1 :: a2 :: a3 :: a4 :: a5 :: a6 :: some (vi x) :: tl) st Q) : Ev l X d k b S M pc (a0 :: a1 :: a2 :: a3 :: a4 :: a5 :: a6 :: z :: tl) (vi x :: st) Q := ev_istore_g (Or.inr ⟨hd, hq⟩) hi K
theorem ev_astore_7 {a0 a1 a2 a3 a4 a5 a6 z : Option ev_V} {r : Option (Option Nat)} (hd : decode k.1 pc = .ok (.astore 7, 2)) (hq : pc + 2 = q) (hi : 7 < k.2.2.1) (K : Ev l X d k b S M q (a0 :: a1 :: a2 :: a3 :: a4 :: a5 :: a6 :: some (.inr r) :: tl) st Q) : Ev l X d k b S M pc (a0 :: a1 :: a2 :: a3 :: a4 :: a5 :: a6 :: z :: tl) (.inr r :: st) Q := ev_astore_g (Or.inr ⟨hd, hq⟩) hi K
theorem ev_iinc_7 {a0 a1 a2 a3 a4 a5 a6 : Option ev_V} {x n : Int} (hd : decode k.1 pc = .ok (.iinc 7 n, 3)) (hq : pc + 3 = q) (hi : 7 < k.2.2.1) (K : Ev l X d k b S M q (a0 :: a1 :: a2 :: a3 :: a4 :: a5 :: a6 :: some (vi (x + n)) :: tl) st Q) : Ev l X d k b S M pc (a0 :: a1 :: a2 :: a3 :: a4 :: a5 :: a6 :: some (vi x) :: tl) st Q := ev_iinc_g hd hq hi rfl K
theorem ev_iload_8 {a0 a1 a2 a3 a4 a5 a6 a7 : Option ev_V} {x : Int} (hd : decode k.1 pc = .ok (.iload 8, 2)) (hq : pc + 2 = q) (K : Ev l X d k b S M q (a0 :: a1 :: a2 :: a3 :: a4 :: a5 :: a6 :: a7 :: some (vi x) :: tl) (vi x :: st) Q) : Ev l X d k b S M pc (a0 :: a1 :: a2 :: a3 :: a4 :: a5 :: a6 :: a7 :: some (vi x) :: tl) st Q := ev_iload_g (Or.inr ⟨hd, hq⟩) rfl K
theorem ev_aload_8 {a0 a1 a2 a3 a4 a5 a6 a7 : Option ev_V} {r : Option (Option Nat)} (hd : decode k.1 pc = .ok (.aload 8, 2)) (hq : pc + 2 = q) (K : Ev l X d k b S M q (a0 :: a1 :: a2 :: a3 :: a4 :: a5 :: a6 :: a7 :: some (.inr r) :: tl) (.inr r :: st) Q) : Ev l X d k b S M pc (a0 :: a1 :: a2 :: a3 :: a4 :: a5 :: a6 :: a7 :: some (.inr r) :: tl) st Q := ev_aload_g (Or.inr ⟨hd, hq⟩) rfl K
theorem ev_istore_8 {a0 a1 a2 a3 a4 a5 a6 a7 z : Option ev_V} {x : Int} (hd : decode k.1 pc = .ok (.istore 8, 2)) (hq : pc + 2 = q) (hi : 8 < k.2.2.1) (K : Ev l X d k b S M q (a0 :: a1 :: a2 :: a3 :: a4 :: a5 :: a6 :: a7 :: some (vi x) :: tl) st Q) : Ev l X d k b S M pc (a0 :: a1 :: a2 :: a3 :: a4 :: a5 :: a6 :: a7 :: z :: tl) (vi x :: st) Q := ev_istore_g (Or.inr ⟨hd, hq⟩) hi K
theorem ev_astore_8 {a0 a1 a2 a3 a4 a5 a6 a7 z : Option ev_V} {r : Option (Option Nat)} (hd : decode k.1 pc = .ok (.astore 8, 2)) (hq : pc + 2 = q) (hi : 8 < k.2.2.1) (K : Ev l X d k b S M q (a0 :: a1 :: a2 :: a3 :: a4 :: a5 :: a6 :: a7 :: some (.inr r) :: tl) st Q) : Ev l X d k b S M pc (a0 :: a1 :: a2 :: a3 :: a4 :: a5 :: a6 :: a7 :: z :: tl) (.inr r :: st) Q := ev_astore_g (Or.inr ⟨hd, hq⟩) hi K
theorem ev_iinc_8 {a0 a1 a2 a3 a4 a5 a6 a7 : Option ev_V} {x n : Int} (hd : decode k.1 pc = .ok (.iinc 8 n, 3)) (hq : pc + 3 = q) (hi : 8 < k.2.2.1) (K : Ev l X d k b S M q (a0 :: a1 :: a2 :: a3 :: a4 :: a5 :: a6 :: a7 :: some (vi (x + n)) :: tl) st Q) : Ev l X d k b S M pc (a0 :: a1 :: a2 :: a3 :: a4 :: a5 :: a6 :: a7 :: some (vi x) :: tl) st Q := ev_iinc_g hd hq hi rfl K
theorem ev_iload_9 {a0 a1 a2 a3 a4 a5 a6 a7 a8 : Option ev_V} {x : Int} (hd : decode k.1 pc = .ok (.iload 9, 2)) (hq : pc + 2 = q) (K : Ev l X d k b S M q (a0 :: a1 :: a2 :: a3 :: a4 :: a5 :: a6 :: a7 :: a8 :: some (vi x) :: tl) (vi x :: st) Q) : Ev l X d k b S M pc (a0 :: a1 :: a2 :: a3 :: a4 :: a5 :: a6 :: a7 :: a8 :: some (vi x) :: tl) st Q := ev_iload_g (Or.inr ⟨hd, hq⟩) rfl K
theorem ev_aload_9 {a0 a1 a2 a3 a4 a5 a6 a7 a8 : Option ev_V} {r : Option (Option Nat)} (hd : decode k.1 pc = .ok (.aload 9, 2)) (hq : pc + 2 = q) (K : Ev l X d k b S M q (a0 :: a1 :: a2 :: a3 :: a4 :: a5 :: a6 :: a7 :: a8 :: some (.inr r) :: tl) (.inr r :: st) Q) : Ev l X d k b S M pc (a0 :: a1 :: a2 :: a3 :: a4 :: a5 :: a6 :: a7 :: a8 :: some (.inr r) :: tl) st Q := ev_aload_g (Or.inr ⟨hd, hq⟩) rfl K
theorem ev_istore_9 {a0 a1 a2 a3 a4 a5 a6 a7 a8 z : Option ev_V} {x : Int} (hd : decode k.1 pc = .ok (.istore 9, 2)) (hq : pc + 2 = q) (hi : 9 < k.2.2.1) (K : Ev l X d k b S M q (a0 :: a1 :: a2 :: a3 :: a4 :: a5 :: a6 :: a7 :: a8 :: some (vi x) :: tl) st Q) : Ev l X d k b S M pc (a0 :: a1 :: a2 :: a3 :: a4 :: a5 :: a6 :: a7 :: a8 :: z :: tl) (vi x :: st) Q := ev_istore_g (Or.inr ⟨hd, hq⟩) hi K
theorem ev_astore_9 {a0 a1 a2 a3 a4 a5 a6 a7 a8 z : Option ev_V} {r : Option (Option Nat)} (hd : decode k.1 pc = .ok (.astore 9, 2)) (hq : pc + 2 = q) (hi : 9 < k.2.2.1) (K : Ev l X d k b S M q (a0 :: a1 :: a2 :: a3 :: a4 :: a5 :: a6 :: a7 :: a8 :: some (.inr r) :: tl) st Q) : Ev l X d k b S M pc (a0 :: a1 :: a2 :: a3 :: a4 :: a5 :: a6 :: a7 :: a8 :: z :: tl) (.inr r :: st) Q := ev_astore_g (Or.inr ⟨hd, hq⟩) hi K
theorem ev_iinc_9 {a0 a1 a2 a3 a4 a5 a6 a7 a8 : Option ev_V} {x n : Int} (hd : decode k.1 pc = .ok (.iinc 9 n, 3)) (hq : pc + 3 = q) (hi : 9 < k.2.2.1) (K : Ev l X d k b S M q (a0 :: a1 :: a2 :: a3 :: a4 :: a5 :: a6 :: a7 :: a8 :: some (vi (x + n)) :: tl) st Q) : Ev l X d k b S M pc (a0 :: a1 :: a2 :: a3 :: a4 :: a5 :: a6 :: a7 :: a8 :: some (vi x) :: tl) st Q := ev_iinc_g hd hq hi rfl K
theorem ev_iload_10 {a0 a1 a2 a3 a4 a5 a6 a7 a8 a9 : Option ev_V} {x : Int} (hd : decode k.1 pc = .ok (.iload 10, 2)) (hq : pc + 2 = q) (K : Ev l X d k b S M q (a0 :: a1 :: a2 :: a3 :: a4 :: a5 :: a6 :: a7 :: a8 :: a9 :: some (vi x) :: tl) (vi x :: st) Q) : Ev l X d k b S M pc (a0 :: a1 :: a2 :: a3 :: a4 :: a5 :: a6 :: a7 :: a8 :: a9 :: some (vi x) :: tl) st Q := ev_iload_g (Or.inr ⟨hd, hq⟩) rfl K
theorem ev_aload_10 {a0 a1 a2 a3 a4 a5 a6 a7 a8 a9 : Option ev_V} {r : Option (Option Nat)} (hd : decode k.1 pc = .ok (.aload 10, 2)) (hq : pc + 2 = q) (K : Ev l X d k b S M q (a0 :: a1 :: a2 :: a3 :: a4 :: a5 :: a6 :: a7 :: a8 :: a9 :: some (.inr r) :: tl) (.inr r :: st) Q) : Ev l X d k b S M pc (a0 :: a1 :: a2 :: a3 :: a4 :: a5 :: a6 :: a7 :: a8 :: a9 :: some (.inr r) :: tl) st Q := ev_aload_g (Or.inr ⟨hd, hq⟩) rfl K
theorem ev_istore_10 {a0 a1 a2 a3 a4 a5 a6 a7 a8 a9 z : Option ev_V} {x : Int} (hd : decode k.1 pc = .ok (.istore 10, 2)) (hq : pc + 2 = q) (hi : 10 < k.2.2.1) (K : Ev l X d k b S M q (a0 :: a1 :: a2 :: a3 :: a4 :: a5 :: a6 :: a7 :: a8 :: a9 :: some (vi x) :: tl) st Q) : Ev l X d k b S M pc (a0 :: a1 :: a2 :: a3 :: a4 :: a5 :: a6 :: a7 :: a8 :: a9 :: z :: tl) (vi x :: st) Q := ev_istore_g (Or.inr ⟨hd, hq⟩) hi K
theorem ev_astore_10 {a0 a1 a2 a3 a4 a5 a6 a7 a8 a9 z : Option ev_V} {r : Option (Option Nat)} (hd : decode k.1 pc = .ok (.astore 10, 2)) (hq : pc + 2 = q) (hi : 10 < k.2.2.1) (K : Ev l X d k b S M q (a0 :: a1 :: a2 :: a3 :: a4 :: a5 :: a6 :: a7 :: a8 :: a9 :: some (.inr r) :: tl) st Q) : Ev l X d k b S M pc (a0 :: a1 :: a2 :: a3 :: a4 :: a5 :: a6 :: a7 :: a8 :: a9 :: z :: tl) (.inr r :: st) Q := ev_astore_g (Or.inr ⟨hd, hq⟩) hi K
theorem ev_iinc_10 {a0 a1 a2 a3 a4 a5 a6 a7 a8 a9 : Option ev_V} {x n : Int} (hd : decode k.1 pc = .ok (.iinc 10 n, 3)) (hq : pc + 3 = q) (hi : 10 < k.2.2.1) (K : Ev l X d k b S M q (a0 :: a1 :: a2 :: a3 :: a4 :: a5 :: a6 :: a7 :: a8 :: a9 :: some (vi (x + n)) :: tl) st Q) : Ev l X d k b S M pc (a0 :: a1 :: a2 :: a3 :: a4 :: a5 :: a6 :: a7 :: a8 :: a9 :: some (vi x) :: tl) st Q := ev_iinc_g hd hq hi rfl K
theorem ev_iload_11 {a0 a1 a2 a3 a4 a5 a6 a7 a8 a9 a10 : Option ev_V} {x : Int} (hd : decode k.1 pc = .ok (.iload 11, 2)) (hq : pc + 2 = q) (K : Ev l X d k b S M q (a0 :: a1 :: a2 :: a3 :: a4 :: a5 :: a6 :: a7 :: a8 :: a9 :: a10 :: some (vi x) :: tl) (vi x :: st) Q) : Ev l X d k b S M pc (a0 :: a1 :: a2 :: a3 :: a4 :: a5 :: a6 :: a7 :: a8 :: a9 :: a10 :: some (vi x) :: tl) st Q := ev_iload_g (Or.inr ⟨hd, hq⟩) rfl K
theorem ev_aload_11 {a0 a1 a2 a3 a4 a5 a6 a7 a8 a9 a10 : Option ev_V} {r : Option (Option Nat)} (hd : decode k.1 pc = .ok (.aload 11, 2)) (hq : pc + 2 = q) (K : Ev l X d k b S M q (a0 :: a1 :: a2 :: a3 :: a4 :: a5 :: a6 :: a7 :: a8 :: a9 :: a10 :: some (.inr r) :: tl) (.inr r :: st) Q) : Ev l X d k b S M pc (a0 :: a1 :: a2 :: a3 :: a4 :: a5 :: a6 :: a7 :: a8 :: a9 :: a10 :: some (.inr r) :: tl) st Q := ev_aload_g (Or.inr ⟨hd, hq⟩) rfl K
theorem ev_istore_11 {a0 a1 a2 a3 a4 a5 a6 a7 a8 a9 a10 z : Option ev_V} {x : Int} (hd : decode k.1 pc = .ok (.istore 11, 2)) (hq : pc + 2 = q) (hi : 11 < k.2.2.1) (K : Ev l X d k b S M q (a0 :: a1 :: a2 :: a3 :: a4 :: a5 :: a6 :: a7 :: a8 :: a9 :: a10 :: some (vi x) :: tl) st Q) : Ev l X d k b S M pc (a0 :: a1 :: a2 :: a3 :: a4 :: a5 :: a6 :: a7 :: a8 :: a9 :: a10 :: z :: tl) (vi x :: st) Q := ev_istore_g (Or.inr ⟨hd, hq⟩) hi K
theorem ev_astore_11 {a0 a1 a2 a3 a4 a5 a6 a7 a8 a9 a10 z : Option ev_V} {r : Option (Option Nat)} (hd : decode k.1 pc = .ok (.astore 11, 2)) (hq : pc + 2 = q) (hi : 11 < k.2.2.1) (K : Ev l X d k b S M q (a0 :: a1 :: a2 :: a3 :: a4 :: a5 :: a6 :: a7 :: a8 :: a9 :: a10 :: some (.inr r) :: tl) st Q) : Ev l X d k b S M pc (a0 :: a1 :: a2 :: a3 :: a4 :: a5 :: a6 :: a7 :: a8 :: a9 :: a10 :: z :: tl) (.inr r :: st) Q := ev_astore_g (Or.inr ⟨hd, hq⟩) hi K
theorem ev_iinc_11 {a0 a1 a2 a3 a4 a5 a6 a7 a8 a9 a10 : Option ev_V} {x n : Int} (hd : decode k.1 pc = .ok (.iinc 11 n, 3)) (hq : pc + 3 = q) (hi : 11 < k.2.2.1) (K : Ev l X d k b S M q (a0 :: a1 :: a2 :: a3 :: a4 :: a5 :: a6 :: a7 :: a8 :: a9 :: a10 :: some (vi (x + n)) :: tl) st Q) : Ev l X d k b S M pc (a0 :: a1 :: a2 :: a3 :: a4 :: a5 :: a6 :: a7 :: a8 :: a9 :: a10 :: some (vi x) :: tl) st Q := ev_iinc_g hd hq hi rfl K
theorem ev_iload_12 {a0 a1 a2 a3 a4 a5 a6 a7 a8 a9 a10 a11 : Option ev_V} {x : Int} (hd : decode k.1 pc = .ok (.iload 12, 2)) (hq : pc + 2 = q) (K : Ev l X d k b S M q (a0 :: a1 :: a2 :: a3 :: a4 :: a5 :: a6 :: a7 :: a8 :: a9 :: a10 :: a11 :: some (vi x) :: tl) (vi x :: st) Q) : Ev l X d k b S M pc (a0 :: a1 :: a2 :: a3 :: a4 :: a5 :: a6 :: a7 :: a8 :: a9 :: a10 :: a11 :: some (vi x) :: tl) st Q := ev_iload_g (Or.inr ⟨hd, hq⟩) rfl K
theorem ev_aload_12 {a0 a1 a2 a3 a4 a5 a6 a7 a8 a9 a10 a11 : Option ev_V} {r : Option (Option Nat)} (hd : decode k.1 pc = .ok (.aload 12, 2)) (hq : pc + 2 = q) (K : Ev l X d k b S M q (a0 :: a1 :: a2 :: a3 :: a4 :: a5 :: a6 :: a7 :: a8 :: a9 :: a10 :: a11 :: some (.inr r) :: tl) (.inr r :: st) Q) : Ev l X d k b S M pc (a0 :: a1 :: a2 :: a3 :: a4 :: a5 :: a6 :: a7 :: a8 :: a9 :: a10 :: a11 :: some (.inr r) :: tl) st Q := ev_aload_g (Or.inr ⟨hd, hq⟩) rfl K
theorem ev_istore_12 {a0 a1 a2 a3 a4 a5 a6 a7 a8 a9 a10 a11 z : Option ev_V} {x : Int} (hd : decode k.1 pc = .ok (.istore 12, 2)) (hq : pc + 2 = q) (hi : 12 < k.2.2.1) (K : Ev l X d k b S M q (a0 :: a1 :: a2 :: a3 :: a4 :: a5 :: a6 :: a7 :: a8 :: a9 :: a10 :: a11 :: some (vi x) :: tl) st Q) : Ev l X d k b S M pc (a0 :: a1 :: a2 :: a3 :: a4 :: a5 :: a6 :: a7 :: a8 :: a9 :: a10 :: a11 :: z :: tl) (vi x :: st) Q := ev_istore_g (Or.inr ⟨hd, hq⟩) hi K
theorem ev_astore_12 {a0 a1 a2 a3 a4 a5 a6 a7 a8 a9 a10 a11 z : Option ev_V} {r : Option (Option Nat)} (hd : decode k.1 pc = .ok (.astore 12, 2)) (hq : pc + 2 = q) (hi : 12 < k.2.2.1) (K : Ev l X d k b S M q (a0 :: a1 :: a2 :: a3 :: a4 :: a5 :: a6 :: a7 :: a8 :: a9 :: a10 :: a11 :: some (.inr r) :: tl) st Q) : Ev l X d k b S M pc (a0 :: a1 :: a2 :: a3 :: a4 :: a5 :: a6 :: a7 :: a8 :: a9 :: a10 :: a11 :: z :: tl) (.inr r :: st) Q := ev_astore_g (Or.inr ⟨hd, hq⟩) hi K
theorem ev_iinc_12 {a0 a1 a2 a3 a4 a5 a6 a7 a8 a9 a10 a11 : Option ev_V} {x n : Int} (hd : decode k.1 pc = .ok (.iinc 12 n, 3)) (hq : pc + 3 = q) (hi : 12 < k.2.2.1) (K : Ev l X d k b S M q (a0 :: a1 :: a2 :: a3 :: a4 :: a5 :: a6 :: a7 :: a8 :: a9 :: a10 :: a11 :: some (vi (x + n)) :: tl) st Q) : Ev l X d k b S M pc (a0 :: a1 :: a2 :: a3 :: a4 :: a5 :: a6 :: a7 :: a8 :: a9 :: a10 :: a11 :: some (vi x) :: tl) st Q := ev_iinc_g hd hq hi rfl K
theorem ev_iload_13 {a0 a1 a2 a3 a4 a5 a6 a7 a8 a9 a10 a11 a12 : Option ev_V} {x : Int} (hd : decode k.1 pc = .ok (.iload 13, 2)) (hq : pc + 2 = q) (K : Ev l X d k b S M q (a0 :: a1 :: a2 :: a3 :: a4 :: a5 :: a6 :: a7 :: a8 :: a9 :: a10 :: a11 :: a12 :: some (vi x) :: tl) (vi x :: st) Q) : Ev l X d k b S M pc (a0 :: a1 :: a2 :: a3 :: a4 :: a5 :: a6 :: a7 :: a8 :: a9 :: a10 :: a11 :: a12 :: some (vi x) :: tl) st Q := ev_iload_g (Or.inr ⟨hd, hq⟩) rfl K
theorem ev_aload_13 {a0 a1 a2 a3 a4 a5 a6 a7 a8 a9 a10 a11 a12 : Option ev_V} {r : Option (Option Nat)} (hd : decode k.1 pc = .ok (.aload 13, 2)) (hq : pc + 2 = q) (K : Ev l X d k b S M q (a0 :: a1 :: a2 :: a3 :: a4 :: a5 :: a6 :: a7 :: a8 :: a9 :: a10 :: a11 :: a12 :: some (.inr r) :: tl) (.inr r :: st) Q) : Ev l X d k b S M pc (a0 :: a1 :: a2 :: a3 :: a4 :: a5 :: a6 :: a7 :: a8 :: a9 :: a10 :: a11 :: a12 :: some (.inr r) :: tl) st Q := ev_aload_g (Or.inr ⟨hd, hq⟩) rfl K
theorem ev_istore_13 {a0 a1 a2 a3 a4 a5 a6 a7 a8 a9 a10 a11 a12 z : Option ev_V} {x : Int} (hd : decode k.1 pc = .ok (.istore 13, 2)) (hq : pc + 2 = q) (hi : 13 < k.2.2.1) (K : Ev l X d k b S M q (a0 :: a1 :: a2 :: a3 :: a4 :: a5 :: a6 :: a7 :: a8 :: a9 :: a10 :: a11 :: a12 :: some (vi x) :: tl) st Q) : Ev l X d k b S M pc (a0 :: a1 :: a2 :: a3 :: a4 :: a5 :: a6 :: a7 :: a8 :: a9 :: a10 :: a11 :: a12 :: z :: tl) (vi x :: st) Q := ev_istore_g (Or.inr ⟨hd, hq⟩) hi K
theorem ev_astore_13 {a0 a1 a2 a3 a4 a5 a6 a7 a8 a9 a10 a11 a12 z : Option ev_V} {r : Option (Option Nat)} (hd : decode k.1 pc = .ok (.astore 13, 2)) (hq : pc + 2 = q) (hi : 13 < k.2.2.1) (K : Ev l X d k b S M q (a0 :: a1 :: a2 :: a3 :: a4 :: a5 :: a6 :: a7 :: a8 :: a9 :: a10 :: a11 :: a12 :: some (.inr r) :: tl) st Q) : Ev l X d k b S M pc (a0 :: a1 :: a2 :: a3 :: a4 :: a5 :: a6 :: a7 :: a8 :: a9 :: a10 :: a11 :: a12 :: z :: tl) (.inr r :: st) Q := ev_astore_g (Or.inr ⟨hd, hq⟩) hi K
theorem ev_iinc_13 {a0 a1 a2 a3 a4 a5 a6 a7 a8 a9 a10 a11 a12 : Option ev_V} {x n : Int} (hd : decode k.1 pc = .ok (.iinc 13 n, 3)) (hq : pc + 3 = q) (hi : 13 < k.2.2.1) (K : Ev l X d k b S M q (a0 :: a1 :: a2 :: a3 :: a4 :: a5 :: a6 :: a7 :: a8 :: a9 :: a10 :: a11 :: a12 :: some (vi (x + n)) :: tl) st Q) : Ev l X d k b S M pc (a0 :: a1 :: a2 :: a3 :: a4 :: a5 :: a6 :: a7 :: a8 :: a9 :: a10 :: a11 :: a12 :: some (vi x) :: tl) st Q := ev_iinc_g hd hq hi rfl K
theorem ev_iadd {x y : Int} (hd : decode k.1 pc = .ok (.iadd, 1)) (hq : pc + 1 = q) (K : Ev l X d k b S M q ls (vi (x + y) :: st) Q) : Ev l X d k b S M pc ls (vi y :: vi x :: st) Q := by
  intro hR p e R s m args below meth c G ca sb o hC H locs cells slots lsr hW h1 h2 hL
  obtain ⟨hx, hb, hr, hlk, hml, hown, hts, hex, hin, hf, hlo, hK, hos, hX⟩ := id hC
  subst hq
  exact lv_iadd hx hb hd (by rw [oi_add]; exact K hR p e R s m args below meth c G ca sb o hC H locs cells slots lsr hW h1 h2 hL)
theorem ev_isub {x y : Int} (hd : decode k.1 pc = .ok (.isub, 1)) (hq : pc + 1 = q) (K : Ev l X d k b S M q ls (vi (x - y) :: st) Q) : Ev l X d k b S M pc ls (vi y :: vi x :: st) Q := by
  intro hR p e R s m args below meth c G ca sb o hC H locs cells slots lsr hW h1 h2 hL
  obtain ⟨hx, hb, hr, hlk, hml, hown, hts, hex, hin, hf, hlo, hK, hos, hX⟩ := id hC
  subst hq
  exact lv_isub hx hb hd (by rw [oi_sub]; exact K hR p e R s m args below meth c G ca sb o hC H locs cells slots lsr hW h1 h2 hL)
theorem ev_imul {x y : Int} (hd : decode k.1 pc = .ok (.imul, 1)) (hq : pc + 1 = q) (K : Ev l X d k b S M q ls (vi (x * y) :: st) Q) : Ev l X d k b S M pc ls (vi y :: vi x :: st) Q := by
  intro hR p e R s m args below meth c G ca sb o hC H locs cells slots lsr hW h1 h2 hL
  obtain ⟨hx, hb, hr, hlk, hml, hown, hts, hex, hin, hf, hlo, hK, hos, hX⟩ := id hC
  subst hq
  exact lv_imul hx hb hd (by rw [oi_mul]; exact K hR p e R s m args below meth c G ca sb o hC H locs cells slots lsr hW h1 h2 hL)
theorem ev_iand {x y : Int} (hd : decode k.1 pc = .ok (.iand, 1)) (hq : pc + 1 = q) (K : Ev l X d k b S M q ls (vi ((Int32.ofInt x &&& Int32.ofInt y).toInt) :: st) Q) : Ev l X d k b S M pc ls (vi y :: vi x :: st) Q := by
  intro hR p e R s m args below meth c G ca sb o hC H locs cells slots lsr hW h1 h2 hL
  obtain ⟨hx, hb, hr, hlk, hml, hown, hts, hex, hin, hf, hlo, hK, hos, hX⟩ := id hC
  subst hq
  have kk := K hR p e R s m args below meth c G ca sb o hC H locs cells slots lsr hW h1 h2 hL
  simp only [List.map_cons, tr, Int32.ofInt_toInt] at kk
  exact lv_iand hx hb hd kk
theorem ev_ixor {x y : Int} (hd : decode k.1 pc = .ok (.ixor, 1)) (hq : pc + 1 = q) (K : Ev l X d k b S M q ls (vi ((Int32.ofInt x ^^^ Int32.ofInt y).toInt) :: st) Q) : Ev l X d k b S M pc ls (vi y :: vi x :: st) Q := by
  intro hR p e R s m args below meth c G ca sb o hC H locs cells slots lsr hW h1 h2 hL
  obtain ⟨hx, hb, hr, hlk, hml, hown, hts, hex, hin, hf, hlo, hK, hos, hX⟩ := id hC
  subst hq
  have kk := K hR p e R s m args below meth c G ca sb o hC H locs cells slots lsr hW h1 h2 hL
  simp only [List.map_cons, tr, Int32.ofInt_toInt] at kk
  exact lv_ixor hx hb hd kk
theorem ev_ishr {x y : Int} (hd : decode k.1 pc = .ok (.ishr, 1)) (hq : pc + 1 = q) (K : Ev l X d k b S M q ls (vi ((Int32.ofInt x >>> (Int32.ofInt y &&& 31)).toInt) :: st) Q) : Ev l X d k b S M pc ls (vi y :: vi x :: st) Q := by
  intro hR p e R s m args below meth c G ca sb o hC H locs cells slots lsr hW h1 h2 hL
  obtain ⟨hx, hb, hr, hlk, hml, hown, hts, hex, hin, hf, hlo, hK, hos, hX⟩ := id hC
  subst hq
  have kk := K hR p e R s m args below meth c G ca sb o hC H locs cells slots lsr hW h1 h2 hL
  simp only [List.map_cons, tr, Int32.ofInt_toInt] at kk
  exact lv_ishr hx hb hd kk
theorem ev_iushr {x y : Int} (hd : decode k.1 pc = .ok (.iushr, 1)) (hq : pc + 1 = q) (K : Ev l X d k b S M q ls (vi (((Int32.ofInt x).toUInt32 >>> ((Int32.ofInt y).toUInt32 &&& Int32.toUInt32 31)).toInt32.toInt) :: st) Q) : Ev l X d k b S M pc ls (vi y :: vi x :: st) Q := by
  intro hR p e R s m args below meth c G ca sb o hC H locs cells slots lsr hW h1 h2 hL
  obtain ⟨hx, hb, hr, hlk, hml, hown, hts, hex, hin, hf, hlo, hK, hos, hX⟩ := id hC
  subst hq
  have kk := K hR p e R s m args below meth c G ca sb o hC H locs cells slots lsr hW h1 h2 hL
  simp only [List.map_cons, tr, Int32.ofInt_toInt] at kk
  exact lv_iushr hx hb hd rfl kk
theorem oi_rem {x y : Int} (hx : inR x) (hy : inR y) (h0 : 0 ≤ x) (h1 : 0 < y) : Int32.ofInt x - Int32.ofInt x / Int32.ofInt y * Int32.ofInt y = Int32.ofInt (x % y) := by
  have e1 : (Int32.ofInt x / Int32.ofInt y) = Int32.ofInt (x / y) := by
    rw [← Int32.toInt_inj, lg_idiv_nonneg (by rw [oi_toInt hx]; exact h0) (by rw [oi_toInt hy]; exact h1), oi_toInt hx, oi_toInt hy, oi_toInt]
    have q1 : 0 ≤ x / y := Int.ediv_nonneg h0 (by omega)
    have q2 : x / y ≤ x := Int.ediv_le_self _ h0
    unfold inR at *
    omega
  rw [e1, oi_mul, oi_sub]
  congr 1
  have := Int.mul_ediv_add_emod x y
  rw [Int.mul_comm] at this
  omega
theorem ev_irem {x y : Int} (hd : decode k.1 pc = .ok (.irem, 1)) (hq : pc + 1 = q) (hxy : inR x ∧ inR y ∧ 0 ≤ x ∧ 0 < y) (K : Ev l X d k b S M q ls (vi (x % y) :: st) Q) : Ev l X d k b S M pc ls (vi y :: vi x :: st) Q := by
  intro hR p e R s m args below meth c G ca sb o hC H locs cells slots lsr hW h1 h2 hL
  obtain ⟨hx, hb, hr, hlk, hml, hown, hts, hex, hin, hf, hlo, hK, hos, hX⟩ := id hC
  subst hq
  obtain ⟨i1, i2, i3, i4⟩ := hxy
  exact lv_irem hx hb hd (by rw [oi_eq0 i2]; omega) (by rw [oi_rem i1 i2 i3 i4]; exact K hR p e R s m args below meth c G ca sb o hC H locs cells slots lsr hW h1 h2 hL)
theorem oi_i2c {x : Int} (h0 : 0 ≤ x) (h1 : x < 65536) : ((Int32.ofInt x).toUInt32 % 65536).toInt32 = Int32.ofInt x := by
  have hx : inR x := by unfold inR; omega
  exact lg_i2c_word (by rw [oi_toInt hx]; exact h0) (by rw [oi_toInt hx]; exact h1)
theorem ev_i2c {x : Int} (hd : decode k.1 pc = .ok (.i2c, 1)) (hq : pc + 1 = q) (hxy : 0 ≤ x ∧ x < 65536) (K : Ev l X d k b S M q ls (vi x :: st) Q) : Ev l X d k b S M pc ls (vi x :: st) Q := by
  intro hR p e R s m args below meth c G ca sb o hC H locs cells slots lsr hW h1 h2 hL
  obtain ⟨hx, hb, hr, hlk, hml, hown, hts, hex, hin, hf, hlo, hK, hos, hX⟩ := id hC
  subst hq
  exact lv_i2c hx hb hd (oi_i2c hxy.1 hxy.2) (K hR p e R s m args below meth c G ca sb o hC H locs cells slots lsr hW h1 h2 hL)
theorem ev_dup {v : ev_V} (hd : decode k.1 pc = .ok (.dup, 1)) (hq : pc + 1 = q) (K : Ev l X d k b S M q ls (v :: v :: st) Q) : Ev l X d k b S M pc ls (v :: st) Q := by
  intro hR p e R s m args below meth c G ca sb o hC H locs cells slots lsr hW h1 h2 hL
  obtain ⟨hx, hb, hr, hlk, hml, hown, hts, hex, hin, hf, hlo, hK, hos, hX⟩ := id hC
  subst hq
  exact lv_dup hx hb hd (tr_cat sb o v) (K hR p e R s m args below meth c G ca sb o hC H locs cells slots lsr hW h1 h2 hL)
theorem ev_pop {v : ev_V} (hd : decode k.1 pc = .ok (.pop, 1)) (hq : pc + 1 = q) (K : Ev l X d k b S M q ls st Q) : Ev l X d k b S M pc ls (v :: st) Q := by
  intro hR p e R s m args below meth c G ca sb o hC H locs cells slots lsr hW h1 h2 hL
  obtain ⟨hx, hb, hr, hlk, hml, hown, hts, hex, hin, hf, hlo, hK, hos, hX⟩ := id hC
  subst hq
  exact lv_pop hx hb hd (tr_cat sb o v) (K hR p e R s m args below meth c G ca sb o hC H locs cells slots lsr hW h1 h2 hL)
theorem ev_dup2 {v w : ev_V} (hd : decode k.1 pc = .ok (.dup2, 1)) (hq : pc + 1 = q) (K : Ev l X d k b S M q ls (v :: w :: v :: w :: st) Q) : Ev l X d k b S M pc ls (v :: w :: st) Q := by
  intro hR p e R s m args below meth c G ca sb o hC H locs cells slots lsr hW h1 h2 hL
  obtain ⟨hx, hb, hr, hlk, hml, hown, hts, hex, hin, hf, hlo, hK, hos, hX⟩ := id hC
  subst hq
  exact lv_dup2_11 hx hb hd (tr_cat sb o v) (tr_cat sb o w) (K hR p e R s m args below meth c G ca sb o hC H locs cells slots lsr hW h1 h2 hL)
theorem ev_goto {off : Int} (hd : decode k.1 pc = .ok (.goto off, 3)) (hq : (pc : Int) + off = (q : Int)) (K : Ev l X d k b S M q ls st Q) : Ev l X d k b S M pc ls st Q := by
  intro hR p e R s m args below meth c G ca sb o hC H locs cells slots lsr hW h1 h2 hL
  obtain ⟨hx, hb, hr, hlk, hml, hown, hts, hex, hin, hf, hlo, hK, hos, hX⟩ := id hC
  exact lv_goto hx hb hd hq (K hR p e R s m args below meth c G ca sb o hC H locs cells slots lsr hW h1 h2 hL)

theorem ev_icmp_eq {x y off : Int} {t : Nat} (hd : decode k.1 pc = .ok (.if_icmp .eq off, 3)) (ht : (pc : Int) + off = (t : Int)) (hq : pc + 3 = q) (i1 : inR x) (i2 : inR y) (Kt : x = y → Ev l X d k b S M t ls st Q) (Kf : ¬ x = y → Ev l X d k b S M q ls st Q) : Ev l X d k b S M pc ls (vi y :: vi x :: st) Q := by
  intro hR p e R s m args below meth c G ca sb o hC H locs cells slots lsr hW h1 h2 hL
  obtain ⟨hx, hb, hr, hlk, hml, hown, hts, hex, hin, hf, hlo, hK, hos, hX⟩ := id hC
  subst hq
  exact lv_icmp_eq hx hb hd ht (fun h => Kt ((oi_eq i1 i2).mp h) hR p e R s m args below meth c G ca sb o hC H locs cells slots lsr hW h1 h2 hL) (fun h => Kf (fun z => h ((oi_eq i1 i2).mpr z)) hR p e R s m args below meth c G ca sb o hC H locs cells slots lsr hW h1 h2 hL)
theorem ev_icmp_ne {x y off : Int} {t : Nat} (hd : decode k.1 pc = .ok (.if_icmp .ne off, 3)) (ht : (pc : Int) + off = (t : Int)) (hq : pc + 3 = q) (i1 : inR x) (i2 : inR y) (Kt : ¬ x = y → Ev l X d k b S M t ls st Q) (Kf : x = y → Ev l X d k b S M q ls st Q) : Ev l X d k b S M pc ls (vi y :: vi x :: st) Q := by
  intro hR p e R s m args below meth c G ca sb o hC H locs cells slots lsr hW h1 h2 hL
  obtain ⟨hx, hb, hr, hlk, hml, hown, hts, hex, hin, hf, hlo, hK, hos, hX⟩ := id hC
  subst hq
  exact lv_icmp_ne hx hb hd ht (fun h => Kt (fun z => h (by rw [z])) hR p e R s m args below meth c G ca sb o hC H locs cells slots lsr hW h1 h2 hL) (fun h => Kf ((oi_eq i1 i2).mp h) hR p e R s m args below meth c G ca sb o hC H locs cells slots lsr hW h1 h2 hL)
theorem ev_icmp_lt {x y off : Int} {t : Nat} (hd : decode k.1 pc = .ok (.if_icmp .lt off, 3)) (ht : (pc : Int) + off = (t : Int)) (hq : pc + 3 = q) (i1 : inR x) (i2 : inR y) (Kt : x < y → Ev l X d k b S M t ls st Q) (Kf : ¬ x < y → Ev l X d k b S M q ls st Q) : Ev l X d k b S M pc ls (vi y :: vi x :: st) Q := by
  intro hR p e R s m args below meth c G ca sb o hC H locs cells slots lsr hW h1 h2 hL
  obtain ⟨hx, hb, hr, hlk, hml, hown, hts, hex, hin, hf, hlo, hK, hos, hX⟩ := id hC
  subst hq
  exact lv_icmp_lt hx hb hd ht (fun h => Kt ((oi_lt i1 i2).mp h) hR p e R s m args below meth c G ca sb o hC H locs cells slots lsr hW h1 h2 hL) (fun h => Kf (fun z => h ((oi_lt i1 i2).mpr z)) hR p e R s m args below meth c G ca sb o hC H locs cells slots lsr hW h1 h2 hL)
theorem ev_icmp_ge {x y off : Int} {t : Nat} (hd : decode k.1 pc = .ok (.if_icmp .ge off, 3)) (ht : (pc : Int) + off = (t : Int)) (hq : pc + 3 = q) (i1 : inR x) (i2 : inR y) (Kt : y ≤ x → Ev l X d k b S M t ls st Q) (Kf : ¬ y ≤ x → Ev l X d k b S M q ls st Q) : Ev l X d k b S M pc ls (vi y :: vi x :: st) Q := by
  intro hR p e R s m args below meth c G ca sb o hC H locs cells slots lsr hW h1 h2 hL
  obtain ⟨hx, hb, hr, hlk, hml, hown, hts, hex, hin, hf, hlo, hK, hos, hX⟩ := id hC
  subst hq
  exact lv_icmp_ge hx hb hd ht (fun h => Kt ((oi_le i2 i1).mp h) hR p e R s m args below meth c G ca sb o hC H locs cells slots lsr hW h1 h2 hL) (fun h => Kf (fun z => h ((oi_le i2 i1).mpr z)) hR p e R s m args below meth c G ca sb o hC H locs cells slots lsr hW h1 h2 hL)
theorem ev_icmp_gt {x y off : Int} {t : Nat} (hd : decode k.1 pc = .ok (.if_icmp .gt off, 3)) (ht : (pc : Int) + off = (t : Int)) (hq : pc + 3 = q) (i1 : inR x) (i2 : inR y) (Kt : y < x → Ev l X d k b S M t ls st Q) (Kf : ¬ y < x → Ev l X d k b S M q ls st Q) : Ev l X d k b S M pc ls (vi y :: vi x :: st) Q := by
  intro hR p e R s m args below meth c G ca sb o hC H locs cells slots lsr hW h1 h2 hL
  obtain ⟨hx, hb, hr, hlk, hml, hown, hts, hex, hin, hf, hlo, hK, hos, hX⟩ := id hC
  subst hq
  exact lv_icmp_gt hx hb hd ht (fun h => Kt ((oi_lt i2 i1).mp h) hR p e R s m args below meth c G ca sb o hC H locs cells slots lsr hW h1 h2 hL) (fun h => Kf (fun z => h ((oi_lt i2 i1).mpr z)) hR p e R s m args below meth c G ca sb o hC H locs cells slots lsr hW h1 h2 hL)
theorem ev_icmp_le {x y off : Int} {t : Nat} (hd : decode k.1 pc = .ok (.if_icmp .le off, 3)) (ht : (pc : Int) + off = (t : Int)) (hq : pc + 3 = q) (i1 : inR x) (i2 : inR y) (Kt : x ≤ y → Ev l X d k b S M t ls st Q) (Kf : ¬ x ≤ y → Ev l X d k b S M q ls st Q) : Ev l X d k b S M pc ls (vi y :: vi x :: st) Q := by
  intro hR p e R s m args below meth c G ca sb o hC H locs cells slots lsr hW h1 h2 hL
  obtain ⟨hx, hb, hr, hlk, hml, hown, hts, hex, hin, hf, hlo, hK, hos, hX⟩ := id hC
  subst hq
  exact lv_icmp_le hx hb hd ht (fun h => Kt ((oi_le i1 i2).mp h) hR p e R s m args below meth c G ca sb o hC H locs cells slots lsr hW h1 h2 hL) (fun h => Kf (fun z => h ((oi_le i1 i2).mpr z)) hR p e R s m args below meth c G ca sb o hC H locs cells slots lsr hW h1 h2 hL)
theorem ev_if_eq {x off : Int} {t : Nat} (hd : decode k.1 pc = .ok (.ifCond .eq off, 3)) (ht : (pc : Int) + off = (t : Int)) (hq : pc + 3 = q) (i1 : inR x) (Kt : x = 0 → Ev l X d k b S M t ls st Q) (Kf : ¬ x = 0 → Ev l X d k b S M q ls st Q) : Ev l X d k b S M pc ls (vi x :: st) Q := by
  intro hR p e R s m args below meth c G ca sb o hC H locs cells slots lsr hW h1 h2 hL
  obtain ⟨hx, hb, hr, hlk, hml, hown, hts, hex, hin, hf, hlo, hK, hos, hX⟩ := id hC
  subst hq
  exact lv_if_eq hx hb hd ht (fun h => Kt ((oi_eq0 i1).mp h) hR p e R s m args below meth c G ca sb o hC H locs cells slots lsr hW h1 h2 hL) (fun h => Kf (fun z => h ((oi_eq0 i1).mpr z)) hR p e R s m args below meth c G ca sb o hC H locs cells slots lsr hW h1 h2 hL)
theorem ev_if_ne {x off : Int} {t : Nat} (hd : decode k.1 pc = .ok (.ifCond .ne off, 3)) (ht : (pc : Int) + off = (t : Int)) (hq : pc + 3 = q) (i1 : inR x) (Kt : ¬ x = 0 → Ev l X d k b S M t ls st Q) (Kf : x = 0 → Ev l X d k b S M q ls st Q) : Ev l X d k b S M pc ls (vi x :: st) Q := by
  intro hR p e R s m args below meth c G ca sb o hC H locs cells slots lsr hW h1 h2 hL
  obtain ⟨hx, hb, hr, hlk, hml, hown, hts, hex, hin, hf, hlo, hK, hos, hX⟩ := id hC
  subst hq
  exact lv_if_ne hx hb hd ht (fun h => Kt (fun z => h ((oi_eq0 i1).mpr z)) hR p e R s m args below meth c G ca sb o hC H locs cells slots lsr hW h1 h2 hL) (fun h => Kf ((oi_eq0 i1).mp h) hR p e R s m args below meth c G ca sb o hC H locs cells slots lsr hW h1 h2 hL)
theorem ev_if_lt {x off : Int} {t : Nat} (hd : decode k.1 pc = .ok (.ifCond .lt off, 3)) (ht : (pc : Int) + off = (t : Int)) (hq : pc + 3 = q) (i1 : inR x) (Kt : x < 0 → Ev l X d k b S M t ls st Q) (Kf : ¬ x < 0 → Ev l X d k b S M q ls st Q) : Ev l X d k b S M pc ls (vi x :: st) Q := by
  intro hR p e R s m args below meth c G ca sb o hC H locs cells slots lsr hW h1 h2 hL
  obtain ⟨hx, hb, hr, hlk, hml, hown, hts, hex, hin, hf, hlo, hK, hos, hX⟩ := id hC
  subst hq
  exact lv_if_lt hx hb hd ht (fun h => Kt ((oi_lt0 i1).mp h) hR p e R s m args below meth c G ca sb o hC H locs cells slots lsr hW h1 h2 hL) (fun h => Kf (fun z => h ((oi_lt0 i1).mpr z)) hR p e R s m args below meth c G ca sb o hC H locs cells slots lsr hW h1 h2 hL)
theorem ev_if_ge {x off : Int} {t : Nat} (hd : decode k.1 pc = .ok (.ifCond .ge off, 3)) (ht : (pc : Int) + off = (t : Int)) (hq : pc + 3 = q) (i1 : inR x) (Kt : 0 ≤ x → Ev l X d k b S M t ls st Q) (Kf : ¬ 0 ≤ x → Ev l X d k b S M q ls st Q) : Ev l X d k b S M pc ls (vi x :: st) Q := by
  intro hR p e R s m args below meth c G ca sb o hC H locs cells slots lsr hW h1 h2 hL
  obtain ⟨hx, hb, hr, hlk, hml, hown, hts, hex, hin, hf, hlo, hK, hos, hX⟩ := id hC
  subst hq
  exact lv_if_ge hx hb hd ht (fun h => Kt ((oi_0le i1).mp h) hR p e R s m args below meth c G ca sb o hC H locs cells slots lsr hW h1 h2 hL) (fun h => Kf (fun z => h ((oi_0le i1).mpr z)) hR p e R s m args below meth c G ca sb o hC H locs cells slots lsr hW h1 h2 hL)
theorem ev_if_gt {x off : Int} {t : Nat} (hd : decode k.1 pc = .ok (.ifCond .gt off, 3)) (ht : (pc : Int) + off = (t : Int)) (hq : pc + 3 = q) (i1 : inR x) (Kt : 0 < x → Ev l X d k b S M t ls st Q) (Kf : ¬ 0 < x → Ev l X d k b S M q ls st Q) : Ev l X d k b S M pc ls (vi x :: st) Q := by
  intro hR p e R s m args below meth c G ca sb o hC H locs cells slots lsr hW h1 h2 hL
  obtain ⟨hx, hb, hr, hlk, hml, hown, hts, hex, hin, hf, hlo, hK, hos, hX⟩ := id hC
  subst hq
  exact lv_if_gt hx hb hd ht (fun h => Kt ((oi_0lt i1).mp h) hR p e R s m args below meth c G ca sb o hC H locs cells slots lsr hW h1 h2 hL) (fun h => Kf (fun z => h ((oi_0lt i1).mpr z)) hR p e R s m args below meth c G ca sb o hC H locs cells slots lsr hW h1 h2 hL)
theorem ev_if_le {x off : Int} {t : Nat} (hd : decode k.1 pc = .ok (.ifCond .le off, 3)) (ht : (pc : Int) + off = (t : Int)) (hq : pc + 3 = q) (i1 : inR x) (Kt : x ≤ 0 → Ev l X d k b S M t ls st Q) (Kf : ¬ x ≤ 0 → Ev l X d k b S M q ls st Q) : Ev l X d k b S M pc ls (vi x :: st) Q := by
  intro hR p e R s m args below meth c G ca sb o hC H locs cells slots lsr hW h1 h2 hL
  obtain ⟨hx, hb, hr, hlk, hml, hown, hts, hex, hin, hf, hlo, hK, hos, hX⟩ := id hC
  subst hq
  exact lv_if_le hx hb hd ht (fun h => Kt ((oi_le0 i1).mp h) hR p e R s m args below meth c G ca sb o hC H locs cells slots lsr hW h1 h2 hL) (fun h => Kf (fun z => h ((oi_le0 i1).mpr z)) hR p e R s m args below meth c G ca sb o hC H locs cells slots lsr hW h1 h2 hL)
theorem ev_b_eq {c : Prop} [Decidable c] {off : Int} {t : Nat} (hd : decode k.1 pc = .ok (.ifCond .eq off, 3)) (ht : (pc : Int) + off = (t : Int)) (hq : pc + 3 = q) (Kt : ¬ c → Ev l X d k b S M t ls st Q) (Kf : c → Ev l X d k b S M q ls st Q) : Ev l X d k b S M pc ls (vi (if c then 1 else 0) :: st) Q := by
  by_cases h : c
  · rw [if_pos h]
    exact ev_if_eq hd ht hq (by unfold inR; omega) (fun z => absurd z (by omega)) (fun _ => Kf h)
  · rw [if_neg h]
    exact ev_if_eq hd ht hq (by unfold inR; omega) (fun _ => Kt h) (fun z => absurd rfl z)
theorem ev_b_ne {c : Prop} [Decidable c] {off : Int} {t : Nat} (hd : decode k.1 pc = .ok (.ifCond .ne off, 3)) (ht : (pc : Int) + off = (t : Int)) (hq : pc + 3 = q) (Kt : c → Ev l X d k b S M t ls st Q) (Kf : ¬ c → Ev l X d k b S M q ls st Q) : Ev l X d k b S M pc ls (vi (if c then 1 else 0) :: st) Q := by
  by_cases h : c
  · rw [if_pos h]
    exact ev_if_ne hd ht hq (by unfold inR; omega) (fun _ => Kt h) (fun z => absurd z (by omega))
  · rw [if_neg h]
    exact ev_if_ne hd ht hq (by unfold inR; omega) (fun z => absurd rfl z) (fun _ => Kf h)
theorem ev_ifnonnull {r : Option Nat} {off : Int} {t : Nat} (hd : decode k.1 pc = .ok (.ifnonnull off, 3)) (ht : (pc : Int) + off = (t : Int)) (K : Ev l X d k b S M t ls st Q) : Ev l X d k b S M pc ls (.inr (some r) :: st) Q := by
  intro hR p e R s m args below meth c G ca sb o hC H locs cells slots lsr hW h1 h2 hL
  obtain ⟨hx, hb, hr, hlk, hml, hown, hts, hex, hin, hf, hlo, hK, hos, hX⟩ := id hC
  rcases r with _ | r
  · exact lv_ifnonnull hx hb hd ht (K hR p e R s m args below meth c G ca sb o hC H locs cells slots lsr hW h1 h2 hL)
  · exact lv_ifnonnull hx hb hd ht (K hR p e R s m args below meth c G ca sb o hC H locs cells slots lsr hW h1 h2 hL)
theorem ev_ifnull {r : Option Nat} {off : Int} (hd : decode k.1 pc = .ok (.ifnull off, 3)) (hq : pc + 3 = q) (K : Ev l X d k b S M q ls st Q) : Ev l X d k b S M pc ls (.inr (some r) :: st) Q := by
  intro hR p e R s m args below meth c G ca sb o hC H locs cells slots lsr hW h1 h2 hL
  obtain ⟨hx, hb, hr, hlk, hml, hown, hts, hex, hin, hf, hlo, hK, hos, hX⟩ := id hC
  subst hq
  rcases r with _ | r
  · exact lv_ifnull hx hb hd (K hR p e R s m args below meth c G ca sb o hC H locs cells slots lsr hW h1 h2 hL)
  · exact lv_ifnull hx hb hd (K hR p e R s m args below meth c G ca sb o hC H locs cells slots lsr hW h1 h2 hL)
theorem ev_ifnullN {off : Int} {t : Nat} (hd : decode k.1 pc = .ok (.ifnull off, 3)) (ht : (pc : Int) + off = (t : Int)) (K : Ev l X d k b S M t ls st Q) : Ev l X d k b S M pc ls (vn :: st) Q := by
  intro hR p e R s m args below meth c G ca sb o hC H locs cells slots lsr hW h1 h2 hL
  obtain ⟨hx, hb, hr, hlk, hml, hown, hts, hex, hin, hf, hlo, hK, hos, hX⟩ := id hC
  exact lv_ifnullN hx hb hd ht (K hR p e R s m args below meth c G ca sb o hC H locs cells slots lsr hW h1 h2 hL)
theorem ev_ifnonnullN {off : Int} (hd : decode k.1 pc = .ok (.ifnonnull off, 3)) (hq : pc + 3 = q) (K : Ev l X d k b S M q ls st Q) : Ev l X d k b S M pc ls (vn :: st) Q := by
  intro hR p e R s m args below meth c G ca sb o hC H locs cells slots lsr hW h1 h2 hL
  obtain ⟨hx, hb, hr, hlk, hml, hown, hts, hex, hin, hf, hlo, hK, hos, hX⟩ := id hC
  subst hq
  exact lv_ifnonnullN hx hb hd (K hR p e R s m args below meth c G ca sb o hC H locs cells slots lsr hW h1 h2 hL)
theorem ev_tableOut {dflt lo hi : Int} {offs : Array Int} {len : Nat} {x : Int} {t : Nat} (hd : decode k.1 pc = .ok (.tableswitch dflt lo hi offs, len)) (i1 : inR x) (h : x < lo ∨ hi < x) (ht : (pc : Int) + dflt = (t : Int)) (K : Ev l X d k b S M t ls st Q) : Ev l X d k b S M pc ls (vi x :: st) Q := by
  intro hR p e R s m args below meth c G ca sb o hC H locs cells slots lsr hW h1 h2 hL
  obtain ⟨hx, hb, hr, hlk, hml, hown, hts, hex, hin, hf, hlo, hK, hos, hX⟩ := id hC
  exact lv_tableOut hx hb hd (by rw [oi_toInt i1]; exact h) ht (K hR p e R s m args below meth c G ca sb o hC H locs cells slots lsr hW h1 h2 hL)
theorem ev_tableIn {dflt lo hi : Int} {offs : Array Int} {len : Nat} {x : Int} {t : Nat} {off : Int} (hd : decode k.1 pc = .ok (.tableswitch dflt lo hi offs, len)) (i1 : inR x) (g1 : lo ≤ x) (g2 : x ≤ hi) (ho : offs[(x - lo).toNat]? = some off) (ht : (pc : Int) + off = (t : Int)) (K : Ev l X d k b S M t ls st Q) : Ev l X d k b S M pc ls (vi x :: st) Q := by
  intro hR p e R s m args below meth c G ca sb o hC H locs cells slots lsr hW h1 h2 hL
  obtain ⟨hx, hb, hr, hlk, hml, hown, hts, hex, hin, hf, hlo, hK, hos, hX⟩ := id hC
  exact lv_tableIn hx hb hd (by rw [oi_toInt i1]; omega) (by rw [oi_toInt i1]; omega) (by rw [oi_toInt i1]; exact ho) ht (K hR p e R s m args below meth c G ca sb o hC H locs cells slots lsr hW h1 h2 hL)
-- ends
theorem va_F_of_S {o : Nat} {s t : State} {H : Heap} {locs : List Loc} (h : va_S (ev_A o) s.heap H locs) (ht : t.heap = H) : va_F (ev_A o) s t := h.F ht
theorem ev_ireturn {x : Int} {ty : FieldType} (hd : decode k.1 pc = .ok (.ireturn, 1)) (hret : k.2.2.2.1 = some ty) (hn : narrow ty (.int (Int32.ofInt x)) = .int (Int32.ofInt x)) (i1 : inR x) (hQ : Q (some (vi x)) S M) : Ev l X d k b S M pc ls [vi x] Q := by
  intro hR p e R s m args below meth c G ca sb o hC H locs cells slots lsr hW h1 h2 hL
  obtain ⟨hx, hb, hr, hlk, hml, hown, hts, hex, hin, hf, hlo, hK, hos, hX⟩ := id hC
  refine W.widen (k := R.cells) (n := R.slots) (by omega) (by omega) ?_
  refine W.zret hx hb (hr.trans hret) hn (fun t ht _ => ⟨⟨some (vi x), S, M, hQ, hR, fun y hy => ?_, rfl, by rw [ht]; exact hW.1, by rw [ht]; exact hW.2.1⟩, hW.2.2.F ht⟩) hW.2.2.2.2 hd hlk
  cases hy; exact i1
theorem ev_return (hd : decode k.1 pc = .ok (.return_, 1)) (hret : k.2.2.2.1 = none) (hQ : Q none S M) : Ev l X d k b S M pc ls [] Q := by
  intro hR p e R s m args below meth c G ca sb o hC H locs cells slots lsr hW h1 h2 hL
  obtain ⟨hx, hb, hr, hlk, hml, hown, hts, hex, hin, hf, hlo, hK, hos, hX⟩ := id hC
  refine W.widen (k := R.cells) (n := R.slots) (by omega) (by omega) ?_
  exact W.vret hx hb (hr.trans hret) (fun t ht _ => ⟨⟨none, S, M, hQ, hR, fun y hy => (by cases hy), rfl, by rw [ht]; exact hW.1, by rw [ht]; exact hW.2.1⟩, hW.2.2.F ht⟩) hW.2.2.2.2 hd hlk
theorem ev_areturn {r : Option (Option Nat)} {C : String} (hd : decode k.1 pc = .ok (.areturn, 1)) (hret : k.2.2.2.1 = some (.object C)) (hQ : Q (some (.inr r)) S M) : Ev l X d k b S M pc ls [.inr r] Q := by
  intro hR p e R s m args below meth c G ca sb o hC H locs cells slots lsr hW h1 h2 hL
  obtain ⟨hx, hb, hr, hlk, hml, hown, hts, hex, hin, hf, hlo, hK, hos, hX⟩ := id hC
  refine W.widen (k := R.cells) (n := R.slots) (by omega) (by omega) ?_
  refine W.aret hx hb (hr.trans hret) (Or.inl ⟨_, rfl⟩) ?_ (fun t ht _ => ⟨⟨some (.inr r), S, M, hQ, hR, fun y hy => (by cases hy), rfl, by rw [ht]; exact hW.1, by rw [ht]; exact hW.2.1⟩, hW.2.2.F ht⟩) hW.2.2.2.2 hd hlk
  rcases r with _ | r
  · exact Or.inl rfl
  · rcases r with _ | r <;> exact Or.inr ⟨_, rfl⟩

end EvRules
end
section
theorem RM_up {M : ev_M} {i k : Nat} {x : Int} (h : RM M) (hx : inR x) : RM (up M i k x) := by
  intro a b
  unfold up
  split
  · exact hx
  · exact h a b
theorem ev_Wd.put {G : va_G} {ca : Nat → ClassId} {o : Nat} {S : List ev_Sh} {M M' : ev_M} {s : State} {H H' : Heap} {locs : List Loc} {i k : Nat} {sh : ev_Sh} (hW : ev_Wd G ca o S M s H locs) (hS : S[i]? = some sh) (hM : ∀ j, j ≠ i → M' j = M j) (z : H'.size = H.size) (oq : ∀ q : Nat, q ≠ o + i → H'[q]? = H[q]?) (hc : va_at G vwCl (o + i, ev_cell o ca (M' i) sh) H') : ev_Wd G ca o S M' s H' (locs ++ [⟨o + i, k⟩]) := by
  obtain ⟨a1, a2, a3⟩ := hW
  refine ⟨by rw [z]; exact a1, ?_, a3.put z oq (Nat.le_add_right _ _)⟩
  have := a2.set (ev_D o ca S M) (ev_w_at hS) hc oq
  rw [ev_w_set hS rfl hM] at this
  exact this
theorem ev_Wd.putS {G : va_G} {ca : Nat → ClassId} {o : Nat} {S : List ev_Sh} {M : ev_M} {s : State} {H H' : Heap} {locs : List Loc} {i k : Nat} {sh sh' : ev_Sh} (hW : ev_Wd G ca o S M s H locs) (hS : S[i]? = some sh) (z : H'.size = H.size) (oq : ∀ q : Nat, q ≠ o + i → H'[q]? = H[q]?) (hc : va_at G vwCl (o + i, ev_cell o ca (M i) sh') H') : ev_Wd G ca o (S.set i sh') M s H' (locs ++ [⟨o + i, k⟩]) := by
  obtain ⟨a1, a2, a3⟩ := hW
  refine ⟨by rw [z, List.length_set]; exact a1, ?_, a3.put z oq (Nat.le_add_right _ _)⟩
  have := a2.set (ev_D o ca S M) (ev_w_at hS) hc oq
  rw [ev_w_setS hS rfl] at this
  exact this
theorem ev_Wd.push {G : va_G} {ca : Nat → ClassId} {o : Nat} {S : List ev_Sh} {M : ev_M} {s : State} {H H' : Heap} {locs : List Loc} {f : Nat → Int} {sh : ev_Sh} (hos : ∀ q, s.heap.size ≤ q → o ≤ q) (hW : ev_Wd G ca o S M s H locs) (z : H'.size = H.size + 1) (oq : ∀ q : Nat, q < H.size → H'[q]? = H[q]?) (hc : va_at G vwCl (o + S.length, ev_cell o ca f sh) H') : ev_Wd G ca o (S ++ [sh]) (fun a b => if a = S.length then f b else M a b) s H' locs := by
  obtain ⟨a1, a2, a3⟩ := hW
  refine ⟨by rw [z, a1, List.length_append]; rfl, ?_, ⟨by rw [z]; exact Nat.le_succ_of_le a3.1, fun q q1 q2 => (oq q (Nat.lt_of_lt_of_le q1 a3.1)).trans (a3.2.1 q q1 q2), a3.2.2⟩⟩
  rw [← ev_w_push rfl]
  refine (a2.kept (fun k q hk => oq q.1 ((a2 k q hk).lt))).app (fun k q hk => ?_)
  have hz : k < 1 := (List.getElem?_eq_some_iff.mp hk).1
  rw [show k = 0 by omega] at hk
  cases hk
  exact hc
/-- a field as an instruction names it: its class's place, its own, its type, final or not -/
def ev_FL (own : String) (idx ci kf : Nat) (ty : FieldType) (fin : Bool) : Prop := ∃ (C : String) (T : u_T) (N : Nat) (ty0 : Nat → FieldType), vwCl[ci]? = some (C, T, N) ∧ (∀ w ∈ u_ws C T N, w ∈ ev_T) ∧ (∀ k, k < N → parseFieldDescriptor (T k).2.2.1 = some (ty0 k)) ∧ (∀ a, a < N → ∀ b, b < N → a ≠ b → (T a).2.1 ≠ (T b).2.1) ∧ kf < N ∧ parseFieldDescriptor (T kf).2.2.1 = some ty ∧ (T kf).2.2.2 = fin ∧ (fin = true → (T kf).1 = own) ∧
  (Cond.fieldLink own idx (T kf).1 (T kf).2.1 (T kf).2.2.1 ∈ ev_T ∨ ∃ host, Cond.fieldLinkNest own idx (T kf).1 (T kf).2.1 (T kf).2.2.1 host ∈ lw_tbl)
theorem ev_fv_at {o : Nat} {f : Nat → Int} {fl : List (Option (Option Nat))} {kf : Nat} {q : Option (Option Nat)} (h : fl[kf]? = some q) : (ev_fv o f fl)[kf]? = some (ev_f1 o f kf q) := by
  simp [ev_fv, List.getElem?_mapIdx, h]
theorem ev_fv_set {o : Nat} {f f' : Nat → Int} {fl fl' : List (Option (Option Nat))} {kf : Nat} {v : Value} (hk : kf < fl.length) (hv : v = ev_f1 o f' kf (fl'.getD kf none)) (hfl : fl'.length = fl.length) (hn : ∀ j, j ≠ kf → fl'[j]? = fl[j]? ∧ f' j = f j) : (ev_fv o f fl).set kf v = ev_fv o f' fl' := by
  apply List.ext_getElem?
  intro j
  by_cases hj : j = kf
  · subst hj
    rw [List.getElem?_set_self (by simpa [ev_fv] using hk), hv]
    have : j < fl'.length := by omega
    simp [ev_fv, List.getElem?_mapIdx, this]
  · rw [List.getElem?_set_ne (Ne.symm hj)]
    obtain ⟨e1, e2⟩ := hn j hj
    simp only [ev_fv, List.getElem?_mapIdx, e1]
    cases fl[j]? with
    | none => rfl
    | some q => cases q <;> simp [ev_f1, e2]
section EvMem
variable {l : Launch} {X : Option (Nat × (Nat → Int))} {d : Nat} {k : ev_K} {b : Nat × Nat} {S : List ev_Sh} {M : ev_M} {pc q : Nat} {ls tl : List (Option ev_V)} {st : List ev_V} {Q : Option ev_V → List ev_Sh → ev_M → Prop}

theorem ev_get_g {idx ci kf i : Nat} {ty : FieldType} {fin : Bool} {fl : List (Option (Option Nat))} {r : Option (Option Nat)} {v : ev_V} (hd : decode k.1 pc = .ok (.getfield idx, 3)) (hF : ev_FL k.2.1 idx ci kf ty fin) (hS : S[i]? = some (.inr (.inl (ci, fl)))) (hv : fl[kf]? = some r) (hq : pc + 3 = q) (hr : ∀ sb o, ev_f1 o (M i) kf r = tr sb o v) (K : Ev l X d k b S M q ls (v :: st) Q) : Ev l X d k b S M pc ls (vr i :: st) Q := by
  have hrr := hr
  clear hr
  intro hR p e R s m args below meth c G ca sb o hC H locs cells slots lsr hW h1 h2 hL
  obtain ⟨hx, hb, hr, hlk, hml, hown, hts, hex, hin, hf, hlo, hK, hos, hX⟩ := id hC
  obtain ⟨C, T, N, ty0, g1, g2, g3, g4, g5, g6, g7, g8, g9⟩ := hF
  have he := ev_w_at (o := o) (ca := ca) (M := M) hS
  have hvv : (ev_fv o (M i) fl)[kf]? = some (tr sb o v) := by rw [ev_fv_at hv, hrr sb o]
  subst hq
  rcases g9 with g9 | ⟨host, g9⟩
  · exact va_get hx hb hts g2 hown hK hW.2.1 i he g1 kf g5 (hts _ g9) (fun x h => h) hvv hd (K hR p e R s m args below meth c G ca sb o hC H locs cells slots lsr hW h1 h2 hL)
  · exact va_getN hx hb hts g2 hown hK hW.2.1 i he g1 kf g5 (va_Nw.use rfl (hex.1 _ g9 rfl)) (fun x h => h) hvv hd (K hR p e R s m args below meth c G ca sb o hC H locs cells slots lsr hW h1 h2 hL)
theorem ev_getI {idx ci kf i : Nat} {ty : FieldType} {fin : Bool} {fl : List (Option (Option Nat))} (hd : decode k.1 pc = .ok (.getfield idx, 3)) (hF : ev_FL k.2.1 idx ci kf ty fin) (hS : S[i]? = some (.inr (.inl (ci, fl)))) (hv : fl[kf]? = some none) (hq : pc + 3 = q) (K : inR (M i kf) → Ev l X d k b S M q ls (vi (M i kf) :: st) Q) : Ev l X d k b S M pc ls (vr i :: st) Q := by
  intro hR
  exact ev_get_g hd hF hS hv hq (fun _ _ => rfl) (K (hR i kf)) hR
theorem ev_getR {idx ci kf i j : Nat} {ty : FieldType} {fin : Bool} {fl : List (Option (Option Nat))} (hd : decode k.1 pc = .ok (.getfield idx, 3)) (hF : ev_FL k.2.1 idx ci kf ty fin) (hS : S[i]? = some (.inr (.inl (ci, fl)))) (hv : fl[kf]? = some (some (some j))) (hq : pc + 3 = q) (K : Ev l X d k b S M q ls (vr j :: st) Q) : Ev l X d k b S M pc ls (vr i :: st) Q := ev_get_g hd hF hS hv hq (fun _ _ => rfl) K
theorem narrow_int (x : Int32) : narrow .int (.int x) = .int x := rfl
theorem ev_putI_g {idx ci kf i : Nat} {ty : FieldType} {fl : List (Option (Option Nat))} {x : Int} (hd : decode k.1 pc = .ok (.putfield idx, 3)) (hF : ev_FL k.2.1 idx ci kf ty false) (hS : S[i]? = some (.inr (.inl (ci, fl)))) (hv : fl[kf]? = some none) (hq : pc + 3 = q) (hn : narrow ty (.int (Int32.ofInt x)) = .int (Int32.ofInt x)) (hfit : fits ty (.int (Int32.ofInt x)) = true) (i1 : inR x) (K : Ev l X d k b S (up M i kf x) q ls st Q) : Ev l X d k b S M pc ls (vi x :: vr i :: st) Q := by
  intro hR p e R s m args below meth c G ca sb o hC H locs cells slots lsr hW h1 h2 hL
  obtain ⟨hx, hb, hr, hlk, hml, hown, hts, hex, hin, hf, hlo, hK, hos, hX⟩ := id hC
  obtain ⟨C, T, N, ty0, g1, g2, g3, g4, g5, g6, g7, g8, g9⟩ := hF
  have he := ev_w_at (o := o) (ca := ca) (M := M) hS
  have hl : kf < fl.length := (List.getElem?_eq_some_iff.mp hv).1
  have hll : kf < (ev_fv o (M i) fl).length := by simpa [ev_fv] using hl
  have hap := va_apart (own := k.2.1) hts g2 ty0 g3 g4 hK g1
  obtain ⟨r, r1, cell, q1, q2, q3, q4⟩ := hW.2.1 i _ he
  have hrr : r = (C, T, N) := Option.some.inj (r1.symm.trans g1)
  subst hrr
  obtain ⟨hSS, hfc, kC, hkC, hkind⟩ := hK.1 ci _ g1
  obtain ⟨cf, kf1, fi, f, hi, hsl⟩ := hSS kf g5
  have hlay := hts _ (g2 _ (u_in_lay g5))
  unfold u_lay at hlay
  rw [if_neg (by rw [g7]; decide)] at hlay
  have hst := (u_facts hfc hkC (u_lays hts g2 g5) hi).1
  have h6 := u_store hfc hkC hkind hlay hi g6 hn hfit
  have key : ∀ H' : Heap, H'[o + i]? = some (cell.setSlot f.slot (.int (Int32.ofInt x))) → H'.size = H.size → (∀ q, q ≠ o + i → H'[q]? = H[q]?) → ev_Wd G ca o S (up M i kf x) s H' (locs ++ [⟨o + i, f.slot⟩]) := by
    intro H' e1 e2 e3
    refine hW.put hS (fun j hj => ?_) e2 e3 ?_
    · funext b; simp [up, hj]
    · rw [hsl] at e1
      refine ⟨_, g1, ?_⟩
      have := t_OB.to (V := updV (vp_V (ev_fv o (M i) fl)) kf (.int (Int32.ofInt x))) ⟨_, e1, q2, q3, t_set q4 hap g5 _⟩ (fun j _ => vp_updV_set hll _ j)
      rw [show (ev_cell o ca (up M i kf x i) (.inr (.inl (ci, fl)))) = .inr (ci, ev_fv o (up M i kf x i) fl) from rfl]
      rw [ev_fv_set (f' := up M i kf x i) (fl' := fl) hl (by simp [List.getD_eq_getElem?_getD, hv, ev_f1, up]) rfl (fun j hj => ⟨rfl, by simp [up, hj]⟩)] at this
      exact this
  subst hq
  rcases g9 with g9 | ⟨host, g9⟩
  · exact W.putK hx hb (f := f) ⟨hown, hts _ g9, ⟨_, _, _, hi⟩, hst⟩ (by rw [q2]; exact h6) q1 q3 (by rw [hsl]; exact k2_hasslot (q4 kf g5)) rfl rfl hd (fun H' e1 e2 e3 => K (RM_up hR i1) p e R s m args below meth c G ca sb o hC H' _ cells slots lsr (key H' e1 e2 e3) h1 h2 hL)
  · exact va_WputK hx hb (f := f) hown (va_Nw.use rfl (hex.1 _ g9 rfl)) hi hst (by rw [q2]; exact h6) q1 q3 (by rw [hsl]; exact k2_hasslot (q4 kf g5)) rfl rfl hd (fun H' e1 e2 e3 => K (RM_up hR i1) p e R s m args below meth c G ca sb o hC H' _ cells slots lsr (key H' e1 e2 e3) h1 h2 hL)

theorem ev_putI {idx ci kf i : Nat} {fl : List (Option (Option Nat))} {x : Int} (hd : decode k.1 pc = .ok (.putfield idx, 3)) (hF : ev_FL k.2.1 idx ci kf .int false) (hS : S[i]? = some (.inr (.inl (ci, fl)))) (hv : fl[kf]? = some none) (hq : pc + 3 = q) (i1 : inR x) (K : Ev l X d k b S (up M i kf x) q ls st Q) : Ev l X d k b S M pc ls (vi x :: vr i :: st) Q := ev_putI_g hd hF hS hv hq rfl rfl i1 K
theorem ev_putZ {idx ci kf i : Nat} {fl : List (Option (Option Nat))} {x : Int} (hd : decode k.1 pc = .ok (.putfield idx, 3)) (hF : ev_FL k.2.1 idx ci kf .boolean false) (hS : S[i]? = some (.inr (.inl (ci, fl)))) (hv : fl[kf]? = some none) (hq : pc + 3 = q) (i1 : x = 0 ∨ x = 1) (K : Ev l X d k b S (up M i kf x) q ls st Q) : Ev l X d k b S M pc ls (vi x :: vr i :: st) Q := by
  rcases i1 with rfl | rfl
  · exact ev_putI_g hd hF hS hv hq (by decide) (by decide) (by unfold inR; omega) K
  · exact ev_putI_g hd hF hS hv hq (by decide) (by decide) (by unfold inR; omega) K
theorem ev_putR {idx ci kf i j : Nat} {ty : FieldType} {fl : List (Option (Option Nat))} {r : Option Nat} (hd : decode k.1 pc = .ok (.putfield idx, 3)) (hF : ev_FL k.2.1 idx ci kf ty true) (hS : S[i]? = some (.inr (.inl (ci, fl)))) (hv : fl[kf]? = some (some r)) (hq : pc + 3 = q) (hk : k.2.2.2.2 = true) (hn : ∀ a, narrow ty (.ref a) = .ref a) (hfit : ∀ a, fits ty (.ref a) = true) (hnest : ∀ n t2 t3 host, ∀ own2, ¬ Cond.fieldLinkNest own2 idx n t2 t3 host ∈ lw_tbl) (K : Ev l X d k b (S.set i (.inr (.inl (ci, fl.set kf (some (some j)))))) M q ls st Q) : Ev l X d k b S M pc ls (vr j :: vr i :: st) Q := by
  intro hR p e R s m args below meth c G ca sb o hC H locs cells slots lsr hW h1 h2 hL
  obtain ⟨hx, hb, hr, hlk, hml, hown, hts, hex, hin, hf, hlo, hK, hos, hX⟩ := id hC
  obtain ⟨C, T, N, ty0, g1, g2, g3, g4, g5, g6, g7, g8, g9⟩ := hF
  have he := ev_w_at (o := o) (ca := ca) (M := M) hS
  have hl : kf < fl.length := (List.getElem?_eq_some_iff.mp hv).1
  have hll : kf < (ev_fv o (M i) fl).length := by simpa [ev_fv] using hl
  have hap := va_apart (own := k.2.1) hts g2 ty0 g3 g4 hK g1
  obtain ⟨r, r1, cell, q1, q2, q3, q4⟩ := hW.2.1 i _ he
  have hrr : r = (C, T, N) := Option.some.inj (r1.symm.trans g1)
  subst hrr
  obtain ⟨hSS, hfc, kC, hkC, hkind⟩ := hK.1 ci _ g1
  obtain ⟨cf, kf1, fi, f, hi, hsl⟩ := hSS kf g5
  have hlay := hts _ (g2 _ (u_in_lay g5))
  unfold u_lay at hlay
  rw [if_pos g7] at hlay
  have hst := (u_facts hfc hkC (u_lays hts g2 g5) hi).1
  have hcf : m.cls = cf := by
    obtain ⟨_, _, c', _, _, _, -, -, hf', -, -, -, hown2, -⟩ := Cond.laysFinal_spec hlay
    have e1 : c' = cf := by have := hi.symm.trans hf'; simp at this; exact this.1.symm
    rw [g8 rfl] at hown2
    rw [← e1]; exact Option.some.inj (hown.symm.trans hown2)
  have h6 := u_fits hfc hkC hkind (Or.inr hlay) hi g6 (hn (o + j)) (hfit (o + j))
  have key : ∀ H' : Heap, H'[o + i]? = some (cell.setSlot f.slot (.ref (o + j))) → H'.size = H.size → (∀ q, q ≠ o + i → H'[q]? = H[q]?) → ev_Wd G ca o (S.set i (.inr (.inl (ci, fl.set kf (some (some j)))))) M s H' (locs ++ [⟨o + i, f.slot⟩]) := by
    intro H' e1 e2 e3
    refine hW.putS hS e2 e3 ?_
    rw [hsl] at e1
    refine ⟨_, g1, ?_⟩
    have := t_OB.to (V := updV (vp_V (ev_fv o (M i) fl)) kf (.ref (o + j))) ⟨_, e1, q2, q3, t_set q4 hap g5 _⟩ (fun j _ => vp_updV_set hll _ j)
    rw [show (ev_cell o ca (M i) (.inr (.inl (ci, fl.set kf (some (some j)))))) = .inr (ci, ev_fv o (M i) (fl.set kf (some (some j)))) from rfl]
    rw [ev_fv_set (f' := M i) (fl' := fl.set kf (some (some j))) hl (by simp [List.getD_eq_getElem?_getD, hl, ev_f1, va_rf]) (by simp) (fun j hj => ⟨List.getElem?_set_ne (Ne.symm hj), rfl⟩)] at this
    exact this
  subst hq
  rcases g9 with g9 | ⟨host, g9⟩
  · exact W.putFinK hx hb hown (hts _ g9) hi hst hcf (hin hk) (by rw [q2]; exact h6) q1 q3 (by rw [hsl]; exact k2_hasslot (q4 kf g5)) rfl rfl hd (fun H' e1 e2 e3 => K hR p e R s m args below meth c G ca sb o hC H' _ cells slots lsr (key H' e1 e2 e3) h1 h2 hL)
  · exact absurd g9 (hnest _ _ _ _ _)

theorem ev_iaload {i n : Nat} {x : Int} (hd : decode k.1 pc = .ok (.iaload, 1)) (hS : S[i]? = some (.inl (0, n))) (hx1 : 0 ≤ x ∧ x < (n : Int)) (hn : n < 2 ^ 31) (hq : pc + 1 = q) (K : inR (M i x.toNat) → Ev l X d k b S M q ls (vi (M i x.toNat) :: st) Q) : Ev l X d k b S M pc ls (vi x :: vr i :: st) Q := by
  intro hR p e R s m args below meth c G ca sb o hC H locs cells slots lsr hW h1 h2 hL
  obtain ⟨hx, hb, hr, hlk, hml, hown, hts, hex, hin, hf, hlo, hK, hos, hX⟩ := id hC
  have he := ev_w_at (o := o) (ca := ca) (M := M) hS
  have i1 : inR x := by unfold inR; omega
  subst hq
  exact va_iald hx hb hK hW.2.1 i 0 he rfl (oi_in i1 hx1.1 hx1.2) hd (by rw [oi_clamp i1]; exact K (hR i _) hR p e R s m args below meth c G ca sb o hC H locs cells slots lsr hW h1 h2 hL)
theorem ev_baload {i n : Nat} {x : Int} (hd : decode k.1 pc = .ok (.baload, 1)) (hS : S[i]? = some (.inl (1, n))) (hx1 : 0 ≤ x ∧ x < (n : Int)) (hn : n < 2 ^ 31) (hq : pc + 1 = q) (K : inR (M i x.toNat) → Ev l X d k b S M q ls (vi (M i x.toNat) :: st) Q) : Ev l X d k b S M pc ls (vi x :: vr i :: st) Q := by
  intro hR p e R s m args below meth c G ca sb o hC H locs cells slots lsr hW h1 h2 hL
  obtain ⟨hx, hb, hr, hlk, hml, hown, hts, hex, hin, hf, hlo, hK, hos, hX⟩ := id hC
  have he := ev_w_at (o := o) (ca := ca) (M := M) hS
  have i1 : inR x := by unfold inR; omega
  subst hq
  exact va_zald hx hb hK hW.2.1 i 1 he rfl (oi_in i1 hx1.1 hx1.2) hd (by rw [oi_clamp i1]; exact K (hR i _) hR p e R s m args below meth c G ca sb o hC H locs cells slots lsr hW h1 h2 hL)
theorem ev_caload {i n : Nat} {x : Int} (hd : decode k.1 pc = .ok (.caload, 1)) (hS : S[i]? = some (.inl (2, n))) (hx1 : 0 ≤ x ∧ x < (n : Int)) (hn : n < 2 ^ 31) (hq : pc + 1 = q) (K : inR (M i x.toNat) → Ev l X d k b S M q ls (vi (M i x.toNat) :: st) Q) : Ev l X d k b S M pc ls (vi x :: vr i :: st) Q := by
  intro hR p e R s m args below meth c G ca sb o hC H locs cells slots lsr hW h1 h2 hL
  obtain ⟨hx, hb, hr, hlk, hml, hown, hts, hex, hin, hf, hlo, hK, hos, hX⟩ := id hC
  have he := ev_w_at (o := o) (ca := ca) (M := M) hS
  have i1 : inR x := by unfold inR; omega
  subst hq
  exact va_cald hx hb hK hW.2.1 i 2 he rfl (oi_in i1 hx1.1 hx1.2) hd (by rw [oi_clamp i1]; exact K (hR i _) hR p e R s m args below meth c G ca sb o hC H locs cells slots lsr hW h1 h2 hL)
theorem ev_aaload {i n j : Nat} {g : Nat → Option Nat} {x : Int} (hd : decode k.1 pc = .ok (.aaload, 1)) (hS : S[i]? = some (.inr (.inr (3, n, g)))) (hx1 : 0 ≤ x ∧ x < (n : Int)) (hn : n < 2 ^ 31) (hg : g x.toNat = some j) (hq : pc + 1 = q) (K : Ev l X d k b S M q ls (vr j :: st) Q) : Ev l X d k b S M pc ls (vi x :: vr i :: st) Q := by
  intro hR p e R s m args below meth c G ca sb o hC H locs cells slots lsr hW h1 h2 hL
  obtain ⟨hx, hb, hr, hlk, hml, hown, hts, hex, hin, hf, hlo, hK, hos, hX⟩ := id hC
  have he := ev_w_at (o := o) (ca := ca) (M := M) hS
  have i1 : inR x := by unfold inR; omega
  subst hq
  exact va_aldq hx hb hK hW.2.1 i 3 he rfl (oi_in i1 hx1.1 hx1.2) hd (by rw [oi_clamp i1, hg]; exact K hR p e R s m args below meth c G ca sb o hC H locs cells slots lsr hW h1 h2 hL)
theorem ev_alen {i n t : Nat} (hd : decode k.1 pc = .ok (.arraylength, 1)) (hS : S[i]? = some (.inl (t, n))) (ht : t < 3) (hq : pc + 1 = q) (K : Ev l X d k b S M q ls (vi (n : Int) :: st) Q) : Ev l X d k b S M pc ls (vr i :: st) Q := by
  intro hR p e R s m args below meth c G ca sb o hC H locs cells slots lsr hW h1 h2 hL
  obtain ⟨hx, hb, hr, hlk, hml, hown, hts, hex, hin, hf, hlo, hK, hos, hX⟩ := id hC
  have he := ev_w_at (o := o) (ca := ca) (M := M) hS
  subst hq
  have hv : Int32.ofNat n = Int32.ofInt (n : Int) := Int32.ofInt_eq_ofNat.symm
  match t, ht with
  | 0, _ => exact va_alen hx hb hK hW.2.1 i 0 he rfl hv hd (K hR p e R s m args below meth c G ca sb o hC H locs cells slots lsr hW h1 h2 hL)
  | 1, _ => exact va_alen hx hb hK hW.2.1 i 1 he rfl hv hd (K hR p e R s m args below meth c G ca sb o hC H locs cells slots lsr hW h1 h2 hL)
  | 2, _ => exact va_alen hx hb hK hW.2.1 i 2 he rfl hv hd (K hR p e R s m args below meth c G ca sb o hC H locs cells slots lsr hW h1 h2 hL)
theorem ev_alenR {i n : Nat} {g : Nat → Option Nat} (hd : decode k.1 pc = .ok (.arraylength, 1)) (hS : S[i]? = some (.inr (.inr (3, n, g)))) (hq : pc + 1 = q) (K : Ev l X d k b S M q ls (vi (n : Int) :: st) Q) : Ev l X d k b S M pc ls (vr i :: st) Q := by
  intro hR p e R s m args below meth c G ca sb o hC H locs cells slots lsr hW h1 h2 hL
  obtain ⟨hx, hb, hr, hlk, hml, hown, hts, hex, hin, hf, hlo, hK, hos, hX⟩ := id hC
  have he := ev_w_at (o := o) (ca := ca) (M := M) hS
  subst hq
  exact va_alen hx hb hK hW.2.1 i 3 he rfl Int32.ofInt_eq_ofNat.symm hd (K hR p e R s m args below meth c G ca sb o hC H locs cells slots lsr hW h1 h2 hL)
theorem ev_upf {M : ev_M} {i j : Nat} {x : Int} : (fun a => Int32.ofInt (up M i j x i a)) = upd (fun a => Int32.ofInt (M i a)) j (Int32.ofInt x) := by
  funext a
  by_cases h : a = j
  · subst h; simp [up, upd]
  · simp [up, upd, h]

theorem ev_iastore {i n : Nat} {x j : Int} (hd : decode k.1 pc = .ok (.iastore, 1)) (hS : S[i]? = some (.inl (0, n))) (hx1 : 0 ≤ j ∧ j < (n : Int)) (hn : n < 2 ^ 31) (i1 : inR x) (hq : pc + 1 = q) (K : Ev l X d k b S (up M i j.toNat x) q ls st Q) : Ev l X d k b S M pc ls (vi x :: vi j :: vr i :: st) Q := by
  intro hR p e R s m args below meth c G ca sb o hC H locs cells slots lsr hW h1 h2 hL
  obtain ⟨hx, hb, hr, hlk, hml, hown, hts, hex, hin, hf, hlo, hK, hos, hX⟩ := id hC
  have he := ev_w_at (o := o) (ca := ca) (M := M) hS
  have j1 : inR j := by unfold inR; omega
  have hnar : Value.int (Int32.ofInt x) = .int (Int32.ofInt x) := rfl
  subst hq
  refine W.iast hx hb (hW.2.1 i _ he) ((hK.2 0 _ rfl).1 n (fun a => .int (Int32.ofInt (M i a)))) (fun q => by cases q) (by show ¬ (Int32.ofInt j < 0 ∨ (arrV _ _ _).slots.size ≤ _); rw [arrV_size]; exact oi_in j1 hx1.1 hx1.2) rfl rfl hd fun H1 e9 z oq => ?_
  refine K (RM_up hR i1) p e R s m args below meth c G ca sb o hC H1 _ cells slots lsr (hW.put hS (fun a ha => by funext c; simp [up, ha]) z oq ?_) h1 h2 hL
  show H1[o + i]? = some (vp_cell (ca 0) (n, .inl (fun a => Int32.ofInt (up M i j.toNat x i a))))
  rw [e9]
  show some ((vp_cell (ca 0) (n, .inl (fun a => Int32.ofInt (M i a)))).setSlot _ _) = _
  rw [vp_cell_i, vp_cell_i, arrV_store, oi_clamp j1]
  congr 2
  funext a
  by_cases h : a = j.toNat
  · subst h; simp [up, updV]
  · simp [up, updV, h]
theorem ev_bastore {i n : Nat} {x j : Int} (hd : decode k.1 pc = .ok (.bastore, 1)) (hS : S[i]? = some (.inl (1, n))) (hx1 : 0 ≤ j ∧ j < (n : Int)) (hn : n < 2 ^ 31) (i1 : inR x) (i2 : x = 0 ∨ x = 1) (hq : pc + 1 = q) (K : Ev l X d k b S (up M i j.toNat x) q ls st Q) : Ev l X d k b S M pc ls (vi x :: vi j :: vr i :: st) Q := by
  intro hR p e R s m args below meth c G ca sb o hC H locs cells slots lsr hW h1 h2 hL
  obtain ⟨hx, hb, hr, hlk, hml, hown, hts, hex, hin, hf, hlo, hK, hos, hX⟩ := id hC
  have he := ev_w_at (o := o) (ca := ca) (M := M) hS
  have j1 : inR j := by unfold inR; omega
  have hnar : narrow .boolean (.int (Int32.ofInt x)) = .int (Int32.ofInt x) := by rcases i2 with rfl | rfl <;> decide
  subst hq
  refine W.zast hx hb (hW.2.1 i _ he) ((hK.2 1 _ rfl).1 n (fun a => .int (Int32.ofInt (M i a)))) (fun q => by cases q) (by show ¬ (Int32.ofInt j < 0 ∨ (arrV _ _ _).slots.size ≤ _); rw [arrV_size]; exact oi_in j1 hx1.1 hx1.2) rfl rfl hd fun H1 e9 z oq => ?_
  refine K (RM_up hR i1) p e R s m args below meth c G ca sb o hC H1 _ cells slots lsr (hW.put hS (fun a ha => by funext c; simp [up, ha]) z oq ?_) h1 h2 hL
  show H1[o + i]? = some (vp_cell (ca 1) (n, .inl (fun a => Int32.ofInt (up M i j.toNat x i a))))
  rw [e9, hnar]
  show some ((vp_cell (ca 1) (n, .inl (fun a => Int32.ofInt (M i a)))).setSlot _ _) = _
  rw [vp_cell_i, vp_cell_i, arrV_store, oi_clamp j1]
  congr 2
  funext a
  by_cases h : a = j.toNat
  · subst h; simp [up, updV]
  · simp [up, updV, h]
theorem ev_castore {i n : Nat} {x j : Int} (hd : decode k.1 pc = .ok (.castore, 1)) (hS : S[i]? = some (.inl (2, n))) (hx1 : 0 ≤ j ∧ j < (n : Int)) (hn : n < 2 ^ 31) (i1 : inR x) (i2 : 0 ≤ x ∧ x < 65536) (hq : pc + 1 = q) (K : Ev l X d k b S (up M i j.toNat x) q ls st Q) : Ev l X d k b S M pc ls (vi x :: vi j :: vr i :: st) Q := by
  intro hR p e R s m args below meth c G ca sb o hC H locs cells slots lsr hW h1 h2 hL
  obtain ⟨hx, hb, hr, hlk, hml, hown, hts, hex, hin, hf, hlo, hK, hos, hX⟩ := id hC
  have he := ev_w_at (o := o) (ca := ca) (M := M) hS
  have j1 : inR j := by unfold inR; omega
  have hnar : narrow .char (.int (Int32.ofInt x)) = .int (Int32.ofInt x) := by
    show Value.int _ = _
    rw [lg_i2c_small (by rw [oi_toInt i1]; exact i2.1) (by rw [oi_toInt i1]; exact i2.2)]
  subst hq
  refine W.cast hx hb (hW.2.1 i _ he) ((hK.2 2 _ rfl).1 n (fun a => .int (Int32.ofInt (M i a)))) (fun q => by cases q) (by show ¬ (Int32.ofInt j < 0 ∨ (arrV _ _ _).slots.size ≤ _); rw [arrV_size]; exact oi_in j1 hx1.1 hx1.2) rfl rfl hd fun H1 e9 z oq => ?_
  refine K (RM_up hR i1) p e R s m args below meth c G ca sb o hC H1 _ cells slots lsr (hW.put hS (fun a ha => by funext c; simp [up, ha]) z oq ?_) h1 h2 hL
  show H1[o + i]? = some (vp_cell (ca 2) (n, .inl (fun a => Int32.ofInt (up M i j.toNat x i a))))
  rw [e9, hnar]
  show some ((vp_cell (ca 2) (n, .inl (fun a => Int32.ofInt (M i a)))).setSlot _ _) = _
  rw [vp_cell_i, vp_cell_i, arrV_store, oi_clamp j1]
  congr 2
  funext a
  by_cases h : a = j.toNat
  · subst h; simp [up, updV]
  · simp [up, updV, h]
end EvMem
end
section
theorem ev_Pc_blind {G : va_G} {ca : Nat → ClassId} {sb o : Nat} {S : List ev_Sh} {M : ev_M} {av : List ev_V} : FrameBlind (ev_Pc G ca sb o S M av) := by
  intro a U g mk h
  obtain ⟨h1, h2, h3, h4, h5⟩ := h
  exact ⟨h1, h2, h3, va_K.moved (u := U) (U := U.calling g mk a) (Vm.Alike.refl U.vm) h4, ev_Ex.same (u := U) (U := U.calling g mk a) rfl h5⟩
theorem ev_sum (sb o : Nat) : ∀ st : List ev_V, ((st.map (tr sb o)).map fun v => v.category).sum = st.length
  | [] => rfl
  | v :: st => by
    have := ev_sum sb o st
    simp only [List.map_cons, List.sum_cons, List.length_cons, tr_cat, this]
    omega
theorem ev_goodc {y : MethodName} {bytes : ByteArray} {maxL : Nat} {ret : Option FieldType} (h : Cond.code y bytes maxL ret ∈ ev_T) : GoodIn ev_T (Cond.code y bytes maxL ret :: ev_T) := by
  intro w hw
  rcases List.mem_cons.mp hw with rfl | hw
  · exact ev_good _ h
  · exact ev_good _ hw
theorem ev_after {p : Program} {l : Launch} {e : Env} {R : Room} {s : State} {m : MethodId} {args : Array Value} {below : List Frame} {meth : Method} {c : Code} {H : Heap} {locs : List Loc} {cells slots mc ms pc : Nat} {lsr : Array Slot} {st0 rest : List Value} {Qw : State → Prop} {G : va_G} {ca : Nat → ClassId} {sb o : Nat} {Q1 : Option ev_V → List ev_Sh → ev_M → Prop} {a : Array Value}
    (hr : va_Run p l e R s m args below meth c H locs cells slots mc ms (F0 m pc lsr st0) rest (ev_Qc G ca sb o Q1 a) (ev_A o)) (hS : va_S (ev_A o) s.heap H locs)
    (kk : ∀ (v : Option ev_V) (S' : List ev_Sh) (M' : ev_M) (H1 : Heap) (locs1 : List Loc), Q1 v S' M' → RM M' → okv v → ev_Wd G ca o S' M' s H1 locs1 → W p l e R s m args below meth c H1 locs1 (cells + mc) (slots + ms) Qw (F0 m (pc + 3) lsr ((v.map (tr sb o)).toList ++ rest))) : W p l e R s m args below meth c H locs cells slots Qw (F0 m pc lsr st0) := by
  intro T hT X
  obtain ⟨v, st₀, t, T', L, h0, X', hL, e1, e2, ⟨⟨v', S', M', q1, q2, q3, q4, q5, q6⟩, hz, hk⟩, st⟩ := hr T hT X
  cases q4
  rw [h0] at hz hk
  obtain ⟨t2, a1, b1⟩ := kk v' S' M' T'.heap (locs ++ L) q1 q2 q3 ⟨by rw [e1]; exact q5, by rw [e1]; exact q6, ⟨Nat.le_trans hS.1 (by rw [e1]; exact hz), fun q h1 h2 => by rw [e1, hk q (Nat.lt_of_lt_of_le h1 hS.1) h2]; exact hS.2.1 q h1 h2, fun q hq => by
      rcases List.mem_append.mp hq with h | h
      · exact hS.2.2 q h
      · exact hL q h⟩⟩ T' rfl X'
  exact ⟨t2, st t2 a1, b1⟩
def ev_VS (own : String) (idx : Nat) (y : MethodName) (k1 : ev_K) (n ci : Nat) : Prop := ev_LK own idx y ∧ ev_MO y k1 n ∧ Cond.instanceMethod y ∈ ev_T ∧ Cond.selects y.cls y y ∈ lw_tbl ∧ Cond.selects y.cls y y ∈ ev_T ∧ ∃ T N, vwCl[ci]? = some (y.cls, T, N)
def ev_SS (own : String) (idx : Nat) (y : MethodName) (k1 : ev_K) (n : Nat) : Prop := ev_LK own idx y ∧ ev_MO y k1 n ∧ Cond.static y ∈ ev_T
def ev_IS (own : String) (idx : Nat) (y : MethodName) (k1 : ev_K) (n : Nat) : Prop := ev_LK own idx y ∧ ev_MO y k1 n ∧ Cond.instanceMethod y ∈ ev_T ∧ y.name = "<init>" ∧ k1.2.2.2.1 = none
section EvCalls
variable {l : Launch} {X : Option (Nat × (Nat → Int))} {d : Nat} {k : ev_K} {b : Nat × Nat} {S : List ev_Sh} {M : ev_M} {pc q : Nat} {ls tl : List (Option ev_V)} {st : List ev_V} {Q : Option ev_V → List ev_Sh → ev_M → Prop}
variable {idx n ci i d1 : Nat} {y : MethodName} {k1 : ev_K} {b1 b2 : Nat × Nat} {fl : List (Option (Option Nat))} {As stk : List ev_V} {Q1 : Option ev_V → List ev_Sh → ev_M → Prop}
theorem ev_callV (hd : decode k.1 pc = .ok (.invokevirtual idx, 3)) (hs : ev_VS k.2.1 idx y k1 n ci) (hS : S[i]? = some (.inr (.inl (ci, fl)))) (hc : Ct l d1 k1 y b1 S M (vr i :: As) Q1) (hd1 : d1 + 1 ≤ d) (hn : As.length = n) (hstk : stk = As.reverse ++ vr i :: st) (hst : st.length ≤ 8) (hbb : b = (b1.1 + b2.1, b1.2 + b2.2)) (hq : pc + 3 = q)
    (K : ∀ v S' M', Q1 v S' M' → okv v → Ev l X d k b2 S' M' q ls (v.toList ++ st) Q) : Ev l X d k b S M pc ls stk Q := by
  intro hR p e R s m args below meth c G ca sb o hC H locs cells slots lsr hW h1 h2 hL
  obtain ⟨hx, hb, hr, hlk, hml, hown, hts, hex, hin, hf, hlo, hK, hos, hX⟩ := id hC
  obtain ⟨hl, ⟨m1, m2, m3, m4⟩, s1, -, s2, T, N, g1⟩ := hs
  have he := ev_w_at (o := o) (ca := ca) (M := M) hS
  subst hq hstk hbb
  dsimp only at h1 h2
  have hM := hc hR G ca sb o
  have hroom : (ev_rm d1 b1).frames + 1 ≤ R.frames ∧ 8 + (k1.2.2.1 + 11) + (ev_rm d1 b1).locals ≤ R.locals := by
    unfold ev_rm; dsimp only; omega
  have hpre : PreV s H y.cls (o + i) (ev_Pc G ca sb o S M (vr i :: As)) (As.map (tr sb o)) := by
    refine ⟨ev_Pc_blind, va_recv hK hW.2.1 g1 he, fun U hU hWm => ⟨rfl, by rw [hU]; exact hW.1, by rw [hU]; exact hW.2.1, va_K.moved hWm.alike hK, hex.warm hWm⟩⟩
  have hrest : (As.reverse ++ vr i :: st).map (tr sb o) = (As.map (tr sb o)).reverse ++ Value.ref (o + i) :: st.map (tr sb o) := by
    rw [List.map_append, List.map_reverse]; rfl
  have hsum : ((st.map (tr sb o)).map fun v => v.category).sum ≤ 8 := by rw [ev_sum]; exact hst
  have fin : ∀ (v : Option ev_V) (S' : List ev_Sh) (M' : ev_M) (H1 : Heap) (locs1 : List Loc), Q1 v S' M' → RM M' → okv v → ev_Wd G ca o S' M' s H1 locs1 → W p l e R s m args below meth c H1 locs1 (cells + b1.1) (slots + b1.2) (MQ below (ev_Qc G ca sb o Q) args s R.cells R.slots (ev_A o)) (F0 m (pc + 3) lsr ((v.map (tr sb o)).toList ++ st.map (tr sb o))) := by
    intro v S' M' H1 locs1 w1 w2 w3 w4
    have := K v S' M' w1 w3 w2 p e R s m args below meth c G ca sb o hC H1 locs1 (cells + b1.1) (slots + b1.2) lsr w4 (by omega) (by omega) hL
    cases v <;> exact this
  rw [hrest]
  rcases hl with hl | ⟨host, hl⟩
  · exact ev_after (va_runV (As := As.map (tr sb o)) (rest := st.map (tr sb o)) ⟨hx, hb, hml, hown, hts⟩ hM ⟨callB_of n hts (ev_goodc m1) rfl rfl rfl (hts _ m2) (hts _ hl) m3 hroom, hts _ s1, hts _ s2⟩ hpre rfl (by rw [List.length_map]; exact hn) hL.1 rfl (lv_room hsum) hd ⟨by omega, by omega⟩) hW.2.2 fin
  · exact ev_after (va_runVN (As := As.map (tr sb o)) (rest := st.map (tr sb o)) ⟨hx, hb, hml, hown, hts⟩ hM ⟨va_cnB n hts (ev_goodc m1) rfl rfl rfl (hex.1 _ hl rfl) (hts _ m2) m3 hroom, hts _ s1, hts _ s2⟩ hpre rfl (by rw [List.length_map]; exact hn) hL.1 rfl (lv_room hsum) hd ⟨by omega, by omega⟩) hW.2.2 fin
theorem ev_callS (hd : decode k.1 pc = .ok (.invokestatic idx, 3)) (hs : ev_SS k.2.1 idx y k1 n) (hc : Ct l d1 k1 y b1 S M As Q1) (hd1 : d1 + 1 ≤ d) (hn : As.length = n) (hstk : stk = As.reverse ++ st) (hst : st.length ≤ 8) (hbb : b = (b1.1 + b2.1, b1.2 + b2.2)) (hq : pc + 3 = q)
    (K : ∀ v S' M', Q1 v S' M' → okv v → Ev l X d k b2 S' M' q ls (v.toList ++ st) Q) : Ev l X d k b S M pc ls stk Q := by
  intro hR p e R s m args below meth c G ca sb o hC H locs cells slots lsr hW h1 h2 hL
  obtain ⟨hx, hb, hr, hlk, hml, hown, hts, hex, hin, hf, hlo, hK, hos, hX⟩ := id hC
  obtain ⟨hl, ⟨m1, m2, m3, m4⟩, s1⟩ := hs
  subst hq hstk hbb
  dsimp only at h1 h2
  have hM := hc hR G ca sb o
  have hroom : (ev_rm d1 b1).frames + 1 ≤ R.frames ∧ 8 + (k1.2.2.1 + 11) + (ev_rm d1 b1).locals ≤ R.locals := by
    unfold ev_rm; dsimp only; omega
  have hpre : PreS s H (ev_Pc G ca sb o S M As) (As.map (tr sb o)) := by
    refine ⟨ev_Pc_blind, fun U hU hWm => ⟨rfl, by rw [hU]; exact hW.1, by rw [hU]; exact hW.2.1, va_K.moved hWm.alike hK, hex.warm hWm⟩⟩
  have hrest : (As.reverse ++ st).map (tr sb o) = (As.map (tr sb o)).reverse ++ st.map (tr sb o) := by
    rw [List.map_append, List.map_reverse]
  have hsum : ((st.map (tr sb o)).map fun v => v.category).sum ≤ 8 := by rw [ev_sum]; exact hst
  have fin : ∀ (v : Option ev_V) (S' : List ev_Sh) (M' : ev_M) (H1 : Heap) (locs1 : List Loc), Q1 v S' M' → RM M' → okv v → ev_Wd G ca o S' M' s H1 locs1 → W p l e R s m args below meth c H1 locs1 (cells + b1.1) (slots + b1.2) (MQ below (ev_Qc G ca sb o Q) args s R.cells R.slots (ev_A o)) (F0 m (pc + 3) lsr ((v.map (tr sb o)).toList ++ st.map (tr sb o))) := by
    intro v S' M' H1 locs1 w1 w2 w3 w4
    have := K v S' M' w1 w3 w2 p e R s m args below meth c G ca sb o hC H1 locs1 (cells + b1.1) (slots + b1.2) lsr w4 (by omega) (by omega) hL
    cases v <;> exact this
  rw [hrest]
  rcases hl with hl | ⟨host, hl⟩
  · exact ev_after (va_runS (As := As.map (tr sb o)) (rest := st.map (tr sb o)) ⟨hx, hb, hml, hown, hts⟩ hM ⟨callB_of n hts (ev_goodc m1) rfl rfl rfl (hts _ m2) (hts _ hl) m3 hroom, hts _ s1⟩ hpre rfl (by rw [List.length_map]; exact hn) hL.1 rfl (lv_room hsum) hd ⟨by omega, by omega⟩) hW.2.2 fin
  · exact ev_after (va_runSN (As := As.map (tr sb o)) (rest := st.map (tr sb o)) ⟨hx, hb, hml, hown, hts⟩ hM ⟨va_cnB n hts (ev_goodc m1) rfl rfl rfl (hex.1 _ hl rfl) (hts _ m2) m3 hroom, hts _ s1, trivial⟩ hpre rfl (by rw [List.length_map]; exact hn) hL.1 rfl (lv_room hsum) hd ⟨by omega, by omega⟩) hW.2.2 fin
theorem ev_callI (hd : decode k.1 pc = .ok (.invokespecial idx, 3)) (hs : ev_IS k.2.1 idx y k1 n) (hc : Ct l d1 k1 y b1 S M (vr i :: As) Q1) (hd1 : d1 + 1 ≤ d) (hn : As.length = n) (hstk : stk = As.reverse ++ vr i :: st) (hst : st.length ≤ 8) (hbb : b = (b1.1 + b2.1, b1.2 + b2.2)) (hq : pc + 3 = q)
    (K : ∀ v S' M', Q1 v S' M' → okv v → Ev l X d k b2 S' M' q ls (v.toList ++ st) Q) : Ev l X d k b S M pc ls stk Q := by
  intro hR p e R s m args below meth c G ca sb o hC H locs cells slots lsr hW h1 h2 hL
  obtain ⟨hx, hb, hr, hlk, hml, hown, hts, hex, hin, hf, hlo, hK, hos, hX⟩ := id hC
  obtain ⟨hl, ⟨m1, m2, m3, m4⟩, s1, s2, s3⟩ := hs
  subst hq hstk hbb
  dsimp only at h1 h2
  have hM := hc hR G ca sb o
  rw [s3] at hM m1
  have hroom : (ev_rm d1 b1).frames + 1 ≤ R.frames ∧ 8 + (k1.2.2.1 + 11) + (ev_rm d1 b1).locals ≤ R.locals := by
    unfold ev_rm; dsimp only; omega
  have hpre : PreS s H (ev_Pc G ca sb o S M (vr i :: As)) (.ref (o + i) :: As.map (tr sb o)) := by
    refine ⟨ev_Pc_blind, fun U hU hWm => ⟨rfl, by rw [hU]; exact hW.1, by rw [hU]; exact hW.2.1, va_K.moved hWm.alike hK, hex.warm hWm⟩⟩
  have hrest : (As.reverse ++ vr i :: st).map (tr sb o) = (As.map (tr sb o)).reverse ++ Value.ref (o + i) :: st.map (tr sb o) := by
    rw [List.map_append, List.map_reverse]; rfl
  have hsum : ((st.map (tr sb o)).map fun v => v.category).sum ≤ 8 := by rw [ev_sum]; exact hst
  have fin : ∀ (v : Option ev_V) (S' : List ev_Sh) (M' : ev_M) (H1 : Heap) (locs1 : List Loc), Q1 v S' M' → RM M' → okv v → ev_Wd G ca o S' M' s H1 locs1 → W p l e R s m args below meth c H1 locs1 (cells + b1.1) (slots + b1.2) (MQ below (ev_Qc G ca sb o Q) args s R.cells R.slots (ev_A o)) (F0 m (pc + 3) lsr ((v.map (tr sb o)).toList ++ st.map (tr sb o))) := by
    intro v S' M' H1 locs1 w1 w2 w3 w4
    have := K v S' M' w1 w3 w2 p e R s m args below meth c G ca sb o hC H1 locs1 (cells + b1.1) (slots + b1.2) lsr w4 (by omega) (by omega) hL
    cases v <;> exact this
  rw [hrest]
  rcases hl with hl | ⟨host, hl⟩
  · exact ev_after (va_runI (As := As.map (tr sb o)) (rest := st.map (tr sb o)) ⟨hx, hb, hml, hown, hts⟩ hM ⟨callB_of n hts (ev_goodc m1) rfl rfl rfl (hts _ m2) (hts _ hl) m3 hroom, s2, hts _ s1⟩ hpre rfl (by rw [List.length_map]; exact hn) hL.1 rfl (lv_room hsum) hd ⟨by omega, by omega⟩) hW.2.2 fin
  · exact ev_after (va_runIN (As := As.map (tr sb o)) (rest := st.map (tr sb o)) ⟨hx, hb, hml, hown, hts⟩ hM ⟨va_cnB n hts (ev_goodc m1) rfl rfl rfl (hex.1 _ hl rfl) (hts _ m2) m3 hroom, s2, hts _ s1⟩ hpre rfl (by rw [List.length_map]; exact hn) hL.1 rfl (lv_room hsum) hd ⟨by omega, by omega⟩) hW.2.2 fin
/-- the exact contract: this answer, these numbers, no new cell -/
def Cx (l : Launch) (d : Nat) (k : ev_K) (y : MethodName) (S : List ev_Sh) (M : ev_M) (av : List ev_V) (v : Option ev_V) (M' : ev_M) : Prop := Ct l d k y (0, 0) S M av (fun v' S' M2 => v' = v ∧ S' = S ∧ M2 = M')

theorem ev_callV0i {x : Int} {M1 : ev_M} (hd : decode k.1 pc = .ok (.invokevirtual idx, 3)) (hs : ev_VS k.2.1 idx y k1 0 ci) (hS : S[i]? = some (.inr (.inl (ci, fl)))) (hc : Cx l d1 k1 y S M [vr i] (some (vi x)) M1) (hd1 : d1 + 1 ≤ d) (hst : st.length ≤ 8) (hq : pc + 3 = q) (K : inR x → Ev l X d k b S M1 q ls (vi x :: st) Q) : Ev l X d k b S M pc ls (vr i :: st) Q :=
  ev_callV (b2 := b) (st := st) hd hs hS hc hd1 rfl rfl hst (by simp) hq (fun v S' M' h hv => by obtain ⟨rfl, rfl, rfl⟩ := h; exact K (hv x rfl))
theorem ev_callV0v {M1 : ev_M} (hd : decode k.1 pc = .ok (.invokevirtual idx, 3)) (hs : ev_VS k.2.1 idx y k1 0 ci) (hS : S[i]? = some (.inr (.inl (ci, fl)))) (hc : Cx l d1 k1 y S M [vr i] (none) M1) (hd1 : d1 + 1 ≤ d) (hst : st.length ≤ 8) (hq : pc + 3 = q) (K : Ev l X d k b S M1 q ls st Q) : Ev l X d k b S M pc ls (vr i :: st) Q :=
  ev_callV (b2 := b) (st := st) hd hs hS hc hd1 rfl rfl hst (by simp) hq (fun v S' M' h hv => by obtain ⟨rfl, rfl, rfl⟩ := h; exact K)
theorem ev_callV0r {j : Option (Option Nat)} {M1 : ev_M} (hd : decode k.1 pc = .ok (.invokevirtual idx, 3)) (hs : ev_VS k.2.1 idx y k1 0 ci) (hS : S[i]? = some (.inr (.inl (ci, fl)))) (hc : Cx l d1 k1 y S M [vr i] (some (.inr j)) M1) (hd1 : d1 + 1 ≤ d) (hst : st.length ≤ 8) (hq : pc + 3 = q) (K : Ev l X d k b S M1 q ls (.inr j :: st) Q) : Ev l X d k b S M pc ls (vr i :: st) Q :=
  ev_callV (b2 := b) (st := st) hd hs hS hc hd1 rfl rfl hst (by simp) hq (fun v S' M' h hv => by obtain ⟨rfl, rfl, rfl⟩ := h; exact K)
theorem ev_callV1i {a1 : ev_V} {x : Int} {M1 : ev_M} (hd : decode k.1 pc = .ok (.invokevirtual idx, 3)) (hs : ev_VS k.2.1 idx y k1 1 ci) (hS : S[i]? = some (.inr (.inl (ci, fl)))) (hc : Cx l d1 k1 y S M [vr i, a1] (some (vi x)) M1) (hd1 : d1 + 1 ≤ d) (hst : st.length ≤ 8) (hq : pc + 3 = q) (K : inR x → Ev l X d k b S M1 q ls (vi x :: st) Q) : Ev l X d k b S M pc ls (a1 :: vr i :: st) Q :=
  ev_callV (b2 := b) (st := st) hd hs hS hc hd1 rfl rfl hst (by simp) hq (fun v S' M' h hv => by obtain ⟨rfl, rfl, rfl⟩ := h; exact K (hv x rfl))
theorem ev_callS1i {a1 : ev_V} {x : Int} {M1 : ev_M} (hd : decode k.1 pc = .ok (.invokestatic idx, 3)) (hs : ev_SS k.2.1 idx y k1 1) (hc : Cx l d1 k1 y S M [a1] (some (vi x)) M1) (hd1 : d1 + 1 ≤ d) (hst : st.length ≤ 8) (hq : pc + 3 = q) (K : inR x → Ev l X d k b S M1 q ls (vi x :: st) Q) : Ev l X d k b S M pc ls (a1 :: st) Q :=
  ev_callS (b2 := b) (st := st) hd hs hc hd1 rfl rfl hst (by simp) hq (fun v S' M' h hv => by obtain ⟨rfl, rfl, rfl⟩ := h; exact K (hv x rfl))
theorem ev_callV1v {a1 : ev_V} {M1 : ev_M} (hd : decode k.1 pc = .ok (.invokevirtual idx, 3)) (hs : ev_VS k.2.1 idx y k1 1 ci) (hS : S[i]? = some (.inr (.inl (ci, fl)))) (hc : Cx l d1 k1 y S M [vr i, a1] (none) M1) (hd1 : d1 + 1 ≤ d) (hst : st.length ≤ 8) (hq : pc + 3 = q) (K : Ev l X d k b S M1 q ls st Q) : Ev l X d k b S M pc ls (a1 :: vr i :: st) Q :=
  ev_callV (b2 := b) (st := st) hd hs hS hc hd1 rfl rfl hst (by simp) hq (fun v S' M' h hv => by obtain ⟨rfl, rfl, rfl⟩ := h; exact K)
theorem ev_callS1v {a1 : ev_V} {M1 : ev_M} (hd : decode k.1 pc = .ok (.invokestatic idx, 3)) (hs : ev_SS k.2.1 idx y k1 1) (hc : Cx l d1 k1 y S M [a1] (none) M1) (hd1 : d1 + 1 ≤ d) (hst : st.length ≤ 8) (hq : pc + 3 = q) (K : Ev l X d k b S M1 q ls st Q) : Ev l X d k b S M pc ls (a1 :: st) Q :=
  ev_callS (b2 := b) (st := st) hd hs hc hd1 rfl rfl hst (by simp) hq (fun v S' M' h hv => by obtain ⟨rfl, rfl, rfl⟩ := h; exact K)
theorem ev_callV1r {a1 : ev_V} {j : Option (Option Nat)} {M1 : ev_M} (hd : decode k.1 pc = .ok (.invokevirtual idx, 3)) (hs : ev_VS k.2.1 idx y k1 1 ci) (hS : S[i]? = some (.inr (.inl (ci, fl)))) (hc : Cx l d1 k1 y S M [vr i, a1] (some (.inr j)) M1) (hd1 : d1 + 1 ≤ d) (hst : st.length ≤ 8) (hq : pc + 3 = q) (K : Ev l X d k b S M1 q ls (.inr j :: st) Q) : Ev l X d k b S M pc ls (a1 :: vr i :: st) Q :=
  ev_callV (b2 := b) (st := st) hd hs hS hc hd1 rfl rfl hst (by simp) hq (fun v S' M' h hv => by obtain ⟨rfl, rfl, rfl⟩ := h; exact K)
theorem ev_callV2i {a1 a2 : ev_V} {x : Int} {M1 : ev_M} (hd : decode k.1 pc = .ok (.invokevirtual idx, 3)) (hs : ev_VS k.2.1 idx y k1 2 ci) (hS : S[i]? = some (.inr (.inl (ci, fl)))) (hc : Cx l d1 k1 y S M [vr i, a1, a2] (some (vi x)) M1) (hd1 : d1 + 1 ≤ d) (hst : st.length ≤ 8) (hq : pc + 3 = q) (K : inR x → Ev l X d k b S M1 q ls (vi x :: st) Q) : Ev l X d k b S M pc ls (a2 :: a1 :: vr i :: st) Q :=
  ev_callV (b2 := b) (st := st) hd hs hS hc hd1 rfl rfl hst (by simp) hq (fun v S' M' h hv => by obtain ⟨rfl, rfl, rfl⟩ := h; exact K (hv x rfl))
theorem ev_callS2i {a1 a2 : ev_V} {x : Int} {M1 : ev_M} (hd : decode k.1 pc = .ok (.invokestatic idx, 3)) (hs : ev_SS k.2.1 idx y k1 2) (hc : Cx l d1 k1 y S M [a1, a2] (some (vi x)) M1) (hd1 : d1 + 1 ≤ d) (hst : st.length ≤ 8) (hq : pc + 3 = q) (K : inR x → Ev l X d k b S M1 q ls (vi x :: st) Q) : Ev l X d k b S M pc ls (a2 :: a1 :: st) Q :=
  ev_callS (b2 := b) (st := st) hd hs hc hd1 rfl rfl hst (by simp) hq (fun v S' M' h hv => by obtain ⟨rfl, rfl, rfl⟩ := h; exact K (hv x rfl))
theorem ev_callV2v {a1 a2 : ev_V} {M1 : ev_M} (hd : decode k.1 pc = .ok (.invokevirtual idx, 3)) (hs : ev_VS k.2.1 idx y k1 2 ci) (hS : S[i]? = some (.inr (.inl (ci, fl)))) (hc : Cx l d1 k1 y S M [vr i, a1, a2] (none) M1) (hd1 : d1 + 1 ≤ d) (hst : st.length ≤ 8) (hq : pc + 3 = q) (K : Ev l X d k b S M1 q ls st Q) : Ev l X d k b S M pc ls (a2 :: a1 :: vr i :: st) Q :=
  ev_callV (b2 := b) (st := st) hd hs hS hc hd1 rfl rfl hst (by simp) hq (fun v S' M' h hv => by obtain ⟨rfl, rfl, rfl⟩ := h; exact K)
theorem ev_callS2v {a1 a2 : ev_V} {M1 : ev_M} (hd : decode k.1 pc = .ok (.invokestatic idx, 3)) (hs : ev_SS k.2.1 idx y k1 2) (hc : Cx l d1 k1 y S M [a1, a2] (none) M1) (hd1 : d1 + 1 ≤ d) (hst : st.length ≤ 8) (hq : pc + 3 = q) (K : Ev l X d k b S M1 q ls st Q) : Ev l X d k b S M pc ls (a2 :: a1 :: st) Q :=
  ev_callS (b2 := b) (st := st) hd hs hc hd1 rfl rfl hst (by simp) hq (fun v S' M' h hv => by obtain ⟨rfl, rfl, rfl⟩ := h; exact K)
theorem ev_callV2r {a1 a2 : ev_V} {j : Option (Option Nat)} {M1 : ev_M} (hd : decode k.1 pc = .ok (.invokevirtual idx, 3)) (hs : ev_VS k.2.1 idx y k1 2 ci) (hS : S[i]? = some (.inr (.inl (ci, fl)))) (hc : Cx l d1 k1 y S M [vr i, a1, a2] (some (.inr j)) M1) (hd1 : d1 + 1 ≤ d) (hst : st.length ≤ 8) (hq : pc + 3 = q) (K : Ev l X d k b S M1 q ls (.inr j :: st) Q) : Ev l X d k b S M pc ls (a2 :: a1 :: vr i :: st) Q :=
  ev_callV (b2 := b) (st := st) hd hs hS hc hd1 rfl rfl hst (by simp) hq (fun v S' M' h hv => by obtain ⟨rfl, rfl, rfl⟩ := h; exact K)
theorem ev_callV3i {a1 a2 a3 : ev_V} {x : Int} {M1 : ev_M} (hd : decode k.1 pc = .ok (.invokevirtual idx, 3)) (hs : ev_VS k.2.1 idx y k1 3 ci) (hS : S[i]? = some (.inr (.inl (ci, fl)))) (hc : Cx l d1 k1 y S M [vr i, a1, a2, a3] (some (vi x)) M1) (hd1 : d1 + 1 ≤ d) (hst : st.length ≤ 8) (hq : pc + 3 = q) (K : inR x → Ev l X d k b S M1 q ls (vi x :: st) Q) : Ev l X d k b S M pc ls (a3 :: a2 :: a1 :: vr i :: st) Q :=
  ev_callV (b2 := b) (st := st) hd hs hS hc hd1 rfl rfl hst (by simp) hq (fun v S' M' h hv => by obtain ⟨rfl, rfl, rfl⟩ := h; exact K (hv x rfl))
theorem ev_callS3i {a1 a2 a3 : ev_V} {x : Int} {M1 : ev_M} (hd : decode k.1 pc = .ok (.invokestatic idx, 3)) (hs : ev_SS k.2.1 idx y k1 3) (hc : Cx l d1 k1 y S M [a1, a2, a3] (some (vi x)) M1) (hd1 : d1 + 1 ≤ d) (hst : st.length ≤ 8) (hq : pc + 3 = q) (K : inR x → Ev l X d k b S M1 q ls (vi x :: st) Q) : Ev l X d k b S M pc ls (a3 :: a2 :: a1 :: st) Q :=
  ev_callS (b2 := b) (st := st) hd hs hc hd1 rfl rfl hst (by simp) hq (fun v S' M' h hv => by obtain ⟨rfl, rfl, rfl⟩ := h; exact K (hv x rfl))
theorem ev_callV3v {a1 a2 a3 : ev_V} {M1 : ev_M} (hd : decode k.1 pc = .ok (.invokevirtual idx, 3)) (hs : ev_VS k.2.1 idx y k1 3 ci) (hS : S[i]? = some (.inr (.inl (ci, fl)))) (hc : Cx l d1 k1 y S M [vr i, a1, a2, a3] (none) M1) (hd1 : d1 + 1 ≤ d) (hst : st.length ≤ 8) (hq : pc + 3 = q) (K : Ev l X d k b S M1 q ls st Q) : Ev l X d k b S M pc ls (a3 :: a2 :: a1 :: vr i :: st) Q :=
  ev_callV (b2 := b) (st := st) hd hs hS hc hd1 rfl rfl hst (by simp) hq (fun v S' M' h hv => by obtain ⟨rfl, rfl, rfl⟩ := h; exact K)
theorem ev_callS3v {a1 a2 a3 : ev_V} {M1 : ev_M} (hd : decode k.1 pc = .ok (.invokestatic idx, 3)) (hs : ev_SS k.2.1 idx y k1 3) (hc : Cx l d1 k1 y S M [a1, a2, a3] (none) M1) (hd1 : d1 + 1 ≤ d) (hst : st.length ≤ 8) (hq : pc + 3 = q) (K : Ev l X d k b S M1 q ls st Q) : Ev l X d k b S M pc ls (a3 :: a2 :: a1 :: st) Q :=
  ev_callS (b2 := b) (st := st) hd hs hc hd1 rfl rfl hst (by simp) hq (fun v S' M' h hv => by obtain ⟨rfl, rfl, rfl⟩ := h; exact K)
theorem ev_callV3r {a1 a2 a3 : ev_V} {j : Option (Option Nat)} {M1 : ev_M} (hd : decode k.1 pc = .ok (.invokevirtual idx, 3)) (hs : ev_VS k.2.1 idx y k1 3 ci) (hS : S[i]? = some (.inr (.inl (ci, fl)))) (hc : Cx l d1 k1 y S M [vr i, a1, a2, a3] (some (.inr j)) M1) (hd1 : d1 + 1 ≤ d) (hst : st.length ≤ 8) (hq : pc + 3 = q) (K : Ev l X d k b S M1 q ls (.inr j :: st) Q) : Ev l X d k b S M pc ls (a3 :: a2 :: a1 :: vr i :: st) Q :=
  ev_callV (b2 := b) (st := st) hd hs hS hc hd1 rfl rfl hst (by simp) hq (fun v S' M' h hv => by obtain ⟨rfl, rfl, rfl⟩ := h; exact K)
theorem ev_callV4i {a1 a2 a3 a4 : ev_V} {x : Int} {M1 : ev_M} (hd : decode k.1 pc = .ok (.invokevirtual idx, 3)) (hs : ev_VS k.2.1 idx y k1 4 ci) (hS : S[i]? = some (.inr (.inl (ci, fl)))) (hc : Cx l d1 k1 y S M [vr i, a1, a2, a3, a4] (some (vi x)) M1) (hd1 : d1 + 1 ≤ d) (hst : st.length ≤ 8) (hq : pc + 3 = q) (K : inR x → Ev l X d k b S M1 q ls (vi x :: st) Q) : Ev l X d k b S M pc ls (a4 :: a3 :: a2 :: a1 :: vr i :: st) Q :=
  ev_callV (b2 := b) (st := st) hd hs hS hc hd1 rfl rfl hst (by simp) hq (fun v S' M' h hv => by obtain ⟨rfl, rfl, rfl⟩ := h; exact K (hv x rfl))
theorem ev_callS4i {a1 a2 a3 a4 : ev_V} {x : Int} {M1 : ev_M} (hd : decode k.1 pc = .ok (.invokestatic idx, 3)) (hs : ev_SS k.2.1 idx y k1 4) (hc : Cx l d1 k1 y S M [a1, a2, a3, a4] (some (vi x)) M1) (hd1 : d1 + 1 ≤ d) (hst : st.length ≤ 8) (hq : pc + 3 = q) (K : inR x → Ev l X d k b S M1 q ls (vi x :: st) Q) : Ev l X d k b S M pc ls (a4 :: a3 :: a2 :: a1 :: st) Q :=
  ev_callS (b2 := b) (st := st) hd hs hc hd1 rfl rfl hst (by simp) hq (fun v S' M' h hv => by obtain ⟨rfl, rfl, rfl⟩ := h; exact K (hv x rfl))
theorem ev_callV4v {a1 a2 a3 a4 : ev_V} {M1 : ev_M} (hd : decode k.1 pc = .ok (.invokevirtual idx, 3)) (hs : ev_VS k.2.1 idx y k1 4 ci) (hS : S[i]? = some (.inr (.inl (ci, fl)))) (hc : Cx l d1 k1 y S M [vr i, a1, a2, a3, a4] (none) M1) (hd1 : d1 + 1 ≤ d) (hst : st.length ≤ 8) (hq : pc + 3 = q) (K : Ev l X d k b S M1 q ls st Q) : Ev l X d k b S M pc ls (a4 :: a3 :: a2 :: a1 :: vr i :: st) Q :=
  ev_callV (b2 := b) (st := st) hd hs hS hc hd1 rfl rfl hst (by simp) hq (fun v S' M' h hv => by obtain ⟨rfl, rfl, rfl⟩ := h; exact K)
theorem ev_callS4v {a1 a2 a3 a4 : ev_V} {M1 : ev_M} (hd : decode k.1 pc = .ok (.invokestatic idx, 3)) (hs : ev_SS k.2.1 idx y k1 4) (hc : Cx l d1 k1 y S M [a1, a2, a3, a4] (none) M1) (hd1 : d1 + 1 ≤ d) (hst : st.length ≤ 8) (hq : pc + 3 = q) (K : Ev l X d k b S M1 q ls st Q) : Ev l X d k b S M pc ls (a4 :: a3 :: a2 :: a1 :: st) Q :=
  ev_callS (b2 := b) (st := st) hd hs hc hd1 rfl rfl hst (by simp) hq (fun v S' M' h hv => by obtain ⟨rfl, rfl, rfl⟩ := h; exact K)
theorem ev_callV4r {a1 a2 a3 a4 : ev_V} {j : Option (Option Nat)} {M1 : ev_M} (hd : decode k.1 pc = .ok (.invokevirtual idx, 3)) (hs : ev_VS k.2.1 idx y k1 4 ci) (hS : S[i]? = some (.inr (.inl (ci, fl)))) (hc : Cx l d1 k1 y S M [vr i, a1, a2, a3, a4] (some (.inr j)) M1) (hd1 : d1 + 1 ≤ d) (hst : st.length ≤ 8) (hq : pc + 3 = q) (K : Ev l X d k b S M1 q ls (.inr j :: st) Q) : Ev l X d k b S M pc ls (a4 :: a3 :: a2 :: a1 :: vr i :: st) Q :=
  ev_callV (b2 := b) (st := st) hd hs hS hc hd1 rfl rfl hst (by simp) hq (fun v S' M' h hv => by obtain ⟨rfl, rfl, rfl⟩ := h; exact K)
theorem ev_callV5i {a1 a2 a3 a4 a5 : ev_V} {x : Int} {M1 : ev_M} (hd : decode k.1 pc = .ok (.invokevirtual idx, 3)) (hs : ev_VS k.2.1 idx y k1 5 ci) (hS : S[i]? = some (.inr (.inl (ci, fl)))) (hc : Cx l d1 k1 y S M [vr i, a1, a2, a3, a4, a5] (some (vi x)) M1) (hd1 : d1 + 1 ≤ d) (hst : st.length ≤ 8) (hq : pc + 3 = q) (K : inR x → Ev l X d k b S M1 q ls (vi x :: st) Q) : Ev l X d k b S M pc ls (a5 :: a4 :: a3 :: a2 :: a1 :: vr i :: st) Q :=
  ev_callV (b2 := b) (st := st) hd hs hS hc hd1 rfl rfl hst (by simp) hq (fun v S' M' h hv => by obtain ⟨rfl, rfl, rfl⟩ := h; exact K (hv x rfl))
theorem ev_callS5i {a1 a2 a3 a4 a5 : ev_V} {x : Int} {M1 : ev_M} (hd : decode k.1 pc = .ok (.invokestatic idx, 3)) (hs : ev_SS k.2.1 idx y k1 5) (hc : Cx l d1 k1 y S M [a1, a2, a3, a4, a5] (some (vi x)) M1) (hd1 : d1 + 1 ≤ d) (hst : st.length ≤ 8) (hq : pc + 3 = q) (K : inR x → Ev l X d k b S M1 q ls (vi x :: st) Q) : Ev l X d k b S M pc ls (a5 :: a4 :: a3 :: a2 :: a1 :: st) Q :=
  ev_callS (b2 := b) (st := st) hd hs hc hd1 rfl rfl hst (by simp) hq (fun v S' M' h hv => by obtain ⟨rfl, rfl, rfl⟩ := h; exact K (hv x rfl))
theorem ev_callV5v {a1 a2 a3 a4 a5 : ev_V} {M1 : ev_M} (hd : decode k.1 pc = .ok (.invokevirtual idx, 3)) (hs : ev_VS k.2.1 idx y k1 5 ci) (hS : S[i]? = some (.inr (.inl (ci, fl)))) (hc : Cx l d1 k1 y S M [vr i, a1, a2, a3, a4, a5] (none) M1) (hd1 : d1 + 1 ≤ d) (hst : st.length ≤ 8) (hq : pc + 3 = q) (K : Ev l X d k b S M1 q ls st Q) : Ev l X d k b S M pc ls (a5 :: a4 :: a3 :: a2 :: a1 :: vr i :: st) Q :=
  ev_callV (b2 := b) (st := st) hd hs hS hc hd1 rfl rfl hst (by simp) hq (fun v S' M' h hv => by obtain ⟨rfl, rfl, rfl⟩ := h; exact K)
theorem ev_callS5v {a1 a2 a3 a4 a5 : ev_V} {M1 : ev_M} (hd : decode k.1 pc = .ok (.invokestatic idx, 3)) (hs : ev_SS k.2.1 idx y k1 5) (hc : Cx l d1 k1 y S M [a1, a2, a3, a4, a5] (none) M1) (hd1 : d1 + 1 ≤ d) (hst : st.length ≤ 8) (hq : pc + 3 = q) (K : Ev l X d k b S M1 q ls st Q) : Ev l X d k b S M pc ls (a5 :: a4 :: a3 :: a2 :: a1 :: st) Q :=
  ev_callS (b2 := b) (st := st) hd hs hc hd1 rfl rfl hst (by simp) hq (fun v S' M' h hv => by obtain ⟨rfl, rfl, rfl⟩ := h; exact K)
theorem ev_callV5r {a1 a2 a3 a4 a5 : ev_V} {j : Option (Option Nat)} {M1 : ev_M} (hd : decode k.1 pc = .ok (.invokevirtual idx, 3)) (hs : ev_VS k.2.1 idx y k1 5 ci) (hS : S[i]? = some (.inr (.inl (ci, fl)))) (hc : Cx l d1 k1 y S M [vr i, a1, a2, a3, a4, a5] (some (.inr j)) M1) (hd1 : d1 + 1 ≤ d) (hst : st.length ≤ 8) (hq : pc + 3 = q) (K : Ev l X d k b S M1 q ls (.inr j :: st) Q) : Ev l X d k b S M pc ls (a5 :: a4 :: a3 :: a2 :: a1 :: vr i :: st) Q :=
  ev_callV (b2 := b) (st := st) hd hs hS hc hd1 rfl rfl hst (by simp) hq (fun v S' M' h hv => by obtain ⟨rfl, rfl, rfl⟩ := h; exact K)
theorem ev_callV6i {a1 a2 a3 a4 a5 a6 : ev_V} {x : Int} {M1 : ev_M} (hd : decode k.1 pc = .ok (.invokevirtual idx, 3)) (hs : ev_VS k.2.1 idx y k1 6 ci) (hS : S[i]? = some (.inr (.inl (ci, fl)))) (hc : Cx l d1 k1 y S M [vr i, a1, a2, a3, a4, a5, a6] (some (vi x)) M1) (hd1 : d1 + 1 ≤ d) (hst : st.length ≤ 8) (hq : pc + 3 = q) (K : inR x → Ev l X d k b S M1 q ls (vi x :: st) Q) : Ev l X d k b S M pc ls (a6 :: a5 :: a4 :: a3 :: a2 :: a1 :: vr i :: st) Q :=
  ev_callV (b2 := b) (st := st) hd hs hS hc hd1 rfl rfl hst (by simp) hq (fun v S' M' h hv => by obtain ⟨rfl, rfl, rfl⟩ := h; exact K (hv x rfl))
theorem ev_callS6i {a1 a2 a3 a4 a5 a6 : ev_V} {x : Int} {M1 : ev_M} (hd : decode k.1 pc = .ok (.invokestatic idx, 3)) (hs : ev_SS k.2.1 idx y k1 6) (hc : Cx l d1 k1 y S M [a1, a2, a3, a4, a5, a6] (some (vi x)) M1) (hd1 : d1 + 1 ≤ d) (hst : st.length ≤ 8) (hq : pc + 3 = q) (K : inR x → Ev l X d k b S M1 q ls (vi x :: st) Q) : Ev l X d k b S M pc ls (a6 :: a5 :: a4 :: a3 :: a2 :: a1 :: st) Q :=
  ev_callS (b2 := b) (st := st) hd hs hc hd1 rfl rfl hst (by simp) hq (fun v S' M' h hv => by obtain ⟨rfl, rfl, rfl⟩ := h; exact K (hv x rfl))
theorem ev_callV6v {a1 a2 a3 a4 a5 a6 : ev_V} {M1 : ev_M} (hd : decode k.1 pc = .ok (.invokevirtual idx, 3)) (hs : ev_VS k.2.1 idx y k1 6 ci) (hS : S[i]? = some (.inr (.inl (ci, fl)))) (hc : Cx l d1 k1 y S M [vr i, a1, a2, a3, a4, a5, a6] (none) M1) (hd1 : d1 + 1 ≤ d) (hst : st.length ≤ 8) (hq : pc + 3 = q) (K : Ev l X d k b S M1 q ls st Q) : Ev l X d k b S M pc ls (a6 :: a5 :: a4 :: a3 :: a2 :: a1 :: vr i :: st) Q :=
  ev_callV (b2 := b) (st := st) hd hs hS hc hd1 rfl rfl hst (by simp) hq (fun v S' M' h hv => by obtain ⟨rfl, rfl, rfl⟩ := h; exact K)
theorem ev_callS6v {a1 a2 a3 a4 a5 a6 : ev_V} {M1 : ev_M} (hd : decode k.1 pc = .ok (.invokestatic idx, 3)) (hs : ev_SS k.2.1 idx y k1 6) (hc : Cx l d1 k1 y S M [a1, a2, a3, a4, a5, a6] (none) M1) (hd1 : d1 + 1 ≤ d) (hst : st.length ≤ 8) (hq : pc + 3 = q) (K : Ev l X d k b S M1 q ls st Q) : Ev l X d k b S M pc ls (a6 :: a5 :: a4 :: a3 :: a2 :: a1 :: st) Q :=
  ev_callS (b2 := b) (st := st) hd hs hc hd1 rfl rfl hst (by simp) hq (fun v S' M' h hv => by obtain ⟨rfl, rfl, rfl⟩ := h; exact K)
theorem ev_callV6r {a1 a2 a3 a4 a5 a6 : ev_V} {j : Option (Option Nat)} {M1 : ev_M} (hd : decode k.1 pc = .ok (.invokevirtual idx, 3)) (hs : ev_VS k.2.1 idx y k1 6 ci) (hS : S[i]? = some (.inr (.inl (ci, fl)))) (hc : Cx l d1 k1 y S M [vr i, a1, a2, a3, a4, a5, a6] (some (.inr j)) M1) (hd1 : d1 + 1 ≤ d) (hst : st.length ≤ 8) (hq : pc + 3 = q) (K : Ev l X d k b S M1 q ls (.inr j :: st) Q) : Ev l X d k b S M pc ls (a6 :: a5 :: a4 :: a3 :: a2 :: a1 :: vr i :: st) Q :=
  ev_callV (b2 := b) (st := st) hd hs hS hc hd1 rfl rfl hst (by simp) hq (fun v S' M' h hv => by obtain ⟨rfl, rfl, rfl⟩ := h; exact K)
theorem ev_args_mem (sb o : Nat) : ∀ (av : List ev_V) (j i : Nat) (v : ev_V), av[i]? = some v → (j + i, tr sb o v) ∈ lv_args j (av.map (tr sb o))
  | [], _, _, _, h => by simp at h
  | a :: av, j, i, v, h => by
    cases i with
    | zero =>
      simp only [List.getElem?_cons_zero, Option.some.injEq] at h
      subst h
      exact List.mem_cons_self
    | succ i =>
      rw [List.getElem?_cons_succ] at h
      have := ev_args_mem sb o av (j + 1) i v h
      rw [show j + (i + 1) = j + 1 + i by omega]
      show _ ∈ (j, tr sb o a) :: lv_args (if (tr sb o a).category = 2 then j + 2 else j + 1) (av.map (tr sb o))
      rw [if_neg (by rw [tr_cat]; decide)]
      exact List.mem_cons_of_mem _ this
theorem ev_sl_len (sb o : Nat) : ∀ av : List ev_V, (lg_sl (av.map (tr sb o))).length = av.length
  | [] => rfl
  | a :: av => by
    have := ev_sl_len sb o av
    unfold lg_sl at *
    rw [List.map_cons, List.flatMap_cons, List.length_append, this, if_neg (by rw [tr_cat]; decide)]
    simp; omega
theorem Ct.of (hpl : plainName y.cls = true) (hy : y.cls = k.2.1) (hi : k.2.2.2.2 = true → y.name = "<init>") (hn : As.length ≤ k.2.2.1) (hbody : Ev l none d k b S M 0 (As.map some ++ List.replicate (k.2.2.1 - As.length) none) [] Q) : Ct l d k y b S M As Q := by
  intro hR G ca sb o
  refine Met.ofW (cc := k.1) (maxL := k.2.2.1) (ret := k.2.2.2.1) hpl rfl ?_
  intro p e s m args below meth c s₁ B hml hv
  obtain ⟨rfl, hsz, hP, hK, hex⟩ := hv
  have hts := atoms_spec (ws := Cond.code y k.1 k.2.2.1 k.2.2.2.1 :: ev_T) B.pre
  have hown : s.vm.findClass y.cls = some m.cls := findClass_of_methodNamed B.named
  have hin : meth.name = y.name := (name_of_methodNamed B.named B.method).1
  have hl := lv_entry (As.map (tr sb o)) (n := k.2.2.1) (by rw [ev_sl_len]; exact hn)
  rw [lg_entry_eq]
  refine hbody hR p e _ s m _ below meth c G ca sb o ⟨B.exec, B.bytes, B.returns, B.notSynchronized, hml, by rw [← hy]; exact hown, fun w hw => hts w (List.mem_cons_of_mem _ hw), hex, fun z => hin.trans (hi z), Nat.le_refl _, Nat.le_refl _, hK, fun q hq => by omega, fun _ _ z => by cases z⟩ s.heap [] 0 0 _ ⟨hsz, hP, va_S.rf⟩ (by show 0 + b.1 ≤ b.1; omega) (by show 0 + b.2 ≤ b.2; omega) ⟨hl.1, hl.2.1, fun i v hi => ?_⟩
  have hi' : As[i]? = some v := by
    by_cases hlt : i < As.length
    · rw [List.getElem?_append_left (by simpa using hlt), List.getElem?_map] at hi
      cases ha : As[i]? with
      | none => rw [ha] at hi; cases hi
      | some w => rw [ha] at hi; cases hi; rfl
    · rw [List.getElem?_append_right (by simpa using hlt), List.getElem?_replicate] at hi
      split at hi <;> cases hi
  have := ev_args_mem sb o As 0 i v hi'
  rw [Nat.zero_add] at this
  exact hl.2.2 _ this
theorem Cx.of {v : Option ev_V} {M1 : ev_M} (hpl : plainName y.cls = true) (hy : y.cls = k.2.1) (hi : k.2.2.2.2 = true → y.name = "<init>") (hn : As.length ≤ k.2.2.1) (hbody : Ev l none d k (0, 0) S M 0 (As.map some ++ List.replicate (k.2.2.1 - As.length) none) [] (fun v' S' M2 => v' = v ∧ S' = S ∧ M2 = M1)) : Cx l d k y S M As v M1 := Ct.of hpl hy hi hn hbody
theorem ev_objInit (hd : decode k.1 pc = .ok (.invokespecial idx, 3)) (hl : Cond.methodLink k.2.1 idx Lib.objectInit ∈ ev_T) (ho : Cond.instanceMethod Lib.objectInit ∈ ev_T ∧ Cond.code Lib.objectInit ⟨#[0xb1]⟩ 1 none ∈ ev_T) (hd1 : 1 ≤ d) (hst : st.length ≤ 8) (hq : pc + 3 = q) (K : Ev l X d k b S M q ls st Q) : Ev l X d k b S M pc ls (vr i :: st) Q := by
  intro hR p e R s m args below meth c G ca sb o hC H locs cells slots lsr hW h1 h2 hL
  obtain ⟨hx, hb, hr, hlk, hml, hown, hts, hex, hin, hf, hlo, hK, hos, hX⟩ := id hC
  subst hq
  exact W.objInit hx hb hown (hts _ hl) (hts _ ho.1) (hts _ ho.2) (g := F0 m pc lsr (Value.ref (o + i) :: st.map (tr sb o))) rfl (by rw [hml]; exact hL.1) rfl hd (by omega) (by
    have : 2 * (F0 m pc lsr (Value.ref (o + i) :: st.map (tr sb o))).monitorRoom + ((st.map (tr sb o)).map fun v => v.category).sum ≤ 8 := lv_room (by rw [ev_sum]; exact hst)
    omega) (K hR p e R s m args below meth c G ca sb o hC H locs cells slots lsr hW h1 h2 hL)

theorem ev_mmax {x z : Int} (hd : decode k.1 pc = .ok (.invokestatic idx, 3)) (hl : Cond.methodLink k.2.1 idx Lib.Math.max.name ∈ ev_T ∧ Cond.static Lib.Math.max.name ∈ ev_T ∧ Cond.initialized "java/lang/Math" ∈ ev_T ∧ Cond.code Lib.Math.max.name Lib.Math.max.code 2 (some .int) ∈ ev_T) (hd1 : 1 ≤ d) (hst : st.length ≤ 8) (i1 : inR x) (i2 : inR z) (hq : pc + 3 = q) (K : Ev l X d k b S M q ls (vi (max x z) :: st) Q) : Ev l X d k b S M pc ls (vi z :: vi x :: st) Q := by
  intro hR p e R s m args below meth c G ca sb o hC H locs cells slots lsr hW h1 h2 hL
  obtain ⟨hx, hb, hr, hlk, hml, hown, hts, hex, hin, hf, hlo, hK, hos, hX⟩ := id hC
  subst hq
  have kk := K hR p e R s m args below meth c G ca sb o hC H locs cells slots lsr hW h1 h2 hL
  refine va_mmax hx hb (by rw [hml]; exact hL.1.symm) hown (hts _ hl.1) (hts _ hl.2.1) (hts _ hl.2.2.1) (hts _ hl.2.2.2) (by omega) (by rw [ev_sum]; omega) (by omega) (by omega) hd ?_
  have e9 : (if Int32.ofInt x < Int32.ofInt z then Int32.ofInt z else Int32.ofInt x) = Int32.ofInt (max x z) := by
    by_cases h : x < z
    · rw [if_pos ((oi_lt i1 i2).mpr h), Int.max_eq_right (by omega)]
    · rw [if_neg (fun w => h ((oi_lt i1 i2).mp w)), Int.max_eq_left (by omega)]
  rw [e9]
  exact kk
theorem ev_mmin {x z : Int} (hd : decode k.1 pc = .ok (.invokestatic idx, 3)) (hl : Cond.methodLink k.2.1 idx Lib.Math.min.name ∈ ev_T ∧ Cond.static Lib.Math.min.name ∈ ev_T ∧ Cond.initialized "java/lang/Math" ∈ ev_T ∧ Cond.code Lib.Math.min.name Lib.Math.min.code 2 (some .int) ∈ ev_T) (hd1 : 1 ≤ d) (hst : st.length ≤ 8) (i1 : inR x) (i2 : inR z) (hq : pc + 3 = q) (K : Ev l X d k b S M q ls (vi (min x z) :: st) Q) : Ev l X d k b S M pc ls (vi z :: vi x :: st) Q := by
  intro hR p e R s m args below meth c G ca sb o hC H locs cells slots lsr hW h1 h2 hL
  obtain ⟨hx, hb, hr, hlk, hml, hown, hts, hex, hin, hf, hlo, hK, hos, hX⟩ := id hC
  subst hq
  have kk := K hR p e R s m args below meth c G ca sb o hC H locs cells slots lsr hW h1 h2 hL
  refine va_mmin hx hb (by rw [hml]; exact hL.1.symm) hown (hts _ hl.1) (hts _ hl.2.1) (hts _ hl.2.2.1) (hts _ hl.2.2.2) (by omega) (by rw [ev_sum]; omega) (by omega) (by omega) hd ?_
  have e9 : (if Int32.ofInt z < Int32.ofInt x then Int32.ofInt z else Int32.ofInt x) = Int32.ofInt (min x z) := by
    by_cases h : z < x
    · rw [if_pos ((oi_lt i2 i1).mpr h), Int.min_eq_right (by omega)]
    · rw [if_neg (fun w => h ((oi_lt i2 i1).mp w)), Int.min_eq_left (by omega)]
  rw [e9]
  exact kk
theorem ev_sld {L : Nat} {xs : Nat → Int} {x : Int} (hXX : X = some (L, xs)) (hd : decode k.1 pc = .ok (.iaload, 1)) (hx1 : 0 ≤ x ∧ x < (L : Int)) (hn : L < 2 ^ 31) (hq : pc + 1 = q) (K : Ev l X d k b S M q ls (vi (xs x.toNat) :: st) Q) : Ev l X d k b S M pc ls (vi x :: vs :: st) Q := by
  intro hR p e R s m args below meth c G ca sb o hC H locs cells slots lsr hW h1 h2 hL
  obtain ⟨hx, hb, hr, hlk, hml, hown, hts, hex, hin, hf, hlo, hK, hos, hX⟩ := id hC
  obtain ⟨x1, x2, x3⟩ := hX L xs hXX
  have i1 : inR x := by unfold inR; omega
  subst hq
  exact va_sld hx hb x1 x3 (Nat.not_le.mpr x2) hW.2.2 (oi_in i1 hx1.1 hx1.2) hd (by rw [oi_clamp i1]; exact K hR p e R s m args below meth c G ca sb o hC H locs cells slots lsr hW h1 h2 hL)
theorem ev_slen {L : Nat} {xs : Nat → Int} (hXX : X = some (L, xs)) (hd : decode k.1 pc = .ok (.arraylength, 1)) (hq : pc + 1 = q) (K : Ev l X d k b S M q ls (vi (L : Int) :: st) Q) : Ev l X d k b S M pc ls (vs :: st) Q := by
  intro hR p e R s m args below meth c G ca sb o hC H locs cells slots lsr hW h1 h2 hL
  obtain ⟨hx, hb, hr, hlk, hml, hown, hts, hex, hin, hf, hlo, hK, hos, hX⟩ := id hC
  obtain ⟨x1, x2, x3⟩ := hX L xs hXX
  subst hq
  exact va_slen hx hb x1 x3 (Nat.not_le.mpr x2) hW.2.2 hd (by rw [← Int32.ofInt_eq_ofNat]; exact K hR p e R s m args below meth c G ca sb o hC H locs cells slots lsr hW h1 h2 hL)

end EvCalls
end
section
/-- the numbers with a new cell i, whose numbers are all 0 -/
def zr (M : ev_M) (i : Nat) : ev_M := fun a b => if a = i then 0 else M a b
/-- the first n numbers of cell j, copied over those of cell i -/
def cp (M : ev_M) (i j n : Nat) : ev_M := fun a b => if a = i ∧ b < n then M j b else M a b
theorem RM_zr {M : ev_M} {i : Nat} (h : RM M) : RM (zr M i) := by
  intro a b
  unfold zr
  split
  · exact in0
  · exact h a b
theorem RM_cp {M : ev_M} {i j n : Nat} (h : RM M) : RM (cp M i j n) := by
  intro a b
  unfold cp
  split
  · exact h j b
  · exact h a b
def ev_NW (own : String) (idx ci N : Nat) (fl : List (Option (Option Nat))) : Prop := ∃ (C : String) (T : u_T) (ty0 : Nat → FieldType), vwCl[ci]? = some (C, T, N) ∧ (∀ w ∈ u_ws C T N, w ∈ ev_T) ∧ (∀ k, k < N → parseFieldDescriptor (T k).2.2.1 = some (ty0 k)) ∧ Cond.classLink own idx C ∈ ev_T ∧ Cond.instantiable C N ∈ ev_T ∧ Cond.initialized C ∈ ev_T ∧ ∀ j, j < N → defaultValue (ty0 j) = vp_V (ev_fv 0 (fun _ => 0) fl) j
theorem ev_fv_0 (o : Nat) : ∀ (fl : List (Option (Option Nat))), (∀ q ∈ fl, q = none ∨ q = some none) → ev_fv o (fun _ => 0) fl = ev_fv 0 (fun _ => 0) fl := by
  intro fl h
  apply List.ext_getElem?
  intro j
  simp only [ev_fv, List.getElem?_mapIdx]
  cases hj : fl[j]? with
  | none => rfl
  | some q =>
    rcases h q (List.mem_of_getElem? hj) with rfl | rfl <;> rfl
section EvAlloc
variable {l : Launch} {X : Option (Nat × (Nat → Int))} {d : Nat} {k : ev_K} {b b2 : Nat × Nat} {S : List ev_Sh} {M : ev_M} {pc q : Nat} {ls tl : List (Option ev_V)} {st : List ev_V} {Q : Option ev_V → List ev_Sh → ev_M → Prop}
variable {idx n ci i N : Nat} {fl : List (Option (Option Nat))}
theorem ev_new (hd : decode k.1 pc = .ok (.new idx, 3)) (hN : ev_NW k.2.1 idx ci N fl) (hfl : ∀ q ∈ fl, q = none ∨ q = some none) (hbb : b = (1 + b2.1, N + b2.2)) (hq : pc + 3 = q) (K : Ev l X d k b2 (S ++ [.inr (.inl (ci, fl))]) (zr M S.length) q ls (vr S.length :: st) Q) : Ev l X d k b S M pc ls st Q := by
  intro hR p e R s m args below meth c G ca sb o hC H locs cells slots lsr hW h1 h2 hL
  obtain ⟨hx, hb, hr, hlk, hml, hown, hts, hex, hin, hf, hlo, hK, hos, hX⟩ := id hC
  obtain ⟨C, T, ty0, g1, g2, g3, g4, g5, g6, g7⟩ := hN
  subst hq hbb
  dsimp only at h1 h2
  have hKn := hK.1 ci _ g1
  refine W.newcK hx hb hown (hts _ g4) (hts _ g5) (hts _ g6) rfl hd (by omega) (by omega) hKn.2.1 hW.1 fun H1 kC hkC e1 z1 o1 => ?_
  refine K (RM_zr hR) p e R s m args below meth c G ca sb o hC H1 locs (cells + 1) (slots + N) lsr (hW.push (f := fun _ => 0) hos (by rw [z1, hW.1]) (fun q hq => o1 q (by rw [← hW.1]; exact hq)) ?_) (by omega) (by omega) hL
  refine ⟨_, g1, ?_⟩
  have := (u_born ty0 hts g2 hKn hkC e1 g3).to g7
  show t_OB _ _ _ _ _ (vp_V (ev_fv o (fun _ => 0) fl))
  rw [ev_fv_0 o fl hfl]
  exact this
theorem ev_newI {x : Int} (hd : decode k.1 pc = .ok (.newarray .int, 2)) (hw : Cond.arrayClass .int ∈ ev_T) (hx1 : x = (n : Int)) (hn : n < 100000) (hbb : b = (1 + b2.1, n + b2.2)) (hq : pc + 2 = q) (K : Ev l X d k b2 (S ++ [.inl (0, n)]) (zr M S.length) q ls (vr S.length :: st) Q) : Ev l X d k b S M pc ls (vi x :: st) Q := by
  intro hR p e R s m args below meth c G ca sb o hC H locs cells slots lsr hW h1 h2 hL
  obtain ⟨hx, hb, hr, hlk, hml, hown, hts, hex, hin, hf, hlo, hK, hos, hX⟩ := id hC
  subst hq hbb hx1
  dsimp only at h1 h2
  have i1 : inR (n : Int) := by unfold inR; omega
  refine va_newaK (atype := .int) hx hb (hts _ hw) rfl hd rfl (by rw [oi_lt0 i1]; omega) (N := n) (by rw [oi_clamp i1]; simp) (by show n * 4 ≤ _; omega) (by omega) (by omega) hW.1 fun H1 cA e1 z1 o1 hAr hNm => ?_
  have hca : cA = ca 0 := Option.some.inj (hNm.symm.trans (hK.2 0 _ rfl).2)
  refine K (RM_zr hR) p e R s m args below meth c G ca sb o hC H1 locs (cells + 1) (slots + n) lsr (hW.push (f := fun _ => 0) hos (by rw [z1, hW.1]) (fun q hq => o1 q (by rw [← hW.1]; exact hq)) ?_) (by omega) (by omega) hL
  show H1[o + S.length]? = some (vp_cell (ca 0) (n, .inl (fun _ => Int32.ofInt 0)))
  rw [e1, ← hca]
  rfl
theorem ev_newZ {x : Int} (hd : decode k.1 pc = .ok (.newarray .boolean, 2)) (hw : Cond.arrayClass .boolean ∈ ev_T) (hx1 : x = (n : Int)) (hn : n < 100000) (hbb : b = (1 + b2.1, n + b2.2)) (hq : pc + 2 = q) (K : Ev l X d k b2 (S ++ [.inl (1, n)]) (zr M S.length) q ls (vr S.length :: st) Q) : Ev l X d k b S M pc ls (vi x :: st) Q := by
  intro hR p e R s m args below meth c G ca sb o hC H locs cells slots lsr hW h1 h2 hL
  obtain ⟨hx, hb, hr, hlk, hml, hown, hts, hex, hin, hf, hlo, hK, hos, hX⟩ := id hC
  subst hq hbb hx1
  dsimp only at h1 h2
  have i1 : inR (n : Int) := by unfold inR; omega
  refine va_newaK (atype := .boolean) hx hb (hts _ hw) rfl hd rfl (by rw [oi_lt0 i1]; omega) (N := n) (by rw [oi_clamp i1]; simp) (by show n * 1 ≤ _; omega) (by omega) (by omega) hW.1 fun H1 cA e1 z1 o1 hAr hNm => ?_
  have hca : cA = ca 1 := Option.some.inj (hNm.symm.trans (hK.2 1 _ rfl).2)
  refine K (RM_zr hR) p e R s m args below meth c G ca sb o hC H1 locs (cells + 1) (slots + n) lsr (hW.push (f := fun _ => 0) hos (by rw [z1, hW.1]) (fun q hq => o1 q (by rw [← hW.1]; exact hq)) ?_) (by omega) (by omega) hL
  show H1[o + S.length]? = some (vp_cell (ca 1) (n, .inl (fun _ => Int32.ofInt 0)))
  rw [e1, ← hca]
  rfl
theorem ev_newC {x : Int} (hd : decode k.1 pc = .ok (.newarray .char, 2)) (hw : Cond.arrayClass .char ∈ ev_T) (hx1 : x = (n : Int)) (hn : n < 100000) (hbb : b = (1 + b2.1, n + b2.2)) (hq : pc + 2 = q) (K : Ev l X d k b2 (S ++ [.inl (2, n)]) (zr M S.length) q ls (vr S.length :: st) Q) : Ev l X d k b S M pc ls (vi x :: st) Q := by
  intro hR p e R s m args below meth c G ca sb o hC H locs cells slots lsr hW h1 h2 hL
  obtain ⟨hx, hb, hr, hlk, hml, hown, hts, hex, hin, hf, hlo, hK, hos, hX⟩ := id hC
  subst hq hbb hx1
  dsimp only at h1 h2
  have i1 : inR (n : Int) := by unfold inR; omega
  refine va_newaK (atype := .char) hx hb (hts _ hw) rfl hd rfl (by rw [oi_lt0 i1]; omega) (N := n) (by rw [oi_clamp i1]; simp) (by show n * 2 ≤ _; omega) (by omega) (by omega) hW.1 fun H1 cA e1 z1 o1 hAr hNm => ?_
  have hca : cA = ca 2 := Option.some.inj (hNm.symm.trans (hK.2 2 _ rfl).2)
  refine K (RM_zr hR) p e R s m args below meth c G ca sb o hC H1 locs (cells + 1) (slots + n) lsr (hW.push (f := fun _ => 0) hos (by rw [z1, hW.1]) (fun q hq => o1 q (by rw [← hW.1]; exact hq)) ?_) (by omega) (by omega) hL
  show H1[o + S.length]? = some (vp_cell (ca 2) (n, .inl (fun _ => Int32.ofInt 0)))
  rw [e1, ← hca]
  rfl
theorem ev_anew {x : Int} (hd : decode k.1 pc = .ok (.anewarray idx, 3)) (hw : Cond.classLink k.2.1 idx "StyleCascade$State" ∈ ev_T) (hx1 : x = (n : Int)) (hn : n < 100000) (hbb : b = (1 + b2.1, n + b2.2)) (hq : pc + 3 = q) (K : Ev l X d k b2 (S ++ [.inr (.inr (3, n, fun _ => none))]) (zr M S.length) q ls (vr S.length :: st) Q) : Ev l X d k b S M pc ls (vi x :: st) Q := by
  intro hR p e R s m args below meth c G ca sb o hC H locs cells slots lsr hW h1 h2 hL
  obtain ⟨hx, hb, hr, hlk, hml, hown, hts, hex, hin, hf, hlo, hK, hos, hX⟩ := id hC
  subst hq hbb hx1
  dsimp only at h1 h2
  have i1 : inR (n : Int) := by unfold inR; omega
  have hcl : (Int32.ofInt (n : Int)).toNatClampNeg = n := by rw [oi_clamp i1]; simp
  refine W.anew hx hb hown (hts _ hw) (va_AO.use hex.2) rfl hd rfl (by rw [oi_lt0 i1]; omega) (by rw [hcl]; omega) (by omega) (by rw [hcl]; omega) fun cA kA comp f1 f2 f3 f4 => ?_
  obtain ⟨kA', comp', r1, r2, r3, r4⟩ := (hK.2 3 _ rfl).2
  have hca : cA = ca 3 := Option.some.inj (f1.symm.trans r4)
  rw [hcl, hW.1]
  refine K (RM_zr hR) p e R s m args below meth c G ca sb o hC _ locs (cells + 1) (slots + n) lsr (hW.push (f := fun _ => 0) hos (by rw [Array.size_push]) (fun q hq => by rw [Array.getElem?_push, if_neg (Nat.ne_of_lt hq)]) ?_) (by omega) (by omega) hL
  show _ = some (vp_cell (ca 3) (n, .inr (.inr (.inr (.inr (fun _ => none))))))
  rw [← hW.1, Array.getElem?_push_size, arrV_new, hca]
  rfl
theorem ev_aastore {x : Int} {j cj : Nat} {g : Nat → Option Nat} {fl : List (Option (Option Nat))} (hd : decode k.1 pc = .ok (.aastore, 1)) (hS : S[i]? = some (.inr (.inr (3, n, g)))) (hj : S[j]? = some (.inr (.inl (cj, fl)))) (hcj : ∃ T N, vwCl[cj]? = some ("StyleCascade$State", T, N)) (hx1 : 0 ≤ x ∧ x < (n : Int)) (hn : n < 100000) (hq : pc + 1 = q) (K : Ev l X d k b (S.set i (.inr (.inr (3, n, va_up g x.toNat (some j))))) M q ls st Q) : Ev l X d k b S M pc ls (vr j :: vi x :: vr i :: st) Q := by
  intro hR p e R s m args below meth c G ca sb o hC H locs cells slots lsr hW h1 h2 hL
  obtain ⟨hx, hb, hr, hlk, hml, hown, hts, hex, hin, hf, hlo, hK, hos, hX⟩ := id hC
  obtain ⟨T, N, g1⟩ := hcj
  have he := ev_w_at (o := o) (ca := ca) (M := M) hS
  have hej := ev_w_at (o := o) (ca := ca) (M := M) hj
  have i1 : inR x := by unfold inR; omega
  subst hq
  obtain ⟨r', hr', cellV, v1, v2, v3, -⟩ := hW.2.1 j _ hej
  have hcls := (hK.1 cj _ g1).2
  obtain ⟨kA, comp, k1, k2, k3, -⟩ := (hK.2 3 _ rfl).2
  have hcomp : comp = G.1 cj := Option.some.inj (k3.symm.trans hcls.1)
  subst hcomp
  obtain ⟨kC, hkC, hkk⟩ := hcls.2
  have hlt : (Int32.ofInt x).toNatClampNeg < n := by rw [oi_clamp i1]; omega
  refine W.aast hx hb (hW.2.1 i _ he) (fun q h => by cases h) (fun h => by cases h) k1 k2 rfl hkC ⟨by rw [oi_lt0 i1]; omega, by show _ < (arrV _ _ _).slots.size; rw [arrV_size]; exact hlt⟩ v1 (fun q h => by rw [v3] at h; cases h) (by rw [v2]; exact hkC) (by rw [v2]; exact va_assign hcls) rfl rfl hd fun H1 e9 z oq => ?_
  refine K hR p e R s m args below meth c G ca sb o hC H1 _ cells slots lsr (hW.putS hS z oq ?_) h1 h2 hL
  show H1[o + i]? = some (vp_cell (ca 3) (n, .inr (.inr (.inr (.inr (fun a => (va_up g x.toNat (some j) a).map (fun j => o + j)))))))
  rw [e9]
  show some ((vp_cell (ca 3) (n, .inr (.inr (.inr (.inr (fun a => (g a).map (fun j => o + j))))))).setSlot _ _) = _
  rw [vp_cell_q, vp_cell_q, arrV_store, oi_clamp i1]
  congr 2
  funext a
  by_cases h : a = x.toNat
  · subst h; simp [va_up, updV, va_rf]
  · simp [va_up, updV, h]
/-- System.arraycopy of the first n numbers -/
theorem ev_copy {i2 n1 n2 : Nat} {x : Int} (hd : decode k.1 pc = .ok (.invokestatic idx, 3)) (hl : Cond.methodLink k.2.1 idx arraycopyName ∈ ev_T ∧ Cond.native arraycopyName ∈ ev_T ∧ Cond.static arraycopyName ∈ ev_T ∧ Cond.initialized "java/lang/System" ∈ ev_T) (hd1 : 1 ≤ d) (hst : st.length ≤ 8) (hS1 : S[i]? = some (.inl (0, n1))) (hS2 : S[i2]? = some (.inl (0, n2))) (hx1 : 0 ≤ x ∧ x ≤ (n1 : Int) ∧ x ≤ (n2 : Int)) (hn : n1 < 100000) (hq : pc + 3 = q) (K : Ev l X d k b S (cp M i2 i x.toNat) q ls st Q) : Ev l X d k b S M pc ls (vi x :: vi 0 :: vr i2 :: vi 0 :: vr i :: st) Q := by
  intro hR p e R s m args below meth c G ca sb o hC H locs cells slots lsr hW h1 h2 hL
  obtain ⟨hx, hb, hr, hlk, hml, hown, hts, hex, hin, hf, hlo, hK, hos, hX⟩ := id hC
  have i1 : inR x := by unfold inR; omega
  have hc0 : H[o + i]? = some (vp_cell (ca 0) (n1, .inl (fun a => Int32.ofInt (M i a)))) := hW.2.1 i _ (ev_w_at (o := o) (ca := ca) (M := M) hS1)
  have hc1 : H[o + i2]? = some (vp_cell (ca 0) (n2, .inl (fun a => Int32.ofInt (M i2 a)))) := hW.2.1 i2 _ (ev_w_at (o := o) (ca := ca) (M := M) hS2)
  obtain ⟨-, k0, hk0, cm0, hkk0⟩ := (hK.2 0 _ rfl).1 n1 (fun j => .int (Int32.ofInt (M i j)))
  have hz : (Int32.ofInt 0).toNatClampNeg = 0 := by decide
  have hz0 : (Int32.ofInt 0).toInt = 0 := by decide
  subst hq
  intro T hT Xx
  obtain ⟨vm', X', step⟩ := Xx.arraycopy hx hown (hts _ hl.1) (hts _ hl.2.1) (hts _ hl.2.2.1) (hts _ hl.2.2.2) (src := o + i) (dst := o + i2) (cs := vp_cell (ca 0) (n1, .inl (fun a => Int32.ofInt (M i a)))) (cd := vp_cell (ca 0) (n2, .inl (fun a => Int32.ofInt (M i2 a)))) (srcPos := Int32.ofInt 0) (destPos := Int32.ofInt 0) (n := Int32.ofInt x) (by rw [hT]; exact hc0) (by rw [hT]; exact hc1)
    (fun _ h => by cases h) (fun _ h => by cases h) (fun h => by cases h) (fun h => by cases h) hk0 hk0 hkk0 hkk0 (by rfl) (by decide) (by decide) (by rw [oi_lt0 i1]; omega)
    (by rw [hz0, oi_toInt i1]; show ¬ _ > ((arrV (ca 0) n1 (fun j => .int (Int32.ofInt (M i j)))).slots.size : Int); rw [arrV_size]; omega)
    (by rw [hz0, oi_toInt i1]; show ¬ _ > ((arrV (ca 0) n2 (fun j => .int (Int32.ofInt (M i2 j)))).slots.size : Int); rw [arrV_size]; omega)
    (fun vm₁ _ a ha => by
      rw [oi_clamp i1] at ha
      have e : (vp_cell (ca 0) (n1, .inl (fun a => Int32.ofInt (M i a)))).slots.getD ((Int32.ofInt 0).toNatClampNeg + a) .null = .int (Int32.ofInt (M i a)) := by
        show (arrV (ca 0) n1 (fun j => .int (Int32.ofInt (M i j)))).slots.getD _ _ = _
        rw [hz, Nat.zero_add, Array.getD_eq_getD_getElem?, arrV_read _ _ (by omega)]
        rfl
      refine ⟨?_, ?_⟩
      · rw [e]; rfl
      · rw [e]; exact trivial)
    (g := F0 m pc lsr (.int (Int32.ofInt x) :: .int (Int32.ofInt 0) :: .ref (o + i2) :: .int (Int32.ofInt 0) :: .ref (o + i) :: st.map (tr sb o))) rfl (by rw [hml]; exact hL.1) (rest := st.map (tr sb o)) rfl (by rw [hb]; exact hd) (by omega) (by
      have h8 : ((st.map (tr sb o)).map fun v => v.category).sum ≤ 8 := by rw [ev_sum]; exact hst
      have h9 : nativeFrameWords "java/lang/System" "arraycopy" 5 + 11 ≤ 32 := by decide +kernel
      show 2 * 0 + _ + _ ≤ _
      omega)
  have e1 : copied (vp_cell (ca 0) (n1, .inl (fun a => Int32.ofInt (M i a)))) (vp_cell (ca 0) (n2, .inl (fun a => Int32.ofInt (M i2 a)))) (Int32.ofInt 0) (Int32.ofInt 0) (Int32.ofInt x) = vp_cell (ca 0) (n2, .inl (va_cpy (fun a => Int32.ofInt (M i a)) (fun a => Int32.ofInt (M i2 a)) (Int32.ofInt 0).toNatClampNeg (Int32.ofInt 0).toNatClampNeg (Int32.ofInt x).toNatClampNeg)) := va_copied (fun z => .int z) (ca 0) (ca 0) (fun a => Int32.ofInt (M i a)) (fun a => Int32.ofInt (M i2 a)) (by rw [hz, oi_clamp i1]; omega)
  rw [e1] at X' step
  have e2 : va_cpy (fun a => Int32.ofInt (M i a)) (fun a => Int32.ofInt (M i2 a)) (Int32.ofInt 0).toNatClampNeg (Int32.ofInt 0).toNatClampNeg (Int32.ofInt x).toNatClampNeg = fun a => Int32.ofInt (cp M i2 i x.toNat i2 a) := by
    funext a
    rw [hz, oi_clamp i1]
    unfold va_cpy cp
    by_cases h : a < x.toNat
    · simp [h]
    · simp [h]
  rw [e2] at X' step
  have hl' : o + i2 < H.size := (Array.getElem?_eq_some_iff.mp hc1).1
  have hheap : ((T.setVm vm').setCell (o + i2) (vp_cell (ca 0) (n2, .inl (fun a => Int32.ofInt (cp M i2 i x.toNat i2 a))))).heap = H.setIfInBounds (o + i2) (vp_cell (ca 0) (n2, .inl (fun a => Int32.ofInt (cp M i2 i x.toNat i2 a)))) := by rw [← hT]; rfl
  have oq : ∀ q : Nat, q ≠ o + i2 → (H.setIfInBounds (o + i2) (vp_cell (ca 0) (n2, .inl (fun a => Int32.ofInt (cp M i2 i x.toNat i2 a)))))[q]? = H[q]? := fun q hq => by simp [Array.getElem?_setIfInBounds, Ne.symm hq]
  have W1 : ev_Wd G ca o S (cp M i2 i x.toNat) s (H.setIfInBounds (o + i2) (vp_cell (ca 0) (n2, .inl (fun a => Int32.ofInt (cp M i2 i x.toNat i2 a))))) (locs ++ [⟨o + i2, 0⟩]) := hW.put hS2 (fun a ha => by funext c; simp [cp, ha]) (by simp) oq (show (H.setIfInBounds (o + i2) _)[o + i2]? = some _ by simp [Array.getElem?_setIfInBounds, hl'])
  obtain ⟨t, a1, b1⟩ := K (RM_cp hR) p e R s m args below meth c G ca sb o hC _ _ cells slots lsr ⟨W1.1, W1.2.1, ⟨W1.2.2.1, W1.2.2.2.1, fun q hq => by
      rcases List.mem_append.mp hq with h | h
      · exact hW.2.2.2.2 q h
      · obtain ⟨z, -, hz⟩ := List.mem_map.mp h
        rw [← hz]
        exact Nat.le_add_right _ _⟩⟩ h1 h2 hL _ hheap X'
  exact ⟨t, step t a1, b1⟩
end EvAlloc
end
