section
-- ===== PART A: goes FIRST, ahead of the names: the tables' words, and 'selects' of the private methods out of them =====
/-- a private method of a class that the tables say can be made, by its rows of tables_1 -/
def lw_okq (q : MethodName × Nat) : Prop := (q.1.cls ≠ "java/lang/invoke/MethodHandle" ∧ q.1.cls ≠ "java/lang/invoke/VarHandle") ∧ Cond.instantiable q.1.cls q.2 ∈ tables_1 ∧ Cond.privateMethod q.1 ∈ tables_1 ∧ Cond.instanceMethod q.1 ∈ tables_1
theorem lw_p0 : lw_okq (⟨"ExactCurves", "poolAt", "(I)LExactCurves$Pool;"⟩, 8) := ⟨⟨by decide +kernel, by decide +kernel⟩, List.mem_of_getElem? (i := 13) (by decide +kernel), List.mem_of_getElem? (i := 283) (by decide +kernel), List.mem_of_getElem? (i := 284) (by decide +kernel)⟩
theorem lw_p1 : lw_okq (⟨"ExactCurves$Pool", "sharesBy", "(JJ)J"⟩, 10) := ⟨⟨by decide +kernel, by decide +kernel⟩, List.mem_of_getElem? (i := 96) (by decide +kernel), List.mem_of_getElem? (i := 315) (by decide +kernel), List.mem_of_getElem? (i := 316) (by decide +kernel)⟩
theorem lw_p2 : lw_okq (⟨"ExactCurves", "bringIn", "(ILExactCurves$Pool;IJ)V"⟩, 8) := ⟨⟨by decide +kernel, by decide +kernel⟩, List.mem_of_getElem? (i := 13) (by decide +kernel), List.mem_of_getElem? (i := 342) (by decide +kernel), List.mem_of_getElem? (i := 343) (by decide +kernel)⟩
theorem lw_p3 : lw_okq (⟨"ExactCurves", "takeOut", "(ILExactCurves$Pool;IJ)V"⟩, 8) := ⟨⟨by decide +kernel, by decide +kernel⟩, List.mem_of_getElem? (i := 13) (by decide +kernel), List.mem_of_getElem? (i := 370) (by decide +kernel), List.mem_of_getElem? (i := 371) (by decide +kernel)⟩
theorem lw_p4 : lw_okq (⟨"ExactCurves$Batch", "isBefore", "(II)Z"⟩, 10) := ⟨⟨by decide +kernel, by decide +kernel⟩, List.mem_of_getElem? (i := 44) (by decide +kernel), List.mem_of_getElem? (i := 470) (by decide +kernel), List.mem_of_getElem? (i := 471) (by decide +kernel)⟩
theorem lw_p5 : lw_okq (⟨"ExactCurves", "settleBuyer", "(IJ)V"⟩, 8) := ⟨⟨by decide +kernel, by decide +kernel⟩, List.mem_of_getElem? (i := 13) (by decide +kernel), List.mem_of_getElem? (i := 474) (by decide +kernel), List.mem_of_getElem? (i := 475) (by decide +kernel)⟩
theorem lw_p6 : lw_okq (⟨"ExactCurves", "settleSeller", "(IJ)V"⟩, 8) := ⟨⟨by decide +kernel, by decide +kernel⟩, List.mem_of_getElem? (i := 13) (by decide +kernel), List.mem_of_getElem? (i := 478) (by decide +kernel), List.mem_of_getElem? (i := 479) (by decide +kernel)⟩
theorem lw_p7 : lw_okq (⟨"ExactCurves", "worthOf", "(I)J"⟩, 8) := ⟨⟨by decide +kernel, by decide +kernel⟩, List.mem_of_getElem? (i := 13) (by decide +kernel), List.mem_of_getElem? (i := 495) (by decide +kernel), List.mem_of_getElem? (i := 496) (by decide +kernel)⟩
theorem lw_p8 : lw_okq (⟨"ExactCurves", "debtToken", "(LExactCurves$Loan;)I"⟩, 8) := ⟨⟨by decide +kernel, by decide +kernel⟩, List.mem_of_getElem? (i := 13) (by decide +kernel), List.mem_of_getElem? (i := 499) (by decide +kernel), List.mem_of_getElem? (i := 500) (by decide +kernel)⟩
theorem lw_p9 : lw_okq (⟨"ExactCurves", "debtOf", "(LExactCurves$Loan;)J"⟩, 8) := ⟨⟨by decide +kernel, by decide +kernel⟩, List.mem_of_getElem? (i := 13) (by decide +kernel), List.mem_of_getElem? (i := 503) (by decide +kernel), List.mem_of_getElem? (i := 504) (by decide +kernel)⟩
theorem lw_p10 : lw_okq (⟨"ExactCurves", "freeLoan", "()I"⟩, 8) := ⟨⟨by decide +kernel, by decide +kernel⟩, List.mem_of_getElem? (i := 13) (by decide +kernel), List.mem_of_getElem? (i := 534) (by decide +kernel), List.mem_of_getElem? (i := 535) (by decide +kernel)⟩
theorem lw_p11 : lw_okq (⟨"ExactCurves", "loanAt", "(I)LExactCurves$Loan;"⟩, 8) := ⟨⟨by decide +kernel, by decide +kernel⟩, List.mem_of_getElem? (i := 13) (by decide +kernel), List.mem_of_getElem? (i := 557) (by decide +kernel), List.mem_of_getElem? (i := 558) (by decide +kernel)⟩
theorem lw_p12 : lw_okq (⟨"ExactCurves", "coverValue", "(LExactCurves$Loan;)J"⟩, 8) := ⟨⟨by decide +kernel, by decide +kernel⟩, List.mem_of_getElem? (i := 13) (by decide +kernel), List.mem_of_getElem? (i := 561) (by decide +kernel), List.mem_of_getElem? (i := 562) (by decide +kernel)⟩
theorem lw_p13 : lw_okq (⟨"ExactCurves", "isUncovered", "(LExactCurves$Loan;)Z"⟩, 8) := ⟨⟨by decide +kernel, by decide +kernel⟩, List.mem_of_getElem? (i := 13) (by decide +kernel), List.mem_of_getElem? (i := 565) (by decide +kernel), List.mem_of_getElem? (i := 566) (by decide +kernel)⟩
theorem lw_p14 : lw_okq (⟨"ExactCurves", "coverToken", "(LExactCurves$Loan;)I"⟩, 8) := ⟨⟨by decide +kernel, by decide +kernel⟩, List.mem_of_getElem? (i := 13) (by decide +kernel), List.mem_of_getElem? (i := 575) (by decide +kernel), List.mem_of_getElem? (i := 576) (by decide +kernel)⟩
theorem lw_p15 : lw_okq (⟨"ExactCurves", "openLoans", "()I"⟩, 8) := ⟨⟨by decide +kernel, by decide +kernel⟩, List.mem_of_getElem? (i := 13) (by decide +kernel), List.mem_of_getElem? (i := 594) (by decide +kernel), List.mem_of_getElem? (i := 595) (by decide +kernel)⟩
def lw_privs_1 : List (MethodName × Nat) := [(⟨"ExactCurves", "poolAt", "(I)LExactCurves$Pool;"⟩, 8), (⟨"ExactCurves$Pool", "sharesBy", "(JJ)J"⟩, 10), (⟨"ExactCurves", "bringIn", "(ILExactCurves$Pool;IJ)V"⟩, 8), (⟨"ExactCurves", "takeOut", "(ILExactCurves$Pool;IJ)V"⟩, 8), (⟨"ExactCurves$Batch", "isBefore", "(II)Z"⟩, 10), (⟨"ExactCurves", "settleBuyer", "(IJ)V"⟩, 8), (⟨"ExactCurves", "settleSeller", "(IJ)V"⟩, 8), (⟨"ExactCurves", "worthOf", "(I)J"⟩, 8), (⟨"ExactCurves", "debtToken", "(LExactCurves$Loan;)I"⟩, 8), (⟨"ExactCurves", "debtOf", "(LExactCurves$Loan;)J"⟩, 8), (⟨"ExactCurves", "freeLoan", "()I"⟩, 8), (⟨"ExactCurves", "loanAt", "(I)LExactCurves$Loan;"⟩, 8), (⟨"ExactCurves", "coverValue", "(LExactCurves$Loan;)J"⟩, 8), (⟨"ExactCurves", "isUncovered", "(LExactCurves$Loan;)Z"⟩, 8), (⟨"ExactCurves", "coverToken", "(LExactCurves$Loan;)I"⟩, 8), (⟨"ExactCurves", "openLoans", "()I"⟩, 8)]
theorem lw_r1 : ∀ q ∈ lw_privs_1, lw_okq q := List.forall_mem_cons.mpr ⟨lw_p0, List.forall_mem_cons.mpr ⟨lw_p1, List.forall_mem_cons.mpr ⟨lw_p2, List.forall_mem_cons.mpr ⟨lw_p3, List.forall_mem_cons.mpr ⟨lw_p4, List.forall_mem_cons.mpr ⟨lw_p5, List.forall_mem_cons.mpr ⟨lw_p6, List.forall_mem_cons.mpr ⟨lw_p7, List.forall_mem_cons.mpr ⟨lw_p8, List.forall_mem_cons.mpr ⟨lw_p9, List.forall_mem_cons.mpr ⟨lw_p10, List.forall_mem_cons.mpr ⟨lw_p11, List.forall_mem_cons.mpr ⟨lw_p12, List.forall_mem_cons.mpr ⟨lw_p13, List.forall_mem_cons.mpr ⟨lw_p14, List.forall_mem_cons.mpr ⟨lw_p15, fun _ h => absurd h List.not_mem_nil⟩⟩⟩⟩⟩⟩⟩⟩⟩⟩⟩⟩⟩⟩⟩⟩
theorem lw_p16 : lw_okq (⟨"ExactCurvesModel", "allOf", "(I)J"⟩, 42) := ⟨⟨by decide +kernel, by decide +kernel⟩, List.mem_of_getElem? (i := 598) (by decide +kernel), List.mem_of_getElem? (i := 744) (by decide +kernel), List.mem_of_getElem? (i := 745) (by decide +kernel)⟩
theorem lw_p17 : lw_okq (⟨"ExactCurvesModel", "has", "(II)J"⟩, 42) := ⟨⟨by decide +kernel, by decide +kernel⟩, List.mem_of_getElem? (i := 598) (by decide +kernel), List.mem_of_getElem? (i := 748) (by decide +kernel), List.mem_of_getElem? (i := 749) (by decide +kernel)⟩
theorem lw_p18 : lw_okq (⟨"ExactCurvesModel", "heldBy", "(I)J"⟩, 42) := ⟨⟨by decide +kernel, by decide +kernel⟩, List.mem_of_getElem? (i := 598) (by decide +kernel), List.mem_of_getElem? (i := 752) (by decide +kernel), List.mem_of_getElem? (i := 753) (by decide +kernel)⟩
theorem lw_p19 : lw_okq (⟨"ExactCurvesModel", "coverToken", "(I)I"⟩, 42) := ⟨⟨by decide +kernel, by decide +kernel⟩, List.mem_of_getElem? (i := 598) (by decide +kernel), List.mem_of_getElem? (i := 760) (by decide +kernel), List.mem_of_getElem? (i := 761) (by decide +kernel)⟩
theorem lw_p20 : lw_okq (⟨"ExactCurvesModel", "give", "(IIJ)V"⟩, 42) := ⟨⟨by decide +kernel, by decide +kernel⟩, List.mem_of_getElem? (i := 598) (by decide +kernel), List.mem_of_getElem? (i := 765) (by decide +kernel), List.mem_of_getElem? (i := 766) (by decide +kernel)⟩
theorem lw_p21 : lw_okq (⟨"ExactCurvesModel", "isPool", "(I)Z"⟩, 42) := ⟨⟨by decide +kernel, by decide +kernel⟩, List.mem_of_getElem? (i := 598) (by decide +kernel), List.mem_of_getElem? (i := 789) (by decide +kernel), List.mem_of_getElem? (i := 790) (by decide +kernel)⟩
theorem lw_p22 : lw_okq (⟨"ExactCurvesModel", "root", "(JJ)J"⟩, 42) := ⟨⟨by decide +kernel, by decide +kernel⟩, List.mem_of_getElem? (i := 598) (by decide +kernel), List.mem_of_getElem? (i := 797) (by decide +kernel), List.mem_of_getElem? (i := 798) (by decide +kernel)⟩
theorem lw_p23 : lw_okq (⟨"ExactCurvesModel", "begin", "(J)V"⟩, 42) := ⟨⟨by decide +kernel, by decide +kernel⟩, List.mem_of_getElem? (i := 598) (by decide +kernel), List.mem_of_getElem? (i := 801) (by decide +kernel), List.mem_of_getElem? (i := 802) (by decide +kernel)⟩
theorem lw_p24 : lw_okq (⟨"ExactCurvesModel", "times", "(J)V"⟩, 42) := ⟨⟨by decide +kernel, by decide +kernel⟩, List.mem_of_getElem? (i := 598) (by decide +kernel), List.mem_of_getElem? (i := 806) (by decide +kernel), List.mem_of_getElem? (i := 807) (by decide +kernel)⟩
theorem lw_p25 : lw_okq (⟨"ExactCurvesModel", "keepBig", "()V"⟩, 42) := ⟨⟨by decide +kernel, by decide +kernel⟩, List.mem_of_getElem? (i := 598) (by decide +kernel), List.mem_of_getElem? (i := 810) (by decide +kernel), List.mem_of_getElem? (i := 811) (by decide +kernel)⟩
theorem lw_p26 : lw_okq (⟨"ExactCurvesModel", "keptIsLess", "()Z"⟩, 42) := ⟨⟨by decide +kernel, by decide +kernel⟩, List.mem_of_getElem? (i := 598) (by decide +kernel), List.mem_of_getElem? (i := 814) (by decide +kernel), List.mem_of_getElem? (i := 815) (by decide +kernel)⟩
theorem lw_p27 : lw_okq (⟨"ExactCurvesModel", "part", "(JJJ)J"⟩, 42) := ⟨⟨by decide +kernel, by decide +kernel⟩, List.mem_of_getElem? (i := 598) (by decide +kernel), List.mem_of_getElem? (i := 818) (by decide +kernel), List.mem_of_getElem? (i := 819) (by decide +kernel)⟩
theorem lw_p28 : lw_okq (⟨"ExactCurvesModel", "over", "(J)J"⟩, 42) := ⟨⟨by decide +kernel, by decide +kernel⟩, List.mem_of_getElem? (i := 598) (by decide +kernel), List.mem_of_getElem? (i := 822) (by decide +kernel), List.mem_of_getElem? (i := 823) (by decide +kernel)⟩
theorem lw_p29 : lw_okq (⟨"ExactCurvesModel", "partUp", "(JJJ)J"⟩, 42) := ⟨⟨by decide +kernel, by decide +kernel⟩, List.mem_of_getElem? (i := 598) (by decide +kernel), List.mem_of_getElem? (i := 831) (by decide +kernel), List.mem_of_getElem? (i := 832) (by decide +kernel)⟩
theorem lw_p30 : lw_okq (⟨"ExactCurvesModel", "outOf", "(IIJ)J"⟩, 42) := ⟨⟨by decide +kernel, by decide +kernel⟩, List.mem_of_getElem? (i := 598) (by decide +kernel), List.mem_of_getElem? (i := 846) (by decide +kernel), List.mem_of_getElem? (i := 847) (by decide +kernel)⟩
theorem lw_p31 : lw_okq (⟨"ExactCurvesModel", "tickOnce", "()V"⟩, 42) := ⟨⟨by decide +kernel, by decide +kernel⟩, List.mem_of_getElem? (i := 598) (by decide +kernel), List.mem_of_getElem? (i := 863) (by decide +kernel), List.mem_of_getElem? (i := 864) (by decide +kernel)⟩
def lw_privs_2 : List (MethodName × Nat) := [(⟨"ExactCurvesModel", "allOf", "(I)J"⟩, 42), (⟨"ExactCurvesModel", "has", "(II)J"⟩, 42), (⟨"ExactCurvesModel", "heldBy", "(I)J"⟩, 42), (⟨"ExactCurvesModel", "coverToken", "(I)I"⟩, 42), (⟨"ExactCurvesModel", "give", "(IIJ)V"⟩, 42), (⟨"ExactCurvesModel", "isPool", "(I)Z"⟩, 42), (⟨"ExactCurvesModel", "root", "(JJ)J"⟩, 42), (⟨"ExactCurvesModel", "begin", "(J)V"⟩, 42), (⟨"ExactCurvesModel", "times", "(J)V"⟩, 42), (⟨"ExactCurvesModel", "keepBig", "()V"⟩, 42), (⟨"ExactCurvesModel", "keptIsLess", "()Z"⟩, 42), (⟨"ExactCurvesModel", "part", "(JJJ)J"⟩, 42), (⟨"ExactCurvesModel", "over", "(J)J"⟩, 42), (⟨"ExactCurvesModel", "partUp", "(JJJ)J"⟩, 42), (⟨"ExactCurvesModel", "outOf", "(IIJ)J"⟩, 42), (⟨"ExactCurvesModel", "tickOnce", "()V"⟩, 42)]
theorem lw_r2 : ∀ q ∈ lw_privs_2, lw_okq q := List.forall_mem_cons.mpr ⟨lw_p16, List.forall_mem_cons.mpr ⟨lw_p17, List.forall_mem_cons.mpr ⟨lw_p18, List.forall_mem_cons.mpr ⟨lw_p19, List.forall_mem_cons.mpr ⟨lw_p20, List.forall_mem_cons.mpr ⟨lw_p21, List.forall_mem_cons.mpr ⟨lw_p22, List.forall_mem_cons.mpr ⟨lw_p23, List.forall_mem_cons.mpr ⟨lw_p24, List.forall_mem_cons.mpr ⟨lw_p25, List.forall_mem_cons.mpr ⟨lw_p26, List.forall_mem_cons.mpr ⟨lw_p27, List.forall_mem_cons.mpr ⟨lw_p28, List.forall_mem_cons.mpr ⟨lw_p29, List.forall_mem_cons.mpr ⟨lw_p30, List.forall_mem_cons.mpr ⟨lw_p31, fun _ h => absurd h List.not_mem_nil⟩⟩⟩⟩⟩⟩⟩⟩⟩⟩⟩⟩⟩⟩⟩⟩
theorem lw_p32 : lw_okq (⟨"ExactCurvesModel", "bestPrice", "()J"⟩, 42) := ⟨⟨by decide +kernel, by decide +kernel⟩, List.mem_of_getElem? (i := 598) (by decide +kernel), List.mem_of_getElem? (i := 891) (by decide +kernel), List.mem_of_getElem? (i := 892) (by decide +kernel)⟩
theorem lw_p33 : lw_okq (⟨"ExactCurvesModel", "allAt", "(ZJ)J"⟩, 42) := ⟨⟨by decide +kernel, by decide +kernel⟩, List.mem_of_getElem? (i := 598) (by decide +kernel), List.mem_of_getElem? (i := 895) (by decide +kernel), List.mem_of_getElem? (i := 896) (by decide +kernel)⟩
theorem lw_p34 : lw_okq (⟨"ExactCurvesModel", "deal", "(ZJJ)V"⟩, 42) := ⟨⟨by decide +kernel, by decide +kernel⟩, List.mem_of_getElem? (i := 598) (by decide +kernel), List.mem_of_getElem? (i := 899) (by decide +kernel), List.mem_of_getElem? (i := 900) (by decide +kernel)⟩
theorem lw_p35 : lw_okq (⟨"ExactCurvesModel", "worthOf", "(I)J"⟩, 42) := ⟨⟨by decide +kernel, by decide +kernel⟩, List.mem_of_getElem? (i := 598) (by decide +kernel), List.mem_of_getElem? (i := 915) (by decide +kernel), List.mem_of_getElem? (i := 916) (by decide +kernel)⟩
theorem lw_p36 : lw_okq (⟨"ExactCurvesModel", "debtToken", "(I)I"⟩, 42) := ⟨⟨by decide +kernel, by decide +kernel⟩, List.mem_of_getElem? (i := 598) (by decide +kernel), List.mem_of_getElem? (i := 919) (by decide +kernel), List.mem_of_getElem? (i := 920) (by decide +kernel)⟩
theorem lw_p37 : lw_okq (⟨"ExactCurvesModel", "debtOf", "(I)J"⟩, 42) := ⟨⟨by decide +kernel, by decide +kernel⟩, List.mem_of_getElem? (i := 598) (by decide +kernel), List.mem_of_getElem? (i := 923) (by decide +kernel), List.mem_of_getElem? (i := 924) (by decide +kernel)⟩
theorem lw_p38 : lw_okq (⟨"ExactCurvesModel", "valueOf", "(IIJ)J"⟩, 42) := ⟨⟨by decide +kernel, by decide +kernel⟩, List.mem_of_getElem? (i := 598) (by decide +kernel), List.mem_of_getElem? (i := 941) (by decide +kernel), List.mem_of_getElem? (i := 942) (by decide +kernel)⟩
theorem lw_p39 : lw_okq (⟨"ExactCurvesModel", "isAbove", "(JJJJ)Z"⟩, 42) := ⟨⟨by decide +kernel, by decide +kernel⟩, List.mem_of_getElem? (i := 598) (by decide +kernel), List.mem_of_getElem? (i := 946) (by decide +kernel), List.mem_of_getElem? (i := 947) (by decide +kernel)⟩
theorem lw_p40 : lw_okq (⟨"ExactCurvesModel", "isOpen", "(I)Z"⟩, 42) := ⟨⟨by decide +kernel, by decide +kernel⟩, List.mem_of_getElem? (i := 598) (by decide +kernel), List.mem_of_getElem? (i := 954) (by decide +kernel), List.mem_of_getElem? (i := 955) (by decide +kernel)⟩
theorem lw_p41 : lw_okq (⟨"ExactCurvesModel", "coverValue", "(I)J"⟩, 42) := ⟨⟨by decide +kernel, by decide +kernel⟩, List.mem_of_getElem? (i := 598) (by decide +kernel), List.mem_of_getElem? (i := 958) (by decide +kernel), List.mem_of_getElem? (i := 959) (by decide +kernel)⟩
theorem lw_p42 : lw_okq (⟨"ExactCurvesModel", "isUncovered", "(I)Z"⟩, 42) := ⟨⟨by decide +kernel, by decide +kernel⟩, List.mem_of_getElem? (i := 598) (by decide +kernel), List.mem_of_getElem? (i := 962) (by decide +kernel), List.mem_of_getElem? (i := 963) (by decide +kernel)⟩
theorem lw_p43 : lw_okq (⟨"ExactCurvesModel", "isAlike", "()Z"⟩, 42) := ⟨⟨by decide +kernel, by decide +kernel⟩, List.mem_of_getElem? (i := 598) (by decide +kernel), List.mem_of_getElem? (i := 976) (by decide +kernel), List.mem_of_getElem? (i := 977) (by decide +kernel)⟩
def lw_privs_3 : List (MethodName × Nat) := [(⟨"ExactCurvesModel", "bestPrice", "()J"⟩, 42), (⟨"ExactCurvesModel", "allAt", "(ZJ)J"⟩, 42), (⟨"ExactCurvesModel", "deal", "(ZJJ)V"⟩, 42), (⟨"ExactCurvesModel", "worthOf", "(I)J"⟩, 42), (⟨"ExactCurvesModel", "debtToken", "(I)I"⟩, 42), (⟨"ExactCurvesModel", "debtOf", "(I)J"⟩, 42), (⟨"ExactCurvesModel", "valueOf", "(IIJ)J"⟩, 42), (⟨"ExactCurvesModel", "isAbove", "(JJJJ)Z"⟩, 42), (⟨"ExactCurvesModel", "isOpen", "(I)Z"⟩, 42), (⟨"ExactCurvesModel", "coverValue", "(I)J"⟩, 42), (⟨"ExactCurvesModel", "isUncovered", "(I)Z"⟩, 42), (⟨"ExactCurvesModel", "isAlike", "()Z"⟩, 42)]
theorem lw_r3 : ∀ q ∈ lw_privs_3, lw_okq q := List.forall_mem_cons.mpr ⟨lw_p32, List.forall_mem_cons.mpr ⟨lw_p33, List.forall_mem_cons.mpr ⟨lw_p34, List.forall_mem_cons.mpr ⟨lw_p35, List.forall_mem_cons.mpr ⟨lw_p36, List.forall_mem_cons.mpr ⟨lw_p37, List.forall_mem_cons.mpr ⟨lw_p38, List.forall_mem_cons.mpr ⟨lw_p39, List.forall_mem_cons.mpr ⟨lw_p40, List.forall_mem_cons.mpr ⟨lw_p41, List.forall_mem_cons.mpr ⟨lw_p42, List.forall_mem_cons.mpr ⟨lw_p43, fun _ h => absurd h List.not_mem_nil⟩⟩⟩⟩⟩⟩⟩⟩⟩⟩⟩⟩
def lw_privs : List (MethodName × Nat) := lw_privs_1 ++ (lw_privs_2 ++ (lw_privs_3))
def lw_tbl : List Cond := k2_sels lw_privs ++ tables_1
theorem lw_privs_ok : ∀ q ∈ lw_privs, lw_okq q := by
  show ∀ q ∈ lw_privs_1 ++ (lw_privs_2 ++ (lw_privs_3)), lw_okq q
  exact List.forall_mem_append.mpr ⟨lw_r1, List.forall_mem_append.mpr ⟨lw_r2, lw_r3⟩⟩
-- ===== end of PART A =====
end
section
def rq_0 : String := "ExactCurves"
def tq_0 : u_T := fun k => match k with
  | 0 => ("ExactCurves", "purses", "LExactCurves$Purses;", true)
  | 1 => ("ExactCurves", "pools", "[LExactCurves$Pool;", true)
  | 2 => ("ExactCurves", "marks", "[LExactCurves$Mark;", true)
  | 3 => ("ExactCurves", "orders", "LExactCurves$Batch;", true)
  | 4 => ("ExactCurves", "vaults", "[LExactCurves$Vault;", true)
  | 5 => ("ExactCurves", "loans", "[LExactCurves$Loan;", true)
  | 6 => ("ExactCurves", "poolCount", "I", false)
  | _ => ("ExactCurves", "clock", "I", false)
def fq_0 : Nat → FieldType := fun k => match k with
  | 0 => .object "ExactCurves$Purses"
  | 1 => .array (.object "ExactCurves$Pool")
  | 2 => .array (.object "ExactCurves$Mark")
  | 3 => .object "ExactCurves$Batch"
  | 4 => .array (.object "ExactCurves$Vault")
  | 5 => .array (.object "ExactCurves$Loan")
  | 6 => .int
  | _ => .int
theorem nq_0 : ∀ a, a < 8 → ∀ b, b < 8 → a ≠ b → (tq_0 a).2.1 ≠ (tq_0 b).2.1 := by decide +kernel
theorem yq_0 : ∀ k, k < 8 → parseFieldDescriptor (tq_0 k).2.2.1 = some (fq_0 k) := by decide +kernel
def rq_1 : String := "ExactCurves$Purses"
def tq_1 : u_T := fun k => match k with
  | 0 => ("ExactCurves$Purses", "amounts", "[J", true)
  | 1 => ("ExactCurves$Purses", "minted", "[J", true)
  | _ => ("ExactCurves$Purses", "kept", "[J", true)
def fq_1 : Nat → FieldType := fun k => match k with
  | 0 => .array .long
  | 1 => .array .long
  | _ => .array .long
theorem nq_1 : ∀ a, a < 3 → ∀ b, b < 3 → a ≠ b → (tq_1 a).2.1 ≠ (tq_1 b).2.1 := by decide +kernel
theorem yq_1 : ∀ k, k < 3 → parseFieldDescriptor (tq_1 k).2.2.1 = some (fq_1 k) := by decide +kernel
def rq_2 : String := "ExactCurves$Pool"
def tq_2 : u_T := fun k => match k with
  | 0 => ("ExactCurves$Pool", "sharesOf", "[J", true)
  | 1 => ("ExactCurves$Pool", "one", "I", false)
  | 2 => ("ExactCurves$Pool", "two", "I", false)
  | 3 => ("ExactCurves$Pool", "kind", "I", false)
  | 4 => ("ExactCurves$Pool", "fee", "I", false)
  | 5 => ("ExactCurves$Pool", "x", "J", false)
  | 6 => ("ExactCurves$Pool", "y", "J", false)
  | 7 => ("ExactCurves$Pool", "shares", "J", false)
  | 8 => ("ExactCurves$Pool", "tally", "J", false)
  | _ => ("ExactCurves$Pool", "age", "J", false)
def fq_2 : Nat → FieldType := fun k => match k with
  | 0 => .array .long
  | 1 => .int
  | 2 => .int
  | 3 => .int
  | 4 => .int
  | 5 => .long
  | 6 => .long
  | 7 => .long
  | 8 => .long
  | _ => .long
theorem nq_2 : ∀ a, a < 10 → ∀ b, b < 10 → a ≠ b → (tq_2 a).2.1 ≠ (tq_2 b).2.1 := by decide +kernel
theorem yq_2 : ∀ k, k < 10 → parseFieldDescriptor (tq_2 k).2.2.1 = some (fq_2 k) := by decide +kernel
def rq_3 : String := "ExactCurves$Mark"
def tq_3 : u_T := fun k => match k with
  | 0 => ("ExactCurves$Mark", "isSet", "Z", false)
  | 1 => ("ExactCurves$Mark", "poolNumber", "I", false)
  | 2 => ("ExactCurves$Mark", "tally", "J", false)
  | _ => ("ExactCurves$Mark", "age", "J", false)
def fq_3 : Nat → FieldType := fun k => match k with
  | 0 => .boolean
  | 1 => .int
  | 2 => .long
  | _ => .long
theorem nq_3 : ∀ a, a < 4 → ∀ b, b < 4 → a ≠ b → (tq_3 a).2.1 ≠ (tq_3 b).2.1 := by decide +kernel
theorem yq_3 : ∀ k, k < 4 → parseFieldDescriptor (tq_3 k).2.2.1 = some (fq_3 k) := by decide +kernel
def rq_4 : String := "ExactCurves$Batch"
def tq_4 : u_T := fun k => match k with
  | 0 => ("ExactCurves$Batch", "players", "[I", true)
  | 1 => ("ExactCurves$Batch", "buys", "[Z", true)
  | 2 => ("ExactCurves$Batch", "amounts", "[J", true)
  | 3 => ("ExactCurves$Batch", "limits", "[J", true)
  | 4 => ("ExactCurves$Batch", "parts", "[J", true)
  | 5 => ("ExactCurves$Batch", "tokenA", "I", false)
  | 6 => ("ExactCurves$Batch", "tokenB", "I", false)
  | 7 => ("ExactCurves$Batch", "size", "I", false)
  | 8 => ("ExactCurves$Batch", "latestSize", "I", false)
  | _ => ("ExactCurves$Batch", "latestDealt", "J", false)
def fq_4 : Nat → FieldType := fun k => match k with
  | 0 => .array .int
  | 1 => .array .boolean
  | 2 => .array .long
  | 3 => .array .long
  | 4 => .array .long
  | 5 => .int
  | 6 => .int
  | 7 => .int
  | 8 => .int
  | _ => .long
theorem nq_4 : ∀ a, a < 10 → ∀ b, b < 10 → a ≠ b → (tq_4 a).2.1 ≠ (tq_4 b).2.1 := by decide +kernel
theorem yq_4 : ∀ k, k < 10 → parseFieldDescriptor (tq_4 k).2.2.1 = some (fq_4 k) := by decide +kernel
def rq_5 : String := "ExactCurves$Vault"
def tq_5 : u_T := fun k => match k with
  | 0 => ("ExactCurves$Vault", "partsOf", "[J", true)
  | 1 => ("ExactCurves$Vault", "has", "J", false)
  | 2 => ("ExactCurves$Vault", "parts", "J", false)
  | 3 => ("ExactCurves$Vault", "rate", "J", false)
  | _ => ("ExactCurves$Vault", "index", "J", false)
def fq_5 : Nat → FieldType := fun k => match k with
  | 0 => .array .long
  | 1 => .long
  | 2 => .long
  | 3 => .long
  | _ => .long
theorem nq_5 : ∀ a, a < 5 → ∀ b, b < 5 → a ≠ b → (tq_5 a).2.1 ≠ (tq_5 b).2.1 := by decide +kernel
theorem yq_5 : ∀ k, k < 5 → parseFieldDescriptor (tq_5 k).2.2.1 = some (fq_5 k) := by decide +kernel
def rq_6 : String := "ExactCurves$Loan"
def tq_6 : u_T := fun k => match k with
  | 0 => ("ExactCurves$Loan", "isOpen", "Z", false)
  | 1 => ("ExactCurves$Loan", "player", "I", false)
  | 2 => ("ExactCurves$Loan", "poolNumber", "I", false)
  | 3 => ("ExactCurves$Loan", "side", "I", false)
  | 4 => ("ExactCurves$Loan", "cover", "J", false)
  | _ => ("ExactCurves$Loan", "units", "J", false)
def fq_6 : Nat → FieldType := fun k => match k with
  | 0 => .boolean
  | 1 => .int
  | 2 => .int
  | 3 => .int
  | 4 => .long
  | _ => .long
theorem nq_6 : ∀ a, a < 6 → ∀ b, b < 6 → a ≠ b → (tq_6 a).2.1 ≠ (tq_6 b).2.1 := by decide +kernel
theorem yq_6 : ∀ k, k < 6 → parseFieldDescriptor (tq_6 k).2.2.1 = some (fq_6 k) := by decide +kernel
def rq_7 : String := "ExactCurvesModel"
def tq_7 : u_T := fun k => match k with
  | 0 => ("ExactCurvesModel", "balances", "[J", true)
  | 1 => ("ExactCurvesModel", "houses", "[J", true)
  | 2 => ("ExactCurvesModel", "clock", "I", false)
  | 3 => ("ExactCurvesModel", "pools", "I", false)
  | 4 => ("ExactCurvesModel", "poolTokens", "[I", true)
  | 5 => ("ExactCurvesModel", "kinds", "[I", true)
  | 6 => ("ExactCurvesModel", "fees", "[I", true)
  | 7 => ("ExactCurvesModel", "reserves", "[J", true)
  | 8 => ("ExactCurvesModel", "allShares", "[J", true)
  | 9 => ("ExactCurvesModel", "shares", "[J", true)
  | 10 => ("ExactCurvesModel", "tallies", "[J", true)
  | 11 => ("ExactCurvesModel", "ages", "[J", true)
  | 12 => ("ExactCurvesModel", "markPools", "[I", true)
  | 13 => ("ExactCurvesModel", "markTallies", "[J", true)
  | 14 => ("ExactCurvesModel", "markAges", "[J", true)
  | 15 => ("ExactCurvesModel", "tokenA", "I", false)
  | 16 => ("ExactCurvesModel", "tokenB", "I", false)
  | 17 => ("ExactCurvesModel", "orders", "I", false)
  | 18 => ("ExactCurvesModel", "orderPlayers", "[I", true)
  | 19 => ("ExactCurvesModel", "buys", "[Z", true)
  | 20 => ("ExactCurvesModel", "amounts", "[J", true)
  | 21 => ("ExactCurvesModel", "limits", "[J", true)
  | 22 => ("ExactCurvesModel", "allDealt", "J", false)
  | 23 => ("ExactCurvesModel", "ordersThen", "I", false)
  | 24 => ("ExactCurvesModel", "dealts", "[J", true)
  | 25 => ("ExactCurvesModel", "taken", "[Z", true)
  | 26 => ("ExactCurvesModel", "vaults", "[J", true)
  | 27 => ("ExactCurvesModel", "allParts", "[J", true)
  | 28 => ("ExactCurvesModel", "parts", "[J", true)
  | 29 => ("ExactCurvesModel", "indexes", "[J", true)
  | 30 => ("ExactCurvesModel", "rates", "[J", true)
  | 31 => ("ExactCurvesModel", "isLoan", "[Z", true)
  | 32 => ("ExactCurvesModel", "loanPlayers", "[I", true)
  | 33 => ("ExactCurvesModel", "loanPools", "[I", true)
  | 34 => ("ExactCurvesModel", "loanSides", "[I", true)
  | 35 => ("ExactCurvesModel", "covers", "[J", true)
  | 36 => ("ExactCurvesModel", "units", "[J", true)
  | 37 => ("ExactCurvesModel", "big", "[J", true)
  | 38 => ("ExactCurvesModel", "other", "[J", true)
  | 39 => ("ExactCurvesModel", "sum", "[J", true)
  | 40 => ("ExactCurvesModel", "piece", "[J", true)
  | _ => ("ExactCurvesModel", "rest", "J", false)
def fq_7 : Nat → FieldType := fun k => match k with
  | 0 => .array .long
  | 1 => .array .long
  | 2 => .int
  | 3 => .int
  | 4 => .array .int
  | 5 => .array .int
  | 6 => .array .int
  | 7 => .array .long
  | 8 => .array .long
  | 9 => .array .long
  | 10 => .array .long
  | 11 => .array .long
  | 12 => .array .int
  | 13 => .array .long
  | 14 => .array .long
  | 15 => .int
  | 16 => .int
  | 17 => .int
  | 18 => .array .int
  | 19 => .array .boolean
  | 20 => .array .long
  | 21 => .array .long
  | 22 => .long
  | 23 => .int
  | 24 => .array .long
  | 25 => .array .boolean
  | 26 => .array .long
  | 27 => .array .long
  | 28 => .array .long
  | 29 => .array .long
  | 30 => .array .long
  | 31 => .array .boolean
  | 32 => .array .int
  | 33 => .array .int
  | 34 => .array .int
  | 35 => .array .long
  | 36 => .array .long
  | 37 => .array .long
  | 38 => .array .long
  | 39 => .array .long
  | 40 => .array .long
  | _ => .long
theorem nq_7 : ∀ a, a < 42 → ∀ b, b < 42 → a ≠ b → (tq_7 a).2.1 ≠ (tq_7 b).2.1 := by decide +kernel
theorem yq_7 : ∀ k, k < 42 → parseFieldDescriptor (tq_7 k).2.2.1 = some (fq_7 k) := by decide +kernel
abbrev qz_Y : Type := Nat × ((Nat × List (FieldType × Nat)) ⊕ (Nat × FieldType × Nat))
def qz_cl : List vw_C := [(rq_0, tq_0, 8), (rq_1, tq_1, 3), (rq_2, tq_2, 10), (rq_3, tq_3, 4), (rq_4, tq_4, 10), (rq_5, tq_5, 5), (rq_6, tq_6, 6), (rq_7, tq_7, 42)]
def sq_0 : List (FieldType × Nat) := [(.object "ExactCurves$Purses", 1), (.array (.object "ExactCurves$Pool"), 8), (.array (.object "ExactCurves$Mark"), 9), (.object "ExactCurves$Batch", 4), (.array (.object "ExactCurves$Vault"), 10), (.array (.object "ExactCurves$Loan"), 11), (.int, 0), (.int, 0)]
def sq_1 : List (FieldType × Nat) := [(.array .long, 12), (.array .long, 13), (.array .long, 14)]
def sq_2 : List (FieldType × Nat) := [(.array .long, 15), (.int, 0), (.int, 0), (.int, 0), (.int, 0), (.long, 0), (.long, 0), (.long, 0), (.long, 0), (.long, 0)]
def sq_3 : List (FieldType × Nat) := [(.boolean, 0), (.int, 0), (.long, 0), (.long, 0)]
def sq_4 : List (FieldType × Nat) := [(.array .int, 16), (.array .boolean, 17), (.array .long, 18), (.array .long, 19), (.array .long, 20), (.int, 0), (.int, 0), (.int, 0), (.int, 0), (.long, 0)]
def sq_5 : List (FieldType × Nat) := [(.array .long, 21), (.long, 0), (.long, 0), (.long, 0), (.long, 0)]
def sq_6 : List (FieldType × Nat) := [(.boolean, 0), (.int, 0), (.int, 0), (.int, 0), (.long, 0), (.long, 0)]
def sq_7 : List (FieldType × Nat) := [(.array .long, 22), (.array .long, 23), (.int, 0), (.int, 0), (.array .int, 24), (.array .int, 25), (.array .int, 26), (.array .long, 27), (.array .long, 28), (.array .long, 29), (.array .long, 30), (.array .long, 31), (.array .int, 32), (.array .long, 33), (.array .long, 34), (.int, 0), (.int, 0), (.int, 0), (.array .int, 35), (.array .boolean, 36), (.array .long, 37), (.array .long, 38), (.long, 0), (.int, 0), (.array .long, 39), (.array .boolean, 40), (.array .long, 41), (.array .long, 42), (.array .long, 43), (.array .long, 44), (.array .long, 45), (.array .boolean, 46), (.array .int, 47), (.array .int, 48), (.array .int, 49), (.array .long, 50), (.array .long, 51), (.array .long, 52), (.array .long, 53), (.array .long, 54), (.array .long, 55), (.long, 0)]
def qz_tb : List qz_Y := [(1, .inl (0, sq_0)), (1, .inl (1, sq_1)), (6, .inl (2, sq_2)), (8, .inl (3, sq_3)), (1, .inl (4, sq_4)), (4, .inl (5, sq_5)), (10, .inl (6, sq_6)), (1, .inl (7, sq_7)), (1, .inr (6, .object "ExactCurves$Pool", 2)), (1, .inr (8, .object "ExactCurves$Mark", 3)), (1, .inr (4, .object "ExactCurves$Vault", 5)), (1, .inr (10, .object "ExactCurves$Loan", 6)), (1, .inr (24, .long, 0)), (1, .inr (4, .long, 0)), (1, .inr (4, .long, 0)), (6, .inr (6, .long, 0)), (1, .inr (40, .int, 0)), (1, .inr (40, .boolean, 0)), (1, .inr (40, .long, 0)), (1, .inr (40, .long, 0)), (1, .inr (40, .long, 0)), (4, .inr (6, .long, 0)), (1, .inr (24, .long, 0)), (1, .inr (4, .long, 0)), (1, .inr (12, .int, 0)), (1, .inr (6, .int, 0)), (1, .inr (6, .int, 0)), (1, .inr (12, .long, 0)), (1, .inr (6, .long, 0)), (1, .inr (36, .long, 0)), (1, .inr (6, .long, 0)), (1, .inr (6, .long, 0)), (1, .inr (8, .int, 0)), (1, .inr (8, .long, 0)), (1, .inr (8, .long, 0)), (1, .inr (40, .int, 0)), (1, .inr (40, .boolean, 0)), (1, .inr (40, .long, 0)), (1, .inr (40, .long, 0)), (1, .inr (40, .long, 0)), (1, .inr (40, .boolean, 0)), (1, .inr (4, .long, 0)), (1, .inr (4, .long, 0)), (1, .inr (24, .long, 0)), (1, .inr (4, .long, 0)), (1, .inr (4, .long, 0)), (1, .inr (10, .boolean, 0)), (1, .inr (10, .int, 0)), (1, .inr (10, .int, 0)), (1, .inr (10, .int, 0)), (1, .inr (10, .long, 0)), (1, .inr (10, .long, 0)), (1, .inr (6, .long, 0)), (1, .inr (6, .long, 0)), (1, .inr (9, .long, 0)), (1, .inr (3, .long, 0))]
def qz_T : List Cond := lw_tbl.filter goodWord
theorem qz_mem {w : Cond} (i : Nat) (h : lw_tbl[i]? = some w) (hg : goodWord w = true) : w ∈ qz_T := List.mem_filter.mpr ⟨List.mem_of_getElem? h, hg⟩
end
section
/-! THE STEADY WORLD. An object is (c, i): c its place in the table qz_tb, i below its count. Its numbers stand in N (ints, longs), its address is ad c i. No object comes or goes. -/
abbrev qz_N : Type := (Nat → Nat → Nat → Int32) × (Nat → Nat → Nat → Int64)
def qz_gi (N : qz_N) (c i k : Nat) : Int32 := N.1 c i k
def qz_gl (N : qz_N) (c i k : Nat) : Int64 := N.2 c i k
def qz_u3 {α : Type} (f : Nat → Nat → Nat → α) (c i k : Nat) (v : α) : Nat → Nat → Nat → α := fun c' i' k' => if c' = c ∧ i' = i ∧ k' = k then v else f c' i' k'
def qz_si (N : qz_N) (c i k : Nat) (v : Int32) : qz_N := (qz_u3 N.1 c i k v, N.2)
def qz_sl (N : qz_N) (c i k : Nat) (v : Int64) : qz_N := (N.1, qz_u3 N.2 c i k v)
def qz_let {α β : Type} (e : α) (k : α → β) : β := k e
def qz_oc {β : Type} (q : Option Nat × qz_N) (a : qz_N → β) (b : qz_N → Nat → β) : β := match q with
  | (none, N) => a N
  | (some j, N) => b N j
theorem qz_ocN {β : Type} {N : qz_N} {a : qz_N → β} {b : qz_N → Nat → β} {r : β} (h : qz_oc (none, N) a b = r) : a N = r := h
theorem qz_ocS {β : Type} {N : qz_N} {j : Nat} {a : qz_N → β} {b : qz_N → Nat → β} {r : β} (h : qz_oc (some j, N) a b = r) : b N j = r := h
def qz_loop {α β : Type} (body : (α → Option β) → α → Option β) : Nat → α → Option β
  | 0, _ => none
  | n + 1, a => body (qz_loop body n) a
theorem qz_loop_ind {α β : Type} {body : (α → Option β) → α → Option β} {P : α → Prop} {r : β} (hb : ∀ k : α → Option β, (∀ a, k a = some r → P a) → ∀ a, body k a = some r → P a) : ∀ n a, qz_loop body n a = some r → P a
  | 0, _, h => by cases h
  | n + 1, a, h => hb (qz_loop body n) (fun a h => qz_loop_ind hb n a h) a h
/-- addresses and class numbers: of the classes, of the arrays, of the objects -/
abbrev qz_G : Type := va_G × (Nat → ClassId) × (Nat → Nat → Nat)
def qz_fv (ad : Nat → Nat → Nat) (N : qz_N) (c i k : Nat) (t : FieldType × Nat) : Value := match t.1 with
  | .long => .long (qz_gl N c i k)
  | .object _ => .ref (ad t.2 i)
  | .array _ => .ref (ad t.2 i)
  | _ => .int (qz_gi N c i k)
def qz_fs (ad : Nat → Nat → Nat) (N : qz_N) (c i : Nat) : Nat → List (FieldType × Nat) → List Value
  | _, [] => []
  | k, t :: ts => qz_fv ad N c i k t :: qz_fs ad N c i (k + 1) ts
def qz_ar (ad : Nat → Nat → Nat) (N : qz_N) (c i : Nat) (t : FieldType × Nat) : (Nat → Int32) ⊕ (Nat → Int64) ⊕ (Nat → UInt32) ⊕ (Nat → UInt64) ⊕ (Nat → Option Nat) := match t.1 with
  | .long => .inr (.inl (fun j => qz_gl N c i j))
  | .object _ => .inr (.inr (.inr (.inr (fun j => some (ad t.2 j)))))
  | .array _ => .inr (.inr (.inr (.inr (fun j => some (ad t.2 j)))))
  | _ => .inl (fun j => qz_gi N c i j)
def qz_e (G : qz_G) (N : qz_N) (c i : Nat) (q : qz_Y) : va_E := match q.2 with
  | .inl o => .inr (o.1, qz_fs G.2.2 N c i 0 o.2)
  | .inr a => .inl (G.2.1 c, a.1, qz_ar G.2.2 N c i a.2)
def qz_P (G : qz_G) (N : qz_N) (H : Heap) : Prop := ∀ (c i : Nat) (q : qz_Y), qz_tb[c]? = some q → i < q.1 → va_at G.1 qz_cl (G.2.2 c i, qz_e G N c i q) H
def qz_A (G : qz_G) : Nat → Prop := fun a => ∃ (c i : Nat) (q : qz_Y), qz_tb[c]? = some q ∧ i < q.1 ∧ a = G.2.2 c i
def qz_D (G : qz_G) : Prop := ∀ (c i : Nat) (q : qz_Y) (c' i' : Nat) (q' : qz_Y), qz_tb[c]? = some q → i < q.1 → qz_tb[c']? = some q' → i' < q'.1 → G.2.2 c i = G.2.2 c' i' → c = c' ∧ i = i'
def qz_K (G : qz_G) (U : State) : Prop := va_K G.1 qz_cl [] U ∧ (∀ (c : Nat) (q : qz_Y) (a : Nat × FieldType × Nat), qz_tb[c]? = some q → q.2 = .inr a → ArrOfT U (G.2.1 c) a.2.1)
theorem qz_K.moved {G : qz_G} {u U : State} (hvm : u.vm.Alike U.vm) (h : qz_K G u) : qz_K G U := ⟨va_K.moved hvm h.1, fun c q a hc ha => arrOfT_moved hvm (h.2 c q a hc ha)⟩
/-- since H0 only cells of the world have changed -/
def qz_S (G : qz_G) (H0 H : Heap) (locs : List Loc) : Prop := H.size = H0.size ∧ (∀ q : Nat, ¬ qz_A G q → H[q]? = H0[q]?) ∧ ∀ l ∈ locs, qz_A G l.base
theorem qz_S.rf {G : qz_G} {H : Heap} : qz_S G H H [] := ⟨rfl, fun _ _ => rfl, fun _ h => by cases h⟩
theorem qz_S.put {G : qz_G} {H0 H H1 : Heap} {locs : List Loc} {a k : Nat} (h : qz_S G H0 H locs) (z : H1.size = H.size) (oq : ∀ q : Nat, q ≠ a → H1[q]? = H[q]?) (ha : qz_A G a) : qz_S G H0 H1 (locs ++ [⟨a, k⟩]) := by
  refine ⟨z.trans h.1, fun q h2 => ?_, fun q hq => ?_⟩
  · rw [oq q (fun e => h2 (by rw [e]; exact ha))]
    exact h.2.1 q h2
  · rcases List.mem_append.mp hq with h1 | h1
    · exact h.2.2 q h1
    · rw [List.mem_singleton.mp h1]
      exact ha
theorem qz_fs_at (ad : Nat → Nat → Nat) (N : qz_N) (c i : Nat) : ∀ (ts : List (FieldType × Nat)) (b k : Nat) (t : FieldType × Nat), ts[k]? = some t → (qz_fs ad N c i b ts)[k]? = some (qz_fv ad N c i (b + k) t)
  | [], _, _, _, h => by simp at h
  | t0 :: ts, b, 0, t, h => by
    simp only [List.getElem?_cons_zero] at h
    cases h
    rfl
  | t0 :: ts, b, k + 1, t, h => by
    simp only [List.getElem?_cons_succ] at h
    have := qz_fs_at ad N c i ts (b + 1) k t h
    rw [show b + 1 + k = b + (k + 1) by omega] at this
    exact this
theorem qz_fs_len (ad : Nat → Nat → Nat) (N : qz_N) (c i : Nat) : ∀ (ts : List (FieldType × Nat)) (b : Nat), (qz_fs ad N c i b ts).length = ts.length
  | [], _ => rfl
  | t0 :: ts, b => by
    show (qz_fs ad N c i (b + 1) ts).length + 1 = ts.length + 1
    rw [qz_fs_len ad N c i ts (b + 1)]
theorem qz_fv_congr {ad : Nat → Nat → Nat} {N N' : qz_N} {c i k : Nat} (h1 : qz_gi N' c i k = qz_gi N c i k) (h2 : qz_gl N' c i k = qz_gl N c i k) (t : FieldType × Nat) : qz_fv ad N' c i k t = qz_fv ad N c i k t := by
  unfold qz_fv
  rw [h1, h2]
theorem qz_fs_congr {ad : Nat → Nat → Nat} {N N' : qz_N} {c i : Nat} (h1 : ∀ k, qz_gi N' c i k = qz_gi N c i k) (h2 : ∀ k, qz_gl N' c i k = qz_gl N c i k) : ∀ (ts : List (FieldType × Nat)) (b : Nat), qz_fs ad N' c i b ts = qz_fs ad N c i b ts
  | [], _ => rfl
  | t0 :: ts, b => by
    show qz_fv ad N' c i b t0 :: qz_fs ad N' c i (b + 1) ts = qz_fv ad N c i b t0 :: qz_fs ad N c i (b + 1) ts
    rw [qz_fs_congr h1 h2 ts (b + 1), qz_fv_congr (h1 b) (h2 b)]
theorem qz_ar_congr {ad : Nat → Nat → Nat} {N N' : qz_N} {c i : Nat} (h1 : ∀ k, qz_gi N' c i k = qz_gi N c i k) (h2 : ∀ k, qz_gl N' c i k = qz_gl N c i k) (t : FieldType × Nat) : qz_ar ad N' c i t = qz_ar ad N c i t := by
  unfold qz_ar
  rw [show (fun j => qz_gl N' c i j) = (fun j => qz_gl N c i j) from funext h2, show (fun j => qz_gi N' c i j) = (fun j => qz_gi N c i j) from funext h1]
theorem qz_e_congr {G : qz_G} {N N' : qz_N} {c i : Nat} (h1 : ∀ k, qz_gi N' c i k = qz_gi N c i k) (h2 : ∀ k, qz_gl N' c i k = qz_gl N c i k) (q : qz_Y) : qz_e G N' c i q = qz_e G N c i q := by
  obtain ⟨n, o | a⟩ := q
  · show (Sum.inr (o.1, qz_fs G.2.2 N' c i 0 o.2) : va_E) = Sum.inr (o.1, qz_fs G.2.2 N c i 0 o.2)
    rw [qz_fs_congr h1 h2]
  · show (Sum.inl (G.2.1 c, a.1, qz_ar G.2.2 N' c i a.2) : va_E) = Sum.inl (G.2.1 c, a.1, qz_ar G.2.2 N c i a.2)
    rw [qz_ar_congr h1 h2]
theorem qz_gi_si (N : qz_N) (c i k : Nat) (v : Int32) (c' i' k' : Nat) : qz_gi (qz_si N c i k v) c' i' k' = if c' = c ∧ i' = i ∧ k' = k then v else qz_gi N c' i' k' := rfl
theorem qz_gl_sl (N : qz_N) (c i k : Nat) (v : Int64) (c' i' k' : Nat) : qz_gl (qz_sl N c i k v) c' i' k' = if c' = c ∧ i' = i ∧ k' = k then v else qz_gl N c' i' k' := rfl
theorem qz_gl_si (N : qz_N) (c i k : Nat) (v : Int32) (c' i' k' : Nat) : qz_gl (qz_si N c i k v) c' i' k' = qz_gl N c' i' k' := rfl
theorem qz_gi_sl (N : qz_N) (c i k : Nat) (v : Int64) (c' i' k' : Nat) : qz_gi (qz_sl N c i k v) c' i' k' = qz_gi N c' i' k' := rfl
/-- N' is N but for the object (c, i) -/
def qz_but (N N' : qz_N) (c i : Nat) : Prop := ∀ c' i' : Nat, ¬ (c' = c ∧ i' = i) → (∀ k, qz_gi N' c' i' k = qz_gi N c' i' k) ∧ ∀ k, qz_gl N' c' i' k = qz_gl N c' i' k
theorem qz_but_si (N : qz_N) (c i k : Nat) (v : Int32) : qz_but N (qz_si N c i k v) c i := fun c' i' h => ⟨fun k' => by rw [qz_gi_si, if_neg (fun z => h ⟨z.1, z.2.1⟩)], fun k' => rfl⟩
theorem qz_but_sl (N : qz_N) (c i k : Nat) (v : Int64) : qz_but N (qz_sl N c i k v) c i := fun c' i' h => ⟨fun k' => rfl, fun k' => by rw [qz_gl_sl, if_neg (fun z => h ⟨z.1, z.2.1⟩)]⟩
theorem qz_P.set {G : qz_G} {N N' : qz_N} {H H1 : Heap} {c i : Nat} {q : qz_Y} (hP : qz_P G N H) (hD : qz_D G) (hc : qz_tb[c]? = some q) (hi : i < q.1) (hN : qz_but N N' c i) (he : va_at G.1 qz_cl (G.2.2 c i, qz_e G N' c i q) H1) (oq : ∀ x : Nat, x ≠ G.2.2 c i → H1[x]? = H[x]?) : qz_P G N' H1 := by
  intro c' i' q' hc' hi'
  by_cases h : c' = c ∧ i' = i
  · obtain ⟨rfl, rfl⟩ := h
    cases hc.symm.trans hc'
    exact he
  · obtain ⟨h1, h2⟩ := hN c' i' h
    rw [qz_e_congr h1 h2]
    refine (hP c' i' q' hc' hi').kept (oq _ (fun z => h ?_))
    exact hD c' i' q' c i q hc' hi' hc hi z
theorem qz_fs_set {ad : Nat → Nat → Nat} {N N' : qz_N} {c i k : Nat} {ts : List (FieldType × Nat)} {t : FieldType × Nat} {v : Value} (ht : ts[k]? = some t) (hv : qz_fv ad N' c i k t = v) (ho : ∀ j, j ≠ k → qz_gi N' c i j = qz_gi N c i j ∧ qz_gl N' c i j = qz_gl N c i j) : qz_fs ad N' c i 0 ts = (qz_fs ad N c i 0 ts).set k v := by
  apply List.ext_getElem?
  intro j
  have hk : k < ts.length := (List.getElem?_eq_some_iff.mp ht).1
  by_cases hj : j = k
  · subst hj
    rw [List.getElem?_set_self (by rw [qz_fs_len]; exact hk), qz_fs_at ad N' c i ts 0 j t ht, Nat.zero_add, hv]
  · rw [List.getElem?_set_ne (Ne.symm hj)]
    by_cases hl : j < ts.length
    · have h2 : ts[j]? = some ts[j] := List.getElem?_eq_getElem hl
      rw [qz_fs_at ad N' c i ts 0 j _ h2, qz_fs_at ad N c i ts 0 j _ h2, Nat.zero_add, qz_fv_congr (ho j hj).1 (ho j hj).2]
    · rw [List.getElem?_eq_none (by rw [qz_fs_len]; omega), List.getElem?_eq_none (by rw [qz_fs_len]; omega)]
/-- what the tables say of a field: entry 'index' of the pool of class own is field k of the class c of the table, of type t -/
def qz_Fd (own : String) (index c k cnt : Nat) (t : FieldType × Nat) (fin : Bool) : Prop := ∃ (ci : Nat) (ts : List (FieldType × Nat)) (C : String) (T : u_T) (n : Nat) (ty0 : Nat → FieldType), qz_tb[c]? = some (cnt, .inl (ci, ts)) ∧ qz_cl[ci]? = some (C, T, n) ∧ (∀ w ∈ u_ws C T n, w ∈ qz_T) ∧ k < n ∧ ts[k]? = some t ∧ Cond.fieldLink own index (T k).1 (T k).2.1 (T k).2.2.1 ∈ qz_T ∧ (∀ k, k < n → parseFieldDescriptor (T k).2.2.1 = some (ty0 k)) ∧ (∀ a, a < n → ∀ b, b < n → a ≠ b → (T a).2.1 ≠ (T b).2.1) ∧ (T k).2.2.2 = fin ∧ parseFieldDescriptor (T k).2.2.1 = some t.1 ∧ ts.length = n
/-- the walk stands at pc, with numbers N, locals lv, operands st -/
def qz_W (p : Program) (l : Launch) (e : Env) (R : Room) (s : State) (m : MethodId) (args : Array Value) (below : List Frame) (meth : Method) (c : Code) (cells slots : Nat) (Q : State → Prop) (G : qz_G) (H0 : Heap) (nL : Nat) (N : qz_N) (pc : Nat) (lv : List (Nat × Value)) (st : List Value) : Prop :=
  ∀ (H : Heap) (locs : List Loc) (ls : Array Slot), qz_P G N H → qz_S G H0 H locs → lv_has ls nL lv → W p l e R s m args below meth c H locs cells slots Q (F0 m pc ls st)
def qz_X (p : Program) (s : State) (m : MethodId) (args : Array Value) (meth : Method) (c : Code) (own : String) (cc : ByteArray) (nL : Nat) (ret : Option FieldType) (G : qz_G) : Prop :=
  p.tables.exec = Jvm.exec ∧ c.code = cc ∧ c.maxLocals = nL ∧ s.vm.findClass own = some m.cls ∧ (∀ w ∈ qz_T, w.before args s = true) ∧ qz_K G s ∧ qz_D G ∧ meth.locks = false ∧ meth.sig.returnType = ret
section QZ
variable {p : Program} {l : Launch} {e : Env} {R : Room} {s : State} {m : MethodId} {args : Array Value} {below : List Frame} {meth : Method} {c : Code} {cells slots : Nat} {Q : State → Prop} {G : qz_G} {H0 : Heap} {nL : Nat} {N : qz_N} {pc : Nat} {lv lv' : List (Nat × Value)} {st : List Value} {own : String} {cc : ByteArray} {ret : Option FieldType}
theorem qz_sub (ks : List Nat) (hl : lv_pick lv ks = lv') (kk : qz_W p l e R s m args below meth c cells slots Q G H0 nL N pc lv' st) : qz_W p l e R s m args below meth c cells slots Q G H0 nL N pc lv st := fun H locs ls hP hS h => kk H locs ls hP hS (lv_sub h ks hl)

theorem qz_iconst (X : qz_X p s m args meth c own cc nL ret G) {n : Int} {v : Int32} (hv : Int32.ofInt n = v) (d : decode cc pc = .ok (.iconst n, 1))
    (kk : qz_W p l e R s m args below meth c cells slots Q G H0 nL N (pc + 1) lv (.int v :: st)) : qz_W p l e R s m args below meth c cells slots Q G H0 nL N pc lv (st) := fun H locs ls hP hS h => lv_iconst X.1 X.2.1 d hv (kk H locs ls hP hS h)
theorem qz_bipush (X : qz_X p s m args meth c own cc nL ret G) {n : Int} {v : Int32} (hv : (Int8.ofInt n).toInt32 = v) (d : decode cc pc = .ok (.bipush n, 2))
    (kk : qz_W p l e R s m args below meth c cells slots Q G H0 nL N (pc + 2) lv (.int v :: st)) : qz_W p l e R s m args below meth c cells slots Q G H0 nL N pc lv (st) := fun H locs ls hP hS h => lv_bipush X.1 X.2.1 d hv (kk H locs ls hP hS h)
theorem qz_sipush (X : qz_X p s m args meth c own cc nL ret G) {n : Int} {v : Int32} (hv : (Int16.ofInt n).toInt32 = v) (d : decode cc pc = .ok (.sipush n, 3))
    (kk : qz_W p l e R s m args below meth c cells slots Q G H0 nL N (pc + 3) lv (.int v :: st)) : qz_W p l e R s m args below meth c cells slots Q G H0 nL N pc lv (st) := fun H locs ls hP hS h => lv_sipush X.1 X.2.1 d hv (kk H locs ls hP hS h)
theorem qz_lconst (X : qz_X p s m args meth c own cc nL ret G) {n : Fin 2} {v : Int64} (hv : Int64.ofNat (n : Nat) = v) (d : decode cc pc = .ok (.lconst n, 1))
    (kk : qz_W p l e R s m args below meth c cells slots Q G H0 nL N (pc + 1) lv (.long v :: st)) : qz_W p l e R s m args below meth c cells slots Q G H0 nL N pc lv (st) := fun H locs ls hP hS h => lv_lconst X.1 X.2.1 d hv (kk H locs ls hP hS h)
theorem qz_null (X : qz_X p s m args meth c own cc nL ret G)  (d : decode cc pc = .ok (.aconst_null, 1))
    (kk : qz_W p l e R s m args below meth c cells slots Q G H0 nL N (pc + 1) lv (.null :: st)) : qz_W p l e R s m args below meth c cells slots Q G H0 nL N pc lv (st) := fun H locs ls hP hS h => lv_null X.1 X.2.1 d (kk H locs ls hP hS h)
theorem qz_ldc (X : qz_X p s m args meth c own cc nL ret G) {index : Nat} {v : Int32} (hc : Cond.constant own index v ∈ qz_T) (d : decode cc pc = .ok (.ldc index, 2))
    (kk : qz_W p l e R s m args below meth c cells slots Q G H0 nL N (pc + 2) lv (.int v :: st)) : qz_W p l e R s m args below meth c cells slots Q G H0 nL N pc lv (st) := fun H locs ls hP hS h => lv_ldc X.1 X.2.1 X.2.2.2.1 (X.2.2.2.2.1 _ hc) d (kk H locs ls hP hS h)
theorem qz_ldc2 (X : qz_X p s m args meth c own cc nL ret G) {index : Nat} {v : Int64} (hc : Cond.constantLong own index v ∈ qz_T) (d : decode cc pc = .ok (.ldc2_w index, 3))
    (kk : qz_W p l e R s m args below meth c cells slots Q G H0 nL N (pc + 3) lv (.long v :: st)) : qz_W p l e R s m args below meth c cells slots Q G H0 nL N pc lv (st) := fun H locs ls hP hS h => lv_ldc2 X.1 X.2.1 X.2.2.2.1 (X.2.2.2.2.1 _ hc) d (kk H locs ls hP hS h)
theorem qz_iload_n (X : qz_X p s m args meth c own cc nL ret G) {k : Fin 4} {x : Int32} (q : Nat) (hq : lv[q]? = some ((k : Nat), .int x)) (d : decode cc pc = .ok (.iload_n k, 1))
    (kk : qz_W p l e R s m args below meth c cells slots Q G H0 nL N (pc + 1) lv (.int x :: st)) : qz_W p l e R s m args below meth c cells slots Q G H0 nL N pc lv (st) := fun H locs ls hP hS h => lv_iload_n X.1 X.2.1 d rfl (lv_at h q hq) (kk H locs ls hP hS h)
theorem qz_iload (X : qz_X p s m args meth c own cc nL ret G) {i : Nat} {x : Int32} (q : Nat) (hq : lv[q]? = some (i, .int x)) (d : decode cc pc = .ok (.iload i, 2))
    (kk : qz_W p l e R s m args below meth c cells slots Q G H0 nL N (pc + 2) lv (.int x :: st)) : qz_W p l e R s m args below meth c cells slots Q G H0 nL N pc lv (st) := fun H locs ls hP hS h => lv_iload X.1 X.2.1 d (lv_at h q hq) (kk H locs ls hP hS h)
theorem qz_lload_n (X : qz_X p s m args meth c own cc nL ret G) {k : Fin 4} {x : Int64} (q : Nat) (hq : lv[q]? = some ((k : Nat), .long x)) (d : decode cc pc = .ok (.lload_n k, 1))
    (kk : qz_W p l e R s m args below meth c cells slots Q G H0 nL N (pc + 1) lv (.long x :: st)) : qz_W p l e R s m args below meth c cells slots Q G H0 nL N pc lv (st) := fun H locs ls hP hS h => lv_lload_n X.1 X.2.1 d rfl (lv_at h q hq) (kk H locs ls hP hS h)
theorem qz_lload (X : qz_X p s m args meth c own cc nL ret G) {i : Nat} {x : Int64} (q : Nat) (hq : lv[q]? = some (i, .long x)) (d : decode cc pc = .ok (.lload i, 2))
    (kk : qz_W p l e R s m args below meth c cells slots Q G H0 nL N (pc + 2) lv (.long x :: st)) : qz_W p l e R s m args below meth c cells slots Q G H0 nL N pc lv (st) := fun H locs ls hP hS h => lv_lload X.1 X.2.1 d (lv_at h q hq) (kk H locs ls hP hS h)
theorem qz_aload_n (X : qz_X p s m args meth c own cc nL ret G) {k : Fin 4} {x : Nat} (q : Nat) (hq : lv[q]? = some ((k : Nat), .ref x)) (d : decode cc pc = .ok (.aload_n k, 1))
    (kk : qz_W p l e R s m args below meth c cells slots Q G H0 nL N (pc + 1) lv (.ref x :: st)) : qz_W p l e R s m args below meth c cells slots Q G H0 nL N pc lv (st) := fun H locs ls hP hS h => lv_aload_n X.1 X.2.1 d rfl (lv_at h q hq) (kk H locs ls hP hS h)
theorem qz_aload (X : qz_X p s m args meth c own cc nL ret G) {i : Nat} {x : Nat} (q : Nat) (hq : lv[q]? = some (i, .ref x)) (d : decode cc pc = .ok (.aload i, 2))
    (kk : qz_W p l e R s m args below meth c cells slots Q G H0 nL N (pc + 2) lv (.ref x :: st)) : qz_W p l e R s m args below meth c cells slots Q G H0 nL N pc lv (st) := fun H locs ls hP hS h => lv_aload X.1 X.2.1 d (lv_at h q hq) (kk H locs ls hP hS h)
theorem qz_aload_nN (X : qz_X p s m args meth c own cc nL ret G) {k : Fin 4} (q : Nat) (hq : lv[q]? = some ((k : Nat), .null)) (d : decode cc pc = .ok (.aload_n k, 1)) (kk : qz_W p l e R s m args below meth c cells slots Q G H0 nL N (pc + 1) lv (.null :: st)) : qz_W p l e R s m args below meth c cells slots Q G H0 nL N pc lv st := fun H locs ls hP hS h => lv_aload_nN X.1 X.2.1 d rfl (lv_at h q hq) (kk H locs ls hP hS h)
theorem qz_aloadN (X : qz_X p s m args meth c own cc nL ret G) {i : Nat} (q : Nat) (hq : lv[q]? = some (i, .null)) (d : decode cc pc = .ok (.aload i, 2)) (kk : qz_W p l e R s m args below meth c cells slots Q G H0 nL N (pc + 2) lv (.null :: st)) : qz_W p l e R s m args below meth c cells slots Q G H0 nL N pc lv st := fun H locs ls hP hS h => lv_aloadN X.1 X.2.1 d (lv_at h q hq) (kk H locs ls hP hS h)
theorem qz_istore_n (X : qz_X p s m args meth c own cc nL ret G) {k : Fin 4} {i : Nat} {x : Int32} (hi : (k : Nat) = i) (hn : i < nL) (hl : (i, Value.int x) :: lv.filter (fun q => !(q.1 == i) && !(q.1 + 1 == i && q.2.category == 2)) = lv') (d : decode cc pc = .ok (.istore_n k, 1))
    (kk : qz_W p l e R s m args below meth c cells slots Q G H0 nL N (pc + 1) lv' st) : qz_W p l e R s m args below meth c cells slots Q G H0 nL N pc lv (.int x :: st) := fun H locs ls hP hS h => lv_istore_n X.1 X.2.1 d hi h hn hl (fun ls' h' => kk H locs ls' hP hS h')
theorem qz_istore (X : qz_X p s m args meth c own cc nL ret G) {i : Nat} {x : Int32} (hn : i < nL) (hl : (i, Value.int x) :: lv.filter (fun q => !(q.1 == i) && !(q.1 + 1 == i && q.2.category == 2)) = lv') (d : decode cc pc = .ok (.istore i, 2))
    (kk : qz_W p l e R s m args below meth c cells slots Q G H0 nL N (pc + 2) lv' st) : qz_W p l e R s m args below meth c cells slots Q G H0 nL N pc lv (.int x :: st) := fun H locs ls hP hS h => lv_istore X.1 X.2.1 d h hn hl (fun ls' h' => kk H locs ls' hP hS h')
theorem qz_lstore_n (X : qz_X p s m args meth c own cc nL ret G) {k : Fin 4} {i : Nat} {x : Int64} (hi : (k : Nat) = i) (hn : i + 1 < nL) (hl : (i, Value.long x) :: lv.filter (fun q => !(q.1 == i) && (!(q.1 == i + 1) && !(q.1 + 1 == i && q.2.category == 2))) = lv') (d : decode cc pc = .ok (.lstore_n k, 1))
    (kk : qz_W p l e R s m args below meth c cells slots Q G H0 nL N (pc + 1) lv' st) : qz_W p l e R s m args below meth c cells slots Q G H0 nL N pc lv (.long x :: st) := fun H locs ls hP hS h => lv_lstore_n X.1 X.2.1 d hi h hn hl (fun ls' h' => kk H locs ls' hP hS h')
theorem qz_lstore (X : qz_X p s m args meth c own cc nL ret G) {i : Nat} {x : Int64} (hn : i + 1 < nL) (hl : (i, Value.long x) :: lv.filter (fun q => !(q.1 == i) && (!(q.1 == i + 1) && !(q.1 + 1 == i && q.2.category == 2))) = lv') (d : decode cc pc = .ok (.lstore i, 2))
    (kk : qz_W p l e R s m args below meth c cells slots Q G H0 nL N (pc + 2) lv' st) : qz_W p l e R s m args below meth c cells slots Q G H0 nL N pc lv (.long x :: st) := fun H locs ls hP hS h => lv_lstore X.1 X.2.1 d h hn hl (fun ls' h' => kk H locs ls' hP hS h')
theorem qz_astore_n (X : qz_X p s m args meth c own cc nL ret G) {k : Fin 4} {i : Nat} {x : Nat} (hi : (k : Nat) = i) (hn : i < nL) (hl : (i, Value.ref x) :: lv.filter (fun q => !(q.1 == i) && !(q.1 + 1 == i && q.2.category == 2)) = lv') (d : decode cc pc = .ok (.astore_n k, 1))
    (kk : qz_W p l e R s m args below meth c cells slots Q G H0 nL N (pc + 1) lv' st) : qz_W p l e R s m args below meth c cells slots Q G H0 nL N pc lv (.ref x :: st) := fun H locs ls hP hS h => lv_astore_n X.1 X.2.1 d hi h hn hl (fun ls' h' => kk H locs ls' hP hS h')
theorem qz_astore (X : qz_X p s m args meth c own cc nL ret G) {i : Nat} {x : Nat} (hn : i < nL) (hl : (i, Value.ref x) :: lv.filter (fun q => !(q.1 == i) && !(q.1 + 1 == i && q.2.category == 2)) = lv') (d : decode cc pc = .ok (.astore i, 2))
    (kk : qz_W p l e R s m args below meth c cells slots Q G H0 nL N (pc + 2) lv' st) : qz_W p l e R s m args below meth c cells slots Q G H0 nL N pc lv (.ref x :: st) := fun H locs ls hP hS h => lv_astore X.1 X.2.1 d h hn hl (fun ls' h' => kk H locs ls' hP hS h')
theorem qz_iinc (X : qz_X p s m args meth c own cc nL ret G) {i k : Nat} {n : Int} {x v : Int32} (hk : lv[k]? = some (i, .int x)) (hv : x + Int32.ofInt n = v) (hn : i < nL) (hl : (i, Value.int v) :: lv.filter (fun q => !(q.1 == i) && !(q.1 + 1 == i && q.2.category == 2)) = lv') (d : decode cc pc = .ok (.iinc i n, 3))
    (kk : qz_W p l e R s m args below meth c cells slots Q G H0 nL N (pc + 3) lv' st) : qz_W p l e R s m args below meth c cells slots Q G H0 nL N pc lv st := fun H locs ls hP hS h => lv_iinc X.1 X.2.1 d h hk hv hn hl (fun ls' h' => kk H locs ls' hP hS h')
theorem qz_iadd (X : qz_X p s m args meth c own cc nL ret G) {x y : Int32} (d : decode cc pc = .ok (.iadd, 1))
    (kk : qz_W p l e R s m args below meth c cells slots Q G H0 nL N (pc + 1) lv (.int (x + y) :: st)) : qz_W p l e R s m args below meth c cells slots Q G H0 nL N pc lv (.int y :: .int x :: st) := fun H locs ls hP hS h => lv_iadd X.1 X.2.1 d (kk H locs ls hP hS h)
theorem qz_isub (X : qz_X p s m args meth c own cc nL ret G) {x y : Int32} (d : decode cc pc = .ok (.isub, 1))
    (kk : qz_W p l e R s m args below meth c cells slots Q G H0 nL N (pc + 1) lv (.int (x - y) :: st)) : qz_W p l e R s m args below meth c cells slots Q G H0 nL N pc lv (.int y :: .int x :: st) := fun H locs ls hP hS h => lv_isub X.1 X.2.1 d (kk H locs ls hP hS h)
theorem qz_imul (X : qz_X p s m args meth c own cc nL ret G) {x y : Int32} (d : decode cc pc = .ok (.imul, 1))
    (kk : qz_W p l e R s m args below meth c cells slots Q G H0 nL N (pc + 1) lv (.int (x * y) :: st)) : qz_W p l e R s m args below meth c cells slots Q G H0 nL N pc lv (.int y :: .int x :: st) := fun H locs ls hP hS h => lv_imul X.1 X.2.1 d (kk H locs ls hP hS h)
theorem qz_iand (X : qz_X p s m args meth c own cc nL ret G) {x y : Int32} (d : decode cc pc = .ok (.iand, 1))
    (kk : qz_W p l e R s m args below meth c cells slots Q G H0 nL N (pc + 1) lv (.int (x &&& y) :: st)) : qz_W p l e R s m args below meth c cells slots Q G H0 nL N pc lv (.int y :: .int x :: st) := fun H locs ls hP hS h => lv_iand X.1 X.2.1 d (kk H locs ls hP hS h)
theorem qz_ior (X : qz_X p s m args meth c own cc nL ret G) {x y : Int32} (d : decode cc pc = .ok (.ior, 1))
    (kk : qz_W p l e R s m args below meth c cells slots Q G H0 nL N (pc + 1) lv (.int (x ||| y) :: st)) : qz_W p l e R s m args below meth c cells slots Q G H0 nL N pc lv (.int y :: .int x :: st) := fun H locs ls hP hS h => lv_ior X.1 X.2.1 d (kk H locs ls hP hS h)
theorem qz_ixor (X : qz_X p s m args meth c own cc nL ret G) {x y : Int32} (d : decode cc pc = .ok (.ixor, 1))
    (kk : qz_W p l e R s m args below meth c cells slots Q G H0 nL N (pc + 1) lv (.int (x ^^^ y) :: st)) : qz_W p l e R s m args below meth c cells slots Q G H0 nL N pc lv (.int y :: .int x :: st) := fun H locs ls hP hS h => lv_ixor X.1 X.2.1 d (kk H locs ls hP hS h)
theorem qz_ladd (X : qz_X p s m args meth c own cc nL ret G) {x y : Int64} (d : decode cc pc = .ok (.ladd, 1))
    (kk : qz_W p l e R s m args below meth c cells slots Q G H0 nL N (pc + 1) lv (.long (x + y) :: st)) : qz_W p l e R s m args below meth c cells slots Q G H0 nL N pc lv (.long y :: .long x :: st) := fun H locs ls hP hS h => lv_ladd X.1 X.2.1 d (kk H locs ls hP hS h)
theorem qz_lsub (X : qz_X p s m args meth c own cc nL ret G) {x y : Int64} (d : decode cc pc = .ok (.lsub, 1))
    (kk : qz_W p l e R s m args below meth c cells slots Q G H0 nL N (pc + 1) lv (.long (x - y) :: st)) : qz_W p l e R s m args below meth c cells slots Q G H0 nL N pc lv (.long y :: .long x :: st) := fun H locs ls hP hS h => lv_lsub X.1 X.2.1 d (kk H locs ls hP hS h)
theorem qz_lmul (X : qz_X p s m args meth c own cc nL ret G) {x y : Int64} (d : decode cc pc = .ok (.lmul, 1))
    (kk : qz_W p l e R s m args below meth c cells slots Q G H0 nL N (pc + 1) lv (.long (x * y) :: st)) : qz_W p l e R s m args below meth c cells slots Q G H0 nL N pc lv (.long y :: .long x :: st) := fun H locs ls hP hS h => lv_lmul X.1 X.2.1 d (kk H locs ls hP hS h)
theorem qz_land (X : qz_X p s m args meth c own cc nL ret G) {x y : Int64} (d : decode cc pc = .ok (.land, 1))
    (kk : qz_W p l e R s m args below meth c cells slots Q G H0 nL N (pc + 1) lv (.long (x &&& y) :: st)) : qz_W p l e R s m args below meth c cells slots Q G H0 nL N pc lv (.long y :: .long x :: st) := fun H locs ls hP hS h => lv_land X.1 X.2.1 d (kk H locs ls hP hS h)
theorem qz_lor (X : qz_X p s m args meth c own cc nL ret G) {x y : Int64} (d : decode cc pc = .ok (.lor, 1))
    (kk : qz_W p l e R s m args below meth c cells slots Q G H0 nL N (pc + 1) lv (.long (x ||| y) :: st)) : qz_W p l e R s m args below meth c cells slots Q G H0 nL N pc lv (.long y :: .long x :: st) := fun H locs ls hP hS h => lv_lor X.1 X.2.1 d (kk H locs ls hP hS h)
theorem qz_lxor (X : qz_X p s m args meth c own cc nL ret G) {x y : Int64} (d : decode cc pc = .ok (.lxor, 1))
    (kk : qz_W p l e R s m args below meth c cells slots Q G H0 nL N (pc + 1) lv (.long (x ^^^ y) :: st)) : qz_W p l e R s m args below meth c cells slots Q G H0 nL N pc lv (.long y :: .long x :: st) := fun H locs ls hP hS h => lv_lxor X.1 X.2.1 d (kk H locs ls hP hS h)
theorem qz_ineg (X : qz_X p s m args meth c own cc nL ret G) {x : Int32} (d : decode cc pc = .ok (.ineg, 1))
    (kk : qz_W p l e R s m args below meth c cells slots Q G H0 nL N (pc + 1) lv (.int (-x) :: st)) : qz_W p l e R s m args below meth c cells slots Q G H0 nL N pc lv (.int x :: st) := fun H locs ls hP hS h => lv_ineg X.1 X.2.1 d (kk H locs ls hP hS h)
theorem qz_lneg (X : qz_X p s m args meth c own cc nL ret G) {x : Int64} (d : decode cc pc = .ok (.lneg, 1))
    (kk : qz_W p l e R s m args below meth c cells slots Q G H0 nL N (pc + 1) lv (.long (-x) :: st)) : qz_W p l e R s m args below meth c cells slots Q G H0 nL N pc lv (.long x :: st) := fun H locs ls hP hS h => lv_lneg X.1 X.2.1 d (kk H locs ls hP hS h)
theorem qz_idiv (X : qz_X p s m args meth c own cc nL ret G) {x y : Int32} (hne : ¬ y = 0) (d : decode cc pc = .ok (.idiv, 1))
    (kk : qz_W p l e R s m args below meth c cells slots Q G H0 nL N (pc + 1) lv (.int (x / y) :: st)) : qz_W p l e R s m args below meth c cells slots Q G H0 nL N pc lv (.int y :: .int x :: st) := fun H locs ls hP hS h => lv_idiv X.1 X.2.1 d hne (kk H locs ls hP hS h)
theorem qz_irem (X : qz_X p s m args meth c own cc nL ret G) {x y : Int32} (hne : ¬ y = 0) (d : decode cc pc = .ok (.irem, 1))
    (kk : qz_W p l e R s m args below meth c cells slots Q G H0 nL N (pc + 1) lv (.int (x - x / y * y) :: st)) : qz_W p l e R s m args below meth c cells slots Q G H0 nL N pc lv (.int y :: .int x :: st) := fun H locs ls hP hS h => lv_irem X.1 X.2.1 d hne (kk H locs ls hP hS h)
theorem qz_ldiv (X : qz_X p s m args meth c own cc nL ret G) {x y : Int64} (hne : ¬ y = 0) (d : decode cc pc = .ok (.ldiv, 1))
    (kk : qz_W p l e R s m args below meth c cells slots Q G H0 nL N (pc + 1) lv (.long (x / y) :: st)) : qz_W p l e R s m args below meth c cells slots Q G H0 nL N pc lv (.long y :: .long x :: st) := fun H locs ls hP hS h => lv_ldiv X.1 X.2.1 d hne (kk H locs ls hP hS h)
theorem qz_lrem (X : qz_X p s m args meth c own cc nL ret G) {x y : Int64} (hne : ¬ y = 0) (d : decode cc pc = .ok (.lrem, 1))
    (kk : qz_W p l e R s m args below meth c cells slots Q G H0 nL N (pc + 1) lv (.long (x - x / y * y) :: st)) : qz_W p l e R s m args below meth c cells slots Q G H0 nL N pc lv (.long y :: .long x :: st) := fun H locs ls hP hS h => lv_lrem X.1 X.2.1 d hne (kk H locs ls hP hS h)
theorem qz_ishl (X : qz_X p s m args meth c own cc nL ret G) {x y : Int32} (d : decode cc pc = .ok (.ishl, 1))
    (kk : qz_W p l e R s m args below meth c cells slots Q G H0 nL N (pc + 1) lv (.int (x <<< (y &&& 31)) :: st)) : qz_W p l e R s m args below meth c cells slots Q G H0 nL N pc lv (.int y :: .int x :: st) := fun H locs ls hP hS h => lv_ishl X.1 X.2.1 d (kk H locs ls hP hS h)
theorem qz_ishr (X : qz_X p s m args meth c own cc nL ret G) {x y : Int32} (d : decode cc pc = .ok (.ishr, 1))
    (kk : qz_W p l e R s m args below meth c cells slots Q G H0 nL N (pc + 1) lv (.int (x >>> (y &&& 31)) :: st)) : qz_W p l e R s m args below meth c cells slots Q G H0 nL N pc lv (.int y :: .int x :: st) := fun H locs ls hP hS h => lv_ishr X.1 X.2.1 d (kk H locs ls hP hS h)
theorem qz_lshl (X : qz_X p s m args meth c own cc nL ret G) {x : Int64} {y : Int32} (d : decode cc pc = .ok (.lshl, 1))
    (kk : qz_W p l e R s m args below meth c cells slots Q G H0 nL N (pc + 1) lv (.long (x <<< (y.toInt64 &&& 63)) :: st)) : qz_W p l e R s m args below meth c cells slots Q G H0 nL N pc lv (.int y :: .long x :: st) := fun H locs ls hP hS h => lv_lshl X.1 X.2.1 d rfl (kk H locs ls hP hS h)
theorem qz_lshr (X : qz_X p s m args meth c own cc nL ret G) {x : Int64} {y : Int32} (d : decode cc pc = .ok (.lshr, 1))
    (kk : qz_W p l e R s m args below meth c cells slots Q G H0 nL N (pc + 1) lv (.long (x >>> (y.toInt64 &&& 63)) :: st)) : qz_W p l e R s m args below meth c cells slots Q G H0 nL N pc lv (.int y :: .long x :: st) := fun H locs ls hP hS h => lv_lshr X.1 X.2.1 d rfl (kk H locs ls hP hS h)
theorem qz_lushr (X : qz_X p s m args meth c own cc nL ret G) {x : Int64} {y : Int32} (d : decode cc pc = .ok (.lushr, 1))
    (kk : qz_W p l e R s m args below meth c cells slots Q G H0 nL N (pc + 1) lv (.long ((x.toUInt64 >>> (y.toInt64.toUInt64 &&& Int64.toUInt64 63)).toInt64) :: st)) : qz_W p l e R s m args below meth c cells slots Q G H0 nL N pc lv (.int y :: .long x :: st) := fun H locs ls hP hS h => lv_lushr X.1 X.2.1 d rfl (kk H locs ls hP hS h)
theorem qz_i2l (X : qz_X p s m args meth c own cc nL ret G) {x : Int32} (d : decode cc pc = .ok (.i2l, 1))
    (kk : qz_W p l e R s m args below meth c cells slots Q G H0 nL N (pc + 1) lv (.long x.toInt64 :: st)) : qz_W p l e R s m args below meth c cells slots Q G H0 nL N pc lv (.int x :: st) := fun H locs ls hP hS h => lv_i2l X.1 X.2.1 d rfl (kk H locs ls hP hS h)
theorem qz_l2i (X : qz_X p s m args meth c own cc nL ret G) {x : Int64} (d : decode cc pc = .ok (.l2i, 1))
    (kk : qz_W p l e R s m args below meth c cells slots Q G H0 nL N (pc + 1) lv (.int x.toInt32 :: st)) : qz_W p l e R s m args below meth c cells slots Q G H0 nL N pc lv (.long x :: st) := fun H locs ls hP hS h => lv_l2i X.1 X.2.1 d rfl (kk H locs ls hP hS h)
theorem qz_lcmp (X : qz_X p s m args meth c own cc nL ret G) {x y : Int64} (d : decode cc pc = .ok (.lcmp, 1))
    (kk : qz_W p l e R s m args below meth c cells slots Q G H0 nL N (pc + 1) lv (.int (lg_cmp x y) :: st)) : qz_W p l e R s m args below meth c cells slots Q G H0 nL N pc lv (.long y :: .long x :: st) := fun H locs ls hP hS h => W.lcmp X.1 X.2.1 d (kk H locs ls hP hS h)
theorem qz_dup (X : qz_X p s m args meth c own cc nL ret G) {a : Value} (ha : a.category = 1) (d : decode cc pc = .ok (.dup, 1))
    (kk : qz_W p l e R s m args below meth c cells slots Q G H0 nL N (pc + 1) lv (a :: a :: st)) : qz_W p l e R s m args below meth c cells slots Q G H0 nL N pc lv (a :: st) := fun H locs ls hP hS h => lv_dup X.1 X.2.1 d ha (kk H locs ls hP hS h)
theorem qz_pop (X : qz_X p s m args meth c own cc nL ret G) {a : Value} (ha : a.category = 1) (d : decode cc pc = .ok (.pop, 1))
    (kk : qz_W p l e R s m args below meth c cells slots Q G H0 nL N (pc + 1) lv (st)) : qz_W p l e R s m args below meth c cells slots Q G H0 nL N pc lv (a :: st) := fun H locs ls hP hS h => lv_pop X.1 X.2.1 d ha (kk H locs ls hP hS h)
theorem qz_pop2 (X : qz_X p s m args meth c own cc nL ret G) {a : Value} (ha : a.category = 2) (d : decode cc pc = .ok (.pop2, 1))
    (kk : qz_W p l e R s m args below meth c cells slots Q G H0 nL N (pc + 1) lv (st)) : qz_W p l e R s m args below meth c cells slots Q G H0 nL N pc lv (a :: st) := fun H locs ls hP hS h => lv_pop2_2 X.1 X.2.1 d ha (kk H locs ls hP hS h)
theorem qz_dup_x1 (X : qz_X p s m args meth c own cc nL ret G) {a b : Value} (ha : a.category = 1) (hb : b.category = 1) (d : decode cc pc = .ok (.dup_x1, 1))
    (kk : qz_W p l e R s m args below meth c cells slots Q G H0 nL N (pc + 1) lv (a :: b :: a :: st)) : qz_W p l e R s m args below meth c cells slots Q G H0 nL N pc lv (a :: b :: st) := fun H locs ls hP hS h => lv_dup_x1 X.1 X.2.1 d ha hb (kk H locs ls hP hS h)
theorem qz_dup_x2 (X : qz_X p s m args meth c own cc nL ret G) {a b f : Value} (ha : a.category = 1) (hb : b.category = 1) (hf : f.category = 1) (d : decode cc pc = .ok (.dup_x2, 1))
    (kk : qz_W p l e R s m args below meth c cells slots Q G H0 nL N (pc + 1) lv (a :: b :: f :: a :: st)) : qz_W p l e R s m args below meth c cells slots Q G H0 nL N pc lv (a :: b :: f :: st) := fun H locs ls hP hS h => lv_dup_x2 X.1 X.2.1 d ha hb hf (kk H locs ls hP hS h)
theorem qz_dup2_11 (X : qz_X p s m args meth c own cc nL ret G) {a b : Value} (ha : a.category = 1) (hb : b.category = 1) (d : decode cc pc = .ok (.dup2, 1))
    (kk : qz_W p l e R s m args below meth c cells slots Q G H0 nL N (pc + 1) lv (a :: b :: a :: b :: st)) : qz_W p l e R s m args below meth c cells slots Q G H0 nL N pc lv (a :: b :: st) := fun H locs ls hP hS h => lv_dup2_11 X.1 X.2.1 d ha hb (kk H locs ls hP hS h)
theorem qz_dup2_2 (X : qz_X p s m args meth c own cc nL ret G) {a : Value} (ha : a.category = 2) (d : decode cc pc = .ok (.dup2, 1))
    (kk : qz_W p l e R s m args below meth c cells slots Q G H0 nL N (pc + 1) lv (a :: a :: st)) : qz_W p l e R s m args below meth c cells slots Q G H0 nL N pc lv (a :: st) := fun H locs ls hP hS h => lv_dup2_2 X.1 X.2.1 d ha (kk H locs ls hP hS h)
theorem qz_dup2_x1 (X : qz_X p s m args meth c own cc nL ret G) {a b : Value} (ha : a.category = 2) (hb : b.category = 1) (d : decode cc pc = .ok (.dup2_x1, 1))
    (kk : qz_W p l e R s m args below meth c cells slots Q G H0 nL N (pc + 1) lv (a :: b :: a :: st)) : qz_W p l e R s m args below meth c cells slots Q G H0 nL N pc lv (a :: b :: st) := fun H locs ls hP hS h => lv_dup2_x1_2 X.1 X.2.1 d ha hb (kk H locs ls hP hS h)
theorem qz_dup2_x2 (X : qz_X p s m args meth c own cc nL ret G) {a b f : Value} (ha : a.category = 2) (hb : b.category = 1) (hf : f.category = 1) (d : decode cc pc = .ok (.dup2_x2, 1))
    (kk : qz_W p l e R s m args below meth c cells slots Q G H0 nL N (pc + 1) lv (a :: b :: f :: a :: st)) : qz_W p l e R s m args below meth c cells slots Q G H0 nL N pc lv (a :: b :: f :: st) := fun H locs ls hP hS h => lv_dup2_x2_2 X.1 X.2.1 d ha hb hf (kk H locs ls hP hS h)
theorem qz_if_eq (X : qz_X p s m args meth c own cc nL ret G) {x : Int32} {off : Int} {tgt : Nat} (ht : (pc : Int) + off = (tgt : Int)) (d : decode cc pc = .ok (.ifCond .eq off, 3)) {α : Type} {r : α} {fa fb : Option α} {dc : Decidable (x = 0)} (h : @ite (Option α) (x = 0) dc fa fb = some r)
    (kt : x = 0 → fa = some r → qz_W p l e R s m args below meth c cells slots Q G H0 nL N tgt lv st) (kf : ¬ (x = 0) → fb = some r → qz_W p l e R s m args below meth c cells slots Q G H0 nL N (pc + 3) lv st) : qz_W p l e R s m args below meth c cells slots Q G H0 nL N pc lv (.int x :: st) := fun H locs ls hP hS hl => lv_if_eq X.1 X.2.1 d ht (fun hc => kt hc (by rw [if_pos hc] at h; exact h) H locs ls hP hS hl) (fun hc => kf hc (by rw [if_neg hc] at h; exact h) H locs ls hP hS hl)
theorem qz_if_lt (X : qz_X p s m args meth c own cc nL ret G) {x : Int32} {off : Int} {tgt : Nat} (ht : (pc : Int) + off = (tgt : Int)) (d : decode cc pc = .ok (.ifCond .lt off, 3)) {α : Type} {r : α} {fa fb : Option α} {dc : Decidable (x < 0)} (h : @ite (Option α) (x < 0) dc fa fb = some r)
    (kt : x < 0 → fa = some r → qz_W p l e R s m args below meth c cells slots Q G H0 nL N tgt lv st) (kf : ¬ (x < 0) → fb = some r → qz_W p l e R s m args below meth c cells slots Q G H0 nL N (pc + 3) lv st) : qz_W p l e R s m args below meth c cells slots Q G H0 nL N pc lv (.int x :: st) := fun H locs ls hP hS hl => lv_if_lt X.1 X.2.1 d ht (fun hc => kt hc (by rw [if_pos hc] at h; exact h) H locs ls hP hS hl) (fun hc => kf hc (by rw [if_neg hc] at h; exact h) H locs ls hP hS hl)
theorem qz_if_ge (X : qz_X p s m args meth c own cc nL ret G) {x : Int32} {off : Int} {tgt : Nat} (ht : (pc : Int) + off = (tgt : Int)) (d : decode cc pc = .ok (.ifCond .ge off, 3)) {α : Type} {r : α} {fa fb : Option α} {dc : Decidable (0 ≤ x)} (h : @ite (Option α) (0 ≤ x) dc fa fb = some r)
    (kt : 0 ≤ x → fa = some r → qz_W p l e R s m args below meth c cells slots Q G H0 nL N tgt lv st) (kf : ¬ (0 ≤ x) → fb = some r → qz_W p l e R s m args below meth c cells slots Q G H0 nL N (pc + 3) lv st) : qz_W p l e R s m args below meth c cells slots Q G H0 nL N pc lv (.int x :: st) := fun H locs ls hP hS hl => lv_if_ge X.1 X.2.1 d ht (fun hc => kt hc (by rw [if_pos hc] at h; exact h) H locs ls hP hS hl) (fun hc => kf hc (by rw [if_neg hc] at h; exact h) H locs ls hP hS hl)
theorem qz_if_gt (X : qz_X p s m args meth c own cc nL ret G) {x : Int32} {off : Int} {tgt : Nat} (ht : (pc : Int) + off = (tgt : Int)) (d : decode cc pc = .ok (.ifCond .gt off, 3)) {α : Type} {r : α} {fa fb : Option α} {dc : Decidable (0 < x)} (h : @ite (Option α) (0 < x) dc fa fb = some r)
    (kt : 0 < x → fa = some r → qz_W p l e R s m args below meth c cells slots Q G H0 nL N tgt lv st) (kf : ¬ (0 < x) → fb = some r → qz_W p l e R s m args below meth c cells slots Q G H0 nL N (pc + 3) lv st) : qz_W p l e R s m args below meth c cells slots Q G H0 nL N pc lv (.int x :: st) := fun H locs ls hP hS hl => lv_if_gt X.1 X.2.1 d ht (fun hc => kt hc (by rw [if_pos hc] at h; exact h) H locs ls hP hS hl) (fun hc => kf hc (by rw [if_neg hc] at h; exact h) H locs ls hP hS hl)
theorem qz_if_le (X : qz_X p s m args meth c own cc nL ret G) {x : Int32} {off : Int} {tgt : Nat} (ht : (pc : Int) + off = (tgt : Int)) (d : decode cc pc = .ok (.ifCond .le off, 3)) {α : Type} {r : α} {fa fb : Option α} {dc : Decidable (x ≤ 0)} (h : @ite (Option α) (x ≤ 0) dc fa fb = some r)
    (kt : x ≤ 0 → fa = some r → qz_W p l e R s m args below meth c cells slots Q G H0 nL N tgt lv st) (kf : ¬ (x ≤ 0) → fb = some r → qz_W p l e R s m args below meth c cells slots Q G H0 nL N (pc + 3) lv st) : qz_W p l e R s m args below meth c cells slots Q G H0 nL N pc lv (.int x :: st) := fun H locs ls hP hS hl => lv_if_le X.1 X.2.1 d ht (fun hc => kt hc (by rw [if_pos hc] at h; exact h) H locs ls hP hS hl) (fun hc => kf hc (by rw [if_neg hc] at h; exact h) H locs ls hP hS hl)
theorem qz_if_ne (X : qz_X p s m args meth c own cc nL ret G) {x : Int32} {off : Int} {tgt : Nat} (ht : (pc : Int) + off = (tgt : Int)) (d : decode cc pc = .ok (.ifCond .ne off, 3)) {α : Type} {r : α} {fa fb : Option α} {dc : Decidable (x = 0)} (h : @ite (Option α) (x = 0) dc fa fb = some r)
    (kt : ¬ (x = 0) → fb = some r → qz_W p l e R s m args below meth c cells slots Q G H0 nL N tgt lv st) (kf : x = 0 → fa = some r → qz_W p l e R s m args below meth c cells slots Q G H0 nL N (pc + 3) lv st) : qz_W p l e R s m args below meth c cells slots Q G H0 nL N pc lv (.int x :: st) := fun H locs ls hP hS hl => lv_if_ne X.1 X.2.1 d ht (fun hc => kt hc (by rw [if_neg hc] at h; exact h) H locs ls hP hS hl) (fun hc => kf hc (by rw [if_pos hc] at h; exact h) H locs ls hP hS hl)
theorem qz_icmp_eq (X : qz_X p s m args meth c own cc nL ret G) {x y : Int32} {off : Int} {tgt : Nat} (ht : (pc : Int) + off = (tgt : Int)) (d : decode cc pc = .ok (.if_icmp .eq off, 3)) {α : Type} {r : α} {fa fb : Option α} {dc : Decidable (x = y)} (h : @ite (Option α) (x = y) dc fa fb = some r)
    (kt : x = y → fa = some r → qz_W p l e R s m args below meth c cells slots Q G H0 nL N tgt lv st) (kf : ¬ (x = y) → fb = some r → qz_W p l e R s m args below meth c cells slots Q G H0 nL N (pc + 3) lv st) : qz_W p l e R s m args below meth c cells slots Q G H0 nL N pc lv (.int y :: .int x :: st) := fun H locs ls hP hS hl => lv_icmp_eq X.1 X.2.1 d ht (fun hc => kt hc (by rw [if_pos hc] at h; exact h) H locs ls hP hS hl) (fun hc => kf hc (by rw [if_neg hc] at h; exact h) H locs ls hP hS hl)
theorem qz_icmp_lt (X : qz_X p s m args meth c own cc nL ret G) {x y : Int32} {off : Int} {tgt : Nat} (ht : (pc : Int) + off = (tgt : Int)) (d : decode cc pc = .ok (.if_icmp .lt off, 3)) {α : Type} {r : α} {fa fb : Option α} {dc : Decidable (x < y)} (h : @ite (Option α) (x < y) dc fa fb = some r)
    (kt : x < y → fa = some r → qz_W p l e R s m args below meth c cells slots Q G H0 nL N tgt lv st) (kf : ¬ (x < y) → fb = some r → qz_W p l e R s m args below meth c cells slots Q G H0 nL N (pc + 3) lv st) : qz_W p l e R s m args below meth c cells slots Q G H0 nL N pc lv (.int y :: .int x :: st) := fun H locs ls hP hS hl => lv_icmp_lt X.1 X.2.1 d ht (fun hc => kt hc (by rw [if_pos hc] at h; exact h) H locs ls hP hS hl) (fun hc => kf hc (by rw [if_neg hc] at h; exact h) H locs ls hP hS hl)
theorem qz_icmp_ge (X : qz_X p s m args meth c own cc nL ret G) {x y : Int32} {off : Int} {tgt : Nat} (ht : (pc : Int) + off = (tgt : Int)) (d : decode cc pc = .ok (.if_icmp .ge off, 3)) {α : Type} {r : α} {fa fb : Option α} {dc : Decidable (y ≤ x)} (h : @ite (Option α) (y ≤ x) dc fa fb = some r)
    (kt : y ≤ x → fa = some r → qz_W p l e R s m args below meth c cells slots Q G H0 nL N tgt lv st) (kf : ¬ (y ≤ x) → fb = some r → qz_W p l e R s m args below meth c cells slots Q G H0 nL N (pc + 3) lv st) : qz_W p l e R s m args below meth c cells slots Q G H0 nL N pc lv (.int y :: .int x :: st) := fun H locs ls hP hS hl => lv_icmp_ge X.1 X.2.1 d ht (fun hc => kt hc (by rw [if_pos hc] at h; exact h) H locs ls hP hS hl) (fun hc => kf hc (by rw [if_neg hc] at h; exact h) H locs ls hP hS hl)
theorem qz_icmp_gt (X : qz_X p s m args meth c own cc nL ret G) {x y : Int32} {off : Int} {tgt : Nat} (ht : (pc : Int) + off = (tgt : Int)) (d : decode cc pc = .ok (.if_icmp .gt off, 3)) {α : Type} {r : α} {fa fb : Option α} {dc : Decidable (y < x)} (h : @ite (Option α) (y < x) dc fa fb = some r)
    (kt : y < x → fa = some r → qz_W p l e R s m args below meth c cells slots Q G H0 nL N tgt lv st) (kf : ¬ (y < x) → fb = some r → qz_W p l e R s m args below meth c cells slots Q G H0 nL N (pc + 3) lv st) : qz_W p l e R s m args below meth c cells slots Q G H0 nL N pc lv (.int y :: .int x :: st) := fun H locs ls hP hS hl => lv_icmp_gt X.1 X.2.1 d ht (fun hc => kt hc (by rw [if_pos hc] at h; exact h) H locs ls hP hS hl) (fun hc => kf hc (by rw [if_neg hc] at h; exact h) H locs ls hP hS hl)
theorem qz_icmp_le (X : qz_X p s m args meth c own cc nL ret G) {x y : Int32} {off : Int} {tgt : Nat} (ht : (pc : Int) + off = (tgt : Int)) (d : decode cc pc = .ok (.if_icmp .le off, 3)) {α : Type} {r : α} {fa fb : Option α} {dc : Decidable (x ≤ y)} (h : @ite (Option α) (x ≤ y) dc fa fb = some r)
    (kt : x ≤ y → fa = some r → qz_W p l e R s m args below meth c cells slots Q G H0 nL N tgt lv st) (kf : ¬ (x ≤ y) → fb = some r → qz_W p l e R s m args below meth c cells slots Q G H0 nL N (pc + 3) lv st) : qz_W p l e R s m args below meth c cells slots Q G H0 nL N pc lv (.int y :: .int x :: st) := fun H locs ls hP hS hl => lv_icmp_le X.1 X.2.1 d ht (fun hc => kt hc (by rw [if_pos hc] at h; exact h) H locs ls hP hS hl) (fun hc => kf hc (by rw [if_neg hc] at h; exact h) H locs ls hP hS hl)
theorem qz_icmp_ne (X : qz_X p s m args meth c own cc nL ret G) {x y : Int32} {off : Int} {tgt : Nat} (ht : (pc : Int) + off = (tgt : Int)) (d : decode cc pc = .ok (.if_icmp .ne off, 3)) {α : Type} {r : α} {fa fb : Option α} {dc : Decidable (x = y)} (h : @ite (Option α) (x = y) dc fa fb = some r)
    (kt : ¬ (x = y) → fb = some r → qz_W p l e R s m args below meth c cells slots Q G H0 nL N tgt lv st) (kf : x = y → fa = some r → qz_W p l e R s m args below meth c cells slots Q G H0 nL N (pc + 3) lv st) : qz_W p l e R s m args below meth c cells slots Q G H0 nL N pc lv (.int y :: .int x :: st) := fun H locs ls hP hS hl => lv_icmp_ne X.1 X.2.1 d ht (fun hc => kt hc (by rw [if_neg hc] at h; exact h) H locs ls hP hS hl) (fun hc => kf hc (by rw [if_pos hc] at h; exact h) H locs ls hP hS hl)
theorem qz_lcmp_eq (X : qz_X p s m args meth c own cc nL ret G) {x y : Int64} {off : Int} {tgt : Nat} (ht : ((pc + 1 : Nat) : Int) + off = (tgt : Int)) (d1 : decode cc pc = .ok (.lcmp, 1)) (d : decode cc (pc + 1) = .ok (.ifCond .eq off, 3)) {α : Type} {r : α} {fa fb : Option α} {dc : Decidable (x = y)} (h : @ite (Option α) (x = y) dc fa fb = some r)
    (kt : x = y → fa = some r → qz_W p l e R s m args below meth c cells slots Q G H0 nL N tgt lv st) (kf : ¬ (x = y) → fb = some r → qz_W p l e R s m args below meth c cells slots Q G H0 nL N (pc + 1 + 3) lv st) : qz_W p l e R s m args below meth c cells slots Q G H0 nL N pc lv (.long y :: .long x :: st) := fun H locs ls hP hS hl => W.lcmp X.1 X.2.1 d1 (lv_if_eq X.1 X.2.1 d ht (fun hc => kt ((lg_cmp_eq x y).mp hc) (by rw [if_pos ((lg_cmp_eq x y).mp hc)] at h; exact h) H locs ls hP hS hl) (fun hc => kf (fun z => hc ((lg_cmp_eq x y).mpr z)) (by rw [if_neg (fun z => hc ((lg_cmp_eq x y).mpr z))] at h; exact h) H locs ls hP hS hl))
theorem qz_lcmp_lt (X : qz_X p s m args meth c own cc nL ret G) {x y : Int64} {off : Int} {tgt : Nat} (ht : ((pc + 1 : Nat) : Int) + off = (tgt : Int)) (d1 : decode cc pc = .ok (.lcmp, 1)) (d : decode cc (pc + 1) = .ok (.ifCond .lt off, 3)) {α : Type} {r : α} {fa fb : Option α} {dc : Decidable (x < y)} (h : @ite (Option α) (x < y) dc fa fb = some r)
    (kt : x < y → fa = some r → qz_W p l e R s m args below meth c cells slots Q G H0 nL N tgt lv st) (kf : ¬ (x < y) → fb = some r → qz_W p l e R s m args below meth c cells slots Q G H0 nL N (pc + 1 + 3) lv st) : qz_W p l e R s m args below meth c cells slots Q G H0 nL N pc lv (.long y :: .long x :: st) := fun H locs ls hP hS hl => W.lcmp X.1 X.2.1 d1 (lv_if_lt X.1 X.2.1 d ht (fun hc => kt ((lg_cmp_lt x y).mp hc) (by rw [if_pos ((lg_cmp_lt x y).mp hc)] at h; exact h) H locs ls hP hS hl) (fun hc => kf (fun z => hc ((lg_cmp_lt x y).mpr z)) (by rw [if_neg (fun z => hc ((lg_cmp_lt x y).mpr z))] at h; exact h) H locs ls hP hS hl))
theorem qz_lcmp_ge (X : qz_X p s m args meth c own cc nL ret G) {x y : Int64} {off : Int} {tgt : Nat} (ht : ((pc + 1 : Nat) : Int) + off = (tgt : Int)) (d1 : decode cc pc = .ok (.lcmp, 1)) (d : decode cc (pc + 1) = .ok (.ifCond .ge off, 3)) {α : Type} {r : α} {fa fb : Option α} {dc : Decidable (y ≤ x)} (h : @ite (Option α) (y ≤ x) dc fa fb = some r)
    (kt : y ≤ x → fa = some r → qz_W p l e R s m args below meth c cells slots Q G H0 nL N tgt lv st) (kf : ¬ (y ≤ x) → fb = some r → qz_W p l e R s m args below meth c cells slots Q G H0 nL N (pc + 1 + 3) lv st) : qz_W p l e R s m args below meth c cells slots Q G H0 nL N pc lv (.long y :: .long x :: st) := fun H locs ls hP hS hl => W.lcmp X.1 X.2.1 d1 (lv_if_ge X.1 X.2.1 d ht (fun hc => kt ((lg_cmp_ge x y).mp hc) (by rw [if_pos ((lg_cmp_ge x y).mp hc)] at h; exact h) H locs ls hP hS hl) (fun hc => kf (fun z => hc ((lg_cmp_ge x y).mpr z)) (by rw [if_neg (fun z => hc ((lg_cmp_ge x y).mpr z))] at h; exact h) H locs ls hP hS hl))
theorem qz_lcmp_gt (X : qz_X p s m args meth c own cc nL ret G) {x y : Int64} {off : Int} {tgt : Nat} (ht : ((pc + 1 : Nat) : Int) + off = (tgt : Int)) (d1 : decode cc pc = .ok (.lcmp, 1)) (d : decode cc (pc + 1) = .ok (.ifCond .gt off, 3)) {α : Type} {r : α} {fa fb : Option α} {dc : Decidable (y < x)} (h : @ite (Option α) (y < x) dc fa fb = some r)
    (kt : y < x → fa = some r → qz_W p l e R s m args below meth c cells slots Q G H0 nL N tgt lv st) (kf : ¬ (y < x) → fb = some r → qz_W p l e R s m args below meth c cells slots Q G H0 nL N (pc + 1 + 3) lv st) : qz_W p l e R s m args below meth c cells slots Q G H0 nL N pc lv (.long y :: .long x :: st) := fun H locs ls hP hS hl => W.lcmp X.1 X.2.1 d1 (lv_if_gt X.1 X.2.1 d ht (fun hc => kt ((lg_cmp_gt x y).mp hc) (by rw [if_pos ((lg_cmp_gt x y).mp hc)] at h; exact h) H locs ls hP hS hl) (fun hc => kf (fun z => hc ((lg_cmp_gt x y).mpr z)) (by rw [if_neg (fun z => hc ((lg_cmp_gt x y).mpr z))] at h; exact h) H locs ls hP hS hl))
theorem qz_lcmp_le (X : qz_X p s m args meth c own cc nL ret G) {x y : Int64} {off : Int} {tgt : Nat} (ht : ((pc + 1 : Nat) : Int) + off = (tgt : Int)) (d1 : decode cc pc = .ok (.lcmp, 1)) (d : decode cc (pc + 1) = .ok (.ifCond .le off, 3)) {α : Type} {r : α} {fa fb : Option α} {dc : Decidable (x ≤ y)} (h : @ite (Option α) (x ≤ y) dc fa fb = some r)
    (kt : x ≤ y → fa = some r → qz_W p l e R s m args below meth c cells slots Q G H0 nL N tgt lv st) (kf : ¬ (x ≤ y) → fb = some r → qz_W p l e R s m args below meth c cells slots Q G H0 nL N (pc + 1 + 3) lv st) : qz_W p l e R s m args below meth c cells slots Q G H0 nL N pc lv (.long y :: .long x :: st) := fun H locs ls hP hS hl => W.lcmp X.1 X.2.1 d1 (lv_if_le X.1 X.2.1 d ht (fun hc => kt ((lg_cmp_le x y).mp hc) (by rw [if_pos ((lg_cmp_le x y).mp hc)] at h; exact h) H locs ls hP hS hl) (fun hc => kf (fun z => hc ((lg_cmp_le x y).mpr z)) (by rw [if_neg (fun z => hc ((lg_cmp_le x y).mpr z))] at h; exact h) H locs ls hP hS hl))
theorem qz_lcmp_ne (X : qz_X p s m args meth c own cc nL ret G) {x y : Int64} {off : Int} {tgt : Nat} (ht : ((pc + 1 : Nat) : Int) + off = (tgt : Int)) (d1 : decode cc pc = .ok (.lcmp, 1)) (d : decode cc (pc + 1) = .ok (.ifCond .ne off, 3)) {α : Type} {r : α} {fa fb : Option α} {dc : Decidable (x = y)} (h : @ite (Option α) (x = y) dc fa fb = some r)
    (kt : ¬ (x = y) → fb = some r → qz_W p l e R s m args below meth c cells slots Q G H0 nL N tgt lv st) (kf : x = y → fa = some r → qz_W p l e R s m args below meth c cells slots Q G H0 nL N (pc + 1 + 3) lv st) : qz_W p l e R s m args below meth c cells slots Q G H0 nL N pc lv (.long y :: .long x :: st) := fun H locs ls hP hS hl => W.lcmp X.1 X.2.1 d1 (lv_if_ne X.1 X.2.1 d ht (fun hc => kt (fun z => hc ((lg_cmp_eq x y).mpr z)) (by rw [if_neg (fun z => hc ((lg_cmp_eq x y).mpr z))] at h; exact h) H locs ls hP hS hl) (fun hc => kf ((lg_cmp_eq x y).mp hc) (by rw [if_pos ((lg_cmp_eq x y).mp hc)] at h; exact h) H locs ls hP hS hl))
theorem qz_goto (X : qz_X p s m args meth c own cc nL ret G) {off : Int} {tgt : Nat} (ht : (pc : Int) + off = (tgt : Int)) (d : decode cc pc = .ok (.goto off, 3)) (kk : qz_W p l e R s m args below meth c cells slots Q G H0 nL N tgt lv st) : qz_W p l e R s m args below meth c cells slots Q G H0 nL N pc lv st := fun H locs ls hP hS hl => lv_goto X.1 X.2.1 d ht (kk H locs ls hP hS hl)
theorem qz_ifnull (X : qz_X p s m args meth c own cc nL ret G) {x : Nat} {off : Int} (d : decode cc pc = .ok (.ifnull off, 3)) (kk : qz_W p l e R s m args below meth c cells slots Q G H0 nL N (pc + 3) lv st) : qz_W p l e R s m args below meth c cells slots Q G H0 nL N pc lv (.ref x :: st) := fun H locs ls hP hS hl => lv_ifnull X.1 X.2.1 d (kk H locs ls hP hS hl)
theorem qz_ifnullN (X : qz_X p s m args meth c own cc nL ret G) {off : Int} {tgt : Nat} (ht : (pc : Int) + off = (tgt : Int)) (d : decode cc pc = .ok (.ifnull off, 3)) (kk : qz_W p l e R s m args below meth c cells slots Q G H0 nL N tgt lv st) : qz_W p l e R s m args below meth c cells slots Q G H0 nL N pc lv (.null :: st) := fun H locs ls hP hS hl => lv_ifnullN X.1 X.2.1 d ht (kk H locs ls hP hS hl)
theorem qz_ifnonnull (X : qz_X p s m args meth c own cc nL ret G) {x : Nat} {off : Int} {tgt : Nat} (ht : (pc : Int) + off = (tgt : Int)) (d : decode cc pc = .ok (.ifnonnull off, 3)) (kk : qz_W p l e R s m args below meth c cells slots Q G H0 nL N tgt lv st) : qz_W p l e R s m args below meth c cells slots Q G H0 nL N pc lv (.ref x :: st) := fun H locs ls hP hS hl => lv_ifnonnull X.1 X.2.1 d ht (kk H locs ls hP hS hl)
theorem qz_ifnonnullN (X : qz_X p s m args meth c own cc nL ret G) {off : Int} (d : decode cc pc = .ok (.ifnonnull off, 3)) (kk : qz_W p l e R s m args below meth c cells slots Q G H0 nL N (pc + 3) lv st) : qz_W p l e R s m args below meth c cells slots Q G H0 nL N pc lv (.null :: st) := fun H locs ls hP hS hl => lv_ifnonnullN X.1 X.2.1 d (kk H locs ls hP hS hl)
theorem qz_get (X : qz_X p s m args meth c own cc nL ret G) {index c0 k cnt i : Nat} {t : FieldType × Nat} {fin : Bool} {v : Value} (F : qz_Fd own index c0 k cnt t fin) (hi : i < cnt) (hv : qz_fv G.2.2 N c0 i k t = v) (d : decode cc pc = .ok (.getfield index, 3))
    (kk : qz_W p l e R s m args below meth c cells slots Q G H0 nL N (pc + 3) lv (v :: st)) : qz_W p l e R s m args below meth c cells slots Q G H0 nL N pc lv (.ref (G.2.2 c0 i) :: st) := by
  obtain ⟨hx, hb, hml, hown, hts, hK, hD, -, -⟩ := X
  obtain ⟨ci, ts, C, T, n, ty0, h1, h2, h3, h4, h5, h6, h7, h8, h9, h10, h11⟩ := F
  intro H locs ls hP hS hl
  have hp := hP c0 i _ h1 hi
  refine va_get (D := G.1) (cl := qz_cl) (tys := []) (ws := [(G.2.2 c0 i, .inr (ci, qz_fs G.2.2 N c0 i 0 ts))]) hx hb hts h3 hown hK.1 (fun k q hq => ?_) 0 rfl h2 k h4 (hts _ h6) (fun _ h => h) (v := v) ?_ d (kk H locs ls hP hS hl)
  · cases k with
    | zero => cases hq; exact hp
    | succ k => simp at hq
  · rw [qz_fs_at G.2.2 N c0 i ts 0 k t h5, Nat.zero_add, hv]
theorem qz_put (X : qz_X p s m args meth c own cc nL ret G) {N' : qz_N} {index c0 k cnt i : Nat} {t : FieldType × Nat} {v : Value} (F : qz_Fd own index c0 k cnt t false) (hi : i < cnt) (hv : qz_fv G.2.2 N' c0 i k t = v) (ho : ∀ j, j ≠ k → qz_gi N' c0 i j = qz_gi N c0 i j ∧ qz_gl N' c0 i j = qz_gl N c0 i j) (hN : qz_but N N' c0 i) (hn : narrow t.1 v = v) (hfit : fits t.1 v = true) (d : decode cc pc = .ok (.putfield index, 3))
    (kk : qz_W p l e R s m args below meth c cells slots Q G H0 nL N' (pc + 3) lv st) : qz_W p l e R s m args below meth c cells slots Q G H0 nL N pc lv (v :: .ref (G.2.2 c0 i) :: st) := by
  obtain ⟨hx, hb, hml, hown, hts, hK, hD, -, -⟩ := X
  obtain ⟨ci, ts, C, T, n, ty0, h1, h2, h3, h4, h5, h6, h7, h8, h9, h10, h11⟩ := F
  intro H locs ls hP hS hl
  have hap := va_apart (own := own) hts h3 ty0 h7 h8 hK.1 h2
  obtain ⟨r, g1, cell, q1, q2, q3, q4⟩ := hP c0 i _ h1 hi
  have hr : r = (C, T, n) := Option.some.inj (g1.symm.trans h2)
  subst hr
  obtain ⟨hSl, hfc, kC, hkC, hkind⟩ := hK.1.1 ci _ h2
  obtain ⟨cf, kf, fi, f, hfi, hsl⟩ := hSl k h4
  have hlay := hts _ (h3 _ (u_in_lay h4))
  unfold u_lay at hlay
  rw [if_neg (by rw [h9]; decide)] at hlay
  have hst := (u_facts hfc hkC (u_lays hts h3 h4) hfi).1
  have h6' := u_store hfc hkC hkind hlay hfi h10 hn hfit
  refine W.putK hx hb (f := f) ⟨hown, hts _ h6, ⟨_, _, _, hfi⟩, hst⟩ (by rw [q2]; exact h6') q1 q3 (by rw [hsl]; exact k2_hasslot (q4 k h4)) rfl rfl d fun H' e1 e2 e3 => ?_
  rw [hsl] at e1 ⊢
  have hkl : k < (qz_fs G.2.2 N c0 i 0 ts).length := by rw [qz_fs_len, h11]; exact h4
  refine kk H' _ ls (hP.set hD h1 hi hN ?_ e3) (hS.put e2 e3 ⟨c0, i, _, h1, hi, rfl⟩) hl
  show ∃ r : vw_C, qz_cl[ci]? = some r ∧ _
  refine ⟨_, h2, ?_⟩
  show t_OB (G.2.2 c0 i) (G.1.1 ci) n (G.1.2 ci) H' (vp_V (qz_fs G.2.2 N' c0 i 0 ts))
  rw [qz_fs_set h5 hv ho]
  exact t_OB.to (V := updV (vp_V (qz_fs G.2.2 N c0 i 0 ts)) k v) ⟨_, e1, q2, q3, t_set q4 hap h4 v⟩ (fun j _ => vp_updV_set hkl v j)
theorem qz_putJ (X : qz_X p s m args meth c own cc nL ret G) {index c0 k cnt i tg : Nat} {v : Int64} (F : qz_Fd own index c0 k cnt (.long, tg) false) (hi : i < cnt) (d : decode cc pc = .ok (.putfield index, 3)) {α : Type} {r : α} {Kf : qz_N → Option α} (h : qz_let (qz_sl N c0 i k v) Kf = some r)
    (kk : ∀ N', Kf N' = some r → qz_W p l e R s m args below meth c cells slots Q G H0 nL N' (pc + 3) lv st) : qz_W p l e R s m args below meth c cells slots Q G H0 nL N pc lv (.long v :: .ref (G.2.2 c0 i) :: st) :=
  qz_put X (N' := qz_sl N c0 i k v) F hi (by show Value.long _ = _; rw [qz_gl_sl, if_pos ⟨rfl, rfl, rfl⟩]) (fun j hj => ⟨rfl, by rw [qz_gl_sl, if_neg (fun z => hj z.2.2)]⟩) (qz_but_sl N c0 i k v) rfl rfl d (kk _ h)
theorem qz_putI (X : qz_X p s m args meth c own cc nL ret G) {index c0 k cnt i tg : Nat} {v : Int32} (F : qz_Fd own index c0 k cnt (.int, tg) false) (hi : i < cnt) (d : decode cc pc = .ok (.putfield index, 3)) {α : Type} {r : α} {Kf : qz_N → Option α} (h : qz_let (qz_si N c0 i k v) Kf = some r)
    (kk : ∀ N', Kf N' = some r → qz_W p l e R s m args below meth c cells slots Q G H0 nL N' (pc + 3) lv st) : qz_W p l e R s m args below meth c cells slots Q G H0 nL N pc lv (.int v :: .ref (G.2.2 c0 i) :: st) :=
  qz_put X (N' := qz_si N c0 i k v) F hi (by show Value.int _ = _; rw [qz_gi_si, if_pos ⟨rfl, rfl, rfl⟩]) (fun j hj => ⟨by rw [qz_gi_si, if_neg (fun z => hj z.2.2)], rfl⟩) (qz_but_si N c0 i k v) rfl rfl d (kk _ h)
theorem qz_putZ (X : qz_X p s m args meth c own cc nL ret G) {index c0 k cnt i tg : Nat} {v : Int32} (F : qz_Fd own index c0 k cnt (.boolean, tg) false) (hi : i < cnt) (hz : narrow .boolean (.int v) = .int v ∧ fits .boolean (.int v) = true) (d : decode cc pc = .ok (.putfield index, 3)) {α : Type} {r : α} {Kf : qz_N → Option α} (h : qz_let (qz_si N c0 i k v) Kf = some r)
    (kk : ∀ N', Kf N' = some r → qz_W p l e R s m args below meth c cells slots Q G H0 nL N' (pc + 3) lv st) : qz_W p l e R s m args below meth c cells slots Q G H0 nL N pc lv (.int v :: .ref (G.2.2 c0 i) :: st) :=
  qz_put X (N' := qz_si N c0 i k v) F hi (by show Value.int _ = _; rw [qz_gi_si, if_pos ⟨rfl, rfl, rfl⟩]) (fun j hj => ⟨by rw [qz_gi_si, if_neg (fun z => hj z.2.2)], rfl⟩) (qz_but_si N c0 i k v) hz.1 hz.2 d (kk _ h)
theorem qz_leti {x : Int32} {α : Type} {r : α} {Kf : Int32 → Option α} (h : qz_let x Kf = some r) (kk : ∀ v, Kf v = some r → qz_W p l e R s m args below meth c cells slots Q G H0 nL N pc lv (.int v :: st)) : qz_W p l e R s m args below meth c cells slots Q G H0 nL N pc lv (.int x :: st) := kk x h
theorem qz_letj {x : Int64} {α : Type} {r : α} {Kf : Int64 → Option α} (h : qz_let x Kf = some r) (kk : ∀ v, Kf v = some r → qz_W p l e R s m args below meth c cells slots Q G H0 nL N pc lv (.long v :: st)) : qz_W p l e R s m args below meth c cells slots Q G H0 nL N pc lv (.long x :: st) := kk x h
theorem qz_iinc_l (X : qz_X p s m args meth c own cc nL ret G) {i k : Nat} {n : Int} {x u : Int32} {lv' : Int32 → List (Nat × Value)} (hk : lv[k]? = some (i, .int x)) (hv : Int32.ofInt n = u) (hn : i < nL) (hl : ∀ v, (i, Value.int v) :: lv.filter (fun q => !(q.1 == i) && !(q.1 + 1 == i && q.2.category == 2)) = lv' v) (d : decode cc pc = .ok (.iinc i n, 3)) {α : Type} {r : α} {Kf : Int32 → Option α} (h : qz_let (x + u) Kf = some r)
    (kk : ∀ v, Kf v = some r → qz_W p l e R s m args below meth c cells slots Q G H0 nL N (pc + 3) (lv' v) st) : qz_W p l e R s m args below meth c cells slots Q G H0 nL N pc lv st := fun H locs ls hP hS hl2 => lv_iinc X.1 X.2.1 d hl2 hk (by rw [hv]) hn (hl _) (fun ls' h' => kk _ h H locs ls' hP hS h')
theorem qz_ite {C : Prop} {dc : Decidable C} {α : Type} {r : α} {fa fb : Option α} {P : Prop} (h : @ite (Option α) C dc fa fb = some r) (kt : C → fa = some r → P) (kf : ¬ C → fb = some r → P) : P := by
  by_cases hc : C
  · rw [if_pos hc] at h; exact kt hc h
  · rw [if_neg hc] at h; exact kf hc h
theorem qz_bind {α β : Type} {x : Option α} {f : α → Option β} {r : β} {P : Prop} (h : x.bind f = some r) (k : ∀ a, x = some a → f a = some r → P) : P := by
  cases x with
  | none => cases h
  | some a => exact k a rfl h
theorem qz_tabIn (X : qz_X p s m args meth c own cc nL ret G) {dflt lo hi : Int} {offs : Array Int} {len : Nat} {x k : Int32} {off : Int} {tgt : Nat} (hx : x = k) (h1 : ¬ k.toInt < lo) (h2 : ¬ hi < k.toInt) (ho : offs[(k.toInt - lo).toNat]? = some off) (ht : (pc : Int) + off = (tgt : Int)) (d : decode cc pc = .ok (.tableswitch dflt lo hi offs, len))
    (kk : qz_W p l e R s m args below meth c cells slots Q G H0 nL N tgt lv st) : qz_W p l e R s m args below meth c cells slots Q G H0 nL N pc lv (.int x :: st) := by
  subst hx
  exact fun H locs ls hP hS hl => lv_tableIn X.1 X.2.1 d h1 h2 ho ht (kk H locs ls hP hS hl)
theorem qz_tabOut (X : qz_X p s m args meth c own cc nL ret G) {dflt lo hi : Int} {offs : Array Int} {len : Nat} {x : Int32} {tgt : Nat} (ht : (pc : Int) + dflt = (tgt : Int)) (ho : x.toInt < lo ∨ hi < x.toInt) (d : decode cc pc = .ok (.tableswitch dflt lo hi offs, len))
    (kk : qz_W p l e R s m args below meth c cells slots Q G H0 nL N tgt lv st) : qz_W p l e R s m args below meth c cells slots Q G H0 nL N pc lv (.int x :: st) := fun H locs ls hP hS hl => lv_tableOut X.1 X.2.1 d ho ht (kk H locs ls hP hS hl)
theorem qz_idivc (X : qz_X p s m args meth c own cc nL ret G) {x y : Int32} (d : decode cc pc = .ok (.idiv, 1)) {α : Type} {r : α} {fb : Option α} {dc : Decidable (y = 0)} (h : @ite (Option α) (y = 0) dc none fb = some r)
    (kk : fb = some r → qz_W p l e R s m args below meth c cells slots Q G H0 nL N (pc + 1) lv (.int (x / y) :: st)) : qz_W p l e R s m args below meth c cells slots Q G H0 nL N pc lv (.int y :: .int x :: st) := by
  have hne : ¬ y = 0 := fun z => by rw [if_pos z] at h; cases h
  rw [if_neg hne] at h
  exact qz_idiv X hne d (kk h)
theorem qz_ldivc (X : qz_X p s m args meth c own cc nL ret G) {x y : Int64} (d : decode cc pc = .ok (.ldiv, 1)) {α : Type} {r : α} {fb : Option α} {dc : Decidable (y = 0)} (h : @ite (Option α) (y = 0) dc none fb = some r)
    (kk : fb = some r → qz_W p l e R s m args below meth c cells slots Q G H0 nL N (pc + 1) lv (.long (x / y) :: st)) : qz_W p l e R s m args below meth c cells slots Q G H0 nL N pc lv (.long y :: .long x :: st) := by
  have hne : ¬ y = 0 := fun z => by rw [if_pos z] at h; cases h
  rw [if_neg hne] at h
  exact qz_ldiv X hne d (kk h)
theorem qz_iremc (X : qz_X p s m args meth c own cc nL ret G) {x y : Int32} (d : decode cc pc = .ok (.irem, 1)) {α : Type} {r : α} {fb : Option α} {dc : Decidable (y = 0)} (h : @ite (Option α) (y = 0) dc none fb = some r)
    (kk : fb = some r → qz_W p l e R s m args below meth c cells slots Q G H0 nL N (pc + 1) lv (.int (x - x / y * y) :: st)) : qz_W p l e R s m args below meth c cells slots Q G H0 nL N pc lv (.int y :: .int x :: st) := by
  have hne : ¬ y = 0 := fun z => by rw [if_pos z] at h; cases h
  rw [if_neg hne] at h
  exact qz_irem X hne d (kk h)
theorem qz_lremc (X : qz_X p s m args meth c own cc nL ret G) {x y : Int64} (d : decode cc pc = .ok (.lrem, 1)) {α : Type} {r : α} {fb : Option α} {dc : Decidable (y = 0)} (h : @ite (Option α) (y = 0) dc none fb = some r)
    (kk : fb = some r → qz_W p l e R s m args below meth c cells slots Q G H0 nL N (pc + 1) lv (.long (x - x / y * y) :: st)) : qz_W p l e R s m args below meth c cells slots Q G H0 nL N pc lv (.long y :: .long x :: st) := by
  have hne : ¬ y = 0 := fun z => by rw [if_pos z] at h; cases h
  rw [if_neg hne] at h
  exact qz_lrem X hne d (kk h)
theorem qz_astore_nN (X : qz_X p s m args meth c own cc nL ret G) {k : Fin 4} {i : Nat} (hi : (k : Nat) = i) (hn : i < nL) (hl : (i, Value.null) :: lv.filter (fun q => !(q.1 == i) && !(q.1 + 1 == i && q.2.category == 2)) = lv') (d : decode cc pc = .ok (.astore_n k, 1))
    (kk : qz_W p l e R s m args below meth c cells slots Q G H0 nL N (pc + 1) lv' st) : qz_W p l e R s m args below meth c cells slots Q G H0 nL N pc lv (.null :: st) := fun H locs ls hP hS h => lv_astore_nN X.1 X.2.1 d hi h hn hl (fun ls' h' => kk H locs ls' hP hS h')
theorem qz_astoreN (X : qz_X p s m args meth c own cc nL ret G) {i : Nat} (hn : i < nL) (hl : (i, Value.null) :: lv.filter (fun q => !(q.1 == i) && !(q.1 + 1 == i && q.2.category == 2)) = lv') (d : decode cc pc = .ok (.astore i, 2))
    (kk : qz_W p l e R s m args below meth c cells slots Q G H0 nL N (pc + 2) lv' st) : qz_W p l e R s m args below meth c cells slots Q G H0 nL N pc lv (.null :: st) := fun H locs ls hP hS h => lv_astoreN X.1 X.2.1 d h hn hl (fun ls' h' => kk H locs ls' hP hS h')
theorem qz_lald (X : qz_X p s m args meth c own cc nL ret G) {c0 i cnt n tg : Nat} {x : Int32} (ha : qz_tb[c0]? = some (cnt, .inr (n, .long, tg))) (hi : i < cnt) (d : decode cc pc = .ok (.laload, 1)) {α : Type} {r : α} {fb : Option α} {dc : Decidable (x < 0 ∨ n ≤ x.toNatClampNeg)} (h : @ite (Option α) (x < 0 ∨ n ≤ x.toNatClampNeg) dc none fb = some r)
    (kk : fb = some r → qz_W p l e R s m args below meth c cells slots Q G H0 nL N (pc + 1) lv (.long (qz_gl N c0 i x.toNatClampNeg) :: st)) : qz_W p l e R s m args below meth c cells slots Q G H0 nL N pc lv (.int x :: .ref (G.2.2 c0 i) :: st) := by
  intro H locs ls hP hS hl
  have hin : ¬ (x < 0 ∨ n ≤ x.toNatClampNeg) := fun z => by rw [if_pos z] at h; cases h
  rw [if_neg hin] at h
  have hlt : x.toNatClampNeg < n := Nat.not_le.mp fun q => hin (Or.inr q)
  have hp : H[G.2.2 c0 i]? = some (arrV (G.2.1 c0) n (fun j => .long (qz_gl N c0 i j))) := hP c0 i _ ha hi
  exact W.lald (v := .long (qz_gl N c0 i x.toNatClampNeg)) X.1 X.2.1 hp ((X.2.2.2.2.2.1.2 c0 _ _ ha rfl) n _) (fun q => by cases q) (by rw [arrV_size]; exact hin) (arrV_read _ _ hlt) rfl rfl d (kk h H locs ls hP hS hl)
theorem qz_iald (X : qz_X p s m args meth c own cc nL ret G) {c0 i cnt n tg : Nat} {x : Int32} (ha : qz_tb[c0]? = some (cnt, .inr (n, .int, tg))) (hi : i < cnt) (d : decode cc pc = .ok (.iaload, 1)) {α : Type} {r : α} {fb : Option α} {dc : Decidable (x < 0 ∨ n ≤ x.toNatClampNeg)} (h : @ite (Option α) (x < 0 ∨ n ≤ x.toNatClampNeg) dc none fb = some r)
    (kk : fb = some r → qz_W p l e R s m args below meth c cells slots Q G H0 nL N (pc + 1) lv (.int (qz_gi N c0 i x.toNatClampNeg) :: st)) : qz_W p l e R s m args below meth c cells slots Q G H0 nL N pc lv (.int x :: .ref (G.2.2 c0 i) :: st) := by
  intro H locs ls hP hS hl
  have hin : ¬ (x < 0 ∨ n ≤ x.toNatClampNeg) := fun z => by rw [if_pos z] at h; cases h
  rw [if_neg hin] at h
  have hlt : x.toNatClampNeg < n := Nat.not_le.mp fun q => hin (Or.inr q)
  have hp : H[G.2.2 c0 i]? = some (arrV (G.2.1 c0) n (fun j => .int (qz_gi N c0 i j))) := hP c0 i _ ha hi
  exact W.iald (v := .int (qz_gi N c0 i x.toNatClampNeg)) X.1 X.2.1 hp ((X.2.2.2.2.2.1.2 c0 _ _ ha rfl) n _) (fun q => by cases q) (by rw [arrV_size]; exact hin) (arrV_read _ _ hlt) rfl rfl d (kk h H locs ls hP hS hl)
theorem qz_zald (X : qz_X p s m args meth c own cc nL ret G) {c0 i cnt n tg : Nat} {x : Int32} (ha : qz_tb[c0]? = some (cnt, .inr (n, .boolean, tg))) (hi : i < cnt) (d : decode cc pc = .ok (.baload, 1)) {α : Type} {r : α} {fb : Option α} {dc : Decidable (x < 0 ∨ n ≤ x.toNatClampNeg)} (h : @ite (Option α) (x < 0 ∨ n ≤ x.toNatClampNeg) dc none fb = some r)
    (kk : fb = some r → qz_W p l e R s m args below meth c cells slots Q G H0 nL N (pc + 1) lv (.int (qz_gi N c0 i x.toNatClampNeg) :: st)) : qz_W p l e R s m args below meth c cells slots Q G H0 nL N pc lv (.int x :: .ref (G.2.2 c0 i) :: st) := by
  intro H locs ls hP hS hl
  have hin : ¬ (x < 0 ∨ n ≤ x.toNatClampNeg) := fun z => by rw [if_pos z] at h; cases h
  rw [if_neg hin] at h
  have hlt : x.toNatClampNeg < n := Nat.not_le.mp fun q => hin (Or.inr q)
  have hp : H[G.2.2 c0 i]? = some (arrV (G.2.1 c0) n (fun j => .int (qz_gi N c0 i j))) := hP c0 i _ ha hi
  exact W.zald (v := .int (qz_gi N c0 i x.toNatClampNeg)) X.1 X.2.1 hp ((X.2.2.2.2.2.1.2 c0 _ _ ha rfl) n _) (fun q => by cases q) (by rw [arrV_size]; exact hin) (arrV_read _ _ hlt) rfl rfl d (kk h H locs ls hP hS hl)
theorem qz_aald (X : qz_X p s m args meth c own cc nL ret G) {c0 i cnt n tg : Nat} {t : FieldType} {x : Int32} (ha : qz_tb[c0]? = some (cnt, .inr (n, t, tg))) (ht : t.isReference = true) (hi : i < cnt) (d : decode cc pc = .ok (.aaload, 1)) {α : Type} {r : α} {fb : Option α} {dc : Decidable (x < 0 ∨ n ≤ x.toNatClampNeg)} (h : @ite (Option α) (x < 0 ∨ n ≤ x.toNatClampNeg) dc none fb = some r)
    (kk : x.toNatClampNeg < n → fb = some r → qz_W p l e R s m args below meth c cells slots Q G H0 nL N (pc + 1) lv (.ref (G.2.2 tg x.toNatClampNeg) :: st)) : qz_W p l e R s m args below meth c cells slots Q G H0 nL N pc lv (.int x :: .ref (G.2.2 c0 i) :: st) := by
  intro H locs ls hP hS hl
  have hin : ¬ (x < 0 ∨ n ≤ x.toNatClampNeg) := fun z => by rw [if_pos z] at h; cases h
  rw [if_neg hin] at h
  have hlt : x.toNatClampNeg < n := Nat.not_le.mp fun q => hin (Or.inr q)
  have hp : H[G.2.2 c0 i]? = some (arrV (G.2.1 c0) n (fun j => .ref (G.2.2 tg j))) := by
    have h0 := hP c0 i _ ha hi
    cases t <;> first | exact h0 | simp [FieldType.isReference] at ht
  exact W.aald (v := .ref (G.2.2 tg x.toNatClampNeg)) (ty := t) X.1 X.2.1 hp ((X.2.2.2.2.2.1.2 c0 _ _ ha rfl) n _) ht (fun q => by cases q) (by rw [arrV_size]; exact hin) (arrV_read _ _ hlt) rfl rfl d (kk hlt h H locs ls hP hS hl)
theorem qz_last (X : qz_X p s m args meth c own cc nL ret G) {c0 i cnt n tg : Nat} {x : Int32} {v : Int64} (ha : qz_tb[c0]? = some (cnt, .inr (n, .long, tg))) (hi : i < cnt) (d : decode cc pc = .ok (.lastore, 1)) {α : Type} {r : α} {Kf : qz_N → Option α} {dc : Decidable (x < 0 ∨ n ≤ x.toNatClampNeg)} (h : @ite (Option α) (x < 0 ∨ n ≤ x.toNatClampNeg) dc none (qz_let (qz_sl N c0 i x.toNatClampNeg v) Kf) = some r)
    (kk : ∀ N', Kf N' = some r → qz_W p l e R s m args below meth c cells slots Q G H0 nL N' (pc + 1) lv st) : qz_W p l e R s m args below meth c cells slots Q G H0 nL N pc lv (.long v :: .int x :: .ref (G.2.2 c0 i) :: st) := by
  intro H locs ls hP hS hl
  have hin : ¬ (x < 0 ∨ n ≤ x.toNatClampNeg) := fun z => by rw [if_pos z] at h; cases h
  rw [if_neg hin] at h
  have hp : H[G.2.2 c0 i]? = some (arrV (G.2.1 c0) n (fun j => .long (qz_gl N c0 i j))) := hP c0 i _ ha hi
  refine W.last X.1 X.2.1 hp ((X.2.2.2.2.2.1.2 c0 _ _ ha rfl) n _) (fun q => by cases q) (by rw [arrV_size]; exact hin) rfl rfl d fun H1 e z oq => ?_
  refine kk _ h H1 _ ls (hP.set X.2.2.2.2.2.2.1 ha hi (qz_but_sl N c0 i x.toNatClampNeg v) ?_ oq) (hS.put z oq ⟨c0, i, _, ha, hi, rfl⟩) hl
  show H1[G.2.2 c0 i]? = some (arrV (G.2.1 c0) n (fun j => .long (qz_gl (qz_sl N c0 i x.toNatClampNeg v) c0 i j)))
  rw [e, arrV_store]
  congr 2
  funext q
  by_cases hq : q = x.toNatClampNeg
  · subst hq
    simp [updV, qz_sl, qz_gl, qz_u3]
  · simp [updV, qz_sl, qz_gl, qz_u3, hq]
theorem qz_iast (X : qz_X p s m args meth c own cc nL ret G) {c0 i cnt n tg : Nat} {x : Int32} {v : Int32} (ha : qz_tb[c0]? = some (cnt, .inr (n, .int, tg))) (hi : i < cnt) (d : decode cc pc = .ok (.iastore, 1)) {α : Type} {r : α} {Kf : qz_N → Option α} {dc : Decidable (x < 0 ∨ n ≤ x.toNatClampNeg)} (h : @ite (Option α) (x < 0 ∨ n ≤ x.toNatClampNeg) dc none (qz_let (qz_si N c0 i x.toNatClampNeg v) Kf) = some r)
    (kk : ∀ N', Kf N' = some r → qz_W p l e R s m args below meth c cells slots Q G H0 nL N' (pc + 1) lv st) : qz_W p l e R s m args below meth c cells slots Q G H0 nL N pc lv (.int v :: .int x :: .ref (G.2.2 c0 i) :: st) := by
  intro H locs ls hP hS hl
  have hin : ¬ (x < 0 ∨ n ≤ x.toNatClampNeg) := fun z => by rw [if_pos z] at h; cases h
  rw [if_neg hin] at h
  have hp : H[G.2.2 c0 i]? = some (arrV (G.2.1 c0) n (fun j => .int (qz_gi N c0 i j))) := hP c0 i _ ha hi
  refine W.iast X.1 X.2.1 hp ((X.2.2.2.2.2.1.2 c0 _ _ ha rfl) n _) (fun q => by cases q) (by rw [arrV_size]; exact hin) rfl rfl d fun H1 e z oq => ?_
  refine kk _ h H1 _ ls (hP.set X.2.2.2.2.2.2.1 ha hi (qz_but_si N c0 i x.toNatClampNeg v) ?_ oq) (hS.put z oq ⟨c0, i, _, ha, hi, rfl⟩) hl
  show H1[G.2.2 c0 i]? = some (arrV (G.2.1 c0) n (fun j => .int (qz_gi (qz_si N c0 i x.toNatClampNeg v) c0 i j)))
  rw [e, arrV_store]
  congr 2
  funext q
  by_cases hq : q = x.toNatClampNeg
  · subst hq
    simp [updV, qz_si, qz_gi, qz_u3]
  · simp [updV, qz_si, qz_gi, qz_u3, hq]
theorem qz_zast (X : qz_X p s m args meth c own cc nL ret G) {c0 i cnt n tg : Nat} {x : Int32} {v : Int32} (ha : qz_tb[c0]? = some (cnt, .inr (n, .boolean, tg))) (hi : i < cnt) (d : decode cc pc = .ok (.bastore, 1)) {α : Type} {r : α} {Kf : qz_N → Option α} {dc : Decidable (x < 0 ∨ n ≤ x.toNatClampNeg)} (h : @ite (Option α) (x < 0 ∨ n ≤ x.toNatClampNeg) dc none (qz_let (qz_si N c0 i x.toNatClampNeg (vp_nar .boolean v)) Kf) = some r)
    (kk : ∀ N', Kf N' = some r → qz_W p l e R s m args below meth c cells slots Q G H0 nL N' (pc + 1) lv st) : qz_W p l e R s m args below meth c cells slots Q G H0 nL N pc lv (.int v :: .int x :: .ref (G.2.2 c0 i) :: st) := by
  intro H locs ls hP hS hl
  have hin : ¬ (x < 0 ∨ n ≤ x.toNatClampNeg) := fun z => by rw [if_pos z] at h; cases h
  rw [if_neg hin] at h
  have hp : H[G.2.2 c0 i]? = some (arrV (G.2.1 c0) n (fun j => .int (qz_gi N c0 i j))) := hP c0 i _ ha hi
  refine W.zast X.1 X.2.1 hp ((X.2.2.2.2.2.1.2 c0 _ _ ha rfl) n _) (fun q => by cases q) (by rw [arrV_size]; exact hin) rfl rfl d fun H1 e z oq => ?_
  refine kk _ h H1 _ ls (hP.set X.2.2.2.2.2.2.1 ha hi (qz_but_si N c0 i x.toNatClampNeg (vp_nar .boolean v)) ?_ oq) (hS.put z oq ⟨c0, i, _, ha, hi, rfl⟩) hl
  show H1[G.2.2 c0 i]? = some (arrV (G.2.1 c0) n (fun j => .int (qz_gi (qz_si N c0 i x.toNatClampNeg (vp_nar .boolean v)) c0 i j)))
  rw [e, arrV_store]
  congr 2
  funext q
  by_cases hq : q = x.toNatClampNeg
  · subst hq
    simp [updV, qz_si, qz_gi, qz_u3, vp_nar, narrow]
  · simp [updV, qz_si, qz_gi, qz_u3, hq]
end QZ
/-- a method's end: its answer o, the world with numbers N', nothing else changed -/
def qz_Q (G : qz_G) (N' : qz_N) (o : Option Value) : Array Value → State → Outcome → State → Prop := fun _ st oc t => oc = .returned o ∧ qz_P G N' t.heap ∧ t.heap.size = st.heap.size ∧ ∀ q : Nat, ¬ qz_A G q → t.heap[q]? = st.heap[q]?
def qz_R (dp : Nat) : Room := { frames := dp, cells := 0, slots := 0, locals := 48 * dp }
def qz_M (l : Launch) (y : MethodName) (bytes : ByteArray) (maxL : Nat) (ret : Option FieldType) (dp : Nat) (G : qz_G) (as : List Value) (N : qz_N) (o : Option Value) (N' : qz_N) : Prop :=
  Met l y (Cond.code y bytes maxL ret :: qz_T) (qz_R dp) (va_Pc as (fun U => qz_P G N U.heap ∧ qz_K G U)) (qz_Q G N' o) 0 0 (qz_A G)
/-- what the tables say of a method by the pool of class own -/
def qz_Cb (own : String) (index : Nat) (y : MethodName) (bytes : ByteArray) (maxL : Nat) (ret : Option FieldType) (n : Nat) : Prop := Cond.code y bytes maxL ret ∈ qz_T ∧ Cond.methodLink own index y ∈ qz_T ∧ Cond.initialized y.cls ∈ qz_T ∧ (y.cls ≠ "java/lang/invoke/MethodHandle" ∧ y.cls ≠ "java/lang/invoke/VarHandle" ∧ (parseMethodDescriptor y.desc).map (fun d => d.parameters.length) = some n)
def qz_Cs (own : String) (index : Nat) (y : MethodName) (bytes : ByteArray) (maxL : Nat) (ret : Option FieldType) (n : Nat) : Prop := qz_Cb own index y bytes maxL ret n ∧ Cond.static y ∈ qz_T
def qz_Cv (own : String) (index : Nat) (y : MethodName) (bytes : ByteArray) (maxL : Nat) (ret : Option FieldType) (n c0 cnt : Nat) : Prop := qz_Cb own index y bytes maxL ret n ∧ Cond.instanceMethod y ∈ qz_T ∧ Cond.selects y.cls y y ∈ qz_T ∧ ∃ (ci : Nat) (ts : List (FieldType × Nat)) (T : u_T) (nf : Nat), qz_tb[c0]? = some (cnt, .inl (ci, ts)) ∧ qz_cl[ci]? = some (y.cls, T, nf)
theorem qz_good {w : Cond} (h : w ∈ qz_T) : (w.onTables && w.keeps) = true ∨ ∃ ty, w = .arrayClass ty := good_of_word (List.mem_filter.mp h).2
theorem qz_pay {args : Array Value} {s : State} (hts : ∀ w ∈ qz_T, w.before args s = true) : ∀ w ∈ qz_T, ∀ (a' : Array Value) (U : State), s.WarmedH U.vm → w.before a' U = true := fun w hw a' U hW => word_at hW (qz_good hw) (hts w hw)
theorem qz_blind {as : List Value} {G : qz_G} {N : qz_N} : FrameBlind (va_Pc as (fun U => qz_P G N U.heap ∧ qz_K G U)) := fun a U g mk q => ⟨q.1, q.2.1, qz_K.moved (u := U) (U := U.calling g mk a) (Vm.Alike.refl U.vm) q.2.2⟩
section QZC
variable {p : Program} {l : Launch} {e : Env} {R : Room} {s : State} {m : MethodId} {args : Array Value} {below : List Frame} {meth : Method} {c : Code} {cells slots : Nat} {Q : State → Prop} {G : qz_G} {H0 : Heap} {nL : Nat} {N N' : qz_N} {pc : Nat} {lv lv' : List (Nat × Value)} {st st0 : List Value} {own : String} {cc : ByteArray} {ret : Option FieldType}
theorem qz_callB {index : Nat} {y : MethodName} {bytes : ByteArray} {maxL dp n : Nat} {rt : Option FieldType} (hts : ∀ w ∈ qz_T, w.before args s = true) (C : qz_Cb own index y bytes maxL rt n) (hR : dp + 1 ≤ R.frames ∧ 8 + (maxL + 11) + 48 * dp ≤ R.locals) : CallB R s args own index y bytes maxL rt (Cond.code y bytes maxL rt :: qz_T) (qz_R dp) 0 0 n := by
  obtain ⟨h1, h2, h3, h4, h5, h6⟩ := C
  refine ⟨rfl, rfl, hR.1, hR.2, fun w hw => ?_, List.mem_cons_self, hts _ h1, hts _ h3, ⟨h4, h5⟩, fun sig h => ?_, hts _ h2⟩
  · rcases List.mem_cons.mp hw with rfl | hw
    · exact qz_pay hts _ h1
    · exact qz_pay hts _ hw
  · rw [h] at h6
    exact (Option.some.inj h6).symm
theorem qz_back {rest : List Value} {o : Option Value} {free : Addr → Prop} {a : Array Value} (hfree : free = qz_A G) {H : Heap} {locs : List Loc} {ls : Array Slot} (hr : va_Run p l e R s m args below meth c H locs cells slots 0 0 (F0 m pc ls st0) rest (qz_Q G N' o a) free) (hS : qz_S G H0 H locs) (hl : lv_has ls nL lv)
    (kk : qz_W p l e R s m args below meth c cells slots Q G H0 nL N' (pc + 3) lv (o.toList ++ rest)) : W p l e R s m args below meth c H locs cells slots Q (F0 m pc ls st0) := by
  intro T hT X
  obtain ⟨v, st₀, t, T', L, h0, X', hL, e1, e2, ⟨hv, hP, hz, hk⟩, go⟩ := hr T hT X
  have hv' : v = o := Outcome.returned.inj hv
  subst hv'
  subst hfree
  rw [← e1] at hP hz hk
  rw [h0] at hz hk
  obtain ⟨t2, a1, b1⟩ := kk T'.heap (locs ++ L) ls hP ⟨hz.trans hS.1, fun q hq => (hk q hq).trans (hS.2.1 q hq), fun q hq => by
    rcases List.mem_append.mp hq with h | h
    · exact hS.2.2 q h
    · exact hL q h⟩ hl T' rfl X'
  exact ⟨t2, go t2 a1, b1⟩
theorem qz_callS (X : qz_X p s m args meth c own cc nL ret G) {index : Nat} {y : MethodName} {bytes : ByteArray} {maxL dp n : Nat} {rt : Option FieldType} {as : List Value} {o : Option Value} (C : qz_Cs own index y bytes maxL rt n) (hM : qz_M l y bytes maxL rt dp G as N o N') (hR : dp + 1 ≤ R.frames ∧ 8 + (maxL + 11) + 48 * dp ≤ R.locals) (hn : as.length = n) (hst : st0 = as.reverse ++ st) (hw : (st.map fun v => v.category).sum ≤ 8) (hcs : cells ≤ R.cells ∧ slots ≤ R.slots) (d : decode cc pc = .ok (.invokestatic index, 3))
    (kk : qz_W p l e R s m args below meth c cells slots Q G H0 nL N' (pc + 3) lv (o.toList ++ st)) : qz_W p l e R s m args below meth c cells slots Q G H0 nL N pc lv st0 := by
  obtain ⟨hx, hb, hml, hown, hts, hK, hD, hlk, hrt⟩ := X
  intro H locs ls hP hS hl
  refine qz_back rfl (va_runS (n := n) (As := as) (rest := st) ⟨hx, hb, hml, hown, hts⟩ hM ⟨qz_callB hts C.1 hR, hts _ C.2⟩ ⟨qz_blind, fun U hU hW => ⟨rfl, by rw [hU]; exact hP, qz_K.moved hW.alike hK⟩⟩ rfl hn hl.1 hst (lv_room hw) d ⟨hcs.1, hcs.2⟩) hS hl kk
theorem qz_mmin (X : qz_X p s m args meth c own cc nL ret G) {index : Nat} {x y : Int64} (hl : Cond.methodLink own index Lib.MathLoose.min_long.x ∈ qz_T) (hc : Cond.code Lib.MathLoose.min_long.x Lib.MathLoose.min_long.code 4 (some .long) ∈ qz_T ∧ Cond.static Lib.MathLoose.min_long.x ∈ qz_T ∧ Cond.initialized "java/lang/Math" ∈ qz_T) (hR : 1 ≤ R.frames ∧ 23 ≤ R.locals) (hw : (st.map fun v => v.category).sum ≤ 8) (hcs : cells ≤ R.cells ∧ slots ≤ R.slots) (d : decode cc pc = .ok (.invokestatic index, 3))
    (kk : qz_W p l e R s m args below meth c cells slots Q G H0 nL N (pc + 3) lv (.long (if y < x then y else x) :: st)) : qz_W p l e R s m args below meth c cells slots Q G H0 nL N pc lv (.long y :: .long x :: st) := by
  obtain ⟨hx, hb, hml, hown, hts, hK, hD, hlk, hrt⟩ := X
  intro H locs ls hP hS hl2
  exact va_mmin_long hx hb (hml.trans hl2.1.symm) hown (hts _ hl) (hts _ hc.2.1) (hts _ hc.2.2) (hts _ hc.1) hR.1 (by omega) hcs.1 hcs.2 d (kk H locs ls hP hS hl2)
theorem qz_mmax (X : qz_X p s m args meth c own cc nL ret G) {index : Nat} {x y : Int64} (hl : Cond.methodLink own index Lib.MathLoose.max_long.x ∈ qz_T) (hc : Cond.code Lib.MathLoose.max_long.x Lib.MathLoose.max_long.code 4 (some .long) ∈ qz_T ∧ Cond.static Lib.MathLoose.max_long.x ∈ qz_T ∧ Cond.initialized "java/lang/Math" ∈ qz_T) (hR : 1 ≤ R.frames ∧ 23 ≤ R.locals) (hw : (st.map fun v => v.category).sum ≤ 8) (hcs : cells ≤ R.cells ∧ slots ≤ R.slots) (d : decode cc pc = .ok (.invokestatic index, 3))
    (kk : qz_W p l e R s m args below meth c cells slots Q G H0 nL N (pc + 3) lv (.long (if y < x then x else y) :: st)) : qz_W p l e R s m args below meth c cells slots Q G H0 nL N pc lv (.long y :: .long x :: st) := by
  obtain ⟨hx, hb, hml, hown, hts, hK, hD, hlk, hrt⟩ := X
  intro H locs ls hP hS hl2
  exact va_mmax_long hx hb (hml.trans hl2.1.symm) hown (hts _ hl) (hts _ hc.2.1) (hts _ hc.2.2) (hts _ hc.1) hR.1 (by omega) hcs.1 hcs.2 d (kk H locs ls hP hS hl2)
theorem qz_callV (X : qz_X p s m args meth c own cc nL ret G) {index c0 cnt i : Nat} {y : MethodName} {bytes : ByteArray} {maxL dp n : Nat} {rt : Option FieldType} {as : List Value} {o : Option Value} (C : qz_Cv own index y bytes maxL rt n c0 cnt) (hi : i < cnt) (hM : qz_M l y bytes maxL rt dp G (.ref (G.2.2 c0 i) :: as) N o N') (hR : dp + 1 ≤ R.frames ∧ 8 + (maxL + 11) + 48 * dp ≤ R.locals) (hn : as.length = n) (hst : st0 = as.reverse ++ .ref (G.2.2 c0 i) :: st) (hw : (st.map fun v => v.category).sum ≤ 8) (hcs : cells ≤ R.cells ∧ slots ≤ R.slots) (d : decode cc pc = .ok (.invokevirtual index, 3))
    (kk : qz_W p l e R s m args below meth c cells slots Q G H0 nL N' (pc + 3) lv (o.toList ++ st)) : qz_W p l e R s m args below meth c cells slots Q G H0 nL N pc lv st0 := by
  obtain ⟨hx, hb, hml, hown, hts, hK, hD, hlk, hrt⟩ := X
  obtain ⟨C1, C2, C3, ci, ts, T, nf, C4, C5⟩ := C
  intro H locs ls hP hS hl
  have hrecv : ∃ cell : Cell, H[G.2.2 c0 i]? = some cell ∧ cell.vm.isStatics = false ∧ s.vm.findClass y.cls = some cell.cls := by
    obtain ⟨q', g0, cell, g1, g2, g3, -⟩ := hP c0 i _ C4 hi
    cases g0.symm.trans C5
    exact ⟨cell, g1, by rw [g3]; rfl, by rw [g2]; exact (hK.1.1 ci _ C5).2.1⟩
  refine qz_back rfl (va_runV (C := y.cls) (n := n) (As := as) (rest := st) (b := G.2.2 c0 i) ⟨hx, hb, hml, hown, hts⟩ hM ⟨qz_callB hts C1 hR, hts _ C2, hts _ C3⟩ ⟨qz_blind, hrecv, fun U hU hW => ⟨rfl, by rw [hU]; exact hP, qz_K.moved hW.alike hK⟩⟩ rfl hn hl.1 hst (lv_room hw) d ⟨hcs.1, hcs.2⟩) hS hl kk

theorem qz_iret (X : qz_X p s m args meth c own cc nL (some .int) G) {v : Int32} {r : Int32 × qz_N} (h : some (v, N) = some r) (d : decode cc pc = .ok (.ireturn, 1)) : qz_W p l e R s m args below meth c 0 0 (MQ below (qz_Q G r.2 (some (.int r.1))) args s 0 0 (qz_A G)) G s.heap nL N pc lv [.int v] := by
  intro H locs ls hP hS hl
  cases h
  exact W.iret X.1 X.2.1 X.2.2.2.2.2.2.2.2 (fun t ht hW => ⟨rfl, by rw [ht]; exact hP, by rw [ht]; exact hS.1, fun q hq => by rw [ht]; exact hS.2.1 q hq⟩) hS.2.2 d (hlocks := X.2.2.2.2.2.2.2.1)
theorem qz_lret (X : qz_X p s m args meth c own cc nL (some .long) G) {v : Int64} {r : Int64 × qz_N} (h : some (v, N) = some r) (d : decode cc pc = .ok (.lreturn, 1)) : qz_W p l e R s m args below meth c 0 0 (MQ below (qz_Q G r.2 (some (.long r.1))) args s 0 0 (qz_A G)) G s.heap nL N pc lv [.long v] := by
  intro H locs ls hP hS hl
  cases h
  exact W.lret X.1 X.2.1 X.2.2.2.2.2.2.2.2 (fun t ht hW => ⟨rfl, by rw [ht]; exact hP, by rw [ht]; exact hS.1, fun q hq => by rw [ht]; exact hS.2.1 q hq⟩) hS.2.2 d (hlocks := X.2.2.2.2.2.2.2.1)
theorem qz_zret (X : qz_X p s m args meth c own cc nL (some .boolean) G) {v : Int32} {r : Int32 × qz_N} (hz : narrow .boolean (.int v) = .int v) (h : some (v, N) = some r) (d : decode cc pc = .ok (.ireturn, 1)) : qz_W p l e R s m args below meth c 0 0 (MQ below (qz_Q G r.2 (some (.int r.1))) args s 0 0 (qz_A G)) G s.heap nL N pc lv [.int v] := by
  intro H locs ls hP hS hl
  cases h
  exact W.zret X.1 X.2.1 X.2.2.2.2.2.2.2.2 hz (fun t ht hW => ⟨rfl, by rw [ht]; exact hP, by rw [ht]; exact hS.1, fun q hq => by rw [ht]; exact hS.2.1 q hq⟩) hS.2.2 d (hlocks := X.2.2.2.2.2.2.2.1)
theorem qz_zretc (X : qz_X p s m args meth c own cc nL (some .boolean) G) {v : Int32} {r : Int32 × qz_N} {dc : Decidable (vp_nar .boolean v = v)} (h : @ite (Option (Int32 × qz_N)) (vp_nar .boolean v = v) dc (some (v, N)) none = some r) (d : decode cc pc = .ok (.ireturn, 1)) : qz_W p l e R s m args below meth c 0 0 (MQ below (qz_Q G r.2 (some (.int r.1))) args s 0 0 (qz_A G)) G s.heap nL N pc lv [.int v] := by
  have hz : vp_nar .boolean v = v := by
    by_cases z : vp_nar .boolean v = v
    · exact z
    · rw [if_neg z] at h; cases h
  rw [if_pos hz] at h
  exact qz_zret X (show Value.int (vp_nar .boolean v) = .int v by rw [hz]) h d
theorem qz_vret (X : qz_X p s m args meth c own cc nL none G) {r : Unit × qz_N} (h : some ((), N) = some r) (d : decode cc pc = .ok (.return_, 1)) : qz_W p l e R s m args below meth c 0 0 (MQ below (qz_Q G r.2 none) args s 0 0 (qz_A G)) G s.heap nL N pc lv [] := by
  intro H locs ls hP hS hl
  cases h
  exact W.vret X.1 X.2.1 X.2.2.2.2.2.2.2.2 (fun t ht hW => ⟨rfl, by rw [ht]; exact hP, by rw [ht]; exact hS.1, fun q hq => by rw [ht]; exact hS.2.1 q hq⟩) hS.2.2 d (hlocks := X.2.2.2.2.2.2.2.1)
theorem qz_aret {C : String} {c0 : Nat} (X : qz_X p s m args meth c own cc nL (some (.object C)) G) {j : Nat} {r : Option Nat × qz_N} (h : some (some j, N) = some r) (d : decode cc pc = .ok (.areturn, 1)) : qz_W p l e R s m args below meth c 0 0 (MQ below (qz_Q G r.2 (some (va_rf (Option.map (G.2.2 c0) r.1)))) args s 0 0 (qz_A G)) G s.heap nL N pc lv [.ref (G.2.2 c0 j)] := by
  intro H locs ls hP hS hl
  cases h
  exact W.aret X.1 X.2.1 X.2.2.2.2.2.2.2.2 (Or.inl ⟨_, rfl⟩) (Or.inr ⟨_, rfl⟩) (fun t ht hW => ⟨rfl, by rw [ht]; exact hP, by rw [ht]; exact hS.1, fun q hq => by rw [ht]; exact hS.2.1 q hq⟩) hS.2.2 d (hlocks := X.2.2.2.2.2.2.2.1)
theorem qz_aretN {C : String} {c0 : Nat} (X : qz_X p s m args meth c own cc nL (some (.object C)) G) {r : Option Nat × qz_N} (h : some (none, N) = some r) (d : decode cc pc = .ok (.areturn, 1)) : qz_W p l e R s m args below meth c 0 0 (MQ below (qz_Q G r.2 (some (va_rf (Option.map (G.2.2 c0) r.1)))) args s 0 0 (qz_A G)) G s.heap nL N pc lv [.null] := by
  intro H locs ls hP hS hl
  cases h
  exact W.aret X.1 X.2.1 X.2.2.2.2.2.2.2.2 (Or.inl ⟨_, rfl⟩) (Or.inl rfl) (fun t ht hW => ⟨rfl, by rw [ht]; exact hP, by rw [ht]; exact hS.1, fun q hq => by rw [ht]; exact hS.2.1 q hq⟩) hS.2.2 d (hlocks := X.2.2.2.2.2.2.2.1)
end QZC
/-- from the walk of a body to the method's contract -/
theorem qz_enter {l : Launch} {y : MethodName} {bytes : ByteArray} {maxL dp : Nat} {rt : Option FieldType} {G : qz_G} {as : List Value} {N N' : qz_N} {o : Option Value} {lv : List (Nat × Value)} (hy : plainName y.cls = true) (hD : qz_D G) (hlen : (lg_sl as).length ≤ maxL) (hlv : lv_args 0 as = lv)
    (body : ∀ (p : Program) (e : Env) (s : State) (m : MethodId) (args : Array Value) (below : List Frame) (meth : Method) (c : Code), qz_X p s m args meth c y.cls bytes maxL rt G → qz_W p l e (qz_R dp) s m args below meth c 0 0 (MQ below (qz_Q G N' o) args s 0 0 (qz_A G)) G s.heap maxL N 0 lv []) : qz_M l y bytes maxL rt dp G as N o N' := by
  refine Met.ofW (cc := bytes) (maxL := maxL) (ret := rt) hy rfl ?_
  intro p e s m args below meth c s₁ B hml hv
  obtain ⟨rfl, hP, hK⟩ := hv
  have hts := atoms_spec (ws := Cond.code y bytes maxL rt :: qz_T) B.pre
  have hl := lv_entry as (n := maxL) hlen
  rw [lg_entry_eq]
  rw [hlv] at hl
  exact body p e s m _ below meth c ⟨B.exec, B.bytes, hml, findClass_of_methodNamed B.named, fun w hw => hts w (List.mem_cons_of_mem _ hw), hK, hD, B.notSynchronized, B.returns⟩ s.heap [] _ hP qz_S.rf hl
end
section
theorem wq_1 : (Jvm.Cond.initialized "ExactCurves") ∈ qz_T := qz_mem 45 (by decide +kernel) rfl
theorem wq_2 : (Jvm.Cond.initialized "ExactCurves$Purses") ∈ qz_T := qz_mem 46 (by decide +kernel) rfl
theorem wq_3 : (Jvm.Cond.initialized "ExactCurves$Batch") ∈ qz_T := qz_mem 47 (by decide +kernel) rfl
theorem wq_4 : (Jvm.Cond.initialized "ExactCurves$Pool") ∈ qz_T := qz_mem 48 (by decide +kernel) rfl
theorem wq_5 : (Jvm.Cond.initialized "ExactCurves$Mark") ∈ qz_T := qz_mem 49 (by decide +kernel) rfl
theorem wq_6 : (Jvm.Cond.initialized "ExactCurves$Vault") ∈ qz_T := qz_mem 50 (by decide +kernel) rfl
theorem wq_7 : (Jvm.Cond.initialized "ExactCurves$Loan") ∈ qz_T := qz_mem 51 (by decide +kernel) rfl
theorem wq_8 : (Jvm.Cond.initialized "ExactCurvesModel") ∈ qz_T := qz_mem 52 (by decide +kernel) rfl
theorem wq_9 : (Jvm.Cond.initialized "ExactCurves$Exact") ∈ qz_T := qz_mem 53 (by decide +kernel) rfl
theorem wq_10 : (Jvm.Cond.initialized "java/lang/Long") ∈ qz_T := qz_mem 54 (by decide +kernel) rfl
theorem wq_11 : (Jvm.Cond.initialized "java/lang/Math") ∈ qz_T := qz_mem 55 (by decide +kernel) rfl
theorem wq_17 : (Jvm.Cond.methodLink "ExactCurves" (1 : Nat) ({ cls := "java/lang/Object", name := "<init>", desc := "()V" } : Jvm.MethodName)) ∈ qz_T := qz_mem 61 (by decide +kernel) rfl
theorem wq_18 : (Jvm.Cond.instanceMethod ({ cls := "java/lang/Object", name := "<init>", desc := "()V" } : Jvm.MethodName)) ∈ qz_T := qz_mem 62 (by decide +kernel) rfl
theorem wq_20 : (Jvm.Cond.classLink "ExactCurves" (7 : Nat) "ExactCurves$Purses") ∈ qz_T := qz_mem 64 (by decide +kernel) rfl
theorem wq_21 : (Jvm.Cond.instantiable "ExactCurves$Purses" (3 : Nat)) ∈ qz_T := qz_mem 65 (by decide +kernel) rfl
theorem wq_23 : (Jvm.Cond.instanceMethod ({ cls := "ExactCurves$Purses", name := "<init>", desc := "()V" } : Jvm.MethodName)) ∈ qz_T := qz_mem 67 (by decide +kernel) rfl
theorem wq_24 : (Jvm.Cond.code ({ cls := "ExactCurves$Purses", name := "<init>", desc := "()V" } : Jvm.MethodName) prog_7_method_1_code (1 : Nat) (Option.none : Option Jvm.ClassFile.FieldType)) ∈ qz_T := qz_mem 68 (by decide +kernel) rfl
theorem wq_25 : (Jvm.Cond.methodLink "ExactCurves$Purses" (3 : Nat) ({ cls := "java/lang/Object", name := "<init>", desc := "()V" } : Jvm.MethodName)) ∈ qz_T := qz_mem 69 (by decide +kernel) rfl
theorem wq_26 : (Jvm.Cond.fieldLink "ExactCurves$Purses" (9 : Nat) "ExactCurves$Purses" "amounts" "[J") ∈ qz_T := qz_mem 70 (by decide +kernel) rfl
theorem wq_27 : (Jvm.Cond.fieldLink "ExactCurves$Purses" (15 : Nat) "ExactCurves$Purses" "minted" "[J") ∈ qz_T := qz_mem 71 (by decide +kernel) rfl
theorem wq_28 : (Jvm.Cond.fieldLink "ExactCurves" (62 : Nat) "ExactCurves$Purses" "minted" "[J") ∈ qz_T := qz_mem 72 (by decide +kernel) rfl
theorem wq_29 : (Jvm.Cond.fieldLink "ExactCurves$Purses" (18 : Nat) "ExactCurves$Purses" "kept" "[J") ∈ qz_T := qz_mem 73 (by decide +kernel) rfl
theorem wq_30 : (Jvm.Cond.fieldLink "ExactCurves" (76 : Nat) "ExactCurves$Purses" "kept" "[J") ∈ qz_T := qz_mem 74 (by decide +kernel) rfl
theorem wq_31 : (Jvm.Cond.laysFinal "ExactCurves$Purses" "ExactCurves$Purses" "amounts" "[J") ∈ qz_T := qz_mem 75 (by decide +kernel) rfl
theorem wq_33 : (Jvm.Cond.laysFinal "ExactCurves$Purses" "ExactCurves$Purses" "minted" "[J") ∈ qz_T := qz_mem 77 (by decide +kernel) rfl
theorem wq_35 : (Jvm.Cond.laysFinal "ExactCurves$Purses" "ExactCurves$Purses" "kept" "[J") ∈ qz_T := qz_mem 79 (by decide +kernel) rfl
theorem wq_38 : (Jvm.Cond.arrayClass Jvm.ClassFile.FieldType.long) ∈ qz_T := qz_mem 82 (by decide +kernel) rfl
theorem wq_39 : (Jvm.Cond.classLink "ExactCurves" (16 : Nat) "ExactCurves$Pool") ∈ qz_T := qz_mem 83 (by decide +kernel) rfl
theorem wq_41 : (Jvm.Cond.classLink "ExactCurves" (22 : Nat) "ExactCurves$Mark") ∈ qz_T := qz_mem 85 (by decide +kernel) rfl
theorem wq_43 : (Jvm.Cond.classLink "ExactCurves" (28 : Nat) "ExactCurves$Batch") ∈ qz_T := qz_mem 87 (by decide +kernel) rfl
theorem wq_44 : (Jvm.Cond.instantiable "ExactCurves$Batch" (10 : Nat)) ∈ qz_T := qz_mem 88 (by decide +kernel) rfl
theorem wq_46 : (Jvm.Cond.instanceMethod ({ cls := "ExactCurves$Batch", name := "<init>", desc := "()V" } : Jvm.MethodName)) ∈ qz_T := qz_mem 90 (by decide +kernel) rfl
theorem wq_47 : (Jvm.Cond.code ({ cls := "ExactCurves$Batch", name := "<init>", desc := "()V" } : Jvm.MethodName) prog_2_method_1_code (1 : Nat) (Option.none : Option Jvm.ClassFile.FieldType)) ∈ qz_T := qz_mem 91 (by decide +kernel) rfl
theorem wq_48 : (Jvm.Cond.methodLink "ExactCurves$Batch" (3 : Nat) ({ cls := "java/lang/Object", name := "<init>", desc := "()V" } : Jvm.MethodName)) ∈ qz_T := qz_mem 92 (by decide +kernel) rfl
theorem wq_49 : (Jvm.Cond.fieldLink "ExactCurves$Batch" (9 : Nat) "ExactCurves$Batch" "players" "[I") ∈ qz_T := qz_mem 93 (by decide +kernel) rfl
theorem wq_50 : (Jvm.Cond.fieldLink "ExactCurves" (339 : Nat) "ExactCurves$Batch" "players" "[I") ∈ qz_T := qz_mem 94 (by decide +kernel) rfl
theorem wq_51 : (Jvm.Cond.fieldLink "ExactCurves$Batch" (15 : Nat) "ExactCurves$Batch" "buys" "[Z") ∈ qz_T := qz_mem 95 (by decide +kernel) rfl
theorem wq_52 : (Jvm.Cond.fieldLink "ExactCurves" (215 : Nat) "ExactCurves$Batch" "buys" "[Z") ∈ qz_T := qz_mem 96 (by decide +kernel) rfl
theorem wq_53 : (Jvm.Cond.fieldLink "ExactCurves$Batch" (19 : Nat) "ExactCurves$Batch" "amounts" "[J") ∈ qz_T := qz_mem 97 (by decide +kernel) rfl
theorem wq_54 : (Jvm.Cond.fieldLink "ExactCurves" (333 : Nat) "ExactCurves$Batch" "amounts" "[J") ∈ qz_T := qz_mem 98 (by decide +kernel) rfl
theorem wq_55 : (Jvm.Cond.fieldLink "ExactCurves$Batch" (23 : Nat) "ExactCurves$Batch" "limits" "[J") ∈ qz_T := qz_mem 99 (by decide +kernel) rfl
theorem wq_56 : (Jvm.Cond.fieldLink "ExactCurves" (336 : Nat) "ExactCurves$Batch" "limits" "[J") ∈ qz_T := qz_mem 100 (by decide +kernel) rfl
theorem wq_57 : (Jvm.Cond.fieldLink "ExactCurves$Batch" (26 : Nat) "ExactCurves$Batch" "parts" "[J") ∈ qz_T := qz_mem 101 (by decide +kernel) rfl
theorem wq_58 : (Jvm.Cond.fieldLink "ExactCurves" (231 : Nat) "ExactCurves$Batch" "parts" "[J") ∈ qz_T := qz_mem 102 (by decide +kernel) rfl
theorem wq_59 : (Jvm.Cond.fieldLink "ExactCurves$Batch" (29 : Nat) "ExactCurves$Batch" "tokenA" "I") ∈ qz_T := qz_mem 103 (by decide +kernel) rfl
theorem wq_60 : (Jvm.Cond.fieldLink "ExactCurves" (187 : Nat) "ExactCurves$Batch" "tokenA" "I") ∈ qz_T := qz_mem 104 (by decide +kernel) rfl
theorem wq_61 : (Jvm.Cond.fieldLink "ExactCurves$Batch" (33 : Nat) "ExactCurves$Batch" "tokenB" "I") ∈ qz_T := qz_mem 105 (by decide +kernel) rfl
theorem wq_62 : (Jvm.Cond.fieldLink "ExactCurves" (190 : Nat) "ExactCurves$Batch" "tokenB" "I") ∈ qz_T := qz_mem 106 (by decide +kernel) rfl
theorem wq_63 : (Jvm.Cond.fieldLink "ExactCurves$Batch" (38 : Nat) "ExactCurves$Batch" "size" "I") ∈ qz_T := qz_mem 107 (by decide +kernel) rfl
theorem wq_64 : (Jvm.Cond.fieldLink "ExactCurves" (184 : Nat) "ExactCurves$Batch" "size" "I") ∈ qz_T := qz_mem 108 (by decide +kernel) rfl
theorem wq_65 : (Jvm.Cond.fieldLink "ExactCurves$Batch" (65 : Nat) "ExactCurves$Batch" "latestSize" "I") ∈ qz_T := qz_mem 109 (by decide +kernel) rfl
theorem wq_66 : (Jvm.Cond.fieldLink "ExactCurves" (228 : Nat) "ExactCurves$Batch" "latestSize" "I") ∈ qz_T := qz_mem 110 (by decide +kernel) rfl
theorem wq_67 : (Jvm.Cond.fieldLink "ExactCurves$Batch" (61 : Nat) "ExactCurves$Batch" "latestDealt" "J") ∈ qz_T := qz_mem 111 (by decide +kernel) rfl
theorem wq_68 : (Jvm.Cond.fieldLink "ExactCurves" (225 : Nat) "ExactCurves$Batch" "latestDealt" "J") ∈ qz_T := qz_mem 112 (by decide +kernel) rfl
theorem wq_69 : (Jvm.Cond.laysFinal "ExactCurves$Batch" "ExactCurves$Batch" "players" "[I") ∈ qz_T := qz_mem 113 (by decide +kernel) rfl
theorem wq_71 : (Jvm.Cond.laysFinal "ExactCurves$Batch" "ExactCurves$Batch" "buys" "[Z") ∈ qz_T := qz_mem 115 (by decide +kernel) rfl
theorem wq_73 : (Jvm.Cond.laysFinal "ExactCurves$Batch" "ExactCurves$Batch" "amounts" "[J") ∈ qz_T := qz_mem 117 (by decide +kernel) rfl
theorem wq_75 : (Jvm.Cond.laysFinal "ExactCurves$Batch" "ExactCurves$Batch" "limits" "[J") ∈ qz_T := qz_mem 119 (by decide +kernel) rfl
theorem wq_77 : (Jvm.Cond.laysFinal "ExactCurves$Batch" "ExactCurves$Batch" "parts" "[J") ∈ qz_T := qz_mem 121 (by decide +kernel) rfl
theorem wq_79 : (Jvm.Cond.lays "ExactCurves$Batch" "ExactCurves$Batch" "tokenA" "I") ∈ qz_T := qz_mem 123 (by decide +kernel) rfl
theorem wq_81 : (Jvm.Cond.lays "ExactCurves$Batch" "ExactCurves$Batch" "tokenB" "I") ∈ qz_T := qz_mem 125 (by decide +kernel) rfl
theorem wq_83 : (Jvm.Cond.lays "ExactCurves$Batch" "ExactCurves$Batch" "size" "I") ∈ qz_T := qz_mem 127 (by decide +kernel) rfl
theorem wq_85 : (Jvm.Cond.lays "ExactCurves$Batch" "ExactCurves$Batch" "latestSize" "I") ∈ qz_T := qz_mem 129 (by decide +kernel) rfl
theorem wq_87 : (Jvm.Cond.lays "ExactCurves$Batch" "ExactCurves$Batch" "latestDealt" "J") ∈ qz_T := qz_mem 131 (by decide +kernel) rfl
theorem wq_90 : (Jvm.Cond.arrayClass Jvm.ClassFile.FieldType.int) ∈ qz_T := qz_mem 134 (by decide +kernel) rfl
theorem wq_91 : (Jvm.Cond.arrayClass Jvm.ClassFile.FieldType.boolean) ∈ qz_T := qz_mem 135 (by decide +kernel) rfl
theorem wq_92 : (Jvm.Cond.classLink "ExactCurves" (35 : Nat) "ExactCurves$Vault") ∈ qz_T := qz_mem 136 (by decide +kernel) rfl
theorem wq_94 : (Jvm.Cond.classLink "ExactCurves" (41 : Nat) "ExactCurves$Loan") ∈ qz_T := qz_mem 138 (by decide +kernel) rfl
theorem wq_96 : (Jvm.Cond.instantiable "ExactCurves$Pool" (10 : Nat)) ∈ qz_T := qz_mem 140 (by decide +kernel) rfl
theorem wq_98 : (Jvm.Cond.instanceMethod ({ cls := "ExactCurves$Pool", name := "<init>", desc := "()V" } : Jvm.MethodName)) ∈ qz_T := qz_mem 142 (by decide +kernel) rfl
theorem wq_99 : (Jvm.Cond.code ({ cls := "ExactCurves$Pool", name := "<init>", desc := "()V" } : Jvm.MethodName) prog_6_method_1_code (1 : Nat) (Option.none : Option Jvm.ClassFile.FieldType)) ∈ qz_T := qz_mem 143 (by decide +kernel) rfl
theorem wq_100 : (Jvm.Cond.methodLink "ExactCurves$Pool" (3 : Nat) ({ cls := "java/lang/Object", name := "<init>", desc := "()V" } : Jvm.MethodName)) ∈ qz_T := qz_mem 144 (by decide +kernel) rfl
theorem wq_101 : (Jvm.Cond.fieldLink "ExactCurves$Pool" (9 : Nat) "ExactCurves$Pool" "sharesOf" "[J") ∈ qz_T := qz_mem 145 (by decide +kernel) rfl
theorem wq_102 : (Jvm.Cond.fieldLink "ExactCurves" (123 : Nat) "ExactCurves$Pool" "sharesOf" "[J") ∈ qz_T := qz_mem 146 (by decide +kernel) rfl
theorem wq_103 : (Jvm.Cond.fieldLink "ExactCurves$Pool" (15 : Nat) "ExactCurves$Pool" "one" "I") ∈ qz_T := qz_mem 147 (by decide +kernel) rfl
theorem wq_104 : (Jvm.Cond.fieldLink "ExactCurves" (83 : Nat) "ExactCurves$Pool" "one" "I") ∈ qz_T := qz_mem 148 (by decide +kernel) rfl
theorem wq_105 : (Jvm.Cond.fieldLink "ExactCurves$Pool" (19 : Nat) "ExactCurves$Pool" "two" "I") ∈ qz_T := qz_mem 149 (by decide +kernel) rfl
theorem wq_106 : (Jvm.Cond.fieldLink "ExactCurves" (86 : Nat) "ExactCurves$Pool" "two" "I") ∈ qz_T := qz_mem 150 (by decide +kernel) rfl
theorem wq_107 : (Jvm.Cond.fieldLink "ExactCurves$Pool" (38 : Nat) "ExactCurves$Pool" "kind" "I") ∈ qz_T := qz_mem 151 (by decide +kernel) rfl
theorem wq_108 : (Jvm.Cond.fieldLink "ExactCurves" (89 : Nat) "ExactCurves$Pool" "kind" "I") ∈ qz_T := qz_mem 152 (by decide +kernel) rfl
theorem wq_109 : (Jvm.Cond.fieldLink "ExactCurves$Pool" (41 : Nat) "ExactCurves$Pool" "fee" "I") ∈ qz_T := qz_mem 153 (by decide +kernel) rfl
theorem wq_110 : (Jvm.Cond.fieldLink "ExactCurves" (92 : Nat) "ExactCurves$Pool" "fee" "I") ∈ qz_T := qz_mem 154 (by decide +kernel) rfl
theorem wq_111 : (Jvm.Cond.fieldLink "ExactCurves$Pool" (22 : Nat) "ExactCurves$Pool" "x" "J") ∈ qz_T := qz_mem 155 (by decide +kernel) rfl
theorem wq_112 : (Jvm.Cond.fieldLink "ExactCurves" (143 : Nat) "ExactCurves$Pool" "x" "J") ∈ qz_T := qz_mem 156 (by decide +kernel) rfl
theorem wq_113 : (Jvm.Cond.fieldLink "ExactCurves$Pool" (26 : Nat) "ExactCurves$Pool" "y" "J") ∈ qz_T := qz_mem 157 (by decide +kernel) rfl
theorem wq_114 : (Jvm.Cond.fieldLink "ExactCurves" (146 : Nat) "ExactCurves$Pool" "y" "J") ∈ qz_T := qz_mem 158 (by decide +kernel) rfl
theorem wq_115 : (Jvm.Cond.fieldLink "ExactCurves$Pool" (29 : Nat) "ExactCurves$Pool" "shares" "J") ∈ qz_T := qz_mem 159 (by decide +kernel) rfl
theorem wq_116 : (Jvm.Cond.fieldLink "ExactCurves" (107 : Nat) "ExactCurves$Pool" "shares" "J") ∈ qz_T := qz_mem 160 (by decide +kernel) rfl
theorem wq_117 : (Jvm.Cond.fieldLink "ExactCurves$Pool" (32 : Nat) "ExactCurves$Pool" "tally" "J") ∈ qz_T := qz_mem 161 (by decide +kernel) rfl
theorem wq_118 : (Jvm.Cond.fieldLink "ExactCurves" (168 : Nat) "ExactCurves$Pool" "tally" "J") ∈ qz_T := qz_mem 162 (by decide +kernel) rfl
theorem wq_119 : (Jvm.Cond.fieldLink "ExactCurves$Pool" (35 : Nat) "ExactCurves$Pool" "age" "J") ∈ qz_T := qz_mem 163 (by decide +kernel) rfl
theorem wq_120 : (Jvm.Cond.fieldLink "ExactCurves" (172 : Nat) "ExactCurves$Pool" "age" "J") ∈ qz_T := qz_mem 164 (by decide +kernel) rfl
theorem wq_121 : (Jvm.Cond.laysFinal "ExactCurves$Pool" "ExactCurves$Pool" "sharesOf" "[J") ∈ qz_T := qz_mem 165 (by decide +kernel) rfl
theorem wq_123 : (Jvm.Cond.lays "ExactCurves$Pool" "ExactCurves$Pool" "one" "I") ∈ qz_T := qz_mem 167 (by decide +kernel) rfl
theorem wq_125 : (Jvm.Cond.lays "ExactCurves$Pool" "ExactCurves$Pool" "two" "I") ∈ qz_T := qz_mem 169 (by decide +kernel) rfl
theorem wq_127 : (Jvm.Cond.lays "ExactCurves$Pool" "ExactCurves$Pool" "kind" "I") ∈ qz_T := qz_mem 171 (by decide +kernel) rfl
theorem wq_129 : (Jvm.Cond.lays "ExactCurves$Pool" "ExactCurves$Pool" "fee" "I") ∈ qz_T := qz_mem 173 (by decide +kernel) rfl
theorem wq_131 : (Jvm.Cond.lays "ExactCurves$Pool" "ExactCurves$Pool" "x" "J") ∈ qz_T := qz_mem 175 (by decide +kernel) rfl
theorem wq_133 : (Jvm.Cond.lays "ExactCurves$Pool" "ExactCurves$Pool" "y" "J") ∈ qz_T := qz_mem 177 (by decide +kernel) rfl
theorem wq_135 : (Jvm.Cond.lays "ExactCurves$Pool" "ExactCurves$Pool" "shares" "J") ∈ qz_T := qz_mem 179 (by decide +kernel) rfl
theorem wq_137 : (Jvm.Cond.lays "ExactCurves$Pool" "ExactCurves$Pool" "tally" "J") ∈ qz_T := qz_mem 181 (by decide +kernel) rfl
theorem wq_139 : (Jvm.Cond.lays "ExactCurves$Pool" "ExactCurves$Pool" "age" "J") ∈ qz_T := qz_mem 183 (by decide +kernel) rfl
theorem wq_142 : (Jvm.Cond.instantiable "ExactCurves$Mark" (4 : Nat)) ∈ qz_T := qz_mem 186 (by decide +kernel) rfl
theorem wq_144 : (Jvm.Cond.instanceMethod ({ cls := "ExactCurves$Mark", name := "<init>", desc := "()V" } : Jvm.MethodName)) ∈ qz_T := qz_mem 188 (by decide +kernel) rfl
theorem wq_145 : (Jvm.Cond.code ({ cls := "ExactCurves$Mark", name := "<init>", desc := "()V" } : Jvm.MethodName) prog_5_method_1_code (1 : Nat) (Option.none : Option Jvm.ClassFile.FieldType)) ∈ qz_T := qz_mem 189 (by decide +kernel) rfl
theorem wq_146 : (Jvm.Cond.methodLink "ExactCurves$Mark" (1 : Nat) ({ cls := "java/lang/Object", name := "<init>", desc := "()V" } : Jvm.MethodName)) ∈ qz_T := qz_mem 190 (by decide +kernel) rfl
theorem wq_147 : (Jvm.Cond.fieldLink "ExactCurves" (161 : Nat) "ExactCurves$Mark" "isSet" "Z") ∈ qz_T := qz_mem 191 (by decide +kernel) rfl
theorem wq_148 : (Jvm.Cond.fieldLink "ExactCurves" (165 : Nat) "ExactCurves$Mark" "poolNumber" "I") ∈ qz_T := qz_mem 192 (by decide +kernel) rfl
theorem wq_149 : (Jvm.Cond.fieldLink "ExactCurves" (171 : Nat) "ExactCurves$Mark" "tally" "J") ∈ qz_T := qz_mem 193 (by decide +kernel) rfl
theorem wq_150 : (Jvm.Cond.fieldLink "ExactCurves" (175 : Nat) "ExactCurves$Mark" "age" "J") ∈ qz_T := qz_mem 194 (by decide +kernel) rfl
theorem wq_151 : (Jvm.Cond.lays "ExactCurves$Mark" "ExactCurves$Mark" "isSet" "Z") ∈ qz_T := qz_mem 195 (by decide +kernel) rfl
theorem wq_153 : (Jvm.Cond.lays "ExactCurves$Mark" "ExactCurves$Mark" "poolNumber" "I") ∈ qz_T := qz_mem 197 (by decide +kernel) rfl
theorem wq_155 : (Jvm.Cond.lays "ExactCurves$Mark" "ExactCurves$Mark" "tally" "J") ∈ qz_T := qz_mem 199 (by decide +kernel) rfl
theorem wq_157 : (Jvm.Cond.lays "ExactCurves$Mark" "ExactCurves$Mark" "age" "J") ∈ qz_T := qz_mem 201 (by decide +kernel) rfl
theorem wq_160 : (Jvm.Cond.instantiable "ExactCurves$Vault" (5 : Nat)) ∈ qz_T := qz_mem 204 (by decide +kernel) rfl
theorem wq_162 : (Jvm.Cond.instanceMethod ({ cls := "ExactCurves$Vault", name := "<init>", desc := "()V" } : Jvm.MethodName)) ∈ qz_T := qz_mem 206 (by decide +kernel) rfl
theorem wq_163 : (Jvm.Cond.code ({ cls := "ExactCurves$Vault", name := "<init>", desc := "()V" } : Jvm.MethodName) prog_8_method_1_code (1 : Nat) (Option.none : Option Jvm.ClassFile.FieldType)) ∈ qz_T := qz_mem 207 (by decide +kernel) rfl
theorem wq_164 : (Jvm.Cond.methodLink "ExactCurves$Vault" (3 : Nat) ({ cls := "java/lang/Object", name := "<init>", desc := "()V" } : Jvm.MethodName)) ∈ qz_T := qz_mem 208 (by decide +kernel) rfl
theorem wq_165 : (Jvm.Cond.constantLong "ExactCurves$Vault" (15 : Nat) (1000000000 : Int64)) ∈ qz_T := qz_mem 209 (by decide +kernel) rfl
theorem wq_166 : (Jvm.Cond.fieldLink "ExactCurves$Vault" (9 : Nat) "ExactCurves$Vault" "partsOf" "[J") ∈ qz_T := qz_mem 210 (by decide +kernel) rfl
theorem wq_167 : (Jvm.Cond.fieldLink "ExactCurves" (251 : Nat) "ExactCurves$Vault" "partsOf" "[J") ∈ qz_T := qz_mem 211 (by decide +kernel) rfl
theorem wq_168 : (Jvm.Cond.fieldLink "ExactCurves$Vault" (21 : Nat) "ExactCurves$Vault" "has" "J") ∈ qz_T := qz_mem 212 (by decide +kernel) rfl
theorem wq_169 : (Jvm.Cond.fieldLink "ExactCurves" (245 : Nat) "ExactCurves$Vault" "has" "J") ∈ qz_T := qz_mem 213 (by decide +kernel) rfl
theorem wq_170 : (Jvm.Cond.fieldLink "ExactCurves$Vault" (24 : Nat) "ExactCurves$Vault" "parts" "J") ∈ qz_T := qz_mem 214 (by decide +kernel) rfl
theorem wq_171 : (Jvm.Cond.fieldLink "ExactCurves" (237 : Nat) "ExactCurves$Vault" "parts" "J") ∈ qz_T := qz_mem 215 (by decide +kernel) rfl
theorem wq_172 : (Jvm.Cond.fieldLink "ExactCurves$Vault" (27 : Nat) "ExactCurves$Vault" "rate" "J") ∈ qz_T := qz_mem 216 (by decide +kernel) rfl
theorem wq_173 : (Jvm.Cond.fieldLink "ExactCurves" (234 : Nat) "ExactCurves$Vault" "rate" "J") ∈ qz_T := qz_mem 217 (by decide +kernel) rfl
theorem wq_174 : (Jvm.Cond.fieldLink "ExactCurves$Vault" (17 : Nat) "ExactCurves$Vault" "index" "J") ∈ qz_T := qz_mem 218 (by decide +kernel) rfl
theorem wq_175 : (Jvm.Cond.laysFinal "ExactCurves$Vault" "ExactCurves$Vault" "partsOf" "[J") ∈ qz_T := qz_mem 219 (by decide +kernel) rfl
theorem wq_177 : (Jvm.Cond.lays "ExactCurves$Vault" "ExactCurves$Vault" "has" "J") ∈ qz_T := qz_mem 221 (by decide +kernel) rfl
theorem wq_179 : (Jvm.Cond.lays "ExactCurves$Vault" "ExactCurves$Vault" "parts" "J") ∈ qz_T := qz_mem 223 (by decide +kernel) rfl
theorem wq_181 : (Jvm.Cond.lays "ExactCurves$Vault" "ExactCurves$Vault" "rate" "J") ∈ qz_T := qz_mem 225 (by decide +kernel) rfl
theorem wq_183 : (Jvm.Cond.lays "ExactCurves$Vault" "ExactCurves$Vault" "index" "J") ∈ qz_T := qz_mem 227 (by decide +kernel) rfl
theorem wq_186 : (Jvm.Cond.instantiable "ExactCurves$Loan" (6 : Nat)) ∈ qz_T := qz_mem 230 (by decide +kernel) rfl
theorem wq_188 : (Jvm.Cond.instanceMethod ({ cls := "ExactCurves$Loan", name := "<init>", desc := "()V" } : Jvm.MethodName)) ∈ qz_T := qz_mem 232 (by decide +kernel) rfl
theorem wq_189 : (Jvm.Cond.code ({ cls := "ExactCurves$Loan", name := "<init>", desc := "()V" } : Jvm.MethodName) prog_4_method_1_code (1 : Nat) (Option.none : Option Jvm.ClassFile.FieldType)) ∈ qz_T := qz_mem 233 (by decide +kernel) rfl
theorem wq_190 : (Jvm.Cond.methodLink "ExactCurves$Loan" (1 : Nat) ({ cls := "java/lang/Object", name := "<init>", desc := "()V" } : Jvm.MethodName)) ∈ qz_T := qz_mem 234 (by decide +kernel) rfl
theorem wq_191 : (Jvm.Cond.fieldLink "ExactCurves$Loan" (7 : Nat) "ExactCurves$Loan" "isOpen" "Z") ∈ qz_T := qz_mem 235 (by decide +kernel) rfl
theorem wq_192 : (Jvm.Cond.fieldLink "ExactCurves" (314 : Nat) "ExactCurves$Loan" "isOpen" "Z") ∈ qz_T := qz_mem 236 (by decide +kernel) rfl
theorem wq_193 : (Jvm.Cond.fieldLink "ExactCurves$Loan" (13 : Nat) "ExactCurves$Loan" "player" "I") ∈ qz_T := qz_mem 237 (by decide +kernel) rfl
theorem wq_194 : (Jvm.Cond.fieldLink "ExactCurves" (278 : Nat) "ExactCurves$Loan" "player" "I") ∈ qz_T := qz_mem 238 (by decide +kernel) rfl
theorem wq_195 : (Jvm.Cond.fieldLink "ExactCurves$Loan" (17 : Nat) "ExactCurves$Loan" "poolNumber" "I") ∈ qz_T := qz_mem 239 (by decide +kernel) rfl
theorem wq_196 : (Jvm.Cond.fieldLink "ExactCurves" (281 : Nat) "ExactCurves$Loan" "poolNumber" "I") ∈ qz_T := qz_mem 240 (by decide +kernel) rfl
theorem wq_197 : (Jvm.Cond.fieldLink "ExactCurves$Loan" (20 : Nat) "ExactCurves$Loan" "side" "I") ∈ qz_T := qz_mem 241 (by decide +kernel) rfl
theorem wq_198 : (Jvm.Cond.fieldLink "ExactCurves" (282 : Nat) "ExactCurves$Loan" "side" "I") ∈ qz_T := qz_mem 242 (by decide +kernel) rfl
theorem wq_199 : (Jvm.Cond.fieldLink "ExactCurves$Loan" (23 : Nat) "ExactCurves$Loan" "cover" "J") ∈ qz_T := qz_mem 243 (by decide +kernel) rfl
theorem wq_200 : (Jvm.Cond.fieldLink "ExactCurves" (285 : Nat) "ExactCurves$Loan" "cover" "J") ∈ qz_T := qz_mem 244 (by decide +kernel) rfl
theorem wq_201 : (Jvm.Cond.fieldLink "ExactCurves$Loan" (27 : Nat) "ExactCurves$Loan" "units" "J") ∈ qz_T := qz_mem 245 (by decide +kernel) rfl
theorem wq_202 : (Jvm.Cond.fieldLink "ExactCurves" (288 : Nat) "ExactCurves$Loan" "units" "J") ∈ qz_T := qz_mem 246 (by decide +kernel) rfl
theorem wq_203 : (Jvm.Cond.lays "ExactCurves$Loan" "ExactCurves$Loan" "isOpen" "Z") ∈ qz_T := qz_mem 247 (by decide +kernel) rfl
theorem wq_205 : (Jvm.Cond.lays "ExactCurves$Loan" "ExactCurves$Loan" "player" "I") ∈ qz_T := qz_mem 249 (by decide +kernel) rfl
theorem wq_207 : (Jvm.Cond.lays "ExactCurves$Loan" "ExactCurves$Loan" "poolNumber" "I") ∈ qz_T := qz_mem 251 (by decide +kernel) rfl
theorem wq_209 : (Jvm.Cond.lays "ExactCurves$Loan" "ExactCurves$Loan" "side" "I") ∈ qz_T := qz_mem 253 (by decide +kernel) rfl
theorem wq_211 : (Jvm.Cond.lays "ExactCurves$Loan" "ExactCurves$Loan" "cover" "J") ∈ qz_T := qz_mem 255 (by decide +kernel) rfl
theorem wq_213 : (Jvm.Cond.lays "ExactCurves$Loan" "ExactCurves$Loan" "units" "J") ∈ qz_T := qz_mem 257 (by decide +kernel) rfl
theorem wq_216 : (Jvm.Cond.fieldLink "ExactCurves" (10 : Nat) "ExactCurves" "purses" "LExactCurves$Purses;") ∈ qz_T := qz_mem 260 (by decide +kernel) rfl
theorem wq_217 : (Jvm.Cond.fieldLink "ExactCurves" (18 : Nat) "ExactCurves" "pools" "[LExactCurves$Pool;") ∈ qz_T := qz_mem 261 (by decide +kernel) rfl
theorem wq_218 : (Jvm.Cond.fieldLink "ExactCurves" (24 : Nat) "ExactCurves" "marks" "[LExactCurves$Mark;") ∈ qz_T := qz_mem 262 (by decide +kernel) rfl
theorem wq_219 : (Jvm.Cond.fieldLink "ExactCurves" (31 : Nat) "ExactCurves" "orders" "LExactCurves$Batch;") ∈ qz_T := qz_mem 263 (by decide +kernel) rfl
theorem wq_220 : (Jvm.Cond.fieldLink "ExactCurves" (37 : Nat) "ExactCurves" "vaults" "[LExactCurves$Vault;") ∈ qz_T := qz_mem 264 (by decide +kernel) rfl
theorem wq_221 : (Jvm.Cond.fieldLink "ExactCurves" (43 : Nat) "ExactCurves" "loans" "[LExactCurves$Loan;") ∈ qz_T := qz_mem 265 (by decide +kernel) rfl
theorem wq_222 : (Jvm.Cond.fieldLink "ExactCurves" (79 : Nat) "ExactCurves" "poolCount" "I") ∈ qz_T := qz_mem 266 (by decide +kernel) rfl
theorem wq_223 : (Jvm.Cond.fieldLink "ExactCurves" (158 : Nat) "ExactCurves" "clock" "I") ∈ qz_T := qz_mem 267 (by decide +kernel) rfl
theorem wq_224 : (Jvm.Cond.laysFinal "ExactCurves" "ExactCurves" "purses" "LExactCurves$Purses;") ∈ qz_T := qz_mem 268 (by decide +kernel) rfl
theorem wq_226 : (Jvm.Cond.laysFinal "ExactCurves" "ExactCurves" "pools" "[LExactCurves$Pool;") ∈ qz_T := qz_mem 270 (by decide +kernel) rfl
theorem wq_228 : (Jvm.Cond.laysFinal "ExactCurves" "ExactCurves" "marks" "[LExactCurves$Mark;") ∈ qz_T := qz_mem 272 (by decide +kernel) rfl
theorem wq_230 : (Jvm.Cond.laysFinal "ExactCurves" "ExactCurves" "orders" "LExactCurves$Batch;") ∈ qz_T := qz_mem 274 (by decide +kernel) rfl
theorem wq_232 : (Jvm.Cond.laysFinal "ExactCurves" "ExactCurves" "vaults" "[LExactCurves$Vault;") ∈ qz_T := qz_mem 276 (by decide +kernel) rfl
theorem wq_234 : (Jvm.Cond.laysFinal "ExactCurves" "ExactCurves" "loans" "[LExactCurves$Loan;") ∈ qz_T := qz_mem 278 (by decide +kernel) rfl
theorem wq_236 : (Jvm.Cond.lays "ExactCurves" "ExactCurves" "poolCount" "I") ∈ qz_T := qz_mem 280 (by decide +kernel) rfl
theorem wq_238 : (Jvm.Cond.lays "ExactCurves" "ExactCurves" "clock" "I") ∈ qz_T := qz_mem 282 (by decide +kernel) rfl
theorem wq_241 : (Jvm.Cond.methodLink "ExactCurvesLaw" (15 : Nat) ({ cls := "ExactCurves", name := "mint", desc := "(IIJ)J" } : Jvm.MethodName)) ∈ qz_T := qz_mem 285 (by decide +kernel) rfl
theorem wq_242 : (Jvm.Cond.instanceMethod ({ cls := "ExactCurves", name := "mint", desc := "(IIJ)J" } : Jvm.MethodName)) ∈ qz_T := qz_mem 286 (by decide +kernel) rfl
theorem wq_243 : (Jvm.Cond.selects "ExactCurves" ({ cls := "ExactCurves", name := "mint", desc := "(IIJ)J" } : Jvm.MethodName) ({ cls := "ExactCurves", name := "mint", desc := "(IIJ)J" } : Jvm.MethodName)) ∈ qz_T := qz_mem 287 (by decide +kernel) rfl
theorem wq_244 : (Jvm.Cond.code ({ cls := "ExactCurves", name := "mint", desc := "(IIJ)J" } : Jvm.MethodName) prog_1_method_2_code (5 : Nat) (Option.some Jvm.ClassFile.FieldType.long)) ∈ qz_T := qz_mem 288 (by decide +kernel) rfl
theorem wq_245 : (Jvm.Cond.methodLink "ExactCurves" (51 : Nat) ({ cls := "ExactCurves", name := "isPlayer", desc := "(I)Z" } : Jvm.MethodName)) ∈ qz_T := qz_mem 289 (by decide +kernel) rfl
theorem wq_246 : (Jvm.Cond.static ({ cls := "ExactCurves", name := "isPlayer", desc := "(I)Z" } : Jvm.MethodName)) ∈ qz_T := qz_mem 290 (by decide +kernel) rfl
theorem wq_247 : (Jvm.Cond.code ({ cls := "ExactCurves", name := "isPlayer", desc := "(I)Z" } : Jvm.MethodName) prog_1_method_29_code (1 : Nat) (Option.some Jvm.ClassFile.FieldType.boolean)) ∈ qz_T := qz_mem 291 (by decide +kernel) rfl
theorem wq_248 : (Jvm.Cond.methodLink "ExactCurves" (55 : Nat) ({ cls := "ExactCurves", name := "isToken", desc := "(I)Z" } : Jvm.MethodName)) ∈ qz_T := qz_mem 292 (by decide +kernel) rfl
theorem wq_249 : (Jvm.Cond.static ({ cls := "ExactCurves", name := "isToken", desc := "(I)Z" } : Jvm.MethodName)) ∈ qz_T := qz_mem 293 (by decide +kernel) rfl
theorem wq_250 : (Jvm.Cond.code ({ cls := "ExactCurves", name := "isToken", desc := "(I)Z" } : Jvm.MethodName) prog_1_method_30_code (1 : Nat) (Option.some Jvm.ClassFile.FieldType.boolean)) ∈ qz_T := qz_mem 294 (by decide +kernel) rfl
theorem wq_251 : (Jvm.Cond.constantLong "ExactCurves" (58 : Nat) (100000000000000 : Int64)) ∈ qz_T := qz_mem 295 (by decide +kernel) rfl
theorem wq_252 : (Jvm.Cond.constantLong "ExactCurves" (60 : Nat) (-2 : Int64)) ∈ qz_T := qz_mem 296 (by decide +kernel) rfl
theorem wq_253 : (Jvm.Cond.constantLong "ExactCurves" (66 : Nat) (-3 : Int64)) ∈ qz_T := qz_mem 297 (by decide +kernel) rfl
theorem wq_254 : (Jvm.Cond.methodLink "ExactCurves" (68 : Nat) ({ cls := "ExactCurves$Purses", name := "give", desc := "(IIJ)V" } : Jvm.MethodName)) ∈ qz_T := qz_mem 298 (by decide +kernel) rfl
theorem wq_255 : (Jvm.Cond.instanceMethod ({ cls := "ExactCurves$Purses", name := "give", desc := "(IIJ)V" } : Jvm.MethodName)) ∈ qz_T := qz_mem 299 (by decide +kernel) rfl
theorem wq_256 : (Jvm.Cond.selects "ExactCurves$Purses" ({ cls := "ExactCurves$Purses", name := "give", desc := "(IIJ)V" } : Jvm.MethodName) ({ cls := "ExactCurves$Purses", name := "give", desc := "(IIJ)V" } : Jvm.MethodName)) ∈ qz_T := qz_mem 300 (by decide +kernel) rfl
theorem wq_257 : (Jvm.Cond.code ({ cls := "ExactCurves$Purses", name := "give", desc := "(IIJ)V" } : Jvm.MethodName) prog_7_method_3_code (5 : Nat) (Option.none : Option Jvm.ClassFile.FieldType)) ∈ qz_T := qz_mem 301 (by decide +kernel) rfl
theorem wq_258 : (Jvm.Cond.methodLink "ExactCurves" (72 : Nat) ({ cls := "ExactCurves$Purses", name := "held", desc := "(II)J" } : Jvm.MethodName)) ∈ qz_T := qz_mem 302 (by decide +kernel) rfl
theorem wq_259 : (Jvm.Cond.instanceMethod ({ cls := "ExactCurves$Purses", name := "held", desc := "(II)J" } : Jvm.MethodName)) ∈ qz_T := qz_mem 303 (by decide +kernel) rfl
theorem wq_260 : (Jvm.Cond.selects "ExactCurves$Purses" ({ cls := "ExactCurves$Purses", name := "held", desc := "(II)J" } : Jvm.MethodName) ({ cls := "ExactCurves$Purses", name := "held", desc := "(II)J" } : Jvm.MethodName)) ∈ qz_T := qz_mem 304 (by decide +kernel) rfl
theorem wq_261 : (Jvm.Cond.code ({ cls := "ExactCurves$Purses", name := "held", desc := "(II)J" } : Jvm.MethodName) prog_7_method_2_code (3 : Nat) (Option.some Jvm.ClassFile.FieldType.long)) ∈ qz_T := qz_mem 305 (by decide +kernel) rfl
theorem wq_262 : (Jvm.Cond.methodLink "ExactCurvesLaw" (20 : Nat) ({ cls := "ExactCurves", name := "balance", desc := "(II)J" } : Jvm.MethodName)) ∈ qz_T := qz_mem 306 (by decide +kernel) rfl
theorem wq_263 : (Jvm.Cond.instanceMethod ({ cls := "ExactCurves", name := "balance", desc := "(II)J" } : Jvm.MethodName)) ∈ qz_T := qz_mem 307 (by decide +kernel) rfl
theorem wq_264 : (Jvm.Cond.selects "ExactCurves" ({ cls := "ExactCurves", name := "balance", desc := "(II)J" } : Jvm.MethodName) ({ cls := "ExactCurves", name := "balance", desc := "(II)J" } : Jvm.MethodName)) ∈ qz_T := qz_mem 308 (by decide +kernel) rfl
theorem wq_265 : (Jvm.Cond.code ({ cls := "ExactCurves", name := "balance", desc := "(II)J" } : Jvm.MethodName) prog_1_method_3_code (3 : Nat) (Option.some Jvm.ClassFile.FieldType.long)) ∈ qz_T := qz_mem 309 (by decide +kernel) rfl
theorem wq_266 : (Jvm.Cond.methodLink "ExactCurvesLaw" (25 : Nat) ({ cls := "ExactCurves", name := "total", desc := "(I)J" } : Jvm.MethodName)) ∈ qz_T := qz_mem 310 (by decide +kernel) rfl
theorem wq_267 : (Jvm.Cond.instanceMethod ({ cls := "ExactCurves", name := "total", desc := "(I)J" } : Jvm.MethodName)) ∈ qz_T := qz_mem 311 (by decide +kernel) rfl
theorem wq_268 : (Jvm.Cond.selects "ExactCurves" ({ cls := "ExactCurves", name := "total", desc := "(I)J" } : Jvm.MethodName) ({ cls := "ExactCurves", name := "total", desc := "(I)J" } : Jvm.MethodName)) ∈ qz_T := qz_mem 312 (by decide +kernel) rfl
theorem wq_269 : (Jvm.Cond.code ({ cls := "ExactCurves", name := "total", desc := "(I)J" } : Jvm.MethodName) prog_1_method_4_code (2 : Nat) (Option.some Jvm.ClassFile.FieldType.long)) ∈ qz_T := qz_mem 313 (by decide +kernel) rfl
theorem wq_270 : (Jvm.Cond.methodLink "ExactCurvesLaw" (30 : Nat) ({ cls := "ExactCurves", name := "house", desc := "(I)J" } : Jvm.MethodName)) ∈ qz_T := qz_mem 314 (by decide +kernel) rfl
theorem wq_271 : (Jvm.Cond.instanceMethod ({ cls := "ExactCurves", name := "house", desc := "(I)J" } : Jvm.MethodName)) ∈ qz_T := qz_mem 315 (by decide +kernel) rfl
theorem wq_272 : (Jvm.Cond.selects "ExactCurves" ({ cls := "ExactCurves", name := "house", desc := "(I)J" } : Jvm.MethodName) ({ cls := "ExactCurves", name := "house", desc := "(I)J" } : Jvm.MethodName)) ∈ qz_T := qz_mem 316 (by decide +kernel) rfl
theorem wq_273 : (Jvm.Cond.code ({ cls := "ExactCurves", name := "house", desc := "(I)J" } : Jvm.MethodName) prog_1_method_5_code (2 : Nat) (Option.some Jvm.ClassFile.FieldType.long)) ∈ qz_T := qz_mem 317 (by decide +kernel) rfl
theorem wq_274 : (Jvm.Cond.methodLink "ExactCurvesLaw" (34 : Nat) ({ cls := "ExactCurves", name := "pool", desc := "(IIII)I" } : Jvm.MethodName)) ∈ qz_T := qz_mem 318 (by decide +kernel) rfl
theorem wq_275 : (Jvm.Cond.instanceMethod ({ cls := "ExactCurves", name := "pool", desc := "(IIII)I" } : Jvm.MethodName)) ∈ qz_T := qz_mem 319 (by decide +kernel) rfl
theorem wq_276 : (Jvm.Cond.selects "ExactCurves" ({ cls := "ExactCurves", name := "pool", desc := "(IIII)I" } : Jvm.MethodName) ({ cls := "ExactCurves", name := "pool", desc := "(IIII)I" } : Jvm.MethodName)) ∈ qz_T := qz_mem 320 (by decide +kernel) rfl
theorem wq_277 : (Jvm.Cond.code ({ cls := "ExactCurves", name := "pool", desc := "(IIII)I" } : Jvm.MethodName) prog_1_method_6_code (6 : Nat) (Option.some Jvm.ClassFile.FieldType.int)) ∈ qz_T := qz_mem 321 (by decide +kernel) rfl
theorem wq_278 : (Jvm.Cond.methodLink "ExactCurvesLaw" (39 : Nat) ({ cls := "ExactCurves", name := "of", desc := "(II)J" } : Jvm.MethodName)) ∈ qz_T := qz_mem 322 (by decide +kernel) rfl
theorem wq_279 : (Jvm.Cond.instanceMethod ({ cls := "ExactCurves", name := "of", desc := "(II)J" } : Jvm.MethodName)) ∈ qz_T := qz_mem 323 (by decide +kernel) rfl
theorem wq_280 : (Jvm.Cond.selects "ExactCurves" ({ cls := "ExactCurves", name := "of", desc := "(II)J" } : Jvm.MethodName) ({ cls := "ExactCurves", name := "of", desc := "(II)J" } : Jvm.MethodName)) ∈ qz_T := qz_mem 324 (by decide +kernel) rfl
theorem wq_281 : (Jvm.Cond.code ({ cls := "ExactCurves", name := "of", desc := "(II)J" } : Jvm.MethodName) prog_1_method_7_code (4 : Nat) (Option.some Jvm.ClassFile.FieldType.long)) ∈ qz_T := qz_mem 325 (by decide +kernel) rfl
theorem wq_282 : (Jvm.Cond.methodLink "ExactCurves" (95 : Nat) ({ cls := "ExactCurves", name := "poolAt", desc := "(I)LExactCurves$Pool;" } : Jvm.MethodName)) ∈ qz_T := qz_mem 326 (by decide +kernel) rfl
theorem wq_284 : (Jvm.Cond.instanceMethod ({ cls := "ExactCurves", name := "poolAt", desc := "(I)LExactCurves$Pool;" } : Jvm.MethodName)) ∈ qz_T := qz_mem 328 (by decide +kernel) rfl
theorem wq_285 : (Jvm.Cond.code ({ cls := "ExactCurves", name := "poolAt", desc := "(I)LExactCurves$Pool;" } : Jvm.MethodName) prog_1_method_32_code (2 : Nat) (Option.some (Jvm.ClassFile.FieldType.object "ExactCurves$Pool"))) ∈ qz_T := qz_mem 329 (by decide +kernel) rfl
theorem wq_286 : (Jvm.Cond.methodLink "ExactCurves" (99 : Nat) ({ cls := "ExactCurves$Pool", name := "told", desc := "(I)J" } : Jvm.MethodName)) ∈ qz_T := qz_mem 330 (by decide +kernel) rfl
theorem wq_287 : (Jvm.Cond.instanceMethod ({ cls := "ExactCurves$Pool", name := "told", desc := "(I)J" } : Jvm.MethodName)) ∈ qz_T := qz_mem 331 (by decide +kernel) rfl
theorem wq_288 : (Jvm.Cond.selects "ExactCurves$Pool" ({ cls := "ExactCurves$Pool", name := "told", desc := "(I)J" } : Jvm.MethodName) ({ cls := "ExactCurves$Pool", name := "told", desc := "(I)J" } : Jvm.MethodName)) ∈ qz_T := qz_mem 332 (by decide +kernel) rfl
theorem wq_289 : (Jvm.Cond.code ({ cls := "ExactCurves$Pool", name := "told", desc := "(I)J" } : Jvm.MethodName) prog_6_method_6_code (2 : Nat) (Option.some Jvm.ClassFile.FieldType.long)) ∈ qz_T := qz_mem 333 (by decide +kernel) rfl
theorem wq_290 : (Jvm.Cond.constantLong "ExactCurves$Pool" (44 : Nat) (-2 : Int64)) ∈ qz_T := qz_mem 334 (by decide +kernel) rfl
theorem wq_291 : (Jvm.Cond.methodLink "ExactCurvesLaw" (43 : Nat) ({ cls := "ExactCurves", name := "join", desc := "(IIJJ)J" } : Jvm.MethodName)) ∈ qz_T := qz_mem 335 (by decide +kernel) rfl
theorem wq_292 : (Jvm.Cond.instanceMethod ({ cls := "ExactCurves", name := "join", desc := "(IIJJ)J" } : Jvm.MethodName)) ∈ qz_T := qz_mem 336 (by decide +kernel) rfl
theorem wq_293 : (Jvm.Cond.selects "ExactCurves" ({ cls := "ExactCurves", name := "join", desc := "(IIJJ)J" } : Jvm.MethodName) ({ cls := "ExactCurves", name := "join", desc := "(IIJJ)J" } : Jvm.MethodName)) ∈ qz_T := qz_mem 337 (by decide +kernel) rfl
theorem wq_294 : (Jvm.Cond.code ({ cls := "ExactCurves", name := "join", desc := "(IIJJ)J" } : Jvm.MethodName) prog_1_method_8_code (15 : Nat) (Option.some Jvm.ClassFile.FieldType.long)) ∈ qz_T := qz_mem 338 (by decide +kernel) rfl
theorem wq_295 : (Jvm.Cond.methodLink "ExactCurves" (103 : Nat) ({ cls := "ExactCurves$Pool", name := "sharesFor", desc := "(JJ)J" } : Jvm.MethodName)) ∈ qz_T := qz_mem 339 (by decide +kernel) rfl
theorem wq_296 : (Jvm.Cond.instanceMethod ({ cls := "ExactCurves$Pool", name := "sharesFor", desc := "(JJ)J" } : Jvm.MethodName)) ∈ qz_T := qz_mem 340 (by decide +kernel) rfl
theorem wq_297 : (Jvm.Cond.selects "ExactCurves$Pool" ({ cls := "ExactCurves$Pool", name := "sharesFor", desc := "(JJ)J" } : Jvm.MethodName) ({ cls := "ExactCurves$Pool", name := "sharesFor", desc := "(JJ)J" } : Jvm.MethodName)) ∈ qz_T := qz_mem 341 (by decide +kernel) rfl
theorem wq_298 : (Jvm.Cond.code ({ cls := "ExactCurves$Pool", name := "sharesFor", desc := "(JJ)J" } : Jvm.MethodName) prog_6_method_7_code (5 : Nat) (Option.some Jvm.ClassFile.FieldType.long)) ∈ qz_T := qz_mem 342 (by decide +kernel) rfl
theorem wq_299 : (Jvm.Cond.methodLink "ExactCurves$Pool" (46 : Nat) ({ cls := "ExactCurves$Exact", name := "rootOfProduct", desc := "(JJ)J" } : Jvm.MethodName)) ∈ qz_T := qz_mem 343 (by decide +kernel) rfl
theorem wq_300 : (Jvm.Cond.static ({ cls := "ExactCurves$Exact", name := "rootOfProduct", desc := "(JJ)J" } : Jvm.MethodName)) ∈ qz_T := qz_mem 344 (by decide +kernel) rfl
theorem wq_301 : (Jvm.Cond.code ({ cls := "ExactCurves$Exact", name := "rootOfProduct", desc := "(JJ)J" } : Jvm.MethodName) prog_3_method_7_code (8 : Nat) (Option.some Jvm.ClassFile.FieldType.long)) ∈ qz_T := qz_mem 345 (by decide +kernel) rfl
theorem wq_302 : (Jvm.Cond.constantLong "ExactCurves$Exact" (32 : Nat) (70368744177664 : Int64)) ∈ qz_T := qz_mem 346 (by decide +kernel) rfl
theorem wq_303 : (Jvm.Cond.methodLink "ExactCurves$Exact" (34 : Nat) ({ cls := "ExactCurves$Exact", name := "compareProducts", desc := "(JJJJ)I" } : Jvm.MethodName)) ∈ qz_T := qz_mem 347 (by decide +kernel) rfl
theorem wq_304 : (Jvm.Cond.static ({ cls := "ExactCurves$Exact", name := "compareProducts", desc := "(JJJJ)I" } : Jvm.MethodName)) ∈ qz_T := qz_mem 348 (by decide +kernel) rfl
theorem wq_305 : (Jvm.Cond.code ({ cls := "ExactCurves$Exact", name := "compareProducts", desc := "(JJJJ)I" } : Jvm.MethodName) prog_3_method_6_code (9 : Nat) (Option.some Jvm.ClassFile.FieldType.int)) ∈ qz_T := qz_mem 349 (by decide +kernel) rfl
theorem wq_306 : (Jvm.Cond.methodLink "ExactCurves$Exact" (15 : Nat) ({ cls := "ExactCurves$Exact", name := "highOf", desc := "(JJ)J" } : Jvm.MethodName)) ∈ qz_T := qz_mem 350 (by decide +kernel) rfl
theorem wq_307 : (Jvm.Cond.static ({ cls := "ExactCurves$Exact", name := "highOf", desc := "(JJ)J" } : Jvm.MethodName)) ∈ qz_T := qz_mem 351 (by decide +kernel) rfl
theorem wq_308 : (Jvm.Cond.code ({ cls := "ExactCurves$Exact", name := "highOf", desc := "(JJ)J" } : Jvm.MethodName) prog_3_method_2_code (16 : Nat) (Option.some Jvm.ClassFile.FieldType.long)) ∈ qz_T := qz_mem 352 (by decide +kernel) rfl
theorem wq_309 : (Jvm.Cond.constantLong "ExactCurves$Exact" (9 : Nat) (4294967295 : Int64)) ∈ qz_T := qz_mem 353 (by decide +kernel) rfl
theorem wq_310 : (Jvm.Cond.methodLink "ExactCurves$Exact" (26 : Nat) ({ cls := "java/lang/Long", name := "compare", desc := "(JJ)I" } : Jvm.MethodName)) ∈ qz_T := qz_mem 354 (by decide +kernel) rfl
theorem wq_311 : (Jvm.Cond.static ({ cls := "java/lang/Long", name := "compare", desc := "(JJ)I" } : Jvm.MethodName)) ∈ qz_T := qz_mem 355 (by decide +kernel) rfl
theorem wq_312 : (Jvm.Cond.code ({ cls := "java/lang/Long", name := "compare", desc := "(JJ)I" } : Jvm.MethodName) prog_11_method_42_code (4 : Nat) (Option.some Jvm.ClassFile.FieldType.int)) ∈ qz_T := qz_mem 356 (by decide +kernel) rfl
theorem wq_313 : (Jvm.Cond.constantLong "ExactCurves$Exact" (30 : Nat) (-9223372036854775808 : Int64)) ∈ qz_T := qz_mem 357 (by decide +kernel) rfl
theorem wq_314 : (Jvm.Cond.methodLink "ExactCurves$Pool" (52 : Nat) ({ cls := "ExactCurves$Pool", name := "sharesBy", desc := "(JJ)J" } : Jvm.MethodName)) ∈ qz_T := qz_mem 358 (by decide +kernel) rfl
theorem wq_316 : (Jvm.Cond.instanceMethod ({ cls := "ExactCurves$Pool", name := "sharesBy", desc := "(JJ)J" } : Jvm.MethodName)) ∈ qz_T := qz_mem 360 (by decide +kernel) rfl
theorem wq_317 : (Jvm.Cond.code ({ cls := "ExactCurves$Pool", name := "sharesBy", desc := "(JJ)J" } : Jvm.MethodName) prog_6_method_8_code (5 : Nat) (Option.some Jvm.ClassFile.FieldType.long)) ∈ qz_T := qz_mem 361 (by decide +kernel) rfl
theorem wq_318 : (Jvm.Cond.constantLong "ExactCurves$Pool" (62 : Nat) (9223372036854775807 : Int64)) ∈ qz_T := qz_mem 362 (by decide +kernel) rfl
theorem wq_319 : (Jvm.Cond.methodLink "ExactCurves$Pool" (64 : Nat) ({ cls := "ExactCurves$Exact", name := "timesOver", desc := "(JJJ)J" } : Jvm.MethodName)) ∈ qz_T := qz_mem 363 (by decide +kernel) rfl
theorem wq_320 : (Jvm.Cond.static ({ cls := "ExactCurves$Exact", name := "timesOver", desc := "(JJJ)J" } : Jvm.MethodName)) ∈ qz_T := qz_mem 364 (by decide +kernel) rfl
theorem wq_321 : (Jvm.Cond.code ({ cls := "ExactCurves$Exact", name := "timesOver", desc := "(JJJ)J" } : Jvm.MethodName) prog_3_method_4_code (6 : Nat) (Option.some Jvm.ClassFile.FieldType.long)) ∈ qz_T := qz_mem 365 (by decide +kernel) rfl
theorem wq_322 : (Jvm.Cond.methodLink "ExactCurves$Exact" (19 : Nat) ({ cls := "ExactCurves$Exact", name := "over", desc := "(JJJ)J" } : Jvm.MethodName)) ∈ qz_T := qz_mem 366 (by decide +kernel) rfl
theorem wq_323 : (Jvm.Cond.static ({ cls := "ExactCurves$Exact", name := "over", desc := "(JJJ)J" } : Jvm.MethodName)) ∈ qz_T := qz_mem 367 (by decide +kernel) rfl
theorem wq_324 : (Jvm.Cond.code ({ cls := "ExactCurves$Exact", name := "over", desc := "(JJJ)J" } : Jvm.MethodName) prog_3_method_3_code (11 : Nat) (Option.some Jvm.ClassFile.FieldType.long)) ∈ qz_T := qz_mem 368 (by decide +kernel) rfl
theorem wq_325 : (Jvm.Cond.constantLong "ExactCurves$Exact" (13 : Nat) (9223372036854775807 : Int64)) ∈ qz_T := qz_mem 369 (by decide +kernel) rfl
theorem wq_326 : (Jvm.Cond.methodLink "ExactCurves$Pool" (55 : Nat) ({ cls := "java/lang/Math", name := "min", desc := "(JJ)J" } : Jvm.MethodName)) ∈ qz_T := qz_mem 370 (by decide +kernel) rfl
theorem wq_327 : (Jvm.Cond.static ({ cls := "java/lang/Math", name := "min", desc := "(JJ)J" } : Jvm.MethodName)) ∈ qz_T := qz_mem 371 (by decide +kernel) rfl
theorem wq_329 : (Jvm.Cond.methodLink "ExactCurves" (111 : Nat) ({ cls := "ExactCurves$Pool", name := "costOf", desc := "(JI)J" } : Jvm.MethodName)) ∈ qz_T := qz_mem 373 (by decide +kernel) rfl
theorem wq_330 : (Jvm.Cond.instanceMethod ({ cls := "ExactCurves$Pool", name := "costOf", desc := "(JI)J" } : Jvm.MethodName)) ∈ qz_T := qz_mem 374 (by decide +kernel) rfl
theorem wq_331 : (Jvm.Cond.selects "ExactCurves$Pool" ({ cls := "ExactCurves$Pool", name := "costOf", desc := "(JI)J" } : Jvm.MethodName) ({ cls := "ExactCurves$Pool", name := "costOf", desc := "(JI)J" } : Jvm.MethodName)) ∈ qz_T := qz_mem 375 (by decide +kernel) rfl
theorem wq_332 : (Jvm.Cond.code ({ cls := "ExactCurves$Pool", name := "costOf", desc := "(JI)J" } : Jvm.MethodName) prog_6_method_9_code (4 : Nat) (Option.some Jvm.ClassFile.FieldType.long)) ∈ qz_T := qz_mem 376 (by decide +kernel) rfl
theorem wq_333 : (Jvm.Cond.methodLink "ExactCurves$Pool" (68 : Nat) ({ cls := "ExactCurves$Pool", name := "reserveAt", desc := "(I)J" } : Jvm.MethodName)) ∈ qz_T := qz_mem 377 (by decide +kernel) rfl
theorem wq_334 : (Jvm.Cond.instanceMethod ({ cls := "ExactCurves$Pool", name := "reserveAt", desc := "(I)J" } : Jvm.MethodName)) ∈ qz_T := qz_mem 378 (by decide +kernel) rfl
theorem wq_335 : (Jvm.Cond.selects "ExactCurves$Pool" ({ cls := "ExactCurves$Pool", name := "reserveAt", desc := "(I)J" } : Jvm.MethodName) ({ cls := "ExactCurves$Pool", name := "reserveAt", desc := "(I)J" } : Jvm.MethodName)) ∈ qz_T := qz_mem 379 (by decide +kernel) rfl
theorem wq_336 : (Jvm.Cond.code ({ cls := "ExactCurves$Pool", name := "reserveAt", desc := "(I)J" } : Jvm.MethodName) prog_6_method_3_code (2 : Nat) (Option.some Jvm.ClassFile.FieldType.long)) ∈ qz_T := qz_mem 380 (by decide +kernel) rfl
theorem wq_337 : (Jvm.Cond.methodLink "ExactCurves$Pool" (72 : Nat) ({ cls := "ExactCurves$Exact", name := "timesOverUp", desc := "(JJJ)J" } : Jvm.MethodName)) ∈ qz_T := qz_mem 381 (by decide +kernel) rfl
theorem wq_338 : (Jvm.Cond.static ({ cls := "ExactCurves$Exact", name := "timesOverUp", desc := "(JJJ)J" } : Jvm.MethodName)) ∈ qz_T := qz_mem 382 (by decide +kernel) rfl
theorem wq_339 : (Jvm.Cond.code ({ cls := "ExactCurves$Exact", name := "timesOverUp", desc := "(JJJ)J" } : Jvm.MethodName) prog_3_method_5_code (9 : Nat) (Option.some Jvm.ClassFile.FieldType.long)) ∈ qz_T := qz_mem 383 (by decide +kernel) rfl
theorem wq_340 : (Jvm.Cond.methodLink "ExactCurves$Exact" (23 : Nat) ({ cls := "ExactCurves$Exact", name := "timesOver", desc := "(JJJ)J" } : Jvm.MethodName)) ∈ qz_T := qz_mem 384 (by decide +kernel) rfl
theorem wq_341 : (Jvm.Cond.methodLink "ExactCurves" (115 : Nat) ({ cls := "ExactCurves", name := "bringIn", desc := "(ILExactCurves$Pool;IJ)V" } : Jvm.MethodName)) ∈ qz_T := qz_mem 385 (by decide +kernel) rfl
theorem wq_343 : (Jvm.Cond.instanceMethod ({ cls := "ExactCurves", name := "bringIn", desc := "(ILExactCurves$Pool;IJ)V" } : Jvm.MethodName)) ∈ qz_T := qz_mem 387 (by decide +kernel) rfl
theorem wq_344 : (Jvm.Cond.code ({ cls := "ExactCurves", name := "bringIn", desc := "(ILExactCurves$Pool;IJ)V" } : Jvm.MethodName) prog_1_method_33_code (6 : Nat) (Option.none : Option Jvm.ClassFile.FieldType)) ∈ qz_T := qz_mem 388 (by decide +kernel) rfl
theorem wq_345 : (Jvm.Cond.methodLink "ExactCurves" (135 : Nat) ({ cls := "ExactCurves$Pool", name := "tokenAt", desc := "(I)I" } : Jvm.MethodName)) ∈ qz_T := qz_mem 389 (by decide +kernel) rfl
theorem wq_346 : (Jvm.Cond.instanceMethod ({ cls := "ExactCurves$Pool", name := "tokenAt", desc := "(I)I" } : Jvm.MethodName)) ∈ qz_T := qz_mem 390 (by decide +kernel) rfl
theorem wq_347 : (Jvm.Cond.selects "ExactCurves$Pool" ({ cls := "ExactCurves$Pool", name := "tokenAt", desc := "(I)I" } : Jvm.MethodName) ({ cls := "ExactCurves$Pool", name := "tokenAt", desc := "(I)I" } : Jvm.MethodName)) ∈ qz_T := qz_mem 391 (by decide +kernel) rfl
theorem wq_348 : (Jvm.Cond.code ({ cls := "ExactCurves$Pool", name := "tokenAt", desc := "(I)I" } : Jvm.MethodName) prog_6_method_2_code (2 : Nat) (Option.some Jvm.ClassFile.FieldType.int)) ∈ qz_T := qz_mem 392 (by decide +kernel) rfl
theorem wq_349 : (Jvm.Cond.methodLink "ExactCurves" (200 : Nat) ({ cls := "ExactCurves$Purses", name := "take", desc := "(IIJ)V" } : Jvm.MethodName)) ∈ qz_T := qz_mem 393 (by decide +kernel) rfl
theorem wq_350 : (Jvm.Cond.instanceMethod ({ cls := "ExactCurves$Purses", name := "take", desc := "(IIJ)V" } : Jvm.MethodName)) ∈ qz_T := qz_mem 394 (by decide +kernel) rfl
theorem wq_351 : (Jvm.Cond.selects "ExactCurves$Purses" ({ cls := "ExactCurves$Purses", name := "take", desc := "(IIJ)V" } : Jvm.MethodName) ({ cls := "ExactCurves$Purses", name := "take", desc := "(IIJ)V" } : Jvm.MethodName)) ∈ qz_T := qz_mem 395 (by decide +kernel) rfl
theorem wq_352 : (Jvm.Cond.code ({ cls := "ExactCurves$Purses", name := "take", desc := "(IIJ)V" } : Jvm.MethodName) prog_7_method_4_code (5 : Nat) (Option.none : Option Jvm.ClassFile.FieldType)) ∈ qz_T := qz_mem 396 (by decide +kernel) rfl
theorem wq_353 : (Jvm.Cond.methodLink "ExactCurves" (330 : Nat) ({ cls := "ExactCurves$Pool", name := "addReserve", desc := "(IJ)V" } : Jvm.MethodName)) ∈ qz_T := qz_mem 397 (by decide +kernel) rfl
theorem wq_354 : (Jvm.Cond.instanceMethod ({ cls := "ExactCurves$Pool", name := "addReserve", desc := "(IJ)V" } : Jvm.MethodName)) ∈ qz_T := qz_mem 398 (by decide +kernel) rfl
theorem wq_355 : (Jvm.Cond.selects "ExactCurves$Pool" ({ cls := "ExactCurves$Pool", name := "addReserve", desc := "(IJ)V" } : Jvm.MethodName) ({ cls := "ExactCurves$Pool", name := "addReserve", desc := "(IJ)V" } : Jvm.MethodName)) ∈ qz_T := qz_mem 399 (by decide +kernel) rfl
theorem wq_356 : (Jvm.Cond.code ({ cls := "ExactCurves$Pool", name := "addReserve", desc := "(IJ)V" } : Jvm.MethodName) prog_6_method_4_code (4 : Nat) (Option.none : Option Jvm.ClassFile.FieldType)) ∈ qz_T := qz_mem 400 (by decide +kernel) rfl
theorem wq_357 : (Jvm.Cond.methodLink "ExactCurves" (119 : Nat) ({ cls := "ExactCurves$Pool", name := "addShares", desc := "(IJ)V" } : Jvm.MethodName)) ∈ qz_T := qz_mem 401 (by decide +kernel) rfl
theorem wq_358 : (Jvm.Cond.instanceMethod ({ cls := "ExactCurves$Pool", name := "addShares", desc := "(IJ)V" } : Jvm.MethodName)) ∈ qz_T := qz_mem 402 (by decide +kernel) rfl
theorem wq_359 : (Jvm.Cond.selects "ExactCurves$Pool" ({ cls := "ExactCurves$Pool", name := "addShares", desc := "(IJ)V" } : Jvm.MethodName) ({ cls := "ExactCurves$Pool", name := "addShares", desc := "(IJ)V" } : Jvm.MethodName)) ∈ qz_T := qz_mem 403 (by decide +kernel) rfl
theorem wq_360 : (Jvm.Cond.code ({ cls := "ExactCurves$Pool", name := "addShares", desc := "(IJ)V" } : Jvm.MethodName) prog_6_method_5_code (4 : Nat) (Option.none : Option Jvm.ClassFile.FieldType)) ∈ qz_T := qz_mem 404 (by decide +kernel) rfl
theorem wq_361 : (Jvm.Cond.methodLink "ExactCurvesLaw" (48 : Nat) ({ cls := "ExactCurves", name := "leave", desc := "(IIJ)J" } : Jvm.MethodName)) ∈ qz_T := qz_mem 405 (by decide +kernel) rfl
theorem wq_362 : (Jvm.Cond.instanceMethod ({ cls := "ExactCurves", name := "leave", desc := "(IIJ)J" } : Jvm.MethodName)) ∈ qz_T := qz_mem 406 (by decide +kernel) rfl
theorem wq_363 : (Jvm.Cond.selects "ExactCurves" ({ cls := "ExactCurves", name := "leave", desc := "(IIJ)J" } : Jvm.MethodName) ({ cls := "ExactCurves", name := "leave", desc := "(IIJ)J" } : Jvm.MethodName)) ∈ qz_T := qz_mem 407 (by decide +kernel) rfl
theorem wq_364 : (Jvm.Cond.code ({ cls := "ExactCurves", name := "leave", desc := "(IIJ)J" } : Jvm.MethodName) prog_1_method_9_code (10 : Nat) (Option.some Jvm.ClassFile.FieldType.long)) ∈ qz_T := qz_mem 408 (by decide +kernel) rfl
theorem wq_365 : (Jvm.Cond.methodLink "ExactCurves" (126 : Nat) ({ cls := "ExactCurves$Pool", name := "payOf", desc := "(JI)J" } : Jvm.MethodName)) ∈ qz_T := qz_mem 409 (by decide +kernel) rfl
theorem wq_366 : (Jvm.Cond.instanceMethod ({ cls := "ExactCurves$Pool", name := "payOf", desc := "(JI)J" } : Jvm.MethodName)) ∈ qz_T := qz_mem 410 (by decide +kernel) rfl
theorem wq_367 : (Jvm.Cond.selects "ExactCurves$Pool" ({ cls := "ExactCurves$Pool", name := "payOf", desc := "(JI)J" } : Jvm.MethodName) ({ cls := "ExactCurves$Pool", name := "payOf", desc := "(JI)J" } : Jvm.MethodName)) ∈ qz_T := qz_mem 411 (by decide +kernel) rfl
theorem wq_368 : (Jvm.Cond.code ({ cls := "ExactCurves$Pool", name := "payOf", desc := "(JI)J" } : Jvm.MethodName) prog_6_method_10_code (4 : Nat) (Option.some Jvm.ClassFile.FieldType.long)) ∈ qz_T := qz_mem 412 (by decide +kernel) rfl
theorem wq_369 : (Jvm.Cond.methodLink "ExactCurves" (129 : Nat) ({ cls := "ExactCurves", name := "takeOut", desc := "(ILExactCurves$Pool;IJ)V" } : Jvm.MethodName)) ∈ qz_T := qz_mem 413 (by decide +kernel) rfl
theorem wq_371 : (Jvm.Cond.instanceMethod ({ cls := "ExactCurves", name := "takeOut", desc := "(ILExactCurves$Pool;IJ)V" } : Jvm.MethodName)) ∈ qz_T := qz_mem 415 (by decide +kernel) rfl
theorem wq_372 : (Jvm.Cond.code ({ cls := "ExactCurves", name := "takeOut", desc := "(ILExactCurves$Pool;IJ)V" } : Jvm.MethodName) prog_1_method_34_code (6 : Nat) (Option.none : Option Jvm.ClassFile.FieldType)) ∈ qz_T := qz_mem 416 (by decide +kernel) rfl
theorem wq_373 : (Jvm.Cond.methodLink "ExactCurvesLaw" (52 : Nat) ({ cls := "ExactCurves", name := "swap", desc := "(IIIJ)J" } : Jvm.MethodName)) ∈ qz_T := qz_mem 417 (by decide +kernel) rfl
theorem wq_374 : (Jvm.Cond.instanceMethod ({ cls := "ExactCurves", name := "swap", desc := "(IIIJ)J" } : Jvm.MethodName)) ∈ qz_T := qz_mem 418 (by decide +kernel) rfl
theorem wq_375 : (Jvm.Cond.selects "ExactCurves" ({ cls := "ExactCurves", name := "swap", desc := "(IIIJ)J" } : Jvm.MethodName) ({ cls := "ExactCurves", name := "swap", desc := "(IIIJ)J" } : Jvm.MethodName)) ∈ qz_T := qz_mem 419 (by decide +kernel) rfl
theorem wq_376 : (Jvm.Cond.code ({ cls := "ExactCurves", name := "swap", desc := "(IIIJ)J" } : Jvm.MethodName) prog_1_method_10_code (9 : Nat) (Option.some Jvm.ClassFile.FieldType.long)) ∈ qz_T := qz_mem 420 (by decide +kernel) rfl
theorem wq_377 : (Jvm.Cond.methodLink "ExactCurves" (132 : Nat) ({ cls := "ExactCurves", name := "isSide", desc := "(I)Z" } : Jvm.MethodName)) ∈ qz_T := qz_mem 421 (by decide +kernel) rfl
theorem wq_378 : (Jvm.Cond.static ({ cls := "ExactCurves", name := "isSide", desc := "(I)Z" } : Jvm.MethodName)) ∈ qz_T := qz_mem 422 (by decide +kernel) rfl
theorem wq_379 : (Jvm.Cond.code ({ cls := "ExactCurves", name := "isSide", desc := "(I)Z" } : Jvm.MethodName) prog_1_method_31_code (1 : Nat) (Option.some Jvm.ClassFile.FieldType.boolean)) ∈ qz_T := qz_mem 423 (by decide +kernel) rfl
theorem wq_380 : (Jvm.Cond.methodLink "ExactCurves" (139 : Nat) ({ cls := "ExactCurves$Pool", name := "outputOf", desc := "(IJ)J" } : Jvm.MethodName)) ∈ qz_T := qz_mem 424 (by decide +kernel) rfl
theorem wq_381 : (Jvm.Cond.instanceMethod ({ cls := "ExactCurves$Pool", name := "outputOf", desc := "(IJ)J" } : Jvm.MethodName)) ∈ qz_T := qz_mem 425 (by decide +kernel) rfl
theorem wq_382 : (Jvm.Cond.selects "ExactCurves$Pool" ({ cls := "ExactCurves$Pool", name := "outputOf", desc := "(IJ)J" } : Jvm.MethodName) ({ cls := "ExactCurves$Pool", name := "outputOf", desc := "(IJ)J" } : Jvm.MethodName)) ∈ qz_T := qz_mem 426 (by decide +kernel) rfl
theorem wq_383 : (Jvm.Cond.code ({ cls := "ExactCurves$Pool", name := "outputOf", desc := "(IJ)J" } : Jvm.MethodName) prog_6_method_11_code (12 : Nat) (Option.some Jvm.ClassFile.FieldType.long)) ∈ qz_T := qz_mem 427 (by decide +kernel) rfl
theorem wq_384 : (Jvm.Cond.constantLong "ExactCurves$Pool" (75 : Nat) (10000 : Int64)) ∈ qz_T := qz_mem 428 (by decide +kernel) rfl
theorem wq_385 : (Jvm.Cond.methodLink "ExactCurvesLaw" (57 : Nat) ({ cls := "ExactCurves", name := "quote", desc := "(IIJ)J" } : Jvm.MethodName)) ∈ qz_T := qz_mem 429 (by decide +kernel) rfl
theorem wq_386 : (Jvm.Cond.instanceMethod ({ cls := "ExactCurves", name := "quote", desc := "(IIJ)J" } : Jvm.MethodName)) ∈ qz_T := qz_mem 430 (by decide +kernel) rfl
theorem wq_387 : (Jvm.Cond.selects "ExactCurves" ({ cls := "ExactCurves", name := "quote", desc := "(IIJ)J" } : Jvm.MethodName) ({ cls := "ExactCurves", name := "quote", desc := "(IIJ)J" } : Jvm.MethodName)) ∈ qz_T := qz_mem 431 (by decide +kernel) rfl
theorem wq_388 : (Jvm.Cond.code ({ cls := "ExactCurves", name := "quote", desc := "(IIJ)J" } : Jvm.MethodName) prog_1_method_11_code (8 : Nat) (Option.some Jvm.ClassFile.FieldType.long)) ∈ qz_T := qz_mem 432 (by decide +kernel) rfl
theorem wq_389 : (Jvm.Cond.methodLink "ExactCurvesLaw" (61 : Nat) ({ cls := "ExactCurves", name := "flash", desc := "(IIJJJJ)I" } : Jvm.MethodName)) ∈ qz_T := qz_mem 433 (by decide +kernel) rfl
theorem wq_390 : (Jvm.Cond.instanceMethod ({ cls := "ExactCurves", name := "flash", desc := "(IIJJJJ)I" } : Jvm.MethodName)) ∈ qz_T := qz_mem 434 (by decide +kernel) rfl
theorem wq_391 : (Jvm.Cond.selects "ExactCurves" ({ cls := "ExactCurves", name := "flash", desc := "(IIJJJJ)I" } : Jvm.MethodName) ({ cls := "ExactCurves", name := "flash", desc := "(IIJJJJ)I" } : Jvm.MethodName)) ∈ qz_T := qz_mem 435 (by decide +kernel) rfl
theorem wq_392 : (Jvm.Cond.code ({ cls := "ExactCurves", name := "flash", desc := "(IIJJJJ)I" } : Jvm.MethodName) prog_1_method_12_code (12 : Nat) (Option.some Jvm.ClassFile.FieldType.int)) ∈ qz_T := qz_mem 436 (by decide +kernel) rfl
theorem wq_393 : (Jvm.Cond.methodLink "ExactCurves" (149 : Nat) ({ cls := "ExactCurves$Pool", name := "mayBecome", desc := "(JJJJ)Z" } : Jvm.MethodName)) ∈ qz_T := qz_mem 437 (by decide +kernel) rfl
theorem wq_394 : (Jvm.Cond.instanceMethod ({ cls := "ExactCurves$Pool", name := "mayBecome", desc := "(JJJJ)Z" } : Jvm.MethodName)) ∈ qz_T := qz_mem 438 (by decide +kernel) rfl
theorem wq_395 : (Jvm.Cond.selects "ExactCurves$Pool" ({ cls := "ExactCurves$Pool", name := "mayBecome", desc := "(JJJJ)Z" } : Jvm.MethodName) ({ cls := "ExactCurves$Pool", name := "mayBecome", desc := "(JJJJ)Z" } : Jvm.MethodName)) ∈ qz_T := qz_mem 439 (by decide +kernel) rfl
theorem wq_396 : (Jvm.Cond.code ({ cls := "ExactCurves$Pool", name := "mayBecome", desc := "(JJJJ)Z" } : Jvm.MethodName) prog_6_method_12_code (13 : Nat) (Option.some Jvm.ClassFile.FieldType.boolean)) ∈ qz_T := qz_mem 440 (by decide +kernel) rfl
theorem wq_397 : (Jvm.Cond.methodLink "ExactCurves$Pool" (77 : Nat) ({ cls := "ExactCurves$Exact", name := "compareProducts", desc := "(JJJJ)I" } : Jvm.MethodName)) ∈ qz_T := qz_mem 441 (by decide +kernel) rfl
theorem wq_398 : (Jvm.Cond.methodLink "ExactCurvesLaw" (66 : Nat) ({ cls := "ExactCurves", name := "tick", desc := "(I)I" } : Jvm.MethodName)) ∈ qz_T := qz_mem 442 (by decide +kernel) rfl
theorem wq_399 : (Jvm.Cond.instanceMethod ({ cls := "ExactCurves", name := "tick", desc := "(I)I" } : Jvm.MethodName)) ∈ qz_T := qz_mem 443 (by decide +kernel) rfl
theorem wq_400 : (Jvm.Cond.selects "ExactCurves" ({ cls := "ExactCurves", name := "tick", desc := "(I)I" } : Jvm.MethodName) ({ cls := "ExactCurves", name := "tick", desc := "(I)I" } : Jvm.MethodName)) ∈ qz_T := qz_mem 444 (by decide +kernel) rfl
theorem wq_401 : (Jvm.Cond.code ({ cls := "ExactCurves", name := "tick", desc := "(I)I" } : Jvm.MethodName) prog_1_method_13_code (3 : Nat) (Option.some Jvm.ClassFile.FieldType.int)) ∈ qz_T := qz_mem 445 (by decide +kernel) rfl
theorem wq_402 : (Jvm.Cond.methodLink "ExactCurves" (153 : Nat) ({ cls := "ExactCurves$Pool", name := "grow", desc := "(I)V" } : Jvm.MethodName)) ∈ qz_T := qz_mem 446 (by decide +kernel) rfl
theorem wq_403 : (Jvm.Cond.instanceMethod ({ cls := "ExactCurves$Pool", name := "grow", desc := "(I)V" } : Jvm.MethodName)) ∈ qz_T := qz_mem 447 (by decide +kernel) rfl
theorem wq_404 : (Jvm.Cond.selects "ExactCurves$Pool" ({ cls := "ExactCurves$Pool", name := "grow", desc := "(I)V" } : Jvm.MethodName) ({ cls := "ExactCurves$Pool", name := "grow", desc := "(I)V" } : Jvm.MethodName)) ∈ qz_T := qz_mem 448 (by decide +kernel) rfl
theorem wq_405 : (Jvm.Cond.code ({ cls := "ExactCurves$Pool", name := "grow", desc := "(I)V" } : Jvm.MethodName) prog_6_method_13_code (2 : Nat) (Option.none : Option Jvm.ClassFile.FieldType)) ∈ qz_T := qz_mem 449 (by decide +kernel) rfl
theorem wq_406 : (Jvm.Cond.constantLong "ExactCurves$Pool" (81 : Nat) (1000 : Int64)) ∈ qz_T := qz_mem 450 (by decide +kernel) rfl
theorem wq_407 : (Jvm.Cond.methodLink "ExactCurves" (157 : Nat) ({ cls := "ExactCurves$Vault", name := "grow", desc := "(I)V" } : Jvm.MethodName)) ∈ qz_T := qz_mem 451 (by decide +kernel) rfl
theorem wq_408 : (Jvm.Cond.instanceMethod ({ cls := "ExactCurves$Vault", name := "grow", desc := "(I)V" } : Jvm.MethodName)) ∈ qz_T := qz_mem 452 (by decide +kernel) rfl
theorem wq_409 : (Jvm.Cond.selects "ExactCurves$Vault" ({ cls := "ExactCurves$Vault", name := "grow", desc := "(I)V" } : Jvm.MethodName) ({ cls := "ExactCurves$Vault", name := "grow", desc := "(I)V" } : Jvm.MethodName)) ∈ qz_T := qz_mem 453 (by decide +kernel) rfl
theorem wq_410 : (Jvm.Cond.code ({ cls := "ExactCurves$Vault", name := "grow", desc := "(I)V" } : Jvm.MethodName) prog_8_method_4_code (3 : Nat) (Option.none : Option Jvm.ClassFile.FieldType)) ∈ qz_T := qz_mem 454 (by decide +kernel) rfl
theorem wq_411 : (Jvm.Cond.constantLong "ExactCurves$Vault" (32 : Nat) (1000000000000 : Int64)) ∈ qz_T := qz_mem 455 (by decide +kernel) rfl
theorem wq_412 : (Jvm.Cond.methodLink "ExactCurves$Vault" (34 : Nat) ({ cls := "java/lang/Math", name := "min", desc := "(JJ)J" } : Jvm.MethodName)) ∈ qz_T := qz_mem 456 (by decide +kernel) rfl
theorem wq_413 : (Jvm.Cond.methodLink "ExactCurvesLaw" (71 : Nat) ({ cls := "ExactCurves", name := "mark", desc := "(II)I" } : Jvm.MethodName)) ∈ qz_T := qz_mem 457 (by decide +kernel) rfl
theorem wq_414 : (Jvm.Cond.instanceMethod ({ cls := "ExactCurves", name := "mark", desc := "(II)I" } : Jvm.MethodName)) ∈ qz_T := qz_mem 458 (by decide +kernel) rfl
theorem wq_415 : (Jvm.Cond.selects "ExactCurves" ({ cls := "ExactCurves", name := "mark", desc := "(II)I" } : Jvm.MethodName) ({ cls := "ExactCurves", name := "mark", desc := "(II)I" } : Jvm.MethodName)) ∈ qz_T := qz_mem 459 (by decide +kernel) rfl
theorem wq_416 : (Jvm.Cond.code ({ cls := "ExactCurves", name := "mark", desc := "(II)I" } : Jvm.MethodName) prog_1_method_14_code (5 : Nat) (Option.some Jvm.ClassFile.FieldType.int)) ∈ qz_T := qz_mem 460 (by decide +kernel) rfl
theorem wq_417 : (Jvm.Cond.methodLink "ExactCurvesLaw" (76 : Nat) ({ cls := "ExactCurves", name := "mean", desc := "(I)J" } : Jvm.MethodName)) ∈ qz_T := qz_mem 461 (by decide +kernel) rfl
theorem wq_418 : (Jvm.Cond.instanceMethod ({ cls := "ExactCurves", name := "mean", desc := "(I)J" } : Jvm.MethodName)) ∈ qz_T := qz_mem 462 (by decide +kernel) rfl
theorem wq_419 : (Jvm.Cond.selects "ExactCurves" ({ cls := "ExactCurves", name := "mean", desc := "(I)J" } : Jvm.MethodName) ({ cls := "ExactCurves", name := "mean", desc := "(I)J" } : Jvm.MethodName)) ∈ qz_T := qz_mem 463 (by decide +kernel) rfl
theorem wq_420 : (Jvm.Cond.code ({ cls := "ExactCurves", name := "mean", desc := "(I)J" } : Jvm.MethodName) prog_1_method_15_code (6 : Nat) (Option.some Jvm.ClassFile.FieldType.long)) ∈ qz_T := qz_mem 464 (by decide +kernel) rfl
theorem wq_421 : (Jvm.Cond.constantLong "ExactCurves" (176 : Nat) (-1 : Int64)) ∈ qz_T := qz_mem 465 (by decide +kernel) rfl
theorem wq_422 : (Jvm.Cond.methodLink "ExactCurves" (178 : Nat) ({ cls := "ExactCurves$Exact", name := "over", desc := "(JJJ)J" } : Jvm.MethodName)) ∈ qz_T := qz_mem 466 (by decide +kernel) rfl
theorem wq_423 : (Jvm.Cond.methodLink "ExactCurvesLaw" (80 : Nat) ({ cls := "ExactCurves", name := "batch", desc := "(II)I" } : Jvm.MethodName)) ∈ qz_T := qz_mem 467 (by decide +kernel) rfl
theorem wq_424 : (Jvm.Cond.instanceMethod ({ cls := "ExactCurves", name := "batch", desc := "(II)I" } : Jvm.MethodName)) ∈ qz_T := qz_mem 468 (by decide +kernel) rfl
theorem wq_425 : (Jvm.Cond.selects "ExactCurves" ({ cls := "ExactCurves", name := "batch", desc := "(II)I" } : Jvm.MethodName) ({ cls := "ExactCurves", name := "batch", desc := "(II)I" } : Jvm.MethodName)) ∈ qz_T := qz_mem 469 (by decide +kernel) rfl
theorem wq_426 : (Jvm.Cond.code ({ cls := "ExactCurves", name := "batch", desc := "(II)I" } : Jvm.MethodName) prog_1_method_16_code (3 : Nat) (Option.some Jvm.ClassFile.FieldType.int)) ∈ qz_T := qz_mem 470 (by decide +kernel) rfl
theorem wq_427 : (Jvm.Cond.methodLink "ExactCurvesLaw" (84 : Nat) ({ cls := "ExactCurves", name := "order", desc := "(IIJJ)I" } : Jvm.MethodName)) ∈ qz_T := qz_mem 471 (by decide +kernel) rfl
theorem wq_428 : (Jvm.Cond.instanceMethod ({ cls := "ExactCurves", name := "order", desc := "(IIJJ)I" } : Jvm.MethodName)) ∈ qz_T := qz_mem 472 (by decide +kernel) rfl
theorem wq_429 : (Jvm.Cond.selects "ExactCurves" ({ cls := "ExactCurves", name := "order", desc := "(IIJJ)I" } : Jvm.MethodName) ({ cls := "ExactCurves", name := "order", desc := "(IIJJ)I" } : Jvm.MethodName)) ∈ qz_T := qz_mem 473 (by decide +kernel) rfl
theorem wq_430 : (Jvm.Cond.code ({ cls := "ExactCurves", name := "order", desc := "(IIJJ)I" } : Jvm.MethodName) prog_1_method_17_code (10 : Nat) (Option.some Jvm.ClassFile.FieldType.int)) ∈ qz_T := qz_mem 474 (by decide +kernel) rfl
theorem wq_431 : (Jvm.Cond.constantLong "ExactCurves" (193 : Nat) (10000000000 : Int64)) ∈ qz_T := qz_mem 475 (by decide +kernel) rfl
theorem wq_432 : (Jvm.Cond.constantLong "ExactCurves" (195 : Nat) (1000000 : Int64)) ∈ qz_T := qz_mem 476 (by decide +kernel) rfl
theorem wq_433 : (Jvm.Cond.methodLink "ExactCurves" (197 : Nat) ({ cls := "ExactCurves$Batch", name := "priceUp", desc := "(JJ)J" } : Jvm.MethodName)) ∈ qz_T := qz_mem 477 (by decide +kernel) rfl
theorem wq_434 : (Jvm.Cond.static ({ cls := "ExactCurves$Batch", name := "priceUp", desc := "(JJ)J" } : Jvm.MethodName)) ∈ qz_T := qz_mem 478 (by decide +kernel) rfl
theorem wq_435 : (Jvm.Cond.code ({ cls := "ExactCurves$Batch", name := "priceUp", desc := "(JJ)J" } : Jvm.MethodName) prog_2_method_2_code (4 : Nat) (Option.some Jvm.ClassFile.FieldType.long)) ∈ qz_T := qz_mem 479 (by decide +kernel) rfl
theorem wq_436 : (Jvm.Cond.constantLong "ExactCurves$Batch" (36 : Nat) (1000 : Int64)) ∈ qz_T := qz_mem 480 (by decide +kernel) rfl
theorem wq_437 : (Jvm.Cond.methodLink "ExactCurves" (203 : Nat) ({ cls := "ExactCurves$Batch", name := "put", desc := "(IZJJ)I" } : Jvm.MethodName)) ∈ qz_T := qz_mem 481 (by decide +kernel) rfl
theorem wq_438 : (Jvm.Cond.instanceMethod ({ cls := "ExactCurves$Batch", name := "put", desc := "(IZJJ)I" } : Jvm.MethodName)) ∈ qz_T := qz_mem 482 (by decide +kernel) rfl
theorem wq_439 : (Jvm.Cond.selects "ExactCurves$Batch" ({ cls := "ExactCurves$Batch", name := "put", desc := "(IZJJ)I" } : Jvm.MethodName) ({ cls := "ExactCurves$Batch", name := "put", desc := "(IZJJ)I" } : Jvm.MethodName)) ∈ qz_T := qz_mem 483 (by decide +kernel) rfl
theorem wq_440 : (Jvm.Cond.code ({ cls := "ExactCurves$Batch", name := "put", desc := "(IZJJ)I" } : Jvm.MethodName) prog_2_method_3_code (7 : Nat) (Option.some Jvm.ClassFile.FieldType.int)) ∈ qz_T := qz_mem 484 (by decide +kernel) rfl
theorem wq_441 : (Jvm.Cond.methodLink "ExactCurvesLaw" (89 : Nat) ({ cls := "ExactCurves", name := "clear", desc := "()J" } : Jvm.MethodName)) ∈ qz_T := qz_mem 485 (by decide +kernel) rfl
theorem wq_442 : (Jvm.Cond.instanceMethod ({ cls := "ExactCurves", name := "clear", desc := "()J" } : Jvm.MethodName)) ∈ qz_T := qz_mem 486 (by decide +kernel) rfl
theorem wq_443 : (Jvm.Cond.selects "ExactCurves" ({ cls := "ExactCurves", name := "clear", desc := "()J" } : Jvm.MethodName) ({ cls := "ExactCurves", name := "clear", desc := "()J" } : Jvm.MethodName)) ∈ qz_T := qz_mem 487 (by decide +kernel) rfl
theorem wq_444 : (Jvm.Cond.code ({ cls := "ExactCurves", name := "clear", desc := "()J" } : Jvm.MethodName) prog_1_method_18_code (4 : Nat) (Option.some Jvm.ClassFile.FieldType.long)) ∈ qz_T := qz_mem 488 (by decide +kernel) rfl
theorem wq_445 : (Jvm.Cond.methodLink "ExactCurves" (207 : Nat) ({ cls := "ExactCurves$Batch", name := "bestPrice", desc := "()J" } : Jvm.MethodName)) ∈ qz_T := qz_mem 489 (by decide +kernel) rfl
theorem wq_446 : (Jvm.Cond.instanceMethod ({ cls := "ExactCurves$Batch", name := "bestPrice", desc := "()J" } : Jvm.MethodName)) ∈ qz_T := qz_mem 490 (by decide +kernel) rfl
theorem wq_447 : (Jvm.Cond.selects "ExactCurves$Batch" ({ cls := "ExactCurves$Batch", name := "bestPrice", desc := "()J" } : Jvm.MethodName) ({ cls := "ExactCurves$Batch", name := "bestPrice", desc := "()J" } : Jvm.MethodName)) ∈ qz_T := qz_mem 491 (by decide +kernel) rfl
theorem wq_448 : (Jvm.Cond.code ({ cls := "ExactCurves$Batch", name := "bestPrice", desc := "()J" } : Jvm.MethodName) prog_2_method_6_code (19 : Nat) (Option.some Jvm.ClassFile.FieldType.long)) ∈ qz_T := qz_mem 492 (by decide +kernel) rfl
theorem wq_449 : (Jvm.Cond.methodLink "ExactCurves$Batch" (41 : Nat) ({ cls := "ExactCurves$Batch", name := "boughtAt", desc := "(J)J" } : Jvm.MethodName)) ∈ qz_T := qz_mem 493 (by decide +kernel) rfl
theorem wq_450 : (Jvm.Cond.instanceMethod ({ cls := "ExactCurves$Batch", name := "boughtAt", desc := "(J)J" } : Jvm.MethodName)) ∈ qz_T := qz_mem 494 (by decide +kernel) rfl
theorem wq_451 : (Jvm.Cond.selects "ExactCurves$Batch" ({ cls := "ExactCurves$Batch", name := "boughtAt", desc := "(J)J" } : Jvm.MethodName) ({ cls := "ExactCurves$Batch", name := "boughtAt", desc := "(J)J" } : Jvm.MethodName)) ∈ qz_T := qz_mem 495 (by decide +kernel) rfl
theorem wq_452 : (Jvm.Cond.code ({ cls := "ExactCurves$Batch", name := "boughtAt", desc := "(J)J" } : Jvm.MethodName) prog_2_method_4_code (6 : Nat) (Option.some Jvm.ClassFile.FieldType.long)) ∈ qz_T := qz_mem 496 (by decide +kernel) rfl
theorem wq_453 : (Jvm.Cond.methodLink "ExactCurves$Batch" (45 : Nat) ({ cls := "ExactCurves$Batch", name := "soldAt", desc := "(J)J" } : Jvm.MethodName)) ∈ qz_T := qz_mem 497 (by decide +kernel) rfl
theorem wq_454 : (Jvm.Cond.instanceMethod ({ cls := "ExactCurves$Batch", name := "soldAt", desc := "(J)J" } : Jvm.MethodName)) ∈ qz_T := qz_mem 498 (by decide +kernel) rfl
theorem wq_455 : (Jvm.Cond.selects "ExactCurves$Batch" ({ cls := "ExactCurves$Batch", name := "soldAt", desc := "(J)J" } : Jvm.MethodName) ({ cls := "ExactCurves$Batch", name := "soldAt", desc := "(J)J" } : Jvm.MethodName)) ∈ qz_T := qz_mem 499 (by decide +kernel) rfl
theorem wq_456 : (Jvm.Cond.code ({ cls := "ExactCurves$Batch", name := "soldAt", desc := "(J)J" } : Jvm.MethodName) prog_2_method_5_code (6 : Nat) (Option.some Jvm.ClassFile.FieldType.long)) ∈ qz_T := qz_mem 500 (by decide +kernel) rfl
theorem wq_457 : (Jvm.Cond.methodLink "ExactCurves$Batch" (48 : Nat) ({ cls := "java/lang/Math", name := "min", desc := "(JJ)J" } : Jvm.MethodName)) ∈ qz_T := qz_mem 501 (by decide +kernel) rfl
theorem wq_458 : (Jvm.Cond.methodLink "ExactCurves$Batch" (54 : Nat) ({ cls := "java/lang/Math", name := "max", desc := "(JJ)J" } : Jvm.MethodName)) ∈ qz_T := qz_mem 502 (by decide +kernel) rfl
theorem wq_459 : (Jvm.Cond.static ({ cls := "java/lang/Math", name := "max", desc := "(JJ)J" } : Jvm.MethodName)) ∈ qz_T := qz_mem 503 (by decide +kernel) rfl
theorem wq_461 : (Jvm.Cond.methodLink "ExactCurves" (211 : Nat) ({ cls := "ExactCurves$Batch", name := "dealAt", desc := "(J)V" } : Jvm.MethodName)) ∈ qz_T := qz_mem 505 (by decide +kernel) rfl
theorem wq_462 : (Jvm.Cond.instanceMethod ({ cls := "ExactCurves$Batch", name := "dealAt", desc := "(J)V" } : Jvm.MethodName)) ∈ qz_T := qz_mem 506 (by decide +kernel) rfl
theorem wq_463 : (Jvm.Cond.selects "ExactCurves$Batch" ({ cls := "ExactCurves$Batch", name := "dealAt", desc := "(J)V" } : Jvm.MethodName) ({ cls := "ExactCurves$Batch", name := "dealAt", desc := "(J)V" } : Jvm.MethodName)) ∈ qz_T := qz_mem 507 (by decide +kernel) rfl
theorem wq_464 : (Jvm.Cond.code ({ cls := "ExactCurves$Batch", name := "dealAt", desc := "(J)V" } : Jvm.MethodName) prog_2_method_7_code (6 : Nat) (Option.none : Option Jvm.ClassFile.FieldType)) ∈ qz_T := qz_mem 508 (by decide +kernel) rfl
theorem wq_465 : (Jvm.Cond.methodLink "ExactCurves$Batch" (57 : Nat) ({ cls := "ExactCurves$Batch", name := "beforeOrder", desc := "(I)J" } : Jvm.MethodName)) ∈ qz_T := qz_mem 509 (by decide +kernel) rfl
theorem wq_466 : (Jvm.Cond.instanceMethod ({ cls := "ExactCurves$Batch", name := "beforeOrder", desc := "(I)J" } : Jvm.MethodName)) ∈ qz_T := qz_mem 510 (by decide +kernel) rfl
theorem wq_467 : (Jvm.Cond.selects "ExactCurves$Batch" ({ cls := "ExactCurves$Batch", name := "beforeOrder", desc := "(I)J" } : Jvm.MethodName) ({ cls := "ExactCurves$Batch", name := "beforeOrder", desc := "(I)J" } : Jvm.MethodName)) ∈ qz_T := qz_mem 511 (by decide +kernel) rfl
theorem wq_468 : (Jvm.Cond.code ({ cls := "ExactCurves$Batch", name := "beforeOrder", desc := "(I)J" } : Jvm.MethodName) prog_2_method_8_code (5 : Nat) (Option.some Jvm.ClassFile.FieldType.long)) ∈ qz_T := qz_mem 512 (by decide +kernel) rfl
theorem wq_469 : (Jvm.Cond.methodLink "ExactCurves$Batch" (68 : Nat) ({ cls := "ExactCurves$Batch", name := "isBefore", desc := "(II)Z" } : Jvm.MethodName)) ∈ qz_T := qz_mem 513 (by decide +kernel) rfl
theorem wq_471 : (Jvm.Cond.instanceMethod ({ cls := "ExactCurves$Batch", name := "isBefore", desc := "(II)Z" } : Jvm.MethodName)) ∈ qz_T := qz_mem 515 (by decide +kernel) rfl
theorem wq_472 : (Jvm.Cond.code ({ cls := "ExactCurves$Batch", name := "isBefore", desc := "(II)Z" } : Jvm.MethodName) prog_2_method_9_code (3 : Nat) (Option.some Jvm.ClassFile.FieldType.boolean)) ∈ qz_T := qz_mem 516 (by decide +kernel) rfl
theorem wq_473 : (Jvm.Cond.methodLink "ExactCurves" (219 : Nat) ({ cls := "ExactCurves", name := "settleBuyer", desc := "(IJ)V" } : Jvm.MethodName)) ∈ qz_T := qz_mem 517 (by decide +kernel) rfl
theorem wq_475 : (Jvm.Cond.instanceMethod ({ cls := "ExactCurves", name := "settleBuyer", desc := "(IJ)V" } : Jvm.MethodName)) ∈ qz_T := qz_mem 519 (by decide +kernel) rfl
theorem wq_476 : (Jvm.Cond.code ({ cls := "ExactCurves", name := "settleBuyer", desc := "(IJ)V" } : Jvm.MethodName) prog_1_method_35_code (10 : Nat) (Option.none : Option Jvm.ClassFile.FieldType)) ∈ qz_T := qz_mem 520 (by decide +kernel) rfl
theorem wq_477 : (Jvm.Cond.methodLink "ExactCurves" (222 : Nat) ({ cls := "ExactCurves", name := "settleSeller", desc := "(IJ)V" } : Jvm.MethodName)) ∈ qz_T := qz_mem 521 (by decide +kernel) rfl
theorem wq_479 : (Jvm.Cond.instanceMethod ({ cls := "ExactCurves", name := "settleSeller", desc := "(IJ)V" } : Jvm.MethodName)) ∈ qz_T := qz_mem 523 (by decide +kernel) rfl
theorem wq_480 : (Jvm.Cond.code ({ cls := "ExactCurves", name := "settleSeller", desc := "(IJ)V" } : Jvm.MethodName) prog_1_method_36_code (8 : Nat) (Option.none : Option Jvm.ClassFile.FieldType)) ∈ qz_T := qz_mem 524 (by decide +kernel) rfl
theorem wq_481 : (Jvm.Cond.constantLong "ExactCurves" (343 : Nat) (1000 : Int64)) ∈ qz_T := qz_mem 525 (by decide +kernel) rfl
theorem wq_482 : (Jvm.Cond.methodLink "ExactCurvesLaw" (94 : Nat) ({ cls := "ExactCurves", name := "dealt", desc := "(I)J" } : Jvm.MethodName)) ∈ qz_T := qz_mem 526 (by decide +kernel) rfl
theorem wq_483 : (Jvm.Cond.instanceMethod ({ cls := "ExactCurves", name := "dealt", desc := "(I)J" } : Jvm.MethodName)) ∈ qz_T := qz_mem 527 (by decide +kernel) rfl
theorem wq_484 : (Jvm.Cond.selects "ExactCurves" ({ cls := "ExactCurves", name := "dealt", desc := "(I)J" } : Jvm.MethodName) ({ cls := "ExactCurves", name := "dealt", desc := "(I)J" } : Jvm.MethodName)) ∈ qz_T := qz_mem 528 (by decide +kernel) rfl
theorem wq_485 : (Jvm.Cond.code ({ cls := "ExactCurves", name := "dealt", desc := "(I)J" } : Jvm.MethodName) prog_1_method_19_code (2 : Nat) (Option.some Jvm.ClassFile.FieldType.long)) ∈ qz_T := qz_mem 529 (by decide +kernel) rfl
theorem wq_486 : (Jvm.Cond.methodLink "ExactCurvesLaw" (98 : Nat) ({ cls := "ExactCurves", name := "rate", desc := "(IJ)J" } : Jvm.MethodName)) ∈ qz_T := qz_mem 530 (by decide +kernel) rfl
theorem wq_487 : (Jvm.Cond.instanceMethod ({ cls := "ExactCurves", name := "rate", desc := "(IJ)J" } : Jvm.MethodName)) ∈ qz_T := qz_mem 531 (by decide +kernel) rfl
theorem wq_488 : (Jvm.Cond.selects "ExactCurves" ({ cls := "ExactCurves", name := "rate", desc := "(IJ)J" } : Jvm.MethodName) ({ cls := "ExactCurves", name := "rate", desc := "(IJ)J" } : Jvm.MethodName)) ∈ qz_T := qz_mem 532 (by decide +kernel) rfl
theorem wq_489 : (Jvm.Cond.code ({ cls := "ExactCurves", name := "rate", desc := "(IJ)J" } : Jvm.MethodName) prog_1_method_20_code (6 : Nat) (Option.some Jvm.ClassFile.FieldType.long)) ∈ qz_T := qz_mem 533 (by decide +kernel) rfl
theorem wq_490 : (Jvm.Cond.methodLink "ExactCurvesLaw" (103 : Nat) ({ cls := "ExactCurves", name := "lend", desc := "(IIJ)J" } : Jvm.MethodName)) ∈ qz_T := qz_mem 534 (by decide +kernel) rfl
theorem wq_491 : (Jvm.Cond.instanceMethod ({ cls := "ExactCurves", name := "lend", desc := "(IIJ)J" } : Jvm.MethodName)) ∈ qz_T := qz_mem 535 (by decide +kernel) rfl
theorem wq_492 : (Jvm.Cond.selects "ExactCurves" ({ cls := "ExactCurves", name := "lend", desc := "(IIJ)J" } : Jvm.MethodName) ({ cls := "ExactCurves", name := "lend", desc := "(IIJ)J" } : Jvm.MethodName)) ∈ qz_T := qz_mem 536 (by decide +kernel) rfl
theorem wq_493 : (Jvm.Cond.code ({ cls := "ExactCurves", name := "lend", desc := "(IIJ)J" } : Jvm.MethodName) prog_1_method_21_code (8 : Nat) (Option.some Jvm.ClassFile.FieldType.long)) ∈ qz_T := qz_mem 537 (by decide +kernel) rfl
theorem wq_494 : (Jvm.Cond.methodLink "ExactCurves" (239 : Nat) ({ cls := "ExactCurves", name := "worthOf", desc := "(I)J" } : Jvm.MethodName)) ∈ qz_T := qz_mem 538 (by decide +kernel) rfl
theorem wq_496 : (Jvm.Cond.instanceMethod ({ cls := "ExactCurves", name := "worthOf", desc := "(I)J" } : Jvm.MethodName)) ∈ qz_T := qz_mem 540 (by decide +kernel) rfl
theorem wq_497 : (Jvm.Cond.code ({ cls := "ExactCurves", name := "worthOf", desc := "(I)J" } : Jvm.MethodName) prog_1_method_37_code (5 : Nat) (Option.some Jvm.ClassFile.FieldType.long)) ∈ qz_T := qz_mem 541 (by decide +kernel) rfl
theorem wq_498 : (Jvm.Cond.methodLink "ExactCurves" (307 : Nat) ({ cls := "ExactCurves", name := "debtToken", desc := "(LExactCurves$Loan;)I" } : Jvm.MethodName)) ∈ qz_T := qz_mem 542 (by decide +kernel) rfl
theorem wq_500 : (Jvm.Cond.instanceMethod ({ cls := "ExactCurves", name := "debtToken", desc := "(LExactCurves$Loan;)I" } : Jvm.MethodName)) ∈ qz_T := qz_mem 544 (by decide +kernel) rfl
theorem wq_501 : (Jvm.Cond.code ({ cls := "ExactCurves", name := "debtToken", desc := "(LExactCurves$Loan;)I" } : Jvm.MethodName) prog_1_method_42_code (2 : Nat) (Option.some Jvm.ClassFile.FieldType.int)) ∈ qz_T := qz_mem 545 (by decide +kernel) rfl
theorem wq_502 : (Jvm.Cond.methodLink "ExactCurves" (291 : Nat) ({ cls := "ExactCurves", name := "debtOf", desc := "(LExactCurves$Loan;)J" } : Jvm.MethodName)) ∈ qz_T := qz_mem 546 (by decide +kernel) rfl
theorem wq_504 : (Jvm.Cond.instanceMethod ({ cls := "ExactCurves", name := "debtOf", desc := "(LExactCurves$Loan;)J" } : Jvm.MethodName)) ∈ qz_T := qz_mem 548 (by decide +kernel) rfl
theorem wq_505 : (Jvm.Cond.code ({ cls := "ExactCurves", name := "debtOf", desc := "(LExactCurves$Loan;)J" } : Jvm.MethodName) prog_1_method_43_code (2 : Nat) (Option.some Jvm.ClassFile.FieldType.long)) ∈ qz_T := qz_mem 549 (by decide +kernel) rfl
theorem wq_506 : (Jvm.Cond.methodLink "ExactCurves" (345 : Nat) ({ cls := "ExactCurves$Vault", name := "debtOf", desc := "(J)J" } : Jvm.MethodName)) ∈ qz_T := qz_mem 550 (by decide +kernel) rfl
theorem wq_507 : (Jvm.Cond.instanceMethod ({ cls := "ExactCurves$Vault", name := "debtOf", desc := "(J)J" } : Jvm.MethodName)) ∈ qz_T := qz_mem 551 (by decide +kernel) rfl
theorem wq_508 : (Jvm.Cond.selects "ExactCurves$Vault" ({ cls := "ExactCurves$Vault", name := "debtOf", desc := "(J)J" } : Jvm.MethodName) ({ cls := "ExactCurves$Vault", name := "debtOf", desc := "(J)J" } : Jvm.MethodName)) ∈ qz_T := qz_mem 552 (by decide +kernel) rfl
theorem wq_509 : (Jvm.Cond.code ({ cls := "ExactCurves$Vault", name := "debtOf", desc := "(J)J" } : Jvm.MethodName) prog_8_method_5_code (3 : Nat) (Option.some Jvm.ClassFile.FieldType.long)) ∈ qz_T := qz_mem 553 (by decide +kernel) rfl
theorem wq_510 : (Jvm.Cond.methodLink "ExactCurves$Vault" (40 : Nat) ({ cls := "ExactCurves$Exact", name := "timesOverUp", desc := "(JJJ)J" } : Jvm.MethodName)) ∈ qz_T := qz_mem 554 (by decide +kernel) rfl
theorem wq_511 : (Jvm.Cond.methodLink "ExactCurves" (242 : Nat) ({ cls := "ExactCurves$Exact", name := "timesOver", desc := "(JJJ)J" } : Jvm.MethodName)) ∈ qz_T := qz_mem 555 (by decide +kernel) rfl
theorem wq_512 : (Jvm.Cond.methodLink "ExactCurves" (248 : Nat) ({ cls := "ExactCurves$Vault", name := "addParts", desc := "(IJ)V" } : Jvm.MethodName)) ∈ qz_T := qz_mem 556 (by decide +kernel) rfl
theorem wq_513 : (Jvm.Cond.instanceMethod ({ cls := "ExactCurves$Vault", name := "addParts", desc := "(IJ)V" } : Jvm.MethodName)) ∈ qz_T := qz_mem 557 (by decide +kernel) rfl
theorem wq_514 : (Jvm.Cond.selects "ExactCurves$Vault" ({ cls := "ExactCurves$Vault", name := "addParts", desc := "(IJ)V" } : Jvm.MethodName) ({ cls := "ExactCurves$Vault", name := "addParts", desc := "(IJ)V" } : Jvm.MethodName)) ∈ qz_T := qz_mem 558 (by decide +kernel) rfl
theorem wq_515 : (Jvm.Cond.code ({ cls := "ExactCurves$Vault", name := "addParts", desc := "(IJ)V" } : Jvm.MethodName) prog_8_method_3_code (4 : Nat) (Option.none : Option Jvm.ClassFile.FieldType)) ∈ qz_T := qz_mem 559 (by decide +kernel) rfl
theorem wq_516 : (Jvm.Cond.methodLink "ExactCurvesLaw" (107 : Nat) ({ cls := "ExactCurves", name := "redeem", desc := "(IIJ)J" } : Jvm.MethodName)) ∈ qz_T := qz_mem 560 (by decide +kernel) rfl
theorem wq_517 : (Jvm.Cond.instanceMethod ({ cls := "ExactCurves", name := "redeem", desc := "(IIJ)J" } : Jvm.MethodName)) ∈ qz_T := qz_mem 561 (by decide +kernel) rfl
theorem wq_518 : (Jvm.Cond.selects "ExactCurves" ({ cls := "ExactCurves", name := "redeem", desc := "(IIJ)J" } : Jvm.MethodName) ({ cls := "ExactCurves", name := "redeem", desc := "(IIJ)J" } : Jvm.MethodName)) ∈ qz_T := qz_mem 562 (by decide +kernel) rfl
theorem wq_519 : (Jvm.Cond.code ({ cls := "ExactCurves", name := "redeem", desc := "(IIJ)J" } : Jvm.MethodName) prog_1_method_22_code (8 : Nat) (Option.some Jvm.ClassFile.FieldType.long)) ∈ qz_T := qz_mem 563 (by decide +kernel) rfl
theorem wq_520 : (Jvm.Cond.methodLink "ExactCurvesLaw" (111 : Nat) ({ cls := "ExactCurves", name := "vault", desc := "(II)J" } : Jvm.MethodName)) ∈ qz_T := qz_mem 564 (by decide +kernel) rfl
theorem wq_521 : (Jvm.Cond.instanceMethod ({ cls := "ExactCurves", name := "vault", desc := "(II)J" } : Jvm.MethodName)) ∈ qz_T := qz_mem 565 (by decide +kernel) rfl
theorem wq_522 : (Jvm.Cond.selects "ExactCurves" ({ cls := "ExactCurves", name := "vault", desc := "(II)J" } : Jvm.MethodName) ({ cls := "ExactCurves", name := "vault", desc := "(II)J" } : Jvm.MethodName)) ∈ qz_T := qz_mem 566 (by decide +kernel) rfl
theorem wq_523 : (Jvm.Cond.code ({ cls := "ExactCurves", name := "vault", desc := "(II)J" } : Jvm.MethodName) prog_1_method_23_code (3 : Nat) (Option.some Jvm.ClassFile.FieldType.long)) ∈ qz_T := qz_mem 567 (by decide +kernel) rfl
theorem wq_524 : (Jvm.Cond.methodLink "ExactCurves" (254 : Nat) ({ cls := "ExactCurves$Vault", name := "told", desc := "(I)J" } : Jvm.MethodName)) ∈ qz_T := qz_mem 568 (by decide +kernel) rfl
theorem wq_525 : (Jvm.Cond.instanceMethod ({ cls := "ExactCurves$Vault", name := "told", desc := "(I)J" } : Jvm.MethodName)) ∈ qz_T := qz_mem 569 (by decide +kernel) rfl
theorem wq_526 : (Jvm.Cond.selects "ExactCurves$Vault" ({ cls := "ExactCurves$Vault", name := "told", desc := "(I)J" } : Jvm.MethodName) ({ cls := "ExactCurves$Vault", name := "told", desc := "(I)J" } : Jvm.MethodName)) ∈ qz_T := qz_mem 570 (by decide +kernel) rfl
theorem wq_527 : (Jvm.Cond.code ({ cls := "ExactCurves$Vault", name := "told", desc := "(I)J" } : Jvm.MethodName) prog_8_method_2_code (2 : Nat) (Option.some Jvm.ClassFile.FieldType.long)) ∈ qz_T := qz_mem 571 (by decide +kernel) rfl
theorem wq_528 : (Jvm.Cond.constantLong "ExactCurves$Vault" (30 : Nat) (-2 : Int64)) ∈ qz_T := qz_mem 572 (by decide +kernel) rfl
theorem wq_529 : (Jvm.Cond.methodLink "ExactCurvesLaw" (115 : Nat) ({ cls := "ExactCurves", name := "loan", desc := "(IIIJJ)I" } : Jvm.MethodName)) ∈ qz_T := qz_mem 573 (by decide +kernel) rfl
theorem wq_530 : (Jvm.Cond.instanceMethod ({ cls := "ExactCurves", name := "loan", desc := "(IIIJJ)I" } : Jvm.MethodName)) ∈ qz_T := qz_mem 574 (by decide +kernel) rfl
theorem wq_531 : (Jvm.Cond.selects "ExactCurves" ({ cls := "ExactCurves", name := "loan", desc := "(IIIJJ)I" } : Jvm.MethodName) ({ cls := "ExactCurves", name := "loan", desc := "(IIIJJ)I" } : Jvm.MethodName)) ∈ qz_T := qz_mem 575 (by decide +kernel) rfl
theorem wq_532 : (Jvm.Cond.code ({ cls := "ExactCurves", name := "loan", desc := "(IIIJJ)I" } : Jvm.MethodName) prog_1_method_24_code (11 : Nat) (Option.some Jvm.ClassFile.FieldType.int)) ∈ qz_T := qz_mem 576 (by decide +kernel) rfl
theorem wq_533 : (Jvm.Cond.methodLink "ExactCurves" (255 : Nat) ({ cls := "ExactCurves", name := "freeLoan", desc := "()I" } : Jvm.MethodName)) ∈ qz_T := qz_mem 577 (by decide +kernel) rfl
theorem wq_535 : (Jvm.Cond.instanceMethod ({ cls := "ExactCurves", name := "freeLoan", desc := "()I" } : Jvm.MethodName)) ∈ qz_T := qz_mem 579 (by decide +kernel) rfl
theorem wq_536 : (Jvm.Cond.code ({ cls := "ExactCurves", name := "freeLoan", desc := "()I" } : Jvm.MethodName) prog_1_method_39_code (2 : Nat) (Option.some Jvm.ClassFile.FieldType.int)) ∈ qz_T := qz_mem 580 (by decide +kernel) rfl
theorem wq_537 : (Jvm.Cond.constantLong "ExactCurves" (259 : Nat) (5 : Int64)) ∈ qz_T := qz_mem 581 (by decide +kernel) rfl
theorem wq_538 : (Jvm.Cond.constantLong "ExactCurves" (261 : Nat) (3 : Int64)) ∈ qz_T := qz_mem 582 (by decide +kernel) rfl
theorem wq_539 : (Jvm.Cond.methodLink "ExactCurves" (263 : Nat) ({ cls := "ExactCurves$Pool", name := "valueOf", desc := "(IJ)J" } : Jvm.MethodName)) ∈ qz_T := qz_mem 583 (by decide +kernel) rfl
theorem wq_540 : (Jvm.Cond.instanceMethod ({ cls := "ExactCurves$Pool", name := "valueOf", desc := "(IJ)J" } : Jvm.MethodName)) ∈ qz_T := qz_mem 584 (by decide +kernel) rfl
theorem wq_541 : (Jvm.Cond.selects "ExactCurves$Pool" ({ cls := "ExactCurves$Pool", name := "valueOf", desc := "(IJ)J" } : Jvm.MethodName) ({ cls := "ExactCurves$Pool", name := "valueOf", desc := "(IJ)J" } : Jvm.MethodName)) ∈ qz_T := qz_mem 585 (by decide +kernel) rfl
theorem wq_542 : (Jvm.Cond.code ({ cls := "ExactCurves$Pool", name := "valueOf", desc := "(IJ)J" } : Jvm.MethodName) prog_6_method_14_code (6 : Nat) (Option.some Jvm.ClassFile.FieldType.long)) ∈ qz_T := qz_mem 586 (by decide +kernel) rfl
theorem wq_543 : (Jvm.Cond.constantLong "ExactCurves$Pool" (83 : Nat) (1000000000000000000 : Int64)) ∈ qz_T := qz_mem 587 (by decide +kernel) rfl
theorem wq_544 : (Jvm.Cond.methodLink "ExactCurves" (266 : Nat) ({ cls := "ExactCurves$Vault", name := "unitsOf", desc := "(J)J" } : Jvm.MethodName)) ∈ qz_T := qz_mem 588 (by decide +kernel) rfl
theorem wq_545 : (Jvm.Cond.instanceMethod ({ cls := "ExactCurves$Vault", name := "unitsOf", desc := "(J)J" } : Jvm.MethodName)) ∈ qz_T := qz_mem 589 (by decide +kernel) rfl
theorem wq_546 : (Jvm.Cond.selects "ExactCurves$Vault" ({ cls := "ExactCurves$Vault", name := "unitsOf", desc := "(J)J" } : Jvm.MethodName) ({ cls := "ExactCurves$Vault", name := "unitsOf", desc := "(J)J" } : Jvm.MethodName)) ∈ qz_T := qz_mem 590 (by decide +kernel) rfl
theorem wq_547 : (Jvm.Cond.code ({ cls := "ExactCurves$Vault", name := "unitsOf", desc := "(J)J" } : Jvm.MethodName) prog_8_method_6_code (3 : Nat) (Option.some Jvm.ClassFile.FieldType.long)) ∈ qz_T := qz_mem 591 (by decide +kernel) rfl
theorem wq_548 : (Jvm.Cond.methodLink "ExactCurves" (270 : Nat) ({ cls := "ExactCurves$Loan", name := "begin", desc := "(IIIJJ)V" } : Jvm.MethodName)) ∈ qz_T := qz_mem 592 (by decide +kernel) rfl
theorem wq_549 : (Jvm.Cond.instanceMethod ({ cls := "ExactCurves$Loan", name := "begin", desc := "(IIIJJ)V" } : Jvm.MethodName)) ∈ qz_T := qz_mem 593 (by decide +kernel) rfl
theorem wq_550 : (Jvm.Cond.selects "ExactCurves$Loan" ({ cls := "ExactCurves$Loan", name := "begin", desc := "(IIIJJ)V" } : Jvm.MethodName) ({ cls := "ExactCurves$Loan", name := "begin", desc := "(IIIJJ)V" } : Jvm.MethodName)) ∈ qz_T := qz_mem 594 (by decide +kernel) rfl
theorem wq_551 : (Jvm.Cond.code ({ cls := "ExactCurves$Loan", name := "begin", desc := "(IIIJJ)V" } : Jvm.MethodName) prog_4_method_2_code (8 : Nat) (Option.none : Option Jvm.ClassFile.FieldType)) ∈ qz_T := qz_mem 595 (by decide +kernel) rfl
theorem wq_552 : (Jvm.Cond.methodLink "ExactCurvesLaw" (120 : Nat) ({ cls := "ExactCurves", name := "ofLoan", desc := "(II)J" } : Jvm.MethodName)) ∈ qz_T := qz_mem 596 (by decide +kernel) rfl
theorem wq_553 : (Jvm.Cond.instanceMethod ({ cls := "ExactCurves", name := "ofLoan", desc := "(II)J" } : Jvm.MethodName)) ∈ qz_T := qz_mem 597 (by decide +kernel) rfl
theorem wq_554 : (Jvm.Cond.selects "ExactCurves" ({ cls := "ExactCurves", name := "ofLoan", desc := "(II)J" } : Jvm.MethodName) ({ cls := "ExactCurves", name := "ofLoan", desc := "(II)J" } : Jvm.MethodName)) ∈ qz_T := qz_mem 598 (by decide +kernel) rfl
theorem wq_555 : (Jvm.Cond.code ({ cls := "ExactCurves", name := "ofLoan", desc := "(II)J" } : Jvm.MethodName) prog_1_method_25_code (4 : Nat) (Option.some Jvm.ClassFile.FieldType.long)) ∈ qz_T := qz_mem 599 (by decide +kernel) rfl
theorem wq_556 : (Jvm.Cond.methodLink "ExactCurves" (274 : Nat) ({ cls := "ExactCurves", name := "loanAt", desc := "(I)LExactCurves$Loan;" } : Jvm.MethodName)) ∈ qz_T := qz_mem 600 (by decide +kernel) rfl
theorem wq_558 : (Jvm.Cond.instanceMethod ({ cls := "ExactCurves", name := "loanAt", desc := "(I)LExactCurves$Loan;" } : Jvm.MethodName)) ∈ qz_T := qz_mem 602 (by decide +kernel) rfl
theorem wq_559 : (Jvm.Cond.code ({ cls := "ExactCurves", name := "loanAt", desc := "(I)LExactCurves$Loan;" } : Jvm.MethodName) prog_1_method_38_code (2 : Nat) (Option.some (Jvm.ClassFile.FieldType.object "ExactCurves$Loan"))) ∈ qz_T := qz_mem 603 (by decide +kernel) rfl
theorem wq_560 : (Jvm.Cond.methodLink "ExactCurves" (295 : Nat) ({ cls := "ExactCurves", name := "coverValue", desc := "(LExactCurves$Loan;)J" } : Jvm.MethodName)) ∈ qz_T := qz_mem 604 (by decide +kernel) rfl
theorem wq_562 : (Jvm.Cond.instanceMethod ({ cls := "ExactCurves", name := "coverValue", desc := "(LExactCurves$Loan;)J" } : Jvm.MethodName)) ∈ qz_T := qz_mem 606 (by decide +kernel) rfl
theorem wq_563 : (Jvm.Cond.code ({ cls := "ExactCurves", name := "coverValue", desc := "(LExactCurves$Loan;)J" } : Jvm.MethodName) prog_1_method_44_code (2 : Nat) (Option.some Jvm.ClassFile.FieldType.long)) ∈ qz_T := qz_mem 607 (by decide +kernel) rfl
theorem wq_564 : (Jvm.Cond.methodLink "ExactCurves" (298 : Nat) ({ cls := "ExactCurves", name := "isUncovered", desc := "(LExactCurves$Loan;)Z" } : Jvm.MethodName)) ∈ qz_T := qz_mem 608 (by decide +kernel) rfl
theorem wq_566 : (Jvm.Cond.instanceMethod ({ cls := "ExactCurves", name := "isUncovered", desc := "(LExactCurves$Loan;)Z" } : Jvm.MethodName)) ∈ qz_T := qz_mem 610 (by decide +kernel) rfl
theorem wq_567 : (Jvm.Cond.code ({ cls := "ExactCurves", name := "isUncovered", desc := "(LExactCurves$Loan;)Z" } : Jvm.MethodName) prog_1_method_45_code (2 : Nat) (Option.some Jvm.ClassFile.FieldType.boolean)) ∈ qz_T := qz_mem 611 (by decide +kernel) rfl
theorem wq_568 : (Jvm.Cond.constantLong "ExactCurves" (347 : Nat) (4 : Int64)) ∈ qz_T := qz_mem 612 (by decide +kernel) rfl
theorem wq_569 : (Jvm.Cond.methodLink "ExactCurvesLaw" (124 : Nat) ({ cls := "ExactCurves", name := "pay", desc := "(IIJ)J" } : Jvm.MethodName)) ∈ qz_T := qz_mem 613 (by decide +kernel) rfl
theorem wq_570 : (Jvm.Cond.instanceMethod ({ cls := "ExactCurves", name := "pay", desc := "(IIJ)J" } : Jvm.MethodName)) ∈ qz_T := qz_mem 614 (by decide +kernel) rfl
theorem wq_571 : (Jvm.Cond.selects "ExactCurves" ({ cls := "ExactCurves", name := "pay", desc := "(IIJ)J" } : Jvm.MethodName) ({ cls := "ExactCurves", name := "pay", desc := "(IIJ)J" } : Jvm.MethodName)) ∈ qz_T := qz_mem 615 (by decide +kernel) rfl
theorem wq_572 : (Jvm.Cond.code ({ cls := "ExactCurves", name := "pay", desc := "(IIJ)J" } : Jvm.MethodName) prog_1_method_26_code (11 : Nat) (Option.some Jvm.ClassFile.FieldType.long)) ∈ qz_T := qz_mem 616 (by decide +kernel) rfl
theorem wq_573 : (Jvm.Cond.methodLink "ExactCurves" (302 : Nat) ({ cls := "java/lang/Math", name := "min", desc := "(JJ)J" } : Jvm.MethodName)) ∈ qz_T := qz_mem 617 (by decide +kernel) rfl
theorem wq_574 : (Jvm.Cond.methodLink "ExactCurves" (311 : Nat) ({ cls := "ExactCurves", name := "coverToken", desc := "(LExactCurves$Loan;)I" } : Jvm.MethodName)) ∈ qz_T := qz_mem 618 (by decide +kernel) rfl
theorem wq_576 : (Jvm.Cond.instanceMethod ({ cls := "ExactCurves", name := "coverToken", desc := "(LExactCurves$Loan;)I" } : Jvm.MethodName)) ∈ qz_T := qz_mem 620 (by decide +kernel) rfl
theorem wq_577 : (Jvm.Cond.code ({ cls := "ExactCurves", name := "coverToken", desc := "(LExactCurves$Loan;)I" } : Jvm.MethodName) prog_1_method_41_code (2 : Nat) (Option.some Jvm.ClassFile.FieldType.int)) ∈ qz_T := qz_mem 621 (by decide +kernel) rfl
theorem wq_578 : (Jvm.Cond.methodLink "ExactCurvesLaw" (128 : Nat) ({ cls := "ExactCurves", name := "close", desc := "(II)J" } : Jvm.MethodName)) ∈ qz_T := qz_mem 622 (by decide +kernel) rfl
theorem wq_579 : (Jvm.Cond.instanceMethod ({ cls := "ExactCurves", name := "close", desc := "(II)J" } : Jvm.MethodName)) ∈ qz_T := qz_mem 623 (by decide +kernel) rfl
theorem wq_580 : (Jvm.Cond.selects "ExactCurves" ({ cls := "ExactCurves", name := "close", desc := "(II)J" } : Jvm.MethodName) ({ cls := "ExactCurves", name := "close", desc := "(II)J" } : Jvm.MethodName)) ∈ qz_T := qz_mem 624 (by decide +kernel) rfl
theorem wq_581 : (Jvm.Cond.code ({ cls := "ExactCurves", name := "close", desc := "(II)J" } : Jvm.MethodName) prog_1_method_27_code (11 : Nat) (Option.some Jvm.ClassFile.FieldType.long)) ∈ qz_T := qz_mem 625 (by decide +kernel) rfl
theorem wq_582 : (Jvm.Cond.constantLong "ExactCurves" (317 : Nat) (105 : Int64)) ∈ qz_T := qz_mem 626 (by decide +kernel) rfl
theorem wq_583 : (Jvm.Cond.constantLong "ExactCurves" (319 : Nat) (100 : Int64)) ∈ qz_T := qz_mem 627 (by decide +kernel) rfl
theorem wq_584 : (Jvm.Cond.methodLink "ExactCurves" (321 : Nat) ({ cls := "ExactCurves$Exact", name := "timesOverUp", desc := "(JJJ)J" } : Jvm.MethodName)) ∈ qz_T := qz_mem 628 (by decide +kernel) rfl
theorem wq_585 : (Jvm.Cond.methodLink "ExactCurves" (324 : Nat) ({ cls := "ExactCurves$Pool", name := "leastOfValue", desc := "(IJ)J" } : Jvm.MethodName)) ∈ qz_T := qz_mem 629 (by decide +kernel) rfl
theorem wq_586 : (Jvm.Cond.instanceMethod ({ cls := "ExactCurves$Pool", name := "leastOfValue", desc := "(IJ)J" } : Jvm.MethodName)) ∈ qz_T := qz_mem 630 (by decide +kernel) rfl
theorem wq_587 : (Jvm.Cond.selects "ExactCurves$Pool" ({ cls := "ExactCurves$Pool", name := "leastOfValue", desc := "(IJ)J" } : Jvm.MethodName) ({ cls := "ExactCurves$Pool", name := "leastOfValue", desc := "(IJ)J" } : Jvm.MethodName)) ∈ qz_T := qz_mem 631 (by decide +kernel) rfl
theorem wq_588 : (Jvm.Cond.code ({ cls := "ExactCurves$Pool", name := "leastOfValue", desc := "(IJ)J" } : Jvm.MethodName) prog_6_method_15_code (8 : Nat) (Option.some Jvm.ClassFile.FieldType.long)) ∈ qz_T := qz_mem 632 (by decide +kernel) rfl
theorem wq_589 : (Jvm.Cond.methodLink "ExactCurvesLaw" (132 : Nat) ({ cls := "ExactCurves", name := "count", desc := "(I)I" } : Jvm.MethodName)) ∈ qz_T := qz_mem 633 (by decide +kernel) rfl
theorem wq_590 : (Jvm.Cond.instanceMethod ({ cls := "ExactCurves", name := "count", desc := "(I)I" } : Jvm.MethodName)) ∈ qz_T := qz_mem 634 (by decide +kernel) rfl
theorem wq_591 : (Jvm.Cond.selects "ExactCurves" ({ cls := "ExactCurves", name := "count", desc := "(I)I" } : Jvm.MethodName) ({ cls := "ExactCurves", name := "count", desc := "(I)I" } : Jvm.MethodName)) ∈ qz_T := qz_mem 635 (by decide +kernel) rfl
theorem wq_592 : (Jvm.Cond.code ({ cls := "ExactCurves", name := "count", desc := "(I)I" } : Jvm.MethodName) prog_1_method_28_code (2 : Nat) (Option.some Jvm.ClassFile.FieldType.int)) ∈ qz_T := qz_mem 636 (by decide +kernel) rfl
theorem wq_593 : (Jvm.Cond.methodLink "ExactCurves" (327 : Nat) ({ cls := "ExactCurves", name := "openLoans", desc := "()I" } : Jvm.MethodName)) ∈ qz_T := qz_mem 637 (by decide +kernel) rfl
theorem wq_595 : (Jvm.Cond.instanceMethod ({ cls := "ExactCurves", name := "openLoans", desc := "()I" } : Jvm.MethodName)) ∈ qz_T := qz_mem 639 (by decide +kernel) rfl
theorem wq_596 : (Jvm.Cond.code ({ cls := "ExactCurves", name := "openLoans", desc := "()I" } : Jvm.MethodName) prog_1_method_40_code (3 : Nat) (Option.some Jvm.ClassFile.FieldType.int)) ∈ qz_T := qz_mem 640 (by decide +kernel) rfl
theorem wq_602 : (Jvm.Cond.methodLink "ExactCurvesModel" (1 : Nat) ({ cls := "java/lang/Object", name := "<init>", desc := "()V" } : Jvm.MethodName)) ∈ qz_T := qz_mem 646 (by decide +kernel) rfl
theorem wq_603 : (Jvm.Cond.constantLong "ExactCurvesModel" (118 : Nat) (1000000000 : Int64)) ∈ qz_T := qz_mem 647 (by decide +kernel) rfl
theorem wq_604 : (Jvm.Cond.fieldLink "ExactCurvesModel" (7 : Nat) "ExactCurvesModel" "balances" "[J") ∈ qz_T := qz_mem 648 (by decide +kernel) rfl
theorem wq_605 : (Jvm.Cond.fieldLink "ExactCurvesModel" (13 : Nat) "ExactCurvesModel" "houses" "[J") ∈ qz_T := qz_mem 649 (by decide +kernel) rfl
theorem wq_606 : (Jvm.Cond.fieldLink "ExactCurvesModel" (215 : Nat) "ExactCurvesModel" "clock" "I") ∈ qz_T := qz_mem 650 (by decide +kernel) rfl
theorem wq_607 : (Jvm.Cond.fieldLink "ExactCurvesModel" (145 : Nat) "ExactCurvesModel" "pools" "I") ∈ qz_T := qz_mem 651 (by decide +kernel) rfl
theorem wq_608 : (Jvm.Cond.fieldLink "ExactCurvesModel" (16 : Nat) "ExactCurvesModel" "poolTokens" "[I") ∈ qz_T := qz_mem 652 (by decide +kernel) rfl
theorem wq_609 : (Jvm.Cond.fieldLink "ExactCurvesModel" (20 : Nat) "ExactCurvesModel" "kinds" "[I") ∈ qz_T := qz_mem 653 (by decide +kernel) rfl
theorem wq_610 : (Jvm.Cond.fieldLink "ExactCurvesModel" (23 : Nat) "ExactCurvesModel" "fees" "[I") ∈ qz_T := qz_mem 654 (by decide +kernel) rfl
theorem wq_611 : (Jvm.Cond.fieldLink "ExactCurvesModel" (26 : Nat) "ExactCurvesModel" "reserves" "[J") ∈ qz_T := qz_mem 655 (by decide +kernel) rfl
theorem wq_612 : (Jvm.Cond.fieldLink "ExactCurvesModel" (29 : Nat) "ExactCurvesModel" "allShares" "[J") ∈ qz_T := qz_mem 656 (by decide +kernel) rfl
theorem wq_613 : (Jvm.Cond.fieldLink "ExactCurvesModel" (32 : Nat) "ExactCurvesModel" "shares" "[J") ∈ qz_T := qz_mem 657 (by decide +kernel) rfl
theorem wq_614 : (Jvm.Cond.fieldLink "ExactCurvesModel" (35 : Nat) "ExactCurvesModel" "tallies" "[J") ∈ qz_T := qz_mem 658 (by decide +kernel) rfl
theorem wq_615 : (Jvm.Cond.fieldLink "ExactCurvesModel" (38 : Nat) "ExactCurvesModel" "ages" "[J") ∈ qz_T := qz_mem 659 (by decide +kernel) rfl
theorem wq_616 : (Jvm.Cond.fieldLink "ExactCurvesModel" (41 : Nat) "ExactCurvesModel" "markPools" "[I") ∈ qz_T := qz_mem 660 (by decide +kernel) rfl
theorem wq_617 : (Jvm.Cond.fieldLink "ExactCurvesModel" (44 : Nat) "ExactCurvesModel" "markTallies" "[J") ∈ qz_T := qz_mem 661 (by decide +kernel) rfl
theorem wq_618 : (Jvm.Cond.fieldLink "ExactCurvesModel" (47 : Nat) "ExactCurvesModel" "markAges" "[J") ∈ qz_T := qz_mem 662 (by decide +kernel) rfl
theorem wq_619 : (Jvm.Cond.fieldLink "ExactCurvesModel" (155 : Nat) "ExactCurvesModel" "tokenA" "I") ∈ qz_T := qz_mem 663 (by decide +kernel) rfl
theorem wq_620 : (Jvm.Cond.fieldLink "ExactCurvesModel" (50 : Nat) "ExactCurvesModel" "tokenB" "I") ∈ qz_T := qz_mem 664 (by decide +kernel) rfl
theorem wq_621 : (Jvm.Cond.fieldLink "ExactCurvesModel" (152 : Nat) "ExactCurvesModel" "orders" "I") ∈ qz_T := qz_mem 665 (by decide +kernel) rfl
theorem wq_622 : (Jvm.Cond.fieldLink "ExactCurvesModel" (54 : Nat) "ExactCurvesModel" "orderPlayers" "[I") ∈ qz_T := qz_mem 666 (by decide +kernel) rfl
theorem wq_623 : (Jvm.Cond.fieldLink "ExactCurvesModel" (57 : Nat) "ExactCurvesModel" "buys" "[Z") ∈ qz_T := qz_mem 667 (by decide +kernel) rfl
theorem wq_624 : (Jvm.Cond.fieldLink "ExactCurvesModel" (61 : Nat) "ExactCurvesModel" "amounts" "[J") ∈ qz_T := qz_mem 668 (by decide +kernel) rfl
theorem wq_625 : (Jvm.Cond.fieldLink "ExactCurvesModel" (64 : Nat) "ExactCurvesModel" "limits" "[J") ∈ qz_T := qz_mem 669 (by decide +kernel) rfl
theorem wq_626 : (Jvm.Cond.fieldLink "ExactCurvesModel" (245 : Nat) "ExactCurvesModel" "allDealt" "J") ∈ qz_T := qz_mem 670 (by decide +kernel) rfl
theorem wq_627 : (Jvm.Cond.fieldLink "ExactCurvesModel" (242 : Nat) "ExactCurvesModel" "ordersThen" "I") ∈ qz_T := qz_mem 671 (by decide +kernel) rfl
theorem wq_628 : (Jvm.Cond.fieldLink "ExactCurvesModel" (67 : Nat) "ExactCurvesModel" "dealts" "[J") ∈ qz_T := qz_mem 672 (by decide +kernel) rfl
theorem wq_629 : (Jvm.Cond.fieldLink "ExactCurvesModel" (70 : Nat) "ExactCurvesModel" "taken" "[Z") ∈ qz_T := qz_mem 673 (by decide +kernel) rfl
theorem wq_630 : (Jvm.Cond.fieldLink "ExactCurvesModel" (73 : Nat) "ExactCurvesModel" "vaults" "[J") ∈ qz_T := qz_mem 674 (by decide +kernel) rfl
theorem wq_631 : (Jvm.Cond.fieldLink "ExactCurvesModel" (76 : Nat) "ExactCurvesModel" "allParts" "[J") ∈ qz_T := qz_mem 675 (by decide +kernel) rfl
theorem wq_632 : (Jvm.Cond.fieldLink "ExactCurvesModel" (79 : Nat) "ExactCurvesModel" "parts" "[J") ∈ qz_T := qz_mem 676 (by decide +kernel) rfl
theorem wq_633 : (Jvm.Cond.fieldLink "ExactCurvesModel" (82 : Nat) "ExactCurvesModel" "indexes" "[J") ∈ qz_T := qz_mem 677 (by decide +kernel) rfl
theorem wq_634 : (Jvm.Cond.fieldLink "ExactCurvesModel" (85 : Nat) "ExactCurvesModel" "rates" "[J") ∈ qz_T := qz_mem 678 (by decide +kernel) rfl
theorem wq_635 : (Jvm.Cond.fieldLink "ExactCurvesModel" (88 : Nat) "ExactCurvesModel" "isLoan" "[Z") ∈ qz_T := qz_mem 679 (by decide +kernel) rfl
theorem wq_636 : (Jvm.Cond.fieldLink "ExactCurvesModel" (91 : Nat) "ExactCurvesModel" "loanPlayers" "[I") ∈ qz_T := qz_mem 680 (by decide +kernel) rfl
theorem wq_637 : (Jvm.Cond.fieldLink "ExactCurvesModel" (94 : Nat) "ExactCurvesModel" "loanPools" "[I") ∈ qz_T := qz_mem 681 (by decide +kernel) rfl
theorem wq_638 : (Jvm.Cond.fieldLink "ExactCurvesModel" (97 : Nat) "ExactCurvesModel" "loanSides" "[I") ∈ qz_T := qz_mem 682 (by decide +kernel) rfl
theorem wq_639 : (Jvm.Cond.fieldLink "ExactCurvesModel" (100 : Nat) "ExactCurvesModel" "covers" "[J") ∈ qz_T := qz_mem 683 (by decide +kernel) rfl
theorem wq_640 : (Jvm.Cond.fieldLink "ExactCurvesModel" (103 : Nat) "ExactCurvesModel" "units" "[J") ∈ qz_T := qz_mem 684 (by decide +kernel) rfl
theorem wq_641 : (Jvm.Cond.fieldLink "ExactCurvesModel" (106 : Nat) "ExactCurvesModel" "big" "[J") ∈ qz_T := qz_mem 685 (by decide +kernel) rfl
theorem wq_642 : (Jvm.Cond.fieldLink "ExactCurvesModel" (109 : Nat) "ExactCurvesModel" "other" "[J") ∈ qz_T := qz_mem 686 (by decide +kernel) rfl
theorem wq_643 : (Jvm.Cond.fieldLink "ExactCurvesModel" (112 : Nat) "ExactCurvesModel" "sum" "[J") ∈ qz_T := qz_mem 687 (by decide +kernel) rfl
theorem wq_644 : (Jvm.Cond.fieldLink "ExactCurvesModel" (115 : Nat) "ExactCurvesModel" "piece" "[J") ∈ qz_T := qz_mem 688 (by decide +kernel) rfl
theorem wq_645 : (Jvm.Cond.fieldLink "ExactCurvesModel" (122 : Nat) "ExactCurvesModel" "rest" "J") ∈ qz_T := qz_mem 689 (by decide +kernel) rfl
theorem wq_646 : (Jvm.Cond.laysFinal "ExactCurvesModel" "ExactCurvesModel" "balances" "[J") ∈ qz_T := qz_mem 690 (by decide +kernel) rfl
theorem wq_648 : (Jvm.Cond.laysFinal "ExactCurvesModel" "ExactCurvesModel" "houses" "[J") ∈ qz_T := qz_mem 692 (by decide +kernel) rfl
theorem wq_650 : (Jvm.Cond.lays "ExactCurvesModel" "ExactCurvesModel" "clock" "I") ∈ qz_T := qz_mem 694 (by decide +kernel) rfl
theorem wq_652 : (Jvm.Cond.lays "ExactCurvesModel" "ExactCurvesModel" "pools" "I") ∈ qz_T := qz_mem 696 (by decide +kernel) rfl
theorem wq_654 : (Jvm.Cond.laysFinal "ExactCurvesModel" "ExactCurvesModel" "poolTokens" "[I") ∈ qz_T := qz_mem 698 (by decide +kernel) rfl
theorem wq_656 : (Jvm.Cond.laysFinal "ExactCurvesModel" "ExactCurvesModel" "kinds" "[I") ∈ qz_T := qz_mem 700 (by decide +kernel) rfl
theorem wq_658 : (Jvm.Cond.laysFinal "ExactCurvesModel" "ExactCurvesModel" "fees" "[I") ∈ qz_T := qz_mem 702 (by decide +kernel) rfl
theorem wq_660 : (Jvm.Cond.laysFinal "ExactCurvesModel" "ExactCurvesModel" "reserves" "[J") ∈ qz_T := qz_mem 704 (by decide +kernel) rfl
theorem wq_662 : (Jvm.Cond.laysFinal "ExactCurvesModel" "ExactCurvesModel" "allShares" "[J") ∈ qz_T := qz_mem 706 (by decide +kernel) rfl
theorem wq_664 : (Jvm.Cond.laysFinal "ExactCurvesModel" "ExactCurvesModel" "shares" "[J") ∈ qz_T := qz_mem 708 (by decide +kernel) rfl
theorem wq_666 : (Jvm.Cond.laysFinal "ExactCurvesModel" "ExactCurvesModel" "tallies" "[J") ∈ qz_T := qz_mem 710 (by decide +kernel) rfl
theorem wq_668 : (Jvm.Cond.laysFinal "ExactCurvesModel" "ExactCurvesModel" "ages" "[J") ∈ qz_T := qz_mem 712 (by decide +kernel) rfl
theorem wq_670 : (Jvm.Cond.laysFinal "ExactCurvesModel" "ExactCurvesModel" "markPools" "[I") ∈ qz_T := qz_mem 714 (by decide +kernel) rfl
theorem wq_672 : (Jvm.Cond.laysFinal "ExactCurvesModel" "ExactCurvesModel" "markTallies" "[J") ∈ qz_T := qz_mem 716 (by decide +kernel) rfl
theorem wq_674 : (Jvm.Cond.laysFinal "ExactCurvesModel" "ExactCurvesModel" "markAges" "[J") ∈ qz_T := qz_mem 718 (by decide +kernel) rfl
theorem wq_676 : (Jvm.Cond.lays "ExactCurvesModel" "ExactCurvesModel" "tokenA" "I") ∈ qz_T := qz_mem 720 (by decide +kernel) rfl
theorem wq_678 : (Jvm.Cond.lays "ExactCurvesModel" "ExactCurvesModel" "tokenB" "I") ∈ qz_T := qz_mem 722 (by decide +kernel) rfl
theorem wq_680 : (Jvm.Cond.lays "ExactCurvesModel" "ExactCurvesModel" "orders" "I") ∈ qz_T := qz_mem 724 (by decide +kernel) rfl
theorem wq_682 : (Jvm.Cond.laysFinal "ExactCurvesModel" "ExactCurvesModel" "orderPlayers" "[I") ∈ qz_T := qz_mem 726 (by decide +kernel) rfl
theorem wq_684 : (Jvm.Cond.laysFinal "ExactCurvesModel" "ExactCurvesModel" "buys" "[Z") ∈ qz_T := qz_mem 728 (by decide +kernel) rfl
theorem wq_686 : (Jvm.Cond.laysFinal "ExactCurvesModel" "ExactCurvesModel" "amounts" "[J") ∈ qz_T := qz_mem 730 (by decide +kernel) rfl
theorem wq_688 : (Jvm.Cond.laysFinal "ExactCurvesModel" "ExactCurvesModel" "limits" "[J") ∈ qz_T := qz_mem 732 (by decide +kernel) rfl
theorem wq_690 : (Jvm.Cond.lays "ExactCurvesModel" "ExactCurvesModel" "allDealt" "J") ∈ qz_T := qz_mem 734 (by decide +kernel) rfl
theorem wq_692 : (Jvm.Cond.lays "ExactCurvesModel" "ExactCurvesModel" "ordersThen" "I") ∈ qz_T := qz_mem 736 (by decide +kernel) rfl
theorem wq_694 : (Jvm.Cond.laysFinal "ExactCurvesModel" "ExactCurvesModel" "dealts" "[J") ∈ qz_T := qz_mem 738 (by decide +kernel) rfl
theorem wq_696 : (Jvm.Cond.laysFinal "ExactCurvesModel" "ExactCurvesModel" "taken" "[Z") ∈ qz_T := qz_mem 740 (by decide +kernel) rfl
theorem wq_698 : (Jvm.Cond.laysFinal "ExactCurvesModel" "ExactCurvesModel" "vaults" "[J") ∈ qz_T := qz_mem 742 (by decide +kernel) rfl
theorem wq_700 : (Jvm.Cond.laysFinal "ExactCurvesModel" "ExactCurvesModel" "allParts" "[J") ∈ qz_T := qz_mem 744 (by decide +kernel) rfl
theorem wq_702 : (Jvm.Cond.laysFinal "ExactCurvesModel" "ExactCurvesModel" "parts" "[J") ∈ qz_T := qz_mem 746 (by decide +kernel) rfl
theorem wq_704 : (Jvm.Cond.laysFinal "ExactCurvesModel" "ExactCurvesModel" "indexes" "[J") ∈ qz_T := qz_mem 748 (by decide +kernel) rfl
theorem wq_706 : (Jvm.Cond.laysFinal "ExactCurvesModel" "ExactCurvesModel" "rates" "[J") ∈ qz_T := qz_mem 750 (by decide +kernel) rfl
theorem wq_708 : (Jvm.Cond.laysFinal "ExactCurvesModel" "ExactCurvesModel" "isLoan" "[Z") ∈ qz_T := qz_mem 752 (by decide +kernel) rfl
theorem wq_710 : (Jvm.Cond.laysFinal "ExactCurvesModel" "ExactCurvesModel" "loanPlayers" "[I") ∈ qz_T := qz_mem 754 (by decide +kernel) rfl
theorem wq_712 : (Jvm.Cond.laysFinal "ExactCurvesModel" "ExactCurvesModel" "loanPools" "[I") ∈ qz_T := qz_mem 756 (by decide +kernel) rfl
theorem wq_714 : (Jvm.Cond.laysFinal "ExactCurvesModel" "ExactCurvesModel" "loanSides" "[I") ∈ qz_T := qz_mem 758 (by decide +kernel) rfl
theorem wq_716 : (Jvm.Cond.laysFinal "ExactCurvesModel" "ExactCurvesModel" "covers" "[J") ∈ qz_T := qz_mem 760 (by decide +kernel) rfl
theorem wq_718 : (Jvm.Cond.laysFinal "ExactCurvesModel" "ExactCurvesModel" "units" "[J") ∈ qz_T := qz_mem 762 (by decide +kernel) rfl
theorem wq_720 : (Jvm.Cond.laysFinal "ExactCurvesModel" "ExactCurvesModel" "big" "[J") ∈ qz_T := qz_mem 764 (by decide +kernel) rfl
theorem wq_722 : (Jvm.Cond.laysFinal "ExactCurvesModel" "ExactCurvesModel" "other" "[J") ∈ qz_T := qz_mem 766 (by decide +kernel) rfl
theorem wq_724 : (Jvm.Cond.laysFinal "ExactCurvesModel" "ExactCurvesModel" "sum" "[J") ∈ qz_T := qz_mem 768 (by decide +kernel) rfl
theorem wq_726 : (Jvm.Cond.laysFinal "ExactCurvesModel" "ExactCurvesModel" "piece" "[J") ∈ qz_T := qz_mem 770 (by decide +kernel) rfl
theorem wq_728 : (Jvm.Cond.lays "ExactCurvesModel" "ExactCurvesModel" "rest" "J") ∈ qz_T := qz_mem 772 (by decide +kernel) rfl
theorem wq_731 : (Jvm.Cond.methodLink "ExactCurvesLaw" (19 : Nat) ({ cls := "ExactCurvesModel", name := "mint", desc := "(IIJ)J" } : Jvm.MethodName)) ∈ qz_T := qz_mem 775 (by decide +kernel) rfl
theorem wq_732 : (Jvm.Cond.instanceMethod ({ cls := "ExactCurvesModel", name := "mint", desc := "(IIJ)J" } : Jvm.MethodName)) ∈ qz_T := qz_mem 776 (by decide +kernel) rfl
theorem wq_733 : (Jvm.Cond.selects "ExactCurvesModel" ({ cls := "ExactCurvesModel", name := "mint", desc := "(IIJ)J" } : Jvm.MethodName) ({ cls := "ExactCurvesModel", name := "mint", desc := "(IIJ)J" } : Jvm.MethodName)) ∈ qz_T := qz_mem 777 (by decide +kernel) rfl
theorem wq_734 : (Jvm.Cond.code ({ cls := "ExactCurvesModel", name := "mint", desc := "(IIJ)J" } : Jvm.MethodName) prog_10_method_17_code (5 : Nat) (Option.some Jvm.ClassFile.FieldType.long)) ∈ qz_T := qz_mem 778 (by decide +kernel) rfl
theorem wq_735 : (Jvm.Cond.methodLink "ExactCurvesModel" (166 : Nat) ({ cls := "ExactCurvesModel", name := "isPlayer", desc := "(I)Z" } : Jvm.MethodName)) ∈ qz_T := qz_mem 779 (by decide +kernel) rfl
theorem wq_736 : (Jvm.Cond.static ({ cls := "ExactCurvesModel", name := "isPlayer", desc := "(I)Z" } : Jvm.MethodName)) ∈ qz_T := qz_mem 780 (by decide +kernel) rfl
theorem wq_737 : (Jvm.Cond.code ({ cls := "ExactCurvesModel", name := "isPlayer", desc := "(I)Z" } : Jvm.MethodName) prog_10_method_10_code (1 : Nat) (Option.some Jvm.ClassFile.FieldType.boolean)) ∈ qz_T := qz_mem 781 (by decide +kernel) rfl
theorem wq_738 : (Jvm.Cond.methodLink "ExactCurvesModel" (170 : Nat) ({ cls := "ExactCurvesModel", name := "isToken", desc := "(I)Z" } : Jvm.MethodName)) ∈ qz_T := qz_mem 782 (by decide +kernel) rfl
theorem wq_739 : (Jvm.Cond.static ({ cls := "ExactCurvesModel", name := "isToken", desc := "(I)Z" } : Jvm.MethodName)) ∈ qz_T := qz_mem 783 (by decide +kernel) rfl
theorem wq_740 : (Jvm.Cond.code ({ cls := "ExactCurvesModel", name := "isToken", desc := "(I)Z" } : Jvm.MethodName) prog_10_method_11_code (1 : Nat) (Option.some Jvm.ClassFile.FieldType.boolean)) ∈ qz_T := qz_mem 784 (by decide +kernel) rfl
theorem wq_741 : (Jvm.Cond.constantLong "ExactCurvesModel" (173 : Nat) (100000000000000 : Int64)) ∈ qz_T := qz_mem 785 (by decide +kernel) rfl
theorem wq_742 : (Jvm.Cond.constantLong "ExactCurvesModel" (175 : Nat) (-2 : Int64)) ∈ qz_T := qz_mem 786 (by decide +kernel) rfl
theorem wq_743 : (Jvm.Cond.methodLink "ExactCurvesModel" (177 : Nat) ({ cls := "ExactCurvesModel", name := "allOf", desc := "(I)J" } : Jvm.MethodName)) ∈ qz_T := qz_mem 787 (by decide +kernel) rfl
theorem wq_745 : (Jvm.Cond.instanceMethod ({ cls := "ExactCurvesModel", name := "allOf", desc := "(I)J" } : Jvm.MethodName)) ∈ qz_T := qz_mem 789 (by decide +kernel) rfl
theorem wq_746 : (Jvm.Cond.code ({ cls := "ExactCurvesModel", name := "allOf", desc := "(I)J" } : Jvm.MethodName) prog_10_method_16_code (6 : Nat) (Option.some Jvm.ClassFile.FieldType.long)) ∈ qz_T := qz_mem 790 (by decide +kernel) rfl
theorem wq_747 : (Jvm.Cond.methodLink "ExactCurvesModel" (148 : Nat) ({ cls := "ExactCurvesModel", name := "has", desc := "(II)J" } : Jvm.MethodName)) ∈ qz_T := qz_mem 791 (by decide +kernel) rfl
theorem wq_749 : (Jvm.Cond.instanceMethod ({ cls := "ExactCurvesModel", name := "has", desc := "(II)J" } : Jvm.MethodName)) ∈ qz_T := qz_mem 793 (by decide +kernel) rfl
theorem wq_750 : (Jvm.Cond.code ({ cls := "ExactCurvesModel", name := "has", desc := "(II)J" } : Jvm.MethodName) prog_10_method_14_code (3 : Nat) (Option.some Jvm.ClassFile.FieldType.long)) ∈ qz_T := qz_mem 794 (by decide +kernel) rfl
theorem wq_751 : (Jvm.Cond.methodLink "ExactCurvesModel" (158 : Nat) ({ cls := "ExactCurvesModel", name := "heldBy", desc := "(I)J" } : Jvm.MethodName)) ∈ qz_T := qz_mem 795 (by decide +kernel) rfl
theorem wq_753 : (Jvm.Cond.instanceMethod ({ cls := "ExactCurvesModel", name := "heldBy", desc := "(I)J" } : Jvm.MethodName)) ∈ qz_T := qz_mem 797 (by decide +kernel) rfl
theorem wq_754 : (Jvm.Cond.code ({ cls := "ExactCurvesModel", name := "heldBy", desc := "(I)J" } : Jvm.MethodName) prog_10_method_36_code (2 : Nat) (Option.some Jvm.ClassFile.FieldType.long)) ∈ qz_T := qz_mem 798 (by decide +kernel) rfl
theorem wq_755 : (Jvm.Cond.constantLong "ExactCurvesModel" (218 : Nat) (1000 : Int64)) ∈ qz_T := qz_mem 799 (by decide +kernel) rfl
theorem wq_756 : (Jvm.Cond.methodLink "ExactCurvesModel" (227 : Nat) ({ cls := "ExactCurvesModel", name := "up", desc := "(JJ)J" } : Jvm.MethodName)) ∈ qz_T := qz_mem 800 (by decide +kernel) rfl
theorem wq_757 : (Jvm.Cond.static ({ cls := "ExactCurvesModel", name := "up", desc := "(JJ)J" } : Jvm.MethodName)) ∈ qz_T := qz_mem 801 (by decide +kernel) rfl
theorem wq_758 : (Jvm.Cond.code ({ cls := "ExactCurvesModel", name := "up", desc := "(JJ)J" } : Jvm.MethodName) prog_10_method_35_code (4 : Nat) (Option.some Jvm.ClassFile.FieldType.long)) ∈ qz_T := qz_mem 802 (by decide +kernel) rfl
theorem wq_759 : (Jvm.Cond.methodLink "ExactCurvesModel" (162 : Nat) ({ cls := "ExactCurvesModel", name := "coverToken", desc := "(I)I" } : Jvm.MethodName)) ∈ qz_T := qz_mem 803 (by decide +kernel) rfl
theorem wq_761 : (Jvm.Cond.instanceMethod ({ cls := "ExactCurvesModel", name := "coverToken", desc := "(I)I" } : Jvm.MethodName)) ∈ qz_T := qz_mem 805 (by decide +kernel) rfl
theorem wq_762 : (Jvm.Cond.code ({ cls := "ExactCurvesModel", name := "coverToken", desc := "(I)I" } : Jvm.MethodName) prog_10_method_44_code (2 : Nat) (Option.some Jvm.ClassFile.FieldType.int)) ∈ qz_T := qz_mem 806 (by decide +kernel) rfl
theorem wq_763 : (Jvm.Cond.constantLong "ExactCurvesModel" (180 : Nat) (-3 : Int64)) ∈ qz_T := qz_mem 807 (by decide +kernel) rfl
theorem wq_764 : (Jvm.Cond.methodLink "ExactCurvesModel" (182 : Nat) ({ cls := "ExactCurvesModel", name := "give", desc := "(IIJ)V" } : Jvm.MethodName)) ∈ qz_T := qz_mem 808 (by decide +kernel) rfl
theorem wq_766 : (Jvm.Cond.instanceMethod ({ cls := "ExactCurvesModel", name := "give", desc := "(IIJ)V" } : Jvm.MethodName)) ∈ qz_T := qz_mem 810 (by decide +kernel) rfl
theorem wq_767 : (Jvm.Cond.code ({ cls := "ExactCurvesModel", name := "give", desc := "(IIJ)V" } : Jvm.MethodName) prog_10_method_15_code (5 : Nat) (Option.none : Option Jvm.ClassFile.FieldType)) ∈ qz_T := qz_mem 811 (by decide +kernel) rfl
theorem wq_768 : (Jvm.Cond.methodLink "ExactCurvesLaw" (24 : Nat) ({ cls := "ExactCurvesModel", name := "balance", desc := "(II)J" } : Jvm.MethodName)) ∈ qz_T := qz_mem 812 (by decide +kernel) rfl
theorem wq_769 : (Jvm.Cond.instanceMethod ({ cls := "ExactCurvesModel", name := "balance", desc := "(II)J" } : Jvm.MethodName)) ∈ qz_T := qz_mem 813 (by decide +kernel) rfl
theorem wq_770 : (Jvm.Cond.selects "ExactCurvesModel" ({ cls := "ExactCurvesModel", name := "balance", desc := "(II)J" } : Jvm.MethodName) ({ cls := "ExactCurvesModel", name := "balance", desc := "(II)J" } : Jvm.MethodName)) ∈ qz_T := qz_mem 814 (by decide +kernel) rfl
theorem wq_771 : (Jvm.Cond.code ({ cls := "ExactCurvesModel", name := "balance", desc := "(II)J" } : Jvm.MethodName) prog_10_method_18_code (3 : Nat) (Option.some Jvm.ClassFile.FieldType.long)) ∈ qz_T := qz_mem 815 (by decide +kernel) rfl
theorem wq_772 : (Jvm.Cond.methodLink "ExactCurvesLaw" (29 : Nat) ({ cls := "ExactCurvesModel", name := "total", desc := "(I)J" } : Jvm.MethodName)) ∈ qz_T := qz_mem 816 (by decide +kernel) rfl
theorem wq_773 : (Jvm.Cond.instanceMethod ({ cls := "ExactCurvesModel", name := "total", desc := "(I)J" } : Jvm.MethodName)) ∈ qz_T := qz_mem 817 (by decide +kernel) rfl
theorem wq_774 : (Jvm.Cond.selects "ExactCurvesModel" ({ cls := "ExactCurvesModel", name := "total", desc := "(I)J" } : Jvm.MethodName) ({ cls := "ExactCurvesModel", name := "total", desc := "(I)J" } : Jvm.MethodName)) ∈ qz_T := qz_mem 818 (by decide +kernel) rfl
theorem wq_775 : (Jvm.Cond.code ({ cls := "ExactCurvesModel", name := "total", desc := "(I)J" } : Jvm.MethodName) prog_10_method_19_code (2 : Nat) (Option.some Jvm.ClassFile.FieldType.long)) ∈ qz_T := qz_mem 819 (by decide +kernel) rfl
theorem wq_776 : (Jvm.Cond.methodLink "ExactCurvesLaw" (33 : Nat) ({ cls := "ExactCurvesModel", name := "house", desc := "(I)J" } : Jvm.MethodName)) ∈ qz_T := qz_mem 820 (by decide +kernel) rfl
theorem wq_777 : (Jvm.Cond.instanceMethod ({ cls := "ExactCurvesModel", name := "house", desc := "(I)J" } : Jvm.MethodName)) ∈ qz_T := qz_mem 821 (by decide +kernel) rfl
theorem wq_778 : (Jvm.Cond.selects "ExactCurvesModel" ({ cls := "ExactCurvesModel", name := "house", desc := "(I)J" } : Jvm.MethodName) ({ cls := "ExactCurvesModel", name := "house", desc := "(I)J" } : Jvm.MethodName)) ∈ qz_T := qz_mem 822 (by decide +kernel) rfl
theorem wq_779 : (Jvm.Cond.code ({ cls := "ExactCurvesModel", name := "house", desc := "(I)J" } : Jvm.MethodName) prog_10_method_20_code (2 : Nat) (Option.some Jvm.ClassFile.FieldType.long)) ∈ qz_T := qz_mem 823 (by decide +kernel) rfl
theorem wq_780 : (Jvm.Cond.methodLink "ExactCurvesLaw" (38 : Nat) ({ cls := "ExactCurvesModel", name := "pool", desc := "(IIII)I" } : Jvm.MethodName)) ∈ qz_T := qz_mem 824 (by decide +kernel) rfl
theorem wq_781 : (Jvm.Cond.instanceMethod ({ cls := "ExactCurvesModel", name := "pool", desc := "(IIII)I" } : Jvm.MethodName)) ∈ qz_T := qz_mem 825 (by decide +kernel) rfl
theorem wq_782 : (Jvm.Cond.selects "ExactCurvesModel" ({ cls := "ExactCurvesModel", name := "pool", desc := "(IIII)I" } : Jvm.MethodName) ({ cls := "ExactCurvesModel", name := "pool", desc := "(IIII)I" } : Jvm.MethodName)) ∈ qz_T := qz_mem 826 (by decide +kernel) rfl
theorem wq_783 : (Jvm.Cond.code ({ cls := "ExactCurvesModel", name := "pool", desc := "(IIII)I" } : Jvm.MethodName) prog_10_method_21_code (5 : Nat) (Option.some Jvm.ClassFile.FieldType.int)) ∈ qz_T := qz_mem 827 (by decide +kernel) rfl
theorem wq_784 : (Jvm.Cond.methodLink "ExactCurvesLaw" (42 : Nat) ({ cls := "ExactCurvesModel", name := "of", desc := "(II)J" } : Jvm.MethodName)) ∈ qz_T := qz_mem 828 (by decide +kernel) rfl
theorem wq_785 : (Jvm.Cond.instanceMethod ({ cls := "ExactCurvesModel", name := "of", desc := "(II)J" } : Jvm.MethodName)) ∈ qz_T := qz_mem 829 (by decide +kernel) rfl
theorem wq_786 : (Jvm.Cond.selects "ExactCurvesModel" ({ cls := "ExactCurvesModel", name := "of", desc := "(II)J" } : Jvm.MethodName) ({ cls := "ExactCurvesModel", name := "of", desc := "(II)J" } : Jvm.MethodName)) ∈ qz_T := qz_mem 830 (by decide +kernel) rfl
theorem wq_787 : (Jvm.Cond.code ({ cls := "ExactCurvesModel", name := "of", desc := "(II)J" } : Jvm.MethodName) prog_10_method_22_code (3 : Nat) (Option.some Jvm.ClassFile.FieldType.long)) ∈ qz_T := qz_mem 831 (by decide +kernel) rfl
theorem wq_788 : (Jvm.Cond.methodLink "ExactCurvesModel" (186 : Nat) ({ cls := "ExactCurvesModel", name := "isPool", desc := "(I)Z" } : Jvm.MethodName)) ∈ qz_T := qz_mem 832 (by decide +kernel) rfl
theorem wq_790 : (Jvm.Cond.instanceMethod ({ cls := "ExactCurvesModel", name := "isPool", desc := "(I)Z" } : Jvm.MethodName)) ∈ qz_T := qz_mem 834 (by decide +kernel) rfl
theorem wq_791 : (Jvm.Cond.code ({ cls := "ExactCurvesModel", name := "isPool", desc := "(I)Z" } : Jvm.MethodName) prog_10_method_12_code (2 : Nat) (Option.some Jvm.ClassFile.FieldType.boolean)) ∈ qz_T := qz_mem 835 (by decide +kernel) rfl
theorem wq_792 : (Jvm.Cond.methodLink "ExactCurvesLaw" (47 : Nat) ({ cls := "ExactCurvesModel", name := "join", desc := "(IIJJ)J" } : Jvm.MethodName)) ∈ qz_T := qz_mem 836 (by decide +kernel) rfl
theorem wq_793 : (Jvm.Cond.instanceMethod ({ cls := "ExactCurvesModel", name := "join", desc := "(IIJJ)J" } : Jvm.MethodName)) ∈ qz_T := qz_mem 837 (by decide +kernel) rfl
theorem wq_794 : (Jvm.Cond.selects "ExactCurvesModel" ({ cls := "ExactCurvesModel", name := "join", desc := "(IIJJ)J" } : Jvm.MethodName) ({ cls := "ExactCurvesModel", name := "join", desc := "(IIJJ)J" } : Jvm.MethodName)) ∈ qz_T := qz_mem 838 (by decide +kernel) rfl
theorem wq_795 : (Jvm.Cond.code ({ cls := "ExactCurvesModel", name := "join", desc := "(IIJJ)J" } : Jvm.MethodName) prog_10_method_24_code (21 : Nat) (Option.some Jvm.ClassFile.FieldType.long)) ∈ qz_T := qz_mem 839 (by decide +kernel) rfl
theorem wq_796 : (Jvm.Cond.methodLink "ExactCurvesModel" (196 : Nat) ({ cls := "ExactCurvesModel", name := "root", desc := "(JJ)J" } : Jvm.MethodName)) ∈ qz_T := qz_mem 840 (by decide +kernel) rfl
theorem wq_798 : (Jvm.Cond.instanceMethod ({ cls := "ExactCurvesModel", name := "root", desc := "(JJ)J" } : Jvm.MethodName)) ∈ qz_T := qz_mem 842 (by decide +kernel) rfl
theorem wq_799 : (Jvm.Cond.code ({ cls := "ExactCurvesModel", name := "root", desc := "(JJ)J" } : Jvm.MethodName) prog_10_method_23_code (10 : Nat) (Option.some Jvm.ClassFile.FieldType.long)) ∈ qz_T := qz_mem 843 (by decide +kernel) rfl
theorem wq_800 : (Jvm.Cond.methodLink "ExactCurvesModel" (130 : Nat) ({ cls := "ExactCurvesModel", name := "begin", desc := "(J)V" } : Jvm.MethodName)) ∈ qz_T := qz_mem 844 (by decide +kernel) rfl
theorem wq_802 : (Jvm.Cond.instanceMethod ({ cls := "ExactCurvesModel", name := "begin", desc := "(J)V" } : Jvm.MethodName)) ∈ qz_T := qz_mem 846 (by decide +kernel) rfl
theorem wq_803 : (Jvm.Cond.code ({ cls := "ExactCurvesModel", name := "begin", desc := "(J)V" } : Jvm.MethodName) prog_10_method_2_code (4 : Nat) (Option.none : Option Jvm.ClassFile.FieldType)) ∈ qz_T := qz_mem 847 (by decide +kernel) rfl
theorem wq_804 : (Jvm.Cond.constantLong "ExactCurvesModel" (120 : Nat) (1073741823 : Int64)) ∈ qz_T := qz_mem 848 (by decide +kernel) rfl
theorem wq_805 : (Jvm.Cond.methodLink "ExactCurvesModel" (134 : Nat) ({ cls := "ExactCurvesModel", name := "times", desc := "(J)V" } : Jvm.MethodName)) ∈ qz_T := qz_mem 849 (by decide +kernel) rfl
theorem wq_807 : (Jvm.Cond.instanceMethod ({ cls := "ExactCurvesModel", name := "times", desc := "(J)V" } : Jvm.MethodName)) ∈ qz_T := qz_mem 851 (by decide +kernel) rfl
theorem wq_808 : (Jvm.Cond.code ({ cls := "ExactCurvesModel", name := "times", desc := "(J)V" } : Jvm.MethodName) prog_10_method_3_code (9 : Nat) (Option.none : Option Jvm.ClassFile.FieldType)) ∈ qz_T := qz_mem 852 (by decide +kernel) rfl
theorem wq_809 : (Jvm.Cond.methodLink "ExactCurvesModel" (189 : Nat) ({ cls := "ExactCurvesModel", name := "keepBig", desc := "()V" } : Jvm.MethodName)) ∈ qz_T := qz_mem 853 (by decide +kernel) rfl
theorem wq_811 : (Jvm.Cond.instanceMethod ({ cls := "ExactCurvesModel", name := "keepBig", desc := "()V" } : Jvm.MethodName)) ∈ qz_T := qz_mem 855 (by decide +kernel) rfl
theorem wq_812 : (Jvm.Cond.code ({ cls := "ExactCurvesModel", name := "keepBig", desc := "()V" } : Jvm.MethodName) prog_10_method_7_code (2 : Nat) (Option.none : Option Jvm.ClassFile.FieldType)) ∈ qz_T := qz_mem 856 (by decide +kernel) rfl
theorem wq_813 : (Jvm.Cond.methodLink "ExactCurvesModel" (192 : Nat) ({ cls := "ExactCurvesModel", name := "keptIsLess", desc := "()Z" } : Jvm.MethodName)) ∈ qz_T := qz_mem 857 (by decide +kernel) rfl
theorem wq_815 : (Jvm.Cond.instanceMethod ({ cls := "ExactCurvesModel", name := "keptIsLess", desc := "()Z" } : Jvm.MethodName)) ∈ qz_T := qz_mem 859 (by decide +kernel) rfl
theorem wq_816 : (Jvm.Cond.code ({ cls := "ExactCurvesModel", name := "keptIsLess", desc := "()Z" } : Jvm.MethodName) prog_10_method_8_code (2 : Nat) (Option.some Jvm.ClassFile.FieldType.boolean)) ∈ qz_T := qz_mem 860 (by decide +kernel) rfl
theorem wq_817 : (Jvm.Cond.methodLink "ExactCurvesModel" (141 : Nat) ({ cls := "ExactCurvesModel", name := "part", desc := "(JJJ)J" } : Jvm.MethodName)) ∈ qz_T := qz_mem 861 (by decide +kernel) rfl
theorem wq_819 : (Jvm.Cond.instanceMethod ({ cls := "ExactCurvesModel", name := "part", desc := "(JJJ)J" } : Jvm.MethodName)) ∈ qz_T := qz_mem 863 (by decide +kernel) rfl
theorem wq_820 : (Jvm.Cond.code ({ cls := "ExactCurvesModel", name := "part", desc := "(JJJ)J" } : Jvm.MethodName) prog_10_method_5_code (7 : Nat) (Option.some Jvm.ClassFile.FieldType.long)) ∈ qz_T := qz_mem 864 (by decide +kernel) rfl
theorem wq_821 : (Jvm.Cond.methodLink "ExactCurvesModel" (137 : Nat) ({ cls := "ExactCurvesModel", name := "over", desc := "(J)J" } : Jvm.MethodName)) ∈ qz_T := qz_mem 865 (by decide +kernel) rfl
theorem wq_823 : (Jvm.Cond.instanceMethod ({ cls := "ExactCurvesModel", name := "over", desc := "(J)J" } : Jvm.MethodName)) ∈ qz_T := qz_mem 867 (by decide +kernel) rfl
theorem wq_824 : (Jvm.Cond.code ({ cls := "ExactCurvesModel", name := "over", desc := "(J)J" } : Jvm.MethodName) prog_10_method_4_code (7 : Nat) (Option.some Jvm.ClassFile.FieldType.long)) ∈ qz_T := qz_mem 868 (by decide +kernel) rfl
theorem wq_825 : (Jvm.Cond.constantLong "ExactCurvesModel" (126 : Nat) (2 : Int64)) ∈ qz_T := qz_mem 869 (by decide +kernel) rfl
theorem wq_826 : (Jvm.Cond.constantLong "ExactCurvesModel" (128 : Nat) (4611686018427387904 : Int64)) ∈ qz_T := qz_mem 870 (by decide +kernel) rfl
theorem wq_827 : (Jvm.Cond.methodLink "ExactCurvesModel" (200 : Nat) ({ cls := "ExactCurvesModel", name := "least", desc := "(JJ)J" } : Jvm.MethodName)) ∈ qz_T := qz_mem 871 (by decide +kernel) rfl
theorem wq_828 : (Jvm.Cond.static ({ cls := "ExactCurvesModel", name := "least", desc := "(JJ)J" } : Jvm.MethodName)) ∈ qz_T := qz_mem 872 (by decide +kernel) rfl
theorem wq_829 : (Jvm.Cond.code ({ cls := "ExactCurvesModel", name := "least", desc := "(JJ)J" } : Jvm.MethodName) prog_10_method_9_code (4 : Nat) (Option.some Jvm.ClassFile.FieldType.long)) ∈ qz_T := qz_mem 873 (by decide +kernel) rfl
theorem wq_830 : (Jvm.Cond.methodLink "ExactCurvesModel" (203 : Nat) ({ cls := "ExactCurvesModel", name := "partUp", desc := "(JJJ)J" } : Jvm.MethodName)) ∈ qz_T := qz_mem 874 (by decide +kernel) rfl
theorem wq_832 : (Jvm.Cond.instanceMethod ({ cls := "ExactCurvesModel", name := "partUp", desc := "(JJJ)J" } : Jvm.MethodName)) ∈ qz_T := qz_mem 876 (by decide +kernel) rfl
theorem wq_833 : (Jvm.Cond.code ({ cls := "ExactCurvesModel", name := "partUp", desc := "(JJJ)J" } : Jvm.MethodName) prog_10_method_6_code (9 : Nat) (Option.some Jvm.ClassFile.FieldType.long)) ∈ qz_T := qz_mem 877 (by decide +kernel) rfl
theorem wq_834 : (Jvm.Cond.methodLink "ExactCurvesLaw" (51 : Nat) ({ cls := "ExactCurvesModel", name := "leave", desc := "(IIJ)J" } : Jvm.MethodName)) ∈ qz_T := qz_mem 878 (by decide +kernel) rfl
theorem wq_835 : (Jvm.Cond.instanceMethod ({ cls := "ExactCurvesModel", name := "leave", desc := "(IIJ)J" } : Jvm.MethodName)) ∈ qz_T := qz_mem 879 (by decide +kernel) rfl
theorem wq_836 : (Jvm.Cond.selects "ExactCurvesModel" ({ cls := "ExactCurvesModel", name := "leave", desc := "(IIJ)J" } : Jvm.MethodName) ({ cls := "ExactCurvesModel", name := "leave", desc := "(IIJ)J" } : Jvm.MethodName)) ∈ qz_T := qz_mem 880 (by decide +kernel) rfl
theorem wq_837 : (Jvm.Cond.code ({ cls := "ExactCurvesModel", name := "leave", desc := "(IIJ)J" } : Jvm.MethodName) prog_10_method_25_code (9 : Nat) (Option.some Jvm.ClassFile.FieldType.long)) ∈ qz_T := qz_mem 881 (by decide +kernel) rfl
theorem wq_838 : (Jvm.Cond.methodLink "ExactCurvesLaw" (56 : Nat) ({ cls := "ExactCurvesModel", name := "swap", desc := "(IIIJ)J" } : Jvm.MethodName)) ∈ qz_T := qz_mem 882 (by decide +kernel) rfl
theorem wq_839 : (Jvm.Cond.instanceMethod ({ cls := "ExactCurvesModel", name := "swap", desc := "(IIIJ)J" } : Jvm.MethodName)) ∈ qz_T := qz_mem 883 (by decide +kernel) rfl
theorem wq_840 : (Jvm.Cond.selects "ExactCurvesModel" ({ cls := "ExactCurvesModel", name := "swap", desc := "(IIIJ)J" } : Jvm.MethodName) ({ cls := "ExactCurvesModel", name := "swap", desc := "(IIIJ)J" } : Jvm.MethodName)) ∈ qz_T := qz_mem 884 (by decide +kernel) rfl
theorem wq_841 : (Jvm.Cond.code ({ cls := "ExactCurvesModel", name := "swap", desc := "(IIIJ)J" } : Jvm.MethodName) prog_10_method_27_code (9 : Nat) (Option.some Jvm.ClassFile.FieldType.long)) ∈ qz_T := qz_mem 885 (by decide +kernel) rfl
theorem wq_842 : (Jvm.Cond.methodLink "ExactCurvesModel" (208 : Nat) ({ cls := "ExactCurvesModel", name := "isSide", desc := "(I)Z" } : Jvm.MethodName)) ∈ qz_T := qz_mem 886 (by decide +kernel) rfl
theorem wq_843 : (Jvm.Cond.static ({ cls := "ExactCurvesModel", name := "isSide", desc := "(I)Z" } : Jvm.MethodName)) ∈ qz_T := qz_mem 887 (by decide +kernel) rfl
theorem wq_844 : (Jvm.Cond.code ({ cls := "ExactCurvesModel", name := "isSide", desc := "(I)Z" } : Jvm.MethodName) prog_10_method_13_code (1 : Nat) (Option.some Jvm.ClassFile.FieldType.boolean)) ∈ qz_T := qz_mem 888 (by decide +kernel) rfl
theorem wq_845 : (Jvm.Cond.methodLink "ExactCurvesModel" (211 : Nat) ({ cls := "ExactCurvesModel", name := "outOf", desc := "(IIJ)J" } : Jvm.MethodName)) ∈ qz_T := qz_mem 889 (by decide +kernel) rfl
theorem wq_847 : (Jvm.Cond.instanceMethod ({ cls := "ExactCurvesModel", name := "outOf", desc := "(IIJ)J" } : Jvm.MethodName)) ∈ qz_T := qz_mem 891 (by decide +kernel) rfl
theorem wq_848 : (Jvm.Cond.code ({ cls := "ExactCurvesModel", name := "outOf", desc := "(IIJ)J" } : Jvm.MethodName) prog_10_method_26_code (13 : Nat) (Option.some Jvm.ClassFile.FieldType.long)) ∈ qz_T := qz_mem 892 (by decide +kernel) rfl
theorem wq_849 : (Jvm.Cond.constantLong "ExactCurvesModel" (206 : Nat) (10000 : Int64)) ∈ qz_T := qz_mem 893 (by decide +kernel) rfl
theorem wq_850 : (Jvm.Cond.methodLink "ExactCurvesLaw" (60 : Nat) ({ cls := "ExactCurvesModel", name := "quote", desc := "(IIJ)J" } : Jvm.MethodName)) ∈ qz_T := qz_mem 894 (by decide +kernel) rfl
theorem wq_851 : (Jvm.Cond.instanceMethod ({ cls := "ExactCurvesModel", name := "quote", desc := "(IIJ)J" } : Jvm.MethodName)) ∈ qz_T := qz_mem 895 (by decide +kernel) rfl
theorem wq_852 : (Jvm.Cond.selects "ExactCurvesModel" ({ cls := "ExactCurvesModel", name := "quote", desc := "(IIJ)J" } : Jvm.MethodName) ({ cls := "ExactCurvesModel", name := "quote", desc := "(IIJ)J" } : Jvm.MethodName)) ∈ qz_T := qz_mem 896 (by decide +kernel) rfl
theorem wq_853 : (Jvm.Cond.code ({ cls := "ExactCurvesModel", name := "quote", desc := "(IIJ)J" } : Jvm.MethodName) prog_10_method_28_code (7 : Nat) (Option.some Jvm.ClassFile.FieldType.long)) ∈ qz_T := qz_mem 897 (by decide +kernel) rfl
theorem wq_854 : (Jvm.Cond.methodLink "ExactCurvesLaw" (65 : Nat) ({ cls := "ExactCurvesModel", name := "flash", desc := "(IIJJJJ)I" } : Jvm.MethodName)) ∈ qz_T := qz_mem 898 (by decide +kernel) rfl
theorem wq_855 : (Jvm.Cond.instanceMethod ({ cls := "ExactCurvesModel", name := "flash", desc := "(IIJJJJ)I" } : Jvm.MethodName)) ∈ qz_T := qz_mem 899 (by decide +kernel) rfl
theorem wq_856 : (Jvm.Cond.selects "ExactCurvesModel" ({ cls := "ExactCurvesModel", name := "flash", desc := "(IIJJJJ)I" } : Jvm.MethodName) ({ cls := "ExactCurvesModel", name := "flash", desc := "(IIJJJJ)I" } : Jvm.MethodName)) ∈ qz_T := qz_mem 900 (by decide +kernel) rfl
theorem wq_857 : (Jvm.Cond.code ({ cls := "ExactCurvesModel", name := "flash", desc := "(IIJJJJ)I" } : Jvm.MethodName) prog_10_method_29_code (27 : Nat) (Option.some Jvm.ClassFile.FieldType.int)) ∈ qz_T := qz_mem 901 (by decide +kernel) rfl
theorem wq_858 : (Jvm.Cond.methodLink "ExactCurvesLaw" (70 : Nat) ({ cls := "ExactCurvesModel", name := "tick", desc := "(I)I" } : Jvm.MethodName)) ∈ qz_T := qz_mem 902 (by decide +kernel) rfl
theorem wq_859 : (Jvm.Cond.instanceMethod ({ cls := "ExactCurvesModel", name := "tick", desc := "(I)I" } : Jvm.MethodName)) ∈ qz_T := qz_mem 903 (by decide +kernel) rfl
theorem wq_860 : (Jvm.Cond.selects "ExactCurvesModel" ({ cls := "ExactCurvesModel", name := "tick", desc := "(I)I" } : Jvm.MethodName) ({ cls := "ExactCurvesModel", name := "tick", desc := "(I)I" } : Jvm.MethodName)) ∈ qz_T := qz_mem 904 (by decide +kernel) rfl
theorem wq_861 : (Jvm.Cond.code ({ cls := "ExactCurvesModel", name := "tick", desc := "(I)I" } : Jvm.MethodName) prog_10_method_31_code (3 : Nat) (Option.some Jvm.ClassFile.FieldType.int)) ∈ qz_T := qz_mem 905 (by decide +kernel) rfl
theorem wq_862 : (Jvm.Cond.methodLink "ExactCurvesModel" (222 : Nat) ({ cls := "ExactCurvesModel", name := "tickOnce", desc := "()V" } : Jvm.MethodName)) ∈ qz_T := qz_mem 906 (by decide +kernel) rfl
theorem wq_864 : (Jvm.Cond.instanceMethod ({ cls := "ExactCurvesModel", name := "tickOnce", desc := "()V" } : Jvm.MethodName)) ∈ qz_T := qz_mem 908 (by decide +kernel) rfl
theorem wq_865 : (Jvm.Cond.code ({ cls := "ExactCurvesModel", name := "tickOnce", desc := "()V" } : Jvm.MethodName) prog_10_method_30_code (2 : Nat) (Option.none : Option Jvm.ClassFile.FieldType)) ∈ qz_T := qz_mem 909 (by decide +kernel) rfl
theorem wq_866 : (Jvm.Cond.constantLong "ExactCurvesModel" (220 : Nat) (1000000000000 : Int64)) ∈ qz_T := qz_mem 910 (by decide +kernel) rfl
theorem wq_867 : (Jvm.Cond.methodLink "ExactCurvesLaw" (75 : Nat) ({ cls := "ExactCurvesModel", name := "mark", desc := "(II)I" } : Jvm.MethodName)) ∈ qz_T := qz_mem 911 (by decide +kernel) rfl
theorem wq_868 : (Jvm.Cond.instanceMethod ({ cls := "ExactCurvesModel", name := "mark", desc := "(II)I" } : Jvm.MethodName)) ∈ qz_T := qz_mem 912 (by decide +kernel) rfl
theorem wq_869 : (Jvm.Cond.selects "ExactCurvesModel" ({ cls := "ExactCurvesModel", name := "mark", desc := "(II)I" } : Jvm.MethodName) ({ cls := "ExactCurvesModel", name := "mark", desc := "(II)I" } : Jvm.MethodName)) ∈ qz_T := qz_mem 913 (by decide +kernel) rfl
theorem wq_870 : (Jvm.Cond.code ({ cls := "ExactCurvesModel", name := "mark", desc := "(II)I" } : Jvm.MethodName) prog_10_method_32_code (3 : Nat) (Option.some Jvm.ClassFile.FieldType.int)) ∈ qz_T := qz_mem 914 (by decide +kernel) rfl
theorem wq_871 : (Jvm.Cond.methodLink "ExactCurvesLaw" (79 : Nat) ({ cls := "ExactCurvesModel", name := "mean", desc := "(I)J" } : Jvm.MethodName)) ∈ qz_T := qz_mem 915 (by decide +kernel) rfl
theorem wq_872 : (Jvm.Cond.instanceMethod ({ cls := "ExactCurvesModel", name := "mean", desc := "(I)J" } : Jvm.MethodName)) ∈ qz_T := qz_mem 916 (by decide +kernel) rfl
theorem wq_873 : (Jvm.Cond.selects "ExactCurvesModel" ({ cls := "ExactCurvesModel", name := "mean", desc := "(I)J" } : Jvm.MethodName) ({ cls := "ExactCurvesModel", name := "mean", desc := "(I)J" } : Jvm.MethodName)) ∈ qz_T := qz_mem 917 (by decide +kernel) rfl
theorem wq_874 : (Jvm.Cond.code ({ cls := "ExactCurvesModel", name := "mean", desc := "(I)J" } : Jvm.MethodName) prog_10_method_33_code (4 : Nat) (Option.some Jvm.ClassFile.FieldType.long)) ∈ qz_T := qz_mem 918 (by decide +kernel) rfl
theorem wq_875 : (Jvm.Cond.constantLong "ExactCurvesModel" (225 : Nat) (-1 : Int64)) ∈ qz_T := qz_mem 919 (by decide +kernel) rfl
theorem wq_876 : (Jvm.Cond.methodLink "ExactCurvesLaw" (83 : Nat) ({ cls := "ExactCurvesModel", name := "batch", desc := "(II)I" } : Jvm.MethodName)) ∈ qz_T := qz_mem 920 (by decide +kernel) rfl
theorem wq_877 : (Jvm.Cond.instanceMethod ({ cls := "ExactCurvesModel", name := "batch", desc := "(II)I" } : Jvm.MethodName)) ∈ qz_T := qz_mem 921 (by decide +kernel) rfl
theorem wq_878 : (Jvm.Cond.selects "ExactCurvesModel" ({ cls := "ExactCurvesModel", name := "batch", desc := "(II)I" } : Jvm.MethodName) ({ cls := "ExactCurvesModel", name := "batch", desc := "(II)I" } : Jvm.MethodName)) ∈ qz_T := qz_mem 922 (by decide +kernel) rfl
theorem wq_879 : (Jvm.Cond.code ({ cls := "ExactCurvesModel", name := "batch", desc := "(II)I" } : Jvm.MethodName) prog_10_method_34_code (3 : Nat) (Option.some Jvm.ClassFile.FieldType.int)) ∈ qz_T := qz_mem 923 (by decide +kernel) rfl
theorem wq_880 : (Jvm.Cond.methodLink "ExactCurvesLaw" (88 : Nat) ({ cls := "ExactCurvesModel", name := "order", desc := "(IIJJ)I" } : Jvm.MethodName)) ∈ qz_T := qz_mem 924 (by decide +kernel) rfl
theorem wq_881 : (Jvm.Cond.instanceMethod ({ cls := "ExactCurvesModel", name := "order", desc := "(IIJJ)I" } : Jvm.MethodName)) ∈ qz_T := qz_mem 925 (by decide +kernel) rfl
theorem wq_882 : (Jvm.Cond.selects "ExactCurvesModel" ({ cls := "ExactCurvesModel", name := "order", desc := "(IIJJ)I" } : Jvm.MethodName) ({ cls := "ExactCurvesModel", name := "order", desc := "(IIJJ)I" } : Jvm.MethodName)) ∈ qz_T := qz_mem 926 (by decide +kernel) rfl
theorem wq_883 : (Jvm.Cond.code ({ cls := "ExactCurvesModel", name := "order", desc := "(IIJJ)I" } : Jvm.MethodName) prog_10_method_37_code (9 : Nat) (Option.some Jvm.ClassFile.FieldType.int)) ∈ qz_T := qz_mem 927 (by decide +kernel) rfl
theorem wq_884 : (Jvm.Cond.constantLong "ExactCurvesModel" (230 : Nat) (10000000000 : Int64)) ∈ qz_T := qz_mem 928 (by decide +kernel) rfl
theorem wq_885 : (Jvm.Cond.constantLong "ExactCurvesModel" (232 : Nat) (1000000 : Int64)) ∈ qz_T := qz_mem 929 (by decide +kernel) rfl
theorem wq_886 : (Jvm.Cond.methodLink "ExactCurvesLaw" (93 : Nat) ({ cls := "ExactCurvesModel", name := "clear", desc := "()J" } : Jvm.MethodName)) ∈ qz_T := qz_mem 930 (by decide +kernel) rfl
theorem wq_887 : (Jvm.Cond.instanceMethod ({ cls := "ExactCurvesModel", name := "clear", desc := "()J" } : Jvm.MethodName)) ∈ qz_T := qz_mem 931 (by decide +kernel) rfl
theorem wq_888 : (Jvm.Cond.selects "ExactCurvesModel" ({ cls := "ExactCurvesModel", name := "clear", desc := "()J" } : Jvm.MethodName) ({ cls := "ExactCurvesModel", name := "clear", desc := "()J" } : Jvm.MethodName)) ∈ qz_T := qz_mem 932 (by decide +kernel) rfl
theorem wq_889 : (Jvm.Cond.code ({ cls := "ExactCurvesModel", name := "clear", desc := "()J" } : Jvm.MethodName) prog_10_method_41_code (11 : Nat) (Option.some Jvm.ClassFile.FieldType.long)) ∈ qz_T := qz_mem 933 (by decide +kernel) rfl
theorem wq_890 : (Jvm.Cond.methodLink "ExactCurvesModel" (238 : Nat) ({ cls := "ExactCurvesModel", name := "bestPrice", desc := "()J" } : Jvm.MethodName)) ∈ qz_T := qz_mem 934 (by decide +kernel) rfl
theorem wq_892 : (Jvm.Cond.instanceMethod ({ cls := "ExactCurvesModel", name := "bestPrice", desc := "()J" } : Jvm.MethodName)) ∈ qz_T := qz_mem 936 (by decide +kernel) rfl
theorem wq_893 : (Jvm.Cond.code ({ cls := "ExactCurvesModel", name := "bestPrice", desc := "()J" } : Jvm.MethodName) prog_10_method_39_code (19 : Nat) (Option.some Jvm.ClassFile.FieldType.long)) ∈ qz_T := qz_mem 937 (by decide +kernel) rfl
theorem wq_894 : (Jvm.Cond.methodLink "ExactCurvesModel" (234 : Nat) ({ cls := "ExactCurvesModel", name := "allAt", desc := "(ZJ)J" } : Jvm.MethodName)) ∈ qz_T := qz_mem 938 (by decide +kernel) rfl
theorem wq_896 : (Jvm.Cond.instanceMethod ({ cls := "ExactCurvesModel", name := "allAt", desc := "(ZJ)J" } : Jvm.MethodName)) ∈ qz_T := qz_mem 940 (by decide +kernel) rfl
theorem wq_897 : (Jvm.Cond.code ({ cls := "ExactCurvesModel", name := "allAt", desc := "(ZJ)J" } : Jvm.MethodName) prog_10_method_38_code (8 : Nat) (Option.some Jvm.ClassFile.FieldType.long)) ∈ qz_T := qz_mem 941 (by decide +kernel) rfl
theorem wq_898 : (Jvm.Cond.methodLink "ExactCurvesModel" (248 : Nat) ({ cls := "ExactCurvesModel", name := "deal", desc := "(ZJJ)V" } : Jvm.MethodName)) ∈ qz_T := qz_mem 942 (by decide +kernel) rfl
theorem wq_900 : (Jvm.Cond.instanceMethod ({ cls := "ExactCurvesModel", name := "deal", desc := "(ZJJ)V" } : Jvm.MethodName)) ∈ qz_T := qz_mem 944 (by decide +kernel) rfl
theorem wq_901 : (Jvm.Cond.code ({ cls := "ExactCurvesModel", name := "deal", desc := "(ZJJ)V" } : Jvm.MethodName) prog_10_method_40_code (12 : Nat) (Option.none : Option Jvm.ClassFile.FieldType)) ∈ qz_T := qz_mem 945 (by decide +kernel) rfl
theorem wq_902 : (Jvm.Cond.methodLink "ExactCurvesLaw" (97 : Nat) ({ cls := "ExactCurvesModel", name := "dealt", desc := "(I)J" } : Jvm.MethodName)) ∈ qz_T := qz_mem 946 (by decide +kernel) rfl
theorem wq_903 : (Jvm.Cond.instanceMethod ({ cls := "ExactCurvesModel", name := "dealt", desc := "(I)J" } : Jvm.MethodName)) ∈ qz_T := qz_mem 947 (by decide +kernel) rfl
theorem wq_904 : (Jvm.Cond.selects "ExactCurvesModel" ({ cls := "ExactCurvesModel", name := "dealt", desc := "(I)J" } : Jvm.MethodName) ({ cls := "ExactCurvesModel", name := "dealt", desc := "(I)J" } : Jvm.MethodName)) ∈ qz_T := qz_mem 948 (by decide +kernel) rfl
theorem wq_905 : (Jvm.Cond.code ({ cls := "ExactCurvesModel", name := "dealt", desc := "(I)J" } : Jvm.MethodName) prog_10_method_42_code (2 : Nat) (Option.some Jvm.ClassFile.FieldType.long)) ∈ qz_T := qz_mem 949 (by decide +kernel) rfl
theorem wq_906 : (Jvm.Cond.methodLink "ExactCurvesLaw" (102 : Nat) ({ cls := "ExactCurvesModel", name := "rate", desc := "(IJ)J" } : Jvm.MethodName)) ∈ qz_T := qz_mem 950 (by decide +kernel) rfl
theorem wq_907 : (Jvm.Cond.instanceMethod ({ cls := "ExactCurvesModel", name := "rate", desc := "(IJ)J" } : Jvm.MethodName)) ∈ qz_T := qz_mem 951 (by decide +kernel) rfl
theorem wq_908 : (Jvm.Cond.selects "ExactCurvesModel" ({ cls := "ExactCurvesModel", name := "rate", desc := "(IJ)J" } : Jvm.MethodName) ({ cls := "ExactCurvesModel", name := "rate", desc := "(IJ)J" } : Jvm.MethodName)) ∈ qz_T := qz_mem 952 (by decide +kernel) rfl
theorem wq_909 : (Jvm.Cond.code ({ cls := "ExactCurvesModel", name := "rate", desc := "(IJ)J" } : Jvm.MethodName) prog_10_method_43_code (6 : Nat) (Option.some Jvm.ClassFile.FieldType.long)) ∈ qz_T := qz_mem 953 (by decide +kernel) rfl
theorem wq_910 : (Jvm.Cond.methodLink "ExactCurvesLaw" (106 : Nat) ({ cls := "ExactCurvesModel", name := "lend", desc := "(IIJ)J" } : Jvm.MethodName)) ∈ qz_T := qz_mem 954 (by decide +kernel) rfl
theorem wq_911 : (Jvm.Cond.instanceMethod ({ cls := "ExactCurvesModel", name := "lend", desc := "(IIJ)J" } : Jvm.MethodName)) ∈ qz_T := qz_mem 955 (by decide +kernel) rfl
theorem wq_912 : (Jvm.Cond.selects "ExactCurvesModel" ({ cls := "ExactCurvesModel", name := "lend", desc := "(IIJ)J" } : Jvm.MethodName) ({ cls := "ExactCurvesModel", name := "lend", desc := "(IIJ)J" } : Jvm.MethodName)) ∈ qz_T := qz_mem 956 (by decide +kernel) rfl
theorem wq_913 : (Jvm.Cond.code ({ cls := "ExactCurvesModel", name := "lend", desc := "(IIJ)J" } : Jvm.MethodName) prog_10_method_48_code (7 : Nat) (Option.some Jvm.ClassFile.FieldType.long)) ∈ qz_T := qz_mem 957 (by decide +kernel) rfl
theorem wq_914 : (Jvm.Cond.methodLink "ExactCurvesModel" (258 : Nat) ({ cls := "ExactCurvesModel", name := "worthOf", desc := "(I)J" } : Jvm.MethodName)) ∈ qz_T := qz_mem 958 (by decide +kernel) rfl
theorem wq_916 : (Jvm.Cond.instanceMethod ({ cls := "ExactCurvesModel", name := "worthOf", desc := "(I)J" } : Jvm.MethodName)) ∈ qz_T := qz_mem 960 (by decide +kernel) rfl
theorem wq_917 : (Jvm.Cond.code ({ cls := "ExactCurvesModel", name := "worthOf", desc := "(I)J" } : Jvm.MethodName) prog_10_method_47_code (5 : Nat) (Option.some Jvm.ClassFile.FieldType.long)) ∈ qz_T := qz_mem 961 (by decide +kernel) rfl
theorem wq_918 : (Jvm.Cond.methodLink "ExactCurvesModel" (252 : Nat) ({ cls := "ExactCurvesModel", name := "debtToken", desc := "(I)I" } : Jvm.MethodName)) ∈ qz_T := qz_mem 962 (by decide +kernel) rfl
theorem wq_920 : (Jvm.Cond.instanceMethod ({ cls := "ExactCurvesModel", name := "debtToken", desc := "(I)I" } : Jvm.MethodName)) ∈ qz_T := qz_mem 964 (by decide +kernel) rfl
theorem wq_921 : (Jvm.Cond.code ({ cls := "ExactCurvesModel", name := "debtToken", desc := "(I)I" } : Jvm.MethodName) prog_10_method_45_code (2 : Nat) (Option.some Jvm.ClassFile.FieldType.int)) ∈ qz_T := qz_mem 965 (by decide +kernel) rfl
theorem wq_922 : (Jvm.Cond.methodLink "ExactCurvesModel" (255 : Nat) ({ cls := "ExactCurvesModel", name := "debtOf", desc := "(I)J" } : Jvm.MethodName)) ∈ qz_T := qz_mem 966 (by decide +kernel) rfl
theorem wq_924 : (Jvm.Cond.instanceMethod ({ cls := "ExactCurvesModel", name := "debtOf", desc := "(I)J" } : Jvm.MethodName)) ∈ qz_T := qz_mem 968 (by decide +kernel) rfl
theorem wq_925 : (Jvm.Cond.code ({ cls := "ExactCurvesModel", name := "debtOf", desc := "(I)J" } : Jvm.MethodName) prog_10_method_46_code (2 : Nat) (Option.some Jvm.ClassFile.FieldType.long)) ∈ qz_T := qz_mem 969 (by decide +kernel) rfl
theorem wq_926 : (Jvm.Cond.methodLink "ExactCurvesLaw" (110 : Nat) ({ cls := "ExactCurvesModel", name := "redeem", desc := "(IIJ)J" } : Jvm.MethodName)) ∈ qz_T := qz_mem 970 (by decide +kernel) rfl
theorem wq_927 : (Jvm.Cond.instanceMethod ({ cls := "ExactCurvesModel", name := "redeem", desc := "(IIJ)J" } : Jvm.MethodName)) ∈ qz_T := qz_mem 971 (by decide +kernel) rfl
theorem wq_928 : (Jvm.Cond.selects "ExactCurvesModel" ({ cls := "ExactCurvesModel", name := "redeem", desc := "(IIJ)J" } : Jvm.MethodName) ({ cls := "ExactCurvesModel", name := "redeem", desc := "(IIJ)J" } : Jvm.MethodName)) ∈ qz_T := qz_mem 972 (by decide +kernel) rfl
theorem wq_929 : (Jvm.Cond.code ({ cls := "ExactCurvesModel", name := "redeem", desc := "(IIJ)J" } : Jvm.MethodName) prog_10_method_49_code (7 : Nat) (Option.some Jvm.ClassFile.FieldType.long)) ∈ qz_T := qz_mem 973 (by decide +kernel) rfl
theorem wq_930 : (Jvm.Cond.methodLink "ExactCurvesLaw" (114 : Nat) ({ cls := "ExactCurvesModel", name := "vault", desc := "(II)J" } : Jvm.MethodName)) ∈ qz_T := qz_mem 974 (by decide +kernel) rfl
theorem wq_931 : (Jvm.Cond.instanceMethod ({ cls := "ExactCurvesModel", name := "vault", desc := "(II)J" } : Jvm.MethodName)) ∈ qz_T := qz_mem 975 (by decide +kernel) rfl
theorem wq_932 : (Jvm.Cond.selects "ExactCurvesModel" ({ cls := "ExactCurvesModel", name := "vault", desc := "(II)J" } : Jvm.MethodName) ({ cls := "ExactCurvesModel", name := "vault", desc := "(II)J" } : Jvm.MethodName)) ∈ qz_T := qz_mem 976 (by decide +kernel) rfl
theorem wq_933 : (Jvm.Cond.code ({ cls := "ExactCurvesModel", name := "vault", desc := "(II)J" } : Jvm.MethodName) prog_10_method_50_code (3 : Nat) (Option.some Jvm.ClassFile.FieldType.long)) ∈ qz_T := qz_mem 977 (by decide +kernel) rfl
theorem wq_934 : (Jvm.Cond.methodLink "ExactCurvesLaw" (119 : Nat) ({ cls := "ExactCurvesModel", name := "loan", desc := "(IIIJJ)I" } : Jvm.MethodName)) ∈ qz_T := qz_mem 978 (by decide +kernel) rfl
theorem wq_935 : (Jvm.Cond.instanceMethod ({ cls := "ExactCurvesModel", name := "loan", desc := "(IIIJJ)I" } : Jvm.MethodName)) ∈ qz_T := qz_mem 979 (by decide +kernel) rfl
theorem wq_936 : (Jvm.Cond.selects "ExactCurvesModel" ({ cls := "ExactCurvesModel", name := "loan", desc := "(IIIJJ)I" } : Jvm.MethodName) ({ cls := "ExactCurvesModel", name := "loan", desc := "(IIIJJ)I" } : Jvm.MethodName)) ∈ qz_T := qz_mem 980 (by decide +kernel) rfl
theorem wq_937 : (Jvm.Cond.code ({ cls := "ExactCurvesModel", name := "loan", desc := "(IIIJJ)I" } : Jvm.MethodName) prog_10_method_55_code (11 : Nat) (Option.some Jvm.ClassFile.FieldType.int)) ∈ qz_T := qz_mem 981 (by decide +kernel) rfl
theorem wq_938 : (Jvm.Cond.constantLong "ExactCurvesModel" (266 : Nat) (100 : Int64)) ∈ qz_T := qz_mem 982 (by decide +kernel) rfl
theorem wq_939 : (Jvm.Cond.constantLong "ExactCurvesModel" (277 : Nat) (60 : Int64)) ∈ qz_T := qz_mem 983 (by decide +kernel) rfl
theorem wq_940 : (Jvm.Cond.methodLink "ExactCurvesModel" (263 : Nat) ({ cls := "ExactCurvesModel", name := "valueOf", desc := "(IIJ)J" } : Jvm.MethodName)) ∈ qz_T := qz_mem 984 (by decide +kernel) rfl
theorem wq_942 : (Jvm.Cond.instanceMethod ({ cls := "ExactCurvesModel", name := "valueOf", desc := "(IIJ)J" } : Jvm.MethodName)) ∈ qz_T := qz_mem 986 (by decide +kernel) rfl
theorem wq_943 : (Jvm.Cond.code ({ cls := "ExactCurvesModel", name := "valueOf", desc := "(IIJ)J" } : Jvm.MethodName) prog_10_method_51_code (7 : Nat) (Option.some Jvm.ClassFile.FieldType.long)) ∈ qz_T := qz_mem 987 (by decide +kernel) rfl
theorem wq_944 : (Jvm.Cond.constantLong "ExactCurvesModel" (261 : Nat) (1000000000000000000 : Int64)) ∈ qz_T := qz_mem 988 (by decide +kernel) rfl
theorem wq_945 : (Jvm.Cond.methodLink "ExactCurvesModel" (273 : Nat) ({ cls := "ExactCurvesModel", name := "isAbove", desc := "(JJJJ)Z" } : Jvm.MethodName)) ∈ qz_T := qz_mem 989 (by decide +kernel) rfl
theorem wq_947 : (Jvm.Cond.instanceMethod ({ cls := "ExactCurvesModel", name := "isAbove", desc := "(JJJJ)Z" } : Jvm.MethodName)) ∈ qz_T := qz_mem 991 (by decide +kernel) rfl
theorem wq_948 : (Jvm.Cond.code ({ cls := "ExactCurvesModel", name := "isAbove", desc := "(JJJJ)Z" } : Jvm.MethodName) prog_10_method_52_code (9 : Nat) (Option.some Jvm.ClassFile.FieldType.boolean)) ∈ qz_T := qz_mem 992 (by decide +kernel) rfl
theorem wq_949 : (Jvm.Cond.methodLink "ExactCurvesLaw" (123 : Nat) ({ cls := "ExactCurvesModel", name := "ofLoan", desc := "(II)J" } : Jvm.MethodName)) ∈ qz_T := qz_mem 993 (by decide +kernel) rfl
theorem wq_950 : (Jvm.Cond.instanceMethod ({ cls := "ExactCurvesModel", name := "ofLoan", desc := "(II)J" } : Jvm.MethodName)) ∈ qz_T := qz_mem 994 (by decide +kernel) rfl
theorem wq_951 : (Jvm.Cond.selects "ExactCurvesModel" ({ cls := "ExactCurvesModel", name := "ofLoan", desc := "(II)J" } : Jvm.MethodName) ({ cls := "ExactCurvesModel", name := "ofLoan", desc := "(II)J" } : Jvm.MethodName)) ∈ qz_T := qz_mem 995 (by decide +kernel) rfl
theorem wq_952 : (Jvm.Cond.code ({ cls := "ExactCurvesModel", name := "ofLoan", desc := "(II)J" } : Jvm.MethodName) prog_10_method_57_code (3 : Nat) (Option.some Jvm.ClassFile.FieldType.long)) ∈ qz_T := qz_mem 996 (by decide +kernel) rfl
theorem wq_953 : (Jvm.Cond.methodLink "ExactCurvesModel" (279 : Nat) ({ cls := "ExactCurvesModel", name := "isOpen", desc := "(I)Z" } : Jvm.MethodName)) ∈ qz_T := qz_mem 997 (by decide +kernel) rfl
theorem wq_955 : (Jvm.Cond.instanceMethod ({ cls := "ExactCurvesModel", name := "isOpen", desc := "(I)Z" } : Jvm.MethodName)) ∈ qz_T := qz_mem 999 (by decide +kernel) rfl
theorem wq_956 : (Jvm.Cond.code ({ cls := "ExactCurvesModel", name := "isOpen", desc := "(I)Z" } : Jvm.MethodName) prog_10_method_56_code (2 : Nat) (Option.some Jvm.ClassFile.FieldType.boolean)) ∈ qz_T := qz_mem 1000 (by decide +kernel) rfl
theorem wq_957 : (Jvm.Cond.methodLink "ExactCurvesModel" (270 : Nat) ({ cls := "ExactCurvesModel", name := "coverValue", desc := "(I)J" } : Jvm.MethodName)) ∈ qz_T := qz_mem 1001 (by decide +kernel) rfl
theorem wq_959 : (Jvm.Cond.instanceMethod ({ cls := "ExactCurvesModel", name := "coverValue", desc := "(I)J" } : Jvm.MethodName)) ∈ qz_T := qz_mem 1003 (by decide +kernel) rfl
theorem wq_960 : (Jvm.Cond.code ({ cls := "ExactCurvesModel", name := "coverValue", desc := "(I)J" } : Jvm.MethodName) prog_10_method_53_code (2 : Nat) (Option.some Jvm.ClassFile.FieldType.long)) ∈ qz_T := qz_mem 1004 (by decide +kernel) rfl
theorem wq_961 : (Jvm.Cond.methodLink "ExactCurvesModel" (282 : Nat) ({ cls := "ExactCurvesModel", name := "isUncovered", desc := "(I)Z" } : Jvm.MethodName)) ∈ qz_T := qz_mem 1005 (by decide +kernel) rfl
theorem wq_963 : (Jvm.Cond.instanceMethod ({ cls := "ExactCurvesModel", name := "isUncovered", desc := "(I)Z" } : Jvm.MethodName)) ∈ qz_T := qz_mem 1007 (by decide +kernel) rfl
theorem wq_964 : (Jvm.Cond.code ({ cls := "ExactCurvesModel", name := "isUncovered", desc := "(I)Z" } : Jvm.MethodName) prog_10_method_54_code (2 : Nat) (Option.some Jvm.ClassFile.FieldType.boolean)) ∈ qz_T := qz_mem 1008 (by decide +kernel) rfl
theorem wq_965 : (Jvm.Cond.constantLong "ExactCurvesModel" (268 : Nat) (80 : Int64)) ∈ qz_T := qz_mem 1009 (by decide +kernel) rfl
theorem wq_966 : (Jvm.Cond.methodLink "ExactCurvesLaw" (127 : Nat) ({ cls := "ExactCurvesModel", name := "pay", desc := "(IIJ)J" } : Jvm.MethodName)) ∈ qz_T := qz_mem 1010 (by decide +kernel) rfl
theorem wq_967 : (Jvm.Cond.instanceMethod ({ cls := "ExactCurvesModel", name := "pay", desc := "(IIJ)J" } : Jvm.MethodName)) ∈ qz_T := qz_mem 1011 (by decide +kernel) rfl
theorem wq_968 : (Jvm.Cond.selects "ExactCurvesModel" ({ cls := "ExactCurvesModel", name := "pay", desc := "(IIJ)J" } : Jvm.MethodName) ({ cls := "ExactCurvesModel", name := "pay", desc := "(IIJ)J" } : Jvm.MethodName)) ∈ qz_T := qz_mem 1012 (by decide +kernel) rfl
theorem wq_969 : (Jvm.Cond.code ({ cls := "ExactCurvesModel", name := "pay", desc := "(IIJ)J" } : Jvm.MethodName) prog_10_method_58_code (10 : Nat) (Option.some Jvm.ClassFile.FieldType.long)) ∈ qz_T := qz_mem 1013 (by decide +kernel) rfl
theorem wq_970 : (Jvm.Cond.methodLink "ExactCurvesLaw" (131 : Nat) ({ cls := "ExactCurvesModel", name := "close", desc := "(II)J" } : Jvm.MethodName)) ∈ qz_T := qz_mem 1014 (by decide +kernel) rfl
theorem wq_971 : (Jvm.Cond.instanceMethod ({ cls := "ExactCurvesModel", name := "close", desc := "(II)J" } : Jvm.MethodName)) ∈ qz_T := qz_mem 1015 (by decide +kernel) rfl
theorem wq_972 : (Jvm.Cond.selects "ExactCurvesModel" ({ cls := "ExactCurvesModel", name := "close", desc := "(II)J" } : Jvm.MethodName) ({ cls := "ExactCurvesModel", name := "close", desc := "(II)J" } : Jvm.MethodName)) ∈ qz_T := qz_mem 1016 (by decide +kernel) rfl
theorem wq_973 : (Jvm.Cond.code ({ cls := "ExactCurvesModel", name := "close", desc := "(II)J" } : Jvm.MethodName) prog_10_method_59_code (17 : Nat) (Option.some Jvm.ClassFile.FieldType.long)) ∈ qz_T := qz_mem 1017 (by decide +kernel) rfl
theorem wq_974 : (Jvm.Cond.constantLong "ExactCurvesModel" (285 : Nat) (105 : Int64)) ∈ qz_T := qz_mem 1018 (by decide +kernel) rfl
theorem wq_975 : (Jvm.Cond.methodLink "ExactCurvesModel" (287 : Nat) ({ cls := "ExactCurvesModel", name := "isAlike", desc := "()Z" } : Jvm.MethodName)) ∈ qz_T := qz_mem 1019 (by decide +kernel) rfl
theorem wq_977 : (Jvm.Cond.instanceMethod ({ cls := "ExactCurvesModel", name := "isAlike", desc := "()Z" } : Jvm.MethodName)) ∈ qz_T := qz_mem 1021 (by decide +kernel) rfl
theorem wq_978 : (Jvm.Cond.code ({ cls := "ExactCurvesModel", name := "isAlike", desc := "()Z" } : Jvm.MethodName) prog_10_method_60_code (3 : Nat) (Option.some Jvm.ClassFile.FieldType.boolean)) ∈ qz_T := qz_mem 1022 (by decide +kernel) rfl
theorem wq_979 : (Jvm.Cond.methodLink "ExactCurvesLaw" (135 : Nat) ({ cls := "ExactCurvesModel", name := "count", desc := "(I)I" } : Jvm.MethodName)) ∈ qz_T := qz_mem 1023 (by decide +kernel) rfl
theorem wq_980 : (Jvm.Cond.instanceMethod ({ cls := "ExactCurvesModel", name := "count", desc := "(I)I" } : Jvm.MethodName)) ∈ qz_T := qz_mem 1024 (by decide +kernel) rfl
theorem wq_981 : (Jvm.Cond.selects "ExactCurvesModel" ({ cls := "ExactCurvesModel", name := "count", desc := "(I)I" } : Jvm.MethodName) ({ cls := "ExactCurvesModel", name := "count", desc := "(I)I" } : Jvm.MethodName)) ∈ qz_T := qz_mem 1025 (by decide +kernel) rfl
theorem wq_982 : (Jvm.Cond.code ({ cls := "ExactCurvesModel", name := "count", desc := "(I)I" } : Jvm.MethodName) prog_10_method_61_code (4 : Nat) (Option.some Jvm.ClassFile.FieldType.int)) ∈ qz_T := qz_mem 1026 (by decide +kernel) rfl
theorem wq_983 : (Jvm.Cond.constantLong "ExactCurvesLaw" (13 : Nat) (4294967295 : Int64)) ∈ qz_T := qz_mem 1027 (by decide +kernel) rfl
theorem wp_0 : Cond.selects "ExactCurves" ⟨"ExactCurves", "poolAt", "(I)LExactCurves$Pool;"⟩ ⟨"ExactCurves", "poolAt", "(I)LExactCurves$Pool;"⟩ ∈ qz_T := qz_mem 0 (by decide +kernel) rfl
theorem wp_1 : Cond.selects "ExactCurves$Pool" ⟨"ExactCurves$Pool", "sharesBy", "(JJ)J"⟩ ⟨"ExactCurves$Pool", "sharesBy", "(JJ)J"⟩ ∈ qz_T := qz_mem 1 (by decide +kernel) rfl
theorem wp_2 : Cond.selects "ExactCurves" ⟨"ExactCurves", "bringIn", "(ILExactCurves$Pool;IJ)V"⟩ ⟨"ExactCurves", "bringIn", "(ILExactCurves$Pool;IJ)V"⟩ ∈ qz_T := qz_mem 2 (by decide +kernel) rfl
theorem wp_3 : Cond.selects "ExactCurves" ⟨"ExactCurves", "takeOut", "(ILExactCurves$Pool;IJ)V"⟩ ⟨"ExactCurves", "takeOut", "(ILExactCurves$Pool;IJ)V"⟩ ∈ qz_T := qz_mem 3 (by decide +kernel) rfl
theorem wp_4 : Cond.selects "ExactCurves$Batch" ⟨"ExactCurves$Batch", "isBefore", "(II)Z"⟩ ⟨"ExactCurves$Batch", "isBefore", "(II)Z"⟩ ∈ qz_T := qz_mem 4 (by decide +kernel) rfl
theorem wp_5 : Cond.selects "ExactCurves" ⟨"ExactCurves", "settleBuyer", "(IJ)V"⟩ ⟨"ExactCurves", "settleBuyer", "(IJ)V"⟩ ∈ qz_T := qz_mem 5 (by decide +kernel) rfl
theorem wp_6 : Cond.selects "ExactCurves" ⟨"ExactCurves", "settleSeller", "(IJ)V"⟩ ⟨"ExactCurves", "settleSeller", "(IJ)V"⟩ ∈ qz_T := qz_mem 6 (by decide +kernel) rfl
theorem wp_7 : Cond.selects "ExactCurves" ⟨"ExactCurves", "worthOf", "(I)J"⟩ ⟨"ExactCurves", "worthOf", "(I)J"⟩ ∈ qz_T := qz_mem 7 (by decide +kernel) rfl
theorem wp_8 : Cond.selects "ExactCurves" ⟨"ExactCurves", "debtToken", "(LExactCurves$Loan;)I"⟩ ⟨"ExactCurves", "debtToken", "(LExactCurves$Loan;)I"⟩ ∈ qz_T := qz_mem 8 (by decide +kernel) rfl
theorem wp_9 : Cond.selects "ExactCurves" ⟨"ExactCurves", "debtOf", "(LExactCurves$Loan;)J"⟩ ⟨"ExactCurves", "debtOf", "(LExactCurves$Loan;)J"⟩ ∈ qz_T := qz_mem 9 (by decide +kernel) rfl
theorem wp_10 : Cond.selects "ExactCurves" ⟨"ExactCurves", "freeLoan", "()I"⟩ ⟨"ExactCurves", "freeLoan", "()I"⟩ ∈ qz_T := qz_mem 10 (by decide +kernel) rfl
theorem wp_11 : Cond.selects "ExactCurves" ⟨"ExactCurves", "loanAt", "(I)LExactCurves$Loan;"⟩ ⟨"ExactCurves", "loanAt", "(I)LExactCurves$Loan;"⟩ ∈ qz_T := qz_mem 11 (by decide +kernel) rfl
theorem wp_12 : Cond.selects "ExactCurves" ⟨"ExactCurves", "coverValue", "(LExactCurves$Loan;)J"⟩ ⟨"ExactCurves", "coverValue", "(LExactCurves$Loan;)J"⟩ ∈ qz_T := qz_mem 12 (by decide +kernel) rfl
theorem wp_13 : Cond.selects "ExactCurves" ⟨"ExactCurves", "isUncovered", "(LExactCurves$Loan;)Z"⟩ ⟨"ExactCurves", "isUncovered", "(LExactCurves$Loan;)Z"⟩ ∈ qz_T := qz_mem 13 (by decide +kernel) rfl
theorem wp_14 : Cond.selects "ExactCurves" ⟨"ExactCurves", "coverToken", "(LExactCurves$Loan;)I"⟩ ⟨"ExactCurves", "coverToken", "(LExactCurves$Loan;)I"⟩ ∈ qz_T := qz_mem 14 (by decide +kernel) rfl
theorem wp_15 : Cond.selects "ExactCurves" ⟨"ExactCurves", "openLoans", "()I"⟩ ⟨"ExactCurves", "openLoans", "()I"⟩ ∈ qz_T := qz_mem 15 (by decide +kernel) rfl
theorem wp_16 : Cond.selects "ExactCurvesModel" ⟨"ExactCurvesModel", "allOf", "(I)J"⟩ ⟨"ExactCurvesModel", "allOf", "(I)J"⟩ ∈ qz_T := qz_mem 16 (by decide +kernel) rfl
theorem wp_17 : Cond.selects "ExactCurvesModel" ⟨"ExactCurvesModel", "has", "(II)J"⟩ ⟨"ExactCurvesModel", "has", "(II)J"⟩ ∈ qz_T := qz_mem 17 (by decide +kernel) rfl
theorem wp_18 : Cond.selects "ExactCurvesModel" ⟨"ExactCurvesModel", "heldBy", "(I)J"⟩ ⟨"ExactCurvesModel", "heldBy", "(I)J"⟩ ∈ qz_T := qz_mem 18 (by decide +kernel) rfl
theorem wp_19 : Cond.selects "ExactCurvesModel" ⟨"ExactCurvesModel", "coverToken", "(I)I"⟩ ⟨"ExactCurvesModel", "coverToken", "(I)I"⟩ ∈ qz_T := qz_mem 19 (by decide +kernel) rfl
theorem wp_20 : Cond.selects "ExactCurvesModel" ⟨"ExactCurvesModel", "give", "(IIJ)V"⟩ ⟨"ExactCurvesModel", "give", "(IIJ)V"⟩ ∈ qz_T := qz_mem 20 (by decide +kernel) rfl
theorem wp_21 : Cond.selects "ExactCurvesModel" ⟨"ExactCurvesModel", "isPool", "(I)Z"⟩ ⟨"ExactCurvesModel", "isPool", "(I)Z"⟩ ∈ qz_T := qz_mem 21 (by decide +kernel) rfl
theorem wp_22 : Cond.selects "ExactCurvesModel" ⟨"ExactCurvesModel", "root", "(JJ)J"⟩ ⟨"ExactCurvesModel", "root", "(JJ)J"⟩ ∈ qz_T := qz_mem 22 (by decide +kernel) rfl
theorem wp_23 : Cond.selects "ExactCurvesModel" ⟨"ExactCurvesModel", "begin", "(J)V"⟩ ⟨"ExactCurvesModel", "begin", "(J)V"⟩ ∈ qz_T := qz_mem 23 (by decide +kernel) rfl
theorem wp_24 : Cond.selects "ExactCurvesModel" ⟨"ExactCurvesModel", "times", "(J)V"⟩ ⟨"ExactCurvesModel", "times", "(J)V"⟩ ∈ qz_T := qz_mem 24 (by decide +kernel) rfl
theorem wp_25 : Cond.selects "ExactCurvesModel" ⟨"ExactCurvesModel", "keepBig", "()V"⟩ ⟨"ExactCurvesModel", "keepBig", "()V"⟩ ∈ qz_T := qz_mem 25 (by decide +kernel) rfl
theorem wp_26 : Cond.selects "ExactCurvesModel" ⟨"ExactCurvesModel", "keptIsLess", "()Z"⟩ ⟨"ExactCurvesModel", "keptIsLess", "()Z"⟩ ∈ qz_T := qz_mem 26 (by decide +kernel) rfl
theorem wp_27 : Cond.selects "ExactCurvesModel" ⟨"ExactCurvesModel", "part", "(JJJ)J"⟩ ⟨"ExactCurvesModel", "part", "(JJJ)J"⟩ ∈ qz_T := qz_mem 27 (by decide +kernel) rfl
theorem wp_28 : Cond.selects "ExactCurvesModel" ⟨"ExactCurvesModel", "over", "(J)J"⟩ ⟨"ExactCurvesModel", "over", "(J)J"⟩ ∈ qz_T := qz_mem 28 (by decide +kernel) rfl
theorem wp_29 : Cond.selects "ExactCurvesModel" ⟨"ExactCurvesModel", "partUp", "(JJJ)J"⟩ ⟨"ExactCurvesModel", "partUp", "(JJJ)J"⟩ ∈ qz_T := qz_mem 29 (by decide +kernel) rfl
theorem wp_30 : Cond.selects "ExactCurvesModel" ⟨"ExactCurvesModel", "outOf", "(IIJ)J"⟩ ⟨"ExactCurvesModel", "outOf", "(IIJ)J"⟩ ∈ qz_T := qz_mem 30 (by decide +kernel) rfl
theorem wp_31 : Cond.selects "ExactCurvesModel" ⟨"ExactCurvesModel", "tickOnce", "()V"⟩ ⟨"ExactCurvesModel", "tickOnce", "()V"⟩ ∈ qz_T := qz_mem 31 (by decide +kernel) rfl
theorem wp_32 : Cond.selects "ExactCurvesModel" ⟨"ExactCurvesModel", "bestPrice", "()J"⟩ ⟨"ExactCurvesModel", "bestPrice", "()J"⟩ ∈ qz_T := qz_mem 32 (by decide +kernel) rfl
theorem wp_33 : Cond.selects "ExactCurvesModel" ⟨"ExactCurvesModel", "allAt", "(ZJ)J"⟩ ⟨"ExactCurvesModel", "allAt", "(ZJ)J"⟩ ∈ qz_T := qz_mem 33 (by decide +kernel) rfl
theorem wp_34 : Cond.selects "ExactCurvesModel" ⟨"ExactCurvesModel", "deal", "(ZJJ)V"⟩ ⟨"ExactCurvesModel", "deal", "(ZJJ)V"⟩ ∈ qz_T := qz_mem 34 (by decide +kernel) rfl
theorem wp_35 : Cond.selects "ExactCurvesModel" ⟨"ExactCurvesModel", "worthOf", "(I)J"⟩ ⟨"ExactCurvesModel", "worthOf", "(I)J"⟩ ∈ qz_T := qz_mem 35 (by decide +kernel) rfl
theorem wp_36 : Cond.selects "ExactCurvesModel" ⟨"ExactCurvesModel", "debtToken", "(I)I"⟩ ⟨"ExactCurvesModel", "debtToken", "(I)I"⟩ ∈ qz_T := qz_mem 36 (by decide +kernel) rfl
theorem wp_37 : Cond.selects "ExactCurvesModel" ⟨"ExactCurvesModel", "debtOf", "(I)J"⟩ ⟨"ExactCurvesModel", "debtOf", "(I)J"⟩ ∈ qz_T := qz_mem 37 (by decide +kernel) rfl
theorem wp_38 : Cond.selects "ExactCurvesModel" ⟨"ExactCurvesModel", "valueOf", "(IIJ)J"⟩ ⟨"ExactCurvesModel", "valueOf", "(IIJ)J"⟩ ∈ qz_T := qz_mem 38 (by decide +kernel) rfl
theorem wp_39 : Cond.selects "ExactCurvesModel" ⟨"ExactCurvesModel", "isAbove", "(JJJJ)Z"⟩ ⟨"ExactCurvesModel", "isAbove", "(JJJJ)Z"⟩ ∈ qz_T := qz_mem 39 (by decide +kernel) rfl
theorem wp_40 : Cond.selects "ExactCurvesModel" ⟨"ExactCurvesModel", "isOpen", "(I)Z"⟩ ⟨"ExactCurvesModel", "isOpen", "(I)Z"⟩ ∈ qz_T := qz_mem 40 (by decide +kernel) rfl
theorem wp_41 : Cond.selects "ExactCurvesModel" ⟨"ExactCurvesModel", "coverValue", "(I)J"⟩ ⟨"ExactCurvesModel", "coverValue", "(I)J"⟩ ∈ qz_T := qz_mem 41 (by decide +kernel) rfl
theorem wp_42 : Cond.selects "ExactCurvesModel" ⟨"ExactCurvesModel", "isUncovered", "(I)Z"⟩ ⟨"ExactCurvesModel", "isUncovered", "(I)Z"⟩ ∈ qz_T := qz_mem 42 (by decide +kernel) rfl
theorem wp_43 : Cond.selects "ExactCurvesModel" ⟨"ExactCurvesModel", "isAlike", "()Z"⟩ ⟨"ExactCurvesModel", "isAlike", "()Z"⟩ ∈ qz_T := qz_mem 43 (by decide +kernel) rfl
theorem iq_0 : ∀ w ∈ u_ws rq_0 tq_0 8, w ∈ qz_T := by
  intro w h
  obtain ⟨k, hk, rfl⟩ := List.mem_map.mp h
  have hk := List.mem_range.mp hk
  match k, hk with
  | 0, _ => exact wq_224
  | 1, _ => exact wq_226
  | 2, _ => exact wq_228
  | 3, _ => exact wq_230
  | 4, _ => exact wq_232
  | 5, _ => exact wq_234
  | 6, _ => exact wq_236
  | 7, _ => exact wq_238
  | k + 8, hk => exact absurd hk (by omega)
theorem iq_1 : ∀ w ∈ u_ws rq_1 tq_1 3, w ∈ qz_T := by
  intro w h
  obtain ⟨k, hk, rfl⟩ := List.mem_map.mp h
  have hk := List.mem_range.mp hk
  match k, hk with
  | 0, _ => exact wq_31
  | 1, _ => exact wq_33
  | 2, _ => exact wq_35
  | k + 3, hk => exact absurd hk (by omega)
theorem iq_2 : ∀ w ∈ u_ws rq_2 tq_2 10, w ∈ qz_T := by
  intro w h
  obtain ⟨k, hk, rfl⟩ := List.mem_map.mp h
  have hk := List.mem_range.mp hk
  match k, hk with
  | 0, _ => exact wq_121
  | 1, _ => exact wq_123
  | 2, _ => exact wq_125
  | 3, _ => exact wq_127
  | 4, _ => exact wq_129
  | 5, _ => exact wq_131
  | 6, _ => exact wq_133
  | 7, _ => exact wq_135
  | 8, _ => exact wq_137
  | 9, _ => exact wq_139
  | k + 10, hk => exact absurd hk (by omega)
theorem iq_3 : ∀ w ∈ u_ws rq_3 tq_3 4, w ∈ qz_T := by
  intro w h
  obtain ⟨k, hk, rfl⟩ := List.mem_map.mp h
  have hk := List.mem_range.mp hk
  match k, hk with
  | 0, _ => exact wq_151
  | 1, _ => exact wq_153
  | 2, _ => exact wq_155
  | 3, _ => exact wq_157
  | k + 4, hk => exact absurd hk (by omega)
theorem iq_4 : ∀ w ∈ u_ws rq_4 tq_4 10, w ∈ qz_T := by
  intro w h
  obtain ⟨k, hk, rfl⟩ := List.mem_map.mp h
  have hk := List.mem_range.mp hk
  match k, hk with
  | 0, _ => exact wq_69
  | 1, _ => exact wq_71
  | 2, _ => exact wq_73
  | 3, _ => exact wq_75
  | 4, _ => exact wq_77
  | 5, _ => exact wq_79
  | 6, _ => exact wq_81
  | 7, _ => exact wq_83
  | 8, _ => exact wq_85
  | 9, _ => exact wq_87
  | k + 10, hk => exact absurd hk (by omega)
theorem iq_5 : ∀ w ∈ u_ws rq_5 tq_5 5, w ∈ qz_T := by
  intro w h
  obtain ⟨k, hk, rfl⟩ := List.mem_map.mp h
  have hk := List.mem_range.mp hk
  match k, hk with
  | 0, _ => exact wq_175
  | 1, _ => exact wq_177
  | 2, _ => exact wq_179
  | 3, _ => exact wq_181
  | 4, _ => exact wq_183
  | k + 5, hk => exact absurd hk (by omega)
theorem iq_6 : ∀ w ∈ u_ws rq_6 tq_6 6, w ∈ qz_T := by
  intro w h
  obtain ⟨k, hk, rfl⟩ := List.mem_map.mp h
  have hk := List.mem_range.mp hk
  match k, hk with
  | 0, _ => exact wq_203
  | 1, _ => exact wq_205
  | 2, _ => exact wq_207
  | 3, _ => exact wq_209
  | 4, _ => exact wq_211
  | 5, _ => exact wq_213
  | k + 6, hk => exact absurd hk (by omega)
theorem iq_7 : ∀ w ∈ u_ws rq_7 tq_7 42, w ∈ qz_T := by
  intro w h
  obtain ⟨k, hk, rfl⟩ := List.mem_map.mp h
  have hk := List.mem_range.mp hk
  match k, hk with
  | 0, _ => exact wq_646
  | 1, _ => exact wq_648
  | 2, _ => exact wq_650
  | 3, _ => exact wq_652
  | 4, _ => exact wq_654
  | 5, _ => exact wq_656
  | 6, _ => exact wq_658
  | 7, _ => exact wq_660
  | 8, _ => exact wq_662
  | 9, _ => exact wq_664
  | 10, _ => exact wq_666
  | 11, _ => exact wq_668
  | 12, _ => exact wq_670
  | 13, _ => exact wq_672
  | 14, _ => exact wq_674
  | 15, _ => exact wq_676
  | 16, _ => exact wq_678
  | 17, _ => exact wq_680
  | 18, _ => exact wq_682
  | 19, _ => exact wq_684
  | 20, _ => exact wq_686
  | 21, _ => exact wq_688
  | 22, _ => exact wq_690
  | 23, _ => exact wq_692
  | 24, _ => exact wq_694
  | 25, _ => exact wq_696
  | 26, _ => exact wq_698
  | 27, _ => exact wq_700
  | 28, _ => exact wq_702
  | 29, _ => exact wq_704
  | 30, _ => exact wq_706
  | 31, _ => exact wq_708
  | 32, _ => exact wq_710
  | 33, _ => exact wq_712
  | 34, _ => exact wq_714
  | 35, _ => exact wq_716
  | 36, _ => exact wq_718
  | 37, _ => exact wq_720
  | 38, _ => exact wq_722
  | 39, _ => exact wq_724
  | 40, _ => exact wq_726
  | 41, _ => exact wq_728
  | k + 42, hk => exact absurd hk (by omega)
def yE_isPlayer : MethodName := ⟨"ExactCurves", "isPlayer", "(I)Z"⟩
def yE_isToken : MethodName := ⟨"ExactCurves", "isToken", "(I)Z"⟩
def yU_give : MethodName := ⟨"ExactCurves$Purses", "give", "(IIJ)V"⟩
def yU_held : MethodName := ⟨"ExactCurves$Purses", "held", "(II)J"⟩
def yE_mint : MethodName := ⟨"ExactCurves", "mint", "(IIJ)J"⟩
def yE_balance : MethodName := ⟨"ExactCurves", "balance", "(II)J"⟩
def yE_total : MethodName := ⟨"ExactCurves", "total", "(I)J"⟩
def yE_house : MethodName := ⟨"ExactCurves", "house", "(I)J"⟩
def yE_pool : MethodName := ⟨"ExactCurves", "pool", "(IIII)I"⟩
def yE_poolAt : MethodName := ⟨"ExactCurves", "poolAt", "(I)LExactCurves$Pool;"⟩
def yP_told : MethodName := ⟨"ExactCurves$Pool", "told", "(I)J"⟩
def yE_of : MethodName := ⟨"ExactCurves", "of", "(II)J"⟩
def yA_highOf : MethodName := ⟨"ExactCurves$Exact", "highOf", "(JJ)J"⟩
def yJl_compare : MethodName := ⟨"java/lang/Long", "compare", "(JJ)I"⟩
def yA_compareProducts : MethodName := ⟨"ExactCurves$Exact", "compareProducts", "(JJJJ)I"⟩
def yA_rootOfProduct : MethodName := ⟨"ExactCurves$Exact", "rootOfProduct", "(JJ)J"⟩
def yA_over : MethodName := ⟨"ExactCurves$Exact", "over", "(JJJ)J"⟩
def yA_timesOver : MethodName := ⟨"ExactCurves$Exact", "timesOver", "(JJJ)J"⟩
def yP_sharesBy : MethodName := ⟨"ExactCurves$Pool", "sharesBy", "(JJ)J"⟩
def yP_sharesFor : MethodName := ⟨"ExactCurves$Pool", "sharesFor", "(JJ)J"⟩
def yP_reserveAt : MethodName := ⟨"ExactCurves$Pool", "reserveAt", "(I)J"⟩
def yA_timesOverUp : MethodName := ⟨"ExactCurves$Exact", "timesOverUp", "(JJJ)J"⟩
def yP_costOf : MethodName := ⟨"ExactCurves$Pool", "costOf", "(JI)J"⟩
def yP_tokenAt : MethodName := ⟨"ExactCurves$Pool", "tokenAt", "(I)I"⟩
def yU_take : MethodName := ⟨"ExactCurves$Purses", "take", "(IIJ)V"⟩
def yP_addReserve : MethodName := ⟨"ExactCurves$Pool", "addReserve", "(IJ)V"⟩
def yE_bringIn : MethodName := ⟨"ExactCurves", "bringIn", "(ILExactCurves$Pool;IJ)V"⟩
def yP_addShares : MethodName := ⟨"ExactCurves$Pool", "addShares", "(IJ)V"⟩
def yE_join : MethodName := ⟨"ExactCurves", "join", "(IIJJ)J"⟩
def yP_payOf : MethodName := ⟨"ExactCurves$Pool", "payOf", "(JI)J"⟩
def yE_takeOut : MethodName := ⟨"ExactCurves", "takeOut", "(ILExactCurves$Pool;IJ)V"⟩
def yE_leave : MethodName := ⟨"ExactCurves", "leave", "(IIJ)J"⟩
def yE_isSide : MethodName := ⟨"ExactCurves", "isSide", "(I)Z"⟩
def yP_outputOf : MethodName := ⟨"ExactCurves$Pool", "outputOf", "(IJ)J"⟩
def yE_swap : MethodName := ⟨"ExactCurves", "swap", "(IIIJ)J"⟩
def yE_quote : MethodName := ⟨"ExactCurves", "quote", "(IIJ)J"⟩
def yP_mayBecome : MethodName := ⟨"ExactCurves$Pool", "mayBecome", "(JJJJ)Z"⟩
def yE_flash : MethodName := ⟨"ExactCurves", "flash", "(IIJJJJ)I"⟩
def yP_grow : MethodName := ⟨"ExactCurves$Pool", "grow", "(I)V"⟩
def yV_grow : MethodName := ⟨"ExactCurves$Vault", "grow", "(I)V"⟩
def yE_tick : MethodName := ⟨"ExactCurves", "tick", "(I)I"⟩
def yE_mark : MethodName := ⟨"ExactCurves", "mark", "(II)I"⟩
def yE_mean : MethodName := ⟨"ExactCurves", "mean", "(I)J"⟩
def yE_batch : MethodName := ⟨"ExactCurves", "batch", "(II)I"⟩
def yB_priceUp : MethodName := ⟨"ExactCurves$Batch", "priceUp", "(JJ)J"⟩
def yB_put : MethodName := ⟨"ExactCurves$Batch", "put", "(IZJJ)I"⟩
def yE_order : MethodName := ⟨"ExactCurves", "order", "(IIJJ)I"⟩
def yB_boughtAt : MethodName := ⟨"ExactCurves$Batch", "boughtAt", "(J)J"⟩
def yB_soldAt : MethodName := ⟨"ExactCurves$Batch", "soldAt", "(J)J"⟩
def yB_bestPrice : MethodName := ⟨"ExactCurves$Batch", "bestPrice", "()J"⟩
def yB_isBefore : MethodName := ⟨"ExactCurves$Batch", "isBefore", "(II)Z"⟩
def yB_beforeOrder : MethodName := ⟨"ExactCurves$Batch", "beforeOrder", "(I)J"⟩
def yB_dealAt : MethodName := ⟨"ExactCurves$Batch", "dealAt", "(J)V"⟩
def yE_settleBuyer : MethodName := ⟨"ExactCurves", "settleBuyer", "(IJ)V"⟩
def yE_settleSeller : MethodName := ⟨"ExactCurves", "settleSeller", "(IJ)V"⟩
def yE_clear : MethodName := ⟨"ExactCurves", "clear", "()J"⟩
def yE_dealt : MethodName := ⟨"ExactCurves", "dealt", "(I)J"⟩
def yE_rate : MethodName := ⟨"ExactCurves", "rate", "(IJ)J"⟩
def yE_debtToken : MethodName := ⟨"ExactCurves", "debtToken", "(LExactCurves$Loan;)I"⟩
def yV_debtOf : MethodName := ⟨"ExactCurves$Vault", "debtOf", "(J)J"⟩
def yE_debtOf : MethodName := ⟨"ExactCurves", "debtOf", "(LExactCurves$Loan;)J"⟩
def yE_worthOf : MethodName := ⟨"ExactCurves", "worthOf", "(I)J"⟩
def yV_addParts : MethodName := ⟨"ExactCurves$Vault", "addParts", "(IJ)V"⟩
def yE_lend : MethodName := ⟨"ExactCurves", "lend", "(IIJ)J"⟩
def yE_redeem : MethodName := ⟨"ExactCurves", "redeem", "(IIJ)J"⟩
def yV_told : MethodName := ⟨"ExactCurves$Vault", "told", "(I)J"⟩
def yE_vault : MethodName := ⟨"ExactCurves", "vault", "(II)J"⟩
def yE_freeLoan : MethodName := ⟨"ExactCurves", "freeLoan", "()I"⟩
def yP_valueOf : MethodName := ⟨"ExactCurves$Pool", "valueOf", "(IJ)J"⟩
def yV_unitsOf : MethodName := ⟨"ExactCurves$Vault", "unitsOf", "(J)J"⟩
def yL_begin : MethodName := ⟨"ExactCurves$Loan", "begin", "(IIIJJ)V"⟩
def yE_loan : MethodName := ⟨"ExactCurves", "loan", "(IIIJJ)I"⟩
def yE_loanAt : MethodName := ⟨"ExactCurves", "loanAt", "(I)LExactCurves$Loan;"⟩
def yE_coverValue : MethodName := ⟨"ExactCurves", "coverValue", "(LExactCurves$Loan;)J"⟩
def yE_isUncovered : MethodName := ⟨"ExactCurves", "isUncovered", "(LExactCurves$Loan;)Z"⟩
def yE_ofLoan : MethodName := ⟨"ExactCurves", "ofLoan", "(II)J"⟩
def yE_coverToken : MethodName := ⟨"ExactCurves", "coverToken", "(LExactCurves$Loan;)I"⟩
def yE_pay : MethodName := ⟨"ExactCurves", "pay", "(IIJ)J"⟩
def yP_leastOfValue : MethodName := ⟨"ExactCurves$Pool", "leastOfValue", "(IJ)J"⟩
def yE_close : MethodName := ⟨"ExactCurves", "close", "(II)J"⟩
def yE_openLoans : MethodName := ⟨"ExactCurves", "openLoans", "()I"⟩
def yE_count : MethodName := ⟨"ExactCurves", "count", "(I)I"⟩
def yM_begin : MethodName := ⟨"ExactCurvesModel", "begin", "(J)V"⟩
def yM_times : MethodName := ⟨"ExactCurvesModel", "times", "(J)V"⟩
def yM_over : MethodName := ⟨"ExactCurvesModel", "over", "(J)J"⟩
def yM_part : MethodName := ⟨"ExactCurvesModel", "part", "(JJJ)J"⟩
def yM_partUp : MethodName := ⟨"ExactCurvesModel", "partUp", "(JJJ)J"⟩
def yM_keepBig : MethodName := ⟨"ExactCurvesModel", "keepBig", "()V"⟩
def yM_keptIsLess : MethodName := ⟨"ExactCurvesModel", "keptIsLess", "()Z"⟩
def yM_least : MethodName := ⟨"ExactCurvesModel", "least", "(JJ)J"⟩
def yM_isPlayer : MethodName := ⟨"ExactCurvesModel", "isPlayer", "(I)Z"⟩
def yM_isToken : MethodName := ⟨"ExactCurvesModel", "isToken", "(I)Z"⟩
def yM_isPool : MethodName := ⟨"ExactCurvesModel", "isPool", "(I)Z"⟩
def yM_isSide : MethodName := ⟨"ExactCurvesModel", "isSide", "(I)Z"⟩
def yM_has : MethodName := ⟨"ExactCurvesModel", "has", "(II)J"⟩
def yM_give : MethodName := ⟨"ExactCurvesModel", "give", "(IIJ)V"⟩
def yM_up : MethodName := ⟨"ExactCurvesModel", "up", "(JJ)J"⟩
def yM_heldBy : MethodName := ⟨"ExactCurvesModel", "heldBy", "(I)J"⟩
def yM_coverToken : MethodName := ⟨"ExactCurvesModel", "coverToken", "(I)I"⟩
def yM_allOf : MethodName := ⟨"ExactCurvesModel", "allOf", "(I)J"⟩
def yM_mint : MethodName := ⟨"ExactCurvesModel", "mint", "(IIJ)J"⟩
def yM_balance : MethodName := ⟨"ExactCurvesModel", "balance", "(II)J"⟩
def yM_total : MethodName := ⟨"ExactCurvesModel", "total", "(I)J"⟩
def yM_house : MethodName := ⟨"ExactCurvesModel", "house", "(I)J"⟩
def yM_pool : MethodName := ⟨"ExactCurvesModel", "pool", "(IIII)I"⟩
def yM_of : MethodName := ⟨"ExactCurvesModel", "of", "(II)J"⟩
def yM_root : MethodName := ⟨"ExactCurvesModel", "root", "(JJ)J"⟩
def yM_join : MethodName := ⟨"ExactCurvesModel", "join", "(IIJJ)J"⟩
def yM_leave : MethodName := ⟨"ExactCurvesModel", "leave", "(IIJ)J"⟩
def yM_outOf : MethodName := ⟨"ExactCurvesModel", "outOf", "(IIJ)J"⟩
def yM_swap : MethodName := ⟨"ExactCurvesModel", "swap", "(IIIJ)J"⟩
def yM_quote : MethodName := ⟨"ExactCurvesModel", "quote", "(IIJ)J"⟩
def yM_flash : MethodName := ⟨"ExactCurvesModel", "flash", "(IIJJJJ)I"⟩
def yM_tickOnce : MethodName := ⟨"ExactCurvesModel", "tickOnce", "()V"⟩
def yM_tick : MethodName := ⟨"ExactCurvesModel", "tick", "(I)I"⟩
def yM_mark : MethodName := ⟨"ExactCurvesModel", "mark", "(II)I"⟩
def yM_mean : MethodName := ⟨"ExactCurvesModel", "mean", "(I)J"⟩
def yM_batch : MethodName := ⟨"ExactCurvesModel", "batch", "(II)I"⟩
def yM_order : MethodName := ⟨"ExactCurvesModel", "order", "(IIJJ)I"⟩
def yM_allAt : MethodName := ⟨"ExactCurvesModel", "allAt", "(ZJ)J"⟩
def yM_bestPrice : MethodName := ⟨"ExactCurvesModel", "bestPrice", "()J"⟩
def yM_deal : MethodName := ⟨"ExactCurvesModel", "deal", "(ZJJ)V"⟩
def yM_clear : MethodName := ⟨"ExactCurvesModel", "clear", "()J"⟩
def yM_dealt : MethodName := ⟨"ExactCurvesModel", "dealt", "(I)J"⟩
def yM_rate : MethodName := ⟨"ExactCurvesModel", "rate", "(IJ)J"⟩
def yM_debtToken : MethodName := ⟨"ExactCurvesModel", "debtToken", "(I)I"⟩
def yM_debtOf : MethodName := ⟨"ExactCurvesModel", "debtOf", "(I)J"⟩
def yM_worthOf : MethodName := ⟨"ExactCurvesModel", "worthOf", "(I)J"⟩
def yM_lend : MethodName := ⟨"ExactCurvesModel", "lend", "(IIJ)J"⟩
def yM_redeem : MethodName := ⟨"ExactCurvesModel", "redeem", "(IIJ)J"⟩
def yM_vault : MethodName := ⟨"ExactCurvesModel", "vault", "(II)J"⟩
def yM_valueOf : MethodName := ⟨"ExactCurvesModel", "valueOf", "(IIJ)J"⟩
def yM_isAbove : MethodName := ⟨"ExactCurvesModel", "isAbove", "(JJJJ)Z"⟩
def yM_coverValue : MethodName := ⟨"ExactCurvesModel", "coverValue", "(I)J"⟩
def yM_isUncovered : MethodName := ⟨"ExactCurvesModel", "isUncovered", "(I)Z"⟩
def yM_loan : MethodName := ⟨"ExactCurvesModel", "loan", "(IIIJJ)I"⟩
def yM_isOpen : MethodName := ⟨"ExactCurvesModel", "isOpen", "(I)Z"⟩
def yM_ofLoan : MethodName := ⟨"ExactCurvesModel", "ofLoan", "(II)J"⟩
def yM_pay : MethodName := ⟨"ExactCurvesModel", "pay", "(IIJ)J"⟩
def yM_isAlike : MethodName := ⟨"ExactCurvesModel", "isAlike", "()Z"⟩
def yM_close : MethodName := ⟨"ExactCurvesModel", "close", "(II)J"⟩
def yM_count : MethodName := ⟨"ExactCurvesModel", "count", "(I)I"⟩
def yU_init : MethodName := ⟨"ExactCurves$Purses", "<init>", "()V"⟩
def yP_init : MethodName := ⟨"ExactCurves$Pool", "<init>", "()V"⟩
def yK_init : MethodName := ⟨"ExactCurves$Mark", "<init>", "()V"⟩
def yB_init : MethodName := ⟨"ExactCurves$Batch", "<init>", "()V"⟩
def yV_init : MethodName := ⟨"ExactCurves$Vault", "<init>", "()V"⟩
def yL_init : MethodName := ⟨"ExactCurves$Loan", "<init>", "()V"⟩
def yE_init : MethodName := ⟨"ExactCurves", "<init>", "()V"⟩
def yM_init : MethodName := ⟨"ExactCurvesModel", "<init>", "()V"⟩
theorem kq_U_9 : qz_Fd "ExactCurves$Purses" 9 1 0 1 (.array .long, 12) true := ⟨1, sq_1, rq_1, tq_1, 3, fq_1, rfl, rfl, iq_1, by decide, rfl, wq_26, yq_1, nq_1, rfl, yq_1 0 (by decide), rfl⟩
theorem kq_E_10 : qz_Fd "ExactCurves" 10 0 0 1 (.object "ExactCurves$Purses", 1) true := ⟨0, sq_0, rq_0, tq_0, 8, fq_0, rfl, rfl, iq_0, by decide, rfl, wq_216, yq_0, nq_0, rfl, yq_0 0 (by decide), rfl⟩
theorem kq_E_62 : qz_Fd "ExactCurves" 62 1 1 1 (.array .long, 13) true := ⟨1, sq_1, rq_1, tq_1, 3, fq_1, rfl, rfl, iq_1, by decide, rfl, wq_28, yq_1, nq_1, rfl, yq_1 1 (by decide), rfl⟩
theorem kq_E_76 : qz_Fd "ExactCurves" 76 1 2 1 (.array .long, 14) true := ⟨1, sq_1, rq_1, tq_1, 3, fq_1, rfl, rfl, iq_1, by decide, rfl, wq_30, yq_1, nq_1, rfl, yq_1 2 (by decide), rfl⟩
theorem kq_E_79 : qz_Fd "ExactCurves" 79 0 6 1 (.int, 0) false := ⟨0, sq_0, rq_0, tq_0, 8, fq_0, rfl, rfl, iq_0, by decide, rfl, wq_222, yq_0, nq_0, rfl, yq_0 6 (by decide), rfl⟩
theorem kq_E_18 : qz_Fd "ExactCurves" 18 0 1 1 (.array (.object "ExactCurves$Pool"), 8) true := ⟨0, sq_0, rq_0, tq_0, 8, fq_0, rfl, rfl, iq_0, by decide, rfl, wq_217, yq_0, nq_0, rfl, yq_0 1 (by decide), rfl⟩
theorem kq_E_83 : qz_Fd "ExactCurves" 83 2 1 6 (.int, 0) false := ⟨2, sq_2, rq_2, tq_2, 10, fq_2, rfl, rfl, iq_2, by decide, rfl, wq_104, yq_2, nq_2, rfl, yq_2 1 (by decide), rfl⟩
theorem kq_E_86 : qz_Fd "ExactCurves" 86 2 2 6 (.int, 0) false := ⟨2, sq_2, rq_2, tq_2, 10, fq_2, rfl, rfl, iq_2, by decide, rfl, wq_106, yq_2, nq_2, rfl, yq_2 2 (by decide), rfl⟩
theorem kq_E_89 : qz_Fd "ExactCurves" 89 2 3 6 (.int, 0) false := ⟨2, sq_2, rq_2, tq_2, 10, fq_2, rfl, rfl, iq_2, by decide, rfl, wq_108, yq_2, nq_2, rfl, yq_2 3 (by decide), rfl⟩
theorem kq_E_92 : qz_Fd "ExactCurves" 92 2 4 6 (.int, 0) false := ⟨2, sq_2, rq_2, tq_2, 10, fq_2, rfl, rfl, iq_2, by decide, rfl, wq_110, yq_2, nq_2, rfl, yq_2 4 (by decide), rfl⟩
theorem kq_P_22 : qz_Fd "ExactCurves$Pool" 22 2 5 6 (.long, 0) false := ⟨2, sq_2, rq_2, tq_2, 10, fq_2, rfl, rfl, iq_2, by decide, rfl, wq_111, yq_2, nq_2, rfl, yq_2 5 (by decide), rfl⟩
theorem kq_P_26 : qz_Fd "ExactCurves$Pool" 26 2 6 6 (.long, 0) false := ⟨2, sq_2, rq_2, tq_2, 10, fq_2, rfl, rfl, iq_2, by decide, rfl, wq_113, yq_2, nq_2, rfl, yq_2 6 (by decide), rfl⟩
theorem kq_P_29 : qz_Fd "ExactCurves$Pool" 29 2 7 6 (.long, 0) false := ⟨2, sq_2, rq_2, tq_2, 10, fq_2, rfl, rfl, iq_2, by decide, rfl, wq_115, yq_2, nq_2, rfl, yq_2 7 (by decide), rfl⟩
theorem kq_P_32 : qz_Fd "ExactCurves$Pool" 32 2 8 6 (.long, 0) false := ⟨2, sq_2, rq_2, tq_2, 10, fq_2, rfl, rfl, iq_2, by decide, rfl, wq_117, yq_2, nq_2, rfl, yq_2 8 (by decide), rfl⟩
theorem kq_P_35 : qz_Fd "ExactCurves$Pool" 35 2 9 6 (.long, 0) false := ⟨2, sq_2, rq_2, tq_2, 10, fq_2, rfl, rfl, iq_2, by decide, rfl, wq_119, yq_2, nq_2, rfl, yq_2 9 (by decide), rfl⟩
theorem kq_P_38 : qz_Fd "ExactCurves$Pool" 38 2 3 6 (.int, 0) false := ⟨2, sq_2, rq_2, tq_2, 10, fq_2, rfl, rfl, iq_2, by decide, rfl, wq_107, yq_2, nq_2, rfl, yq_2 3 (by decide), rfl⟩
theorem kq_P_41 : qz_Fd "ExactCurves$Pool" 41 2 4 6 (.int, 0) false := ⟨2, sq_2, rq_2, tq_2, 10, fq_2, rfl, rfl, iq_2, by decide, rfl, wq_109, yq_2, nq_2, rfl, yq_2 4 (by decide), rfl⟩
theorem kq_P_15 : qz_Fd "ExactCurves$Pool" 15 2 1 6 (.int, 0) false := ⟨2, sq_2, rq_2, tq_2, 10, fq_2, rfl, rfl, iq_2, by decide, rfl, wq_103, yq_2, nq_2, rfl, yq_2 1 (by decide), rfl⟩
theorem kq_P_19 : qz_Fd "ExactCurves$Pool" 19 2 2 6 (.int, 0) false := ⟨2, sq_2, rq_2, tq_2, 10, fq_2, rfl, rfl, iq_2, by decide, rfl, wq_105, yq_2, nq_2, rfl, yq_2 2 (by decide), rfl⟩
theorem kq_P_9 : qz_Fd "ExactCurves$Pool" 9 2 0 6 (.array .long, 15) true := ⟨2, sq_2, rq_2, tq_2, 10, fq_2, rfl, rfl, iq_2, by decide, rfl, wq_101, yq_2, nq_2, rfl, yq_2 0 (by decide), rfl⟩
theorem kq_E_107 : qz_Fd "ExactCurves" 107 2 7 6 (.long, 0) false := ⟨2, sq_2, rq_2, tq_2, 10, fq_2, rfl, rfl, iq_2, by decide, rfl, wq_116, yq_2, nq_2, rfl, yq_2 7 (by decide), rfl⟩
theorem kq_E_123 : qz_Fd "ExactCurves" 123 2 0 6 (.array .long, 15) true := ⟨2, sq_2, rq_2, tq_2, 10, fq_2, rfl, rfl, iq_2, by decide, rfl, wq_102, yq_2, nq_2, rfl, yq_2 0 (by decide), rfl⟩
theorem kq_E_143 : qz_Fd "ExactCurves" 143 2 5 6 (.long, 0) false := ⟨2, sq_2, rq_2, tq_2, 10, fq_2, rfl, rfl, iq_2, by decide, rfl, wq_112, yq_2, nq_2, rfl, yq_2 5 (by decide), rfl⟩
theorem kq_E_146 : qz_Fd "ExactCurves" 146 2 6 6 (.long, 0) false := ⟨2, sq_2, rq_2, tq_2, 10, fq_2, rfl, rfl, iq_2, by decide, rfl, wq_114, yq_2, nq_2, rfl, yq_2 6 (by decide), rfl⟩
theorem kq_V_27 : qz_Fd "ExactCurves$Vault" 27 5 3 4 (.long, 0) false := ⟨5, sq_5, rq_5, tq_5, 5, fq_5, rfl, rfl, iq_5, by decide, rfl, wq_172, yq_5, nq_5, rfl, yq_5 3 (by decide), rfl⟩
theorem kq_V_17 : qz_Fd "ExactCurves$Vault" 17 5 4 4 (.long, 0) false := ⟨5, sq_5, rq_5, tq_5, 5, fq_5, rfl, rfl, iq_5, by decide, rfl, wq_174, yq_5, nq_5, rfl, yq_5 4 (by decide), rfl⟩
theorem kq_E_158 : qz_Fd "ExactCurves" 158 0 7 1 (.int, 0) false := ⟨0, sq_0, rq_0, tq_0, 8, fq_0, rfl, rfl, iq_0, by decide, rfl, wq_223, yq_0, nq_0, rfl, yq_0 7 (by decide), rfl⟩
theorem kq_E_37 : qz_Fd "ExactCurves" 37 0 4 1 (.array (.object "ExactCurves$Vault"), 10) true := ⟨0, sq_0, rq_0, tq_0, 8, fq_0, rfl, rfl, iq_0, by decide, rfl, wq_220, yq_0, nq_0, rfl, yq_0 4 (by decide), rfl⟩
theorem kq_E_24 : qz_Fd "ExactCurves" 24 0 2 1 (.array (.object "ExactCurves$Mark"), 9) true := ⟨0, sq_0, rq_0, tq_0, 8, fq_0, rfl, rfl, iq_0, by decide, rfl, wq_218, yq_0, nq_0, rfl, yq_0 2 (by decide), rfl⟩
theorem kq_E_161 : qz_Fd "ExactCurves" 161 3 0 8 (.boolean, 0) false := ⟨3, sq_3, rq_3, tq_3, 4, fq_3, rfl, rfl, iq_3, by decide, rfl, wq_147, yq_3, nq_3, rfl, yq_3 0 (by decide), rfl⟩
theorem kq_E_165 : qz_Fd "ExactCurves" 165 3 1 8 (.int, 0) false := ⟨3, sq_3, rq_3, tq_3, 4, fq_3, rfl, rfl, iq_3, by decide, rfl, wq_148, yq_3, nq_3, rfl, yq_3 1 (by decide), rfl⟩
theorem kq_E_168 : qz_Fd "ExactCurves" 168 2 8 6 (.long, 0) false := ⟨2, sq_2, rq_2, tq_2, 10, fq_2, rfl, rfl, iq_2, by decide, rfl, wq_118, yq_2, nq_2, rfl, yq_2 8 (by decide), rfl⟩
theorem kq_E_171 : qz_Fd "ExactCurves" 171 3 2 8 (.long, 0) false := ⟨3, sq_3, rq_3, tq_3, 4, fq_3, rfl, rfl, iq_3, by decide, rfl, wq_149, yq_3, nq_3, rfl, yq_3 2 (by decide), rfl⟩
theorem kq_E_172 : qz_Fd "ExactCurves" 172 2 9 6 (.long, 0) false := ⟨2, sq_2, rq_2, tq_2, 10, fq_2, rfl, rfl, iq_2, by decide, rfl, wq_120, yq_2, nq_2, rfl, yq_2 9 (by decide), rfl⟩
theorem kq_E_175 : qz_Fd "ExactCurves" 175 3 3 8 (.long, 0) false := ⟨3, sq_3, rq_3, tq_3, 4, fq_3, rfl, rfl, iq_3, by decide, rfl, wq_150, yq_3, nq_3, rfl, yq_3 3 (by decide), rfl⟩
theorem kq_E_31 : qz_Fd "ExactCurves" 31 0 3 1 (.object "ExactCurves$Batch", 4) true := ⟨0, sq_0, rq_0, tq_0, 8, fq_0, rfl, rfl, iq_0, by decide, rfl, wq_219, yq_0, nq_0, rfl, yq_0 3 (by decide), rfl⟩
theorem kq_E_184 : qz_Fd "ExactCurves" 184 4 7 1 (.int, 0) false := ⟨4, sq_4, rq_4, tq_4, 10, fq_4, rfl, rfl, iq_4, by decide, rfl, wq_64, yq_4, nq_4, rfl, yq_4 7 (by decide), rfl⟩
theorem kq_E_187 : qz_Fd "ExactCurves" 187 4 5 1 (.int, 0) false := ⟨4, sq_4, rq_4, tq_4, 10, fq_4, rfl, rfl, iq_4, by decide, rfl, wq_60, yq_4, nq_4, rfl, yq_4 5 (by decide), rfl⟩
theorem kq_E_190 : qz_Fd "ExactCurves" 190 4 6 1 (.int, 0) false := ⟨4, sq_4, rq_4, tq_4, 10, fq_4, rfl, rfl, iq_4, by decide, rfl, wq_62, yq_4, nq_4, rfl, yq_4 6 (by decide), rfl⟩
theorem kq_B_9 : qz_Fd "ExactCurves$Batch" 9 4 0 1 (.array .int, 16) true := ⟨4, sq_4, rq_4, tq_4, 10, fq_4, rfl, rfl, iq_4, by decide, rfl, wq_49, yq_4, nq_4, rfl, yq_4 0 (by decide), rfl⟩
theorem kq_B_38 : qz_Fd "ExactCurves$Batch" 38 4 7 1 (.int, 0) false := ⟨4, sq_4, rq_4, tq_4, 10, fq_4, rfl, rfl, iq_4, by decide, rfl, wq_63, yq_4, nq_4, rfl, yq_4 7 (by decide), rfl⟩
theorem kq_B_15 : qz_Fd "ExactCurves$Batch" 15 4 1 1 (.array .boolean, 17) true := ⟨4, sq_4, rq_4, tq_4, 10, fq_4, rfl, rfl, iq_4, by decide, rfl, wq_51, yq_4, nq_4, rfl, yq_4 1 (by decide), rfl⟩
theorem kq_B_19 : qz_Fd "ExactCurves$Batch" 19 4 2 1 (.array .long, 18) true := ⟨4, sq_4, rq_4, tq_4, 10, fq_4, rfl, rfl, iq_4, by decide, rfl, wq_53, yq_4, nq_4, rfl, yq_4 2 (by decide), rfl⟩
theorem kq_B_23 : qz_Fd "ExactCurves$Batch" 23 4 3 1 (.array .long, 19) true := ⟨4, sq_4, rq_4, tq_4, 10, fq_4, rfl, rfl, iq_4, by decide, rfl, wq_55, yq_4, nq_4, rfl, yq_4 3 (by decide), rfl⟩
theorem kq_B_61 : qz_Fd "ExactCurves$Batch" 61 4 9 1 (.long, 0) false := ⟨4, sq_4, rq_4, tq_4, 10, fq_4, rfl, rfl, iq_4, by decide, rfl, wq_67, yq_4, nq_4, rfl, yq_4 9 (by decide), rfl⟩
theorem kq_B_65 : qz_Fd "ExactCurves$Batch" 65 4 8 1 (.int, 0) false := ⟨4, sq_4, rq_4, tq_4, 10, fq_4, rfl, rfl, iq_4, by decide, rfl, wq_65, yq_4, nq_4, rfl, yq_4 8 (by decide), rfl⟩
theorem kq_B_26 : qz_Fd "ExactCurves$Batch" 26 4 4 1 (.array .long, 20) true := ⟨4, sq_4, rq_4, tq_4, 10, fq_4, rfl, rfl, iq_4, by decide, rfl, wq_57, yq_4, nq_4, rfl, yq_4 4 (by decide), rfl⟩
theorem kq_E_231 : qz_Fd "ExactCurves" 231 4 4 1 (.array .long, 20) true := ⟨4, sq_4, rq_4, tq_4, 10, fq_4, rfl, rfl, iq_4, by decide, rfl, wq_58, yq_4, nq_4, rfl, yq_4 4 (by decide), rfl⟩
theorem kq_E_333 : qz_Fd "ExactCurves" 333 4 2 1 (.array .long, 18) true := ⟨4, sq_4, rq_4, tq_4, 10, fq_4, rfl, rfl, iq_4, by decide, rfl, wq_54, yq_4, nq_4, rfl, yq_4 2 (by decide), rfl⟩
theorem kq_E_336 : qz_Fd "ExactCurves" 336 4 3 1 (.array .long, 19) true := ⟨4, sq_4, rq_4, tq_4, 10, fq_4, rfl, rfl, iq_4, by decide, rfl, wq_56, yq_4, nq_4, rfl, yq_4 3 (by decide), rfl⟩
theorem kq_E_339 : qz_Fd "ExactCurves" 339 4 0 1 (.array .int, 16) true := ⟨4, sq_4, rq_4, tq_4, 10, fq_4, rfl, rfl, iq_4, by decide, rfl, wq_50, yq_4, nq_4, rfl, yq_4 0 (by decide), rfl⟩
theorem kq_E_215 : qz_Fd "ExactCurves" 215 4 1 1 (.array .boolean, 17) true := ⟨4, sq_4, rq_4, tq_4, 10, fq_4, rfl, rfl, iq_4, by decide, rfl, wq_52, yq_4, nq_4, rfl, yq_4 1 (by decide), rfl⟩
theorem kq_E_228 : qz_Fd "ExactCurves" 228 4 8 1 (.int, 0) false := ⟨4, sq_4, rq_4, tq_4, 10, fq_4, rfl, rfl, iq_4, by decide, rfl, wq_66, yq_4, nq_4, rfl, yq_4 8 (by decide), rfl⟩
theorem kq_E_225 : qz_Fd "ExactCurves" 225 4 9 1 (.long, 0) false := ⟨4, sq_4, rq_4, tq_4, 10, fq_4, rfl, rfl, iq_4, by decide, rfl, wq_68, yq_4, nq_4, rfl, yq_4 9 (by decide), rfl⟩
theorem kq_E_234 : qz_Fd "ExactCurves" 234 5 3 4 (.long, 0) false := ⟨5, sq_5, rq_5, tq_5, 5, fq_5, rfl, rfl, iq_5, by decide, rfl, wq_173, yq_5, nq_5, rfl, yq_5 3 (by decide), rfl⟩
theorem kq_E_281 : qz_Fd "ExactCurves" 281 6 2 10 (.int, 0) false := ⟨6, sq_6, rq_6, tq_6, 6, fq_6, rfl, rfl, iq_6, by decide, rfl, wq_196, yq_6, nq_6, rfl, yq_6 2 (by decide), rfl⟩
theorem kq_E_282 : qz_Fd "ExactCurves" 282 6 3 10 (.int, 0) false := ⟨6, sq_6, rq_6, tq_6, 6, fq_6, rfl, rfl, iq_6, by decide, rfl, wq_198, yq_6, nq_6, rfl, yq_6 3 (by decide), rfl⟩
theorem kq_E_288 : qz_Fd "ExactCurves" 288 6 5 10 (.long, 0) false := ⟨6, sq_6, rq_6, tq_6, 6, fq_6, rfl, rfl, iq_6, by decide, rfl, wq_202, yq_6, nq_6, rfl, yq_6 5 (by decide), rfl⟩
theorem kq_E_245 : qz_Fd "ExactCurves" 245 5 1 4 (.long, 0) false := ⟨5, sq_5, rq_5, tq_5, 5, fq_5, rfl, rfl, iq_5, by decide, rfl, wq_169, yq_5, nq_5, rfl, yq_5 1 (by decide), rfl⟩
theorem kq_E_43 : qz_Fd "ExactCurves" 43 0 5 1 (.array (.object "ExactCurves$Loan"), 11) true := ⟨0, sq_0, rq_0, tq_0, 8, fq_0, rfl, rfl, iq_0, by decide, rfl, wq_221, yq_0, nq_0, rfl, yq_0 5 (by decide), rfl⟩
theorem kq_E_314 : qz_Fd "ExactCurves" 314 6 0 10 (.boolean, 0) false := ⟨6, sq_6, rq_6, tq_6, 6, fq_6, rfl, rfl, iq_6, by decide, rfl, wq_192, yq_6, nq_6, rfl, yq_6 0 (by decide), rfl⟩
theorem kq_V_9 : qz_Fd "ExactCurves$Vault" 9 5 0 4 (.array .long, 21) true := ⟨5, sq_5, rq_5, tq_5, 5, fq_5, rfl, rfl, iq_5, by decide, rfl, wq_166, yq_5, nq_5, rfl, yq_5 0 (by decide), rfl⟩
theorem kq_V_24 : qz_Fd "ExactCurves$Vault" 24 5 2 4 (.long, 0) false := ⟨5, sq_5, rq_5, tq_5, 5, fq_5, rfl, rfl, iq_5, by decide, rfl, wq_170, yq_5, nq_5, rfl, yq_5 2 (by decide), rfl⟩
theorem kq_E_237 : qz_Fd "ExactCurves" 237 5 2 4 (.long, 0) false := ⟨5, sq_5, rq_5, tq_5, 5, fq_5, rfl, rfl, iq_5, by decide, rfl, wq_171, yq_5, nq_5, rfl, yq_5 2 (by decide), rfl⟩
theorem kq_E_251 : qz_Fd "ExactCurves" 251 5 0 4 (.array .long, 21) true := ⟨5, sq_5, rq_5, tq_5, 5, fq_5, rfl, rfl, iq_5, by decide, rfl, wq_167, yq_5, nq_5, rfl, yq_5 0 (by decide), rfl⟩
theorem kq_V_21 : qz_Fd "ExactCurves$Vault" 21 5 1 4 (.long, 0) false := ⟨5, sq_5, rq_5, tq_5, 5, fq_5, rfl, rfl, iq_5, by decide, rfl, wq_168, yq_5, nq_5, rfl, yq_5 1 (by decide), rfl⟩
theorem kq_L_7 : qz_Fd "ExactCurves$Loan" 7 6 0 10 (.boolean, 0) false := ⟨6, sq_6, rq_6, tq_6, 6, fq_6, rfl, rfl, iq_6, by decide, rfl, wq_191, yq_6, nq_6, rfl, yq_6 0 (by decide), rfl⟩
theorem kq_L_13 : qz_Fd "ExactCurves$Loan" 13 6 1 10 (.int, 0) false := ⟨6, sq_6, rq_6, tq_6, 6, fq_6, rfl, rfl, iq_6, by decide, rfl, wq_193, yq_6, nq_6, rfl, yq_6 1 (by decide), rfl⟩
theorem kq_L_17 : qz_Fd "ExactCurves$Loan" 17 6 2 10 (.int, 0) false := ⟨6, sq_6, rq_6, tq_6, 6, fq_6, rfl, rfl, iq_6, by decide, rfl, wq_195, yq_6, nq_6, rfl, yq_6 2 (by decide), rfl⟩
theorem kq_L_20 : qz_Fd "ExactCurves$Loan" 20 6 3 10 (.int, 0) false := ⟨6, sq_6, rq_6, tq_6, 6, fq_6, rfl, rfl, iq_6, by decide, rfl, wq_197, yq_6, nq_6, rfl, yq_6 3 (by decide), rfl⟩
theorem kq_L_23 : qz_Fd "ExactCurves$Loan" 23 6 4 10 (.long, 0) false := ⟨6, sq_6, rq_6, tq_6, 6, fq_6, rfl, rfl, iq_6, by decide, rfl, wq_199, yq_6, nq_6, rfl, yq_6 4 (by decide), rfl⟩
theorem kq_L_27 : qz_Fd "ExactCurves$Loan" 27 6 5 10 (.long, 0) false := ⟨6, sq_6, rq_6, tq_6, 6, fq_6, rfl, rfl, iq_6, by decide, rfl, wq_201, yq_6, nq_6, rfl, yq_6 5 (by decide), rfl⟩
theorem kq_E_285 : qz_Fd "ExactCurves" 285 6 4 10 (.long, 0) false := ⟨6, sq_6, rq_6, tq_6, 6, fq_6, rfl, rfl, iq_6, by decide, rfl, wq_200, yq_6, nq_6, rfl, yq_6 4 (by decide), rfl⟩
theorem kq_E_278 : qz_Fd "ExactCurves" 278 6 1 10 (.int, 0) false := ⟨6, sq_6, rq_6, tq_6, 6, fq_6, rfl, rfl, iq_6, by decide, rfl, wq_194, yq_6, nq_6, rfl, yq_6 1 (by decide), rfl⟩
theorem kq_M_106 : qz_Fd "ExactCurvesModel" 106 7 37 1 (.array .long, 52) true := ⟨7, sq_7, rq_7, tq_7, 42, fq_7, rfl, rfl, iq_7, by decide, rfl, wq_641, yq_7, nq_7, rfl, yq_7 37 (by decide), rfl⟩
theorem kq_M_112 : qz_Fd "ExactCurvesModel" 112 7 39 1 (.array .long, 54) true := ⟨7, sq_7, rq_7, tq_7, 42, fq_7, rfl, rfl, iq_7, by decide, rfl, wq_643, yq_7, nq_7, rfl, yq_7 39 (by decide), rfl⟩
theorem kq_M_115 : qz_Fd "ExactCurvesModel" 115 7 40 1 (.array .long, 55) true := ⟨7, sq_7, rq_7, tq_7, 42, fq_7, rfl, rfl, iq_7, by decide, rfl, wq_644, yq_7, nq_7, rfl, yq_7 40 (by decide), rfl⟩
theorem kq_M_122 : qz_Fd "ExactCurvesModel" 122 7 41 1 (.long, 0) false := ⟨7, sq_7, rq_7, tq_7, 42, fq_7, rfl, rfl, iq_7, by decide, rfl, wq_645, yq_7, nq_7, rfl, yq_7 41 (by decide), rfl⟩
theorem kq_M_109 : qz_Fd "ExactCurvesModel" 109 7 38 1 (.array .long, 53) true := ⟨7, sq_7, rq_7, tq_7, 42, fq_7, rfl, rfl, iq_7, by decide, rfl, wq_642, yq_7, nq_7, rfl, yq_7 38 (by decide), rfl⟩
theorem kq_M_145 : qz_Fd "ExactCurvesModel" 145 7 3 1 (.int, 0) false := ⟨7, sq_7, rq_7, tq_7, 42, fq_7, rfl, rfl, iq_7, by decide, rfl, wq_607, yq_7, nq_7, rfl, yq_7 3 (by decide), rfl⟩
theorem kq_M_7 : qz_Fd "ExactCurvesModel" 7 7 0 1 (.array .long, 22) true := ⟨7, sq_7, rq_7, tq_7, 42, fq_7, rfl, rfl, iq_7, by decide, rfl, wq_604, yq_7, nq_7, rfl, yq_7 0 (by decide), rfl⟩
theorem kq_M_57 : qz_Fd "ExactCurvesModel" 57 7 19 1 (.array .boolean, 36) true := ⟨7, sq_7, rq_7, tq_7, 42, fq_7, rfl, rfl, iq_7, by decide, rfl, wq_623, yq_7, nq_7, rfl, yq_7 19 (by decide), rfl⟩
theorem kq_M_61 : qz_Fd "ExactCurvesModel" 61 7 20 1 (.array .long, 37) true := ⟨7, sq_7, rq_7, tq_7, 42, fq_7, rfl, rfl, iq_7, by decide, rfl, wq_624, yq_7, nq_7, rfl, yq_7 20 (by decide), rfl⟩
theorem kq_M_64 : qz_Fd "ExactCurvesModel" 64 7 21 1 (.array .long, 38) true := ⟨7, sq_7, rq_7, tq_7, 42, fq_7, rfl, rfl, iq_7, by decide, rfl, wq_625, yq_7, nq_7, rfl, yq_7 21 (by decide), rfl⟩
theorem kq_M_16 : qz_Fd "ExactCurvesModel" 16 7 4 1 (.array .int, 24) true := ⟨7, sq_7, rq_7, tq_7, 42, fq_7, rfl, rfl, iq_7, by decide, rfl, wq_608, yq_7, nq_7, rfl, yq_7 4 (by decide), rfl⟩
theorem kq_M_94 : qz_Fd "ExactCurvesModel" 94 7 33 1 (.array .int, 48) true := ⟨7, sq_7, rq_7, tq_7, 42, fq_7, rfl, rfl, iq_7, by decide, rfl, wq_637, yq_7, nq_7, rfl, yq_7 33 (by decide), rfl⟩
theorem kq_M_97 : qz_Fd "ExactCurvesModel" 97 7 34 1 (.array .int, 49) true := ⟨7, sq_7, rq_7, tq_7, 42, fq_7, rfl, rfl, iq_7, by decide, rfl, wq_638, yq_7, nq_7, rfl, yq_7 34 (by decide), rfl⟩
theorem kq_M_13 : qz_Fd "ExactCurvesModel" 13 7 1 1 (.array .long, 23) true := ⟨7, sq_7, rq_7, tq_7, 42, fq_7, rfl, rfl, iq_7, by decide, rfl, wq_605, yq_7, nq_7, rfl, yq_7 1 (by decide), rfl⟩
theorem kq_M_73 : qz_Fd "ExactCurvesModel" 73 7 26 1 (.array .long, 41) true := ⟨7, sq_7, rq_7, tq_7, 42, fq_7, rfl, rfl, iq_7, by decide, rfl, wq_630, yq_7, nq_7, rfl, yq_7 26 (by decide), rfl⟩
theorem kq_M_152 : qz_Fd "ExactCurvesModel" 152 7 17 1 (.int, 0) false := ⟨7, sq_7, rq_7, tq_7, 42, fq_7, rfl, rfl, iq_7, by decide, rfl, wq_621, yq_7, nq_7, rfl, yq_7 17 (by decide), rfl⟩
theorem kq_M_88 : qz_Fd "ExactCurvesModel" 88 7 31 1 (.array .boolean, 46) true := ⟨7, sq_7, rq_7, tq_7, 42, fq_7, rfl, rfl, iq_7, by decide, rfl, wq_635, yq_7, nq_7, rfl, yq_7 31 (by decide), rfl⟩
theorem kq_M_100 : qz_Fd "ExactCurvesModel" 100 7 35 1 (.array .long, 50) true := ⟨7, sq_7, rq_7, tq_7, 42, fq_7, rfl, rfl, iq_7, by decide, rfl, wq_639, yq_7, nq_7, rfl, yq_7 35 (by decide), rfl⟩
theorem kq_M_155 : qz_Fd "ExactCurvesModel" 155 7 15 1 (.int, 0) false := ⟨7, sq_7, rq_7, tq_7, 42, fq_7, rfl, rfl, iq_7, by decide, rfl, wq_619, yq_7, nq_7, rfl, yq_7 15 (by decide), rfl⟩
theorem kq_M_50 : qz_Fd "ExactCurvesModel" 50 7 16 1 (.int, 0) false := ⟨7, sq_7, rq_7, tq_7, 42, fq_7, rfl, rfl, iq_7, by decide, rfl, wq_620, yq_7, nq_7, rfl, yq_7 16 (by decide), rfl⟩
theorem kq_M_26 : qz_Fd "ExactCurvesModel" 26 7 7 1 (.array .long, 27) true := ⟨7, sq_7, rq_7, tq_7, 42, fq_7, rfl, rfl, iq_7, by decide, rfl, wq_611, yq_7, nq_7, rfl, yq_7 7 (by decide), rfl⟩
theorem kq_M_20 : qz_Fd "ExactCurvesModel" 20 7 5 1 (.array .int, 25) true := ⟨7, sq_7, rq_7, tq_7, 42, fq_7, rfl, rfl, iq_7, by decide, rfl, wq_609, yq_7, nq_7, rfl, yq_7 5 (by decide), rfl⟩
theorem kq_M_23 : qz_Fd "ExactCurvesModel" 23 7 6 1 (.array .int, 26) true := ⟨7, sq_7, rq_7, tq_7, 42, fq_7, rfl, rfl, iq_7, by decide, rfl, wq_610, yq_7, nq_7, rfl, yq_7 6 (by decide), rfl⟩
theorem kq_M_29 : qz_Fd "ExactCurvesModel" 29 7 8 1 (.array .long, 28) true := ⟨7, sq_7, rq_7, tq_7, 42, fq_7, rfl, rfl, iq_7, by decide, rfl, wq_612, yq_7, nq_7, rfl, yq_7 8 (by decide), rfl⟩
theorem kq_M_35 : qz_Fd "ExactCurvesModel" 35 7 10 1 (.array .long, 30) true := ⟨7, sq_7, rq_7, tq_7, 42, fq_7, rfl, rfl, iq_7, by decide, rfl, wq_614, yq_7, nq_7, rfl, yq_7 10 (by decide), rfl⟩
theorem kq_M_38 : qz_Fd "ExactCurvesModel" 38 7 11 1 (.array .long, 31) true := ⟨7, sq_7, rq_7, tq_7, 42, fq_7, rfl, rfl, iq_7, by decide, rfl, wq_615, yq_7, nq_7, rfl, yq_7 11 (by decide), rfl⟩
theorem kq_M_32 : qz_Fd "ExactCurvesModel" 32 7 9 1 (.array .long, 29) true := ⟨7, sq_7, rq_7, tq_7, 42, fq_7, rfl, rfl, iq_7, by decide, rfl, wq_613, yq_7, nq_7, rfl, yq_7 9 (by decide), rfl⟩
theorem kq_M_215 : qz_Fd "ExactCurvesModel" 215 7 2 1 (.int, 0) false := ⟨7, sq_7, rq_7, tq_7, 42, fq_7, rfl, rfl, iq_7, by decide, rfl, wq_606, yq_7, nq_7, rfl, yq_7 2 (by decide), rfl⟩
theorem kq_M_82 : qz_Fd "ExactCurvesModel" 82 7 29 1 (.array .long, 44) true := ⟨7, sq_7, rq_7, tq_7, 42, fq_7, rfl, rfl, iq_7, by decide, rfl, wq_633, yq_7, nq_7, rfl, yq_7 29 (by decide), rfl⟩
theorem kq_M_85 : qz_Fd "ExactCurvesModel" 85 7 30 1 (.array .long, 45) true := ⟨7, sq_7, rq_7, tq_7, 42, fq_7, rfl, rfl, iq_7, by decide, rfl, wq_634, yq_7, nq_7, rfl, yq_7 30 (by decide), rfl⟩
theorem kq_M_41 : qz_Fd "ExactCurvesModel" 41 7 12 1 (.array .int, 32) true := ⟨7, sq_7, rq_7, tq_7, 42, fq_7, rfl, rfl, iq_7, by decide, rfl, wq_616, yq_7, nq_7, rfl, yq_7 12 (by decide), rfl⟩
theorem kq_M_44 : qz_Fd "ExactCurvesModel" 44 7 13 1 (.array .long, 33) true := ⟨7, sq_7, rq_7, tq_7, 42, fq_7, rfl, rfl, iq_7, by decide, rfl, wq_617, yq_7, nq_7, rfl, yq_7 13 (by decide), rfl⟩
theorem kq_M_47 : qz_Fd "ExactCurvesModel" 47 7 14 1 (.array .long, 34) true := ⟨7, sq_7, rq_7, tq_7, 42, fq_7, rfl, rfl, iq_7, by decide, rfl, wq_618, yq_7, nq_7, rfl, yq_7 14 (by decide), rfl⟩
theorem kq_M_54 : qz_Fd "ExactCurvesModel" 54 7 18 1 (.array .int, 35) true := ⟨7, sq_7, rq_7, tq_7, 42, fq_7, rfl, rfl, iq_7, by decide, rfl, wq_622, yq_7, nq_7, rfl, yq_7 18 (by decide), rfl⟩
theorem kq_M_70 : qz_Fd "ExactCurvesModel" 70 7 25 1 (.array .boolean, 40) true := ⟨7, sq_7, rq_7, tq_7, 42, fq_7, rfl, rfl, iq_7, by decide, rfl, wq_629, yq_7, nq_7, rfl, yq_7 25 (by decide), rfl⟩
theorem kq_M_67 : qz_Fd "ExactCurvesModel" 67 7 24 1 (.array .long, 39) true := ⟨7, sq_7, rq_7, tq_7, 42, fq_7, rfl, rfl, iq_7, by decide, rfl, wq_628, yq_7, nq_7, rfl, yq_7 24 (by decide), rfl⟩
theorem kq_M_242 : qz_Fd "ExactCurvesModel" 242 7 23 1 (.int, 0) false := ⟨7, sq_7, rq_7, tq_7, 42, fq_7, rfl, rfl, iq_7, by decide, rfl, wq_627, yq_7, nq_7, rfl, yq_7 23 (by decide), rfl⟩
theorem kq_M_245 : qz_Fd "ExactCurvesModel" 245 7 22 1 (.long, 0) false := ⟨7, sq_7, rq_7, tq_7, 42, fq_7, rfl, rfl, iq_7, by decide, rfl, wq_626, yq_7, nq_7, rfl, yq_7 22 (by decide), rfl⟩
theorem kq_M_103 : qz_Fd "ExactCurvesModel" 103 7 36 1 (.array .long, 51) true := ⟨7, sq_7, rq_7, tq_7, 42, fq_7, rfl, rfl, iq_7, by decide, rfl, wq_640, yq_7, nq_7, rfl, yq_7 36 (by decide), rfl⟩
theorem kq_M_76 : qz_Fd "ExactCurvesModel" 76 7 27 1 (.array .long, 42) true := ⟨7, sq_7, rq_7, tq_7, 42, fq_7, rfl, rfl, iq_7, by decide, rfl, wq_631, yq_7, nq_7, rfl, yq_7 27 (by decide), rfl⟩
theorem kq_M_79 : qz_Fd "ExactCurvesModel" 79 7 28 1 (.array .long, 43) true := ⟨7, sq_7, rq_7, tq_7, 42, fq_7, rfl, rfl, iq_7, by decide, rfl, wq_632, yq_7, nq_7, rfl, yq_7 28 (by decide), rfl⟩
theorem kq_M_91 : qz_Fd "ExactCurvesModel" 91 7 32 1 (.array .int, 47) true := ⟨7, sq_7, rq_7, tq_7, 42, fq_7, rfl, rfl, iq_7, by decide, rfl, wq_636, yq_7, nq_7, rfl, yq_7 32 (by decide), rfl⟩
theorem kq_U_15 : qz_Fd "ExactCurves$Purses" 15 1 1 1 (.array .long, 13) true := ⟨1, sq_1, rq_1, tq_1, 3, fq_1, rfl, rfl, iq_1, by decide, rfl, wq_27, yq_1, nq_1, rfl, yq_1 1 (by decide), rfl⟩
theorem kq_U_18 : qz_Fd "ExactCurves$Purses" 18 1 2 1 (.array .long, 14) true := ⟨1, sq_1, rq_1, tq_1, 3, fq_1, rfl, rfl, iq_1, by decide, rfl, wq_29, yq_1, nq_1, rfl, yq_1 2 (by decide), rfl⟩
theorem kq_B_29 : qz_Fd "ExactCurves$Batch" 29 4 5 1 (.int, 0) false := ⟨4, sq_4, rq_4, tq_4, 10, fq_4, rfl, rfl, iq_4, by decide, rfl, wq_59, yq_4, nq_4, rfl, yq_4 5 (by decide), rfl⟩
theorem kq_B_33 : qz_Fd "ExactCurves$Batch" 33 4 6 1 (.int, 0) false := ⟨4, sq_4, rq_4, tq_4, 10, fq_4, rfl, rfl, iq_4, by decide, rfl, wq_61, yq_4, nq_4, rfl, yq_4 6 (by decide), rfl⟩
theorem cq_E_51 : qz_Cs "ExactCurves" 51 yE_isPlayer prog_1_method_29_code 1 (some .boolean) 1 := ⟨⟨wq_247, wq_245, wq_1, by decide +kernel⟩, wq_246⟩
theorem cq_E_55 : qz_Cs "ExactCurves" 55 yE_isToken prog_1_method_30_code 1 (some .boolean) 1 := ⟨⟨wq_250, wq_248, wq_1, by decide +kernel⟩, wq_249⟩
theorem cq_E_68 : qz_Cv "ExactCurves" 68 yU_give prog_7_method_3_code 5 none 3 1 1 := ⟨⟨wq_257, wq_254, wq_2, by decide +kernel⟩, wq_255, wq_256, 1, sq_1, tq_1, 3, rfl, rfl⟩
theorem cq_E_72 : qz_Cv "ExactCurves" 72 yU_held prog_7_method_2_code 3 (some .long) 2 1 1 := ⟨⟨wq_261, wq_258, wq_2, by decide +kernel⟩, wq_259, wq_260, 1, sq_1, tq_1, 3, rfl, rfl⟩
theorem cq_E_95 : qz_Cv "ExactCurves" 95 yE_poolAt prog_1_method_32_code 2 (some (.object "ExactCurves$Pool")) 1 0 1 := ⟨⟨wq_285, wq_282, wq_1, by decide +kernel⟩, wq_284, wp_0, 0, sq_0, tq_0, 8, rfl, rfl⟩
theorem cq_E_99 : qz_Cv "ExactCurves" 99 yP_told prog_6_method_6_code 2 (some .long) 1 2 6 := ⟨⟨wq_289, wq_286, wq_4, by decide +kernel⟩, wq_287, wq_288, 2, sq_2, tq_2, 10, rfl, rfl⟩
theorem cq_A_15 : qz_Cs "ExactCurves$Exact" 15 yA_highOf prog_3_method_2_code 16 (some .long) 2 := ⟨⟨wq_308, wq_306, wq_9, by decide +kernel⟩, wq_307⟩
theorem cq_A_26 : qz_Cs "ExactCurves$Exact" 26 yJl_compare prog_11_method_42_code 4 (some .int) 2 := ⟨⟨wq_312, wq_310, wq_10, by decide +kernel⟩, wq_311⟩
theorem cq_A_34 : qz_Cs "ExactCurves$Exact" 34 yA_compareProducts prog_3_method_6_code 9 (some .int) 4 := ⟨⟨wq_305, wq_303, wq_9, by decide +kernel⟩, wq_304⟩
theorem cq_A_19 : qz_Cs "ExactCurves$Exact" 19 yA_over prog_3_method_3_code 11 (some .long) 3 := ⟨⟨wq_324, wq_322, wq_9, by decide +kernel⟩, wq_323⟩
theorem cq_P_64 : qz_Cs "ExactCurves$Pool" 64 yA_timesOver prog_3_method_4_code 6 (some .long) 3 := ⟨⟨wq_321, wq_319, wq_9, by decide +kernel⟩, wq_320⟩
theorem cq_P_52 : qz_Cv "ExactCurves$Pool" 52 yP_sharesBy prog_6_method_8_code 5 (some .long) 2 2 6 := ⟨⟨wq_317, wq_314, wq_4, by decide +kernel⟩, wq_316, wp_1, 2, sq_2, tq_2, 10, rfl, rfl⟩
theorem cq_P_46 : qz_Cs "ExactCurves$Pool" 46 yA_rootOfProduct prog_3_method_7_code 8 (some .long) 2 := ⟨⟨wq_301, wq_299, wq_9, by decide +kernel⟩, wq_300⟩
theorem cq_A_23 : qz_Cs "ExactCurves$Exact" 23 yA_timesOver prog_3_method_4_code 6 (some .long) 3 := ⟨⟨wq_321, wq_340, wq_9, by decide +kernel⟩, wq_320⟩
theorem cq_P_68 : qz_Cv "ExactCurves$Pool" 68 yP_reserveAt prog_6_method_3_code 2 (some .long) 1 2 6 := ⟨⟨wq_336, wq_333, wq_4, by decide +kernel⟩, wq_334, wq_335, 2, sq_2, tq_2, 10, rfl, rfl⟩
theorem cq_P_72 : qz_Cs "ExactCurves$Pool" 72 yA_timesOverUp prog_3_method_5_code 9 (some .long) 3 := ⟨⟨wq_339, wq_337, wq_9, by decide +kernel⟩, wq_338⟩
theorem cq_E_135 : qz_Cv "ExactCurves" 135 yP_tokenAt prog_6_method_2_code 2 (some .int) 1 2 6 := ⟨⟨wq_348, wq_345, wq_4, by decide +kernel⟩, wq_346, wq_347, 2, sq_2, tq_2, 10, rfl, rfl⟩
theorem cq_E_200 : qz_Cv "ExactCurves" 200 yU_take prog_7_method_4_code 5 none 3 1 1 := ⟨⟨wq_352, wq_349, wq_2, by decide +kernel⟩, wq_350, wq_351, 1, sq_1, tq_1, 3, rfl, rfl⟩
theorem cq_E_330 : qz_Cv "ExactCurves" 330 yP_addReserve prog_6_method_4_code 4 none 2 2 6 := ⟨⟨wq_356, wq_353, wq_4, by decide +kernel⟩, wq_354, wq_355, 2, sq_2, tq_2, 10, rfl, rfl⟩
theorem cq_E_103 : qz_Cv "ExactCurves" 103 yP_sharesFor prog_6_method_7_code 5 (some .long) 2 2 6 := ⟨⟨wq_298, wq_295, wq_4, by decide +kernel⟩, wq_296, wq_297, 2, sq_2, tq_2, 10, rfl, rfl⟩
theorem cq_E_111 : qz_Cv "ExactCurves" 111 yP_costOf prog_6_method_9_code 4 (some .long) 2 2 6 := ⟨⟨wq_332, wq_329, wq_4, by decide +kernel⟩, wq_330, wq_331, 2, sq_2, tq_2, 10, rfl, rfl⟩
theorem cq_E_115 : qz_Cv "ExactCurves" 115 yE_bringIn prog_1_method_33_code 6 none 4 0 1 := ⟨⟨wq_344, wq_341, wq_1, by decide +kernel⟩, wq_343, wp_2, 0, sq_0, tq_0, 8, rfl, rfl⟩
theorem cq_E_119 : qz_Cv "ExactCurves" 119 yP_addShares prog_6_method_5_code 4 none 2 2 6 := ⟨⟨wq_360, wq_357, wq_4, by decide +kernel⟩, wq_358, wq_359, 2, sq_2, tq_2, 10, rfl, rfl⟩
theorem cq_E_126 : qz_Cv "ExactCurves" 126 yP_payOf prog_6_method_10_code 4 (some .long) 2 2 6 := ⟨⟨wq_368, wq_365, wq_4, by decide +kernel⟩, wq_366, wq_367, 2, sq_2, tq_2, 10, rfl, rfl⟩
theorem cq_E_129 : qz_Cv "ExactCurves" 129 yE_takeOut prog_1_method_34_code 6 none 4 0 1 := ⟨⟨wq_372, wq_369, wq_1, by decide +kernel⟩, wq_371, wp_3, 0, sq_0, tq_0, 8, rfl, rfl⟩
theorem cq_E_132 : qz_Cs "ExactCurves" 132 yE_isSide prog_1_method_31_code 1 (some .boolean) 1 := ⟨⟨wq_379, wq_377, wq_1, by decide +kernel⟩, wq_378⟩
theorem cq_E_139 : qz_Cv "ExactCurves" 139 yP_outputOf prog_6_method_11_code 12 (some .long) 2 2 6 := ⟨⟨wq_383, wq_380, wq_4, by decide +kernel⟩, wq_381, wq_382, 2, sq_2, tq_2, 10, rfl, rfl⟩
theorem cq_P_77 : qz_Cs "ExactCurves$Pool" 77 yA_compareProducts prog_3_method_6_code 9 (some .int) 4 := ⟨⟨wq_305, wq_397, wq_9, by decide +kernel⟩, wq_304⟩
theorem cq_E_149 : qz_Cv "ExactCurves" 149 yP_mayBecome prog_6_method_12_code 13 (some .boolean) 4 2 6 := ⟨⟨wq_396, wq_393, wq_4, by decide +kernel⟩, wq_394, wq_395, 2, sq_2, tq_2, 10, rfl, rfl⟩
theorem cq_E_157 : qz_Cv "ExactCurves" 157 yV_grow prog_8_method_4_code 3 none 1 5 4 := ⟨⟨wq_410, wq_407, wq_6, by decide +kernel⟩, wq_408, wq_409, 5, sq_5, tq_5, 5, rfl, rfl⟩
theorem cq_E_153 : qz_Cv "ExactCurves" 153 yP_grow prog_6_method_13_code 2 none 1 2 6 := ⟨⟨wq_405, wq_402, wq_4, by decide +kernel⟩, wq_403, wq_404, 2, sq_2, tq_2, 10, rfl, rfl⟩
theorem cq_E_178 : qz_Cs "ExactCurves" 178 yA_over prog_3_method_3_code 11 (some .long) 3 := ⟨⟨wq_324, wq_422, wq_9, by decide +kernel⟩, wq_323⟩
theorem cq_E_203 : qz_Cv "ExactCurves" 203 yB_put prog_2_method_3_code 7 (some .int) 4 4 1 := ⟨⟨wq_440, wq_437, wq_3, by decide +kernel⟩, wq_438, wq_439, 4, sq_4, tq_4, 10, rfl, rfl⟩
theorem cq_E_197 : qz_Cs "ExactCurves" 197 yB_priceUp prog_2_method_2_code 4 (some .long) 2 := ⟨⟨wq_435, wq_433, wq_3, by decide +kernel⟩, wq_434⟩
theorem cq_B_41 : qz_Cv "ExactCurves$Batch" 41 yB_boughtAt prog_2_method_4_code 6 (some .long) 1 4 1 := ⟨⟨wq_452, wq_449, wq_3, by decide +kernel⟩, wq_450, wq_451, 4, sq_4, tq_4, 10, rfl, rfl⟩
theorem cq_B_45 : qz_Cv "ExactCurves$Batch" 45 yB_soldAt prog_2_method_5_code 6 (some .long) 1 4 1 := ⟨⟨wq_456, wq_453, wq_3, by decide +kernel⟩, wq_454, wq_455, 4, sq_4, tq_4, 10, rfl, rfl⟩
theorem cq_B_68 : qz_Cv "ExactCurves$Batch" 68 yB_isBefore prog_2_method_9_code 3 (some .boolean) 2 4 1 := ⟨⟨wq_472, wq_469, wq_3, by decide +kernel⟩, wq_471, wp_4, 4, sq_4, tq_4, 10, rfl, rfl⟩
theorem cq_B_57 : qz_Cv "ExactCurves$Batch" 57 yB_beforeOrder prog_2_method_8_code 5 (some .long) 1 4 1 := ⟨⟨wq_468, wq_465, wq_3, by decide +kernel⟩, wq_466, wq_467, 4, sq_4, tq_4, 10, rfl, rfl⟩
theorem cq_E_207 : qz_Cv "ExactCurves" 207 yB_bestPrice prog_2_method_6_code 19 (some .long) 0 4 1 := ⟨⟨wq_448, wq_445, wq_3, by decide +kernel⟩, wq_446, wq_447, 4, sq_4, tq_4, 10, rfl, rfl⟩
theorem cq_E_211 : qz_Cv "ExactCurves" 211 yB_dealAt prog_2_method_7_code 6 none 1 4 1 := ⟨⟨wq_464, wq_461, wq_3, by decide +kernel⟩, wq_462, wq_463, 4, sq_4, tq_4, 10, rfl, rfl⟩
theorem cq_E_222 : qz_Cv "ExactCurves" 222 yE_settleSeller prog_1_method_36_code 8 none 2 0 1 := ⟨⟨wq_480, wq_477, wq_1, by decide +kernel⟩, wq_479, wp_6, 0, sq_0, tq_0, 8, rfl, rfl⟩
theorem cq_E_219 : qz_Cv "ExactCurves" 219 yE_settleBuyer prog_1_method_35_code 10 none 2 0 1 := ⟨⟨wq_476, wq_473, wq_1, by decide +kernel⟩, wq_475, wp_5, 0, sq_0, tq_0, 8, rfl, rfl⟩
theorem cq_V_40 : qz_Cs "ExactCurves$Vault" 40 yA_timesOverUp prog_3_method_5_code 9 (some .long) 3 := ⟨⟨wq_339, wq_510, wq_9, by decide +kernel⟩, wq_338⟩
theorem cq_E_307 : qz_Cv "ExactCurves" 307 yE_debtToken prog_1_method_42_code 2 (some .int) 1 0 1 := ⟨⟨wq_501, wq_498, wq_1, by decide +kernel⟩, wq_500, wp_8, 0, sq_0, tq_0, 8, rfl, rfl⟩
theorem cq_E_345 : qz_Cv "ExactCurves" 345 yV_debtOf prog_8_method_5_code 3 (some .long) 1 5 4 := ⟨⟨wq_509, wq_506, wq_6, by decide +kernel⟩, wq_507, wq_508, 5, sq_5, tq_5, 5, rfl, rfl⟩
theorem cq_E_291 : qz_Cv "ExactCurves" 291 yE_debtOf prog_1_method_43_code 2 (some .long) 1 0 1 := ⟨⟨wq_505, wq_502, wq_1, by decide +kernel⟩, wq_504, wp_9, 0, sq_0, tq_0, 8, rfl, rfl⟩
theorem cq_E_239 : qz_Cv "ExactCurves" 239 yE_worthOf prog_1_method_37_code 5 (some .long) 1 0 1 := ⟨⟨wq_497, wq_494, wq_1, by decide +kernel⟩, wq_496, wp_7, 0, sq_0, tq_0, 8, rfl, rfl⟩
theorem cq_E_242 : qz_Cs "ExactCurves" 242 yA_timesOver prog_3_method_4_code 6 (some .long) 3 := ⟨⟨wq_321, wq_511, wq_9, by decide +kernel⟩, wq_320⟩
theorem cq_E_248 : qz_Cv "ExactCurves" 248 yV_addParts prog_8_method_3_code 4 none 2 5 4 := ⟨⟨wq_515, wq_512, wq_6, by decide +kernel⟩, wq_513, wq_514, 5, sq_5, tq_5, 5, rfl, rfl⟩
theorem cq_E_254 : qz_Cv "ExactCurves" 254 yV_told prog_8_method_2_code 2 (some .long) 1 5 4 := ⟨⟨wq_527, wq_524, wq_6, by decide +kernel⟩, wq_525, wq_526, 5, sq_5, tq_5, 5, rfl, rfl⟩
theorem cq_E_255 : qz_Cv "ExactCurves" 255 yE_freeLoan prog_1_method_39_code 2 (some .int) 0 0 1 := ⟨⟨wq_536, wq_533, wq_1, by decide +kernel⟩, wq_535, wp_10, 0, sq_0, tq_0, 8, rfl, rfl⟩
theorem cq_E_263 : qz_Cv "ExactCurves" 263 yP_valueOf prog_6_method_14_code 6 (some .long) 2 2 6 := ⟨⟨wq_542, wq_539, wq_4, by decide +kernel⟩, wq_540, wq_541, 2, sq_2, tq_2, 10, rfl, rfl⟩
theorem cq_E_266 : qz_Cv "ExactCurves" 266 yV_unitsOf prog_8_method_6_code 3 (some .long) 1 5 4 := ⟨⟨wq_547, wq_544, wq_6, by decide +kernel⟩, wq_545, wq_546, 5, sq_5, tq_5, 5, rfl, rfl⟩
theorem cq_E_270 : qz_Cv "ExactCurves" 270 yL_begin prog_4_method_2_code 8 none 5 6 10 := ⟨⟨wq_551, wq_548, wq_7, by decide +kernel⟩, wq_549, wq_550, 6, sq_6, tq_6, 6, rfl, rfl⟩
theorem cq_E_295 : qz_Cv "ExactCurves" 295 yE_coverValue prog_1_method_44_code 2 (some .long) 1 0 1 := ⟨⟨wq_563, wq_560, wq_1, by decide +kernel⟩, wq_562, wp_12, 0, sq_0, tq_0, 8, rfl, rfl⟩
theorem cq_E_274 : qz_Cv "ExactCurves" 274 yE_loanAt prog_1_method_38_code 2 (some (.object "ExactCurves$Loan")) 1 0 1 := ⟨⟨wq_559, wq_556, wq_1, by decide +kernel⟩, wq_558, wp_11, 0, sq_0, tq_0, 8, rfl, rfl⟩
theorem cq_E_298 : qz_Cv "ExactCurves" 298 yE_isUncovered prog_1_method_45_code 2 (some .boolean) 1 0 1 := ⟨⟨wq_567, wq_564, wq_1, by decide +kernel⟩, wq_566, wp_13, 0, sq_0, tq_0, 8, rfl, rfl⟩
theorem cq_E_311 : qz_Cv "ExactCurves" 311 yE_coverToken prog_1_method_41_code 2 (some .int) 1 0 1 := ⟨⟨wq_577, wq_574, wq_1, by decide +kernel⟩, wq_576, wp_14, 0, sq_0, tq_0, 8, rfl, rfl⟩
theorem cq_E_321 : qz_Cs "ExactCurves" 321 yA_timesOverUp prog_3_method_5_code 9 (some .long) 3 := ⟨⟨wq_339, wq_584, wq_9, by decide +kernel⟩, wq_338⟩
theorem cq_E_324 : qz_Cv "ExactCurves" 324 yP_leastOfValue prog_6_method_15_code 8 (some .long) 2 2 6 := ⟨⟨wq_588, wq_585, wq_4, by decide +kernel⟩, wq_586, wq_587, 2, sq_2, tq_2, 10, rfl, rfl⟩
theorem cq_E_327 : qz_Cv "ExactCurves" 327 yE_openLoans prog_1_method_40_code 3 (some .int) 0 0 1 := ⟨⟨wq_596, wq_593, wq_1, by decide +kernel⟩, wq_595, wp_15, 0, sq_0, tq_0, 8, rfl, rfl⟩
theorem cq_M_130 : qz_Cv "ExactCurvesModel" 130 yM_begin prog_10_method_2_code 4 none 1 7 1 := ⟨⟨wq_803, wq_800, wq_8, by decide +kernel⟩, wq_802, wp_23, 7, sq_7, tq_7, 42, rfl, rfl⟩
theorem cq_M_134 : qz_Cv "ExactCurvesModel" 134 yM_times prog_10_method_3_code 9 none 1 7 1 := ⟨⟨wq_808, wq_805, wq_8, by decide +kernel⟩, wq_807, wp_24, 7, sq_7, tq_7, 42, rfl, rfl⟩
theorem cq_M_137 : qz_Cv "ExactCurvesModel" 137 yM_over prog_10_method_4_code 7 (some .long) 1 7 1 := ⟨⟨wq_824, wq_821, wq_8, by decide +kernel⟩, wq_823, wp_28, 7, sq_7, tq_7, 42, rfl, rfl⟩
theorem cq_M_141 : qz_Cv "ExactCurvesModel" 141 yM_part prog_10_method_5_code 7 (some .long) 3 7 1 := ⟨⟨wq_820, wq_817, wq_8, by decide +kernel⟩, wq_819, wp_27, 7, sq_7, tq_7, 42, rfl, rfl⟩
theorem cq_M_227 : qz_Cs "ExactCurvesModel" 227 yM_up prog_10_method_35_code 4 (some .long) 2 := ⟨⟨wq_758, wq_756, wq_8, by decide +kernel⟩, wq_757⟩
theorem cq_M_162 : qz_Cv "ExactCurvesModel" 162 yM_coverToken prog_10_method_44_code 2 (some .int) 1 7 1 := ⟨⟨wq_762, wq_759, wq_8, by decide +kernel⟩, wq_761, wp_19, 7, sq_7, tq_7, 42, rfl, rfl⟩
theorem cq_M_158 : qz_Cv "ExactCurvesModel" 158 yM_heldBy prog_10_method_36_code 2 (some .long) 1 7 1 := ⟨⟨wq_754, wq_751, wq_8, by decide +kernel⟩, wq_753, wp_18, 7, sq_7, tq_7, 42, rfl, rfl⟩
theorem cq_M_148 : qz_Cv "ExactCurvesModel" 148 yM_has prog_10_method_14_code 3 (some .long) 2 7 1 := ⟨⟨wq_750, wq_747, wq_8, by decide +kernel⟩, wq_749, wp_17, 7, sq_7, tq_7, 42, rfl, rfl⟩
theorem cq_M_166 : qz_Cs "ExactCurvesModel" 166 yM_isPlayer prog_10_method_10_code 1 (some .boolean) 1 := ⟨⟨wq_737, wq_735, wq_8, by decide +kernel⟩, wq_736⟩
theorem cq_M_170 : qz_Cs "ExactCurvesModel" 170 yM_isToken prog_10_method_11_code 1 (some .boolean) 1 := ⟨⟨wq_740, wq_738, wq_8, by decide +kernel⟩, wq_739⟩
theorem cq_M_177 : qz_Cv "ExactCurvesModel" 177 yM_allOf prog_10_method_16_code 6 (some .long) 1 7 1 := ⟨⟨wq_746, wq_743, wq_8, by decide +kernel⟩, wq_745, wp_16, 7, sq_7, tq_7, 42, rfl, rfl⟩
theorem cq_M_182 : qz_Cv "ExactCurvesModel" 182 yM_give prog_10_method_15_code 5 none 3 7 1 := ⟨⟨wq_767, wq_764, wq_8, by decide +kernel⟩, wq_766, wp_20, 7, sq_7, tq_7, 42, rfl, rfl⟩
theorem cq_M_186 : qz_Cv "ExactCurvesModel" 186 yM_isPool prog_10_method_12_code 2 (some .boolean) 1 7 1 := ⟨⟨wq_791, wq_788, wq_8, by decide +kernel⟩, wq_790, wp_21, 7, sq_7, tq_7, 42, rfl, rfl⟩
theorem cq_M_189 : qz_Cv "ExactCurvesModel" 189 yM_keepBig prog_10_method_7_code 2 none 0 7 1 := ⟨⟨wq_812, wq_809, wq_8, by decide +kernel⟩, wq_811, wp_25, 7, sq_7, tq_7, 42, rfl, rfl⟩
theorem cq_M_192 : qz_Cv "ExactCurvesModel" 192 yM_keptIsLess prog_10_method_8_code 2 (some .boolean) 0 7 1 := ⟨⟨wq_816, wq_813, wq_8, by decide +kernel⟩, wq_815, wp_26, 7, sq_7, tq_7, 42, rfl, rfl⟩
theorem cq_M_200 : qz_Cs "ExactCurvesModel" 200 yM_least prog_10_method_9_code 4 (some .long) 2 := ⟨⟨wq_829, wq_827, wq_8, by decide +kernel⟩, wq_828⟩
theorem cq_M_203 : qz_Cv "ExactCurvesModel" 203 yM_partUp prog_10_method_6_code 9 (some .long) 3 7 1 := ⟨⟨wq_833, wq_830, wq_8, by decide +kernel⟩, wq_832, wp_29, 7, sq_7, tq_7, 42, rfl, rfl⟩
theorem cq_M_196 : qz_Cv "ExactCurvesModel" 196 yM_root prog_10_method_23_code 10 (some .long) 2 7 1 := ⟨⟨wq_799, wq_796, wq_8, by decide +kernel⟩, wq_798, wp_22, 7, sq_7, tq_7, 42, rfl, rfl⟩
theorem cq_M_208 : qz_Cs "ExactCurvesModel" 208 yM_isSide prog_10_method_13_code 1 (some .boolean) 1 := ⟨⟨wq_844, wq_842, wq_8, by decide +kernel⟩, wq_843⟩
theorem cq_M_211 : qz_Cv "ExactCurvesModel" 211 yM_outOf prog_10_method_26_code 13 (some .long) 3 7 1 := ⟨⟨wq_848, wq_845, wq_8, by decide +kernel⟩, wq_847, wp_30, 7, sq_7, tq_7, 42, rfl, rfl⟩
theorem cq_M_222 : qz_Cv "ExactCurvesModel" 222 yM_tickOnce prog_10_method_30_code 2 none 0 7 1 := ⟨⟨wq_865, wq_862, wq_8, by decide +kernel⟩, wq_864, wp_31, 7, sq_7, tq_7, 42, rfl, rfl⟩
theorem cq_M_234 : qz_Cv "ExactCurvesModel" 234 yM_allAt prog_10_method_38_code 8 (some .long) 2 7 1 := ⟨⟨wq_897, wq_894, wq_8, by decide +kernel⟩, wq_896, wp_33, 7, sq_7, tq_7, 42, rfl, rfl⟩
theorem cq_M_238 : qz_Cv "ExactCurvesModel" 238 yM_bestPrice prog_10_method_39_code 19 (some .long) 0 7 1 := ⟨⟨wq_893, wq_890, wq_8, by decide +kernel⟩, wq_892, wp_32, 7, sq_7, tq_7, 42, rfl, rfl⟩
theorem cq_M_248 : qz_Cv "ExactCurvesModel" 248 yM_deal prog_10_method_40_code 12 none 3 7 1 := ⟨⟨wq_901, wq_898, wq_8, by decide +kernel⟩, wq_900, wp_34, 7, sq_7, tq_7, 42, rfl, rfl⟩
theorem cq_M_252 : qz_Cv "ExactCurvesModel" 252 yM_debtToken prog_10_method_45_code 2 (some .int) 1 7 1 := ⟨⟨wq_921, wq_918, wq_8, by decide +kernel⟩, wq_920, wp_36, 7, sq_7, tq_7, 42, rfl, rfl⟩
theorem cq_M_255 : qz_Cv "ExactCurvesModel" 255 yM_debtOf prog_10_method_46_code 2 (some .long) 1 7 1 := ⟨⟨wq_925, wq_922, wq_8, by decide +kernel⟩, wq_924, wp_37, 7, sq_7, tq_7, 42, rfl, rfl⟩
theorem cq_M_258 : qz_Cv "ExactCurvesModel" 258 yM_worthOf prog_10_method_47_code 5 (some .long) 1 7 1 := ⟨⟨wq_917, wq_914, wq_8, by decide +kernel⟩, wq_916, wp_35, 7, sq_7, tq_7, 42, rfl, rfl⟩
theorem cq_M_263 : qz_Cv "ExactCurvesModel" 263 yM_valueOf prog_10_method_51_code 7 (some .long) 3 7 1 := ⟨⟨wq_943, wq_940, wq_8, by decide +kernel⟩, wq_942, wp_38, 7, sq_7, tq_7, 42, rfl, rfl⟩
theorem cq_M_270 : qz_Cv "ExactCurvesModel" 270 yM_coverValue prog_10_method_53_code 2 (some .long) 1 7 1 := ⟨⟨wq_960, wq_957, wq_8, by decide +kernel⟩, wq_959, wp_41, 7, sq_7, tq_7, 42, rfl, rfl⟩
theorem cq_M_273 : qz_Cv "ExactCurvesModel" 273 yM_isAbove prog_10_method_52_code 9 (some .boolean) 4 7 1 := ⟨⟨wq_948, wq_945, wq_8, by decide +kernel⟩, wq_947, wp_39, 7, sq_7, tq_7, 42, rfl, rfl⟩
theorem cq_M_279 : qz_Cv "ExactCurvesModel" 279 yM_isOpen prog_10_method_56_code 2 (some .boolean) 1 7 1 := ⟨⟨wq_956, wq_953, wq_8, by decide +kernel⟩, wq_955, wp_40, 7, sq_7, tq_7, 42, rfl, rfl⟩
theorem cq_M_282 : qz_Cv "ExactCurvesModel" 282 yM_isUncovered prog_10_method_54_code 2 (some .boolean) 1 7 1 := ⟨⟨wq_964, wq_961, wq_8, by decide +kernel⟩, wq_963, wp_42, 7, sq_7, tq_7, 42, rfl, rfl⟩
theorem cq_M_287 : qz_Cv "ExactCurvesModel" 287 yM_isAlike prog_10_method_60_code 3 (some .boolean) 0 7 1 := ⟨⟨wq_978, wq_975, wq_8, by decide +kernel⟩, wq_977, wp_43, 7, sq_7, tq_7, 42, rfl, rfl⟩
theorem cq_W_15 : qz_Cv "ExactCurvesLaw" 15 yE_mint prog_1_method_2_code 5 (some .long) 3 0 1 := ⟨⟨wq_244, wq_241, wq_1, by decide +kernel⟩, wq_242, wq_243, 0, sq_0, tq_0, 8, rfl, rfl⟩
theorem cq_W_19 : qz_Cv "ExactCurvesLaw" 19 yM_mint prog_10_method_17_code 5 (some .long) 3 7 1 := ⟨⟨wq_734, wq_731, wq_8, by decide +kernel⟩, wq_732, wq_733, 7, sq_7, tq_7, 42, rfl, rfl⟩
theorem cq_W_20 : qz_Cv "ExactCurvesLaw" 20 yE_balance prog_1_method_3_code 3 (some .long) 2 0 1 := ⟨⟨wq_265, wq_262, wq_1, by decide +kernel⟩, wq_263, wq_264, 0, sq_0, tq_0, 8, rfl, rfl⟩
theorem cq_W_24 : qz_Cv "ExactCurvesLaw" 24 yM_balance prog_10_method_18_code 3 (some .long) 2 7 1 := ⟨⟨wq_771, wq_768, wq_8, by decide +kernel⟩, wq_769, wq_770, 7, sq_7, tq_7, 42, rfl, rfl⟩
theorem cq_W_25 : qz_Cv "ExactCurvesLaw" 25 yE_total prog_1_method_4_code 2 (some .long) 1 0 1 := ⟨⟨wq_269, wq_266, wq_1, by decide +kernel⟩, wq_267, wq_268, 0, sq_0, tq_0, 8, rfl, rfl⟩
theorem cq_W_29 : qz_Cv "ExactCurvesLaw" 29 yM_total prog_10_method_19_code 2 (some .long) 1 7 1 := ⟨⟨wq_775, wq_772, wq_8, by decide +kernel⟩, wq_773, wq_774, 7, sq_7, tq_7, 42, rfl, rfl⟩
theorem cq_W_30 : qz_Cv "ExactCurvesLaw" 30 yE_house prog_1_method_5_code 2 (some .long) 1 0 1 := ⟨⟨wq_273, wq_270, wq_1, by decide +kernel⟩, wq_271, wq_272, 0, sq_0, tq_0, 8, rfl, rfl⟩
theorem cq_W_33 : qz_Cv "ExactCurvesLaw" 33 yM_house prog_10_method_20_code 2 (some .long) 1 7 1 := ⟨⟨wq_779, wq_776, wq_8, by decide +kernel⟩, wq_777, wq_778, 7, sq_7, tq_7, 42, rfl, rfl⟩
theorem cq_W_34 : qz_Cv "ExactCurvesLaw" 34 yE_pool prog_1_method_6_code 6 (some .int) 4 0 1 := ⟨⟨wq_277, wq_274, wq_1, by decide +kernel⟩, wq_275, wq_276, 0, sq_0, tq_0, 8, rfl, rfl⟩
theorem cq_W_38 : qz_Cv "ExactCurvesLaw" 38 yM_pool prog_10_method_21_code 5 (some .int) 4 7 1 := ⟨⟨wq_783, wq_780, wq_8, by decide +kernel⟩, wq_781, wq_782, 7, sq_7, tq_7, 42, rfl, rfl⟩
theorem cq_W_39 : qz_Cv "ExactCurvesLaw" 39 yE_of prog_1_method_7_code 4 (some .long) 2 0 1 := ⟨⟨wq_281, wq_278, wq_1, by decide +kernel⟩, wq_279, wq_280, 0, sq_0, tq_0, 8, rfl, rfl⟩
theorem cq_W_42 : qz_Cv "ExactCurvesLaw" 42 yM_of prog_10_method_22_code 3 (some .long) 2 7 1 := ⟨⟨wq_787, wq_784, wq_8, by decide +kernel⟩, wq_785, wq_786, 7, sq_7, tq_7, 42, rfl, rfl⟩
theorem cq_W_43 : qz_Cv "ExactCurvesLaw" 43 yE_join prog_1_method_8_code 15 (some .long) 4 0 1 := ⟨⟨wq_294, wq_291, wq_1, by decide +kernel⟩, wq_292, wq_293, 0, sq_0, tq_0, 8, rfl, rfl⟩
theorem cq_W_47 : qz_Cv "ExactCurvesLaw" 47 yM_join prog_10_method_24_code 21 (some .long) 4 7 1 := ⟨⟨wq_795, wq_792, wq_8, by decide +kernel⟩, wq_793, wq_794, 7, sq_7, tq_7, 42, rfl, rfl⟩
theorem cq_W_48 : qz_Cv "ExactCurvesLaw" 48 yE_leave prog_1_method_9_code 10 (some .long) 3 0 1 := ⟨⟨wq_364, wq_361, wq_1, by decide +kernel⟩, wq_362, wq_363, 0, sq_0, tq_0, 8, rfl, rfl⟩
theorem cq_W_51 : qz_Cv "ExactCurvesLaw" 51 yM_leave prog_10_method_25_code 9 (some .long) 3 7 1 := ⟨⟨wq_837, wq_834, wq_8, by decide +kernel⟩, wq_835, wq_836, 7, sq_7, tq_7, 42, rfl, rfl⟩
theorem cq_W_52 : qz_Cv "ExactCurvesLaw" 52 yE_swap prog_1_method_10_code 9 (some .long) 4 0 1 := ⟨⟨wq_376, wq_373, wq_1, by decide +kernel⟩, wq_374, wq_375, 0, sq_0, tq_0, 8, rfl, rfl⟩
theorem cq_W_56 : qz_Cv "ExactCurvesLaw" 56 yM_swap prog_10_method_27_code 9 (some .long) 4 7 1 := ⟨⟨wq_841, wq_838, wq_8, by decide +kernel⟩, wq_839, wq_840, 7, sq_7, tq_7, 42, rfl, rfl⟩
theorem cq_W_57 : qz_Cv "ExactCurvesLaw" 57 yE_quote prog_1_method_11_code 8 (some .long) 3 0 1 := ⟨⟨wq_388, wq_385, wq_1, by decide +kernel⟩, wq_386, wq_387, 0, sq_0, tq_0, 8, rfl, rfl⟩
theorem cq_W_60 : qz_Cv "ExactCurvesLaw" 60 yM_quote prog_10_method_28_code 7 (some .long) 3 7 1 := ⟨⟨wq_853, wq_850, wq_8, by decide +kernel⟩, wq_851, wq_852, 7, sq_7, tq_7, 42, rfl, rfl⟩
theorem cq_W_61 : qz_Cv "ExactCurvesLaw" 61 yE_flash prog_1_method_12_code 12 (some .int) 6 0 1 := ⟨⟨wq_392, wq_389, wq_1, by decide +kernel⟩, wq_390, wq_391, 0, sq_0, tq_0, 8, rfl, rfl⟩
theorem cq_W_65 : qz_Cv "ExactCurvesLaw" 65 yM_flash prog_10_method_29_code 27 (some .int) 6 7 1 := ⟨⟨wq_857, wq_854, wq_8, by decide +kernel⟩, wq_855, wq_856, 7, sq_7, tq_7, 42, rfl, rfl⟩
theorem cq_W_66 : qz_Cv "ExactCurvesLaw" 66 yE_tick prog_1_method_13_code 3 (some .int) 1 0 1 := ⟨⟨wq_401, wq_398, wq_1, by decide +kernel⟩, wq_399, wq_400, 0, sq_0, tq_0, 8, rfl, rfl⟩
theorem cq_W_70 : qz_Cv "ExactCurvesLaw" 70 yM_tick prog_10_method_31_code 3 (some .int) 1 7 1 := ⟨⟨wq_861, wq_858, wq_8, by decide +kernel⟩, wq_859, wq_860, 7, sq_7, tq_7, 42, rfl, rfl⟩
theorem cq_W_71 : qz_Cv "ExactCurvesLaw" 71 yE_mark prog_1_method_14_code 5 (some .int) 2 0 1 := ⟨⟨wq_416, wq_413, wq_1, by decide +kernel⟩, wq_414, wq_415, 0, sq_0, tq_0, 8, rfl, rfl⟩
theorem cq_W_75 : qz_Cv "ExactCurvesLaw" 75 yM_mark prog_10_method_32_code 3 (some .int) 2 7 1 := ⟨⟨wq_870, wq_867, wq_8, by decide +kernel⟩, wq_868, wq_869, 7, sq_7, tq_7, 42, rfl, rfl⟩
theorem cq_W_76 : qz_Cv "ExactCurvesLaw" 76 yE_mean prog_1_method_15_code 6 (some .long) 1 0 1 := ⟨⟨wq_420, wq_417, wq_1, by decide +kernel⟩, wq_418, wq_419, 0, sq_0, tq_0, 8, rfl, rfl⟩
theorem cq_W_79 : qz_Cv "ExactCurvesLaw" 79 yM_mean prog_10_method_33_code 4 (some .long) 1 7 1 := ⟨⟨wq_874, wq_871, wq_8, by decide +kernel⟩, wq_872, wq_873, 7, sq_7, tq_7, 42, rfl, rfl⟩
theorem cq_W_80 : qz_Cv "ExactCurvesLaw" 80 yE_batch prog_1_method_16_code 3 (some .int) 2 0 1 := ⟨⟨wq_426, wq_423, wq_1, by decide +kernel⟩, wq_424, wq_425, 0, sq_0, tq_0, 8, rfl, rfl⟩
theorem cq_W_83 : qz_Cv "ExactCurvesLaw" 83 yM_batch prog_10_method_34_code 3 (some .int) 2 7 1 := ⟨⟨wq_879, wq_876, wq_8, by decide +kernel⟩, wq_877, wq_878, 7, sq_7, tq_7, 42, rfl, rfl⟩
theorem cq_W_84 : qz_Cv "ExactCurvesLaw" 84 yE_order prog_1_method_17_code 10 (some .int) 4 0 1 := ⟨⟨wq_430, wq_427, wq_1, by decide +kernel⟩, wq_428, wq_429, 0, sq_0, tq_0, 8, rfl, rfl⟩
theorem cq_W_88 : qz_Cv "ExactCurvesLaw" 88 yM_order prog_10_method_37_code 9 (some .int) 4 7 1 := ⟨⟨wq_883, wq_880, wq_8, by decide +kernel⟩, wq_881, wq_882, 7, sq_7, tq_7, 42, rfl, rfl⟩
theorem cq_W_89 : qz_Cv "ExactCurvesLaw" 89 yE_clear prog_1_method_18_code 4 (some .long) 0 0 1 := ⟨⟨wq_444, wq_441, wq_1, by decide +kernel⟩, wq_442, wq_443, 0, sq_0, tq_0, 8, rfl, rfl⟩
theorem cq_W_93 : qz_Cv "ExactCurvesLaw" 93 yM_clear prog_10_method_41_code 11 (some .long) 0 7 1 := ⟨⟨wq_889, wq_886, wq_8, by decide +kernel⟩, wq_887, wq_888, 7, sq_7, tq_7, 42, rfl, rfl⟩
theorem cq_W_94 : qz_Cv "ExactCurvesLaw" 94 yE_dealt prog_1_method_19_code 2 (some .long) 1 0 1 := ⟨⟨wq_485, wq_482, wq_1, by decide +kernel⟩, wq_483, wq_484, 0, sq_0, tq_0, 8, rfl, rfl⟩
theorem cq_W_97 : qz_Cv "ExactCurvesLaw" 97 yM_dealt prog_10_method_42_code 2 (some .long) 1 7 1 := ⟨⟨wq_905, wq_902, wq_8, by decide +kernel⟩, wq_903, wq_904, 7, sq_7, tq_7, 42, rfl, rfl⟩
theorem cq_W_98 : qz_Cv "ExactCurvesLaw" 98 yE_rate prog_1_method_20_code 6 (some .long) 2 0 1 := ⟨⟨wq_489, wq_486, wq_1, by decide +kernel⟩, wq_487, wq_488, 0, sq_0, tq_0, 8, rfl, rfl⟩
theorem cq_W_102 : qz_Cv "ExactCurvesLaw" 102 yM_rate prog_10_method_43_code 6 (some .long) 2 7 1 := ⟨⟨wq_909, wq_906, wq_8, by decide +kernel⟩, wq_907, wq_908, 7, sq_7, tq_7, 42, rfl, rfl⟩
theorem cq_W_103 : qz_Cv "ExactCurvesLaw" 103 yE_lend prog_1_method_21_code 8 (some .long) 3 0 1 := ⟨⟨wq_493, wq_490, wq_1, by decide +kernel⟩, wq_491, wq_492, 0, sq_0, tq_0, 8, rfl, rfl⟩
theorem cq_W_106 : qz_Cv "ExactCurvesLaw" 106 yM_lend prog_10_method_48_code 7 (some .long) 3 7 1 := ⟨⟨wq_913, wq_910, wq_8, by decide +kernel⟩, wq_911, wq_912, 7, sq_7, tq_7, 42, rfl, rfl⟩
theorem cq_W_107 : qz_Cv "ExactCurvesLaw" 107 yE_redeem prog_1_method_22_code 8 (some .long) 3 0 1 := ⟨⟨wq_519, wq_516, wq_1, by decide +kernel⟩, wq_517, wq_518, 0, sq_0, tq_0, 8, rfl, rfl⟩
theorem cq_W_110 : qz_Cv "ExactCurvesLaw" 110 yM_redeem prog_10_method_49_code 7 (some .long) 3 7 1 := ⟨⟨wq_929, wq_926, wq_8, by decide +kernel⟩, wq_927, wq_928, 7, sq_7, tq_7, 42, rfl, rfl⟩
theorem cq_W_111 : qz_Cv "ExactCurvesLaw" 111 yE_vault prog_1_method_23_code 3 (some .long) 2 0 1 := ⟨⟨wq_523, wq_520, wq_1, by decide +kernel⟩, wq_521, wq_522, 0, sq_0, tq_0, 8, rfl, rfl⟩
theorem cq_W_114 : qz_Cv "ExactCurvesLaw" 114 yM_vault prog_10_method_50_code 3 (some .long) 2 7 1 := ⟨⟨wq_933, wq_930, wq_8, by decide +kernel⟩, wq_931, wq_932, 7, sq_7, tq_7, 42, rfl, rfl⟩
theorem cq_W_115 : qz_Cv "ExactCurvesLaw" 115 yE_loan prog_1_method_24_code 11 (some .int) 5 0 1 := ⟨⟨wq_532, wq_529, wq_1, by decide +kernel⟩, wq_530, wq_531, 0, sq_0, tq_0, 8, rfl, rfl⟩
theorem cq_W_119 : qz_Cv "ExactCurvesLaw" 119 yM_loan prog_10_method_55_code 11 (some .int) 5 7 1 := ⟨⟨wq_937, wq_934, wq_8, by decide +kernel⟩, wq_935, wq_936, 7, sq_7, tq_7, 42, rfl, rfl⟩
theorem cq_W_120 : qz_Cv "ExactCurvesLaw" 120 yE_ofLoan prog_1_method_25_code 4 (some .long) 2 0 1 := ⟨⟨wq_555, wq_552, wq_1, by decide +kernel⟩, wq_553, wq_554, 0, sq_0, tq_0, 8, rfl, rfl⟩
theorem cq_W_123 : qz_Cv "ExactCurvesLaw" 123 yM_ofLoan prog_10_method_57_code 3 (some .long) 2 7 1 := ⟨⟨wq_952, wq_949, wq_8, by decide +kernel⟩, wq_950, wq_951, 7, sq_7, tq_7, 42, rfl, rfl⟩
theorem cq_W_124 : qz_Cv "ExactCurvesLaw" 124 yE_pay prog_1_method_26_code 11 (some .long) 3 0 1 := ⟨⟨wq_572, wq_569, wq_1, by decide +kernel⟩, wq_570, wq_571, 0, sq_0, tq_0, 8, rfl, rfl⟩
theorem cq_W_127 : qz_Cv "ExactCurvesLaw" 127 yM_pay prog_10_method_58_code 10 (some .long) 3 7 1 := ⟨⟨wq_969, wq_966, wq_8, by decide +kernel⟩, wq_967, wq_968, 7, sq_7, tq_7, 42, rfl, rfl⟩
theorem cq_W_128 : qz_Cv "ExactCurvesLaw" 128 yE_close prog_1_method_27_code 11 (some .long) 2 0 1 := ⟨⟨wq_581, wq_578, wq_1, by decide +kernel⟩, wq_579, wq_580, 0, sq_0, tq_0, 8, rfl, rfl⟩
theorem cq_W_131 : qz_Cv "ExactCurvesLaw" 131 yM_close prog_10_method_59_code 17 (some .long) 2 7 1 := ⟨⟨wq_973, wq_970, wq_8, by decide +kernel⟩, wq_971, wq_972, 7, sq_7, tq_7, 42, rfl, rfl⟩
theorem cq_W_132 : qz_Cv "ExactCurvesLaw" 132 yE_count prog_1_method_28_code 2 (some .int) 1 0 1 := ⟨⟨wq_592, wq_589, wq_1, by decide +kernel⟩, wq_590, wq_591, 0, sq_0, tq_0, 8, rfl, rfl⟩
theorem cq_W_135 : qz_Cv "ExactCurvesLaw" 135 yM_count prog_10_method_61_code 4 (some .int) 1 7 1 := ⟨⟨wq_982, wq_979, wq_8, by decide +kernel⟩, wq_980, wq_981, 7, sq_7, tq_7, 42, rfl, rfl⟩
end
section
theorem qz_ne {x k : Int32} {z : Int} (h : ¬ x = k) (hz : k.toInt = z) : x.toInt ≠ z := fun e => h (Int32.toInt_inj.mp (e.trans hz.symm))
theorem qz_out4 {x : Int32} (lo : Int) (c0 : ¬ x = (0 : Int32)) (c1 : ¬ x = (1 : Int32)) (c2 : ¬ x = (2 : Int32)) (c3 : ¬ x = (3 : Int32)) : x.toInt < 0 ∨ 3 < x.toInt := by
  have h0 : x.toInt ≠ 0 := qz_ne c0 (by decide)
  have h1 : x.toInt ≠ 1 := qz_ne c1 (by decide)
  have h2 : x.toInt ≠ 2 := qz_ne c2 (by decide)
  have h3 : x.toInt ≠ 3 := qz_ne c3 (by decide)
  omega
theorem qz_out5 {x : Int32} (lo : Int) (c0 : ¬ x = (0 : Int32)) (c1 : ¬ x = (1 : Int32)) (c2 : ¬ x = (2 : Int32)) (c3 : ¬ x = (3 : Int32)) (c4 : ¬ x = (4 : Int32)) : x.toInt < 0 ∨ 4 < x.toInt := by
  have h0 : x.toInt ≠ 0 := qz_ne c0 (by decide)
  have h1 : x.toInt ≠ 1 := qz_ne c1 (by decide)
  have h2 : x.toInt ≠ 2 := qz_ne c2 (by decide)
  have h3 : x.toInt ≠ 3 := qz_ne c3 (by decide)
  have h4 : x.toInt ≠ 4 := qz_ne c4 (by decide)
  omega
theorem qz_out8 {x : Int32} (lo : Int) (c0 : ¬ x = (0 : Int32)) (c1 : ¬ x = (1 : Int32)) (c2 : ¬ x = (2 : Int32)) (c3 : ¬ x = (3 : Int32)) (c4 : ¬ x = (4 : Int32)) (c5 : ¬ x = (5 : Int32)) (c6 : ¬ x = (6 : Int32)) (c7 : ¬ x = (7 : Int32)) : x.toInt < 0 ∨ 7 < x.toInt := by
  have h0 : x.toInt ≠ 0 := qz_ne c0 (by decide)
  have h1 : x.toInt ≠ 1 := qz_ne c1 (by decide)
  have h2 : x.toInt ≠ 2 := qz_ne c2 (by decide)
  have h3 : x.toInt ≠ 3 := qz_ne c3 (by decide)
  have h4 : x.toInt ≠ 4 := qz_ne c4 (by decide)
  have h5 : x.toInt ≠ 5 := qz_ne c5 (by decide)
  have h6 : x.toInt ≠ 6 := qz_ne c6 (by decide)
  have h7 : x.toInt ≠ 7 := qz_ne c7 (by decide)
  omega
theorem qz_out9 {x : Int32} (lo : Int) (c0 : ¬ x = (0 : Int32)) (c1 : ¬ x = (1 : Int32)) (c2 : ¬ x = (2 : Int32)) (c3 : ¬ x = (3 : Int32)) (c4 : ¬ x = (4 : Int32)) (c5 : ¬ x = (5 : Int32)) (c6 : ¬ x = (6 : Int32)) (c7 : ¬ x = (7 : Int32)) (c8 : ¬ x = (8 : Int32)) : x.toInt < 0 ∨ 8 < x.toInt := by
  have h0 : x.toInt ≠ 0 := qz_ne c0 (by decide)
  have h1 : x.toInt ≠ 1 := qz_ne c1 (by decide)
  have h2 : x.toInt ≠ 2 := qz_ne c2 (by decide)
  have h3 : x.toInt ≠ 3 := qz_ne c3 (by decide)
  have h4 : x.toInt ≠ 4 := qz_ne c4 (by decide)
  have h5 : x.toInt ≠ 5 := qz_ne c5 (by decide)
  have h6 : x.toInt ≠ 6 := qz_ne c6 (by decide)
  have h7 : x.toInt ≠ 7 := qz_ne c7 (by decide)
  have h8 : x.toInt ≠ 8 := qz_ne c8 (by decide)
  omega
theorem qz_out27 {x : Int32} (lo : Int) (c0 : ¬ x = (0 : Int32)) (c1 : ¬ x = (1 : Int32)) (c2 : ¬ x = (2 : Int32)) (c3 : ¬ x = (3 : Int32)) (c4 : ¬ x = (4 : Int32)) (c5 : ¬ x = (5 : Int32)) (c6 : ¬ x = (6 : Int32)) (c7 : ¬ x = (7 : Int32)) (c8 : ¬ x = (8 : Int32)) (c9 : ¬ x = (9 : Int32)) (c10 : ¬ x = (10 : Int32)) (c11 : ¬ x = (11 : Int32)) (c12 : ¬ x = (12 : Int32)) (c13 : ¬ x = (13 : Int32)) (c14 : ¬ x = (14 : Int32)) (c15 : ¬ x = (15 : Int32)) (c16 : ¬ x = (16 : Int32)) (c17 : ¬ x = (17 : Int32)) (c18 : ¬ x = (18 : Int32)) (c19 : ¬ x = (19 : Int32)) (c20 : ¬ x = (20 : Int32)) (c21 : ¬ x = (21 : Int32)) (c22 : ¬ x = (22 : Int32)) (c23 : ¬ x = (23 : Int32)) (c24 : ¬ x = (24 : Int32)) (c25 : ¬ x = (25 : Int32)) (c26 : ¬ x = (26 : Int32)) : x.toInt < 0 ∨ 26 < x.toInt := by
  have h0 : x.toInt ≠ 0 := qz_ne c0 (by decide)
  have h1 : x.toInt ≠ 1 := qz_ne c1 (by decide)
  have h2 : x.toInt ≠ 2 := qz_ne c2 (by decide)
  have h3 : x.toInt ≠ 3 := qz_ne c3 (by decide)
  have h4 : x.toInt ≠ 4 := qz_ne c4 (by decide)
  have h5 : x.toInt ≠ 5 := qz_ne c5 (by decide)
  have h6 : x.toInt ≠ 6 := qz_ne c6 (by decide)
  have h7 : x.toInt ≠ 7 := qz_ne c7 (by decide)
  have h8 : x.toInt ≠ 8 := qz_ne c8 (by decide)
  have h9 : x.toInt ≠ 9 := qz_ne c9 (by decide)
  have h10 : x.toInt ≠ 10 := qz_ne c10 (by decide)
  have h11 : x.toInt ≠ 11 := qz_ne c11 (by decide)
  have h12 : x.toInt ≠ 12 := qz_ne c12 (by decide)
  have h13 : x.toInt ≠ 13 := qz_ne c13 (by decide)
  have h14 : x.toInt ≠ 14 := qz_ne c14 (by decide)
  have h15 : x.toInt ≠ 15 := qz_ne c15 (by decide)
  have h16 : x.toInt ≠ 16 := qz_ne c16 (by decide)
  have h17 : x.toInt ≠ 17 := qz_ne c17 (by decide)
  have h18 : x.toInt ≠ 18 := qz_ne c18 (by decide)
  have h19 : x.toInt ≠ 19 := qz_ne c19 (by decide)
  have h20 : x.toInt ≠ 20 := qz_ne c20 (by decide)
  have h21 : x.toInt ≠ 21 := qz_ne c21 (by decide)
  have h22 : x.toInt ≠ 22 := qz_ne c22 (by decide)
  have h23 : x.toInt ≠ 23 := qz_ne c23 (by decide)
  have h24 : x.toInt ≠ 24 := qz_ne c24 (by decide)
  have h25 : x.toInt ≠ 25 := qz_ne c25 (by decide)
  have h26 : x.toInt ≠ 26 := qz_ne c26 (by decide)
  omega
theorem mq_max : Cond.code Lib.MathLoose.max_long.x Lib.MathLoose.max_long.code 4 (some .long) ∈ qz_T := qz_mem 504 (by decide +kernel) rfl
theorem mq_min : Cond.code Lib.MathLoose.min_long.x Lib.MathLoose.min_long.code 4 (some .long) ∈ qz_T := qz_mem 372 (by decide +kernel) rfl
end
section
/-! THE GROWING WORLD: while the constructors run. M: how many cells and slots have come, how many objects of each class, which references are set, the numbers. -/
abbrev qy_M : Type := Nat × Nat × (Nat → Nat) × (Nat → Nat → Nat → Bool) × qz_N
def qy_fv (ad : Nat → Nat → Nat) (M : qy_M) (c i k : Nat) (t : FieldType × Nat) : Value := match t.1 with
  | .long => .long (qz_gl M.2.2.2.2 c i k)
  | .object _ => if M.2.2.2.1 c i k = true then .ref (ad t.2 i) else .null
  | .array _ => if M.2.2.2.1 c i k = true then .ref (ad t.2 i) else .null
  | _ => .int (qz_gi M.2.2.2.2 c i k)
def qy_fs (ad : Nat → Nat → Nat) (M : qy_M) (c i : Nat) : Nat → List (FieldType × Nat) → List Value
  | _, [] => []
  | k, t :: ts => qy_fv ad M c i k t :: qy_fs ad M c i (k + 1) ts
def qy_ar (ad : Nat → Nat → Nat) (M : qy_M) (c i : Nat) (t : FieldType × Nat) : (Nat → Int32) ⊕ (Nat → Int64) ⊕ (Nat → UInt32) ⊕ (Nat → UInt64) ⊕ (Nat → Option Nat) := match t.1 with
  | .long => .inr (.inl (fun j => qz_gl M.2.2.2.2 c i j))
  | .object _ => .inr (.inr (.inr (.inr (fun j => if M.2.2.2.1 c i j = true then some (ad t.2 j) else none))))
  | .array _ => .inr (.inr (.inr (.inr (fun j => if M.2.2.2.1 c i j = true then some (ad t.2 j) else none))))
  | _ => .inl (fun j => qz_gi M.2.2.2.2 c i j)
def qy_e (G : qz_G) (M : qy_M) (c i : Nat) (q : qz_Y) : va_E := match q.2 with
  | .inl o => .inr (o.1, qy_fs G.2.2 M c i 0 o.2)
  | .inr a => .inl (G.2.1 c, a.1, qy_ar G.2.2 M c i a.2)
def qy_P (G : qz_G) (h0 : Nat) (M : qy_M) (H : Heap) : Prop := H.size = h0 + M.1 ∧ (∀ (c i : Nat) (q : qz_Y), qz_tb[c]? = some q → i < M.2.2.1 c → va_at G.1 qz_cl (G.2.2 c i, qy_e G M c i q) H) ∧ (∀ c i k : Nat, M.2.2.1 c ≤ i → M.2.2.2.1 c i k = false ∧ qz_gi M.2.2.2.2 c i k = 0 ∧ qz_gl M.2.2.2.2 c i k = 0) ∧ (∀ (c : Nat) (q : qz_Y), qz_tb[c]? = some q → M.2.2.1 c ≤ q.1)
def qy_S (h0 : Nat) (H0 H : Heap) (locs : List Loc) : Prop := (∀ q : Nat, q < h0 → H[q]? = H0[q]?) ∧ ∀ l ∈ locs, h0 ≤ l.base
theorem qy_S.rf {h0 : Nat} {H : Heap} : qy_S h0 H H [] := ⟨fun _ _ => rfl, fun _ h => by cases h⟩
theorem qy_S.put {h0 : Nat} {H0 H H1 : Heap} {locs : List Loc} {a k : Nat} (h : qy_S h0 H0 H locs) (oq : ∀ q : Nat, q ≠ a → H1[q]? = H[q]?) (ha : h0 ≤ a) : qy_S h0 H0 H1 (locs ++ [⟨a, k⟩]) := by
  refine ⟨fun q h2 => ?_, fun q hq => ?_⟩
  · rw [oq q (by omega)]
    exact h.1 q h2
  · rcases List.mem_append.mp hq with h1 | h1
    · exact h.2 q h1
    · rw [List.mem_singleton.mp h1]
      exact ha
theorem qy_S.push {h0 : Nat} {H0 H H1 : Heap} {locs : List Loc} (h : qy_S h0 H0 H locs) (hs : h0 ≤ H.size) (oq : ∀ q : Nat, q < H.size → H1[q]? = H[q]?) : qy_S h0 H0 H1 locs := ⟨fun q h2 => (oq q (by omega)).trans (h.1 q h2), h.2⟩
theorem qy_fs_at (ad : Nat → Nat → Nat) (M : qy_M) (c i : Nat) : ∀ (ts : List (FieldType × Nat)) (b k : Nat) (t : FieldType × Nat), ts[k]? = some t → (qy_fs ad M c i b ts)[k]? = some (qy_fv ad M c i (b + k) t)
  | [], _, _, _, h => by simp at h
  | t0 :: ts, b, 0, t, h => by
    simp only [List.getElem?_cons_zero] at h
    cases h
    rfl
  | t0 :: ts, b, k + 1, t, h => by
    simp only [List.getElem?_cons_succ] at h
    have := qy_fs_at ad M c i ts (b + 1) k t h
    rw [show b + 1 + k = b + (k + 1) by omega] at this
    exact this
theorem qy_fs_len (ad : Nat → Nat → Nat) (M : qy_M) (c i : Nat) : ∀ (ts : List (FieldType × Nat)) (b : Nat), (qy_fs ad M c i b ts).length = ts.length
  | [], _ => rfl
  | t0 :: ts, b => by
    show (qy_fs ad M c i (b + 1) ts).length + 1 = ts.length + 1
    rw [qy_fs_len ad M c i ts (b + 1)]
/-- the object (c, i) looks alike in M and M' -/
def qy_lk (M M' : qy_M) (c i : Nat) : Prop := (∀ k, qz_gi M'.2.2.2.2 c i k = qz_gi M.2.2.2.2 c i k) ∧ (∀ k, qz_gl M'.2.2.2.2 c i k = qz_gl M.2.2.2.2 c i k) ∧ ∀ k, M'.2.2.2.1 c i k = M.2.2.2.1 c i k
theorem qy_fv_congr {ad : Nat → Nat → Nat} {M M' : qy_M} {c i k : Nat} (h1 : qz_gi M'.2.2.2.2 c i k = qz_gi M.2.2.2.2 c i k) (h2 : qz_gl M'.2.2.2.2 c i k = qz_gl M.2.2.2.2 c i k) (h3 : M'.2.2.2.1 c i k = M.2.2.2.1 c i k) (t : FieldType × Nat) : qy_fv ad M' c i k t = qy_fv ad M c i k t := by
  unfold qy_fv
  rw [h1, h2, h3]
theorem qy_fs_congr {ad : Nat → Nat → Nat} {M M' : qy_M} {c i : Nat} (h : qy_lk M M' c i) : ∀ (ts : List (FieldType × Nat)) (b : Nat), qy_fs ad M' c i b ts = qy_fs ad M c i b ts
  | [], _ => rfl
  | t0 :: ts, b => by
    show qy_fv ad M' c i b t0 :: qy_fs ad M' c i (b + 1) ts = qy_fv ad M c i b t0 :: qy_fs ad M c i (b + 1) ts
    rw [qy_fs_congr h ts (b + 1), qy_fv_congr (h.1 b) (h.2.1 b) (h.2.2 b)]
theorem qy_ar_congr {ad : Nat → Nat → Nat} {M M' : qy_M} {c i : Nat} (h : qy_lk M M' c i) (t : FieldType × Nat) : qy_ar ad M' c i t = qy_ar ad M c i t := by
  unfold qy_ar
  rw [show (fun j => qz_gl M'.2.2.2.2 c i j) = (fun j => qz_gl M.2.2.2.2 c i j) from funext h.2.1, show (fun j => qz_gi M'.2.2.2.2 c i j) = (fun j => qz_gi M.2.2.2.2 c i j) from funext h.1, show (fun j => if M'.2.2.2.1 c i j = true then some (ad t.2 j) else none) = (fun j => if M.2.2.2.1 c i j = true then some (ad t.2 j) else none) from funext fun j => by rw [h.2.2 j]]
theorem qy_e_congr {G : qz_G} {M M' : qy_M} {c i : Nat} (h : qy_lk M M' c i) (q : qz_Y) : qy_e G M' c i q = qy_e G M c i q := by
  obtain ⟨n, o | a⟩ := q
  · show (Sum.inr (o.1, qy_fs G.2.2 M' c i 0 o.2) : va_E) = Sum.inr (o.1, qy_fs G.2.2 M c i 0 o.2)
    rw [qy_fs_congr h]
  · show (Sum.inl (G.2.1 c, a.1, qy_ar G.2.2 M' c i a.2) : va_E) = Sum.inl (G.2.1 c, a.1, qy_ar G.2.2 M c i a.2)
    rw [qy_ar_congr h]
/-- M' is M but for the object (c, i) -/
def qy_but (M M' : qy_M) (c i : Nat) : Prop := M'.1 = M.1 ∧ M'.2.1 = M.2.1 ∧ M'.2.2.1 = M.2.2.1 ∧ ∀ c' i' : Nat, ¬ (c' = c ∧ i' = i) → qy_lk M M' c' i'
theorem qy_P.set {G : qz_G} {h0 : Nat} {M M' : qy_M} {H H1 : Heap} {c i : Nat} {q : qz_Y} (hP : qy_P G h0 M H) (hD : qz_D G) (hc : qz_tb[c]? = some q) (hi : i < M.2.2.1 c) (hN : qy_but M M' c i) (he : va_at G.1 qz_cl (G.2.2 c i, qy_e G M' c i q) H1) (z : H1.size = H.size) (oq : ∀ x : Nat, x ≠ G.2.2 c i → H1[x]? = H[x]?) : qy_P G h0 M' H1 := by
  obtain ⟨p1, p2, p3, p4⟩ := hP
  obtain ⟨n1, n2, n3, n4⟩ := hN
  refine ⟨by rw [z, n1]; exact p1, fun c' i' q' hc' hi' => ?_, fun c' i' k hi' => ?_, fun c' q' hc' => by rw [n3]; exact p4 c' q' hc'⟩
  · rw [n3] at hi'
    by_cases h : c' = c ∧ i' = i
    · obtain ⟨rfl, rfl⟩ := h
      cases hc.symm.trans hc'
      exact he
    · rw [qy_e_congr (n4 c' i' h)]
      refine (p2 c' i' q' hc' hi').kept (oq _ (fun z => h ?_))
      exact hD c' i' q' c i q hc' (Nat.lt_of_lt_of_le hi' (p4 c' q' hc')) hc (Nat.lt_of_lt_of_le hi (p4 c q hc)) z
  · rw [n3] at hi'
    have h : ¬ (c' = c ∧ i' = i) := fun z => by obtain ⟨rfl, rfl⟩ := z; omega
    obtain ⟨g1, g2, g3⟩ := n4 c' i' h
    rw [g1 k, g2 k, g3 k]
    exact p3 c' i' k hi'
def qy_add (M : qy_M) (c n : Nat) : qy_M := (M.1 + 1, M.2.1 + n, va_up M.2.2.1 c (M.2.2.1 c + 1), M.2.2.2.1, M.2.2.2.2)
def qy_mk (M : qy_M) (c i k : Nat) : qy_M := (M.1, M.2.1, M.2.2.1, qz_u3 M.2.2.2.1 c i k true, M.2.2.2.2)
def qy_sN (M : qy_M) (N : qz_N) : qy_M := (M.1, M.2.1, M.2.2.1, M.2.2.2.1, N)
theorem qy_but_mk (M : qy_M) (c i k : Nat) : qy_but M (qy_mk M c i k) c i := ⟨rfl, rfl, rfl, fun c' i' h => ⟨fun _ => rfl, fun _ => rfl, fun k' => by show qz_u3 _ c i k true c' i' k' = _; unfold qz_u3; rw [if_neg (fun z => h ⟨z.1, z.2.1⟩)]⟩⟩
theorem qy_but_sN {M : qy_M} {N : qz_N} {c i : Nat} (h : qz_but M.2.2.2.2 N c i) : qy_but M (qy_sN M N) c i := ⟨rfl, rfl, rfl, fun c' i' hc => ⟨(h c' i' hc).1, (h c' i' hc).2, fun _ => rfl⟩⟩
/-- a new cell: the object (c, count c), all of it 0 and null -/
theorem qy_P.add {G : qz_G} {h0 n : Nat} {M : qy_M} {H H1 : Heap} {c : Nat} {q : qz_Y} (hP : qy_P G h0 M H) (hc : qz_tb[c]? = some q) (hi : M.2.2.1 c < q.1) (he : va_at G.1 qz_cl (G.2.2 c (M.2.2.1 c), qy_e G M c (M.2.2.1 c) q) H1) (z : H1.size = H.size + 1) (oq : ∀ x : Nat, x < H.size → H1[x]? = H[x]?) : qy_P G h0 (qy_add M c n) H1 := by
  obtain ⟨p1, p2, p3, p4⟩ := hP
  have hcn : ∀ c', (qy_add M c n).2.2.1 c' = if c' = c then M.2.2.1 c + 1 else M.2.2.1 c' := fun c' => rfl
  refine ⟨by show H1.size = h0 + (M.1 + 1); omega, fun c' i' q' hc' hi' => ?_, fun c' i' k hi' => ?_, fun c' q' hc' => ?_⟩
  · rw [qy_e_congr (M := M) (M' := qy_add M c n) ⟨fun _ => rfl, fun _ => rfl, fun _ => rfl⟩]
    rw [hcn] at hi'
    by_cases h : c' = c
    · subst h
      rw [if_pos rfl] at hi'
      cases hc.symm.trans hc'
      by_cases h2 : i' = M.2.2.1 c'
      · subst h2; exact he
      · have hp := p2 c' i' q hc' (by omega)
        exact hp.kept (oq _ hp.lt)
    · rw [if_neg h] at hi'
      have hp := p2 c' i' q' hc' hi'
      exact hp.kept (oq _ hp.lt)
  · refine p3 c' i' k ?_
    rw [hcn] at hi'
    by_cases h : c' = c
    · subst h; rw [if_pos rfl] at hi'; omega
    · rw [if_neg h] at hi'; exact hi'
  · rw [hcn]
    by_cases h : c' = c
    · subst h; rw [if_pos rfl]; cases hc.symm.trans hc'; omega
    · rw [if_neg h]; exact p4 c' q' hc'
theorem qy_fs_set {ad : Nat → Nat → Nat} {M M' : qy_M} {c i k : Nat} {ts : List (FieldType × Nat)} {t : FieldType × Nat} {v : Value} (ht : ts[k]? = some t) (hv : qy_fv ad M' c i k t = v) (ho : ∀ j, j ≠ k → qz_gi M'.2.2.2.2 c i j = qz_gi M.2.2.2.2 c i j ∧ qz_gl M'.2.2.2.2 c i j = qz_gl M.2.2.2.2 c i j ∧ M'.2.2.2.1 c i j = M.2.2.2.1 c i j) : qy_fs ad M' c i 0 ts = (qy_fs ad M c i 0 ts).set k v := by
  apply List.ext_getElem?
  intro j
  have hk : k < ts.length := (List.getElem?_eq_some_iff.mp ht).1
  by_cases hj : j = k
  · subst hj
    rw [List.getElem?_set_self (by rw [qy_fs_len]; exact hk), qy_fs_at ad M' c i ts 0 j t ht, Nat.zero_add, hv]
  · rw [List.getElem?_set_ne (Ne.symm hj)]
    by_cases hl : j < ts.length
    · have h2 : ts[j]? = some ts[j] := List.getElem?_eq_getElem hl
      rw [qy_fs_at ad M' c i ts 0 j _ h2, qy_fs_at ad M c i ts 0 j _ h2, Nat.zero_add, qy_fv_congr (ho j hj).1 (ho j hj).2.1 (ho j hj).2.2]
    · rw [List.getElem?_eq_none (by rw [qy_fs_len]; omega), List.getElem?_eq_none (by rw [qy_fs_len]; omega)]
def qy_okt : FieldType → Bool
  | .long => true
  | .int => true
  | .boolean => true
  | .object _ => true
  | .array _ => true
  | _ => false
theorem qy_fv_zero {ad : Nat → Nat → Nat} {M : qy_M} {c i k : Nat} (h : M.2.2.2.1 c i k = false ∧ qz_gi M.2.2.2.2 c i k = 0 ∧ qz_gl M.2.2.2.2 c i k = 0) {t : FieldType × Nat} (ht : qy_okt t.1 = true) : defaultValue t.1 = qy_fv ad M c i k t := by
  obtain ⟨t1, t2⟩ := t
  unfold qy_fv
  cases t1 <;> simp [qy_okt] at ht <;> simp [h.1, h.2.1, h.2.2, defaultValue]
def qy_of (c i : Nat) : Nat := match c with
  | 0 => 0 + 1 * i
  | 1 => 1 + 1 * i
  | 2 => 15 + 2 * i
  | 3 => 27 + 1 * i
  | 4 => 7 + 1 * i
  | 5 => 35 + 2 * i
  | 6 => 43 + 1 * i
  | 7 => 53 + 1 * i
  | 8 => 5 + 1 * i
  | 9 => 6 + 1 * i
  | 10 => 13 + 1 * i
  | 11 => 14 + 1 * i
  | 12 => 2 + 1 * i
  | 13 => 3 + 1 * i
  | 14 => 4 + 1 * i
  | 15 => 16 + 2 * i
  | 16 => 8 + 1 * i
  | 17 => 9 + 1 * i
  | 18 => 10 + 1 * i
  | 19 => 11 + 1 * i
  | 20 => 12 + 1 * i
  | 21 => 36 + 2 * i
  | 22 => 54 + 1 * i
  | 23 => 55 + 1 * i
  | 24 => 56 + 1 * i
  | 25 => 57 + 1 * i
  | 26 => 58 + 1 * i
  | 27 => 59 + 1 * i
  | 28 => 60 + 1 * i
  | 29 => 61 + 1 * i
  | 30 => 62 + 1 * i
  | 31 => 63 + 1 * i
  | 32 => 64 + 1 * i
  | 33 => 65 + 1 * i
  | 34 => 66 + 1 * i
  | 35 => 67 + 1 * i
  | 36 => 68 + 1 * i
  | 37 => 69 + 1 * i
  | 38 => 70 + 1 * i
  | 39 => 71 + 1 * i
  | 40 => 72 + 1 * i
  | 41 => 73 + 1 * i
  | 42 => 74 + 1 * i
  | 43 => 75 + 1 * i
  | 44 => 76 + 1 * i
  | 45 => 77 + 1 * i
  | 46 => 78 + 1 * i
  | 47 => 79 + 1 * i
  | 48 => 80 + 1 * i
  | 49 => 81 + 1 * i
  | 50 => 82 + 1 * i
  | 51 => 83 + 1 * i
  | 52 => 84 + 1 * i
  | 53 => 85 + 1 * i
  | 54 => 86 + 1 * i
  | 55 => 87 + 1 * i
  | _ => 0
def qy_K (G : qz_G) (ns : List Cond) (ao : List String) (U : State) : Prop := qz_K G U ∧ (∀ (c : Nat) (q : qz_Y) (a : Nat × FieldType × Nat), qz_tb[c]? = some q → q.2 = .inr a → va_RA U (G.2.1 c) a.2.1) ∧ (∀ w ∈ ns, va_Nw w U ∧ ∃ a i y h, w = .methodLinkNest a i y h) ∧ ∀ C ∈ ao, va_AO C U
theorem qy_K.warm {G : qz_G} {ns : List Cond} {ao : List String} {s U : State} (hW : s.WarmedH U.vm) (h : qy_K G ns ao s) : qy_K G ns ao U := ⟨qz_K.moved hW.alike h.1, fun c q a hc ha => (h.2.1 c q a hc ha).moved hW.alike, fun w hw => by
  obtain ⟨h1, a, i, y, hh, rfl⟩ := h.2.2.1 w hw
  exact ⟨va_Nw.warmM hW h1, a, i, y, hh, rfl⟩, fun C hC => va_AO.moved hW.alike (h.2.2.2 C hC)⟩
theorem qy_K.same {G : qz_G} {ns : List Cond} {ao : List String} {u U : State} (hv : u.vm = U.vm) (h : qy_K G ns ao u) : qy_K G ns ao U := qy_K.warm (s := u) (U := U) (by rw [← hv]; exact State.WarmedH.refl u) h
def qy_W (p : Program) (l : Launch) (e : Env) (R : Room) (s : State) (m : MethodId) (args : Array Value) (below : List Frame) (meth : Method) (c : Code) (Q : State → Prop) (G : qz_G) (h0 : Nat) (H0 : Heap) (m0 : Nat × Nat) (nL : Nat) (N : qy_M) (pc : Nat) (lv : List (Nat × Value)) (st : List Value) : Prop :=
  ∀ (H : Heap) (locs : List Loc) (ls : Array Slot), qy_P G h0 N H → qy_S h0 H0 H locs → lv_has ls nL lv → W p l e R s m args below meth c H locs (N.1 - m0.1) (N.2.1 - m0.2) Q (F0 m pc ls st)
def qy_X (p : Program) (s : State) (m : MethodId) (args : Array Value) (meth : Method) (c : Code) (own : String) (cc : ByteArray) (nL : Nat) (ret : Option FieldType) (G : qz_G) (h0 : Nat) (ns : List Cond) (ao : List String) : Prop :=
  p.tables.exec = Jvm.exec ∧ c.code = cc ∧ c.maxLocals = nL ∧ s.vm.findClass own = some m.cls ∧ (∀ w ∈ qz_T, w.before args s = true) ∧ qy_K G ns ao s ∧ qz_D G ∧ meth.locks = false ∧ meth.sig.returnType = ret ∧ ∀ c i, G.2.2 c i = h0 + qy_of c i
section QY
variable {p : Program} {l : Launch} {e : Env} {R : Room} {s : State} {m : MethodId} {args : Array Value} {below : List Frame} {meth : Method} {c : Code} {Q : State → Prop} {G : qz_G} {h0 : Nat} {H0 : Heap} {m0 : Nat × Nat} {nL : Nat} {N : qy_M} {pc : Nat} {lv lv' : List (Nat × Value)} {st : List Value} {own : String} {cc : ByteArray} {ret : Option FieldType} {ns : List Cond} {ao : List String}
theorem qy_sub (ks : List Nat) (hl : lv_pick lv ks = lv') (kk : qy_W p l e R s m args below meth c Q G h0 H0 m0 nL N pc lv' st) : qy_W p l e R s m args below meth c Q G h0 H0 m0 nL N pc lv st := fun H locs ls hP hS h => kk H locs ls hP hS (lv_sub h ks hl)
theorem qy_iconst (X : qy_X p s m args meth c own cc nL ret G h0 ns ao) {n : Int} {v : Int32} (hv : Int32.ofInt n = v) (d : decode cc pc = .ok (.iconst n, 1))
    (kk : qy_W p l e R s m args below meth c Q G h0 H0 m0 nL N (pc + 1) lv (.int v :: st)) : qy_W p l e R s m args below meth c Q G h0 H0 m0 nL N pc lv (st) := fun H locs ls hP hS h => lv_iconst X.1 X.2.1 d hv (kk H locs ls hP hS h)
theorem qy_bipush (X : qy_X p s m args meth c own cc nL ret G h0 ns ao) {n : Int} {v : Int32} (hv : (Int8.ofInt n).toInt32 = v) (d : decode cc pc = .ok (.bipush n, 2))
    (kk : qy_W p l e R s m args below meth c Q G h0 H0 m0 nL N (pc + 2) lv (.int v :: st)) : qy_W p l e R s m args below meth c Q G h0 H0 m0 nL N pc lv (st) := fun H locs ls hP hS h => lv_bipush X.1 X.2.1 d hv (kk H locs ls hP hS h)
theorem qy_sipush (X : qy_X p s m args meth c own cc nL ret G h0 ns ao) {n : Int} {v : Int32} (hv : (Int16.ofInt n).toInt32 = v) (d : decode cc pc = .ok (.sipush n, 3))
    (kk : qy_W p l e R s m args below meth c Q G h0 H0 m0 nL N (pc + 3) lv (.int v :: st)) : qy_W p l e R s m args below meth c Q G h0 H0 m0 nL N pc lv (st) := fun H locs ls hP hS h => lv_sipush X.1 X.2.1 d hv (kk H locs ls hP hS h)
theorem qy_lconst (X : qy_X p s m args meth c own cc nL ret G h0 ns ao) {n : Fin 2} {v : Int64} (hv : Int64.ofNat (n : Nat) = v) (d : decode cc pc = .ok (.lconst n, 1))
    (kk : qy_W p l e R s m args below meth c Q G h0 H0 m0 nL N (pc + 1) lv (.long v :: st)) : qy_W p l e R s m args below meth c Q G h0 H0 m0 nL N pc lv (st) := fun H locs ls hP hS h => lv_lconst X.1 X.2.1 d hv (kk H locs ls hP hS h)
theorem qy_ldc2 (X : qy_X p s m args meth c own cc nL ret G h0 ns ao) {index : Nat} {v : Int64} (hc : Cond.constantLong own index v ∈ qz_T) (d : decode cc pc = .ok (.ldc2_w index, 3))
    (kk : qy_W p l e R s m args below meth c Q G h0 H0 m0 nL N (pc + 3) lv (.long v :: st)) : qy_W p l e R s m args below meth c Q G h0 H0 m0 nL N pc lv (st) := fun H locs ls hP hS h => lv_ldc2 X.1 X.2.1 X.2.2.2.1 (X.2.2.2.2.1 _ hc) d (kk H locs ls hP hS h)
theorem qy_iload_n (X : qy_X p s m args meth c own cc nL ret G h0 ns ao) {k : Fin 4} {x : Int32} (q : Nat) (hq : lv[q]? = some ((k : Nat), .int x)) (d : decode cc pc = .ok (.iload_n k, 1))
    (kk : qy_W p l e R s m args below meth c Q G h0 H0 m0 nL N (pc + 1) lv (.int x :: st)) : qy_W p l e R s m args below meth c Q G h0 H0 m0 nL N pc lv (st) := fun H locs ls hP hS h => lv_iload_n X.1 X.2.1 d rfl (lv_at h q hq) (kk H locs ls hP hS h)
theorem qy_lload_n (X : qy_X p s m args meth c own cc nL ret G h0 ns ao) {k : Fin 4} {x : Int64} (q : Nat) (hq : lv[q]? = some ((k : Nat), .long x)) (d : decode cc pc = .ok (.lload_n k, 1))
    (kk : qy_W p l e R s m args below meth c Q G h0 H0 m0 nL N (pc + 1) lv (.long x :: st)) : qy_W p l e R s m args below meth c Q G h0 H0 m0 nL N pc lv (st) := fun H locs ls hP hS h => lv_lload_n X.1 X.2.1 d rfl (lv_at h q hq) (kk H locs ls hP hS h)
theorem qy_aload_n (X : qy_X p s m args meth c own cc nL ret G h0 ns ao) {k : Fin 4} {x : Nat} (q : Nat) (hq : lv[q]? = some ((k : Nat), .ref x)) (d : decode cc pc = .ok (.aload_n k, 1))
    (kk : qy_W p l e R s m args below meth c Q G h0 H0 m0 nL N (pc + 1) lv (.ref x :: st)) : qy_W p l e R s m args below meth c Q G h0 H0 m0 nL N pc lv (st) := fun H locs ls hP hS h => lv_aload_n X.1 X.2.1 d rfl (lv_at h q hq) (kk H locs ls hP hS h)
theorem qy_istore_n (X : qy_X p s m args meth c own cc nL ret G h0 ns ao) {k : Fin 4} {i : Nat} {x : Int32} (hi : (k : Nat) = i) (hn : i < nL) (hl : (i, Value.int x) :: lv.filter (fun q => !(q.1 == i) && !(q.1 + 1 == i && q.2.category == 2)) = lv') (d : decode cc pc = .ok (.istore_n k, 1))
    (kk : qy_W p l e R s m args below meth c Q G h0 H0 m0 nL N (pc + 1) lv' st) : qy_W p l e R s m args below meth c Q G h0 H0 m0 nL N pc lv (.int x :: st) := fun H locs ls hP hS h => lv_istore_n X.1 X.2.1 d hi h hn hl (fun ls' h' => kk H locs ls' hP hS h')
theorem qy_astore_n (X : qy_X p s m args meth c own cc nL ret G h0 ns ao) {k : Fin 4} {i : Nat} {x : Nat} (hi : (k : Nat) = i) (hn : i < nL) (hl : (i, Value.ref x) :: lv.filter (fun q => !(q.1 == i) && !(q.1 + 1 == i && q.2.category == 2)) = lv') (d : decode cc pc = .ok (.astore_n k, 1))
    (kk : qy_W p l e R s m args below meth c Q G h0 H0 m0 nL N (pc + 1) lv' st) : qy_W p l e R s m args below meth c Q G h0 H0 m0 nL N pc lv (.ref x :: st) := fun H locs ls hP hS h => lv_astore_n X.1 X.2.1 d hi h hn hl (fun ls' h' => kk H locs ls' hP hS h')
theorem qy_iadd (X : qy_X p s m args meth c own cc nL ret G h0 ns ao) {x y : Int32} (d : decode cc pc = .ok (.iadd, 1))
    (kk : qy_W p l e R s m args below meth c Q G h0 H0 m0 nL N (pc + 1) lv (.int (x + y) :: st)) : qy_W p l e R s m args below meth c Q G h0 H0 m0 nL N pc lv (.int y :: .int x :: st) := fun H locs ls hP hS h => lv_iadd X.1 X.2.1 d (kk H locs ls hP hS h)
theorem qy_dup (X : qy_X p s m args meth c own cc nL ret G h0 ns ao) {a : Value} (ha : a.category = 1) (d : decode cc pc = .ok (.dup, 1))
    (kk : qy_W p l e R s m args below meth c Q G h0 H0 m0 nL N (pc + 1) lv (a :: a :: st)) : qy_W p l e R s m args below meth c Q G h0 H0 m0 nL N pc lv (a :: st) := fun H locs ls hP hS h => lv_dup X.1 X.2.1 d ha (kk H locs ls hP hS h)
theorem qy_pop (X : qy_X p s m args meth c own cc nL ret G h0 ns ao) {a : Value} (ha : a.category = 1) (d : decode cc pc = .ok (.pop, 1))
    (kk : qy_W p l e R s m args below meth c Q G h0 H0 m0 nL N (pc + 1) lv (st)) : qy_W p l e R s m args below meth c Q G h0 H0 m0 nL N pc lv (a :: st) := fun H locs ls hP hS h => lv_pop X.1 X.2.1 d ha (kk H locs ls hP hS h)
theorem qy_icmp_lt (X : qy_X p s m args meth c own cc nL ret G h0 ns ao) {x y : Int32} {off : Int} {tgt : Nat} (ht : (pc : Int) + off = (tgt : Int)) (d : decode cc pc = .ok (.if_icmp .lt off, 3)) {α : Type} {r : α} {fa fb : Option α} {dc : Decidable (x < y)} (h : @ite (Option α) (x < y) dc fa fb = some r)
    (kt : x < y → fa = some r → qy_W p l e R s m args below meth c Q G h0 H0 m0 nL N tgt lv st) (kf : ¬ (x < y) → fb = some r → qy_W p l e R s m args below meth c Q G h0 H0 m0 nL N (pc + 3) lv st) : qy_W p l e R s m args below meth c Q G h0 H0 m0 nL N pc lv (.int y :: .int x :: st) := fun H locs ls hP hS hl => lv_icmp_lt X.1 X.2.1 d ht (fun hc => kt hc (by rw [if_pos hc] at h; exact h) H locs ls hP hS hl) (fun hc => kf hc (by rw [if_neg hc] at h; exact h) H locs ls hP hS hl)
theorem qy_icmp_ge (X : qy_X p s m args meth c own cc nL ret G h0 ns ao) {x y : Int32} {off : Int} {tgt : Nat} (ht : (pc : Int) + off = (tgt : Int)) (d : decode cc pc = .ok (.if_icmp .ge off, 3)) {α : Type} {r : α} {fa fb : Option α} {dc : Decidable (y ≤ x)} (h : @ite (Option α) (y ≤ x) dc fa fb = some r)
    (kt : y ≤ x → fa = some r → qy_W p l e R s m args below meth c Q G h0 H0 m0 nL N tgt lv st) (kf : ¬ (y ≤ x) → fb = some r → qy_W p l e R s m args below meth c Q G h0 H0 m0 nL N (pc + 3) lv st) : qy_W p l e R s m args below meth c Q G h0 H0 m0 nL N pc lv (.int y :: .int x :: st) := fun H locs ls hP hS hl => lv_icmp_ge X.1 X.2.1 d ht (fun hc => kt hc (by rw [if_pos hc] at h; exact h) H locs ls hP hS hl) (fun hc => kf hc (by rw [if_neg hc] at h; exact h) H locs ls hP hS hl)
theorem qy_icmp_gt (X : qy_X p s m args meth c own cc nL ret G h0 ns ao) {x y : Int32} {off : Int} {tgt : Nat} (ht : (pc : Int) + off = (tgt : Int)) (d : decode cc pc = .ok (.if_icmp .gt off, 3)) {α : Type} {r : α} {fa fb : Option α} {dc : Decidable (y < x)} (h : @ite (Option α) (y < x) dc fa fb = some r)
    (kt : y < x → fa = some r → qy_W p l e R s m args below meth c Q G h0 H0 m0 nL N tgt lv st) (kf : ¬ (y < x) → fb = some r → qy_W p l e R s m args below meth c Q G h0 H0 m0 nL N (pc + 3) lv st) : qy_W p l e R s m args below meth c Q G h0 H0 m0 nL N pc lv (.int y :: .int x :: st) := fun H locs ls hP hS hl => lv_icmp_gt X.1 X.2.1 d ht (fun hc => kt hc (by rw [if_pos hc] at h; exact h) H locs ls hP hS hl) (fun hc => kf hc (by rw [if_neg hc] at h; exact h) H locs ls hP hS hl)
theorem qy_goto (X : qy_X p s m args meth c own cc nL ret G h0 ns ao) {off : Int} {tgt : Nat} (ht : (pc : Int) + off = (tgt : Int)) (d : decode cc pc = .ok (.goto off, 3)) (kk : qy_W p l e R s m args below meth c Q G h0 H0 m0 nL N tgt lv st) : qy_W p l e R s m args below meth c Q G h0 H0 m0 nL N pc lv st := fun H locs ls hP hS hl => lv_goto X.1 X.2.1 d ht (kk H locs ls hP hS hl)
theorem qy_leti {x : Int32} {α : Type} {r : α} {Kf : Int32 → Option α} (h : qz_let x Kf = some r) (kk : ∀ v, Kf v = some r → qy_W p l e R s m args below meth c Q G h0 H0 m0 nL N pc lv (.int v :: st)) : qy_W p l e R s m args below meth c Q G h0 H0 m0 nL N pc lv (.int x :: st) := kk x h
theorem qy_iinc_l (X : qy_X p s m args meth c own cc nL ret G h0 ns ao) {i k : Nat} {n : Int} {x u : Int32} {lv' : Int32 → List (Nat × Value)} (hk : lv[k]? = some (i, .int x)) (hv : Int32.ofInt n = u) (hn : i < nL) (hl : ∀ v, (i, Value.int v) :: lv.filter (fun q => !(q.1 == i) && !(q.1 + 1 == i && q.2.category == 2)) = lv' v) (d : decode cc pc = .ok (.iinc i n, 3)) {α : Type} {r : α} {Kf : Int32 → Option α} (h : qz_let (x + u) Kf = some r)
    (kk : ∀ v, Kf v = some r → qy_W p l e R s m args below meth c Q G h0 H0 m0 nL N (pc + 3) (lv' v) st) : qy_W p l e R s m args below meth c Q G h0 H0 m0 nL N pc lv st := fun H locs ls hP hS hl2 => lv_iinc X.1 X.2.1 d hl2 hk (by rw [hv]) hn (hl _) (fun ls' h' => kk _ h H locs ls' hP hS h')
theorem qy_get (X : qy_X p s m args meth c own cc nL ret G h0 ns ao) {index c0 k cnt i : Nat} {t : FieldType × Nat} {fin : Bool} {v : Value} (F : qz_Fd own index c0 k cnt t fin) (hi : i < N.2.2.1 c0) (hv : qy_fv G.2.2 N c0 i k t = v) (d : decode cc pc = .ok (.getfield index, 3))
    (kk : qy_W p l e R s m args below meth c Q G h0 H0 m0 nL N (pc + 3) lv (v :: st)) : qy_W p l e R s m args below meth c Q G h0 H0 m0 nL N pc lv (.ref (G.2.2 c0 i) :: st) := by
  obtain ⟨hx, hb, hml, hown, hts, hK, hD, -, -, -⟩ := X
  obtain ⟨ci, ts, C, T, n, ty0, h1, h2, h3, h4, h5, h6, h7, h8, h9, h10, h11⟩ := F
  intro H locs ls hP hS hl
  have hp := hP.2.1 c0 i _ h1 hi
  refine va_get (D := G.1) (cl := qz_cl) (tys := []) (ws := [(G.2.2 c0 i, .inr (ci, qy_fs G.2.2 N c0 i 0 ts))]) hx hb hts h3 hown hK.1.1 (fun k q hq => ?_) 0 rfl h2 k h4 (hts _ h6) (fun _ h => h) (v := v) ?_ d (kk H locs ls hP hS hl)
  · cases k with
    | zero => cases hq; exact hp
    | succ k => simp at hq
  · rw [qy_fs_at G.2.2 N c0 i ts 0 k t h5, Nat.zero_add, hv]
theorem qy_put (X : qy_X p s m args meth c own cc nL ret G h0 ns ao) {N' : qy_M} {index c0 k cnt i : Nat} {t : FieldType × Nat} {v : Value} {fin : Bool} (F : qz_Fd own index c0 k cnt t fin) (hfin : fin = false ∨ (meth.name = "<init>" ∧ ∃ ci C T n, qz_tb[c0]? = some (cnt, .inl (ci, C)) ∧ qz_cl[ci]? = some (own, T, n) ∧ (T k).1 = own)) (hi : i < N.2.2.1 c0) (hv : qy_fv G.2.2 N' c0 i k t = v) (ho : ∀ j, j ≠ k → qz_gi N'.2.2.2.2 c0 i j = qz_gi N.2.2.2.2 c0 i j ∧ qz_gl N'.2.2.2.2 c0 i j = qz_gl N.2.2.2.2 c0 i j ∧ N'.2.2.2.1 c0 i j = N.2.2.2.1 c0 i j) (hN : qy_but N N' c0 i) (hn : narrow t.1 v = v) (hfit : fits t.1 v = true) (d : decode cc pc = .ok (.putfield index, 3))
    (kk : qy_W p l e R s m args below meth c Q G h0 H0 m0 nL N' (pc + 3) lv st) : qy_W p l e R s m args below meth c Q G h0 H0 m0 nL N pc lv (v :: .ref (G.2.2 c0 i) :: st) := by
  obtain ⟨hx, hb, hml, hown, hts, hK, hD, -, -, hG⟩ := X
  obtain ⟨ci, ts, C, T, n, ty0, h1, h2, h3, h4, h5, h6, h7, h8, h9, h10, h11⟩ := F
  intro H locs ls hP hS hl
  have hap := va_apart (own := own) hts h3 ty0 h7 h8 hK.1.1 h2
  obtain ⟨r, g1, cell, q1, q2, q3, q4⟩ := hP.2.1 c0 i _ h1 hi
  have hr : r = (C, T, n) := Option.some.inj (g1.symm.trans h2)
  subst hr
  obtain ⟨hSl, hfc, kC, hkC, hkind⟩ := hK.1.1.1 ci _ h2
  obtain ⟨cf, kf, fi, f, hfi, hsl⟩ := hSl k h4
  have hst := (u_facts hfc hkC (u_lays hts h3 h4) hfi).1
  have hkl : k < (qy_fs G.2.2 N c0 i 0 ts).length := by rw [qy_fs_len, h11]; exact h4
  have key : ∀ H' : Heap, H'[G.2.2 c0 i]? = some (cell.setSlot (G.1.2 ci k) v) → H'.size = H.size → (∀ q, q ≠ G.2.2 c0 i → H'[q]? = H[q]?) → W p l e R s m args below meth c H' (locs ++ [⟨G.2.2 c0 i, G.1.2 ci k⟩]) (N.1 - m0.1) (N.2.1 - m0.2) Q (F0 m (pc + 3) ls st) := by
    intro H' e1 e2 e3
    have hk2 := kk H' (locs ++ [⟨G.2.2 c0 i, G.1.2 ci k⟩]) ls (hP.set hD h1 hi hN (by
      show ∃ r : vw_C, qz_cl[ci]? = some r ∧ _
      refine ⟨_, h2, ?_⟩
      show t_OB (G.2.2 c0 i) (G.1.1 ci) n (G.1.2 ci) H' (vp_V (qy_fs G.2.2 N' c0 i 0 ts))
      rw [qy_fs_set h5 hv ho]
      exact t_OB.to (V := updV (vp_V (qy_fs G.2.2 N c0 i 0 ts)) k v) ⟨_, e1, q2, q3, t_set q4 hap h4 v⟩ (fun j _ => vp_updV_set hkl v j)) e2 e3) (hS.put e3 (by rw [hG]; exact Nat.le_add_right _ _)) hl
    rw [hN.1, hN.2.1] at hk2
    exact hk2
  cases fin with
  | false =>
    have hlay := hts _ (h3 _ (u_in_lay h4))
    unfold u_lay at hlay
    rw [if_neg (by rw [h9]; decide)] at hlay
    have h6' := u_store hfc hkC hkind hlay hfi h10 hn hfit
    refine W.putK hx hb (f := f) ⟨hown, hts _ h6, ⟨_, _, _, hfi⟩, hst⟩ (by rw [q2]; exact h6') q1 q3 (by rw [hsl]; exact k2_hasslot (q4 k h4)) rfl rfl d fun H' e1 e2 e3 => ?_
    rw [hsl] at e1 ⊢
    exact key H' e1 e2 e3
  | true =>
    rcases hfin with hfin | ⟨hin2, ci', C', T', n', z1, z2, z3⟩
    · cases hfin
    · cases h1.symm.trans z1
      cases h2.symm.trans z2
      have hlay := hts _ (h3 _ (u_in_lay h4))
      unfold u_lay at hlay
      rw [if_pos h9] at hlay
      have hcf : m.cls = cf := by
        obtain ⟨_, _, c', _, _, _, -, -, hf', -, -, -, hown2, -⟩ := Cond.laysFinal_spec hlay
        have e1 : c' = cf := by have := hfi.symm.trans hf'; simp at this; exact this.1.symm
        rw [z3] at hown2
        rw [← e1]; exact Option.some.inj (hown.symm.trans hown2)
      have h6' := u_fits hfc hkC hkind (Or.inr hlay) hfi h10 hn hfit
      refine W.putFinK hx hb hown (hts _ h6) hfi hst hcf hin2 (by rw [q2]; exact h6') q1 q3 (by rw [hsl]; exact k2_hasslot (q4 k h4)) rfl rfl d fun H' e1 e2 e3 => ?_
      rw [hsl] at e1 ⊢
      exact key H' e1 e2 e3
theorem qy_putR (X : qy_X p s m args meth c own cc nL ret G h0 ns ao) {index c0 k cnt i j tg : Nat} {t : FieldType} {fin : Bool} (ht : t.isReference = true) (F : qz_Fd own index c0 k cnt (t, tg) fin) (hfin : fin = false ∨ (meth.name = "<init>" ∧ ∃ ci C T n, qz_tb[c0]? = some (cnt, .inl (ci, C)) ∧ qz_cl[ci]? = some (own, T, n) ∧ (T k).1 = own)) (d : decode cc pc = .ok (.putfield index, 3)) {α : Type} {r : α} {Kf : qy_M → Option α} {dc : Decidable (j = i ∧ i < N.2.2.1 c0)} (h : @ite (Option α) (j = i ∧ i < N.2.2.1 c0) dc (qz_let (qy_mk N c0 i k) Kf) none = some r)
    (kk : ∀ N', Kf N' = some r → qy_W p l e R s m args below meth c Q G h0 H0 m0 nL N' (pc + 3) lv st) : qy_W p l e R s m args below meth c Q G h0 H0 m0 nL N pc lv (.ref (G.2.2 tg j) :: .ref (G.2.2 c0 i) :: st) := by
  by_cases hc : j = i ∧ i < N.2.2.1 c0
  · rw [if_pos hc] at h
    obtain ⟨rfl, hi⟩ := hc
    have hm : (qy_mk N c0 j k).2.2.2.1 c0 j k = true := by show qz_u3 _ c0 j k true c0 j k = true; unfold qz_u3; rw [if_pos ⟨rfl, rfl, rfl⟩]
    refine qy_put X (N' := qy_mk N c0 j k) F hfin hi ?_ (fun q hq => ⟨rfl, rfl, by show qz_u3 _ c0 j k true c0 j q = _; unfold qz_u3; rw [if_neg (fun z => hq z.2.2)]⟩) (qy_but_mk N c0 j k) ?_ ?_ d (kk _ h)
    · cases t <;> first | (simp [FieldType.isReference] at ht; done) | (show (if _ then _ else _) = _; rw [if_pos hm])
    · cases t <;> first | (simp [FieldType.isReference] at ht; done) | rfl
    · cases t <;> first | (simp [FieldType.isReference] at ht; done) | rfl
  · rw [if_neg hc] at h; cases h
theorem qy_putI (X : qy_X p s m args meth c own cc nL ret G h0 ns ao) {index c0 k cnt i tg : Nat} {v : Int32} (F : qz_Fd own index c0 k cnt (.int, tg) false) (d : decode cc pc = .ok (.putfield index, 3)) {α : Type} {r : α} {Kf : qy_M → Option α} {dc : Decidable (i < N.2.2.1 c0)} (h : @ite (Option α) (i < N.2.2.1 c0) dc (qz_let (qy_sN N (qz_si N.2.2.2.2 c0 i k v)) Kf) none = some r)
    (kk : ∀ N', Kf N' = some r → qy_W p l e R s m args below meth c Q G h0 H0 m0 nL N' (pc + 3) lv st) : qy_W p l e R s m args below meth c Q G h0 H0 m0 nL N pc lv (.int v :: .ref (G.2.2 c0 i) :: st) := by
  by_cases hi : i < N.2.2.1 c0
  · rw [if_pos hi] at h
    exact qy_put X (N' := qy_sN N (qz_si N.2.2.2.2 c0 i k v)) F (Or.inl rfl) hi (by show Value.int _ = _; unfold qy_sN; rw [qz_gi_si, if_pos ⟨rfl, rfl, rfl⟩]) (fun j hj => ⟨by unfold qy_sN; rw [qz_gi_si, if_neg (fun z => hj z.2.2)], rfl, rfl⟩) (qy_but_sN (qz_but_si _ c0 i k v)) rfl rfl d (kk _ h)
  · rw [if_neg hi] at h; cases h
theorem qy_putJ (X : qy_X p s m args meth c own cc nL ret G h0 ns ao) {index c0 k cnt i tg : Nat} {v : Int64} (F : qz_Fd own index c0 k cnt (.long, tg) false) (d : decode cc pc = .ok (.putfield index, 3)) {α : Type} {r : α} {Kf : qy_M → Option α} {dc : Decidable (i < N.2.2.1 c0)} (h : @ite (Option α) (i < N.2.2.1 c0) dc (qz_let (qy_sN N (qz_sl N.2.2.2.2 c0 i k v)) Kf) none = some r)
    (kk : ∀ N', Kf N' = some r → qy_W p l e R s m args below meth c Q G h0 H0 m0 nL N' (pc + 3) lv st) : qy_W p l e R s m args below meth c Q G h0 H0 m0 nL N pc lv (.long v :: .ref (G.2.2 c0 i) :: st) := by
  by_cases hi : i < N.2.2.1 c0
  · rw [if_pos hi] at h
    exact qy_put X (N' := qy_sN N (qz_sl N.2.2.2.2 c0 i k v)) F (Or.inl rfl) hi (by show Value.long _ = _; unfold qy_sN; rw [qz_gl_sl, if_pos ⟨rfl, rfl, rfl⟩]) (fun j hj => ⟨rfl, by unfold qy_sN; rw [qz_gl_sl, if_neg (fun z => hj z.2.2)], rfl⟩) (qy_but_sN (qz_but_sl _ c0 i k v)) rfl rfl d (kk _ h)
  · rw [if_neg hi] at h; cases h
theorem qy_new (X : qy_X p s m args meth c own cc nL ret G h0 ns ao) {index c0 cnt ci n K KS : Nat} {ts : List (FieldType × Nat)} {C : String} {T : u_T} {ty : Nat → FieldType} (hR : R.cells = K ∧ R.slots = KS) (h1 : qz_tb[c0]? = some (cnt, .inl (ci, ts))) (h2 : qz_cl[ci]? = some (C, T, n)) (h3 : ∀ w ∈ u_ws C T n, w ∈ qz_T) (hty : ∀ k, k < n → parseFieldDescriptor (T k).2.2.1 = some (ty k)) (hts2 : ∀ k, k < n → ∃ t, ts[k]? = some t ∧ t.1 = ty k ∧ qy_okt t.1 = true) (hw : Cond.classLink own index C ∈ qz_T ∧ Cond.instantiable C n ∈ qz_T ∧ Cond.initialized C ∈ qz_T) (d : decode cc pc = .ok (.new index, 3)) {α : Type} {r : α} {Kf : qy_M → Option α} {dc : Decidable (qy_of c0 (N.2.2.1 c0) = N.1 ∧ N.2.2.1 c0 < cnt ∧ m0.1 ≤ N.1 ∧ m0.2 ≤ N.2.1 ∧ N.1 + 1 ≤ m0.1 + K ∧ N.2.1 + n ≤ m0.2 + KS)} (h : @ite (Option α) (qy_of c0 (N.2.2.1 c0) = N.1 ∧ N.2.2.1 c0 < cnt ∧ m0.1 ≤ N.1 ∧ m0.2 ≤ N.2.1 ∧ N.1 + 1 ≤ m0.1 + K ∧ N.2.1 + n ≤ m0.2 + KS) dc (qz_let (qy_add N c0 n) Kf) none = some r)
    (kk : Kf (qy_add N c0 n) = some r → qy_W p l e R s m args below meth c Q G h0 H0 m0 nL (qy_add N c0 n) (pc + 3) lv (.ref (G.2.2 c0 (N.2.2.1 c0)) :: st)) : qy_W p l e R s m args below meth c Q G h0 H0 m0 nL N pc lv st := by
  by_cases hc : qy_of c0 (N.2.2.1 c0) = N.1 ∧ N.2.2.1 c0 < cnt ∧ m0.1 ≤ N.1 ∧ m0.2 ≤ N.2.1 ∧ N.1 + 1 ≤ m0.1 + K ∧ N.2.1 + n ≤ m0.2 + KS
  · rw [if_pos hc] at h
    obtain ⟨hx, hb, hml, hown, hts, hK, hD, -, -, hG⟩ := X
    intro H locs ls hP hS hl
    have hsz : H.size = G.2.2 c0 (N.2.2.1 c0) := by rw [hP.1, hG, hc.1]
    have hKn := hK.1.1.1 ci _ h2
    refine W.newcK hx hb hown (hts _ hw.1) (hts _ hw.2.1) (hts _ hw.2.2) rfl d (by rw [hR.1]; omega) (by rw [hR.2]; omega) hKn.2.1 rfl fun H1 kC hkC e1 z1 o1 => ?_
    have hk2 := kk h H1 locs ls (hP.add (n := n) h1 hc.2.1 (by
      rw [← hsz]
      show ∃ r : vw_C, qz_cl[ci]? = some r ∧ _
      refine ⟨_, h2, (u_born ty hts h3 hKn hkC e1 hty).to (fun j hj => ?_)⟩
      obtain ⟨t, g1, g2, g3⟩ := hts2 j hj
      show defaultValue (ty j) = (qy_fs G.2.2 N c0 (N.2.2.1 c0) 0 ts).getD j .null
      rw [List.getD_eq_getElem?_getD, qy_fs_at G.2.2 N c0 (N.2.2.1 c0) ts 0 j t g1, Nat.zero_add, ← g2]
      exact qy_fv_zero (hP.2.2.1 c0 _ j (Nat.le_refl _)) g3) z1 o1) (hS.push (by rw [hP.1]; exact Nat.le_add_right _ _) o1) hl
    have a1 : (qy_add N c0 n).1 - m0.1 = N.1 - m0.1 + 1 := by show N.1 + 1 - m0.1 = _; omega
    have a2 : (qy_add N c0 n).2.1 - m0.2 = N.2.1 - m0.2 + n := by show N.2.1 + n - m0.2 = _; omega
    rw [a1, a2, ← hsz] at hk2
    exact hk2
  · rw [if_neg hc] at h; cases h
theorem qy_newa (X : qy_X p s m args meth c own cc nL ret G h0 ns ao) {c0 cnt L K KS : Nat} {tg : Nat} {ty : FieldType} {atype : ArrayType} {x : Int32} (hR : R.cells = K ∧ R.slots = KS) (hat : newarray.typeOf atype = ty) (hprim : ty = .long ∨ ty = .int ∨ ty = .boolean) (h1 : qz_tb[c0]? = some (cnt, .inr (L, ty, tg))) (hx0 : ¬ x < 0 ∧ x.toNatClampNeg = L ∧ L * componentBytes ty ≤ 536870912) (hw : Cond.arrayClass ty ∈ qz_T) (d : decode cc pc = .ok (.newarray atype, 2)) {α : Type} {r : α} {Kf : qy_M → Option α} {dc : Decidable (qy_of c0 (N.2.2.1 c0) = N.1 ∧ N.2.2.1 c0 < cnt ∧ m0.1 ≤ N.1 ∧ m0.2 ≤ N.2.1 ∧ N.1 + 1 ≤ m0.1 + K ∧ N.2.1 + L ≤ m0.2 + KS)} (h : @ite (Option α) (qy_of c0 (N.2.2.1 c0) = N.1 ∧ N.2.2.1 c0 < cnt ∧ m0.1 ≤ N.1 ∧ m0.2 ≤ N.2.1 ∧ N.1 + 1 ≤ m0.1 + K ∧ N.2.1 + L ≤ m0.2 + KS) dc (qz_let (qy_add N c0 L) Kf) none = some r)
    (kk : Kf (qy_add N c0 L) = some r → qy_W p l e R s m args below meth c Q G h0 H0 m0 nL (qy_add N c0 L) (pc + 2) lv (.ref (G.2.2 c0 (N.2.2.1 c0)) :: st)) : qy_W p l e R s m args below meth c Q G h0 H0 m0 nL N pc lv (.int x :: st) := by
  by_cases hc : qy_of c0 (N.2.2.1 c0) = N.1 ∧ N.2.2.1 c0 < cnt ∧ m0.1 ≤ N.1 ∧ m0.2 ≤ N.2.1 ∧ N.1 + 1 ≤ m0.1 + K ∧ N.2.1 + L ≤ m0.2 + KS
  · rw [if_pos hc] at h
    subst hat
    obtain ⟨hx, hb, hml, hown, hts, hK, hD, -, -, hG⟩ := X
    intro H locs ls hP hS hl
    have hsz : H.size = G.2.2 c0 (N.2.2.1 c0) := by rw [hP.1, hG, hc.1]
    refine va_newaK hx hb (hts _ hw) rfl d rfl hx0.1 hx0.2.1 hx0.2.2 (by rw [hR.1]; omega) (by rw [hR.2]; omega) rfl fun H1 cA e1 z1 o1 hAr hNm => ?_
    have hcA : cA = G.2.1 c0 := by
      have hra := hK.2.1 c0 _ _ h1 rfl
      have hra2 : s.vm.findClass ("[" ++ (newarray.typeOf atype).toString) = some (G.2.1 c0) := by
        rcases hprim with hp | hp | hp <;> (rw [hp] at hra ⊢; exact hra)
      exact Option.some.inj (hNm.symm.trans hra2)
    have hk2 := kk h H1 locs ls (hP.add (n := L) h1 hc.2.1 (by
      rw [← hsz]
      show H1[H.size]? = some (vp_cell (G.2.1 c0) (L, qy_ar G.2.2 N c0 (N.2.2.1 c0) (newarray.typeOf atype, tg)))
      rw [e1, hcA]
      have hz := fun j => hP.2.2.1 c0 (N.2.2.1 c0) j (Nat.le_refl _)
      rcases hprim with hp | hp | hp <;> rw [hp] <;> simp [qy_ar, vp_cell, hz, defaultValue]) z1 o1) (hS.push (by rw [hP.1]; exact Nat.le_add_right _ _) o1) hl
    have a1 : (qy_add N c0 L).1 - m0.1 = N.1 - m0.1 + 1 := by show N.1 + 1 - m0.1 = _; omega
    have a2 : (qy_add N c0 L).2.1 - m0.2 = N.2.1 - m0.2 + L := by show N.2.1 + L - m0.2 = _; omega
    rw [a1, a2, ← hsz] at hk2
    exact hk2
  · rw [if_neg hc] at h; cases h
theorem qy_newq (X : qy_X p s m args meth c own cc nL ret G h0 ns ao) {index c0 cnt L K KS : Nat} {tg : Nat} {C : String} {x : Int32} (hR : R.cells = K ∧ R.slots = KS) (h1 : qz_tb[c0]? = some (cnt, .inr (L, .object C, tg))) (hx0 : ¬ x < 0 ∧ x.toNatClampNeg = L ∧ L * 4 ≤ 536870912) (hw : Cond.classLink own index C ∈ qz_T) (hao : C ∈ ao) (d : decode cc pc = .ok (.anewarray index, 3)) {α : Type} {r : α} {Kf : qy_M → Option α} {dc : Decidable (qy_of c0 (N.2.2.1 c0) = N.1 ∧ N.2.2.1 c0 < cnt ∧ m0.1 ≤ N.1 ∧ m0.2 ≤ N.2.1 ∧ N.1 + 1 ≤ m0.1 + K ∧ N.2.1 + L ≤ m0.2 + KS)} (h : @ite (Option α) (qy_of c0 (N.2.2.1 c0) = N.1 ∧ N.2.2.1 c0 < cnt ∧ m0.1 ≤ N.1 ∧ m0.2 ≤ N.2.1 ∧ N.1 + 1 ≤ m0.1 + K ∧ N.2.1 + L ≤ m0.2 + KS) dc (qz_let (qy_add N c0 L) Kf) none = some r)
    (kk : Kf (qy_add N c0 L) = some r → qy_W p l e R s m args below meth c Q G h0 H0 m0 nL (qy_add N c0 L) (pc + 3) lv (.ref (G.2.2 c0 (N.2.2.1 c0)) :: st)) : qy_W p l e R s m args below meth c Q G h0 H0 m0 nL N pc lv (.int x :: st) := by
  by_cases hc : qy_of c0 (N.2.2.1 c0) = N.1 ∧ N.2.2.1 c0 < cnt ∧ m0.1 ≤ N.1 ∧ m0.2 ≤ N.2.1 ∧ N.1 + 1 ≤ m0.1 + K ∧ N.2.1 + L ≤ m0.2 + KS
  · rw [if_pos hc] at h
    obtain ⟨hx, hb, hml, hown, hts, hK, hD, -, -, hG⟩ := X
    obtain ⟨hx1, rfl, hx3⟩ := hx0
    intro H locs ls hP hS hl
    have hsz : H.size = G.2.2 c0 (N.2.2.1 c0) := by rw [hP.1, hG, hc.1]
    refine W.anew hx hb hown (hts _ hw) (va_AO.use (hK.2.2.2 C hao)) rfl d rfl hx1 hx3 (by rw [hR.1]; omega) (by rw [hR.2]; omega) fun cA kA comp f1 f2 f3 f4 => ?_
    generalize hH1 : H.push ({ cls := cA, slots := Array.replicate x.toNatClampNeg .null, vm := .none } : Cell) = H1
    have z1 : H1.size = H.size + 1 := by rw [← hH1, Array.size_push]
    have e1 : H1[H.size]? = some (arrV cA x.toNatClampNeg (fun _ => .null)) := by rw [← hH1, Array.getElem?_push_size, ← arrV_new]
    have o1 : ∀ q : Nat, q < H.size → H1[q]? = H[q]? := fun q hq => by rw [← hH1, Array.getElem?_push, if_neg (Nat.ne_of_lt hq)]
    have hcA : cA = G.2.1 c0 := by
      obtain ⟨kA', comp', -, -, -, hra⟩ := hK.2.1 c0 _ _ h1 rfl
      exact Option.some.inj (f1.symm.trans hra)
    have hk2 := kk h H1 locs ls (hP.add (n := x.toNatClampNeg) h1 hc.2.1 (by
      rw [← hsz]
      show H1[H.size]? = some (vp_cell (G.2.1 c0) (x.toNatClampNeg, qy_ar G.2.2 N c0 (N.2.2.1 c0) (FieldType.object C, tg)))
      rw [e1, hcA]
      have hz := fun j => (hP.2.2.1 c0 (N.2.2.1 c0) j (Nat.le_refl _)).1
      simp [qy_ar, vp_cell, hz, va_rf]) z1 o1) (hS.push (by rw [hP.1]; exact Nat.le_add_right _ _) o1) hl
    have a1 : (qy_add N c0 x.toNatClampNeg).1 - m0.1 = N.1 - m0.1 + 1 := by show N.1 + 1 - m0.1 = _; omega
    have a2 : (qy_add N c0 x.toNatClampNeg).2.1 - m0.2 = N.2.1 - m0.2 + x.toNatClampNeg := by show N.2.1 + x.toNatClampNeg - m0.2 = _; omega
    rw [a1, a2, ← hsz] at hk2
    exact hk2
  · rw [if_neg hc] at h; cases h

theorem qy_last (X : qy_X p s m args meth c own cc nL ret G h0 ns ao) {c0 i cnt n tg : Nat} {x : Int32} {v : Int64} (ha : qz_tb[c0]? = some (cnt, .inr (n, .long, tg))) (d : decode cc pc = .ok (.lastore, 1)) {α : Type} {r : α} {Kf : qy_M → Option α} {dc : Decidable (¬ (x < 0 ∨ n ≤ x.toNatClampNeg) ∧ i < N.2.2.1 c0)} (h : @ite (Option α) (¬ (x < 0 ∨ n ≤ x.toNatClampNeg) ∧ i < N.2.2.1 c0) dc (qz_let (qy_sN N (qz_sl N.2.2.2.2 c0 i x.toNatClampNeg v)) Kf) none = some r)
    (kk : ∀ N', Kf N' = some r → qy_W p l e R s m args below meth c Q G h0 H0 m0 nL N' (pc + 1) lv st) : qy_W p l e R s m args below meth c Q G h0 H0 m0 nL N pc lv (.long v :: .int x :: .ref (G.2.2 c0 i) :: st) := by
  by_cases hc : ¬ (x < 0 ∨ n ≤ x.toNatClampNeg) ∧ i < N.2.2.1 c0
  · rw [if_pos hc] at h
    obtain ⟨hin, hi⟩ := hc
    intro H locs ls hP hS hl
    have hp : H[G.2.2 c0 i]? = some (arrV (G.2.1 c0) n (fun j => .long (qz_gl N.2.2.2.2 c0 i j))) := hP.2.1 c0 i _ ha hi
    refine W.last X.1 X.2.1 hp ((X.2.2.2.2.2.1.1.2 c0 _ _ ha rfl) n _) (fun q => by cases q) (by rw [arrV_size]; exact hin) rfl rfl d fun H1 e z oq => ?_
    refine kk _ h H1 _ ls (hP.set X.2.2.2.2.2.2.1 ha hi (qy_but_sN (qz_but_sl _ c0 i x.toNatClampNeg v)) ?_ z oq) (hS.put oq (by rw [X.2.2.2.2.2.2.2.2.2]; exact Nat.le_add_right _ _)) hl
    show H1[G.2.2 c0 i]? = some (arrV (G.2.1 c0) n (fun j => .long (qz_gl (qz_sl N.2.2.2.2 c0 i x.toNatClampNeg v) c0 i j)))
    rw [e, arrV_store]
    congr 2
    funext q
    by_cases hq : q = x.toNatClampNeg
    · subst hq
      simp [updV, qz_sl, qz_gl, qz_u3]
    · simp [updV, qz_sl, qz_gl, qz_u3, hq]
  · rw [if_neg hc] at h; cases h
theorem qy_iast (X : qy_X p s m args meth c own cc nL ret G h0 ns ao) {c0 i cnt n tg : Nat} {x : Int32} {v : Int32} (ha : qz_tb[c0]? = some (cnt, .inr (n, .int, tg))) (d : decode cc pc = .ok (.iastore, 1)) {α : Type} {r : α} {Kf : qy_M → Option α} {dc : Decidable (¬ (x < 0 ∨ n ≤ x.toNatClampNeg) ∧ i < N.2.2.1 c0)} (h : @ite (Option α) (¬ (x < 0 ∨ n ≤ x.toNatClampNeg) ∧ i < N.2.2.1 c0) dc (qz_let (qy_sN N (qz_si N.2.2.2.2 c0 i x.toNatClampNeg v)) Kf) none = some r)
    (kk : ∀ N', Kf N' = some r → qy_W p l e R s m args below meth c Q G h0 H0 m0 nL N' (pc + 1) lv st) : qy_W p l e R s m args below meth c Q G h0 H0 m0 nL N pc lv (.int v :: .int x :: .ref (G.2.2 c0 i) :: st) := by
  by_cases hc : ¬ (x < 0 ∨ n ≤ x.toNatClampNeg) ∧ i < N.2.2.1 c0
  · rw [if_pos hc] at h
    obtain ⟨hin, hi⟩ := hc
    intro H locs ls hP hS hl
    have hp : H[G.2.2 c0 i]? = some (arrV (G.2.1 c0) n (fun j => .int (qz_gi N.2.2.2.2 c0 i j))) := hP.2.1 c0 i _ ha hi
    refine W.iast X.1 X.2.1 hp ((X.2.2.2.2.2.1.1.2 c0 _ _ ha rfl) n _) (fun q => by cases q) (by rw [arrV_size]; exact hin) rfl rfl d fun H1 e z oq => ?_
    refine kk _ h H1 _ ls (hP.set X.2.2.2.2.2.2.1 ha hi (qy_but_sN (qz_but_si _ c0 i x.toNatClampNeg v)) ?_ z oq) (hS.put oq (by rw [X.2.2.2.2.2.2.2.2.2]; exact Nat.le_add_right _ _)) hl
    show H1[G.2.2 c0 i]? = some (arrV (G.2.1 c0) n (fun j => .int (qz_gi (qz_si N.2.2.2.2 c0 i x.toNatClampNeg v) c0 i j)))
    rw [e, arrV_store]
    congr 2
    funext q
    by_cases hq : q = x.toNatClampNeg
    · subst hq
      simp [updV, qz_si, qz_gi, qz_u3]
    · simp [updV, qz_si, qz_gi, qz_u3, hq]
  · rw [if_neg hc] at h; cases h
theorem qy_aast (X : qy_X p s m args meth c own cc nL ret G h0 ns ao) {c0 i cnt n tg j cnt2 ci : Nat} {ts : List (FieldType × Nat)} {T : u_T} {nf : Nat} {C : String} {x : Int32} (ha : qz_tb[c0]? = some (cnt, .inr (n, .object C, tg))) (h2 : qz_tb[tg]? = some (cnt2, .inl (ci, ts))) (h3 : qz_cl[ci]? = some (C, T, nf)) (d : decode cc pc = .ok (.aastore, 1)) {α : Type} {r : α} {Kf : qy_M → Option α} {dc : Decidable (¬ (x < 0 ∨ n ≤ x.toNatClampNeg) ∧ i < N.2.2.1 c0 ∧ j = x.toNatClampNeg ∧ j < N.2.2.1 tg)} (h : @ite (Option α) (¬ (x < 0 ∨ n ≤ x.toNatClampNeg) ∧ i < N.2.2.1 c0 ∧ j = x.toNatClampNeg ∧ j < N.2.2.1 tg) dc (qz_let (qy_mk N c0 i x.toNatClampNeg) Kf) none = some r)
    (kk : ∀ N', Kf N' = some r → qy_W p l e R s m args below meth c Q G h0 H0 m0 nL N' (pc + 1) lv st) : qy_W p l e R s m args below meth c Q G h0 H0 m0 nL N pc lv (.ref (G.2.2 tg j) :: .int x :: .ref (G.2.2 c0 i) :: st) := by
  by_cases hc : ¬ (x < 0 ∨ n ≤ x.toNatClampNeg) ∧ i < N.2.2.1 c0 ∧ j = x.toNatClampNeg ∧ j < N.2.2.1 tg
  · rw [if_pos hc] at h
    obtain ⟨hin, hi, rfl, hj⟩ := hc
    have hlt : x.toNatClampNeg < n := Nat.not_le.mp fun q => hin (Or.inr q)
    have h0' : ¬ x < 0 := fun q => hin (Or.inl q)
    intro H locs ls hP hS hl
    have hp : H[G.2.2 c0 i]? = some (arrV (G.2.1 c0) n (fun j => va_rf (if N.2.2.2.1 c0 i j = true then some (G.2.2 tg j) else none))) := hP.2.1 c0 i _ ha hi
    obtain ⟨r', hr', cellV, g1, g2, g3, -⟩ := hP.2.1 tg _ _ h2 hj
    have hcls := (X.2.2.2.2.2.1.1.1.1 ci _ h3).2
    obtain ⟨kA, comp, k1, k2, k3, -⟩ := X.2.2.2.2.2.1.2.1 c0 _ _ ha rfl
    have hcomp : comp = G.1.1 ci := Option.some.inj (k3.symm.trans hcls.1)
    subst hcomp
    obtain ⟨kC, hkC, -⟩ := hcls.2
    refine W.aast X.1 X.2.1 hp (fun q h => by cases h) (fun h => by cases h) k1 k2 rfl hkC ⟨h0', by rw [arrV_size]; exact hlt⟩ g1 (fun q h => by rw [g3] at h; cases h) (by rw [g2]; exact hkC) (by rw [g2]; exact va_assign hcls) rfl rfl d fun H1 e z oq => ?_
    refine kk _ h H1 _ ls (hP.set X.2.2.2.2.2.2.1 ha hi (qy_but_mk N c0 i x.toNatClampNeg) ?_ z oq) (hS.put oq (by rw [X.2.2.2.2.2.2.2.2.2]; exact Nat.le_add_right _ _)) hl
    show H1[G.2.2 c0 i]? = some (arrV (G.2.1 c0) n (fun j => va_rf (if (qy_mk N c0 i x.toNatClampNeg).2.2.2.1 c0 i j = true then some (G.2.2 tg j) else none)))
    rw [e, arrV_store]
    congr 2
    funext q
    by_cases hq : q = x.toNatClampNeg
    · subst hq
      simp [updV, qy_mk, qz_u3, va_rf]
    · simp [updV, qy_mk, qz_u3, hq]
  · rw [if_neg hc] at h; cases h
theorem qy_obj (X : qy_X p s m args meth c own cc nL ret G h0 ns ao) {index a : Nat} (hw : Cond.methodLink own index Lib.objectInit ∈ qz_T ∧ Cond.instanceMethod Lib.objectInit ∈ qz_T ∧ Cond.code Lib.objectInit ⟨#[0xb1]⟩ 1 none ∈ qz_T) (hR : 1 ≤ R.frames ∧ 20 ≤ R.locals) (hs : (st.map fun v => v.category).sum ≤ 8) (d : decode cc pc = .ok (.invokespecial index, 3)) (kk : qy_W p l e R s m args below meth c Q G h0 H0 m0 nL N (pc + 3) lv st) : qy_W p l e R s m args below meth c Q G h0 H0 m0 nL N pc lv (.ref a :: st) := by
  intro H locs ls hP hS hl
  refine W.objInit X.1 X.2.1 X.2.2.2.1 (X.2.2.2.2.1 _ hw.1) (X.2.2.2.2.1 _ hw.2.1) (X.2.2.2.2.1 _ hw.2.2) rfl (by rw [X.2.2.1]; exact hl.1) rfl d hR.1 ?_ (kk H locs ls hP hS hl)
  have := lv_room (m := m) (pc := pc) (ls := ls) (rest := .ref a :: st) hs
  omega
end QY
def qy_Q (G : qz_G) (h0 : Nat) (M : qy_M) : Array Value → State → Outcome → State → Prop := fun _ st oc t => oc = .returned none ∧ qy_P G h0 M t.heap ∧ ∀ q : Nat, q < h0 → t.heap[q]? = st.heap[q]?
def qy_R (dp K KS : Nat) : Room := { frames := dp, cells := K, slots := KS, locals := 48 * dp }
def qy_C (l : Launch) (y : MethodName) (bytes : ByteArray) (maxL dp K KS : Nat) (G : qz_G) (h0 : Nat) (ns : List Cond) (ao : List String) (as : List Value) (M M' : qy_M) : Prop :=
  Met l y (Cond.code y bytes maxL none :: qz_T) (qy_R dp K KS) (va_Pc as (fun U => qy_P G h0 M U.heap ∧ qy_K G ns ao U)) (qy_Q G h0 M') K KS (fun a => h0 ≤ a)
section QYC
variable {p : Program} {l : Launch} {e : Env} {R : Room} {s : State} {m : MethodId} {args : Array Value} {below : List Frame} {meth : Method} {c : Code} {Q : State → Prop} {G : qz_G} {h0 : Nat} {H0 : Heap} {m0 : Nat × Nat} {nL : Nat} {N N' : qy_M} {pc : Nat} {lv lv' : List (Nat × Value)} {st : List Value} {own : String} {cc : ByteArray} {ret : Option FieldType} {ns : List Cond} {ao : List String}
theorem qy_vret {K KS : Nat} (X : qy_X p s m args meth c own cc nL none G h0 ns ao) {r : qy_M} {dc : Decidable (N.1 ≤ m0.1 + K ∧ N.2.1 ≤ m0.2 + KS)} (h : @ite (Option qy_M) (N.1 ≤ m0.1 + K ∧ N.2.1 ≤ m0.2 + KS) dc (some N) none = some r) (d : decode cc pc = .ok (.return_, 1)) : qy_W p l e R s m args below meth c (MQ below (qy_Q G h0 r) args s K KS (fun a => h0 ≤ a)) G h0 s.heap m0 nL N pc lv [] := by
  by_cases hc : N.1 ≤ m0.1 + K ∧ N.2.1 ≤ m0.2 + KS
  · rw [if_pos hc] at h
    cases h
    intro H locs ls hP hS hl
    refine W.widen (k := K) (n := KS) (by omega) (by omega) ?_
    exact W.vret X.1 X.2.1 X.2.2.2.2.2.2.2.2.1 (fun t ht hW => ⟨rfl, by rw [ht]; exact hP, fun q hq => by rw [ht]; exact hS.1 q hq⟩) hS.2 d (hlocks := X.2.2.2.2.2.2.2.1)
  · rw [if_neg hc] at h; cases h
theorem qy_back {rest st0 : List Value} {K KS : Nat} {a : Array Value} {H : Heap} {locs : List Loc} {ls : Array Slot} (hsz : h0 ≤ H.size) (hr : va_Run p l e R s m args below meth c H locs (N.1 - m0.1) (N.2.1 - m0.2) K KS (F0 m pc ls st0) rest (qy_Q G h0 N' a) (fun a => h0 ≤ a)) (hS : qy_S h0 H0 H locs) (hl : lv_has ls nL lv) (hz : m0.1 ≤ N.1 ∧ m0.2 ≤ N.2.1 ∧ N'.1 = N.1 + K ∧ N'.2.1 = N.2.1 + KS)
    (kk : qy_W p l e R s m args below meth c Q G h0 H0 m0 nL N' (pc + 3) lv rest) : W p l e R s m args below meth c H locs (N.1 - m0.1) (N.2.1 - m0.2) Q (F0 m pc ls st0) := by
  intro T hT X
  obtain ⟨v, st₀, t, T', L, g0, X', hL, e1, e2, ⟨hv, hP, hk⟩, go⟩ := hr T hT X
  have hv' : v = none := Outcome.returned.inj hv
  subst hv'
  rw [← e1] at hP hk
  rw [g0] at hk
  have a1 : N'.1 - m0.1 = N.1 - m0.1 + K := by omega
  have a2 : N'.2.1 - m0.2 = N.2.1 - m0.2 + KS := by omega
  have k2 := kk T'.heap (locs ++ L) ls hP ⟨fun q hq => (hk q hq).trans (hS.1 q hq), fun q hq => by
    rcases List.mem_append.mp hq with h | h
    · exact hS.2 q h
    · exact hL q h⟩ hl
  rw [a1, a2] at k2
  obtain ⟨t2, b1, b2⟩ := k2 T' rfl X'
  exact ⟨t2, go t2 b1, b2⟩
theorem qy_blind {as : List Value} {M : qy_M} : FrameBlind (va_Pc as (fun U => qy_P G h0 M U.heap ∧ qy_K G ns ao U)) := fun a U g mk q => ⟨q.1, q.2.1, qy_K.same (u := U) (U := U.calling g mk a) rfl q.2.2⟩
/-- a constructor of a nest mate -/
theorem qy_ctorN (X : qy_X p s m args meth c own cc nL ret G h0 ns ao) {index dp K KS maxL b : Nat} {y : MethodName} {bytes : ByteArray} {host : String} (hw : Cond.code y bytes maxL none ∈ qz_T ∧ Cond.initialized y.cls ∈ qz_T ∧ Cond.instanceMethod y ∈ qz_T ∧ Cond.methodLinkNest own index y host ∈ ns) (hy : y.name = "<init>" ∧ y.cls ≠ "java/lang/invoke/MethodHandle" ∧ y.cls ≠ "java/lang/invoke/VarHandle" ∧ (parseMethodDescriptor y.desc).map (fun d => d.parameters.length) = some 0) (hM : qy_C l y bytes maxL dp K KS G h0 ns ao [.ref b] N N') (hR : dp + 1 ≤ R.frames ∧ 8 + (maxL + 11) + 48 * dp ≤ R.locals) (hs : (st.map fun v => v.category).sum ≤ 8) (d : decode cc pc = .ok (.invokespecial index, 3)) {α : Type} {r : α} {fb : Option α} {dc : Decidable (m0.1 ≤ N.1 ∧ m0.2 ≤ N.2.1 ∧ N'.1 = N.1 + K ∧ N'.2.1 = N.2.1 + KS ∧ N.1 + K ≤ m0.1 + R.cells ∧ N.2.1 + KS ≤ m0.2 + R.slots)} (h : @ite (Option α) (m0.1 ≤ N.1 ∧ m0.2 ≤ N.2.1 ∧ N'.1 = N.1 + K ∧ N'.2.1 = N.2.1 + KS ∧ N.1 + K ≤ m0.1 + R.cells ∧ N.2.1 + KS ≤ m0.2 + R.slots) dc fb none = some r)
    (kk : fb = some r → qy_W p l e R s m args below meth c Q G h0 H0 m0 nL N' (pc + 3) lv st) : qy_W p l e R s m args below meth c Q G h0 H0 m0 nL N pc lv (.ref b :: st) := by
  by_cases hc : m0.1 ≤ N.1 ∧ m0.2 ≤ N.2.1 ∧ N'.1 = N.1 + K ∧ N'.2.1 = N.2.1 + KS ∧ N.1 + K ≤ m0.1 + R.cells ∧ N.2.1 + KS ≤ m0.2 + R.slots
  · rw [if_pos hc] at h
    obtain ⟨hx, hb, hml, hown, hts, hK, hD, hlk, hrt, hG⟩ := X
    intro H locs ls hP hS hl
    have hpay : ∀ w ∈ (Cond.code y bytes maxL none :: qz_T), ∀ (a' : Array Value) (U : State), s.WarmedH U.vm → w.before a' U = true := fun w hw2 => by
      rcases List.mem_cons.mp hw2 with rfl | hw2
      · exact qz_pay hts _ hw.1
      · exact qz_pay hts _ hw2
    refine qy_back (by rw [hP.1]; exact Nat.le_add_right _ _) (va_runIN (n := 0) (As := []) (rest := st) (b := b) (host := host) ⟨hx, hb, hml, hown, hts⟩ hM ⟨⟨⟨rfl, rfl, hR.1, hR.2, hpay, List.mem_cons_self⟩, hts _ hw.1, hts _ hw.2.1, ⟨hy.2.1, hy.2.2.1⟩, fun sig h => ?_, va_Nw.use rfl (hK.2.2.1 _ hw.2.2.2).1⟩, hy.1, hts _ hw.2.2.1⟩ ⟨qy_blind, fun U hU hW => ⟨rfl, by rw [hU]; exact hP, qy_K.warm hW hK⟩⟩ rfl rfl hl.1 rfl (lv_room hs) d ⟨by omega, by omega⟩) hS hl ⟨hc.1, hc.2.1, hc.2.2.1, hc.2.2.2.1⟩ (kk h)
    have h6 := hy.2.2.2
    rw [h] at h6
    exact (Option.some.inj h6).symm
  · rw [if_neg hc] at h; cases h
/-- a constructor of a class that all may make -/
theorem qy_ctor (X : qy_X p s m args meth c own cc nL ret G h0 ns ao) {index dp K KS maxL b : Nat} {y : MethodName} {bytes : ByteArray} (hw : Cond.code y bytes maxL none ∈ qz_T ∧ Cond.initialized y.cls ∈ qz_T ∧ Cond.instanceMethod y ∈ qz_T ∧ Cond.methodLink own index y ∈ qz_T) (hy : y.name = "<init>" ∧ y.cls ≠ "java/lang/invoke/MethodHandle" ∧ y.cls ≠ "java/lang/invoke/VarHandle" ∧ (parseMethodDescriptor y.desc).map (fun d => d.parameters.length) = some 0) (hM : qy_C l y bytes maxL dp K KS G h0 ns ao [.ref b] N N') (hR : dp + 1 ≤ R.frames ∧ 8 + (maxL + 11) + 48 * dp ≤ R.locals) (hs : (st.map fun v => v.category).sum ≤ 8) (d : decode cc pc = .ok (.invokespecial index, 3)) {α : Type} {r : α} {fb : Option α} {dc : Decidable (m0.1 ≤ N.1 ∧ m0.2 ≤ N.2.1 ∧ N'.1 = N.1 + K ∧ N'.2.1 = N.2.1 + KS ∧ N.1 + K ≤ m0.1 + R.cells ∧ N.2.1 + KS ≤ m0.2 + R.slots)} (h : @ite (Option α) (m0.1 ≤ N.1 ∧ m0.2 ≤ N.2.1 ∧ N'.1 = N.1 + K ∧ N'.2.1 = N.2.1 + KS ∧ N.1 + K ≤ m0.1 + R.cells ∧ N.2.1 + KS ≤ m0.2 + R.slots) dc fb none = some r)
    (kk : fb = some r → qy_W p l e R s m args below meth c Q G h0 H0 m0 nL N' (pc + 3) lv st) : qy_W p l e R s m args below meth c Q G h0 H0 m0 nL N pc lv (.ref b :: st) := by
  by_cases hc : m0.1 ≤ N.1 ∧ m0.2 ≤ N.2.1 ∧ N'.1 = N.1 + K ∧ N'.2.1 = N.2.1 + KS ∧ N.1 + K ≤ m0.1 + R.cells ∧ N.2.1 + KS ≤ m0.2 + R.slots
  · rw [if_pos hc] at h
    obtain ⟨hx, hb, hml, hown, hts, hK, hD, hlk, hrt, hG⟩ := X
    intro H locs ls hP hS hl
    have hpay : ∀ w ∈ (Cond.code y bytes maxL none :: qz_T), ∀ (a' : Array Value) (U : State), s.WarmedH U.vm → w.before a' U = true := fun w hw2 => by
      rcases List.mem_cons.mp hw2 with rfl | hw2
      · exact qz_pay hts _ hw.1
      · exact qz_pay hts _ hw2
    refine qy_back (by rw [hP.1]; exact Nat.le_add_right _ _) (va_runI (n := 0) (As := []) (rest := st) (b := b) ⟨hx, hb, hml, hown, hts⟩ hM ⟨⟨rfl, rfl, hR.1, hR.2, hpay, List.mem_cons_self, hts _ hw.1, hts _ hw.2.1, ⟨hy.2.1, hy.2.2.1⟩, fun sig h => ?_, hts _ hw.2.2.2⟩, hy.1, hts _ hw.2.2.1⟩ ⟨qy_blind, fun U hU hW => ⟨rfl, by rw [hU]; exact hP, qy_K.warm hW hK⟩⟩ rfl rfl hl.1 rfl (lv_room hs) d ⟨by omega, by omega⟩) hS hl ⟨hc.1, hc.2.1, hc.2.2.1, hc.2.2.2.1⟩ (kk h)
    have h6 := hy.2.2.2
    rw [h] at h6
    exact (Option.some.inj h6).symm
  · rw [if_neg hc] at h; cases h
end QYC
theorem qy_enter {l : Launch} {y : MethodName} {bytes : ByteArray} {maxL dp K KS : Nat} {G : qz_G} {h0 : Nat} {ns : List Cond} {ao : List String} {as : List Value} {M M' : qy_M} {lv : List (Nat × Value)} (hy : plainName y.cls = true) (hn : y.name = "<init>") (hD : qz_D G) (hG : ∀ c i, G.2.2 c i = h0 + qy_of c i) (hlen : (lg_sl as).length ≤ maxL) (hlv : lv_args 0 as = lv)
    (body : ∀ (p : Program) (e : Env) (s : State) (m : MethodId) (args : Array Value) (below : List Frame) (meth : Method) (c : Code), meth.name = "<init>" → qy_X p s m args meth c y.cls bytes maxL none G h0 ns ao → qy_W p l e (qy_R dp K KS) s m args below meth c (MQ below (qy_Q G h0 M') args s K KS (fun a => h0 ≤ a)) G h0 s.heap (M.1, M.2.1) maxL M 0 lv []) : qy_C l y bytes maxL dp K KS G h0 ns ao as M M' := by
  refine Met.ofW (cc := bytes) (maxL := maxL) (ret := none) hy rfl ?_
  intro p e s m args below meth c s₁ B hml hv
  obtain ⟨rfl, hP, hK⟩ := hv
  have hts := atoms_spec (ws := Cond.code y bytes maxL none :: qz_T) B.pre
  have hl := lv_entry as (n := maxL) hlen
  rw [lg_entry_eq]
  rw [hlv] at hl
  have hk := body p e s m _ below meth c ((name_of_methodNamed B.named B.method).1.trans hn) ⟨B.exec, B.bytes, hml, findClass_of_methodNamed B.named, fun w hw => hts w (List.mem_cons_of_mem _ hw), hK, hD, B.notSynchronized, B.returns, hG⟩ s.heap [] _ hP qy_S.rf hl
  rw [Nat.sub_self, Nat.sub_self] at hk
  exact hk
end
section
def qy_ns : List Cond := [(Jvm.Cond.methodLinkNest "ExactCurves" (50 : Nat) ({ cls := "ExactCurves$Loan", name := "<init>", desc := "()V" } : Jvm.MethodName) "ExactCurves"), (Jvm.Cond.methodLinkNest "ExactCurves" (49 : Nat) ({ cls := "ExactCurves$Vault", name := "<init>", desc := "()V" } : Jvm.MethodName) "ExactCurves"), (Jvm.Cond.methodLinkNest "ExactCurves" (48 : Nat) ({ cls := "ExactCurves$Mark", name := "<init>", desc := "()V" } : Jvm.MethodName) "ExactCurves"), (Jvm.Cond.methodLinkNest "ExactCurves" (47 : Nat) ({ cls := "ExactCurves$Pool", name := "<init>", desc := "()V" } : Jvm.MethodName) "ExactCurves"), (Jvm.Cond.methodLinkNest "ExactCurves" (30 : Nat) ({ cls := "ExactCurves$Batch", name := "<init>", desc := "()V" } : Jvm.MethodName) "ExactCurves"), (Jvm.Cond.methodLinkNest "ExactCurves" (9 : Nat) ({ cls := "ExactCurves$Purses", name := "<init>", desc := "()V" } : Jvm.MethodName) "ExactCurves")]
def qy_ao : List String := ["ExactCurves$Loan", "ExactCurves$Vault", "ExactCurves$Mark", "ExactCurves$Pool"]
theorem oq_init : Cond.code Lib.objectInit ⟨#[0xb1]⟩ 1 none ∈ qz_T := qz_mem 63 (by decide +kernel) rfl
theorem uq_0 : ∀ k, k < 8 → ∃ t, sq_0[k]? = some t ∧ t.1 = fq_0 k ∧ qy_okt t.1 = true := by
  intro k hk
  match k, hk with
  | 0, _ => exact ⟨_, rfl, rfl, rfl⟩
  | 1, _ => exact ⟨_, rfl, rfl, rfl⟩
  | 2, _ => exact ⟨_, rfl, rfl, rfl⟩
  | 3, _ => exact ⟨_, rfl, rfl, rfl⟩
  | 4, _ => exact ⟨_, rfl, rfl, rfl⟩
  | 5, _ => exact ⟨_, rfl, rfl, rfl⟩
  | 6, _ => exact ⟨_, rfl, rfl, rfl⟩
  | 7, _ => exact ⟨_, rfl, rfl, rfl⟩
  | k + 8, hk => exact absurd hk (by omega)
theorem uq_1 : ∀ k, k < 3 → ∃ t, sq_1[k]? = some t ∧ t.1 = fq_1 k ∧ qy_okt t.1 = true := by
  intro k hk
  match k, hk with
  | 0, _ => exact ⟨_, rfl, rfl, rfl⟩
  | 1, _ => exact ⟨_, rfl, rfl, rfl⟩
  | 2, _ => exact ⟨_, rfl, rfl, rfl⟩
  | k + 3, hk => exact absurd hk (by omega)
theorem uq_2 : ∀ k, k < 10 → ∃ t, sq_2[k]? = some t ∧ t.1 = fq_2 k ∧ qy_okt t.1 = true := by
  intro k hk
  match k, hk with
  | 0, _ => exact ⟨_, rfl, rfl, rfl⟩
  | 1, _ => exact ⟨_, rfl, rfl, rfl⟩
  | 2, _ => exact ⟨_, rfl, rfl, rfl⟩
  | 3, _ => exact ⟨_, rfl, rfl, rfl⟩
  | 4, _ => exact ⟨_, rfl, rfl, rfl⟩
  | 5, _ => exact ⟨_, rfl, rfl, rfl⟩
  | 6, _ => exact ⟨_, rfl, rfl, rfl⟩
  | 7, _ => exact ⟨_, rfl, rfl, rfl⟩
  | 8, _ => exact ⟨_, rfl, rfl, rfl⟩
  | 9, _ => exact ⟨_, rfl, rfl, rfl⟩
  | k + 10, hk => exact absurd hk (by omega)
theorem uq_3 : ∀ k, k < 4 → ∃ t, sq_3[k]? = some t ∧ t.1 = fq_3 k ∧ qy_okt t.1 = true := by
  intro k hk
  match k, hk with
  | 0, _ => exact ⟨_, rfl, rfl, rfl⟩
  | 1, _ => exact ⟨_, rfl, rfl, rfl⟩
  | 2, _ => exact ⟨_, rfl, rfl, rfl⟩
  | 3, _ => exact ⟨_, rfl, rfl, rfl⟩
  | k + 4, hk => exact absurd hk (by omega)
theorem uq_4 : ∀ k, k < 10 → ∃ t, sq_4[k]? = some t ∧ t.1 = fq_4 k ∧ qy_okt t.1 = true := by
  intro k hk
  match k, hk with
  | 0, _ => exact ⟨_, rfl, rfl, rfl⟩
  | 1, _ => exact ⟨_, rfl, rfl, rfl⟩
  | 2, _ => exact ⟨_, rfl, rfl, rfl⟩
  | 3, _ => exact ⟨_, rfl, rfl, rfl⟩
  | 4, _ => exact ⟨_, rfl, rfl, rfl⟩
  | 5, _ => exact ⟨_, rfl, rfl, rfl⟩
  | 6, _ => exact ⟨_, rfl, rfl, rfl⟩
  | 7, _ => exact ⟨_, rfl, rfl, rfl⟩
  | 8, _ => exact ⟨_, rfl, rfl, rfl⟩
  | 9, _ => exact ⟨_, rfl, rfl, rfl⟩
  | k + 10, hk => exact absurd hk (by omega)
theorem uq_5 : ∀ k, k < 5 → ∃ t, sq_5[k]? = some t ∧ t.1 = fq_5 k ∧ qy_okt t.1 = true := by
  intro k hk
  match k, hk with
  | 0, _ => exact ⟨_, rfl, rfl, rfl⟩
  | 1, _ => exact ⟨_, rfl, rfl, rfl⟩
  | 2, _ => exact ⟨_, rfl, rfl, rfl⟩
  | 3, _ => exact ⟨_, rfl, rfl, rfl⟩
  | 4, _ => exact ⟨_, rfl, rfl, rfl⟩
  | k + 5, hk => exact absurd hk (by omega)
theorem uq_6 : ∀ k, k < 6 → ∃ t, sq_6[k]? = some t ∧ t.1 = fq_6 k ∧ qy_okt t.1 = true := by
  intro k hk
  match k, hk with
  | 0, _ => exact ⟨_, rfl, rfl, rfl⟩
  | 1, _ => exact ⟨_, rfl, rfl, rfl⟩
  | 2, _ => exact ⟨_, rfl, rfl, rfl⟩
  | 3, _ => exact ⟨_, rfl, rfl, rfl⟩
  | 4, _ => exact ⟨_, rfl, rfl, rfl⟩
  | 5, _ => exact ⟨_, rfl, rfl, rfl⟩
  | k + 6, hk => exact absurd hk (by omega)
theorem uq_7 : ∀ k, k < 42 → ∃ t, sq_7[k]? = some t ∧ t.1 = fq_7 k ∧ qy_okt t.1 = true := by
  intro k hk
  match k, hk with
  | 0, _ => exact ⟨_, rfl, rfl, rfl⟩
  | 1, _ => exact ⟨_, rfl, rfl, rfl⟩
  | 2, _ => exact ⟨_, rfl, rfl, rfl⟩
  | 3, _ => exact ⟨_, rfl, rfl, rfl⟩
  | 4, _ => exact ⟨_, rfl, rfl, rfl⟩
  | 5, _ => exact ⟨_, rfl, rfl, rfl⟩
  | 6, _ => exact ⟨_, rfl, rfl, rfl⟩
  | 7, _ => exact ⟨_, rfl, rfl, rfl⟩
  | 8, _ => exact ⟨_, rfl, rfl, rfl⟩
  | 9, _ => exact ⟨_, rfl, rfl, rfl⟩
  | 10, _ => exact ⟨_, rfl, rfl, rfl⟩
  | 11, _ => exact ⟨_, rfl, rfl, rfl⟩
  | 12, _ => exact ⟨_, rfl, rfl, rfl⟩
  | 13, _ => exact ⟨_, rfl, rfl, rfl⟩
  | 14, _ => exact ⟨_, rfl, rfl, rfl⟩
  | 15, _ => exact ⟨_, rfl, rfl, rfl⟩
  | 16, _ => exact ⟨_, rfl, rfl, rfl⟩
  | 17, _ => exact ⟨_, rfl, rfl, rfl⟩
  | 18, _ => exact ⟨_, rfl, rfl, rfl⟩
  | 19, _ => exact ⟨_, rfl, rfl, rfl⟩
  | 20, _ => exact ⟨_, rfl, rfl, rfl⟩
  | 21, _ => exact ⟨_, rfl, rfl, rfl⟩
  | 22, _ => exact ⟨_, rfl, rfl, rfl⟩
  | 23, _ => exact ⟨_, rfl, rfl, rfl⟩
  | 24, _ => exact ⟨_, rfl, rfl, rfl⟩
  | 25, _ => exact ⟨_, rfl, rfl, rfl⟩
  | 26, _ => exact ⟨_, rfl, rfl, rfl⟩
  | 27, _ => exact ⟨_, rfl, rfl, rfl⟩
  | 28, _ => exact ⟨_, rfl, rfl, rfl⟩
  | 29, _ => exact ⟨_, rfl, rfl, rfl⟩
  | 30, _ => exact ⟨_, rfl, rfl, rfl⟩
  | 31, _ => exact ⟨_, rfl, rfl, rfl⟩
  | 32, _ => exact ⟨_, rfl, rfl, rfl⟩
  | 33, _ => exact ⟨_, rfl, rfl, rfl⟩
  | 34, _ => exact ⟨_, rfl, rfl, rfl⟩
  | 35, _ => exact ⟨_, rfl, rfl, rfl⟩
  | 36, _ => exact ⟨_, rfl, rfl, rfl⟩
  | 37, _ => exact ⟨_, rfl, rfl, rfl⟩
  | 38, _ => exact ⟨_, rfl, rfl, rfl⟩
  | 39, _ => exact ⟨_, rfl, rfl, rfl⟩
  | 40, _ => exact ⟨_, rfl, rfl, rfl⟩
  | 41, _ => exact ⟨_, rfl, rfl, rfl⟩
  | k + 42, hk => exact absurd hk (by omega)
theorem dq_U_init_0 : decode prog_7_method_1_code 0 = .ok (.aload_n 0, 1) := by decide +kernel
theorem dq_U_init_1 : decode prog_7_method_1_code 1 = .ok (.invokespecial 3, 3) := by decide +kernel
theorem dq_U_init_4 : decode prog_7_method_1_code 4 = .ok (.aload_n 0, 1) := by decide +kernel
theorem dq_U_init_5 : decode prog_7_method_1_code 5 = .ok (.bipush 24, 2) := by decide +kernel
theorem dq_U_init_7 : decode prog_7_method_1_code 7 = .ok (.newarray .long, 2) := by decide +kernel
theorem dq_U_init_9 : decode prog_7_method_1_code 9 = .ok (.putfield 9, 3) := by decide +kernel
theorem dq_U_init_12 : decode prog_7_method_1_code 12 = .ok (.aload_n 0, 1) := by decide +kernel
theorem dq_U_init_13 : decode prog_7_method_1_code 13 = .ok (.iconst 4, 1) := by decide +kernel
theorem dq_U_init_14 : decode prog_7_method_1_code 14 = .ok (.newarray .long, 2) := by decide +kernel
theorem dq_U_init_16 : decode prog_7_method_1_code 16 = .ok (.putfield 15, 3) := by decide +kernel
theorem dq_U_init_19 : decode prog_7_method_1_code 19 = .ok (.aload_n 0, 1) := by decide +kernel
theorem dq_U_init_20 : decode prog_7_method_1_code 20 = .ok (.iconst 4, 1) := by decide +kernel
theorem dq_U_init_21 : decode prog_7_method_1_code 21 = .ok (.newarray .long, 2) := by decide +kernel
theorem dq_U_init_23 : decode prog_7_method_1_code 23 = .ok (.putfield 18, 3) := by decide +kernel
theorem dq_U_init_26 : decode prog_7_method_1_code 26 = .ok (.return_, 1) := by decide +kernel
def gU_init (o : Nat) (M0 : qy_M) : Option qy_M :=
  if qy_of 12 (M0.2.2.1 12) = M0.1 ∧ M0.2.2.1 12 < 1 ∧ (M0.1, M0.2.1).1 ≤ M0.1 ∧ (M0.1, M0.2.1).2 ≤ M0.2.1 ∧ M0.1 + 1 ≤ (M0.1, M0.2.1).1 + 3 ∧ M0.2.1 + 24 ≤ (M0.1, M0.2.1).2 + 32 then qz_let (qy_add M0 12 24) fun _ =>
  if (M0.2.2.1 12) = o ∧ o < (qy_add M0 12 24).2.2.1 1 then qz_let (qy_mk (qy_add M0 12 24) 1 o 0) fun M1 =>
  if qy_of 13 (M1.2.2.1 13) = M1.1 ∧ M1.2.2.1 13 < 1 ∧ (M0.1, M0.2.1).1 ≤ M1.1 ∧ (M0.1, M0.2.1).2 ≤ M1.2.1 ∧ M1.1 + 1 ≤ (M0.1, M0.2.1).1 + 3 ∧ M1.2.1 + 4 ≤ (M0.1, M0.2.1).2 + 32 then qz_let (qy_add M1 13 4) fun _ =>
  if (M1.2.2.1 13) = o ∧ o < (qy_add M1 13 4).2.2.1 1 then qz_let (qy_mk (qy_add M1 13 4) 1 o 1) fun M2 =>
  if qy_of 14 (M2.2.2.1 14) = M2.1 ∧ M2.2.2.1 14 < 1 ∧ (M0.1, M0.2.1).1 ≤ M2.1 ∧ (M0.1, M0.2.1).2 ≤ M2.2.1 ∧ M2.1 + 1 ≤ (M0.1, M0.2.1).1 + 3 ∧ M2.2.1 + 4 ≤ (M0.1, M0.2.1).2 + 32 then qz_let (qy_add M2 14 4) fun _ =>
  if (M2.2.2.1 14) = o ∧ o < (qy_add M2 14 4).2.2.1 1 then qz_let (qy_mk (qy_add M2 14 4) 1 o 2) fun M3 =>
  if M3.1 ≤ (M0.1, M0.2.1).1 + 3 ∧ M3.2.1 ≤ (M0.1, M0.2.1).2 + 32 then some M3 else none
  else none
  else none
  else none
  else none
  else none
  else none
set_option maxRecDepth 100000 in
set_option maxHeartbeats 4000000 in
theorem tU_init {p : Program} {l : Launch} {e : Env} {s : State} {m : MethodId} {args : Array Value} {below : List Frame} {meth : Method} {c : Code} {G : qz_G} {h0 : Nat} (hinit : meth.name = "<init>") (hD : qz_D G) (hG : ∀ c i, G.2.2 c i = h0 + qy_of c i) (X : qy_X p s m args meth c "ExactCurves$Purses" prog_7_method_1_code 1 none G h0 qy_ns qy_ao) {r : qy_M} (o : Nat) (M0 : qy_M) (h : gU_init o M0 = some r) : qy_W p l e (qy_R 1 3 32) s m args below meth c (MQ below (qy_Q G h0 r) args s 3 32 (fun a => h0 ≤ a)) G h0 s.heap (M0.1, M0.2.1) 1 M0 0 [(0, .ref (G.2.2 1 o))] [] := by
  unfold gU_init at h
  refine qy_aload_n X 0 rfl dq_U_init_0 ?_
  refine qy_obj X ⟨wq_25, wq_18, oq_init⟩ ⟨by decide, by decide⟩ (Nat.le_of_ble_eq_true rfl) dq_U_init_1 ?_
  refine qy_aload_n X 0 rfl dq_U_init_4 ?_
  refine qy_bipush X (v := (24 : Int32)) (by decide) dq_U_init_5 ?_
  refine qy_newa X (ty := .long) (tg := 0) ⟨rfl, rfl⟩ rfl (by decide) rfl ⟨by decide, by decide, by decide⟩ wq_38 dq_U_init_7 h (fun h => ?_)
  refine qy_putR X rfl kq_U_9 (Or.inr ⟨hinit, 1, sq_1, tq_1, 3, rfl, rfl, rfl⟩) dq_U_init_9 h (fun M1 h => ?_)
  refine qy_aload_n X 0 rfl dq_U_init_12 ?_
  refine qy_iconst X (v := (4 : Int32)) (by decide) dq_U_init_13 ?_
  refine qy_newa X (ty := .long) (tg := 0) ⟨rfl, rfl⟩ rfl (by decide) rfl ⟨by decide, by decide, by decide⟩ wq_38 dq_U_init_14 h (fun h => ?_)
  refine qy_putR X rfl kq_U_15 (Or.inr ⟨hinit, 1, sq_1, tq_1, 3, rfl, rfl, rfl⟩) dq_U_init_16 h (fun M2 h => ?_)
  refine qy_aload_n X 0 rfl dq_U_init_19 ?_
  refine qy_iconst X (v := (4 : Int32)) (by decide) dq_U_init_20 ?_
  refine qy_newa X (ty := .long) (tg := 0) ⟨rfl, rfl⟩ rfl (by decide) rfl ⟨by decide, by decide, by decide⟩ wq_38 dq_U_init_21 h (fun h => ?_)
  refine qy_putR X rfl kq_U_18 (Or.inr ⟨hinit, 1, sq_1, tq_1, 3, rfl, rfl, rfl⟩) dq_U_init_23 h (fun M3 h => ?_)
  exact qy_vret X h dq_U_init_26
theorem kU_init (l : Launch) (G : qz_G) {h0 : Nat} (hD : qz_D G) (hG : ∀ c i, G.2.2 c i = h0 + qy_of c i) (o : Nat) (M0 r : qy_M) (h : gU_init o M0 = some r) : qy_C l yU_init prog_7_method_1_code 1 1 3 32 G h0 qy_ns qy_ao [.ref (G.2.2 1 o)] M0 r :=
  qy_enter (lv := [(0, .ref (G.2.2 1 o))]) rfl rfl hD hG (Nat.le_of_ble_eq_true rfl) rfl (fun p e s m args below meth c hi X => tU_init hi hD hG X o M0 h)
theorem dq_P_init_0 : decode prog_6_method_1_code 0 = .ok (.aload_n 0, 1) := by decide +kernel
theorem dq_P_init_1 : decode prog_6_method_1_code 1 = .ok (.invokespecial 3, 3) := by decide +kernel
theorem dq_P_init_4 : decode prog_6_method_1_code 4 = .ok (.aload_n 0, 1) := by decide +kernel
theorem dq_P_init_5 : decode prog_6_method_1_code 5 = .ok (.bipush 6, 2) := by decide +kernel
theorem dq_P_init_7 : decode prog_6_method_1_code 7 = .ok (.newarray .long, 2) := by decide +kernel
theorem dq_P_init_9 : decode prog_6_method_1_code 9 = .ok (.putfield 9, 3) := by decide +kernel
theorem dq_P_init_12 : decode prog_6_method_1_code 12 = .ok (.return_, 1) := by decide +kernel
def gP_init (o : Nat) (M0 : qy_M) : Option qy_M :=
  if qy_of 15 (M0.2.2.1 15) = M0.1 ∧ M0.2.2.1 15 < 6 ∧ (M0.1, M0.2.1).1 ≤ M0.1 ∧ (M0.1, M0.2.1).2 ≤ M0.2.1 ∧ M0.1 + 1 ≤ (M0.1, M0.2.1).1 + 1 ∧ M0.2.1 + 6 ≤ (M0.1, M0.2.1).2 + 6 then qz_let (qy_add M0 15 6) fun _ =>
  if (M0.2.2.1 15) = o ∧ o < (qy_add M0 15 6).2.2.1 2 then qz_let (qy_mk (qy_add M0 15 6) 2 o 0) fun M1 =>
  if M1.1 ≤ (M0.1, M0.2.1).1 + 1 ∧ M1.2.1 ≤ (M0.1, M0.2.1).2 + 6 then some M1 else none
  else none
  else none
set_option maxRecDepth 100000 in
set_option maxHeartbeats 4000000 in
theorem tP_init {p : Program} {l : Launch} {e : Env} {s : State} {m : MethodId} {args : Array Value} {below : List Frame} {meth : Method} {c : Code} {G : qz_G} {h0 : Nat} (hinit : meth.name = "<init>") (hD : qz_D G) (hG : ∀ c i, G.2.2 c i = h0 + qy_of c i) (X : qy_X p s m args meth c "ExactCurves$Pool" prog_6_method_1_code 1 none G h0 qy_ns qy_ao) {r : qy_M} (o : Nat) (M0 : qy_M) (h : gP_init o M0 = some r) : qy_W p l e (qy_R 1 1 6) s m args below meth c (MQ below (qy_Q G h0 r) args s 1 6 (fun a => h0 ≤ a)) G h0 s.heap (M0.1, M0.2.1) 1 M0 0 [(0, .ref (G.2.2 2 o))] [] := by
  unfold gP_init at h
  refine qy_aload_n X 0 rfl dq_P_init_0 ?_
  refine qy_obj X ⟨wq_100, wq_18, oq_init⟩ ⟨by decide, by decide⟩ (Nat.le_of_ble_eq_true rfl) dq_P_init_1 ?_
  refine qy_aload_n X 0 rfl dq_P_init_4 ?_
  refine qy_bipush X (v := (6 : Int32)) (by decide) dq_P_init_5 ?_
  refine qy_newa X (ty := .long) (tg := 0) ⟨rfl, rfl⟩ rfl (by decide) rfl ⟨by decide, by decide, by decide⟩ wq_38 dq_P_init_7 h (fun h => ?_)
  refine qy_putR X rfl kq_P_9 (Or.inr ⟨hinit, 2, sq_2, tq_2, 10, rfl, rfl, rfl⟩) dq_P_init_9 h (fun M1 h => ?_)
  exact qy_vret X h dq_P_init_12
theorem kP_init (l : Launch) (G : qz_G) {h0 : Nat} (hD : qz_D G) (hG : ∀ c i, G.2.2 c i = h0 + qy_of c i) (o : Nat) (M0 r : qy_M) (h : gP_init o M0 = some r) : qy_C l yP_init prog_6_method_1_code 1 1 1 6 G h0 qy_ns qy_ao [.ref (G.2.2 2 o)] M0 r :=
  qy_enter (lv := [(0, .ref (G.2.2 2 o))]) rfl rfl hD hG (Nat.le_of_ble_eq_true rfl) rfl (fun p e s m args below meth c hi X => tP_init hi hD hG X o M0 h)
theorem dq_K_init_0 : decode prog_5_method_1_code 0 = .ok (.aload_n 0, 1) := by decide +kernel
theorem dq_K_init_1 : decode prog_5_method_1_code 1 = .ok (.invokespecial 1, 3) := by decide +kernel
theorem dq_K_init_4 : decode prog_5_method_1_code 4 = .ok (.return_, 1) := by decide +kernel
def gK_init (o : Nat) (M0 : qy_M) : Option qy_M :=
  if M0.1 ≤ (M0.1, M0.2.1).1 + 0 ∧ M0.2.1 ≤ (M0.1, M0.2.1).2 + 0 then some M0 else none
set_option maxRecDepth 100000 in
set_option maxHeartbeats 4000000 in
theorem tK_init {p : Program} {l : Launch} {e : Env} {s : State} {m : MethodId} {args : Array Value} {below : List Frame} {meth : Method} {c : Code} {G : qz_G} {h0 : Nat} (hinit : meth.name = "<init>") (hD : qz_D G) (hG : ∀ c i, G.2.2 c i = h0 + qy_of c i) (X : qy_X p s m args meth c "ExactCurves$Mark" prog_5_method_1_code 1 none G h0 qy_ns qy_ao) {r : qy_M} (o : Nat) (M0 : qy_M) (h : gK_init o M0 = some r) : qy_W p l e (qy_R 1 0 0) s m args below meth c (MQ below (qy_Q G h0 r) args s 0 0 (fun a => h0 ≤ a)) G h0 s.heap (M0.1, M0.2.1) 1 M0 0 [(0, .ref (G.2.2 3 o))] [] := by
  unfold gK_init at h
  refine qy_aload_n X 0 rfl dq_K_init_0 ?_
  refine qy_obj X ⟨wq_146, wq_18, oq_init⟩ ⟨by decide, by decide⟩ (Nat.le_of_ble_eq_true rfl) dq_K_init_1 ?_
  exact qy_vret X h dq_K_init_4
theorem kK_init (l : Launch) (G : qz_G) {h0 : Nat} (hD : qz_D G) (hG : ∀ c i, G.2.2 c i = h0 + qy_of c i) (o : Nat) (M0 r : qy_M) (h : gK_init o M0 = some r) : qy_C l yK_init prog_5_method_1_code 1 1 0 0 G h0 qy_ns qy_ao [.ref (G.2.2 3 o)] M0 r :=
  qy_enter (lv := [(0, .ref (G.2.2 3 o))]) rfl rfl hD hG (Nat.le_of_ble_eq_true rfl) rfl (fun p e s m args below meth c hi X => tK_init hi hD hG X o M0 h)
theorem dq_B_init_0 : decode prog_2_method_1_code 0 = .ok (.aload_n 0, 1) := by decide +kernel
theorem dq_B_init_1 : decode prog_2_method_1_code 1 = .ok (.invokespecial 3, 3) := by decide +kernel
theorem dq_B_init_4 : decode prog_2_method_1_code 4 = .ok (.aload_n 0, 1) := by decide +kernel
theorem dq_B_init_5 : decode prog_2_method_1_code 5 = .ok (.bipush 40, 2) := by decide +kernel
theorem dq_B_init_7 : decode prog_2_method_1_code 7 = .ok (.newarray .int, 2) := by decide +kernel
theorem dq_B_init_9 : decode prog_2_method_1_code 9 = .ok (.putfield 9, 3) := by decide +kernel
theorem dq_B_init_12 : decode prog_2_method_1_code 12 = .ok (.aload_n 0, 1) := by decide +kernel
theorem dq_B_init_13 : decode prog_2_method_1_code 13 = .ok (.bipush 40, 2) := by decide +kernel
theorem dq_B_init_15 : decode prog_2_method_1_code 15 = .ok (.newarray .boolean, 2) := by decide +kernel
theorem dq_B_init_17 : decode prog_2_method_1_code 17 = .ok (.putfield 15, 3) := by decide +kernel
theorem dq_B_init_20 : decode prog_2_method_1_code 20 = .ok (.aload_n 0, 1) := by decide +kernel
theorem dq_B_init_21 : decode prog_2_method_1_code 21 = .ok (.bipush 40, 2) := by decide +kernel
theorem dq_B_init_23 : decode prog_2_method_1_code 23 = .ok (.newarray .long, 2) := by decide +kernel
theorem dq_B_init_25 : decode prog_2_method_1_code 25 = .ok (.putfield 19, 3) := by decide +kernel
theorem dq_B_init_28 : decode prog_2_method_1_code 28 = .ok (.aload_n 0, 1) := by decide +kernel
theorem dq_B_init_29 : decode prog_2_method_1_code 29 = .ok (.bipush 40, 2) := by decide +kernel
theorem dq_B_init_31 : decode prog_2_method_1_code 31 = .ok (.newarray .long, 2) := by decide +kernel
theorem dq_B_init_33 : decode prog_2_method_1_code 33 = .ok (.putfield 23, 3) := by decide +kernel
theorem dq_B_init_36 : decode prog_2_method_1_code 36 = .ok (.aload_n 0, 1) := by decide +kernel
theorem dq_B_init_37 : decode prog_2_method_1_code 37 = .ok (.bipush 40, 2) := by decide +kernel
theorem dq_B_init_39 : decode prog_2_method_1_code 39 = .ok (.newarray .long, 2) := by decide +kernel
theorem dq_B_init_41 : decode prog_2_method_1_code 41 = .ok (.putfield 26, 3) := by decide +kernel
theorem dq_B_init_44 : decode prog_2_method_1_code 44 = .ok (.aload_n 0, 1) := by decide +kernel
theorem dq_B_init_45 : decode prog_2_method_1_code 45 = .ok (.iconst 0, 1) := by decide +kernel
theorem dq_B_init_46 : decode prog_2_method_1_code 46 = .ok (.putfield 29, 3) := by decide +kernel
theorem dq_B_init_49 : decode prog_2_method_1_code 49 = .ok (.aload_n 0, 1) := by decide +kernel
theorem dq_B_init_50 : decode prog_2_method_1_code 50 = .ok (.iconst 1, 1) := by decide +kernel
theorem dq_B_init_51 : decode prog_2_method_1_code 51 = .ok (.putfield 33, 3) := by decide +kernel
theorem dq_B_init_54 : decode prog_2_method_1_code 54 = .ok (.return_, 1) := by decide +kernel
def gB_init (o : Nat) (M0 : qy_M) : Option qy_M :=
  if qy_of 16 (M0.2.2.1 16) = M0.1 ∧ M0.2.2.1 16 < 1 ∧ (M0.1, M0.2.1).1 ≤ M0.1 ∧ (M0.1, M0.2.1).2 ≤ M0.2.1 ∧ M0.1 + 1 ≤ (M0.1, M0.2.1).1 + 5 ∧ M0.2.1 + 40 ≤ (M0.1, M0.2.1).2 + 200 then qz_let (qy_add M0 16 40) fun _ =>
  if (M0.2.2.1 16) = o ∧ o < (qy_add M0 16 40).2.2.1 4 then qz_let (qy_mk (qy_add M0 16 40) 4 o 0) fun M1 =>
  if qy_of 17 (M1.2.2.1 17) = M1.1 ∧ M1.2.2.1 17 < 1 ∧ (M0.1, M0.2.1).1 ≤ M1.1 ∧ (M0.1, M0.2.1).2 ≤ M1.2.1 ∧ M1.1 + 1 ≤ (M0.1, M0.2.1).1 + 5 ∧ M1.2.1 + 40 ≤ (M0.1, M0.2.1).2 + 200 then qz_let (qy_add M1 17 40) fun _ =>
  if (M1.2.2.1 17) = o ∧ o < (qy_add M1 17 40).2.2.1 4 then qz_let (qy_mk (qy_add M1 17 40) 4 o 1) fun M2 =>
  if qy_of 18 (M2.2.2.1 18) = M2.1 ∧ M2.2.2.1 18 < 1 ∧ (M0.1, M0.2.1).1 ≤ M2.1 ∧ (M0.1, M0.2.1).2 ≤ M2.2.1 ∧ M2.1 + 1 ≤ (M0.1, M0.2.1).1 + 5 ∧ M2.2.1 + 40 ≤ (M0.1, M0.2.1).2 + 200 then qz_let (qy_add M2 18 40) fun _ =>
  if (M2.2.2.1 18) = o ∧ o < (qy_add M2 18 40).2.2.1 4 then qz_let (qy_mk (qy_add M2 18 40) 4 o 2) fun M3 =>
  if qy_of 19 (M3.2.2.1 19) = M3.1 ∧ M3.2.2.1 19 < 1 ∧ (M0.1, M0.2.1).1 ≤ M3.1 ∧ (M0.1, M0.2.1).2 ≤ M3.2.1 ∧ M3.1 + 1 ≤ (M0.1, M0.2.1).1 + 5 ∧ M3.2.1 + 40 ≤ (M0.1, M0.2.1).2 + 200 then qz_let (qy_add M3 19 40) fun _ =>
  if (M3.2.2.1 19) = o ∧ o < (qy_add M3 19 40).2.2.1 4 then qz_let (qy_mk (qy_add M3 19 40) 4 o 3) fun M4 =>
  if qy_of 20 (M4.2.2.1 20) = M4.1 ∧ M4.2.2.1 20 < 1 ∧ (M0.1, M0.2.1).1 ≤ M4.1 ∧ (M0.1, M0.2.1).2 ≤ M4.2.1 ∧ M4.1 + 1 ≤ (M0.1, M0.2.1).1 + 5 ∧ M4.2.1 + 40 ≤ (M0.1, M0.2.1).2 + 200 then qz_let (qy_add M4 20 40) fun _ =>
  if (M4.2.2.1 20) = o ∧ o < (qy_add M4 20 40).2.2.1 4 then qz_let (qy_mk (qy_add M4 20 40) 4 o 4) fun M5 =>
  if o < M5.2.2.1 4 then qz_let (qy_sN M5 (qz_si M5.2.2.2.2 4 o 5 (0 : Int32))) fun M6 =>
  if o < M6.2.2.1 4 then qz_let (qy_sN M6 (qz_si M6.2.2.2.2 4 o 6 (1 : Int32))) fun M7 =>
  if M7.1 ≤ (M0.1, M0.2.1).1 + 5 ∧ M7.2.1 ≤ (M0.1, M0.2.1).2 + 200 then some M7 else none
  else none
  else none
  else none
  else none
  else none
  else none
  else none
  else none
  else none
  else none
  else none
  else none
set_option maxRecDepth 100000 in
set_option maxHeartbeats 4000000 in
theorem tB_init {p : Program} {l : Launch} {e : Env} {s : State} {m : MethodId} {args : Array Value} {below : List Frame} {meth : Method} {c : Code} {G : qz_G} {h0 : Nat} (hinit : meth.name = "<init>") (hD : qz_D G) (hG : ∀ c i, G.2.2 c i = h0 + qy_of c i) (X : qy_X p s m args meth c "ExactCurves$Batch" prog_2_method_1_code 1 none G h0 qy_ns qy_ao) {r : qy_M} (o : Nat) (M0 : qy_M) (h : gB_init o M0 = some r) : qy_W p l e (qy_R 1 5 200) s m args below meth c (MQ below (qy_Q G h0 r) args s 5 200 (fun a => h0 ≤ a)) G h0 s.heap (M0.1, M0.2.1) 1 M0 0 [(0, .ref (G.2.2 4 o))] [] := by
  unfold gB_init at h
  refine qy_aload_n X 0 rfl dq_B_init_0 ?_
  refine qy_obj X ⟨wq_48, wq_18, oq_init⟩ ⟨by decide, by decide⟩ (Nat.le_of_ble_eq_true rfl) dq_B_init_1 ?_
  refine qy_aload_n X 0 rfl dq_B_init_4 ?_
  refine qy_bipush X (v := (40 : Int32)) (by decide) dq_B_init_5 ?_
  refine qy_newa X (ty := .int) (tg := 0) ⟨rfl, rfl⟩ rfl (by decide) rfl ⟨by decide, by decide, by decide⟩ wq_90 dq_B_init_7 h (fun h => ?_)
  refine qy_putR X rfl kq_B_9 (Or.inr ⟨hinit, 4, sq_4, tq_4, 10, rfl, rfl, rfl⟩) dq_B_init_9 h (fun M1 h => ?_)
  refine qy_aload_n X 0 rfl dq_B_init_12 ?_
  refine qy_bipush X (v := (40 : Int32)) (by decide) dq_B_init_13 ?_
  refine qy_newa X (ty := .boolean) (tg := 0) ⟨rfl, rfl⟩ rfl (by decide) rfl ⟨by decide, by decide, by decide⟩ wq_91 dq_B_init_15 h (fun h => ?_)
  refine qy_putR X rfl kq_B_15 (Or.inr ⟨hinit, 4, sq_4, tq_4, 10, rfl, rfl, rfl⟩) dq_B_init_17 h (fun M2 h => ?_)
  refine qy_aload_n X 0 rfl dq_B_init_20 ?_
  refine qy_bipush X (v := (40 : Int32)) (by decide) dq_B_init_21 ?_
  refine qy_newa X (ty := .long) (tg := 0) ⟨rfl, rfl⟩ rfl (by decide) rfl ⟨by decide, by decide, by decide⟩ wq_38 dq_B_init_23 h (fun h => ?_)
  refine qy_putR X rfl kq_B_19 (Or.inr ⟨hinit, 4, sq_4, tq_4, 10, rfl, rfl, rfl⟩) dq_B_init_25 h (fun M3 h => ?_)
  refine qy_aload_n X 0 rfl dq_B_init_28 ?_
  refine qy_bipush X (v := (40 : Int32)) (by decide) dq_B_init_29 ?_
  refine qy_newa X (ty := .long) (tg := 0) ⟨rfl, rfl⟩ rfl (by decide) rfl ⟨by decide, by decide, by decide⟩ wq_38 dq_B_init_31 h (fun h => ?_)
  refine qy_putR X rfl kq_B_23 (Or.inr ⟨hinit, 4, sq_4, tq_4, 10, rfl, rfl, rfl⟩) dq_B_init_33 h (fun M4 h => ?_)
  refine qy_aload_n X 0 rfl dq_B_init_36 ?_
  refine qy_bipush X (v := (40 : Int32)) (by decide) dq_B_init_37 ?_
  refine qy_newa X (ty := .long) (tg := 0) ⟨rfl, rfl⟩ rfl (by decide) rfl ⟨by decide, by decide, by decide⟩ wq_38 dq_B_init_39 h (fun h => ?_)
  refine qy_putR X rfl kq_B_26 (Or.inr ⟨hinit, 4, sq_4, tq_4, 10, rfl, rfl, rfl⟩) dq_B_init_41 h (fun M5 h => ?_)
  refine qy_aload_n X 0 rfl dq_B_init_44 ?_
  refine qy_iconst X (v := (0 : Int32)) (by decide) dq_B_init_45 ?_
  refine qy_putI X kq_B_29 dq_B_init_46 h (fun M6 h => ?_)
  refine qy_aload_n X 0 rfl dq_B_init_49 ?_
  refine qy_iconst X (v := (1 : Int32)) (by decide) dq_B_init_50 ?_
  refine qy_putI X kq_B_33 dq_B_init_51 h (fun M7 h => ?_)
  exact qy_vret X h dq_B_init_54
theorem kB_init (l : Launch) (G : qz_G) {h0 : Nat} (hD : qz_D G) (hG : ∀ c i, G.2.2 c i = h0 + qy_of c i) (o : Nat) (M0 r : qy_M) (h : gB_init o M0 = some r) : qy_C l yB_init prog_2_method_1_code 1 1 5 200 G h0 qy_ns qy_ao [.ref (G.2.2 4 o)] M0 r :=
  qy_enter (lv := [(0, .ref (G.2.2 4 o))]) rfl rfl hD hG (Nat.le_of_ble_eq_true rfl) rfl (fun p e s m args below meth c hi X => tB_init hi hD hG X o M0 h)
theorem dq_V_init_0 : decode prog_8_method_1_code 0 = .ok (.aload_n 0, 1) := by decide +kernel
theorem dq_V_init_1 : decode prog_8_method_1_code 1 = .ok (.invokespecial 3, 3) := by decide +kernel
theorem dq_V_init_4 : decode prog_8_method_1_code 4 = .ok (.aload_n 0, 1) := by decide +kernel
theorem dq_V_init_5 : decode prog_8_method_1_code 5 = .ok (.bipush 6, 2) := by decide +kernel
theorem dq_V_init_7 : decode prog_8_method_1_code 7 = .ok (.newarray .long, 2) := by decide +kernel
theorem dq_V_init_9 : decode prog_8_method_1_code 9 = .ok (.putfield 9, 3) := by decide +kernel
theorem dq_V_init_12 : decode prog_8_method_1_code 12 = .ok (.aload_n 0, 1) := by decide +kernel
theorem dq_V_init_13 : decode prog_8_method_1_code 13 = .ok (.ldc2_w 15, 3) := by decide +kernel
theorem dq_V_init_16 : decode prog_8_method_1_code 16 = .ok (.putfield 17, 3) := by decide +kernel
theorem dq_V_init_19 : decode prog_8_method_1_code 19 = .ok (.return_, 1) := by decide +kernel
def gV_init (o : Nat) (M0 : qy_M) : Option qy_M :=
  if qy_of 21 (M0.2.2.1 21) = M0.1 ∧ M0.2.2.1 21 < 4 ∧ (M0.1, M0.2.1).1 ≤ M0.1 ∧ (M0.1, M0.2.1).2 ≤ M0.2.1 ∧ M0.1 + 1 ≤ (M0.1, M0.2.1).1 + 1 ∧ M0.2.1 + 6 ≤ (M0.1, M0.2.1).2 + 6 then qz_let (qy_add M0 21 6) fun _ =>
  if (M0.2.2.1 21) = o ∧ o < (qy_add M0 21 6).2.2.1 5 then qz_let (qy_mk (qy_add M0 21 6) 5 o 0) fun M1 =>
  if o < M1.2.2.1 5 then qz_let (qy_sN M1 (qz_sl M1.2.2.2.2 5 o 4 (1000000000 : Int64))) fun M2 =>
  if M2.1 ≤ (M0.1, M0.2.1).1 + 1 ∧ M2.2.1 ≤ (M0.1, M0.2.1).2 + 6 then some M2 else none
  else none
  else none
  else none
set_option maxRecDepth 100000 in
set_option maxHeartbeats 4000000 in
theorem tV_init {p : Program} {l : Launch} {e : Env} {s : State} {m : MethodId} {args : Array Value} {below : List Frame} {meth : Method} {c : Code} {G : qz_G} {h0 : Nat} (hinit : meth.name = "<init>") (hD : qz_D G) (hG : ∀ c i, G.2.2 c i = h0 + qy_of c i) (X : qy_X p s m args meth c "ExactCurves$Vault" prog_8_method_1_code 1 none G h0 qy_ns qy_ao) {r : qy_M} (o : Nat) (M0 : qy_M) (h : gV_init o M0 = some r) : qy_W p l e (qy_R 1 1 6) s m args below meth c (MQ below (qy_Q G h0 r) args s 1 6 (fun a => h0 ≤ a)) G h0 s.heap (M0.1, M0.2.1) 1 M0 0 [(0, .ref (G.2.2 5 o))] [] := by
  unfold gV_init at h
  refine qy_aload_n X 0 rfl dq_V_init_0 ?_
  refine qy_obj X ⟨wq_164, wq_18, oq_init⟩ ⟨by decide, by decide⟩ (Nat.le_of_ble_eq_true rfl) dq_V_init_1 ?_
  refine qy_aload_n X 0 rfl dq_V_init_4 ?_
  refine qy_bipush X (v := (6 : Int32)) (by decide) dq_V_init_5 ?_
  refine qy_newa X (ty := .long) (tg := 0) ⟨rfl, rfl⟩ rfl (by decide) rfl ⟨by decide, by decide, by decide⟩ wq_38 dq_V_init_7 h (fun h => ?_)
  refine qy_putR X rfl kq_V_9 (Or.inr ⟨hinit, 5, sq_5, tq_5, 5, rfl, rfl, rfl⟩) dq_V_init_9 h (fun M1 h => ?_)
  refine qy_aload_n X 0 rfl dq_V_init_12 ?_
  refine qy_ldc2 X (v := (1000000000 : Int64)) wq_165 dq_V_init_13 ?_
  refine qy_putJ X kq_V_17 dq_V_init_16 h (fun M2 h => ?_)
  exact qy_vret X h dq_V_init_19
theorem kV_init (l : Launch) (G : qz_G) {h0 : Nat} (hD : qz_D G) (hG : ∀ c i, G.2.2 c i = h0 + qy_of c i) (o : Nat) (M0 r : qy_M) (h : gV_init o M0 = some r) : qy_C l yV_init prog_8_method_1_code 1 1 1 6 G h0 qy_ns qy_ao [.ref (G.2.2 5 o)] M0 r :=
  qy_enter (lv := [(0, .ref (G.2.2 5 o))]) rfl rfl hD hG (Nat.le_of_ble_eq_true rfl) rfl (fun p e s m args below meth c hi X => tV_init hi hD hG X o M0 h)
theorem dq_L_init_0 : decode prog_4_method_1_code 0 = .ok (.aload_n 0, 1) := by decide +kernel
theorem dq_L_init_1 : decode prog_4_method_1_code 1 = .ok (.invokespecial 1, 3) := by decide +kernel
theorem dq_L_init_4 : decode prog_4_method_1_code 4 = .ok (.return_, 1) := by decide +kernel
def gL_init (o : Nat) (M0 : qy_M) : Option qy_M :=
  if M0.1 ≤ (M0.1, M0.2.1).1 + 0 ∧ M0.2.1 ≤ (M0.1, M0.2.1).2 + 0 then some M0 else none
set_option maxRecDepth 100000 in
set_option maxHeartbeats 4000000 in
theorem tL_init {p : Program} {l : Launch} {e : Env} {s : State} {m : MethodId} {args : Array Value} {below : List Frame} {meth : Method} {c : Code} {G : qz_G} {h0 : Nat} (hinit : meth.name = "<init>") (hD : qz_D G) (hG : ∀ c i, G.2.2 c i = h0 + qy_of c i) (X : qy_X p s m args meth c "ExactCurves$Loan" prog_4_method_1_code 1 none G h0 qy_ns qy_ao) {r : qy_M} (o : Nat) (M0 : qy_M) (h : gL_init o M0 = some r) : qy_W p l e (qy_R 1 0 0) s m args below meth c (MQ below (qy_Q G h0 r) args s 0 0 (fun a => h0 ≤ a)) G h0 s.heap (M0.1, M0.2.1) 1 M0 0 [(0, .ref (G.2.2 6 o))] [] := by
  unfold gL_init at h
  refine qy_aload_n X 0 rfl dq_L_init_0 ?_
  refine qy_obj X ⟨wq_190, wq_18, oq_init⟩ ⟨by decide, by decide⟩ (Nat.le_of_ble_eq_true rfl) dq_L_init_1 ?_
  exact qy_vret X h dq_L_init_4
theorem kL_init (l : Launch) (G : qz_G) {h0 : Nat} (hD : qz_D G) (hG : ∀ c i, G.2.2 c i = h0 + qy_of c i) (o : Nat) (M0 r : qy_M) (h : gL_init o M0 = some r) : qy_C l yL_init prog_4_method_1_code 1 1 0 0 G h0 qy_ns qy_ao [.ref (G.2.2 6 o)] M0 r :=
  qy_enter (lv := [(0, .ref (G.2.2 6 o))]) rfl rfl hD hG (Nat.le_of_ble_eq_true rfl) rfl (fun p e s m args below meth c hi X => tL_init hi hD hG X o M0 h)
theorem dq_E_init_0 : decode prog_1_method_1_code 0 = .ok (.aload_n 0, 1) := by decide +kernel
theorem dq_E_init_1 : decode prog_1_method_1_code 1 = .ok (.invokespecial 1, 3) := by decide +kernel
theorem dq_E_init_4 : decode prog_1_method_1_code 4 = .ok (.aload_n 0, 1) := by decide +kernel
theorem dq_E_init_5 : decode prog_1_method_1_code 5 = .ok (.new 7, 3) := by decide +kernel
theorem dq_E_init_8 : decode prog_1_method_1_code 8 = .ok (.dup, 1) := by decide +kernel
theorem dq_E_init_9 : decode prog_1_method_1_code 9 = .ok (.invokespecial 9, 3) := by decide +kernel
theorem dq_E_init_12 : decode prog_1_method_1_code 12 = .ok (.putfield 10, 3) := by decide +kernel
theorem dq_E_init_15 : decode prog_1_method_1_code 15 = .ok (.aload_n 0, 1) := by decide +kernel
theorem dq_E_init_16 : decode prog_1_method_1_code 16 = .ok (.bipush 6, 2) := by decide +kernel
theorem dq_E_init_18 : decode prog_1_method_1_code 18 = .ok (.anewarray 16, 3) := by decide +kernel
theorem dq_E_init_21 : decode prog_1_method_1_code 21 = .ok (.putfield 18, 3) := by decide +kernel
theorem dq_E_init_24 : decode prog_1_method_1_code 24 = .ok (.aload_n 0, 1) := by decide +kernel
theorem dq_E_init_25 : decode prog_1_method_1_code 25 = .ok (.bipush 8, 2) := by decide +kernel
theorem dq_E_init_27 : decode prog_1_method_1_code 27 = .ok (.anewarray 22, 3) := by decide +kernel
theorem dq_E_init_30 : decode prog_1_method_1_code 30 = .ok (.putfield 24, 3) := by decide +kernel
theorem dq_E_init_33 : decode prog_1_method_1_code 33 = .ok (.aload_n 0, 1) := by decide +kernel
theorem dq_E_init_34 : decode prog_1_method_1_code 34 = .ok (.new 28, 3) := by decide +kernel
theorem dq_E_init_37 : decode prog_1_method_1_code 37 = .ok (.dup, 1) := by decide +kernel
theorem dq_E_init_38 : decode prog_1_method_1_code 38 = .ok (.invokespecial 30, 3) := by decide +kernel
theorem dq_E_init_41 : decode prog_1_method_1_code 41 = .ok (.putfield 31, 3) := by decide +kernel
theorem dq_E_init_44 : decode prog_1_method_1_code 44 = .ok (.aload_n 0, 1) := by decide +kernel
theorem dq_E_init_45 : decode prog_1_method_1_code 45 = .ok (.iconst 4, 1) := by decide +kernel
theorem dq_E_init_46 : decode prog_1_method_1_code 46 = .ok (.anewarray 35, 3) := by decide +kernel
theorem dq_E_init_49 : decode prog_1_method_1_code 49 = .ok (.putfield 37, 3) := by decide +kernel
theorem dq_E_init_52 : decode prog_1_method_1_code 52 = .ok (.aload_n 0, 1) := by decide +kernel
theorem dq_E_init_53 : decode prog_1_method_1_code 53 = .ok (.bipush 10, 2) := by decide +kernel
theorem dq_E_init_55 : decode prog_1_method_1_code 55 = .ok (.anewarray 41, 3) := by decide +kernel
theorem dq_E_init_58 : decode prog_1_method_1_code 58 = .ok (.putfield 43, 3) := by decide +kernel
theorem dq_E_init_61 : decode prog_1_method_1_code 61 = .ok (.iconst 0, 1) := by decide +kernel
theorem dq_E_init_62 : decode prog_1_method_1_code 62 = .ok (.istore_n 1, 1) := by decide +kernel
theorem dq_E_init_63 : decode prog_1_method_1_code 63 = .ok (.iload_n 1, 1) := by decide +kernel
theorem dq_E_init_64 : decode prog_1_method_1_code 64 = .ok (.bipush 6, 2) := by decide +kernel
theorem dq_E_init_66 : decode prog_1_method_1_code 66 = .ok (.if_icmp .ge 22, 3) := by decide +kernel
theorem dq_E_init_69 : decode prog_1_method_1_code 69 = .ok (.aload_n 0, 1) := by decide +kernel
theorem dq_E_init_70 : decode prog_1_method_1_code 70 = .ok (.getfield 18, 3) := by decide +kernel
theorem dq_E_init_73 : decode prog_1_method_1_code 73 = .ok (.iload_n 1, 1) := by decide +kernel
theorem dq_E_init_74 : decode prog_1_method_1_code 74 = .ok (.new 16, 3) := by decide +kernel
theorem dq_E_init_77 : decode prog_1_method_1_code 77 = .ok (.dup, 1) := by decide +kernel
theorem dq_E_init_78 : decode prog_1_method_1_code 78 = .ok (.invokespecial 47, 3) := by decide +kernel
theorem dq_E_init_81 : decode prog_1_method_1_code 81 = .ok (.aastore, 1) := by decide +kernel
theorem dq_E_init_82 : decode prog_1_method_1_code 82 = .ok (.iinc 1 1, 3) := by decide +kernel
theorem dq_E_init_85 : decode prog_1_method_1_code 85 = .ok (.goto (-22), 3) := by decide +kernel
theorem dq_E_init_88 : decode prog_1_method_1_code 88 = .ok (.iconst 0, 1) := by decide +kernel
theorem dq_E_init_89 : decode prog_1_method_1_code 89 = .ok (.istore_n 1, 1) := by decide +kernel
theorem dq_E_init_90 : decode prog_1_method_1_code 90 = .ok (.iload_n 1, 1) := by decide +kernel
theorem dq_E_init_91 : decode prog_1_method_1_code 91 = .ok (.bipush 8, 2) := by decide +kernel
theorem dq_E_init_93 : decode prog_1_method_1_code 93 = .ok (.if_icmp .ge 22, 3) := by decide +kernel
theorem dq_E_init_96 : decode prog_1_method_1_code 96 = .ok (.aload_n 0, 1) := by decide +kernel
theorem dq_E_init_97 : decode prog_1_method_1_code 97 = .ok (.getfield 24, 3) := by decide +kernel
theorem dq_E_init_100 : decode prog_1_method_1_code 100 = .ok (.iload_n 1, 1) := by decide +kernel
theorem dq_E_init_101 : decode prog_1_method_1_code 101 = .ok (.new 22, 3) := by decide +kernel
theorem dq_E_init_104 : decode prog_1_method_1_code 104 = .ok (.dup, 1) := by decide +kernel
theorem dq_E_init_105 : decode prog_1_method_1_code 105 = .ok (.invokespecial 48, 3) := by decide +kernel
theorem dq_E_init_108 : decode prog_1_method_1_code 108 = .ok (.aastore, 1) := by decide +kernel
theorem dq_E_init_109 : decode prog_1_method_1_code 109 = .ok (.iinc 1 1, 3) := by decide +kernel
theorem dq_E_init_112 : decode prog_1_method_1_code 112 = .ok (.goto (-22), 3) := by decide +kernel
theorem dq_E_init_115 : decode prog_1_method_1_code 115 = .ok (.iconst 0, 1) := by decide +kernel
theorem dq_E_init_116 : decode prog_1_method_1_code 116 = .ok (.istore_n 1, 1) := by decide +kernel
theorem dq_E_init_117 : decode prog_1_method_1_code 117 = .ok (.iload_n 1, 1) := by decide +kernel
theorem dq_E_init_118 : decode prog_1_method_1_code 118 = .ok (.iconst 4, 1) := by decide +kernel
theorem dq_E_init_119 : decode prog_1_method_1_code 119 = .ok (.if_icmp .ge 22, 3) := by decide +kernel
theorem dq_E_init_122 : decode prog_1_method_1_code 122 = .ok (.aload_n 0, 1) := by decide +kernel
theorem dq_E_init_123 : decode prog_1_method_1_code 123 = .ok (.getfield 37, 3) := by decide +kernel
theorem dq_E_init_126 : decode prog_1_method_1_code 126 = .ok (.iload_n 1, 1) := by decide +kernel
theorem dq_E_init_127 : decode prog_1_method_1_code 127 = .ok (.new 35, 3) := by decide +kernel
theorem dq_E_init_130 : decode prog_1_method_1_code 130 = .ok (.dup, 1) := by decide +kernel
theorem dq_E_init_131 : decode prog_1_method_1_code 131 = .ok (.invokespecial 49, 3) := by decide +kernel
theorem dq_E_init_134 : decode prog_1_method_1_code 134 = .ok (.aastore, 1) := by decide +kernel
theorem dq_E_init_135 : decode prog_1_method_1_code 135 = .ok (.iinc 1 1, 3) := by decide +kernel
theorem dq_E_init_138 : decode prog_1_method_1_code 138 = .ok (.goto (-21), 3) := by decide +kernel
theorem dq_E_init_141 : decode prog_1_method_1_code 141 = .ok (.iconst 0, 1) := by decide +kernel
theorem dq_E_init_142 : decode prog_1_method_1_code 142 = .ok (.istore_n 1, 1) := by decide +kernel
theorem dq_E_init_143 : decode prog_1_method_1_code 143 = .ok (.iload_n 1, 1) := by decide +kernel
theorem dq_E_init_144 : decode prog_1_method_1_code 144 = .ok (.bipush 10, 2) := by decide +kernel
theorem dq_E_init_146 : decode prog_1_method_1_code 146 = .ok (.if_icmp .ge 22, 3) := by decide +kernel
theorem dq_E_init_149 : decode prog_1_method_1_code 149 = .ok (.aload_n 0, 1) := by decide +kernel
theorem dq_E_init_150 : decode prog_1_method_1_code 150 = .ok (.getfield 43, 3) := by decide +kernel
theorem dq_E_init_153 : decode prog_1_method_1_code 153 = .ok (.iload_n 1, 1) := by decide +kernel
theorem dq_E_init_154 : decode prog_1_method_1_code 154 = .ok (.new 41, 3) := by decide +kernel
theorem dq_E_init_157 : decode prog_1_method_1_code 157 = .ok (.dup, 1) := by decide +kernel
theorem dq_E_init_158 : decode prog_1_method_1_code 158 = .ok (.invokespecial 50, 3) := by decide +kernel
theorem dq_E_init_161 : decode prog_1_method_1_code 161 = .ok (.aastore, 1) := by decide +kernel
theorem dq_E_init_162 : decode prog_1_method_1_code 162 = .ok (.iinc 1 1, 3) := by decide +kernel
theorem dq_E_init_165 : decode prog_1_method_1_code 165 = .ok (.goto (-22), 3) := by decide +kernel
theorem dq_E_init_168 : decode prog_1_method_1_code 168 = .ok (.return_, 1) := by decide +kernel
def gE_init_143b (M0 : qy_M) (y0 : Nat) (k143 : qy_M × Int32 → Option qy_M) (N : qy_M) (x1 : Int32) : Option qy_M :=
  if (10 : Int32) ≤ x1 then
    if N.1 ≤ (M0.1, M0.2.1).1 + 52 ∧ N.2.1 ≤ (M0.1, M0.2.1).2 + 505 then some N else none
  else
  if y0 < N.2.2.1 0 ∧ N.2.2.2.1 0 y0 5 = true then
  if qy_of 6 (N.2.2.1 6) = N.1 ∧ N.2.2.1 6 < 10 ∧ (M0.1, M0.2.1).1 ≤ N.1 ∧ (M0.1, M0.2.1).2 ≤ N.2.1 ∧ N.1 + 1 ≤ (M0.1, M0.2.1).1 + 52 ∧ N.2.1 + 6 ≤ (M0.1, M0.2.1).2 + 505 then qz_let (qy_add N 6 6) fun _ =>
  (gL_init (N.2.2.1 6) (qy_add N 6 6)).bind fun M11 => if (M0.1, M0.2.1).1 ≤ (qy_add N 6 6).1 ∧ (M0.1, M0.2.1).2 ≤ (qy_add N 6 6).2.1 ∧ M11.1 = (qy_add N 6 6).1 + 0 ∧ M11.2.1 = (qy_add N 6 6).2.1 + 0 ∧ (qy_add N 6 6).1 + 0 ≤ (M0.1, M0.2.1).1 + (qy_R 2 52 505).cells ∧ (qy_add N 6 6).2.1 + 0 ≤ (M0.1, M0.2.1).2 + (qy_R 2 52 505).slots then
  if ¬ (x1 < 0 ∨ 10 ≤ x1.toNatClampNeg) ∧ y0 < M11.2.2.1 11 ∧ (N.2.2.1 6) = x1.toNatClampNeg ∧ (N.2.2.1 6) < M11.2.2.1 6 then qz_let (qy_mk M11 11 y0 x1.toNatClampNeg) fun M13 =>
  qz_let (x1 + (1 : Int32)) fun v14 =>
  k143 (M13, v14)
  else none
  else none
  else none
  else none
def gE_init_143 (M0 : qy_M) (y0 : Nat) (n : Nat) (a : qy_M × Int32) : Option qy_M := qz_loop (fun k a => gE_init_143b M0 y0 k a.1 a.2) n a
def gE_init_117b (M0 : qy_M) (y0 : Nat) (k117 : qy_M × Int32 → Option qy_M) (N : qy_M) (x1 : Int32) : Option qy_M :=
  if (4 : Int32) ≤ x1 then
    gE_init_143 M0 y0 1100 (N, (0 : Int32))
  else
  if y0 < N.2.2.1 0 ∧ N.2.2.2.1 0 y0 4 = true then
  if qy_of 5 (N.2.2.1 5) = N.1 ∧ N.2.2.1 5 < 4 ∧ (M0.1, M0.2.1).1 ≤ N.1 ∧ (M0.1, M0.2.1).2 ≤ N.2.1 ∧ N.1 + 1 ≤ (M0.1, M0.2.1).1 + 52 ∧ N.2.1 + 5 ≤ (M0.1, M0.2.1).2 + 505 then qz_let (qy_add N 5 5) fun _ =>
  (gV_init (N.2.2.1 5) (qy_add N 5 5)).bind fun M16 => if (M0.1, M0.2.1).1 ≤ (qy_add N 5 5).1 ∧ (M0.1, M0.2.1).2 ≤ (qy_add N 5 5).2.1 ∧ M16.1 = (qy_add N 5 5).1 + 1 ∧ M16.2.1 = (qy_add N 5 5).2.1 + 6 ∧ (qy_add N 5 5).1 + 1 ≤ (M0.1, M0.2.1).1 + (qy_R 2 52 505).cells ∧ (qy_add N 5 5).2.1 + 6 ≤ (M0.1, M0.2.1).2 + (qy_R 2 52 505).slots then
  if ¬ (x1 < 0 ∨ 4 ≤ x1.toNatClampNeg) ∧ y0 < M16.2.2.1 10 ∧ (N.2.2.1 5) = x1.toNatClampNeg ∧ (N.2.2.1 5) < M16.2.2.1 5 then qz_let (qy_mk M16 10 y0 x1.toNatClampNeg) fun M18 =>
  qz_let (x1 + (1 : Int32)) fun v19 =>
  k117 (M18, v19)
  else none
  else none
  else none
  else none
def gE_init_117 (M0 : qy_M) (y0 : Nat) (n : Nat) (a : qy_M × Int32) : Option qy_M := qz_loop (fun k a => gE_init_117b M0 y0 k a.1 a.2) n a
def gE_init_90b (M0 : qy_M) (y0 : Nat) (k90 : qy_M × Int32 → Option qy_M) (N : qy_M) (x1 : Int32) : Option qy_M :=
  if (8 : Int32) ≤ x1 then
    gE_init_117 M0 y0 1100 (N, (0 : Int32))
  else
  if y0 < N.2.2.1 0 ∧ N.2.2.2.1 0 y0 2 = true then
  if qy_of 3 (N.2.2.1 3) = N.1 ∧ N.2.2.1 3 < 8 ∧ (M0.1, M0.2.1).1 ≤ N.1 ∧ (M0.1, M0.2.1).2 ≤ N.2.1 ∧ N.1 + 1 ≤ (M0.1, M0.2.1).1 + 52 ∧ N.2.1 + 4 ≤ (M0.1, M0.2.1).2 + 505 then qz_let (qy_add N 3 4) fun _ =>
  (gK_init (N.2.2.1 3) (qy_add N 3 4)).bind fun M21 => if (M0.1, M0.2.1).1 ≤ (qy_add N 3 4).1 ∧ (M0.1, M0.2.1).2 ≤ (qy_add N 3 4).2.1 ∧ M21.1 = (qy_add N 3 4).1 + 0 ∧ M21.2.1 = (qy_add N 3 4).2.1 + 0 ∧ (qy_add N 3 4).1 + 0 ≤ (M0.1, M0.2.1).1 + (qy_R 2 52 505).cells ∧ (qy_add N 3 4).2.1 + 0 ≤ (M0.1, M0.2.1).2 + (qy_R 2 52 505).slots then
  if ¬ (x1 < 0 ∨ 8 ≤ x1.toNatClampNeg) ∧ y0 < M21.2.2.1 9 ∧ (N.2.2.1 3) = x1.toNatClampNeg ∧ (N.2.2.1 3) < M21.2.2.1 3 then qz_let (qy_mk M21 9 y0 x1.toNatClampNeg) fun M23 =>
  qz_let (x1 + (1 : Int32)) fun v24 =>
  k90 (M23, v24)
  else none
  else none
  else none
  else none
def gE_init_90 (M0 : qy_M) (y0 : Nat) (n : Nat) (a : qy_M × Int32) : Option qy_M := qz_loop (fun k a => gE_init_90b M0 y0 k a.1 a.2) n a
def gE_init_63b (M0 : qy_M) (y0 : Nat) (k63 : qy_M × Int32 → Option qy_M) (N : qy_M) (x1 : Int32) : Option qy_M :=
  if (6 : Int32) ≤ x1 then
    gE_init_90 M0 y0 1100 (N, (0 : Int32))
  else
  if y0 < N.2.2.1 0 ∧ N.2.2.2.1 0 y0 1 = true then
  if qy_of 2 (N.2.2.1 2) = N.1 ∧ N.2.2.1 2 < 6 ∧ (M0.1, M0.2.1).1 ≤ N.1 ∧ (M0.1, M0.2.1).2 ≤ N.2.1 ∧ N.1 + 1 ≤ (M0.1, M0.2.1).1 + 52 ∧ N.2.1 + 10 ≤ (M0.1, M0.2.1).2 + 505 then qz_let (qy_add N 2 10) fun _ =>
  (gP_init (N.2.2.1 2) (qy_add N 2 10)).bind fun M26 => if (M0.1, M0.2.1).1 ≤ (qy_add N 2 10).1 ∧ (M0.1, M0.2.1).2 ≤ (qy_add N 2 10).2.1 ∧ M26.1 = (qy_add N 2 10).1 + 1 ∧ M26.2.1 = (qy_add N 2 10).2.1 + 6 ∧ (qy_add N 2 10).1 + 1 ≤ (M0.1, M0.2.1).1 + (qy_R 2 52 505).cells ∧ (qy_add N 2 10).2.1 + 6 ≤ (M0.1, M0.2.1).2 + (qy_R 2 52 505).slots then
  if ¬ (x1 < 0 ∨ 6 ≤ x1.toNatClampNeg) ∧ y0 < M26.2.2.1 8 ∧ (N.2.2.1 2) = x1.toNatClampNeg ∧ (N.2.2.1 2) < M26.2.2.1 2 then qz_let (qy_mk M26 8 y0 x1.toNatClampNeg) fun M28 =>
  qz_let (x1 + (1 : Int32)) fun v29 =>
  k63 (M28, v29)
  else none
  else none
  else none
  else none
def gE_init_63 (M0 : qy_M) (y0 : Nat) (n : Nat) (a : qy_M × Int32) : Option qy_M := qz_loop (fun k a => gE_init_63b M0 y0 k a.1 a.2) n a
def gE_init (o : Nat) (M0 : qy_M) : Option qy_M :=
  if qy_of 1 (M0.2.2.1 1) = M0.1 ∧ M0.2.2.1 1 < 1 ∧ (M0.1, M0.2.1).1 ≤ M0.1 ∧ (M0.1, M0.2.1).2 ≤ M0.2.1 ∧ M0.1 + 1 ≤ (M0.1, M0.2.1).1 + 52 ∧ M0.2.1 + 3 ≤ (M0.1, M0.2.1).2 + 505 then qz_let (qy_add M0 1 3) fun _ =>
  (gU_init (M0.2.2.1 1) (qy_add M0 1 3)).bind fun M1 => if (M0.1, M0.2.1).1 ≤ (qy_add M0 1 3).1 ∧ (M0.1, M0.2.1).2 ≤ (qy_add M0 1 3).2.1 ∧ M1.1 = (qy_add M0 1 3).1 + 3 ∧ M1.2.1 = (qy_add M0 1 3).2.1 + 32 ∧ (qy_add M0 1 3).1 + 3 ≤ (M0.1, M0.2.1).1 + (qy_R 2 52 505).cells ∧ (qy_add M0 1 3).2.1 + 32 ≤ (M0.1, M0.2.1).2 + (qy_R 2 52 505).slots then
  if (M0.2.2.1 1) = o ∧ o < M1.2.2.1 0 then qz_let (qy_mk M1 0 o 0) fun M3 =>
  if qy_of 8 (M3.2.2.1 8) = M3.1 ∧ M3.2.2.1 8 < 1 ∧ (M0.1, M0.2.1).1 ≤ M3.1 ∧ (M0.1, M0.2.1).2 ≤ M3.2.1 ∧ M3.1 + 1 ≤ (M0.1, M0.2.1).1 + 52 ∧ M3.2.1 + 6 ≤ (M0.1, M0.2.1).2 + 505 then qz_let (qy_add M3 8 6) fun _ =>
  if (M3.2.2.1 8) = o ∧ o < (qy_add M3 8 6).2.2.1 0 then qz_let (qy_mk (qy_add M3 8 6) 0 o 1) fun M4 =>
  if qy_of 9 (M4.2.2.1 9) = M4.1 ∧ M4.2.2.1 9 < 1 ∧ (M0.1, M0.2.1).1 ≤ M4.1 ∧ (M0.1, M0.2.1).2 ≤ M4.2.1 ∧ M4.1 + 1 ≤ (M0.1, M0.2.1).1 + 52 ∧ M4.2.1 + 8 ≤ (M0.1, M0.2.1).2 + 505 then qz_let (qy_add M4 9 8) fun _ =>
  if (M4.2.2.1 9) = o ∧ o < (qy_add M4 9 8).2.2.1 0 then qz_let (qy_mk (qy_add M4 9 8) 0 o 2) fun M5 =>
  if qy_of 4 (M5.2.2.1 4) = M5.1 ∧ M5.2.2.1 4 < 1 ∧ (M0.1, M0.2.1).1 ≤ M5.1 ∧ (M0.1, M0.2.1).2 ≤ M5.2.1 ∧ M5.1 + 1 ≤ (M0.1, M0.2.1).1 + 52 ∧ M5.2.1 + 10 ≤ (M0.1, M0.2.1).2 + 505 then qz_let (qy_add M5 4 10) fun _ =>
  (gB_init (M5.2.2.1 4) (qy_add M5 4 10)).bind fun M6 => if (M0.1, M0.2.1).1 ≤ (qy_add M5 4 10).1 ∧ (M0.1, M0.2.1).2 ≤ (qy_add M5 4 10).2.1 ∧ M6.1 = (qy_add M5 4 10).1 + 5 ∧ M6.2.1 = (qy_add M5 4 10).2.1 + 200 ∧ (qy_add M5 4 10).1 + 5 ≤ (M0.1, M0.2.1).1 + (qy_R 2 52 505).cells ∧ (qy_add M5 4 10).2.1 + 200 ≤ (M0.1, M0.2.1).2 + (qy_R 2 52 505).slots then
  if (M5.2.2.1 4) = o ∧ o < M6.2.2.1 0 then qz_let (qy_mk M6 0 o 3) fun M8 =>
  if qy_of 10 (M8.2.2.1 10) = M8.1 ∧ M8.2.2.1 10 < 1 ∧ (M0.1, M0.2.1).1 ≤ M8.1 ∧ (M0.1, M0.2.1).2 ≤ M8.2.1 ∧ M8.1 + 1 ≤ (M0.1, M0.2.1).1 + 52 ∧ M8.2.1 + 4 ≤ (M0.1, M0.2.1).2 + 505 then qz_let (qy_add M8 10 4) fun _ =>
  if (M8.2.2.1 10) = o ∧ o < (qy_add M8 10 4).2.2.1 0 then qz_let (qy_mk (qy_add M8 10 4) 0 o 4) fun M9 =>
  if qy_of 11 (M9.2.2.1 11) = M9.1 ∧ M9.2.2.1 11 < 1 ∧ (M0.1, M0.2.1).1 ≤ M9.1 ∧ (M0.1, M0.2.1).2 ≤ M9.2.1 ∧ M9.1 + 1 ≤ (M0.1, M0.2.1).1 + 52 ∧ M9.2.1 + 10 ≤ (M0.1, M0.2.1).2 + 505 then qz_let (qy_add M9 11 10) fun _ =>
  if (M9.2.2.1 11) = o ∧ o < (qy_add M9 11 10).2.2.1 0 then qz_let (qy_mk (qy_add M9 11 10) 0 o 5) fun M10 =>
  gE_init_63 M0 o 1100 (M10, (0 : Int32))
  else none
  else none
  else none
  else none
  else none
  else none
  else none
  else none
  else none
  else none
  else none
  else none
  else none
  else none
set_option maxRecDepth 100000 in
set_option maxHeartbeats 4000000 in
theorem tE_init_143b {p : Program} {l : Launch} {e : Env} {s : State} {m : MethodId} {args : Array Value} {below : List Frame} {meth : Method} {c : Code} {G : qz_G} {h0 : Nat} (hinit : meth.name = "<init>") (hD : qz_D G) (hG : ∀ c i, G.2.2 c i = h0 + qy_of c i) (X : qy_X p s m args meth c "ExactCurves" prog_1_method_1_code 2 none G h0 qy_ns qy_ao) {r : qy_M} (M0 : qy_M) (y0 : Nat) (hy0 : True) (k143 : qy_M × Int32 → Option qy_M) (hk143 : ∀ a, k143 a = some r → qy_W p l e (qy_R 2 52 505) s m args below meth c (MQ below (qy_Q G h0 r) args s 52 505 (fun a => h0 ≤ a)) G h0 s.heap (M0.1, M0.2.1) 2 a.1 143 [(1, .int a.2), (0, .ref (G.2.2 0 y0))] []) (N : qy_M) (x1 : Int32) (h : gE_init_143b M0 y0 k143 N x1 = some r) : qy_W p l e (qy_R 2 52 505) s m args below meth c (MQ below (qy_Q G h0 r) args s 52 505 (fun a => h0 ≤ a)) G h0 s.heap (M0.1, M0.2.1) 2 N 143 [(1, .int x1), (0, .ref (G.2.2 0 y0))] [] := by
  unfold gE_init_143b at h
  refine qy_iload_n X 0 rfl dq_E_init_143 ?_
  refine qy_bipush X (v := (10 : Int32)) (by decide) dq_E_init_144 ?_
  refine qy_icmp_ge X (tgt := 168) (by decide) dq_E_init_146 h (fun _ h => ?_) (fun _ h => ?_)
  · exact qy_vret X h dq_E_init_168
  · refine qy_aload_n X 1 rfl dq_E_init_149 ?_
    refine qz_ite h (fun hc h => ?_) (fun _ h => by cases h)
    refine qy_get X (v := .ref (G.2.2 11 y0)) kq_E_43 hc.1 (by show (if _ then _ else _) = _; rw [if_pos hc.2]) dq_E_init_150 ?_
    refine qy_iload_n X 0 rfl dq_E_init_153 ?_
    refine qy_new X (ty := fq_6) ⟨rfl, rfl⟩ rfl rfl iq_6 yq_6 uq_6 ⟨wq_94, wq_186, wq_7⟩ dq_E_init_154 h (fun h => ?_)
    refine qy_dup X rfl dq_E_init_157 ?_
    refine qz_bind h (fun M11 e12 h => ?_)
    refine qy_ctorN X (st := [.ref (G.2.2 6 (N.2.2.1 6)), .int x1, .ref (G.2.2 11 y0)]) (N' := M11) (y := yL_init) ⟨wq_189, wq_7, wq_188, List.mem_of_getElem? (i := 0) rfl⟩ ⟨rfl, by decide, by decide, by decide +kernel⟩ (kL_init l G hD hG (N.2.2.1 6) (qy_add N 6 6) _ e12) ⟨by decide, by decide⟩ (Nat.le_of_ble_eq_true rfl) dq_E_init_158 h (fun h => ?_)
    refine qy_aast X rfl rfl rfl dq_E_init_161 h (fun M13 h => ?_)
    refine qy_iinc_l X (u := (1 : Int32)) (lv' := fun v14 => [(1, .int v14), (0, .ref (G.2.2 0 y0))]) (k := 0) rfl (by decide) (by decide) (fun _ => rfl) dq_E_init_162 h (fun v14 h => ?_)
    refine qy_goto X (tgt := 143) (by decide) dq_E_init_165 ?_
    refine qy_sub [0, 1] rfl ?_
    exact hk143 (M13, v14) h
theorem tE_init_143 {p : Program} {l : Launch} {e : Env} {s : State} {m : MethodId} {args : Array Value} {below : List Frame} {meth : Method} {c : Code} {G : qz_G} {h0 : Nat} (hinit : meth.name = "<init>") (hD : qz_D G) (hG : ∀ c i, G.2.2 c i = h0 + qy_of c i) (X : qy_X p s m args meth c "ExactCurves" prog_1_method_1_code 2 none G h0 qy_ns qy_ao) {r : qy_M} (M0 : qy_M) (y0 : Nat) (hy0 : True) (n : Nat) (a : qy_M × Int32) (h : gE_init_143 M0 y0 n a = some r) : qy_W p l e (qy_R 2 52 505) s m args below meth c (MQ below (qy_Q G h0 r) args s 52 505 (fun a => h0 ≤ a)) G h0 s.heap (M0.1, M0.2.1) 2 a.1 143 [(1, .int a.2), (0, .ref (G.2.2 0 y0))] [] :=
  qz_loop_ind (P := fun a => qy_W p l e (qy_R 2 52 505) s m args below meth c (MQ below (qy_Q G h0 r) args s 52 505 (fun a => h0 ≤ a)) G h0 s.heap (M0.1, M0.2.1) 2 a.1 143 [(1, .int a.2), (0, .ref (G.2.2 0 y0))] []) (fun k hk a h => tE_init_143b hinit hD hG X M0 y0 hy0 k hk a.1 a.2 h) n a h
set_option maxRecDepth 100000 in
set_option maxHeartbeats 4000000 in
theorem tE_init_117b {p : Program} {l : Launch} {e : Env} {s : State} {m : MethodId} {args : Array Value} {below : List Frame} {meth : Method} {c : Code} {G : qz_G} {h0 : Nat} (hinit : meth.name = "<init>") (hD : qz_D G) (hG : ∀ c i, G.2.2 c i = h0 + qy_of c i) (X : qy_X p s m args meth c "ExactCurves" prog_1_method_1_code 2 none G h0 qy_ns qy_ao) {r : qy_M} (M0 : qy_M) (y0 : Nat) (hy0 : True) (k117 : qy_M × Int32 → Option qy_M) (hk117 : ∀ a, k117 a = some r → qy_W p l e (qy_R 2 52 505) s m args below meth c (MQ below (qy_Q G h0 r) args s 52 505 (fun a => h0 ≤ a)) G h0 s.heap (M0.1, M0.2.1) 2 a.1 117 [(1, .int a.2), (0, .ref (G.2.2 0 y0))] []) (N : qy_M) (x1 : Int32) (h : gE_init_117b M0 y0 k117 N x1 = some r) : qy_W p l e (qy_R 2 52 505) s m args below meth c (MQ below (qy_Q G h0 r) args s 52 505 (fun a => h0 ≤ a)) G h0 s.heap (M0.1, M0.2.1) 2 N 117 [(1, .int x1), (0, .ref (G.2.2 0 y0))] [] := by
  unfold gE_init_117b at h
  refine qy_iload_n X 0 rfl dq_E_init_117 ?_
  refine qy_iconst X (v := (4 : Int32)) (by decide) dq_E_init_118 ?_
  refine qy_icmp_ge X (tgt := 141) (by decide) dq_E_init_119 h (fun _ h => ?_) (fun _ h => ?_)
  · refine qy_iconst X (v := (0 : Int32)) (by decide) dq_E_init_141 ?_
    refine qy_istore_n X (lv' := [(1, .int (0 : Int32)), (0, .ref (G.2.2 0 y0))]) rfl (by decide) rfl dq_E_init_142 ?_
    refine qy_sub [0, 1] rfl ?_
    exact tE_init_143 hinit hD hG X M0 y0 hy0 1100 (N, (0 : Int32)) h
  · refine qy_aload_n X 1 rfl dq_E_init_122 ?_
    refine qz_ite h (fun hc h => ?_) (fun _ h => by cases h)
    refine qy_get X (v := .ref (G.2.2 10 y0)) kq_E_37 hc.1 (by show (if _ then _ else _) = _; rw [if_pos hc.2]) dq_E_init_123 ?_
    refine qy_iload_n X 0 rfl dq_E_init_126 ?_
    refine qy_new X (ty := fq_5) ⟨rfl, rfl⟩ rfl rfl iq_5 yq_5 uq_5 ⟨wq_92, wq_160, wq_6⟩ dq_E_init_127 h (fun h => ?_)
    refine qy_dup X rfl dq_E_init_130 ?_
    refine qz_bind h (fun M16 e17 h => ?_)
    refine qy_ctorN X (st := [.ref (G.2.2 5 (N.2.2.1 5)), .int x1, .ref (G.2.2 10 y0)]) (N' := M16) (y := yV_init) ⟨wq_163, wq_6, wq_162, List.mem_of_getElem? (i := 1) rfl⟩ ⟨rfl, by decide, by decide, by decide +kernel⟩ (kV_init l G hD hG (N.2.2.1 5) (qy_add N 5 5) _ e17) ⟨by decide, by decide⟩ (Nat.le_of_ble_eq_true rfl) dq_E_init_131 h (fun h => ?_)
    refine qy_aast X rfl rfl rfl dq_E_init_134 h (fun M18 h => ?_)
    refine qy_iinc_l X (u := (1 : Int32)) (lv' := fun v19 => [(1, .int v19), (0, .ref (G.2.2 0 y0))]) (k := 0) rfl (by decide) (by decide) (fun _ => rfl) dq_E_init_135 h (fun v19 h => ?_)
    refine qy_goto X (tgt := 117) (by decide) dq_E_init_138 ?_
    refine qy_sub [0, 1] rfl ?_
    exact hk117 (M18, v19) h
theorem tE_init_117 {p : Program} {l : Launch} {e : Env} {s : State} {m : MethodId} {args : Array Value} {below : List Frame} {meth : Method} {c : Code} {G : qz_G} {h0 : Nat} (hinit : meth.name = "<init>") (hD : qz_D G) (hG : ∀ c i, G.2.2 c i = h0 + qy_of c i) (X : qy_X p s m args meth c "ExactCurves" prog_1_method_1_code 2 none G h0 qy_ns qy_ao) {r : qy_M} (M0 : qy_M) (y0 : Nat) (hy0 : True) (n : Nat) (a : qy_M × Int32) (h : gE_init_117 M0 y0 n a = some r) : qy_W p l e (qy_R 2 52 505) s m args below meth c (MQ below (qy_Q G h0 r) args s 52 505 (fun a => h0 ≤ a)) G h0 s.heap (M0.1, M0.2.1) 2 a.1 117 [(1, .int a.2), (0, .ref (G.2.2 0 y0))] [] :=
  qz_loop_ind (P := fun a => qy_W p l e (qy_R 2 52 505) s m args below meth c (MQ below (qy_Q G h0 r) args s 52 505 (fun a => h0 ≤ a)) G h0 s.heap (M0.1, M0.2.1) 2 a.1 117 [(1, .int a.2), (0, .ref (G.2.2 0 y0))] []) (fun k hk a h => tE_init_117b hinit hD hG X M0 y0 hy0 k hk a.1 a.2 h) n a h
set_option maxRecDepth 100000 in
set_option maxHeartbeats 4000000 in
theorem tE_init_90b {p : Program} {l : Launch} {e : Env} {s : State} {m : MethodId} {args : Array Value} {below : List Frame} {meth : Method} {c : Code} {G : qz_G} {h0 : Nat} (hinit : meth.name = "<init>") (hD : qz_D G) (hG : ∀ c i, G.2.2 c i = h0 + qy_of c i) (X : qy_X p s m args meth c "ExactCurves" prog_1_method_1_code 2 none G h0 qy_ns qy_ao) {r : qy_M} (M0 : qy_M) (y0 : Nat) (hy0 : True) (k90 : qy_M × Int32 → Option qy_M) (hk90 : ∀ a, k90 a = some r → qy_W p l e (qy_R 2 52 505) s m args below meth c (MQ below (qy_Q G h0 r) args s 52 505 (fun a => h0 ≤ a)) G h0 s.heap (M0.1, M0.2.1) 2 a.1 90 [(1, .int a.2), (0, .ref (G.2.2 0 y0))] []) (N : qy_M) (x1 : Int32) (h : gE_init_90b M0 y0 k90 N x1 = some r) : qy_W p l e (qy_R 2 52 505) s m args below meth c (MQ below (qy_Q G h0 r) args s 52 505 (fun a => h0 ≤ a)) G h0 s.heap (M0.1, M0.2.1) 2 N 90 [(1, .int x1), (0, .ref (G.2.2 0 y0))] [] := by
  unfold gE_init_90b at h
  refine qy_iload_n X 0 rfl dq_E_init_90 ?_
  refine qy_bipush X (v := (8 : Int32)) (by decide) dq_E_init_91 ?_
  refine qy_icmp_ge X (tgt := 115) (by decide) dq_E_init_93 h (fun _ h => ?_) (fun _ h => ?_)
  · refine qy_iconst X (v := (0 : Int32)) (by decide) dq_E_init_115 ?_
    refine qy_istore_n X (lv' := [(1, .int (0 : Int32)), (0, .ref (G.2.2 0 y0))]) rfl (by decide) rfl dq_E_init_116 ?_
    refine qy_sub [0, 1] rfl ?_
    exact tE_init_117 hinit hD hG X M0 y0 hy0 1100 (N, (0 : Int32)) h
  · refine qy_aload_n X 1 rfl dq_E_init_96 ?_
    refine qz_ite h (fun hc h => ?_) (fun _ h => by cases h)
    refine qy_get X (v := .ref (G.2.2 9 y0)) kq_E_24 hc.1 (by show (if _ then _ else _) = _; rw [if_pos hc.2]) dq_E_init_97 ?_
    refine qy_iload_n X 0 rfl dq_E_init_100 ?_
    refine qy_new X (ty := fq_3) ⟨rfl, rfl⟩ rfl rfl iq_3 yq_3 uq_3 ⟨wq_41, wq_142, wq_5⟩ dq_E_init_101 h (fun h => ?_)
    refine qy_dup X rfl dq_E_init_104 ?_
    refine qz_bind h (fun M21 e22 h => ?_)
    refine qy_ctorN X (st := [.ref (G.2.2 3 (N.2.2.1 3)), .int x1, .ref (G.2.2 9 y0)]) (N' := M21) (y := yK_init) ⟨wq_145, wq_5, wq_144, List.mem_of_getElem? (i := 2) rfl⟩ ⟨rfl, by decide, by decide, by decide +kernel⟩ (kK_init l G hD hG (N.2.2.1 3) (qy_add N 3 4) _ e22) ⟨by decide, by decide⟩ (Nat.le_of_ble_eq_true rfl) dq_E_init_105 h (fun h => ?_)
    refine qy_aast X rfl rfl rfl dq_E_init_108 h (fun M23 h => ?_)
    refine qy_iinc_l X (u := (1 : Int32)) (lv' := fun v24 => [(1, .int v24), (0, .ref (G.2.2 0 y0))]) (k := 0) rfl (by decide) (by decide) (fun _ => rfl) dq_E_init_109 h (fun v24 h => ?_)
    refine qy_goto X (tgt := 90) (by decide) dq_E_init_112 ?_
    refine qy_sub [0, 1] rfl ?_
    exact hk90 (M23, v24) h
theorem tE_init_90 {p : Program} {l : Launch} {e : Env} {s : State} {m : MethodId} {args : Array Value} {below : List Frame} {meth : Method} {c : Code} {G : qz_G} {h0 : Nat} (hinit : meth.name = "<init>") (hD : qz_D G) (hG : ∀ c i, G.2.2 c i = h0 + qy_of c i) (X : qy_X p s m args meth c "ExactCurves" prog_1_method_1_code 2 none G h0 qy_ns qy_ao) {r : qy_M} (M0 : qy_M) (y0 : Nat) (hy0 : True) (n : Nat) (a : qy_M × Int32) (h : gE_init_90 M0 y0 n a = some r) : qy_W p l e (qy_R 2 52 505) s m args below meth c (MQ below (qy_Q G h0 r) args s 52 505 (fun a => h0 ≤ a)) G h0 s.heap (M0.1, M0.2.1) 2 a.1 90 [(1, .int a.2), (0, .ref (G.2.2 0 y0))] [] :=
  qz_loop_ind (P := fun a => qy_W p l e (qy_R 2 52 505) s m args below meth c (MQ below (qy_Q G h0 r) args s 52 505 (fun a => h0 ≤ a)) G h0 s.heap (M0.1, M0.2.1) 2 a.1 90 [(1, .int a.2), (0, .ref (G.2.2 0 y0))] []) (fun k hk a h => tE_init_90b hinit hD hG X M0 y0 hy0 k hk a.1 a.2 h) n a h
set_option maxRecDepth 100000 in
set_option maxHeartbeats 4000000 in
theorem tE_init_63b {p : Program} {l : Launch} {e : Env} {s : State} {m : MethodId} {args : Array Value} {below : List Frame} {meth : Method} {c : Code} {G : qz_G} {h0 : Nat} (hinit : meth.name = "<init>") (hD : qz_D G) (hG : ∀ c i, G.2.2 c i = h0 + qy_of c i) (X : qy_X p s m args meth c "ExactCurves" prog_1_method_1_code 2 none G h0 qy_ns qy_ao) {r : qy_M} (M0 : qy_M) (y0 : Nat) (hy0 : True) (k63 : qy_M × Int32 → Option qy_M) (hk63 : ∀ a, k63 a = some r → qy_W p l e (qy_R 2 52 505) s m args below meth c (MQ below (qy_Q G h0 r) args s 52 505 (fun a => h0 ≤ a)) G h0 s.heap (M0.1, M0.2.1) 2 a.1 63 [(1, .int a.2), (0, .ref (G.2.2 0 y0))] []) (N : qy_M) (x1 : Int32) (h : gE_init_63b M0 y0 k63 N x1 = some r) : qy_W p l e (qy_R 2 52 505) s m args below meth c (MQ below (qy_Q G h0 r) args s 52 505 (fun a => h0 ≤ a)) G h0 s.heap (M0.1, M0.2.1) 2 N 63 [(1, .int x1), (0, .ref (G.2.2 0 y0))] [] := by
  unfold gE_init_63b at h
  refine qy_iload_n X 0 rfl dq_E_init_63 ?_
  refine qy_bipush X (v := (6 : Int32)) (by decide) dq_E_init_64 ?_
  refine qy_icmp_ge X (tgt := 88) (by decide) dq_E_init_66 h (fun _ h => ?_) (fun _ h => ?_)
  · refine qy_iconst X (v := (0 : Int32)) (by decide) dq_E_init_88 ?_
    refine qy_istore_n X (lv' := [(1, .int (0 : Int32)), (0, .ref (G.2.2 0 y0))]) rfl (by decide) rfl dq_E_init_89 ?_
    refine qy_sub [0, 1] rfl ?_
    exact tE_init_90 hinit hD hG X M0 y0 hy0 1100 (N, (0 : Int32)) h
  · refine qy_aload_n X 1 rfl dq_E_init_69 ?_
    refine qz_ite h (fun hc h => ?_) (fun _ h => by cases h)
    refine qy_get X (v := .ref (G.2.2 8 y0)) kq_E_18 hc.1 (by show (if _ then _ else _) = _; rw [if_pos hc.2]) dq_E_init_70 ?_
    refine qy_iload_n X 0 rfl dq_E_init_73 ?_
    refine qy_new X (ty := fq_2) ⟨rfl, rfl⟩ rfl rfl iq_2 yq_2 uq_2 ⟨wq_39, wq_96, wq_4⟩ dq_E_init_74 h (fun h => ?_)
    refine qy_dup X rfl dq_E_init_77 ?_
    refine qz_bind h (fun M26 e27 h => ?_)
    refine qy_ctorN X (st := [.ref (G.2.2 2 (N.2.2.1 2)), .int x1, .ref (G.2.2 8 y0)]) (N' := M26) (y := yP_init) ⟨wq_99, wq_4, wq_98, List.mem_of_getElem? (i := 3) rfl⟩ ⟨rfl, by decide, by decide, by decide +kernel⟩ (kP_init l G hD hG (N.2.2.1 2) (qy_add N 2 10) _ e27) ⟨by decide, by decide⟩ (Nat.le_of_ble_eq_true rfl) dq_E_init_78 h (fun h => ?_)
    refine qy_aast X rfl rfl rfl dq_E_init_81 h (fun M28 h => ?_)
    refine qy_iinc_l X (u := (1 : Int32)) (lv' := fun v29 => [(1, .int v29), (0, .ref (G.2.2 0 y0))]) (k := 0) rfl (by decide) (by decide) (fun _ => rfl) dq_E_init_82 h (fun v29 h => ?_)
    refine qy_goto X (tgt := 63) (by decide) dq_E_init_85 ?_
    refine qy_sub [0, 1] rfl ?_
    exact hk63 (M28, v29) h
theorem tE_init_63 {p : Program} {l : Launch} {e : Env} {s : State} {m : MethodId} {args : Array Value} {below : List Frame} {meth : Method} {c : Code} {G : qz_G} {h0 : Nat} (hinit : meth.name = "<init>") (hD : qz_D G) (hG : ∀ c i, G.2.2 c i = h0 + qy_of c i) (X : qy_X p s m args meth c "ExactCurves" prog_1_method_1_code 2 none G h0 qy_ns qy_ao) {r : qy_M} (M0 : qy_M) (y0 : Nat) (hy0 : True) (n : Nat) (a : qy_M × Int32) (h : gE_init_63 M0 y0 n a = some r) : qy_W p l e (qy_R 2 52 505) s m args below meth c (MQ below (qy_Q G h0 r) args s 52 505 (fun a => h0 ≤ a)) G h0 s.heap (M0.1, M0.2.1) 2 a.1 63 [(1, .int a.2), (0, .ref (G.2.2 0 y0))] [] :=
  qz_loop_ind (P := fun a => qy_W p l e (qy_R 2 52 505) s m args below meth c (MQ below (qy_Q G h0 r) args s 52 505 (fun a => h0 ≤ a)) G h0 s.heap (M0.1, M0.2.1) 2 a.1 63 [(1, .int a.2), (0, .ref (G.2.2 0 y0))] []) (fun k hk a h => tE_init_63b hinit hD hG X M0 y0 hy0 k hk a.1 a.2 h) n a h
set_option maxRecDepth 100000 in
set_option maxHeartbeats 4000000 in
theorem tE_init {p : Program} {l : Launch} {e : Env} {s : State} {m : MethodId} {args : Array Value} {below : List Frame} {meth : Method} {c : Code} {G : qz_G} {h0 : Nat} (hinit : meth.name = "<init>") (hD : qz_D G) (hG : ∀ c i, G.2.2 c i = h0 + qy_of c i) (X : qy_X p s m args meth c "ExactCurves" prog_1_method_1_code 2 none G h0 qy_ns qy_ao) {r : qy_M} (o : Nat) (M0 : qy_M) (h : gE_init o M0 = some r) : qy_W p l e (qy_R 2 52 505) s m args below meth c (MQ below (qy_Q G h0 r) args s 52 505 (fun a => h0 ≤ a)) G h0 s.heap (M0.1, M0.2.1) 2 M0 0 [(0, .ref (G.2.2 0 o))] [] := by
  unfold gE_init at h
  refine qy_aload_n X 0 rfl dq_E_init_0 ?_
  refine qy_obj X ⟨wq_17, wq_18, oq_init⟩ ⟨by decide, by decide⟩ (Nat.le_of_ble_eq_true rfl) dq_E_init_1 ?_
  refine qy_aload_n X 0 rfl dq_E_init_4 ?_
  refine qy_new X (ty := fq_1) ⟨rfl, rfl⟩ rfl rfl iq_1 yq_1 uq_1 ⟨wq_20, wq_21, wq_2⟩ dq_E_init_5 h (fun h => ?_)
  refine qy_dup X rfl dq_E_init_8 ?_
  refine qz_bind h (fun M1 e2 h => ?_)
  refine qy_ctorN X (st := [.ref (G.2.2 1 (M0.2.2.1 1)), .ref (G.2.2 0 o)]) (N' := M1) (y := yU_init) ⟨wq_24, wq_2, wq_23, List.mem_of_getElem? (i := 5) rfl⟩ ⟨rfl, by decide, by decide, by decide +kernel⟩ (kU_init l G hD hG (M0.2.2.1 1) (qy_add M0 1 3) _ e2) ⟨by decide, by decide⟩ (Nat.le_of_ble_eq_true rfl) dq_E_init_9 h (fun h => ?_)
  refine qy_putR X rfl kq_E_10 (Or.inr ⟨hinit, 0, sq_0, tq_0, 8, rfl, rfl, rfl⟩) dq_E_init_12 h (fun M3 h => ?_)
  refine qy_aload_n X 0 rfl dq_E_init_15 ?_
  refine qy_bipush X (v := (6 : Int32)) (by decide) dq_E_init_16 ?_
  refine qy_newq X (tg := 2) ⟨rfl, rfl⟩ rfl ⟨by decide, by decide, by decide⟩ wq_39 (List.mem_of_getElem? (i := 3) rfl) dq_E_init_18 h (fun h => ?_)
  refine qy_putR X rfl kq_E_18 (Or.inr ⟨hinit, 0, sq_0, tq_0, 8, rfl, rfl, rfl⟩) dq_E_init_21 h (fun M4 h => ?_)
  refine qy_aload_n X 0 rfl dq_E_init_24 ?_
  refine qy_bipush X (v := (8 : Int32)) (by decide) dq_E_init_25 ?_
  refine qy_newq X (tg := 3) ⟨rfl, rfl⟩ rfl ⟨by decide, by decide, by decide⟩ wq_41 (List.mem_of_getElem? (i := 2) rfl) dq_E_init_27 h (fun h => ?_)
  refine qy_putR X rfl kq_E_24 (Or.inr ⟨hinit, 0, sq_0, tq_0, 8, rfl, rfl, rfl⟩) dq_E_init_30 h (fun M5 h => ?_)
  refine qy_aload_n X 0 rfl dq_E_init_33 ?_
  refine qy_new X (ty := fq_4) ⟨rfl, rfl⟩ rfl rfl iq_4 yq_4 uq_4 ⟨wq_43, wq_44, wq_3⟩ dq_E_init_34 h (fun h => ?_)
  refine qy_dup X rfl dq_E_init_37 ?_
  refine qz_bind h (fun M6 e7 h => ?_)
  refine qy_ctorN X (st := [.ref (G.2.2 4 (M5.2.2.1 4)), .ref (G.2.2 0 o)]) (N' := M6) (y := yB_init) ⟨wq_47, wq_3, wq_46, List.mem_of_getElem? (i := 4) rfl⟩ ⟨rfl, by decide, by decide, by decide +kernel⟩ (kB_init l G hD hG (M5.2.2.1 4) (qy_add M5 4 10) _ e7) ⟨by decide, by decide⟩ (Nat.le_of_ble_eq_true rfl) dq_E_init_38 h (fun h => ?_)
  refine qy_putR X rfl kq_E_31 (Or.inr ⟨hinit, 0, sq_0, tq_0, 8, rfl, rfl, rfl⟩) dq_E_init_41 h (fun M8 h => ?_)
  refine qy_aload_n X 0 rfl dq_E_init_44 ?_
  refine qy_iconst X (v := (4 : Int32)) (by decide) dq_E_init_45 ?_
  refine qy_newq X (tg := 5) ⟨rfl, rfl⟩ rfl ⟨by decide, by decide, by decide⟩ wq_92 (List.mem_of_getElem? (i := 1) rfl) dq_E_init_46 h (fun h => ?_)
  refine qy_putR X rfl kq_E_37 (Or.inr ⟨hinit, 0, sq_0, tq_0, 8, rfl, rfl, rfl⟩) dq_E_init_49 h (fun M9 h => ?_)
  refine qy_aload_n X 0 rfl dq_E_init_52 ?_
  refine qy_bipush X (v := (10 : Int32)) (by decide) dq_E_init_53 ?_
  refine qy_newq X (tg := 6) ⟨rfl, rfl⟩ rfl ⟨by decide, by decide, by decide⟩ wq_94 (List.mem_of_getElem? (i := 0) rfl) dq_E_init_55 h (fun h => ?_)
  refine qy_putR X rfl kq_E_43 (Or.inr ⟨hinit, 0, sq_0, tq_0, 8, rfl, rfl, rfl⟩) dq_E_init_58 h (fun M10 h => ?_)
  refine qy_iconst X (v := (0 : Int32)) (by decide) dq_E_init_61 ?_
  refine qy_istore_n X (lv' := [(1, .int (0 : Int32)), (0, .ref (G.2.2 0 o))]) rfl (by decide) rfl dq_E_init_62 ?_
  refine qy_sub [0, 1] rfl ?_
  exact tE_init_63 hinit hD hG X M0 o trivial 1100 (M10, (0 : Int32)) h
theorem kE_init (l : Launch) (G : qz_G) {h0 : Nat} (hD : qz_D G) (hG : ∀ c i, G.2.2 c i = h0 + qy_of c i) (o : Nat) (M0 r : qy_M) (h : gE_init o M0 = some r) : qy_C l yE_init prog_1_method_1_code 2 2 52 505 G h0 qy_ns qy_ao [.ref (G.2.2 0 o)] M0 r :=
  qy_enter (lv := [(0, .ref (G.2.2 0 o))]) rfl rfl hD hG (Nat.le_of_ble_eq_true rfl) rfl (fun p e s m args below meth c hi X => tE_init hi hD hG X o M0 h)
theorem dq_M_init_0 : decode prog_10_method_1_code 0 = .ok (.aload_n 0, 1) := by decide +kernel
theorem dq_M_init_1 : decode prog_10_method_1_code 1 = .ok (.invokespecial 1, 3) := by decide +kernel
theorem dq_M_init_4 : decode prog_10_method_1_code 4 = .ok (.aload_n 0, 1) := by decide +kernel
theorem dq_M_init_5 : decode prog_10_method_1_code 5 = .ok (.bipush 24, 2) := by decide +kernel
theorem dq_M_init_7 : decode prog_10_method_1_code 7 = .ok (.newarray .long, 2) := by decide +kernel
theorem dq_M_init_9 : decode prog_10_method_1_code 9 = .ok (.putfield 7, 3) := by decide +kernel
theorem dq_M_init_12 : decode prog_10_method_1_code 12 = .ok (.aload_n 0, 1) := by decide +kernel
theorem dq_M_init_13 : decode prog_10_method_1_code 13 = .ok (.iconst 4, 1) := by decide +kernel
theorem dq_M_init_14 : decode prog_10_method_1_code 14 = .ok (.newarray .long, 2) := by decide +kernel
theorem dq_M_init_16 : decode prog_10_method_1_code 16 = .ok (.putfield 13, 3) := by decide +kernel
theorem dq_M_init_19 : decode prog_10_method_1_code 19 = .ok (.aload_n 0, 1) := by decide +kernel
theorem dq_M_init_20 : decode prog_10_method_1_code 20 = .ok (.bipush 12, 2) := by decide +kernel
theorem dq_M_init_22 : decode prog_10_method_1_code 22 = .ok (.newarray .int, 2) := by decide +kernel
theorem dq_M_init_24 : decode prog_10_method_1_code 24 = .ok (.putfield 16, 3) := by decide +kernel
theorem dq_M_init_27 : decode prog_10_method_1_code 27 = .ok (.aload_n 0, 1) := by decide +kernel
theorem dq_M_init_28 : decode prog_10_method_1_code 28 = .ok (.bipush 6, 2) := by decide +kernel
theorem dq_M_init_30 : decode prog_10_method_1_code 30 = .ok (.newarray .int, 2) := by decide +kernel
theorem dq_M_init_32 : decode prog_10_method_1_code 32 = .ok (.putfield 20, 3) := by decide +kernel
theorem dq_M_init_35 : decode prog_10_method_1_code 35 = .ok (.aload_n 0, 1) := by decide +kernel
theorem dq_M_init_36 : decode prog_10_method_1_code 36 = .ok (.bipush 6, 2) := by decide +kernel
theorem dq_M_init_38 : decode prog_10_method_1_code 38 = .ok (.newarray .int, 2) := by decide +kernel
theorem dq_M_init_40 : decode prog_10_method_1_code 40 = .ok (.putfield 23, 3) := by decide +kernel
theorem dq_M_init_43 : decode prog_10_method_1_code 43 = .ok (.aload_n 0, 1) := by decide +kernel
theorem dq_M_init_44 : decode prog_10_method_1_code 44 = .ok (.bipush 12, 2) := by decide +kernel
theorem dq_M_init_46 : decode prog_10_method_1_code 46 = .ok (.newarray .long, 2) := by decide +kernel
theorem dq_M_init_48 : decode prog_10_method_1_code 48 = .ok (.putfield 26, 3) := by decide +kernel
theorem dq_M_init_51 : decode prog_10_method_1_code 51 = .ok (.aload_n 0, 1) := by decide +kernel
theorem dq_M_init_52 : decode prog_10_method_1_code 52 = .ok (.bipush 6, 2) := by decide +kernel
theorem dq_M_init_54 : decode prog_10_method_1_code 54 = .ok (.newarray .long, 2) := by decide +kernel
theorem dq_M_init_56 : decode prog_10_method_1_code 56 = .ok (.putfield 29, 3) := by decide +kernel
theorem dq_M_init_59 : decode prog_10_method_1_code 59 = .ok (.aload_n 0, 1) := by decide +kernel
theorem dq_M_init_60 : decode prog_10_method_1_code 60 = .ok (.bipush 36, 2) := by decide +kernel
theorem dq_M_init_62 : decode prog_10_method_1_code 62 = .ok (.newarray .long, 2) := by decide +kernel
theorem dq_M_init_64 : decode prog_10_method_1_code 64 = .ok (.putfield 32, 3) := by decide +kernel
theorem dq_M_init_67 : decode prog_10_method_1_code 67 = .ok (.aload_n 0, 1) := by decide +kernel
theorem dq_M_init_68 : decode prog_10_method_1_code 68 = .ok (.bipush 6, 2) := by decide +kernel
theorem dq_M_init_70 : decode prog_10_method_1_code 70 = .ok (.newarray .long, 2) := by decide +kernel
theorem dq_M_init_72 : decode prog_10_method_1_code 72 = .ok (.putfield 35, 3) := by decide +kernel
theorem dq_M_init_75 : decode prog_10_method_1_code 75 = .ok (.aload_n 0, 1) := by decide +kernel
theorem dq_M_init_76 : decode prog_10_method_1_code 76 = .ok (.bipush 6, 2) := by decide +kernel
theorem dq_M_init_78 : decode prog_10_method_1_code 78 = .ok (.newarray .long, 2) := by decide +kernel
theorem dq_M_init_80 : decode prog_10_method_1_code 80 = .ok (.putfield 38, 3) := by decide +kernel
theorem dq_M_init_83 : decode prog_10_method_1_code 83 = .ok (.aload_n 0, 1) := by decide +kernel
theorem dq_M_init_84 : decode prog_10_method_1_code 84 = .ok (.bipush 8, 2) := by decide +kernel
theorem dq_M_init_86 : decode prog_10_method_1_code 86 = .ok (.newarray .int, 2) := by decide +kernel
theorem dq_M_init_88 : decode prog_10_method_1_code 88 = .ok (.putfield 41, 3) := by decide +kernel
theorem dq_M_init_91 : decode prog_10_method_1_code 91 = .ok (.aload_n 0, 1) := by decide +kernel
theorem dq_M_init_92 : decode prog_10_method_1_code 92 = .ok (.bipush 8, 2) := by decide +kernel
theorem dq_M_init_94 : decode prog_10_method_1_code 94 = .ok (.newarray .long, 2) := by decide +kernel
theorem dq_M_init_96 : decode prog_10_method_1_code 96 = .ok (.putfield 44, 3) := by decide +kernel
theorem dq_M_init_99 : decode prog_10_method_1_code 99 = .ok (.aload_n 0, 1) := by decide +kernel
theorem dq_M_init_100 : decode prog_10_method_1_code 100 = .ok (.bipush 8, 2) := by decide +kernel
theorem dq_M_init_102 : decode prog_10_method_1_code 102 = .ok (.newarray .long, 2) := by decide +kernel
theorem dq_M_init_104 : decode prog_10_method_1_code 104 = .ok (.putfield 47, 3) := by decide +kernel
theorem dq_M_init_107 : decode prog_10_method_1_code 107 = .ok (.aload_n 0, 1) := by decide +kernel
theorem dq_M_init_108 : decode prog_10_method_1_code 108 = .ok (.iconst 1, 1) := by decide +kernel
theorem dq_M_init_109 : decode prog_10_method_1_code 109 = .ok (.putfield 50, 3) := by decide +kernel
theorem dq_M_init_112 : decode prog_10_method_1_code 112 = .ok (.aload_n 0, 1) := by decide +kernel
theorem dq_M_init_113 : decode prog_10_method_1_code 113 = .ok (.bipush 40, 2) := by decide +kernel
theorem dq_M_init_115 : decode prog_10_method_1_code 115 = .ok (.newarray .int, 2) := by decide +kernel
theorem dq_M_init_117 : decode prog_10_method_1_code 117 = .ok (.putfield 54, 3) := by decide +kernel
theorem dq_M_init_120 : decode prog_10_method_1_code 120 = .ok (.aload_n 0, 1) := by decide +kernel
theorem dq_M_init_121 : decode prog_10_method_1_code 121 = .ok (.bipush 40, 2) := by decide +kernel
theorem dq_M_init_123 : decode prog_10_method_1_code 123 = .ok (.newarray .boolean, 2) := by decide +kernel
theorem dq_M_init_125 : decode prog_10_method_1_code 125 = .ok (.putfield 57, 3) := by decide +kernel
theorem dq_M_init_128 : decode prog_10_method_1_code 128 = .ok (.aload_n 0, 1) := by decide +kernel
theorem dq_M_init_129 : decode prog_10_method_1_code 129 = .ok (.bipush 40, 2) := by decide +kernel
theorem dq_M_init_131 : decode prog_10_method_1_code 131 = .ok (.newarray .long, 2) := by decide +kernel
theorem dq_M_init_133 : decode prog_10_method_1_code 133 = .ok (.putfield 61, 3) := by decide +kernel
theorem dq_M_init_136 : decode prog_10_method_1_code 136 = .ok (.aload_n 0, 1) := by decide +kernel
theorem dq_M_init_137 : decode prog_10_method_1_code 137 = .ok (.bipush 40, 2) := by decide +kernel
theorem dq_M_init_139 : decode prog_10_method_1_code 139 = .ok (.newarray .long, 2) := by decide +kernel
theorem dq_M_init_141 : decode prog_10_method_1_code 141 = .ok (.putfield 64, 3) := by decide +kernel
theorem dq_M_init_144 : decode prog_10_method_1_code 144 = .ok (.aload_n 0, 1) := by decide +kernel
theorem dq_M_init_145 : decode prog_10_method_1_code 145 = .ok (.bipush 40, 2) := by decide +kernel
theorem dq_M_init_147 : decode prog_10_method_1_code 147 = .ok (.newarray .long, 2) := by decide +kernel
theorem dq_M_init_149 : decode prog_10_method_1_code 149 = .ok (.putfield 67, 3) := by decide +kernel
theorem dq_M_init_152 : decode prog_10_method_1_code 152 = .ok (.aload_n 0, 1) := by decide +kernel
theorem dq_M_init_153 : decode prog_10_method_1_code 153 = .ok (.bipush 40, 2) := by decide +kernel
theorem dq_M_init_155 : decode prog_10_method_1_code 155 = .ok (.newarray .boolean, 2) := by decide +kernel
theorem dq_M_init_157 : decode prog_10_method_1_code 157 = .ok (.putfield 70, 3) := by decide +kernel
theorem dq_M_init_160 : decode prog_10_method_1_code 160 = .ok (.aload_n 0, 1) := by decide +kernel
theorem dq_M_init_161 : decode prog_10_method_1_code 161 = .ok (.iconst 4, 1) := by decide +kernel
theorem dq_M_init_162 : decode prog_10_method_1_code 162 = .ok (.newarray .long, 2) := by decide +kernel
theorem dq_M_init_164 : decode prog_10_method_1_code 164 = .ok (.putfield 73, 3) := by decide +kernel
theorem dq_M_init_167 : decode prog_10_method_1_code 167 = .ok (.aload_n 0, 1) := by decide +kernel
theorem dq_M_init_168 : decode prog_10_method_1_code 168 = .ok (.iconst 4, 1) := by decide +kernel
theorem dq_M_init_169 : decode prog_10_method_1_code 169 = .ok (.newarray .long, 2) := by decide +kernel
theorem dq_M_init_171 : decode prog_10_method_1_code 171 = .ok (.putfield 76, 3) := by decide +kernel
theorem dq_M_init_174 : decode prog_10_method_1_code 174 = .ok (.aload_n 0, 1) := by decide +kernel
theorem dq_M_init_175 : decode prog_10_method_1_code 175 = .ok (.bipush 24, 2) := by decide +kernel
theorem dq_M_init_177 : decode prog_10_method_1_code 177 = .ok (.newarray .long, 2) := by decide +kernel
theorem dq_M_init_179 : decode prog_10_method_1_code 179 = .ok (.putfield 79, 3) := by decide +kernel
theorem dq_M_init_182 : decode prog_10_method_1_code 182 = .ok (.aload_n 0, 1) := by decide +kernel
theorem dq_M_init_183 : decode prog_10_method_1_code 183 = .ok (.iconst 4, 1) := by decide +kernel
theorem dq_M_init_184 : decode prog_10_method_1_code 184 = .ok (.newarray .long, 2) := by decide +kernel
theorem dq_M_init_186 : decode prog_10_method_1_code 186 = .ok (.putfield 82, 3) := by decide +kernel
theorem dq_M_init_189 : decode prog_10_method_1_code 189 = .ok (.aload_n 0, 1) := by decide +kernel
theorem dq_M_init_190 : decode prog_10_method_1_code 190 = .ok (.iconst 4, 1) := by decide +kernel
theorem dq_M_init_191 : decode prog_10_method_1_code 191 = .ok (.newarray .long, 2) := by decide +kernel
theorem dq_M_init_193 : decode prog_10_method_1_code 193 = .ok (.putfield 85, 3) := by decide +kernel
theorem dq_M_init_196 : decode prog_10_method_1_code 196 = .ok (.aload_n 0, 1) := by decide +kernel
theorem dq_M_init_197 : decode prog_10_method_1_code 197 = .ok (.bipush 10, 2) := by decide +kernel
theorem dq_M_init_199 : decode prog_10_method_1_code 199 = .ok (.newarray .boolean, 2) := by decide +kernel
theorem dq_M_init_201 : decode prog_10_method_1_code 201 = .ok (.putfield 88, 3) := by decide +kernel
theorem dq_M_init_204 : decode prog_10_method_1_code 204 = .ok (.aload_n 0, 1) := by decide +kernel
theorem dq_M_init_205 : decode prog_10_method_1_code 205 = .ok (.bipush 10, 2) := by decide +kernel
theorem dq_M_init_207 : decode prog_10_method_1_code 207 = .ok (.newarray .int, 2) := by decide +kernel
theorem dq_M_init_209 : decode prog_10_method_1_code 209 = .ok (.putfield 91, 3) := by decide +kernel
theorem dq_M_init_212 : decode prog_10_method_1_code 212 = .ok (.aload_n 0, 1) := by decide +kernel
theorem dq_M_init_213 : decode prog_10_method_1_code 213 = .ok (.bipush 10, 2) := by decide +kernel
theorem dq_M_init_215 : decode prog_10_method_1_code 215 = .ok (.newarray .int, 2) := by decide +kernel
theorem dq_M_init_217 : decode prog_10_method_1_code 217 = .ok (.putfield 94, 3) := by decide +kernel
theorem dq_M_init_220 : decode prog_10_method_1_code 220 = .ok (.aload_n 0, 1) := by decide +kernel
theorem dq_M_init_221 : decode prog_10_method_1_code 221 = .ok (.bipush 10, 2) := by decide +kernel
theorem dq_M_init_223 : decode prog_10_method_1_code 223 = .ok (.newarray .int, 2) := by decide +kernel
theorem dq_M_init_225 : decode prog_10_method_1_code 225 = .ok (.putfield 97, 3) := by decide +kernel
theorem dq_M_init_228 : decode prog_10_method_1_code 228 = .ok (.aload_n 0, 1) := by decide +kernel
theorem dq_M_init_229 : decode prog_10_method_1_code 229 = .ok (.bipush 10, 2) := by decide +kernel
theorem dq_M_init_231 : decode prog_10_method_1_code 231 = .ok (.newarray .long, 2) := by decide +kernel
theorem dq_M_init_233 : decode prog_10_method_1_code 233 = .ok (.putfield 100, 3) := by decide +kernel
theorem dq_M_init_236 : decode prog_10_method_1_code 236 = .ok (.aload_n 0, 1) := by decide +kernel
theorem dq_M_init_237 : decode prog_10_method_1_code 237 = .ok (.bipush 10, 2) := by decide +kernel
theorem dq_M_init_239 : decode prog_10_method_1_code 239 = .ok (.newarray .long, 2) := by decide +kernel
theorem dq_M_init_241 : decode prog_10_method_1_code 241 = .ok (.putfield 103, 3) := by decide +kernel
theorem dq_M_init_244 : decode prog_10_method_1_code 244 = .ok (.aload_n 0, 1) := by decide +kernel
theorem dq_M_init_245 : decode prog_10_method_1_code 245 = .ok (.bipush 6, 2) := by decide +kernel
theorem dq_M_init_247 : decode prog_10_method_1_code 247 = .ok (.newarray .long, 2) := by decide +kernel
theorem dq_M_init_249 : decode prog_10_method_1_code 249 = .ok (.putfield 106, 3) := by decide +kernel
theorem dq_M_init_252 : decode prog_10_method_1_code 252 = .ok (.aload_n 0, 1) := by decide +kernel
theorem dq_M_init_253 : decode prog_10_method_1_code 253 = .ok (.bipush 6, 2) := by decide +kernel
theorem dq_M_init_255 : decode prog_10_method_1_code 255 = .ok (.newarray .long, 2) := by decide +kernel
theorem dq_M_init_257 : decode prog_10_method_1_code 257 = .ok (.putfield 109, 3) := by decide +kernel
theorem dq_M_init_260 : decode prog_10_method_1_code 260 = .ok (.aload_n 0, 1) := by decide +kernel
theorem dq_M_init_261 : decode prog_10_method_1_code 261 = .ok (.bipush 9, 2) := by decide +kernel
theorem dq_M_init_263 : decode prog_10_method_1_code 263 = .ok (.newarray .long, 2) := by decide +kernel
theorem dq_M_init_265 : decode prog_10_method_1_code 265 = .ok (.putfield 112, 3) := by decide +kernel
theorem dq_M_init_268 : decode prog_10_method_1_code 268 = .ok (.aload_n 0, 1) := by decide +kernel
theorem dq_M_init_269 : decode prog_10_method_1_code 269 = .ok (.iconst 3, 1) := by decide +kernel
theorem dq_M_init_270 : decode prog_10_method_1_code 270 = .ok (.newarray .long, 2) := by decide +kernel
theorem dq_M_init_272 : decode prog_10_method_1_code 272 = .ok (.putfield 115, 3) := by decide +kernel
theorem dq_M_init_275 : decode prog_10_method_1_code 275 = .ok (.iconst 0, 1) := by decide +kernel
theorem dq_M_init_276 : decode prog_10_method_1_code 276 = .ok (.istore_n 1, 1) := by decide +kernel
theorem dq_M_init_277 : decode prog_10_method_1_code 277 = .ok (.iload_n 1, 1) := by decide +kernel
theorem dq_M_init_278 : decode prog_10_method_1_code 278 = .ok (.iconst 4, 1) := by decide +kernel
theorem dq_M_init_279 : decode prog_10_method_1_code 279 = .ok (.if_icmp .ge 18, 3) := by decide +kernel
theorem dq_M_init_282 : decode prog_10_method_1_code 282 = .ok (.aload_n 0, 1) := by decide +kernel
theorem dq_M_init_283 : decode prog_10_method_1_code 283 = .ok (.getfield 82, 3) := by decide +kernel
theorem dq_M_init_286 : decode prog_10_method_1_code 286 = .ok (.iload_n 1, 1) := by decide +kernel
theorem dq_M_init_287 : decode prog_10_method_1_code 287 = .ok (.ldc2_w 118, 3) := by decide +kernel
theorem dq_M_init_290 : decode prog_10_method_1_code 290 = .ok (.lastore, 1) := by decide +kernel
theorem dq_M_init_291 : decode prog_10_method_1_code 291 = .ok (.iinc 1 1, 3) := by decide +kernel
theorem dq_M_init_294 : decode prog_10_method_1_code 294 = .ok (.goto (-17), 3) := by decide +kernel
theorem dq_M_init_297 : decode prog_10_method_1_code 297 = .ok (.iconst 0, 1) := by decide +kernel
theorem dq_M_init_298 : decode prog_10_method_1_code 298 = .ok (.istore_n 1, 1) := by decide +kernel
theorem dq_M_init_299 : decode prog_10_method_1_code 299 = .ok (.iload_n 1, 1) := by decide +kernel
theorem dq_M_init_300 : decode prog_10_method_1_code 300 = .ok (.bipush 8, 2) := by decide +kernel
theorem dq_M_init_302 : decode prog_10_method_1_code 302 = .ok (.if_icmp .ge 16, 3) := by decide +kernel
theorem dq_M_init_305 : decode prog_10_method_1_code 305 = .ok (.aload_n 0, 1) := by decide +kernel
theorem dq_M_init_306 : decode prog_10_method_1_code 306 = .ok (.getfield 41, 3) := by decide +kernel
theorem dq_M_init_309 : decode prog_10_method_1_code 309 = .ok (.iload_n 1, 1) := by decide +kernel
theorem dq_M_init_310 : decode prog_10_method_1_code 310 = .ok (.iconst (-1), 1) := by decide +kernel
theorem dq_M_init_311 : decode prog_10_method_1_code 311 = .ok (.iastore, 1) := by decide +kernel
theorem dq_M_init_312 : decode prog_10_method_1_code 312 = .ok (.iinc 1 1, 3) := by decide +kernel
theorem dq_M_init_315 : decode prog_10_method_1_code 315 = .ok (.goto (-16), 3) := by decide +kernel
theorem dq_M_init_318 : decode prog_10_method_1_code 318 = .ok (.return_, 1) := by decide +kernel
def gM_init_299b (M0 : qy_M) (y0 : Nat) (k299 : qy_M × Int32 → Option qy_M) (N : qy_M) (x1 : Int32) : Option qy_M :=
  if (8 : Int32) ≤ x1 then
    if N.1 ≤ (M0.1, M0.2.1).1 + 34 ∧ N.2.1 ≤ (M0.1, M0.2.1).2 + 506 then some N else none
  else
  if y0 < N.2.2.1 7 ∧ N.2.2.2.1 7 y0 12 = true then
  if ¬ (x1 < 0 ∨ 8 ≤ x1.toNatClampNeg) ∧ y0 < N.2.2.1 32 then qz_let (qy_sN N (qz_si N.2.2.2.2 32 y0 x1.toNatClampNeg (-1 : Int32))) fun M36 =>
  qz_let (x1 + (1 : Int32)) fun v37 =>
  k299 (M36, v37)
  else none
  else none
def gM_init_299 (M0 : qy_M) (y0 : Nat) (n : Nat) (a : qy_M × Int32) : Option qy_M := qz_loop (fun k a => gM_init_299b M0 y0 k a.1 a.2) n a
def gM_init_277b (M0 : qy_M) (y0 : Nat) (k277 : qy_M × Int32 → Option qy_M) (N : qy_M) (x1 : Int32) : Option qy_M :=
  if (4 : Int32) ≤ x1 then
    gM_init_299 M0 y0 1100 (N, (0 : Int32))
  else
  if y0 < N.2.2.1 7 ∧ N.2.2.2.1 7 y0 29 = true then
  if ¬ (x1 < 0 ∨ 4 ≤ x1.toNatClampNeg) ∧ y0 < N.2.2.1 44 then qz_let (qy_sN N (qz_sl N.2.2.2.2 44 y0 x1.toNatClampNeg (1000000000 : Int64))) fun M38 =>
  qz_let (x1 + (1 : Int32)) fun v39 =>
  k277 (M38, v39)
  else none
  else none
def gM_init_277 (M0 : qy_M) (y0 : Nat) (n : Nat) (a : qy_M × Int32) : Option qy_M := qz_loop (fun k a => gM_init_277b M0 y0 k a.1 a.2) n a
def gM_init (o : Nat) (M0 : qy_M) : Option qy_M :=
  if qy_of 22 (M0.2.2.1 22) = M0.1 ∧ M0.2.2.1 22 < 1 ∧ (M0.1, M0.2.1).1 ≤ M0.1 ∧ (M0.1, M0.2.1).2 ≤ M0.2.1 ∧ M0.1 + 1 ≤ (M0.1, M0.2.1).1 + 34 ∧ M0.2.1 + 24 ≤ (M0.1, M0.2.1).2 + 506 then qz_let (qy_add M0 22 24) fun _ =>
  if (M0.2.2.1 22) = o ∧ o < (qy_add M0 22 24).2.2.1 7 then qz_let (qy_mk (qy_add M0 22 24) 7 o 0) fun M1 =>
  if qy_of 23 (M1.2.2.1 23) = M1.1 ∧ M1.2.2.1 23 < 1 ∧ (M0.1, M0.2.1).1 ≤ M1.1 ∧ (M0.1, M0.2.1).2 ≤ M1.2.1 ∧ M1.1 + 1 ≤ (M0.1, M0.2.1).1 + 34 ∧ M1.2.1 + 4 ≤ (M0.1, M0.2.1).2 + 506 then qz_let (qy_add M1 23 4) fun _ =>
  if (M1.2.2.1 23) = o ∧ o < (qy_add M1 23 4).2.2.1 7 then qz_let (qy_mk (qy_add M1 23 4) 7 o 1) fun M2 =>
  if qy_of 24 (M2.2.2.1 24) = M2.1 ∧ M2.2.2.1 24 < 1 ∧ (M0.1, M0.2.1).1 ≤ M2.1 ∧ (M0.1, M0.2.1).2 ≤ M2.2.1 ∧ M2.1 + 1 ≤ (M0.1, M0.2.1).1 + 34 ∧ M2.2.1 + 12 ≤ (M0.1, M0.2.1).2 + 506 then qz_let (qy_add M2 24 12) fun _ =>
  if (M2.2.2.1 24) = o ∧ o < (qy_add M2 24 12).2.2.1 7 then qz_let (qy_mk (qy_add M2 24 12) 7 o 4) fun M3 =>
  if qy_of 25 (M3.2.2.1 25) = M3.1 ∧ M3.2.2.1 25 < 1 ∧ (M0.1, M0.2.1).1 ≤ M3.1 ∧ (M0.1, M0.2.1).2 ≤ M3.2.1 ∧ M3.1 + 1 ≤ (M0.1, M0.2.1).1 + 34 ∧ M3.2.1 + 6 ≤ (M0.1, M0.2.1).2 + 506 then qz_let (qy_add M3 25 6) fun _ =>
  if (M3.2.2.1 25) = o ∧ o < (qy_add M3 25 6).2.2.1 7 then qz_let (qy_mk (qy_add M3 25 6) 7 o 5) fun M4 =>
  if qy_of 26 (M4.2.2.1 26) = M4.1 ∧ M4.2.2.1 26 < 1 ∧ (M0.1, M0.2.1).1 ≤ M4.1 ∧ (M0.1, M0.2.1).2 ≤ M4.2.1 ∧ M4.1 + 1 ≤ (M0.1, M0.2.1).1 + 34 ∧ M4.2.1 + 6 ≤ (M0.1, M0.2.1).2 + 506 then qz_let (qy_add M4 26 6) fun _ =>
  if (M4.2.2.1 26) = o ∧ o < (qy_add M4 26 6).2.2.1 7 then qz_let (qy_mk (qy_add M4 26 6) 7 o 6) fun M5 =>
  if qy_of 27 (M5.2.2.1 27) = M5.1 ∧ M5.2.2.1 27 < 1 ∧ (M0.1, M0.2.1).1 ≤ M5.1 ∧ (M0.1, M0.2.1).2 ≤ M5.2.1 ∧ M5.1 + 1 ≤ (M0.1, M0.2.1).1 + 34 ∧ M5.2.1 + 12 ≤ (M0.1, M0.2.1).2 + 506 then qz_let (qy_add M5 27 12) fun _ =>
  if (M5.2.2.1 27) = o ∧ o < (qy_add M5 27 12).2.2.1 7 then qz_let (qy_mk (qy_add M5 27 12) 7 o 7) fun M6 =>
  if qy_of 28 (M6.2.2.1 28) = M6.1 ∧ M6.2.2.1 28 < 1 ∧ (M0.1, M0.2.1).1 ≤ M6.1 ∧ (M0.1, M0.2.1).2 ≤ M6.2.1 ∧ M6.1 + 1 ≤ (M0.1, M0.2.1).1 + 34 ∧ M6.2.1 + 6 ≤ (M0.1, M0.2.1).2 + 506 then qz_let (qy_add M6 28 6) fun _ =>
  if (M6.2.2.1 28) = o ∧ o < (qy_add M6 28 6).2.2.1 7 then qz_let (qy_mk (qy_add M6 28 6) 7 o 8) fun M7 =>
  if qy_of 29 (M7.2.2.1 29) = M7.1 ∧ M7.2.2.1 29 < 1 ∧ (M0.1, M0.2.1).1 ≤ M7.1 ∧ (M0.1, M0.2.1).2 ≤ M7.2.1 ∧ M7.1 + 1 ≤ (M0.1, M0.2.1).1 + 34 ∧ M7.2.1 + 36 ≤ (M0.1, M0.2.1).2 + 506 then qz_let (qy_add M7 29 36) fun _ =>
  if (M7.2.2.1 29) = o ∧ o < (qy_add M7 29 36).2.2.1 7 then qz_let (qy_mk (qy_add M7 29 36) 7 o 9) fun M8 =>
  if qy_of 30 (M8.2.2.1 30) = M8.1 ∧ M8.2.2.1 30 < 1 ∧ (M0.1, M0.2.1).1 ≤ M8.1 ∧ (M0.1, M0.2.1).2 ≤ M8.2.1 ∧ M8.1 + 1 ≤ (M0.1, M0.2.1).1 + 34 ∧ M8.2.1 + 6 ≤ (M0.1, M0.2.1).2 + 506 then qz_let (qy_add M8 30 6) fun _ =>
  if (M8.2.2.1 30) = o ∧ o < (qy_add M8 30 6).2.2.1 7 then qz_let (qy_mk (qy_add M8 30 6) 7 o 10) fun M9 =>
  if qy_of 31 (M9.2.2.1 31) = M9.1 ∧ M9.2.2.1 31 < 1 ∧ (M0.1, M0.2.1).1 ≤ M9.1 ∧ (M0.1, M0.2.1).2 ≤ M9.2.1 ∧ M9.1 + 1 ≤ (M0.1, M0.2.1).1 + 34 ∧ M9.2.1 + 6 ≤ (M0.1, M0.2.1).2 + 506 then qz_let (qy_add M9 31 6) fun _ =>
  if (M9.2.2.1 31) = o ∧ o < (qy_add M9 31 6).2.2.1 7 then qz_let (qy_mk (qy_add M9 31 6) 7 o 11) fun M10 =>
  if qy_of 32 (M10.2.2.1 32) = M10.1 ∧ M10.2.2.1 32 < 1 ∧ (M0.1, M0.2.1).1 ≤ M10.1 ∧ (M0.1, M0.2.1).2 ≤ M10.2.1 ∧ M10.1 + 1 ≤ (M0.1, M0.2.1).1 + 34 ∧ M10.2.1 + 8 ≤ (M0.1, M0.2.1).2 + 506 then qz_let (qy_add M10 32 8) fun _ =>
  if (M10.2.2.1 32) = o ∧ o < (qy_add M10 32 8).2.2.1 7 then qz_let (qy_mk (qy_add M10 32 8) 7 o 12) fun M11 =>
  if qy_of 33 (M11.2.2.1 33) = M11.1 ∧ M11.2.2.1 33 < 1 ∧ (M0.1, M0.2.1).1 ≤ M11.1 ∧ (M0.1, M0.2.1).2 ≤ M11.2.1 ∧ M11.1 + 1 ≤ (M0.1, M0.2.1).1 + 34 ∧ M11.2.1 + 8 ≤ (M0.1, M0.2.1).2 + 506 then qz_let (qy_add M11 33 8) fun _ =>
  if (M11.2.2.1 33) = o ∧ o < (qy_add M11 33 8).2.2.1 7 then qz_let (qy_mk (qy_add M11 33 8) 7 o 13) fun M12 =>
  if qy_of 34 (M12.2.2.1 34) = M12.1 ∧ M12.2.2.1 34 < 1 ∧ (M0.1, M0.2.1).1 ≤ M12.1 ∧ (M0.1, M0.2.1).2 ≤ M12.2.1 ∧ M12.1 + 1 ≤ (M0.1, M0.2.1).1 + 34 ∧ M12.2.1 + 8 ≤ (M0.1, M0.2.1).2 + 506 then qz_let (qy_add M12 34 8) fun _ =>
  if (M12.2.2.1 34) = o ∧ o < (qy_add M12 34 8).2.2.1 7 then qz_let (qy_mk (qy_add M12 34 8) 7 o 14) fun M13 =>
  if o < M13.2.2.1 7 then qz_let (qy_sN M13 (qz_si M13.2.2.2.2 7 o 16 (1 : Int32))) fun M14 =>
  if qy_of 35 (M14.2.2.1 35) = M14.1 ∧ M14.2.2.1 35 < 1 ∧ (M0.1, M0.2.1).1 ≤ M14.1 ∧ (M0.1, M0.2.1).2 ≤ M14.2.1 ∧ M14.1 + 1 ≤ (M0.1, M0.2.1).1 + 34 ∧ M14.2.1 + 40 ≤ (M0.1, M0.2.1).2 + 506 then qz_let (qy_add M14 35 40) fun _ =>
  if (M14.2.2.1 35) = o ∧ o < (qy_add M14 35 40).2.2.1 7 then qz_let (qy_mk (qy_add M14 35 40) 7 o 18) fun M15 =>
  if qy_of 36 (M15.2.2.1 36) = M15.1 ∧ M15.2.2.1 36 < 1 ∧ (M0.1, M0.2.1).1 ≤ M15.1 ∧ (M0.1, M0.2.1).2 ≤ M15.2.1 ∧ M15.1 + 1 ≤ (M0.1, M0.2.1).1 + 34 ∧ M15.2.1 + 40 ≤ (M0.1, M0.2.1).2 + 506 then qz_let (qy_add M15 36 40) fun _ =>
  if (M15.2.2.1 36) = o ∧ o < (qy_add M15 36 40).2.2.1 7 then qz_let (qy_mk (qy_add M15 36 40) 7 o 19) fun M16 =>
  if qy_of 37 (M16.2.2.1 37) = M16.1 ∧ M16.2.2.1 37 < 1 ∧ (M0.1, M0.2.1).1 ≤ M16.1 ∧ (M0.1, M0.2.1).2 ≤ M16.2.1 ∧ M16.1 + 1 ≤ (M0.1, M0.2.1).1 + 34 ∧ M16.2.1 + 40 ≤ (M0.1, M0.2.1).2 + 506 then qz_let (qy_add M16 37 40) fun _ =>
  if (M16.2.2.1 37) = o ∧ o < (qy_add M16 37 40).2.2.1 7 then qz_let (qy_mk (qy_add M16 37 40) 7 o 20) fun M17 =>
  if qy_of 38 (M17.2.2.1 38) = M17.1 ∧ M17.2.2.1 38 < 1 ∧ (M0.1, M0.2.1).1 ≤ M17.1 ∧ (M0.1, M0.2.1).2 ≤ M17.2.1 ∧ M17.1 + 1 ≤ (M0.1, M0.2.1).1 + 34 ∧ M17.2.1 + 40 ≤ (M0.1, M0.2.1).2 + 506 then qz_let (qy_add M17 38 40) fun _ =>
  if (M17.2.2.1 38) = o ∧ o < (qy_add M17 38 40).2.2.1 7 then qz_let (qy_mk (qy_add M17 38 40) 7 o 21) fun M18 =>
  if qy_of 39 (M18.2.2.1 39) = M18.1 ∧ M18.2.2.1 39 < 1 ∧ (M0.1, M0.2.1).1 ≤ M18.1 ∧ (M0.1, M0.2.1).2 ≤ M18.2.1 ∧ M18.1 + 1 ≤ (M0.1, M0.2.1).1 + 34 ∧ M18.2.1 + 40 ≤ (M0.1, M0.2.1).2 + 506 then qz_let (qy_add M18 39 40) fun _ =>
  if (M18.2.2.1 39) = o ∧ o < (qy_add M18 39 40).2.2.1 7 then qz_let (qy_mk (qy_add M18 39 40) 7 o 24) fun M19 =>
  if qy_of 40 (M19.2.2.1 40) = M19.1 ∧ M19.2.2.1 40 < 1 ∧ (M0.1, M0.2.1).1 ≤ M19.1 ∧ (M0.1, M0.2.1).2 ≤ M19.2.1 ∧ M19.1 + 1 ≤ (M0.1, M0.2.1).1 + 34 ∧ M19.2.1 + 40 ≤ (M0.1, M0.2.1).2 + 506 then qz_let (qy_add M19 40 40) fun _ =>
  if (M19.2.2.1 40) = o ∧ o < (qy_add M19 40 40).2.2.1 7 then qz_let (qy_mk (qy_add M19 40 40) 7 o 25) fun M20 =>
  if qy_of 41 (M20.2.2.1 41) = M20.1 ∧ M20.2.2.1 41 < 1 ∧ (M0.1, M0.2.1).1 ≤ M20.1 ∧ (M0.1, M0.2.1).2 ≤ M20.2.1 ∧ M20.1 + 1 ≤ (M0.1, M0.2.1).1 + 34 ∧ M20.2.1 + 4 ≤ (M0.1, M0.2.1).2 + 506 then qz_let (qy_add M20 41 4) fun _ =>
  if (M20.2.2.1 41) = o ∧ o < (qy_add M20 41 4).2.2.1 7 then qz_let (qy_mk (qy_add M20 41 4) 7 o 26) fun M21 =>
  if qy_of 42 (M21.2.2.1 42) = M21.1 ∧ M21.2.2.1 42 < 1 ∧ (M0.1, M0.2.1).1 ≤ M21.1 ∧ (M0.1, M0.2.1).2 ≤ M21.2.1 ∧ M21.1 + 1 ≤ (M0.1, M0.2.1).1 + 34 ∧ M21.2.1 + 4 ≤ (M0.1, M0.2.1).2 + 506 then qz_let (qy_add M21 42 4) fun _ =>
  if (M21.2.2.1 42) = o ∧ o < (qy_add M21 42 4).2.2.1 7 then qz_let (qy_mk (qy_add M21 42 4) 7 o 27) fun M22 =>
  if qy_of 43 (M22.2.2.1 43) = M22.1 ∧ M22.2.2.1 43 < 1 ∧ (M0.1, M0.2.1).1 ≤ M22.1 ∧ (M0.1, M0.2.1).2 ≤ M22.2.1 ∧ M22.1 + 1 ≤ (M0.1, M0.2.1).1 + 34 ∧ M22.2.1 + 24 ≤ (M0.1, M0.2.1).2 + 506 then qz_let (qy_add M22 43 24) fun _ =>
  if (M22.2.2.1 43) = o ∧ o < (qy_add M22 43 24).2.2.1 7 then qz_let (qy_mk (qy_add M22 43 24) 7 o 28) fun M23 =>
  if qy_of 44 (M23.2.2.1 44) = M23.1 ∧ M23.2.2.1 44 < 1 ∧ (M0.1, M0.2.1).1 ≤ M23.1 ∧ (M0.1, M0.2.1).2 ≤ M23.2.1 ∧ M23.1 + 1 ≤ (M0.1, M0.2.1).1 + 34 ∧ M23.2.1 + 4 ≤ (M0.1, M0.2.1).2 + 506 then qz_let (qy_add M23 44 4) fun _ =>
  if (M23.2.2.1 44) = o ∧ o < (qy_add M23 44 4).2.2.1 7 then qz_let (qy_mk (qy_add M23 44 4) 7 o 29) fun M24 =>
  if qy_of 45 (M24.2.2.1 45) = M24.1 ∧ M24.2.2.1 45 < 1 ∧ (M0.1, M0.2.1).1 ≤ M24.1 ∧ (M0.1, M0.2.1).2 ≤ M24.2.1 ∧ M24.1 + 1 ≤ (M0.1, M0.2.1).1 + 34 ∧ M24.2.1 + 4 ≤ (M0.1, M0.2.1).2 + 506 then qz_let (qy_add M24 45 4) fun _ =>
  if (M24.2.2.1 45) = o ∧ o < (qy_add M24 45 4).2.2.1 7 then qz_let (qy_mk (qy_add M24 45 4) 7 o 30) fun M25 =>
  if qy_of 46 (M25.2.2.1 46) = M25.1 ∧ M25.2.2.1 46 < 1 ∧ (M0.1, M0.2.1).1 ≤ M25.1 ∧ (M0.1, M0.2.1).2 ≤ M25.2.1 ∧ M25.1 + 1 ≤ (M0.1, M0.2.1).1 + 34 ∧ M25.2.1 + 10 ≤ (M0.1, M0.2.1).2 + 506 then qz_let (qy_add M25 46 10) fun _ =>
  if (M25.2.2.1 46) = o ∧ o < (qy_add M25 46 10).2.2.1 7 then qz_let (qy_mk (qy_add M25 46 10) 7 o 31) fun M26 =>
  if qy_of 47 (M26.2.2.1 47) = M26.1 ∧ M26.2.2.1 47 < 1 ∧ (M0.1, M0.2.1).1 ≤ M26.1 ∧ (M0.1, M0.2.1).2 ≤ M26.2.1 ∧ M26.1 + 1 ≤ (M0.1, M0.2.1).1 + 34 ∧ M26.2.1 + 10 ≤ (M0.1, M0.2.1).2 + 506 then qz_let (qy_add M26 47 10) fun _ =>
  if (M26.2.2.1 47) = o ∧ o < (qy_add M26 47 10).2.2.1 7 then qz_let (qy_mk (qy_add M26 47 10) 7 o 32) fun M27 =>
  if qy_of 48 (M27.2.2.1 48) = M27.1 ∧ M27.2.2.1 48 < 1 ∧ (M0.1, M0.2.1).1 ≤ M27.1 ∧ (M0.1, M0.2.1).2 ≤ M27.2.1 ∧ M27.1 + 1 ≤ (M0.1, M0.2.1).1 + 34 ∧ M27.2.1 + 10 ≤ (M0.1, M0.2.1).2 + 506 then qz_let (qy_add M27 48 10) fun _ =>
  if (M27.2.2.1 48) = o ∧ o < (qy_add M27 48 10).2.2.1 7 then qz_let (qy_mk (qy_add M27 48 10) 7 o 33) fun M28 =>
  if qy_of 49 (M28.2.2.1 49) = M28.1 ∧ M28.2.2.1 49 < 1 ∧ (M0.1, M0.2.1).1 ≤ M28.1 ∧ (M0.1, M0.2.1).2 ≤ M28.2.1 ∧ M28.1 + 1 ≤ (M0.1, M0.2.1).1 + 34 ∧ M28.2.1 + 10 ≤ (M0.1, M0.2.1).2 + 506 then qz_let (qy_add M28 49 10) fun _ =>
  if (M28.2.2.1 49) = o ∧ o < (qy_add M28 49 10).2.2.1 7 then qz_let (qy_mk (qy_add M28 49 10) 7 o 34) fun M29 =>
  if qy_of 50 (M29.2.2.1 50) = M29.1 ∧ M29.2.2.1 50 < 1 ∧ (M0.1, M0.2.1).1 ≤ M29.1 ∧ (M0.1, M0.2.1).2 ≤ M29.2.1 ∧ M29.1 + 1 ≤ (M0.1, M0.2.1).1 + 34 ∧ M29.2.1 + 10 ≤ (M0.1, M0.2.1).2 + 506 then qz_let (qy_add M29 50 10) fun _ =>
  if (M29.2.2.1 50) = o ∧ o < (qy_add M29 50 10).2.2.1 7 then qz_let (qy_mk (qy_add M29 50 10) 7 o 35) fun M30 =>
  if qy_of 51 (M30.2.2.1 51) = M30.1 ∧ M30.2.2.1 51 < 1 ∧ (M0.1, M0.2.1).1 ≤ M30.1 ∧ (M0.1, M0.2.1).2 ≤ M30.2.1 ∧ M30.1 + 1 ≤ (M0.1, M0.2.1).1 + 34 ∧ M30.2.1 + 10 ≤ (M0.1, M0.2.1).2 + 506 then qz_let (qy_add M30 51 10) fun _ =>
  if (M30.2.2.1 51) = o ∧ o < (qy_add M30 51 10).2.2.1 7 then qz_let (qy_mk (qy_add M30 51 10) 7 o 36) fun M31 =>
  if qy_of 52 (M31.2.2.1 52) = M31.1 ∧ M31.2.2.1 52 < 1 ∧ (M0.1, M0.2.1).1 ≤ M31.1 ∧ (M0.1, M0.2.1).2 ≤ M31.2.1 ∧ M31.1 + 1 ≤ (M0.1, M0.2.1).1 + 34 ∧ M31.2.1 + 6 ≤ (M0.1, M0.2.1).2 + 506 then qz_let (qy_add M31 52 6) fun _ =>
  if (M31.2.2.1 52) = o ∧ o < (qy_add M31 52 6).2.2.1 7 then qz_let (qy_mk (qy_add M31 52 6) 7 o 37) fun M32 =>
  if qy_of 53 (M32.2.2.1 53) = M32.1 ∧ M32.2.2.1 53 < 1 ∧ (M0.1, M0.2.1).1 ≤ M32.1 ∧ (M0.1, M0.2.1).2 ≤ M32.2.1 ∧ M32.1 + 1 ≤ (M0.1, M0.2.1).1 + 34 ∧ M32.2.1 + 6 ≤ (M0.1, M0.2.1).2 + 506 then qz_let (qy_add M32 53 6) fun _ =>
  if (M32.2.2.1 53) = o ∧ o < (qy_add M32 53 6).2.2.1 7 then qz_let (qy_mk (qy_add M32 53 6) 7 o 38) fun M33 =>
  if qy_of 54 (M33.2.2.1 54) = M33.1 ∧ M33.2.2.1 54 < 1 ∧ (M0.1, M0.2.1).1 ≤ M33.1 ∧ (M0.1, M0.2.1).2 ≤ M33.2.1 ∧ M33.1 + 1 ≤ (M0.1, M0.2.1).1 + 34 ∧ M33.2.1 + 9 ≤ (M0.1, M0.2.1).2 + 506 then qz_let (qy_add M33 54 9) fun _ =>
  if (M33.2.2.1 54) = o ∧ o < (qy_add M33 54 9).2.2.1 7 then qz_let (qy_mk (qy_add M33 54 9) 7 o 39) fun M34 =>
  if qy_of 55 (M34.2.2.1 55) = M34.1 ∧ M34.2.2.1 55 < 1 ∧ (M0.1, M0.2.1).1 ≤ M34.1 ∧ (M0.1, M0.2.1).2 ≤ M34.2.1 ∧ M34.1 + 1 ≤ (M0.1, M0.2.1).1 + 34 ∧ M34.2.1 + 3 ≤ (M0.1, M0.2.1).2 + 506 then qz_let (qy_add M34 55 3) fun _ =>
  if (M34.2.2.1 55) = o ∧ o < (qy_add M34 55 3).2.2.1 7 then qz_let (qy_mk (qy_add M34 55 3) 7 o 40) fun M35 =>
  gM_init_277 M0 o 1100 (M35, (0 : Int32))
  else none
  else none
  else none
  else none
  else none
  else none
  else none
  else none
  else none
  else none
  else none
  else none
  else none
  else none
  else none
  else none
  else none
  else none
  else none
  else none
  else none
  else none
  else none
  else none
  else none
  else none
  else none
  else none
  else none
  else none
  else none
  else none
  else none
  else none
  else none
  else none
  else none
  else none
  else none
  else none
  else none
  else none
  else none
  else none
  else none
  else none
  else none
  else none
  else none
  else none
  else none
  else none
  else none
  else none
  else none
  else none
  else none
  else none
  else none
  else none
  else none
  else none
  else none
  else none
  else none
  else none
  else none
  else none
  else none
set_option maxRecDepth 100000 in
set_option maxHeartbeats 4000000 in
theorem tM_init_299b {p : Program} {l : Launch} {e : Env} {s : State} {m : MethodId} {args : Array Value} {below : List Frame} {meth : Method} {c : Code} {G : qz_G} {h0 : Nat} (hinit : meth.name = "<init>") (hD : qz_D G) (hG : ∀ c i, G.2.2 c i = h0 + qy_of c i) (X : qy_X p s m args meth c "ExactCurvesModel" prog_10_method_1_code 2 none G h0 qy_ns qy_ao) {r : qy_M} (M0 : qy_M) (y0 : Nat) (hy0 : True) (k299 : qy_M × Int32 → Option qy_M) (hk299 : ∀ a, k299 a = some r → qy_W p l e (qy_R 1 34 506) s m args below meth c (MQ below (qy_Q G h0 r) args s 34 506 (fun a => h0 ≤ a)) G h0 s.heap (M0.1, M0.2.1) 2 a.1 299 [(1, .int a.2), (0, .ref (G.2.2 7 y0))] []) (N : qy_M) (x1 : Int32) (h : gM_init_299b M0 y0 k299 N x1 = some r) : qy_W p l e (qy_R 1 34 506) s m args below meth c (MQ below (qy_Q G h0 r) args s 34 506 (fun a => h0 ≤ a)) G h0 s.heap (M0.1, M0.2.1) 2 N 299 [(1, .int x1), (0, .ref (G.2.2 7 y0))] [] := by
  unfold gM_init_299b at h
  refine qy_iload_n X 0 rfl dq_M_init_299 ?_
  refine qy_bipush X (v := (8 : Int32)) (by decide) dq_M_init_300 ?_
  refine qy_icmp_ge X (tgt := 318) (by decide) dq_M_init_302 h (fun _ h => ?_) (fun _ h => ?_)
  · exact qy_vret X h dq_M_init_318
  · refine qy_aload_n X 1 rfl dq_M_init_305 ?_
    refine qz_ite h (fun hc h => ?_) (fun _ h => by cases h)
    refine qy_get X (v := .ref (G.2.2 32 y0)) kq_M_41 hc.1 (by show (if _ then _ else _) = _; rw [if_pos hc.2]) dq_M_init_306 ?_
    refine qy_iload_n X 0 rfl dq_M_init_309 ?_
    refine qy_iconst X (v := (-1 : Int32)) (by decide) dq_M_init_310 ?_
    refine qy_iast X rfl dq_M_init_311 h (fun M36 h => ?_)
    refine qy_iinc_l X (u := (1 : Int32)) (lv' := fun v37 => [(1, .int v37), (0, .ref (G.2.2 7 y0))]) (k := 0) rfl (by decide) (by decide) (fun _ => rfl) dq_M_init_312 h (fun v37 h => ?_)
    refine qy_goto X (tgt := 299) (by decide) dq_M_init_315 ?_
    refine qy_sub [0, 1] rfl ?_
    exact hk299 (M36, v37) h
theorem tM_init_299 {p : Program} {l : Launch} {e : Env} {s : State} {m : MethodId} {args : Array Value} {below : List Frame} {meth : Method} {c : Code} {G : qz_G} {h0 : Nat} (hinit : meth.name = "<init>") (hD : qz_D G) (hG : ∀ c i, G.2.2 c i = h0 + qy_of c i) (X : qy_X p s m args meth c "ExactCurvesModel" prog_10_method_1_code 2 none G h0 qy_ns qy_ao) {r : qy_M} (M0 : qy_M) (y0 : Nat) (hy0 : True) (n : Nat) (a : qy_M × Int32) (h : gM_init_299 M0 y0 n a = some r) : qy_W p l e (qy_R 1 34 506) s m args below meth c (MQ below (qy_Q G h0 r) args s 34 506 (fun a => h0 ≤ a)) G h0 s.heap (M0.1, M0.2.1) 2 a.1 299 [(1, .int a.2), (0, .ref (G.2.2 7 y0))] [] :=
  qz_loop_ind (P := fun a => qy_W p l e (qy_R 1 34 506) s m args below meth c (MQ below (qy_Q G h0 r) args s 34 506 (fun a => h0 ≤ a)) G h0 s.heap (M0.1, M0.2.1) 2 a.1 299 [(1, .int a.2), (0, .ref (G.2.2 7 y0))] []) (fun k hk a h => tM_init_299b hinit hD hG X M0 y0 hy0 k hk a.1 a.2 h) n a h
set_option maxRecDepth 100000 in
set_option maxHeartbeats 4000000 in
theorem tM_init_277b {p : Program} {l : Launch} {e : Env} {s : State} {m : MethodId} {args : Array Value} {below : List Frame} {meth : Method} {c : Code} {G : qz_G} {h0 : Nat} (hinit : meth.name = "<init>") (hD : qz_D G) (hG : ∀ c i, G.2.2 c i = h0 + qy_of c i) (X : qy_X p s m args meth c "ExactCurvesModel" prog_10_method_1_code 2 none G h0 qy_ns qy_ao) {r : qy_M} (M0 : qy_M) (y0 : Nat) (hy0 : True) (k277 : qy_M × Int32 → Option qy_M) (hk277 : ∀ a, k277 a = some r → qy_W p l e (qy_R 1 34 506) s m args below meth c (MQ below (qy_Q G h0 r) args s 34 506 (fun a => h0 ≤ a)) G h0 s.heap (M0.1, M0.2.1) 2 a.1 277 [(1, .int a.2), (0, .ref (G.2.2 7 y0))] []) (N : qy_M) (x1 : Int32) (h : gM_init_277b M0 y0 k277 N x1 = some r) : qy_W p l e (qy_R 1 34 506) s m args below meth c (MQ below (qy_Q G h0 r) args s 34 506 (fun a => h0 ≤ a)) G h0 s.heap (M0.1, M0.2.1) 2 N 277 [(1, .int x1), (0, .ref (G.2.2 7 y0))] [] := by
  unfold gM_init_277b at h
  refine qy_iload_n X 0 rfl dq_M_init_277 ?_
  refine qy_iconst X (v := (4 : Int32)) (by decide) dq_M_init_278 ?_
  refine qy_icmp_ge X (tgt := 297) (by decide) dq_M_init_279 h (fun _ h => ?_) (fun _ h => ?_)
  · refine qy_iconst X (v := (0 : Int32)) (by decide) dq_M_init_297 ?_
    refine qy_istore_n X (lv' := [(1, .int (0 : Int32)), (0, .ref (G.2.2 7 y0))]) rfl (by decide) rfl dq_M_init_298 ?_
    refine qy_sub [0, 1] rfl ?_
    exact tM_init_299 hinit hD hG X M0 y0 hy0 1100 (N, (0 : Int32)) h
  · refine qy_aload_n X 1 rfl dq_M_init_282 ?_
    refine qz_ite h (fun hc h => ?_) (fun _ h => by cases h)
    refine qy_get X (v := .ref (G.2.2 44 y0)) kq_M_82 hc.1 (by show (if _ then _ else _) = _; rw [if_pos hc.2]) dq_M_init_283 ?_
    refine qy_iload_n X 0 rfl dq_M_init_286 ?_
    refine qy_ldc2 X (v := (1000000000 : Int64)) wq_603 dq_M_init_287 ?_
    refine qy_last X rfl dq_M_init_290 h (fun M38 h => ?_)
    refine qy_iinc_l X (u := (1 : Int32)) (lv' := fun v39 => [(1, .int v39), (0, .ref (G.2.2 7 y0))]) (k := 0) rfl (by decide) (by decide) (fun _ => rfl) dq_M_init_291 h (fun v39 h => ?_)
    refine qy_goto X (tgt := 277) (by decide) dq_M_init_294 ?_
    refine qy_sub [0, 1] rfl ?_
    exact hk277 (M38, v39) h
theorem tM_init_277 {p : Program} {l : Launch} {e : Env} {s : State} {m : MethodId} {args : Array Value} {below : List Frame} {meth : Method} {c : Code} {G : qz_G} {h0 : Nat} (hinit : meth.name = "<init>") (hD : qz_D G) (hG : ∀ c i, G.2.2 c i = h0 + qy_of c i) (X : qy_X p s m args meth c "ExactCurvesModel" prog_10_method_1_code 2 none G h0 qy_ns qy_ao) {r : qy_M} (M0 : qy_M) (y0 : Nat) (hy0 : True) (n : Nat) (a : qy_M × Int32) (h : gM_init_277 M0 y0 n a = some r) : qy_W p l e (qy_R 1 34 506) s m args below meth c (MQ below (qy_Q G h0 r) args s 34 506 (fun a => h0 ≤ a)) G h0 s.heap (M0.1, M0.2.1) 2 a.1 277 [(1, .int a.2), (0, .ref (G.2.2 7 y0))] [] :=
  qz_loop_ind (P := fun a => qy_W p l e (qy_R 1 34 506) s m args below meth c (MQ below (qy_Q G h0 r) args s 34 506 (fun a => h0 ≤ a)) G h0 s.heap (M0.1, M0.2.1) 2 a.1 277 [(1, .int a.2), (0, .ref (G.2.2 7 y0))] []) (fun k hk a h => tM_init_277b hinit hD hG X M0 y0 hy0 k hk a.1 a.2 h) n a h
set_option maxRecDepth 100000 in
set_option maxHeartbeats 4000000 in
theorem tM_init {p : Program} {l : Launch} {e : Env} {s : State} {m : MethodId} {args : Array Value} {below : List Frame} {meth : Method} {c : Code} {G : qz_G} {h0 : Nat} (hinit : meth.name = "<init>") (hD : qz_D G) (hG : ∀ c i, G.2.2 c i = h0 + qy_of c i) (X : qy_X p s m args meth c "ExactCurvesModel" prog_10_method_1_code 2 none G h0 qy_ns qy_ao) {r : qy_M} (o : Nat) (M0 : qy_M) (h : gM_init o M0 = some r) : qy_W p l e (qy_R 1 34 506) s m args below meth c (MQ below (qy_Q G h0 r) args s 34 506 (fun a => h0 ≤ a)) G h0 s.heap (M0.1, M0.2.1) 2 M0 0 [(0, .ref (G.2.2 7 o))] [] := by
  unfold gM_init at h
  refine qy_aload_n X 0 rfl dq_M_init_0 ?_
  refine qy_obj X ⟨wq_602, wq_18, oq_init⟩ ⟨by decide, by decide⟩ (Nat.le_of_ble_eq_true rfl) dq_M_init_1 ?_
  refine qy_aload_n X 0 rfl dq_M_init_4 ?_
  refine qy_bipush X (v := (24 : Int32)) (by decide) dq_M_init_5 ?_
  refine qy_newa X (ty := .long) (tg := 0) ⟨rfl, rfl⟩ rfl (by decide) rfl ⟨by decide, by decide, by decide⟩ wq_38 dq_M_init_7 h (fun h => ?_)
  refine qy_putR X rfl kq_M_7 (Or.inr ⟨hinit, 7, sq_7, tq_7, 42, rfl, rfl, rfl⟩) dq_M_init_9 h (fun M1 h => ?_)
  refine qy_aload_n X 0 rfl dq_M_init_12 ?_
  refine qy_iconst X (v := (4 : Int32)) (by decide) dq_M_init_13 ?_
  refine qy_newa X (ty := .long) (tg := 0) ⟨rfl, rfl⟩ rfl (by decide) rfl ⟨by decide, by decide, by decide⟩ wq_38 dq_M_init_14 h (fun h => ?_)
  refine qy_putR X rfl kq_M_13 (Or.inr ⟨hinit, 7, sq_7, tq_7, 42, rfl, rfl, rfl⟩) dq_M_init_16 h (fun M2 h => ?_)
  refine qy_aload_n X 0 rfl dq_M_init_19 ?_
  refine qy_bipush X (v := (12 : Int32)) (by decide) dq_M_init_20 ?_
  refine qy_newa X (ty := .int) (tg := 0) ⟨rfl, rfl⟩ rfl (by decide) rfl ⟨by decide, by decide, by decide⟩ wq_90 dq_M_init_22 h (fun h => ?_)
  refine qy_putR X rfl kq_M_16 (Or.inr ⟨hinit, 7, sq_7, tq_7, 42, rfl, rfl, rfl⟩) dq_M_init_24 h (fun M3 h => ?_)
  refine qy_aload_n X 0 rfl dq_M_init_27 ?_
  refine qy_bipush X (v := (6 : Int32)) (by decide) dq_M_init_28 ?_
  refine qy_newa X (ty := .int) (tg := 0) ⟨rfl, rfl⟩ rfl (by decide) rfl ⟨by decide, by decide, by decide⟩ wq_90 dq_M_init_30 h (fun h => ?_)
  refine qy_putR X rfl kq_M_20 (Or.inr ⟨hinit, 7, sq_7, tq_7, 42, rfl, rfl, rfl⟩) dq_M_init_32 h (fun M4 h => ?_)
  refine qy_aload_n X 0 rfl dq_M_init_35 ?_
  refine qy_bipush X (v := (6 : Int32)) (by decide) dq_M_init_36 ?_
  refine qy_newa X (ty := .int) (tg := 0) ⟨rfl, rfl⟩ rfl (by decide) rfl ⟨by decide, by decide, by decide⟩ wq_90 dq_M_init_38 h (fun h => ?_)
  refine qy_putR X rfl kq_M_23 (Or.inr ⟨hinit, 7, sq_7, tq_7, 42, rfl, rfl, rfl⟩) dq_M_init_40 h (fun M5 h => ?_)
  refine qy_aload_n X 0 rfl dq_M_init_43 ?_
  refine qy_bipush X (v := (12 : Int32)) (by decide) dq_M_init_44 ?_
  refine qy_newa X (ty := .long) (tg := 0) ⟨rfl, rfl⟩ rfl (by decide) rfl ⟨by decide, by decide, by decide⟩ wq_38 dq_M_init_46 h (fun h => ?_)
  refine qy_putR X rfl kq_M_26 (Or.inr ⟨hinit, 7, sq_7, tq_7, 42, rfl, rfl, rfl⟩) dq_M_init_48 h (fun M6 h => ?_)
  refine qy_aload_n X 0 rfl dq_M_init_51 ?_
  refine qy_bipush X (v := (6 : Int32)) (by decide) dq_M_init_52 ?_
  refine qy_newa X (ty := .long) (tg := 0) ⟨rfl, rfl⟩ rfl (by decide) rfl ⟨by decide, by decide, by decide⟩ wq_38 dq_M_init_54 h (fun h => ?_)
  refine qy_putR X rfl kq_M_29 (Or.inr ⟨hinit, 7, sq_7, tq_7, 42, rfl, rfl, rfl⟩) dq_M_init_56 h (fun M7 h => ?_)
  refine qy_aload_n X 0 rfl dq_M_init_59 ?_
  refine qy_bipush X (v := (36 : Int32)) (by decide) dq_M_init_60 ?_
  refine qy_newa X (ty := .long) (tg := 0) ⟨rfl, rfl⟩ rfl (by decide) rfl ⟨by decide, by decide, by decide⟩ wq_38 dq_M_init_62 h (fun h => ?_)
  refine qy_putR X rfl kq_M_32 (Or.inr ⟨hinit, 7, sq_7, tq_7, 42, rfl, rfl, rfl⟩) dq_M_init_64 h (fun M8 h => ?_)
  refine qy_aload_n X 0 rfl dq_M_init_67 ?_
  refine qy_bipush X (v := (6 : Int32)) (by decide) dq_M_init_68 ?_
  refine qy_newa X (ty := .long) (tg := 0) ⟨rfl, rfl⟩ rfl (by decide) rfl ⟨by decide, by decide, by decide⟩ wq_38 dq_M_init_70 h (fun h => ?_)
  refine qy_putR X rfl kq_M_35 (Or.inr ⟨hinit, 7, sq_7, tq_7, 42, rfl, rfl, rfl⟩) dq_M_init_72 h (fun M9 h => ?_)
  refine qy_aload_n X 0 rfl dq_M_init_75 ?_
  refine qy_bipush X (v := (6 : Int32)) (by decide) dq_M_init_76 ?_
  refine qy_newa X (ty := .long) (tg := 0) ⟨rfl, rfl⟩ rfl (by decide) rfl ⟨by decide, by decide, by decide⟩ wq_38 dq_M_init_78 h (fun h => ?_)
  refine qy_putR X rfl kq_M_38 (Or.inr ⟨hinit, 7, sq_7, tq_7, 42, rfl, rfl, rfl⟩) dq_M_init_80 h (fun M10 h => ?_)
  refine qy_aload_n X 0 rfl dq_M_init_83 ?_
  refine qy_bipush X (v := (8 : Int32)) (by decide) dq_M_init_84 ?_
  refine qy_newa X (ty := .int) (tg := 0) ⟨rfl, rfl⟩ rfl (by decide) rfl ⟨by decide, by decide, by decide⟩ wq_90 dq_M_init_86 h (fun h => ?_)
  refine qy_putR X rfl kq_M_41 (Or.inr ⟨hinit, 7, sq_7, tq_7, 42, rfl, rfl, rfl⟩) dq_M_init_88 h (fun M11 h => ?_)
  refine qy_aload_n X 0 rfl dq_M_init_91 ?_
  refine qy_bipush X (v := (8 : Int32)) (by decide) dq_M_init_92 ?_
  refine qy_newa X (ty := .long) (tg := 0) ⟨rfl, rfl⟩ rfl (by decide) rfl ⟨by decide, by decide, by decide⟩ wq_38 dq_M_init_94 h (fun h => ?_)
  refine qy_putR X rfl kq_M_44 (Or.inr ⟨hinit, 7, sq_7, tq_7, 42, rfl, rfl, rfl⟩) dq_M_init_96 h (fun M12 h => ?_)
  refine qy_aload_n X 0 rfl dq_M_init_99 ?_
  refine qy_bipush X (v := (8 : Int32)) (by decide) dq_M_init_100 ?_
  refine qy_newa X (ty := .long) (tg := 0) ⟨rfl, rfl⟩ rfl (by decide) rfl ⟨by decide, by decide, by decide⟩ wq_38 dq_M_init_102 h (fun h => ?_)
  refine qy_putR X rfl kq_M_47 (Or.inr ⟨hinit, 7, sq_7, tq_7, 42, rfl, rfl, rfl⟩) dq_M_init_104 h (fun M13 h => ?_)
  refine qy_aload_n X 0 rfl dq_M_init_107 ?_
  refine qy_iconst X (v := (1 : Int32)) (by decide) dq_M_init_108 ?_
  refine qy_putI X kq_M_50 dq_M_init_109 h (fun M14 h => ?_)
  refine qy_aload_n X 0 rfl dq_M_init_112 ?_
  refine qy_bipush X (v := (40 : Int32)) (by decide) dq_M_init_113 ?_
  refine qy_newa X (ty := .int) (tg := 0) ⟨rfl, rfl⟩ rfl (by decide) rfl ⟨by decide, by decide, by decide⟩ wq_90 dq_M_init_115 h (fun h => ?_)
  refine qy_putR X rfl kq_M_54 (Or.inr ⟨hinit, 7, sq_7, tq_7, 42, rfl, rfl, rfl⟩) dq_M_init_117 h (fun M15 h => ?_)
  refine qy_aload_n X 0 rfl dq_M_init_120 ?_
  refine qy_bipush X (v := (40 : Int32)) (by decide) dq_M_init_121 ?_
  refine qy_newa X (ty := .boolean) (tg := 0) ⟨rfl, rfl⟩ rfl (by decide) rfl ⟨by decide, by decide, by decide⟩ wq_91 dq_M_init_123 h (fun h => ?_)
  refine qy_putR X rfl kq_M_57 (Or.inr ⟨hinit, 7, sq_7, tq_7, 42, rfl, rfl, rfl⟩) dq_M_init_125 h (fun M16 h => ?_)
  refine qy_aload_n X 0 rfl dq_M_init_128 ?_
  refine qy_bipush X (v := (40 : Int32)) (by decide) dq_M_init_129 ?_
  refine qy_newa X (ty := .long) (tg := 0) ⟨rfl, rfl⟩ rfl (by decide) rfl ⟨by decide, by decide, by decide⟩ wq_38 dq_M_init_131 h (fun h => ?_)
  refine qy_putR X rfl kq_M_61 (Or.inr ⟨hinit, 7, sq_7, tq_7, 42, rfl, rfl, rfl⟩) dq_M_init_133 h (fun M17 h => ?_)
  refine qy_aload_n X 0 rfl dq_M_init_136 ?_
  refine qy_bipush X (v := (40 : Int32)) (by decide) dq_M_init_137 ?_
  refine qy_newa X (ty := .long) (tg := 0) ⟨rfl, rfl⟩ rfl (by decide) rfl ⟨by decide, by decide, by decide⟩ wq_38 dq_M_init_139 h (fun h => ?_)
  refine qy_putR X rfl kq_M_64 (Or.inr ⟨hinit, 7, sq_7, tq_7, 42, rfl, rfl, rfl⟩) dq_M_init_141 h (fun M18 h => ?_)
  refine qy_aload_n X 0 rfl dq_M_init_144 ?_
  refine qy_bipush X (v := (40 : Int32)) (by decide) dq_M_init_145 ?_
  refine qy_newa X (ty := .long) (tg := 0) ⟨rfl, rfl⟩ rfl (by decide) rfl ⟨by decide, by decide, by decide⟩ wq_38 dq_M_init_147 h (fun h => ?_)
  refine qy_putR X rfl kq_M_67 (Or.inr ⟨hinit, 7, sq_7, tq_7, 42, rfl, rfl, rfl⟩) dq_M_init_149 h (fun M19 h => ?_)
  refine qy_aload_n X 0 rfl dq_M_init_152 ?_
  refine qy_bipush X (v := (40 : Int32)) (by decide) dq_M_init_153 ?_
  refine qy_newa X (ty := .boolean) (tg := 0) ⟨rfl, rfl⟩ rfl (by decide) rfl ⟨by decide, by decide, by decide⟩ wq_91 dq_M_init_155 h (fun h => ?_)
  refine qy_putR X rfl kq_M_70 (Or.inr ⟨hinit, 7, sq_7, tq_7, 42, rfl, rfl, rfl⟩) dq_M_init_157 h (fun M20 h => ?_)
  refine qy_aload_n X 0 rfl dq_M_init_160 ?_
  refine qy_iconst X (v := (4 : Int32)) (by decide) dq_M_init_161 ?_
  refine qy_newa X (ty := .long) (tg := 0) ⟨rfl, rfl⟩ rfl (by decide) rfl ⟨by decide, by decide, by decide⟩ wq_38 dq_M_init_162 h (fun h => ?_)
  refine qy_putR X rfl kq_M_73 (Or.inr ⟨hinit, 7, sq_7, tq_7, 42, rfl, rfl, rfl⟩) dq_M_init_164 h (fun M21 h => ?_)
  refine qy_aload_n X 0 rfl dq_M_init_167 ?_
  refine qy_iconst X (v := (4 : Int32)) (by decide) dq_M_init_168 ?_
  refine qy_newa X (ty := .long) (tg := 0) ⟨rfl, rfl⟩ rfl (by decide) rfl ⟨by decide, by decide, by decide⟩ wq_38 dq_M_init_169 h (fun h => ?_)
  refine qy_putR X rfl kq_M_76 (Or.inr ⟨hinit, 7, sq_7, tq_7, 42, rfl, rfl, rfl⟩) dq_M_init_171 h (fun M22 h => ?_)
  refine qy_aload_n X 0 rfl dq_M_init_174 ?_
  refine qy_bipush X (v := (24 : Int32)) (by decide) dq_M_init_175 ?_
  refine qy_newa X (ty := .long) (tg := 0) ⟨rfl, rfl⟩ rfl (by decide) rfl ⟨by decide, by decide, by decide⟩ wq_38 dq_M_init_177 h (fun h => ?_)
  refine qy_putR X rfl kq_M_79 (Or.inr ⟨hinit, 7, sq_7, tq_7, 42, rfl, rfl, rfl⟩) dq_M_init_179 h (fun M23 h => ?_)
  refine qy_aload_n X 0 rfl dq_M_init_182 ?_
  refine qy_iconst X (v := (4 : Int32)) (by decide) dq_M_init_183 ?_
  refine qy_newa X (ty := .long) (tg := 0) ⟨rfl, rfl⟩ rfl (by decide) rfl ⟨by decide, by decide, by decide⟩ wq_38 dq_M_init_184 h (fun h => ?_)
  refine qy_putR X rfl kq_M_82 (Or.inr ⟨hinit, 7, sq_7, tq_7, 42, rfl, rfl, rfl⟩) dq_M_init_186 h (fun M24 h => ?_)
  refine qy_aload_n X 0 rfl dq_M_init_189 ?_
  refine qy_iconst X (v := (4 : Int32)) (by decide) dq_M_init_190 ?_
  refine qy_newa X (ty := .long) (tg := 0) ⟨rfl, rfl⟩ rfl (by decide) rfl ⟨by decide, by decide, by decide⟩ wq_38 dq_M_init_191 h (fun h => ?_)
  refine qy_putR X rfl kq_M_85 (Or.inr ⟨hinit, 7, sq_7, tq_7, 42, rfl, rfl, rfl⟩) dq_M_init_193 h (fun M25 h => ?_)
  refine qy_aload_n X 0 rfl dq_M_init_196 ?_
  refine qy_bipush X (v := (10 : Int32)) (by decide) dq_M_init_197 ?_
  refine qy_newa X (ty := .boolean) (tg := 0) ⟨rfl, rfl⟩ rfl (by decide) rfl ⟨by decide, by decide, by decide⟩ wq_91 dq_M_init_199 h (fun h => ?_)
  refine qy_putR X rfl kq_M_88 (Or.inr ⟨hinit, 7, sq_7, tq_7, 42, rfl, rfl, rfl⟩) dq_M_init_201 h (fun M26 h => ?_)
  refine qy_aload_n X 0 rfl dq_M_init_204 ?_
  refine qy_bipush X (v := (10 : Int32)) (by decide) dq_M_init_205 ?_
  refine qy_newa X (ty := .int) (tg := 0) ⟨rfl, rfl⟩ rfl (by decide) rfl ⟨by decide, by decide, by decide⟩ wq_90 dq_M_init_207 h (fun h => ?_)
  refine qy_putR X rfl kq_M_91 (Or.inr ⟨hinit, 7, sq_7, tq_7, 42, rfl, rfl, rfl⟩) dq_M_init_209 h (fun M27 h => ?_)
  refine qy_aload_n X 0 rfl dq_M_init_212 ?_
  refine qy_bipush X (v := (10 : Int32)) (by decide) dq_M_init_213 ?_
  refine qy_newa X (ty := .int) (tg := 0) ⟨rfl, rfl⟩ rfl (by decide) rfl ⟨by decide, by decide, by decide⟩ wq_90 dq_M_init_215 h (fun h => ?_)
  refine qy_putR X rfl kq_M_94 (Or.inr ⟨hinit, 7, sq_7, tq_7, 42, rfl, rfl, rfl⟩) dq_M_init_217 h (fun M28 h => ?_)
  refine qy_aload_n X 0 rfl dq_M_init_220 ?_
  refine qy_bipush X (v := (10 : Int32)) (by decide) dq_M_init_221 ?_
  refine qy_newa X (ty := .int) (tg := 0) ⟨rfl, rfl⟩ rfl (by decide) rfl ⟨by decide, by decide, by decide⟩ wq_90 dq_M_init_223 h (fun h => ?_)
  refine qy_putR X rfl kq_M_97 (Or.inr ⟨hinit, 7, sq_7, tq_7, 42, rfl, rfl, rfl⟩) dq_M_init_225 h (fun M29 h => ?_)
  refine qy_aload_n X 0 rfl dq_M_init_228 ?_
  refine qy_bipush X (v := (10 : Int32)) (by decide) dq_M_init_229 ?_
  refine qy_newa X (ty := .long) (tg := 0) ⟨rfl, rfl⟩ rfl (by decide) rfl ⟨by decide, by decide, by decide⟩ wq_38 dq_M_init_231 h (fun h => ?_)
  refine qy_putR X rfl kq_M_100 (Or.inr ⟨hinit, 7, sq_7, tq_7, 42, rfl, rfl, rfl⟩) dq_M_init_233 h (fun M30 h => ?_)
  refine qy_aload_n X 0 rfl dq_M_init_236 ?_
  refine qy_bipush X (v := (10 : Int32)) (by decide) dq_M_init_237 ?_
  refine qy_newa X (ty := .long) (tg := 0) ⟨rfl, rfl⟩ rfl (by decide) rfl ⟨by decide, by decide, by decide⟩ wq_38 dq_M_init_239 h (fun h => ?_)
  refine qy_putR X rfl kq_M_103 (Or.inr ⟨hinit, 7, sq_7, tq_7, 42, rfl, rfl, rfl⟩) dq_M_init_241 h (fun M31 h => ?_)
  refine qy_aload_n X 0 rfl dq_M_init_244 ?_
  refine qy_bipush X (v := (6 : Int32)) (by decide) dq_M_init_245 ?_
  refine qy_newa X (ty := .long) (tg := 0) ⟨rfl, rfl⟩ rfl (by decide) rfl ⟨by decide, by decide, by decide⟩ wq_38 dq_M_init_247 h (fun h => ?_)
  refine qy_putR X rfl kq_M_106 (Or.inr ⟨hinit, 7, sq_7, tq_7, 42, rfl, rfl, rfl⟩) dq_M_init_249 h (fun M32 h => ?_)
  refine qy_aload_n X 0 rfl dq_M_init_252 ?_
  refine qy_bipush X (v := (6 : Int32)) (by decide) dq_M_init_253 ?_
  refine qy_newa X (ty := .long) (tg := 0) ⟨rfl, rfl⟩ rfl (by decide) rfl ⟨by decide, by decide, by decide⟩ wq_38 dq_M_init_255 h (fun h => ?_)
  refine qy_putR X rfl kq_M_109 (Or.inr ⟨hinit, 7, sq_7, tq_7, 42, rfl, rfl, rfl⟩) dq_M_init_257 h (fun M33 h => ?_)
  refine qy_aload_n X 0 rfl dq_M_init_260 ?_
  refine qy_bipush X (v := (9 : Int32)) (by decide) dq_M_init_261 ?_
  refine qy_newa X (ty := .long) (tg := 0) ⟨rfl, rfl⟩ rfl (by decide) rfl ⟨by decide, by decide, by decide⟩ wq_38 dq_M_init_263 h (fun h => ?_)
  refine qy_putR X rfl kq_M_112 (Or.inr ⟨hinit, 7, sq_7, tq_7, 42, rfl, rfl, rfl⟩) dq_M_init_265 h (fun M34 h => ?_)
  refine qy_aload_n X 0 rfl dq_M_init_268 ?_
  refine qy_iconst X (v := (3 : Int32)) (by decide) dq_M_init_269 ?_
  refine qy_newa X (ty := .long) (tg := 0) ⟨rfl, rfl⟩ rfl (by decide) rfl ⟨by decide, by decide, by decide⟩ wq_38 dq_M_init_270 h (fun h => ?_)
  refine qy_putR X rfl kq_M_115 (Or.inr ⟨hinit, 7, sq_7, tq_7, 42, rfl, rfl, rfl⟩) dq_M_init_272 h (fun M35 h => ?_)
  refine qy_iconst X (v := (0 : Int32)) (by decide) dq_M_init_275 ?_
  refine qy_istore_n X (lv' := [(1, .int (0 : Int32)), (0, .ref (G.2.2 7 o))]) rfl (by decide) rfl dq_M_init_276 ?_
  refine qy_sub [0, 1] rfl ?_
  exact tM_init_277 hinit hD hG X M0 o trivial 1100 (M35, (0 : Int32)) h
theorem kM_init (l : Launch) (G : qz_G) {h0 : Nat} (hD : qz_D G) (hG : ∀ c i, G.2.2 c i = h0 + qy_of c i) (o : Nat) (M0 r : qy_M) (h : gM_init o M0 = some r) : qy_C l yM_init prog_10_method_1_code 2 1 34 506 G h0 qy_ns qy_ao [.ref (G.2.2 7 o)] M0 r :=
  qy_enter (lv := [(0, .ref (G.2.2 7 o))]) rfl rfl hD hG (Nat.le_of_ble_eq_true rfl) rfl (fun p e s m args below meth c hi X => tM_init hi hD hG X o M0 h)
end
