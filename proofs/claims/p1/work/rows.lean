section
-- ===== PART A: goes FIRST, ahead of the names: the tables' words, and 'selects' of the private methods out of them =====
/-- a private method of a class that the tables say can be made, by its rows of tables_1 -/
def lw_okq (q : MethodName × Nat) : Prop := (q.1.cls ≠ "java/lang/invoke/MethodHandle" ∧ q.1.cls ≠ "java/lang/invoke/VarHandle") ∧ Cond.instantiable q.1.cls q.2 ∈ tables_1 ∧ Cond.privateMethod q.1 ∈ tables_1 ∧ Cond.instanceMethod q.1 ∈ tables_1
theorem lw_p0 : lw_okq (⟨"LongerBack", "finding", "(I)I"⟩, 12) := ⟨⟨by decide +kernel, by decide +kernel⟩, List.mem_of_getElem? (i := 18) (by decide +kernel), List.mem_of_getElem? (i := 252) (by decide +kernel), List.mem_of_getElem? (i := 253) (by decide +kernel)⟩
theorem lw_p1 : lw_okq (⟨"LongerBack", "isLooped", "()Z"⟩, 12) := ⟨⟨by decide +kernel, by decide +kernel⟩, List.mem_of_getElem? (i := 18) (by decide +kernel), List.mem_of_getElem? (i := 324) (by decide +kernel), List.mem_of_getElem? (i := 325) (by decide +kernel)⟩
theorem lw_p2 : lw_okq (⟨"LongerBack$Atlas", "shortenOver", "(I)V"⟩, 2) := ⟨⟨by decide +kernel, by decide +kernel⟩, List.mem_of_getElem? (i := 105) (by decide +kernel), List.mem_of_getElem? (i := 338) (by decide +kernel), List.mem_of_getElem? (i := 339) (by decide +kernel)⟩
theorem lw_p3 : lw_okq (⟨"LongerBack$Atlas", "lengthOf", "(II)I"⟩, 2) := ⟨⟨by decide +kernel, by decide +kernel⟩, List.mem_of_getElem? (i := 105) (by decide +kernel), List.mem_of_getElem? (i := 342) (by decide +kernel), List.mem_of_getElem? (i := 343) (by decide +kernel)⟩
theorem lw_p4 : lw_okq (⟨"LongerBack", "lengthOrNone", "(I)I"⟩, 12) := ⟨⟨by decide +kernel, by decide +kernel⟩, List.mem_of_getElem? (i := 18) (by decide +kernel), List.mem_of_getElem? (i := 366) (by decide +kernel), List.mem_of_getElem? (i := 367) (by decide +kernel)⟩
theorem lw_p5 : lw_okq (⟨"LongerBack$Atlas", "nextStop", "(LLongerBack$Land;II)I"⟩, 2) := ⟨⟨by decide +kernel, by decide +kernel⟩, List.mem_of_getElem? (i := 105) (by decide +kernel), List.mem_of_getElem? (i := 385) (by decide +kernel), List.mem_of_getElem? (i := 386) (by decide +kernel)⟩
theorem lw_p6 : lw_okq (⟨"LongerBack$Atlas", "isBackAndForth", "(II)Z"⟩, 2) := ⟨⟨by decide +kernel, by decide +kernel⟩, List.mem_of_getElem? (i := 105) (by decide +kernel), List.mem_of_getElem? (i := 397) (by decide +kernel), List.mem_of_getElem? (i := 398) (by decide +kernel)⟩
theorem lw_p7 : lw_okq (⟨"LongerBack$Sums", "bestSum", "(LLongerBack$Rows;LLongerBack$Atlas;IZ)I"⟩, 1) := ⟨⟨by decide +kernel, by decide +kernel⟩, List.mem_of_getElem? (i := 118) (by decide +kernel), List.mem_of_getElem? (i := 470) (by decide +kernel), List.mem_of_getElem? (i := 471) (by decide +kernel)⟩
theorem lw_p8 : lw_okq (⟨"LongerBack$Sums", "orderStops", "(LLongerBack$Rows;LLongerBack$Atlas;I)V"⟩, 1) := ⟨⟨by decide +kernel, by decide +kernel⟩, List.mem_of_getElem? (i := 118) (by decide +kernel), List.mem_of_getElem? (i := 474) (by decide +kernel), List.mem_of_getElem? (i := 475) (by decide +kernel)⟩
theorem lw_p9 : lw_okq (⟨"LongerBack$Sums", "goOnFrom", "(LLongerBack$Rows;LLongerBack$Atlas;III)V"⟩, 1) := ⟨⟨by decide +kernel, by decide +kernel⟩, List.mem_of_getElem? (i := 118) (by decide +kernel), List.mem_of_getElem? (i := 478) (by decide +kernel), List.mem_of_getElem? (i := 479) (by decide +kernel)⟩
theorem lw_p10 : lw_okq (⟨"LongerBack$Slopes", "climbFrom", "(LLongerBack$Land;I)V"⟩, 3) := ⟨⟨by decide +kernel, by decide +kernel⟩, List.mem_of_getElem? (i := 128) (by decide +kernel), List.mem_of_getElem? (i := 551) (by decide +kernel), List.mem_of_getElem? (i := 552) (by decide +kernel)⟩
theorem lw_p11 : lw_okq (⟨"LongerBack$Learner", "isBelieved", "(LLongerBack$Land;I)Z"⟩, 2) := ⟨⟨by decide +kernel, by decide +kernel⟩, List.mem_of_getElem? (i := 146) (by decide +kernel), List.mem_of_getElem? (i := 613) (by decide +kernel), List.mem_of_getElem? (i := 614) (by decide +kernel)⟩
theorem lw_p12 : lw_okq (⟨"LongerBack$Learner", "narrow", "(LLongerBack$Land;II)Z"⟩, 2) := ⟨⟨by decide +kernel, by decide +kernel⟩, List.mem_of_getElem? (i := 146) (by decide +kernel), List.mem_of_getElem? (i := 619) (by decide +kernel), List.mem_of_getElem? (i := 620) (by decide +kernel)⟩
theorem lw_p13 : lw_okq (⟨"LongerBack", "bestToMend", "(I)I"⟩, 12) := ⟨⟨by decide +kernel, by decide +kernel⟩, List.mem_of_getElem? (i := 18) (by decide +kernel), List.mem_of_getElem? (i := 688) (by decide +kernel), List.mem_of_getElem? (i := 689) (by decide +kernel)⟩
theorem lw_p14 : lw_okq (⟨"LongerBack$Land", "nearestOf", "(I)I"⟩, 10) := ⟨⟨by decide +kernel, by decide +kernel⟩, List.mem_of_getElem? (i := 26) (by decide +kernel), List.mem_of_getElem? (i := 700) (by decide +kernel), List.mem_of_getElem? (i := 701) (by decide +kernel)⟩
theorem lw_p15 : lw_okq (⟨"LongerBack$Text", "step", "()V"⟩, 7) := ⟨⟨by decide +kernel, by decide +kernel⟩, List.mem_of_getElem? (i := 160) (by decide +kernel), List.mem_of_getElem? (i := 735) (by decide +kernel), List.mem_of_getElem? (i := 736) (by decide +kernel)⟩
def lw_privs_1 : List (MethodName × Nat) := [(⟨"LongerBack", "finding", "(I)I"⟩, 12), (⟨"LongerBack", "isLooped", "()Z"⟩, 12), (⟨"LongerBack$Atlas", "shortenOver", "(I)V"⟩, 2), (⟨"LongerBack$Atlas", "lengthOf", "(II)I"⟩, 2), (⟨"LongerBack", "lengthOrNone", "(I)I"⟩, 12), (⟨"LongerBack$Atlas", "nextStop", "(LLongerBack$Land;II)I"⟩, 2), (⟨"LongerBack$Atlas", "isBackAndForth", "(II)Z"⟩, 2), (⟨"LongerBack$Sums", "bestSum", "(LLongerBack$Rows;LLongerBack$Atlas;IZ)I"⟩, 1), (⟨"LongerBack$Sums", "orderStops", "(LLongerBack$Rows;LLongerBack$Atlas;I)V"⟩, 1), (⟨"LongerBack$Sums", "goOnFrom", "(LLongerBack$Rows;LLongerBack$Atlas;III)V"⟩, 1), (⟨"LongerBack$Slopes", "climbFrom", "(LLongerBack$Land;I)V"⟩, 3), (⟨"LongerBack$Learner", "isBelieved", "(LLongerBack$Land;I)Z"⟩, 2), (⟨"LongerBack$Learner", "narrow", "(LLongerBack$Land;II)Z"⟩, 2), (⟨"LongerBack", "bestToMend", "(I)I"⟩, 12), (⟨"LongerBack$Land", "nearestOf", "(I)I"⟩, 10), (⟨"LongerBack$Text", "step", "()V"⟩, 7)]
theorem lw_r1 : ∀ q ∈ lw_privs_1, lw_okq q := List.forall_mem_cons.mpr ⟨lw_p0, List.forall_mem_cons.mpr ⟨lw_p1, List.forall_mem_cons.mpr ⟨lw_p2, List.forall_mem_cons.mpr ⟨lw_p3, List.forall_mem_cons.mpr ⟨lw_p4, List.forall_mem_cons.mpr ⟨lw_p5, List.forall_mem_cons.mpr ⟨lw_p6, List.forall_mem_cons.mpr ⟨lw_p7, List.forall_mem_cons.mpr ⟨lw_p8, List.forall_mem_cons.mpr ⟨lw_p9, List.forall_mem_cons.mpr ⟨lw_p10, List.forall_mem_cons.mpr ⟨lw_p11, List.forall_mem_cons.mpr ⟨lw_p12, List.forall_mem_cons.mpr ⟨lw_p13, List.forall_mem_cons.mpr ⟨lw_p14, List.forall_mem_cons.mpr ⟨lw_p15, fun _ h => absurd h List.not_mem_nil⟩⟩⟩⟩⟩⟩⟩⟩⟩⟩⟩⟩⟩⟩⟩⟩
theorem lw_p16 : lw_okq (⟨"LongerBack$Text", "kindAt", "(I)I"⟩, 7) := ⟨⟨by decide +kernel, by decide +kernel⟩, List.mem_of_getElem? (i := 160) (by decide +kernel), List.mem_of_getElem? (i := 739) (by decide +kernel), List.mem_of_getElem? (i := 740) (by decide +kernel)⟩
theorem lw_p17 : lw_okq (⟨"LongerBack$Text", "takeItem", "(LLongerBack$Land;)Z"⟩, 7) := ⟨⟨by decide +kernel, by decide +kernel⟩, List.mem_of_getElem? (i := 160) (by decide +kernel), List.mem_of_getElem? (i := 744) (by decide +kernel), List.mem_of_getElem? (i := 745) (by decide +kernel)⟩
theorem lw_p18 : lw_okq (⟨"LongerBack$Text", "isWord", "(Ljava/lang/String;)Z"⟩, 7) := ⟨⟨by decide +kernel, by decide +kernel⟩, List.mem_of_getElem? (i := 160) (by decide +kernel), List.mem_of_getElem? (i := 749) (by decide +kernel), List.mem_of_getElem? (i := 750) (by decide +kernel)⟩
theorem lw_p19 : lw_okq (⟨"LongerBack$Text", "takePlace", "(LLongerBack$Land;)Z"⟩, 7) := ⟨⟨by decide +kernel, by decide +kernel⟩, List.mem_of_getElem? (i := 160) (by decide +kernel), List.mem_of_getElem? (i := 801) (by decide +kernel), List.mem_of_getElem? (i := 802) (by decide +kernel)⟩
theorem lw_p20 : lw_okq (⟨"LongerBack$Text", "takeWord", "(Ljava/lang/String;)Z"⟩, 7) := ⟨⟨by decide +kernel, by decide +kernel⟩, List.mem_of_getElem? (i := 160) (by decide +kernel), List.mem_of_getElem? (i := 806) (by decide +kernel), List.mem_of_getElem? (i := 807) (by decide +kernel)⟩
theorem lw_p21 : lw_okq (⟨"LongerBack$Text", "takeNumber", "(I)Z"⟩, 7) := ⟨⟨by decide +kernel, by decide +kernel⟩, List.mem_of_getElem? (i := 160) (by decide +kernel), List.mem_of_getElem? (i := 810) (by decide +kernel), List.mem_of_getElem? (i := 811) (by decide +kernel)⟩
theorem lw_p22 : lw_okq (⟨"LongerBack$Text", "takeWay", "(LLongerBack$Land;)Z"⟩, 7) := ⟨⟨by decide +kernel, by decide +kernel⟩, List.mem_of_getElem? (i := 160) (by decide +kernel), List.mem_of_getElem? (i := 816) (by decide +kernel), List.mem_of_getElem? (i := 817) (by decide +kernel)⟩
theorem lw_p23 : lw_okq (⟨"LongerBack$Text", "takeMile", "(II)Z"⟩, 7) := ⟨⟨by decide +kernel, by decide +kernel⟩, List.mem_of_getElem? (i := 160) (by decide +kernel), List.mem_of_getElem? (i := 820) (by decide +kernel), List.mem_of_getElem? (i := 821) (by decide +kernel)⟩
theorem lw_p24 : lw_okq (⟨"LongerBack$Text", "takeWayBack", "(LLongerBack$Land;II)Z"⟩, 7) := ⟨⟨by decide +kernel, by decide +kernel⟩, List.mem_of_getElem? (i := 160) (by decide +kernel), List.mem_of_getElem? (i := 827) (by decide +kernel), List.mem_of_getElem? (i := 828) (by decide +kernel)⟩
theorem lw_p25 : lw_okq (⟨"LongerBack$Text", "takeWalk", "(LLongerBack$Land;)Z"⟩, 7) := ⟨⟨by decide +kernel, by decide +kernel⟩, List.mem_of_getElem? (i := 160) (by decide +kernel), List.mem_of_getElem? (i := 832) (by decide +kernel), List.mem_of_getElem? (i := 833) (by decide +kernel)⟩
theorem lw_p26 : lw_okq (⟨"LongerBack$Text", "takeSlack", "(LLongerBack$Land;I)Z"⟩, 7) := ⟨⟨by decide +kernel, by decide +kernel⟩, List.mem_of_getElem? (i := 160) (by decide +kernel), List.mem_of_getElem? (i := 842) (by decide +kernel), List.mem_of_getElem? (i := 843) (by decide +kernel)⟩
theorem lw_p27 : lw_okq (⟨"LongerBack", "layWays", "(LLongerBack$Sheet;I)I"⟩, 12) := ⟨⟨by decide +kernel, by decide +kernel⟩, List.mem_of_getElem? (i := 18) (by decide +kernel), List.mem_of_getElem? (i := 885) (by decide +kernel), List.mem_of_getElem? (i := 886) (by decide +kernel)⟩
theorem lw_p28 : lw_okq (⟨"LongerBack", "readRow", "(LLongerBack$Sheet;)I"⟩, 12) := ⟨⟨by decide +kernel, by decide +kernel⟩, List.mem_of_getElem? (i := 18) (by decide +kernel), List.mem_of_getElem? (i := 895) (by decide +kernel), List.mem_of_getElem? (i := 896) (by decide +kernel)⟩
theorem lw_p29 : lw_okq (⟨"LongerBackModel", "finds", "(I)I"⟩, 27) := ⟨⟨by decide +kernel, by decide +kernel⟩, List.mem_of_getElem? (i := 923) (by decide +kernel), List.mem_of_getElem? (i := 1016) (by decide +kernel), List.mem_of_getElem? (i := 1017) (by decide +kernel)⟩
theorem lw_p30 : lw_okq (⟨"LongerBackModel", "newPlace", "()I"⟩, 27) := ⟨⟨by decide +kernel, by decide +kernel⟩, List.mem_of_getElem? (i := 923) (by decide +kernel), List.mem_of_getElem? (i := 1021) (by decide +kernel), List.mem_of_getElem? (i := 1022) (by decide +kernel)⟩
theorem lw_p31 : lw_okq (⟨"LongerBackModel", "isPlace", "(I)Z"⟩, 27) := ⟨⟨by decide +kernel, by decide +kernel⟩, List.mem_of_getElem? (i := 923) (by decide +kernel), List.mem_of_getElem? (i := 1029) (by decide +kernel), List.mem_of_getElem? (i := 1030) (by decide +kernel)⟩
def lw_privs_2 : List (MethodName × Nat) := [(⟨"LongerBack$Text", "kindAt", "(I)I"⟩, 7), (⟨"LongerBack$Text", "takeItem", "(LLongerBack$Land;)Z"⟩, 7), (⟨"LongerBack$Text", "isWord", "(Ljava/lang/String;)Z"⟩, 7), (⟨"LongerBack$Text", "takePlace", "(LLongerBack$Land;)Z"⟩, 7), (⟨"LongerBack$Text", "takeWord", "(Ljava/lang/String;)Z"⟩, 7), (⟨"LongerBack$Text", "takeNumber", "(I)Z"⟩, 7), (⟨"LongerBack$Text", "takeWay", "(LLongerBack$Land;)Z"⟩, 7), (⟨"LongerBack$Text", "takeMile", "(II)Z"⟩, 7), (⟨"LongerBack$Text", "takeWayBack", "(LLongerBack$Land;II)Z"⟩, 7), (⟨"LongerBack$Text", "takeWalk", "(LLongerBack$Land;)Z"⟩, 7), (⟨"LongerBack$Text", "takeSlack", "(LLongerBack$Land;I)Z"⟩, 7), (⟨"LongerBack", "layWays", "(LLongerBack$Sheet;I)I"⟩, 12), (⟨"LongerBack", "readRow", "(LLongerBack$Sheet;)I"⟩, 12), (⟨"LongerBackModel", "finds", "(I)I"⟩, 27), (⟨"LongerBackModel", "newPlace", "()I"⟩, 27), (⟨"LongerBackModel", "isPlace", "(I)Z"⟩, 27)]
theorem lw_r2 : ∀ q ∈ lw_privs_2, lw_okq q := List.forall_mem_cons.mpr ⟨lw_p16, List.forall_mem_cons.mpr ⟨lw_p17, List.forall_mem_cons.mpr ⟨lw_p18, List.forall_mem_cons.mpr ⟨lw_p19, List.forall_mem_cons.mpr ⟨lw_p20, List.forall_mem_cons.mpr ⟨lw_p21, List.forall_mem_cons.mpr ⟨lw_p22, List.forall_mem_cons.mpr ⟨lw_p23, List.forall_mem_cons.mpr ⟨lw_p24, List.forall_mem_cons.mpr ⟨lw_p25, List.forall_mem_cons.mpr ⟨lw_p26, List.forall_mem_cons.mpr ⟨lw_p27, List.forall_mem_cons.mpr ⟨lw_p28, List.forall_mem_cons.mpr ⟨lw_p29, List.forall_mem_cons.mpr ⟨lw_p30, List.forall_mem_cons.mpr ⟨lw_p31, fun _ h => absurd h List.not_mem_nil⟩⟩⟩⟩⟩⟩⟩⟩⟩⟩⟩⟩⟩⟩⟩⟩
theorem lw_p32 : lw_okq (⟨"LongerBackModel", "areTwo", "(II)Z"⟩, 27) := ⟨⟨by decide +kernel, by decide +kernel⟩, List.mem_of_getElem? (i := 923) (by decide +kernel), List.mem_of_getElem? (i := 1041) (by decide +kernel), List.mem_of_getElem? (i := 1042) (by decide +kernel)⟩
theorem lw_p33 : lw_okq (⟨"LongerBackModel", "makes", "(IIII)I"⟩, 27) := ⟨⟨by decide +kernel, by decide +kernel⟩, List.mem_of_getElem? (i := 923) (by decide +kernel), List.mem_of_getElem? (i := 1050) (by decide +kernel), List.mem_of_getElem? (i := 1051) (by decide +kernel)⟩
theorem lw_p34 : lw_okq (⟨"LongerBackModel", "isWay", "(II)Z"⟩, 27) := ⟨⟨by decide +kernel, by decide +kernel⟩, List.mem_of_getElem? (i := 923) (by decide +kernel), List.mem_of_getElem? (i := 1059) (by decide +kernel), List.mem_of_getElem? (i := 1060) (by decide +kernel)⟩
theorem lw_p35 : lw_okq (⟨"LongerBackModel", "findFar", "()V"⟩, 27) := ⟨⟨by decide +kernel, by decide +kernel⟩, List.mem_of_getElem? (i := 923) (by decide +kernel), List.mem_of_getElem? (i := 1072) (by decide +kernel), List.mem_of_getElem? (i := 1073) (by decide +kernel)⟩
theorem lw_p36 : lw_okq (⟨"LongerBackModel", "isOpen", "(II)Z"⟩, 27) := ⟨⟨by decide +kernel, by decide +kernel⟩, List.mem_of_getElem? (i := 923) (by decide +kernel), List.mem_of_getElem? (i := 1076) (by decide +kernel), List.mem_of_getElem? (i := 1077) (by decide +kernel)⟩
theorem lw_p37 : lw_okq (⟨"LongerBackModel", "miles", "(II)I"⟩, 27) := ⟨⟨by decide +kernel, by decide +kernel⟩, List.mem_of_getElem? (i := 923) (by decide +kernel), List.mem_of_getElem? (i := 1080) (by decide +kernel), List.mem_of_getElem? (i := 1081) (by decide +kernel)⟩
theorem lw_p38 : lw_okq (⟨"LongerBackModel", "joins", "(III)V"⟩, 27) := ⟨⟨by decide +kernel, by decide +kernel⟩, List.mem_of_getElem? (i := 923) (by decide +kernel), List.mem_of_getElem? (i := 1085) (by decide +kernel), List.mem_of_getElem? (i := 1086) (by decide +kernel)⟩
theorem lw_p39 : lw_okq (⟨"LongerBackModel", "isRound", "(I)Z"⟩, 27) := ⟨⟨by decide +kernel, by decide +kernel⟩, List.mem_of_getElem? (i := 923) (by decide +kernel), List.mem_of_getElem? (i := 1113) (by decide +kernel), List.mem_of_getElem? (i := 1114) (by decide +kernel)⟩
theorem lw_p40 : lw_okq (⟨"LongerBackModel", "comesTo", "(I)I"⟩, 27) := ⟨⟨by decide +kernel, by decide +kernel⟩, List.mem_of_getElem? (i := 923) (by decide +kernel), List.mem_of_getElem? (i := 1121) (by decide +kernel), List.mem_of_getElem? (i := 1122) (by decide +kernel)⟩
theorem lw_p41 : lw_okq (⟨"LongerBackModel", "of", "(II)I"⟩, 27) := ⟨⟨by decide +kernel, by decide +kernel⟩, List.mem_of_getElem? (i := 923) (by decide +kernel), List.mem_of_getElem? (i := 1125) (by decide +kernel), List.mem_of_getElem? (i := 1126) (by decide +kernel)⟩
theorem lw_p42 : lw_okq (⟨"LongerBackModel", "orders", "(IZ)V"⟩, 27) := ⟨⟨by decide +kernel, by decide +kernel⟩, List.mem_of_getElem? (i := 923) (by decide +kernel), List.mem_of_getElem? (i := 1129) (by decide +kernel), List.mem_of_getElem? (i := 1130) (by decide +kernel)⟩
theorem lw_p43 : lw_okq (⟨"LongerBackModel", "offers", "(IZ)V"⟩, 27) := ⟨⟨by decide +kernel, by decide +kernel⟩, List.mem_of_getElem? (i := 923) (by decide +kernel), List.mem_of_getElem? (i := 1133) (by decide +kernel), List.mem_of_getElem? (i := 1134) (by decide +kernel)⟩
theorem lw_p44 : lw_okq (⟨"LongerBackModel", "adds", "(I)V"⟩, 27) := ⟨⟨by decide +kernel, by decide +kernel⟩, List.mem_of_getElem? (i := 923) (by decide +kernel), List.mem_of_getElem? (i := 1137) (by decide +kernel), List.mem_of_getElem? (i := 1138) (by decide +kernel)⟩
theorem lw_p45 : lw_okq (⟨"LongerBackModel", "meets", "(II)V"⟩, 27) := ⟨⟨by decide +kernel, by decide +kernel⟩, List.mem_of_getElem? (i := 923) (by decide +kernel), List.mem_of_getElem? (i := 1141) (by decide +kernel), List.mem_of_getElem? (i := 1142) (by decide +kernel)⟩
theorem lw_p46 : lw_okq (⟨"LongerBackModel", "pairs", "(III)V"⟩, 27) := ⟨⟨by decide +kernel, by decide +kernel⟩, List.mem_of_getElem? (i := 923) (by decide +kernel), List.mem_of_getElem? (i := 1145) (by decide +kernel), List.mem_of_getElem? (i := 1146) (by decide +kernel)⟩
theorem lw_p47 : lw_okq (⟨"LongerBackModel", "told", "(II)I"⟩, 27) := ⟨⟨by decide +kernel, by decide +kernel⟩, List.mem_of_getElem? (i := 923) (by decide +kernel), List.mem_of_getElem? (i := 1149) (by decide +kernel), List.mem_of_getElem? (i := 1150) (by decide +kernel)⟩
def lw_privs_3 : List (MethodName × Nat) := [(⟨"LongerBackModel", "areTwo", "(II)Z"⟩, 27), (⟨"LongerBackModel", "makes", "(IIII)I"⟩, 27), (⟨"LongerBackModel", "isWay", "(II)Z"⟩, 27), (⟨"LongerBackModel", "findFar", "()V"⟩, 27), (⟨"LongerBackModel", "isOpen", "(II)Z"⟩, 27), (⟨"LongerBackModel", "miles", "(II)I"⟩, 27), (⟨"LongerBackModel", "joins", "(III)V"⟩, 27), (⟨"LongerBackModel", "isRound", "(I)Z"⟩, 27), (⟨"LongerBackModel", "comesTo", "(I)I"⟩, 27), (⟨"LongerBackModel", "of", "(II)I"⟩, 27), (⟨"LongerBackModel", "orders", "(IZ)V"⟩, 27), (⟨"LongerBackModel", "offers", "(IZ)V"⟩, 27), (⟨"LongerBackModel", "adds", "(I)V"⟩, 27), (⟨"LongerBackModel", "meets", "(II)V"⟩, 27), (⟨"LongerBackModel", "pairs", "(III)V"⟩, 27), (⟨"LongerBackModel", "told", "(II)I"⟩, 27)]
theorem lw_r3 : ∀ q ∈ lw_privs_3, lw_okq q := List.forall_mem_cons.mpr ⟨lw_p32, List.forall_mem_cons.mpr ⟨lw_p33, List.forall_mem_cons.mpr ⟨lw_p34, List.forall_mem_cons.mpr ⟨lw_p35, List.forall_mem_cons.mpr ⟨lw_p36, List.forall_mem_cons.mpr ⟨lw_p37, List.forall_mem_cons.mpr ⟨lw_p38, List.forall_mem_cons.mpr ⟨lw_p39, List.forall_mem_cons.mpr ⟨lw_p40, List.forall_mem_cons.mpr ⟨lw_p41, List.forall_mem_cons.mpr ⟨lw_p42, List.forall_mem_cons.mpr ⟨lw_p43, List.forall_mem_cons.mpr ⟨lw_p44, List.forall_mem_cons.mpr ⟨lw_p45, List.forall_mem_cons.mpr ⟨lw_p46, List.forall_mem_cons.mpr ⟨lw_p47, fun _ h => absurd h List.not_mem_nil⟩⟩⟩⟩⟩⟩⟩⟩⟩⟩⟩⟩⟩⟩⟩⟩
theorem lw_p48 : lw_okq (⟨"LongerBackModel", "closes", "(III)V"⟩, 27) := ⟨⟨by decide +kernel, by decide +kernel⟩, List.mem_of_getElem? (i := 923) (by decide +kernel), List.mem_of_getElem? (i := 1153) (by decide +kernel), List.mem_of_getElem? (i := 1154) (by decide +kernel)⟩
theorem lw_p49 : lw_okq (⟨"LongerBackModel", "home", "()I"⟩, 27) := ⟨⟨by decide +kernel, by decide +kernel⟩, List.mem_of_getElem? (i := 923) (by decide +kernel), List.mem_of_getElem? (i := 1172) (by decide +kernel), List.mem_of_getElem? (i := 1173) (by decide +kernel)⟩
theorem lw_p50 : lw_okq (⟨"LongerBackModel", "tripOf", "(I)I"⟩, 27) := ⟨⟨by decide +kernel, by decide +kernel⟩, List.mem_of_getElem? (i := 923) (by decide +kernel), List.mem_of_getElem? (i := 1176) (by decide +kernel), List.mem_of_getElem? (i := 1177) (by decide +kernel)⟩
theorem lw_p51 : lw_okq (⟨"LongerBackModel", "meeting", "(IIII)I"⟩, 27) := ⟨⟨by decide +kernel, by decide +kernel⟩, List.mem_of_getElem? (i := 923) (by decide +kernel), List.mem_of_getElem? (i := 1188) (by decide +kernel), List.mem_of_getElem? (i := 1189) (by decide +kernel)⟩
theorem lw_p52 : lw_okq (⟨"LongerBackModel", "findHeights", "()V"⟩, 27) := ⟨⟨by decide +kernel, by decide +kernel⟩, List.mem_of_getElem? (i := 923) (by decide +kernel), List.mem_of_getElem? (i := 1196) (by decide +kernel), List.mem_of_getElem? (i := 1197) (by decide +kernel)⟩
theorem lw_p53 : lw_okq (⟨"LongerBackModel", "spreads", "(I)V"⟩, 27) := ⟨⟨by decide +kernel, by decide +kernel⟩, List.mem_of_getElem? (i := 923) (by decide +kernel), List.mem_of_getElem? (i := 1200) (by decide +kernel), List.mem_of_getElem? (i := 1201) (by decide +kernel)⟩
theorem lw_p54 : lw_okq (⟨"LongerBackModel", "areBoth", "(II)Z"⟩, 27) := ⟨⟨by decide +kernel, by decide +kernel⟩, List.mem_of_getElem? (i := 923) (by decide +kernel), List.mem_of_getElem? (i := 1204) (by decide +kernel), List.mem_of_getElem? (i := 1205) (by decide +kernel)⟩
theorem lw_p55 : lw_okq (⟨"LongerBackModel", "newWalk", "(IIII)I"⟩, 27) := ⟨⟨by decide +kernel, by decide +kernel⟩, List.mem_of_getElem? (i := 923) (by decide +kernel), List.mem_of_getElem? (i := 1229) (by decide +kernel), List.mem_of_getElem? (i := 1230) (by decide +kernel)⟩
theorem lw_p56 : lw_okq (⟨"LongerBackModel", "learning", "()I"⟩, 27) := ⟨⟨by decide +kernel, by decide +kernel⟩, List.mem_of_getElem? (i := 923) (by decide +kernel), List.mem_of_getElem? (i := 1241) (by decide +kernel), List.mem_of_getElem? (i := 1242) (by decide +kernel)⟩
theorem lw_p57 : lw_okq (⟨"LongerBackModel", "learns", "(I)Z"⟩, 27) := ⟨⟨by decide +kernel, by decide +kernel⟩, List.mem_of_getElem? (i := 923) (by decide +kernel), List.mem_of_getElem? (i := 1245) (by decide +kernel), List.mem_of_getElem? (i := 1246) (by decide +kernel)⟩
theorem lw_p58 : lw_okq (⟨"LongerBackModel", "isWalked", "(I)Z"⟩, 27) := ⟨⟨by decide +kernel, by decide +kernel⟩, List.mem_of_getElem? (i := 923) (by decide +kernel), List.mem_of_getElem? (i := 1249) (by decide +kernel), List.mem_of_getElem? (i := 1250) (by decide +kernel)⟩
theorem lw_p59 : lw_okq (⟨"LongerBackModel", "wayAt", "(II)I"⟩, 27) := ⟨⟨by decide +kernel, by decide +kernel⟩, List.mem_of_getElem? (i := 923) (by decide +kernel), List.mem_of_getElem? (i := 1253) (by decide +kernel), List.mem_of_getElem? (i := 1254) (by decide +kernel)⟩
theorem lw_p60 : lw_okq (⟨"LongerBackModel", "puts", "()V"⟩, 27) := ⟨⟨by decide +kernel, by decide +kernel⟩, List.mem_of_getElem? (i := 923) (by decide +kernel), List.mem_of_getElem? (i := 1261) (by decide +kernel), List.mem_of_getElem? (i := 1262) (by decide +kernel)⟩
theorem lw_p61 : lw_okq (⟨"LongerBackModel", "putsBack", "()V"⟩, 27) := ⟨⟨by decide +kernel, by decide +kernel⟩, List.mem_of_getElem? (i := 923) (by decide +kernel), List.mem_of_getElem? (i := 1265) (by decide +kernel), List.mem_of_getElem? (i := 1266) (by decide +kernel)⟩
theorem lw_p62 : lw_okq (⟨"LongerBackModel", "between", "(I)I"⟩, 27) := ⟨⟨by decide +kernel, by decide +kernel⟩, List.mem_of_getElem? (i := 923) (by decide +kernel), List.mem_of_getElem? (i := 1273) (by decide +kernel), List.mem_of_getElem? (i := 1274) (by decide +kernel)⟩
theorem lw_p63 : lw_okq (⟨"LongerBackModel", "tripOfHome", "()I"⟩, 27) := ⟨⟨by decide +kernel, by decide +kernel⟩, List.mem_of_getElem? (i := 923) (by decide +kernel), List.mem_of_getElem? (i := 1285) (by decide +kernel), List.mem_of_getElem? (i := 1286) (by decide +kernel)⟩
def lw_privs_4 : List (MethodName × Nat) := [(⟨"LongerBackModel", "closes", "(III)V"⟩, 27), (⟨"LongerBackModel", "home", "()I"⟩, 27), (⟨"LongerBackModel", "tripOf", "(I)I"⟩, 27), (⟨"LongerBackModel", "meeting", "(IIII)I"⟩, 27), (⟨"LongerBackModel", "findHeights", "()V"⟩, 27), (⟨"LongerBackModel", "spreads", "(I)V"⟩, 27), (⟨"LongerBackModel", "areBoth", "(II)Z"⟩, 27), (⟨"LongerBackModel", "newWalk", "(IIII)I"⟩, 27), (⟨"LongerBackModel", "learning", "()I"⟩, 27), (⟨"LongerBackModel", "learns", "(I)Z"⟩, 27), (⟨"LongerBackModel", "isWalked", "(I)Z"⟩, 27), (⟨"LongerBackModel", "wayAt", "(II)I"⟩, 27), (⟨"LongerBackModel", "puts", "()V"⟩, 27), (⟨"LongerBackModel", "putsBack", "()V"⟩, 27), (⟨"LongerBackModel", "between", "(I)I"⟩, 27), (⟨"LongerBackModel", "tripOfHome", "()I"⟩, 27)]
theorem lw_r4 : ∀ q ∈ lw_privs_4, lw_okq q := List.forall_mem_cons.mpr ⟨lw_p48, List.forall_mem_cons.mpr ⟨lw_p49, List.forall_mem_cons.mpr ⟨lw_p50, List.forall_mem_cons.mpr ⟨lw_p51, List.forall_mem_cons.mpr ⟨lw_p52, List.forall_mem_cons.mpr ⟨lw_p53, List.forall_mem_cons.mpr ⟨lw_p54, List.forall_mem_cons.mpr ⟨lw_p55, List.forall_mem_cons.mpr ⟨lw_p56, List.forall_mem_cons.mpr ⟨lw_p57, List.forall_mem_cons.mpr ⟨lw_p58, List.forall_mem_cons.mpr ⟨lw_p59, List.forall_mem_cons.mpr ⟨lw_p60, List.forall_mem_cons.mpr ⟨lw_p61, List.forall_mem_cons.mpr ⟨lw_p62, List.forall_mem_cons.mpr ⟨lw_p63, fun _ h => absurd h List.not_mem_nil⟩⟩⟩⟩⟩⟩⟩⟩⟩⟩⟩⟩⟩⟩⟩⟩
theorem lw_p64 : lw_okq (⟨"LongerBackModel", "saving", "(III)I"⟩, 27) := ⟨⟨by decide +kernel, by decide +kernel⟩, List.mem_of_getElem? (i := 923) (by decide +kernel), List.mem_of_getElem? (i := 1289) (by decide +kernel), List.mem_of_getElem? (i := 1290) (by decide +kernel)⟩
theorem lw_p65 : lw_okq (⟨"LongerBackModel", "nearest", "(I)I"⟩, 27) := ⟨⟨by decide +kernel, by decide +kernel⟩, List.mem_of_getElem? (i := 923) (by decide +kernel), List.mem_of_getElem? (i := 1302) (by decide +kernel), List.mem_of_getElem? (i := 1303) (by decide +kernel)⟩
theorem lw_p66 : lw_okq (⟨"LongerBackModel", "next", "()V"⟩, 27) := ⟨⟨by decide +kernel, by decide +kernel⟩, List.mem_of_getElem? (i := 923) (by decide +kernel), List.mem_of_getElem? (i := 1323) (by decide +kernel), List.mem_of_getElem? (i := 1324) (by decide +kernel)⟩
theorem lw_p67 : lw_okq (⟨"LongerBackModel", "byteAt", "(I)I"⟩, 27) := ⟨⟨by decide +kernel, by decide +kernel⟩, List.mem_of_getElem? (i := 923) (by decide +kernel), List.mem_of_getElem? (i := 1327) (by decide +kernel), List.mem_of_getElem? (i := 1328) (by decide +kernel)⟩
theorem lw_p68 : lw_okq (⟨"LongerBackModel", "item", "()V"⟩, 27) := ⟨⟨by decide +kernel, by decide +kernel⟩, List.mem_of_getElem? (i := 923) (by decide +kernel), List.mem_of_getElem? (i := 1341) (by decide +kernel), List.mem_of_getElem? (i := 1342) (by decide +kernel)⟩
theorem lw_p69 : lw_okq (⟨"LongerBackModel", "isWord", "(IIIIIII)Z"⟩, 27) := ⟨⟨by decide +kernel, by decide +kernel⟩, List.mem_of_getElem? (i := 923) (by decide +kernel), List.mem_of_getElem? (i := 1345) (by decide +kernel), List.mem_of_getElem? (i := 1346) (by decide +kernel)⟩
theorem lw_p70 : lw_okq (⟨"LongerBackModel", "isAt", "(II)Z"⟩, 27) := ⟨⟨by decide +kernel, by decide +kernel⟩, List.mem_of_getElem? (i := 923) (by decide +kernel), List.mem_of_getElem? (i := 1349) (by decide +kernel), List.mem_of_getElem? (i := 1350) (by decide +kernel)⟩
theorem lw_p71 : lw_okq (⟨"LongerBackModel", "wayItem", "()V"⟩, 27) := ⟨⟨by decide +kernel, by decide +kernel⟩, List.mem_of_getElem? (i := 923) (by decide +kernel), List.mem_of_getElem? (i := 1353) (by decide +kernel), List.mem_of_getElem? (i := 1354) (by decide +kernel)⟩
theorem lw_p72 : lw_okq (⟨"LongerBackModel", "needs", "(Z)V"⟩, 27) := ⟨⟨by decide +kernel, by decide +kernel⟩, List.mem_of_getElem? (i := 923) (by decide +kernel), List.mem_of_getElem? (i := 1357) (by decide +kernel), List.mem_of_getElem? (i := 1358) (by decide +kernel)⟩
theorem lw_p73 : lw_okq (⟨"LongerBackModel", "number", "(II)V"⟩, 27) := ⟨⟨by decide +kernel, by decide +kernel⟩, List.mem_of_getElem? (i := 923) (by decide +kernel), List.mem_of_getElem? (i := 1361) (by decide +kernel), List.mem_of_getElem? (i := 1362) (by decide +kernel)⟩
theorem lw_p74 : lw_okq (⟨"LongerBackModel", "numberHere", "()I"⟩, 27) := ⟨⟨by decide +kernel, by decide +kernel⟩, List.mem_of_getElem? (i := 923) (by decide +kernel), List.mem_of_getElem? (i := 1365) (by decide +kernel), List.mem_of_getElem? (i := 1366) (by decide +kernel)⟩
theorem lw_p75 : lw_okq (⟨"LongerBackModel", "mile", "(II)V"⟩, 27) := ⟨⟨by decide +kernel, by decide +kernel⟩, List.mem_of_getElem? (i := 923) (by decide +kernel), List.mem_of_getElem? (i := 1369) (by decide +kernel), List.mem_of_getElem? (i := 1370) (by decide +kernel)⟩
theorem lw_p76 : lw_okq (⟨"LongerBackModel", "walkItem", "()V"⟩, 27) := ⟨⟨by decide +kernel, by decide +kernel⟩, List.mem_of_getElem? (i := 923) (by decide +kernel), List.mem_of_getElem? (i := 1373) (by decide +kernel), List.mem_of_getElem? (i := 1374) (by decide +kernel)⟩
theorem lw_p77 : lw_okq (⟨"LongerBackModel", "wrong", "(I)I"⟩, 27) := ⟨⟨by decide +kernel, by decide +kernel⟩, List.mem_of_getElem? (i := 923) (by decide +kernel), List.mem_of_getElem? (i := 1390) (by decide +kernel), List.mem_of_getElem? (i := 1391) (by decide +kernel)⟩
def lw_privs_5 : List (MethodName × Nat) := [(⟨"LongerBackModel", "saving", "(III)I"⟩, 27), (⟨"LongerBackModel", "nearest", "(I)I"⟩, 27), (⟨"LongerBackModel", "next", "()V"⟩, 27), (⟨"LongerBackModel", "byteAt", "(I)I"⟩, 27), (⟨"LongerBackModel", "item", "()V"⟩, 27), (⟨"LongerBackModel", "isWord", "(IIIIIII)Z"⟩, 27), (⟨"LongerBackModel", "isAt", "(II)Z"⟩, 27), (⟨"LongerBackModel", "wayItem", "()V"⟩, 27), (⟨"LongerBackModel", "needs", "(Z)V"⟩, 27), (⟨"LongerBackModel", "number", "(II)V"⟩, 27), (⟨"LongerBackModel", "numberHere", "()I"⟩, 27), (⟨"LongerBackModel", "mile", "(II)V"⟩, 27), (⟨"LongerBackModel", "walkItem", "()V"⟩, 27), (⟨"LongerBackModel", "wrong", "(I)I"⟩, 27)]
theorem lw_r5 : ∀ q ∈ lw_privs_5, lw_okq q := List.forall_mem_cons.mpr ⟨lw_p64, List.forall_mem_cons.mpr ⟨lw_p65, List.forall_mem_cons.mpr ⟨lw_p66, List.forall_mem_cons.mpr ⟨lw_p67, List.forall_mem_cons.mpr ⟨lw_p68, List.forall_mem_cons.mpr ⟨lw_p69, List.forall_mem_cons.mpr ⟨lw_p70, List.forall_mem_cons.mpr ⟨lw_p71, List.forall_mem_cons.mpr ⟨lw_p72, List.forall_mem_cons.mpr ⟨lw_p73, List.forall_mem_cons.mpr ⟨lw_p74, List.forall_mem_cons.mpr ⟨lw_p75, List.forall_mem_cons.mpr ⟨lw_p76, List.forall_mem_cons.mpr ⟨lw_p77, fun _ h => absurd h List.not_mem_nil⟩⟩⟩⟩⟩⟩⟩⟩⟩⟩⟩⟩⟩⟩
def lw_privs : List (MethodName × Nat) := lw_privs_1 ++ (lw_privs_2 ++ (lw_privs_3 ++ (lw_privs_4 ++ (lw_privs_5))))
def lw_tbl : List Cond := k2_sels lw_privs ++ tables_1
theorem lw_privs_ok : ∀ q ∈ lw_privs, lw_okq q := by
  show ∀ q ∈ lw_privs_1 ++ (lw_privs_2 ++ (lw_privs_3 ++ (lw_privs_4 ++ (lw_privs_5)))), lw_okq q
  exact List.forall_mem_append.mpr ⟨lw_r1, List.forall_mem_append.mpr ⟨lw_r2, List.forall_mem_append.mpr ⟨lw_r3, List.forall_mem_append.mpr ⟨lw_r4, lw_r5⟩⟩⟩⟩
end
section
/-! ===== BEGIN words of one list among another's, by their places ===== -/
theorem goodIn_r {big : List Cond} (ws : List Cond) (ps : List Nat) (hp : ws = ps.filterMap (fun i => big[i]?)) (h : ws.all goodWord = true) : GoodIn big ws := by
  intro w hw
  have h1 := List.all_eq_true.mp h w hw
  rw [hp] at hw
  obtain ⟨i, -, hi⟩ := List.mem_filterMap.mp hw
  have hm : w ∈ big := by first | exact List.mem_of_getElem? hi | exact List.getElem?_mem hi
  exact ⟨hm, good_of_word h1⟩
theorem goodIn_app {big a b : List Cond} (ha : GoodIn big a) (hb : GoodIn big b) : GoodIn big (a ++ b) := fun w h => (List.mem_append.mp h).elim (ha w) (hb w)
theorem goodIn_ca {big a b : List Cond} {c : Cond} (ha : GoodIn big (c :: a)) (hb : GoodIn big b) : GoodIn big (c :: (a ++ b)) := fun w h => (List.mem_cons.mp h).elim (fun e => ha w (List.mem_cons.mpr (Or.inl e))) (fun h => (List.mem_append.mp h).elim (fun h => ha w (List.mem_cons.mpr (Or.inr h))) (hb w))
theorem goodIn_sub {big ws : List Cond} (hm : ∀ w ∈ ws, w ∈ big) (h : ws.all goodWord = true) : GoodIn big ws := fun w hw => ⟨hm w hw, good_of_word (List.all_eq_true.mp h w hw)⟩
/-! ===== END ===== -/

/-! ===== BEGIN printed: names, fields, word lists, decode rows ===== -/
def RX0 : String := "LongerBack$Atlas"
def TX0 : u_T := fun k => match k with
  | 0 => ("LongerBack$Atlas", "places", "I", false)
  | _ => ("LongerBack$Atlas", "lengths", "[I", true)
def tyX0 : Nat → FieldType := fun k => match k with
  | 0 => .int
  | _ => .array .int
abbrev wsX00 : List Cond := u_ws RX0 TX0 2
theorem nmX0 : ∀ a, a < 2 → ∀ b, b < 2 → a ≠ b → (TX0 a).2.1 ≠ (TX0 b).2.1 := by decide +kernel
theorem tyX0_ok : ∀ k, k < 2 → parseFieldDescriptor (TX0 k).2.2.1 = some (tyX0 k) := by decide +kernel
abbrev cX0_init : ByteArray := prog_2_method_1_code
def yX0_init : MethodName := ⟨RX0, "<init>", "()V"⟩
abbrev cX0_measure : ByteArray := prog_2_method_2_code
def yX0_measure : MethodName := ⟨RX0, "measure", "(LLongerBack$Land;)V"⟩
abbrev cX0_oneWay : ByteArray := prog_2_method_3_code
def yX0_oneWay : MethodName := ⟨RX0, "oneWay", "(LLongerBack$Land;II)I"⟩
abbrev cX0_lengthOf : ByteArray := prog_2_method_4_code
def yX0_lengthOf : MethodName := ⟨RX0, "lengthOf", "(II)I"⟩
abbrev cX0_shortenOver : ByteArray := prog_2_method_5_code
def yX0_shortenOver : MethodName := ⟨RX0, "shortenOver", "(I)V"⟩
abbrev cX0_hasLoop : ByteArray := prog_2_method_6_code
def yX0_hasLoop : MethodName := ⟨RX0, "hasLoop", "()Z"⟩
abbrev cX0_loopSet : ByteArray := prog_2_method_7_code
def yX0_loopSet : MethodName := ⟨RX0, "loopSet", "()I"⟩
abbrev cX0_isBackAndForth : ByteArray := prog_2_method_8_code
def yX0_isBackAndForth : MethodName := ⟨RX0, "isBackAndForth", "(II)Z"⟩
abbrev cX0_farOf : ByteArray := prog_2_method_9_code
def yX0_farOf : MethodName := ⟨RX0, "farOf", "(II)I"⟩
abbrev cX0_waysOf : ByteArray := prog_2_method_10_code
def yX0_waysOf : MethodName := ⟨RX0, "waysOf", "(II)I"⟩
abbrev cX0_stopOf : ByteArray := prog_2_method_11_code
def yX0_stopOf : MethodName := ⟨RX0, "stopOf", "(LLongerBack$Land;III)I"⟩
abbrev cX0_nextStop : ByteArray := prog_2_method_12_code
def yX0_nextStop : MethodName := ⟨RX0, "nextStop", "(LLongerBack$Land;II)I"⟩
abbrev cX0_tripOf : ByteArray := prog_2_method_13_code
def yX0_tripOf : MethodName := ⟨RX0, "tripOf", "(LLongerBack$Land;I)I"⟩
abbrev cX0_homeOf : ByteArray := prog_2_method_14_code
def yX0_homeOf : MethodName := ⟨RX0, "homeOf", "(LLongerBack$Land;)I"⟩
abbrev cX0_leastTrip : ByteArray := prog_2_method_15_code
def yX0_leastTrip : MethodName := ⟨RX0, "leastTrip", "(LLongerBack$Land;)I"⟩
abbrev cX0_meetingOf : ByteArray := prog_2_method_16_code
def yX0_meetingOf : MethodName := ⟨RX0, "meetingOf", "(III)I"⟩
abbrev cX0_priceOf : ByteArray := prog_2_method_17_code
def yX0_priceOf : MethodName := ⟨RX0, "priceOf", "(IIII)I"⟩
abbrev cX0_mendFrom : ByteArray := prog_2_method_18_code
def yX0_mendFrom : MethodName := ⟨RX0, "mendFrom", "(LLongerBack$Atlas;LLongerBack$Land;II)Z"⟩
def RX1 : String := "LongerBack$Land"
def TX1 : u_T := fun k => match k with
  | 0 => ("LongerBack$Land", "places", "I", false)
  | 1 => ("LongerBack$Land", "errands", "[I", true)
  | 2 => ("LongerBack$Land", "low", "[I", true)
  | 3 => ("LongerBack$Land", "high", "[I", true)
  | 4 => ("LongerBack$Land", "doors", "[I", true)
  | 5 => ("LongerBack$Land", "rounds", "LLongerBack$Rows;", true)
  | 6 => ("LongerBack$Land", "kinds", "[I", true)
  | 7 => ("LongerBack$Land", "walks", "LLongerBack$Rows;", true)
  | 8 => ("LongerBack$Land", "totals", "[I", true)
  | _ => ("LongerBack$Land", "slacks", "[I", true)
def tyX1 : Nat → FieldType := fun k => match k with
  | 0 => .int
  | 1 => .array .int
  | 2 => .array .int
  | 3 => .array .int
  | 4 => .array .int
  | 5 => .object "LongerBack$Rows"
  | 6 => .array .int
  | 7 => .object "LongerBack$Rows"
  | 8 => .array .int
  | _ => .array .int
abbrev wsX10 : List Cond := u_ws RX1 TX1 10
theorem nmX1 : ∀ a, a < 10 → ∀ b, b < 10 → a ≠ b → (TX1 a).2.1 ≠ (TX1 b).2.1 := by decide +kernel
theorem tyX1_ok : ∀ k, k < 10 → parseFieldDescriptor (TX1 k).2.2.1 = some (tyX1 k) := by decide +kernel
abbrev cX1_init : ByteArray := prog_3_method_1_code
def yX1_init : MethodName := ⟨RX1, "<init>", "()V"⟩
abbrev cX1_become : ByteArray := prog_3_method_2_code
def yX1_become : MethodName := ⟨RX1, "become", "(LLongerBack$Land;)V"⟩
abbrev cX1_isPlace : ByteArray := prog_3_method_3_code
def yX1_isPlace : MethodName := ⟨RX1, "isPlace", "(J)Z"⟩
abbrev cX1_areTwo : ByteArray := prog_3_method_4_code
def yX1_areTwo : MethodName := ⟨RX1, "areTwo", "(II)Z"⟩
abbrev cX1_wayAt : ByteArray := prog_3_method_5_code
def yX1_wayAt : MethodName := ⟨RX1, "wayAt", "(II)I"⟩
abbrev cX1_isThere : ByteArray := prog_3_method_6_code
def yX1_isThere : MethodName := ⟨RX1, "isThere", "(II)Z"⟩
abbrev cX1_isOpen : ByteArray := prog_3_method_7_code
def yX1_isOpen : MethodName := ⟨RX1, "isOpen", "(II)Z"⟩
abbrev cX1_areBothWays : ByteArray := prog_3_method_8_code
def yX1_areBothWays : MethodName := ⟨RX1, "areBothWays", "(II)Z"⟩
abbrev cX1_lowOf : ByteArray := prog_3_method_9_code
def yX1_lowOf : MethodName := ⟨RX1, "lowOf", "(II)I"⟩
abbrev cX1_highOf : ByteArray := prog_3_method_10_code
def yX1_highOf : MethodName := ⟨RX1, "highOf", "(II)I"⟩
abbrev cX1_addPlace : ByteArray := prog_3_method_11_code
def yX1_addPlace : MethodName := ⟨RX1, "addPlace", "(I)I"⟩
abbrev cX1_setWay : ByteArray := prog_3_method_12_code
def yX1_setWay : MethodName := ⟨RX1, "setWay", "(IIII)V"⟩
abbrev cX1_setShut : ByteArray := prog_3_method_13_code
def yX1_setShut : MethodName := ⟨RX1, "setShut", "(IIZ)V"⟩
abbrev cX1_addRound : ByteArray := prog_3_method_14_code
def yX1_addRound : MethodName := ⟨RX1, "addRound", "(II)I"⟩
abbrev cX1_addWalk : ByteArray := prog_3_method_15_code
def yX1_addWalk : MethodName := ⟨RX1, "addWalk", "(III)I"⟩
abbrev cX1_allErrands : ByteArray := prog_3_method_16_code
def yX1_allErrands : MethodName := ⟨RX1, "allErrands", "()I"⟩
abbrev cX1_countWays : ByteArray := prog_3_method_17_code
def yX1_countWays : MethodName := ⟨RX1, "countWays", "()I"⟩
abbrev cX1_countUnknown : ByteArray := prog_3_method_18_code
def yX1_countUnknown : MethodName := ⟨RX1, "countUnknown", "()I"⟩
abbrev cX1_allBetweenEnds : ByteArray := prog_3_method_19_code
def yX1_allBetweenEnds : MethodName := ⟨RX1, "allBetweenEnds", "()I"⟩
abbrev cX1_widestWay : ByteArray := prog_3_method_20_code
def yX1_widestWay : MethodName := ⟨RX1, "widestWay", "()I"⟩
abbrev cX1_nearestOf : ByteArray := prog_3_method_21_code
def yX1_nearestOf : MethodName := ⟨RX1, "nearestOf", "(I)I"⟩
abbrev cX1_comesTo : ByteArray := prog_3_method_22_code
def yX1_comesTo : MethodName := ⟨RX1, "comesTo", "(II)I"⟩
abbrev cX1_hollowSet : ByteArray := prog_3_method_23_code
def yX1_hollowSet : MethodName := ⟨RX1, "hollowSet", "()I"⟩
def RX2 : String := "LongerBack$Learner"
def TX2 : u_T := fun k => match k with
  | 0 => ("LongerBack$Learner", "liars", "I", false)
  | _ => ("LongerBack$Learner", "isChanged", "Z", false)
def tyX2 : Nat → FieldType := fun k => match k with
  | 0 => .int
  | _ => .boolean
abbrev wsX20 : List Cond := u_ws RX2 TX2 2
theorem nmX2 : ∀ a, a < 2 → ∀ b, b < 2 → a ≠ b → (TX2 a).2.1 ≠ (TX2 b).2.1 := by decide +kernel
theorem tyX2_ok : ∀ k, k < 2 → parseFieldDescriptor (TX2 k).2.2.1 = some (tyX2 k) := by decide +kernel
abbrev cX2_init : ByteArray := prog_4_method_1_code
def yX2_init : MethodName := ⟨RX2, "<init>", "()V"⟩
abbrev cX2_learnIn : ByteArray := prog_4_method_2_code
def yX2_learnIn : MethodName := ⟨RX2, "learnIn", "(LLongerBack$Land;)I"⟩
abbrev cX2_isBelieved : ByteArray := prog_4_method_3_code
def yX2_isBelieved : MethodName := ⟨RX2, "isBelieved", "(LLongerBack$Land;I)Z"⟩
abbrev cX2_wayOn : ByteArray := prog_4_method_4_code
def yX2_wayOn : MethodName := ⟨RX2, "wayOn", "(LLongerBack$Land;II)I"⟩
abbrev cX2_narrow : ByteArray := prog_4_method_5_code
def yX2_narrow : MethodName := ⟨RX2, "narrow", "(LLongerBack$Land;II)Z"⟩
def RX3 : String := "LongerBack$Rows"
def TX3 : u_T := fun k => match k with
  | 0 => ("LongerBack$Rows", "count", "I", false)
  | 1 => ("LongerBack$Rows", "lengths", "[I", true)
  | _ => ("LongerBack$Rows", "stops", "[I", true)
def tyX3 : Nat → FieldType := fun k => match k with
  | 0 => .int
  | 1 => .array .int
  | _ => .array .int
abbrev wsX30 : List Cond := u_ws RX3 TX3 3
theorem nmX3 : ∀ a, a < 3 → ∀ b, b < 3 → a ≠ b → (TX3 a).2.1 ≠ (TX3 b).2.1 := by decide +kernel
theorem tyX3_ok : ∀ k, k < 3 → parseFieldDescriptor (TX3 k).2.2.1 = some (tyX3 k) := by decide +kernel
abbrev cX3_init : ByteArray := prog_5_method_1_code
def yX3_init : MethodName := ⟨RX3, "<init>", "()V"⟩
abbrev cX3_has : ByteArray := prog_5_method_2_code
def yX3_has : MethodName := ⟨RX3, "has", "(I)Z"⟩
abbrev cX3_isFull : ByteArray := prog_5_method_3_code
def yX3_isFull : MethodName := ⟨RX3, "isFull", "()Z"⟩
abbrev cX3_isFullRow : ByteArray := prog_5_method_4_code
def yX3_isFullRow : MethodName := ⟨RX3, "isFullRow", "(I)Z"⟩
abbrev cX3_begin : ByteArray := prog_5_method_5_code
def yX3_begin : MethodName := ⟨RX3, "begin", "(I)I"⟩
abbrev cX3_append : ByteArray := prog_5_method_6_code
def yX3_append : MethodName := ⟨RX3, "append", "(II)I"⟩
abbrev cX3_stop : ByteArray := prog_5_method_7_code
def yX3_stop : MethodName := ⟨RX3, "stop", "(II)I"⟩
abbrev cX3_lastStop : ByteArray := prog_5_method_8_code
def yX3_lastStop : MethodName := ⟨RX3, "lastStop", "(I)I"⟩
abbrev cX3_become : ByteArray := prog_5_method_9_code
def yX3_become : MethodName := ⟨RX3, "become", "(LLongerBack$Rows;)V"⟩
def RX4 : String := "LongerBack$Sheet"
def TX4 : u_T := fun k => match k with
  | 0 => ("LongerBack$Sheet", "bits", "I", false)
  | 1 => ("LongerBack$Sheet", "size", "I", false)
  | _ => ("LongerBack$Sheet", "numbers", "[J", true)
def tyX4 : Nat → FieldType := fun k => match k with
  | 0 => .int
  | 1 => .int
  | _ => .array .long
abbrev wsX40 : List Cond := u_ws RX4 TX4 3
theorem nmX4 : ∀ a, a < 3 → ∀ b, b < 3 → a ≠ b → (TX4 a).2.1 ≠ (TX4 b).2.1 := by decide +kernel
theorem tyX4_ok : ∀ k, k < 3 → parseFieldDescriptor (TX4 k).2.2.1 = some (tyX4 k) := by decide +kernel
abbrev cX4_init : ByteArray := prog_6_method_1_code
def yX4_init : MethodName := ⟨RX4, "<init>", "()V"⟩
abbrev cX4_isMissing : ByteArray := prog_6_method_2_code
def yX4_isMissing : MethodName := ⟨RX4, "isMissing", "()Z"⟩
abbrev cX4_begin : ByteArray := prog_6_method_3_code
def yX4_begin : MethodName := ⟨RX4, "begin", "(II)V"⟩
abbrev cX4_lowestBits : ByteArray := prog_6_method_4_code
def yX4_lowestBits : MethodName := ⟨RX4, "lowestBits", "(J)J"⟩
abbrev cX4_hasSpan : ByteArray := prog_6_method_5_code
def yX4_hasSpan : MethodName := ⟨RX4, "hasSpan", "(II)Z"⟩
def RX5 : String := "LongerBack$Slopes"
def TX5 : u_T := fun k => match k with
  | 0 => ("LongerBack$Slopes", "heights", "[I", true)
  | 1 => ("LongerBack$Slopes", "isClimbed", "[Z", true)
  | _ => ("LongerBack$Slopes", "queue", "[I", true)
def tyX5 : Nat → FieldType := fun k => match k with
  | 0 => .array .int
  | 1 => .array .boolean
  | _ => .array .int
abbrev wsX50 : List Cond := u_ws RX5 TX5 3
theorem nmX5 : ∀ a, a < 3 → ∀ b, b < 3 → a ≠ b → (TX5 a).2.1 ≠ (TX5 b).2.1 := by decide +kernel
theorem tyX5_ok : ∀ k, k < 3 → parseFieldDescriptor (TX5 k).2.2.1 = some (tyX5 k) := by decide +kernel
abbrev cX5_init : ByteArray := prog_7_method_1_code
def yX5_init : MethodName := ⟨RX5, "<init>", "()V"⟩
abbrev cX5_climb : ByteArray := prog_7_method_2_code
def yX5_climb : MethodName := ⟨RX5, "climb", "(LLongerBack$Land;)V"⟩
abbrev cX5_climbFrom : ByteArray := prog_7_method_3_code
def yX5_climbFrom : MethodName := ⟨RX5, "climbFrom", "(LLongerBack$Land;I)V"⟩
abbrev cX5_doFit : ByteArray := prog_7_method_4_code
def yX5_doFit : MethodName := ⟨RX5, "doFit", "(LLongerBack$Land;)Z"⟩
abbrev cX5_riseOf : ByteArray := prog_7_method_5_code
def yX5_riseOf : MethodName := ⟨RX5, "riseOf", "(LLongerBack$Land;II)I"⟩
abbrev cX5_paperOf : ByteArray := prog_7_method_6_code
def yX5_paperOf : MethodName := ⟨RX5, "paperOf", "(LLongerBack$Land;II)I"⟩
abbrev cX5_mostOffPaper : ByteArray := prog_7_method_7_code
def yX5_mostOffPaper : MethodName := ⟨RX5, "mostOffPaper", "(LLongerBack$Land;)I"⟩
def RX6 : String := "LongerBack$Sums"
def TX6 : u_T := fun k => match k with
  | _ => ("LongerBack$Sums", "least", "[I", true)
def tyX6 : Nat → FieldType := fun k => match k with
  | _ => .array .int
abbrev wsX60 : List Cond := u_ws RX6 TX6 1
theorem nmX6 : ∀ a, a < 1 → ∀ b, b < 1 → a ≠ b → (TX6 a).2.1 ≠ (TX6 b).2.1 := by decide +kernel
theorem tyX6_ok : ∀ k, k < 1 → parseFieldDescriptor (TX6 k).2.2.1 = some (tyX6 k) := by decide +kernel
abbrev cX6_init : ByteArray := prog_8_method_1_code
def yX6_init : MethodName := ⟨RX6, "<init>", "()V"⟩
abbrev cX6_sumOf : ByteArray := prog_8_method_2_code
def yX6_sumOf : MethodName := ⟨RX6, "sumOf", "(LLongerBack$Land;LLongerBack$Atlas;I)I"⟩
abbrev cX6_stopBehind : ByteArray := prog_8_method_3_code
def yX6_stopBehind : MethodName := ⟨RX6, "stopBehind", "(LLongerBack$Rows;II)I"⟩
abbrev cX6_roundSum : ByteArray := prog_8_method_4_code
def yX6_roundSum : MethodName := ⟨RX6, "roundSum", "(LLongerBack$Rows;LLongerBack$Atlas;I)I"⟩
abbrev cX6_toldSum : ByteArray := prog_8_method_5_code
def yX6_toldSum : MethodName := ⟨RX6, "toldSum", "(LLongerBack$Land;IZ)I"⟩
abbrev cX6_toldWay : ByteArray := prog_8_method_6_code
def yX6_toldWay : MethodName := ⟨RX6, "toldWay", "(LLongerBack$Land;II)I"⟩
abbrev cX6_meetSum : ByteArray := prog_8_method_7_code
def yX6_meetSum : MethodName := ⟨RX6, "meetSum", "(LLongerBack$Land;LLongerBack$Atlas;I)I"⟩
abbrev cX6_pairsSum : ByteArray := prog_8_method_8_code
def yX6_pairsSum : MethodName := ⟨RX6, "pairsSum", "(LLongerBack$Rows;LLongerBack$Atlas;I)I"⟩
abbrev cX6_bestSum : ByteArray := prog_8_method_9_code
def yX6_bestSum : MethodName := ⟨RX6, "bestSum", "(LLongerBack$Rows;LLongerBack$Atlas;IZ)I"⟩
abbrev cX6_orderStops : ByteArray := prog_8_method_10_code
def yX6_orderStops : MethodName := ⟨RX6, "orderStops", "(LLongerBack$Rows;LLongerBack$Atlas;I)V"⟩
abbrev cX6_goOnFrom : ByteArray := prog_8_method_11_code
def yX6_goOnFrom : MethodName := ⟨RX6, "goOnFrom", "(LLongerBack$Rows;LLongerBack$Atlas;III)V"⟩
def RX7 : String := "LongerBack$Text"
def TX7 : u_T := fun k => match k with
  | 0 => ("LongerBack$Text", "size", "I", false)
  | 1 => ("LongerBack$Text", "bytes", "[I", true)
  | 2 => ("LongerBack$Text", "token", "I", false)
  | 3 => ("LongerBack$Text", "start", "I", false)
  | 4 => ("LongerBack$Text", "next", "I", false)
  | 5 => ("LongerBack$Text", "value", "I", false)
  | _ => ("LongerBack$Text", "taken", "I", false)
def tyX7 : Nat → FieldType := fun k => match k with
  | 0 => .int
  | 1 => .array .int
  | 2 => .int
  | 3 => .int
  | 4 => .int
  | 5 => .int
  | _ => .int
abbrev wsX70 : List Cond := u_ws RX7 TX7 7
theorem nmX7 : ∀ a, a < 7 → ∀ b, b < 7 → a ≠ b → (TX7 a).2.1 ≠ (TX7 b).2.1 := by decide +kernel
theorem tyX7_ok : ∀ k, k < 7 → parseFieldDescriptor (TX7 k).2.2.1 = some (tyX7 k) := by decide +kernel
abbrev cX7_init : ByteArray := prog_9_method_1_code
def yX7_init : MethodName := ⟨RX7, "<init>", "()V"⟩
abbrev cX7_addByte : ByteArray := prog_9_method_2_code
def yX7_addByte : MethodName := ⟨RX7, "addByte", "(I)V"⟩
abbrev cX7_tellTo : ByteArray := prog_9_method_3_code
def yX7_tellTo : MethodName := ⟨RX7, "tellTo", "(LLongerBack$Land;)I"⟩
abbrev cX7_takeItem : ByteArray := prog_9_method_4_code
def yX7_takeItem : MethodName := ⟨RX7, "takeItem", "(LLongerBack$Land;)Z"⟩
abbrev cX7_takePlace : ByteArray := prog_9_method_5_code
def yX7_takePlace : MethodName := ⟨RX7, "takePlace", "(LLongerBack$Land;)Z"⟩
abbrev cX7_takeWay : ByteArray := prog_9_method_6_code
def yX7_takeWay : MethodName := ⟨RX7, "takeWay", "(LLongerBack$Land;)Z"⟩
abbrev cX7_takeWayBack : ByteArray := prog_9_method_7_code
def yX7_takeWayBack : MethodName := ⟨RX7, "takeWayBack", "(LLongerBack$Land;II)Z"⟩
abbrev cX7_takeWalk : ByteArray := prog_9_method_8_code
def yX7_takeWalk : MethodName := ⟨RX7, "takeWalk", "(LLongerBack$Land;)Z"⟩
abbrev cX7_takeSlack : ByteArray := prog_9_method_9_code
def yX7_takeSlack : MethodName := ⟨RX7, "takeSlack", "(LLongerBack$Land;I)Z"⟩
abbrev cX7_takeWord : ByteArray := prog_9_method_10_code
def yX7_takeWord : MethodName := ⟨RX7, "takeWord", "(Ljava/lang/String;)Z"⟩
abbrev cX7_takeNumber : ByteArray := prog_9_method_11_code
def yX7_takeNumber : MethodName := ⟨RX7, "takeNumber", "(I)Z"⟩
abbrev cX7_takeMile : ByteArray := prog_9_method_12_code
def yX7_takeMile : MethodName := ⟨RX7, "takeMile", "(II)Z"⟩
abbrev cX7_isWord : ByteArray := prog_9_method_13_code
def yX7_isWord : MethodName := ⟨RX7, "isWord", "(Ljava/lang/String;)Z"⟩
abbrev cX7_step : ByteArray := prog_9_method_14_code
def yX7_step : MethodName := ⟨RX7, "step", "()V"⟩
abbrev cX7_kindAt : ByteArray := prog_9_method_15_code
def yX7_kindAt : MethodName := ⟨RX7, "kindAt", "(I)I"⟩
def RX8 : String := "LongerBack"
def TX8 : u_T := fun k => match k with
  | 0 => ("LongerBack", "here", "LLongerBack$Land;", true)
  | 1 => ("LongerBack", "kept", "LLongerBack$Land;", true)
  | 2 => ("LongerBack", "draft", "LLongerBack$Land;", true)
  | 3 => ("LongerBack", "isKept", "Z", false)
  | 4 => ("LongerBack", "atlas", "LLongerBack$Atlas;", true)
  | 5 => ("LongerBack", "mended", "LLongerBack$Atlas;", true)
  | 6 => ("LongerBack", "sums", "LLongerBack$Sums;", true)
  | 7 => ("LongerBack", "slopes", "LLongerBack$Slopes;", true)
  | 8 => ("LongerBack", "learner", "LLongerBack$Learner;", true)
  | 9 => ("LongerBack", "text", "LLongerBack$Text;", true)
  | 10 => ("LongerBack", "sheets", "[LLongerBack$Sheet;", true)
  | _ => ("LongerBack", "found", "[I", true)
def tyX8 : Nat → FieldType := fun k => match k with
  | 0 => .object "LongerBack$Land"
  | 1 => .object "LongerBack$Land"
  | 2 => .object "LongerBack$Land"
  | 3 => .boolean
  | 4 => .object "LongerBack$Atlas"
  | 5 => .object "LongerBack$Atlas"
  | 6 => .object "LongerBack$Sums"
  | 7 => .object "LongerBack$Slopes"
  | 8 => .object "LongerBack$Learner"
  | 9 => .object "LongerBack$Text"
  | 10 => .array (.object "LongerBack$Sheet")
  | _ => .array .int
abbrev wsX80 : List Cond := u_ws RX8 TX8 12
theorem nmX8 : ∀ a, a < 12 → ∀ b, b < 12 → a ≠ b → (TX8 a).2.1 ≠ (TX8 b).2.1 := by decide +kernel
theorem tyX8_ok : ∀ k, k < 12 → parseFieldDescriptor (TX8 k).2.2.1 = some (tyX8 k) := by decide +kernel
abbrev cX8_init : ByteArray := prog_1_method_1_code
def yX8_init : MethodName := ⟨RX8, "<init>", "()V"⟩
abbrev cX8_place : ByteArray := prog_1_method_2_code
def yX8_place : MethodName := ⟨RX8, "place", "()I"⟩
abbrev cX8_errands : ByteArray := prog_1_method_3_code
def yX8_errands : MethodName := ⟨RX8, "errands", "(II)I"⟩
abbrev cX8_way : ByteArray := prog_1_method_4_code
def yX8_way : MethodName := ⟨RX8, "way", "(IIII)I"⟩
abbrev cX8_wayOf : ByteArray := prog_1_method_5_code
def yX8_wayOf : MethodName := ⟨RX8, "wayOf", "(III)I"⟩
abbrev cX8_shut : ByteArray := prog_1_method_6_code
def yX8_shut : MethodName := ⟨RX8, "shut", "(IIZ)I"⟩
abbrev cX8_far : ByteArray := prog_1_method_7_code
def yX8_far : MethodName := ⟨RX8, "far", "(II)I"⟩
abbrev cX8_by : ByteArray := prog_1_method_8_code
def yX8_by : MethodName := ⟨RX8, "by", "(III)I"⟩
abbrev cX8_loops : ByteArray := prog_1_method_9_code
def yX8_loops : MethodName := ⟨RX8, "loops", "()I"⟩
abbrev cX8_longer : ByteArray := prog_1_method_10_code
def yX8_longer : MethodName := ⟨RX8, "longer", "(II)I"⟩
abbrev cX8_round : ByteArray := prog_1_method_11_code
def yX8_round : MethodName := ⟨RX8, "round", "(II)I"⟩
abbrev cX8_over : ByteArray := prog_1_method_12_code
def yX8_over : MethodName := ⟨RX8, "over", "(II)I"⟩
abbrev cX8_sum : ByteArray := prog_1_method_13_code
def yX8_sum : MethodName := ⟨RX8, "sum", "(I)I"⟩
abbrev cX8_roundOf : ByteArray := prog_1_method_14_code
def yX8_roundOf : MethodName := ⟨RX8, "roundOf", "(II)I"⟩
abbrev cX8_as : ByteArray := prog_1_method_15_code
def yX8_as : MethodName := ⟨RX8, "as", "(II)I"⟩
abbrev cX8_live : ByteArray := prog_1_method_16_code
def yX8_live : MethodName := ⟨RX8, "live", "()I"⟩
abbrev cX8_trip : ByteArray := prog_1_method_17_code
def yX8_trip : MethodName := ⟨RX8, "trip", "(I)I"⟩
abbrev cX8_meet : ByteArray := prog_1_method_18_code
def yX8_meet : MethodName := ⟨RX8, "meet", "(III)I"⟩
abbrev cX8_fit : ByteArray := prog_1_method_19_code
def yX8_fit : MethodName := ⟨RX8, "fit", "()I"⟩
abbrev cX8_height : ByteArray := prog_1_method_20_code
def yX8_height : MethodName := ⟨RX8, "height", "(I)I"⟩
abbrev cX8_paper : ByteArray := prog_1_method_21_code
def yX8_paper : MethodName := ⟨RX8, "paper", "(II)I"⟩
abbrev cX8_worst : ByteArray := prog_1_method_22_code
def yX8_worst : MethodName := ⟨RX8, "worst", "()I"⟩
abbrev cX8_walk : ByteArray := prog_1_method_23_code
def yX8_walk : MethodName := ⟨RX8, "walk", "(IIII)I"⟩
abbrev cX8_on : ByteArray := prog_1_method_24_code
def yX8_on : MethodName := ⟨RX8, "on", "(II)I"⟩
abbrev cX8_learn : ByteArray := prog_1_method_25_code
def yX8_learn : MethodName := ⟨RX8, "learn", "()I"⟩
abbrev cX8_lies : ByteArray := prog_1_method_26_code
def yX8_lies : MethodName := ⟨RX8, "lies", "()I"⟩
abbrev cX8_known : ByteArray := prog_1_method_27_code
def yX8_known : MethodName := ⟨RX8, "known", "(I)I"⟩
abbrev cX8_ask : ByteArray := prog_1_method_28_code
def yX8_ask : MethodName := ⟨RX8, "ask", "()I"⟩
abbrev cX8_saves : ByteArray := prog_1_method_29_code
def yX8_saves : MethodName := ⟨RX8, "saves", "(II)I"⟩
abbrev cX8_mend : ByteArray := prog_1_method_30_code
def yX8_mend : MethodName := ⟨RX8, "mend", "()I"⟩
abbrev cX8_goes : ByteArray := prog_1_method_31_code
def yX8_goes : MethodName := ⟨RX8, "goes", "(II)I"⟩
abbrev cX8_hollow : ByteArray := prog_1_method_32_code
def yX8_hollow : MethodName := ⟨RX8, "hollow", "()I"⟩
abbrev cX8_feed : ByteArray := prog_1_method_33_code
def yX8_feed : MethodName := ⟨RX8, "feed", "(II)I"⟩
abbrev cX8_wipe : ByteArray := prog_1_method_34_code
def yX8_wipe : MethodName := ⟨RX8, "wipe", "()I"⟩
abbrev cX8_land : ByteArray := prog_1_method_35_code
def yX8_land : MethodName := ⟨RX8, "land", "()I"⟩
abbrev cX8_sheet : ByteArray := prog_1_method_36_code
def yX8_sheet : MethodName := ⟨RX8, "sheet", "(III)I"⟩
abbrev cX8_write : ByteArray := prog_1_method_37_code
def yX8_write : MethodName := ⟨RX8, "write", "(IIJ)J"⟩
abbrev cX8_copy : ByteArray := prog_1_method_38_code
def yX8_copy : MethodName := ⟨RX8, "copy", "(IIIII)I"⟩
abbrev cX8_lays : ByteArray := prog_1_method_39_code
def yX8_lays : MethodName := ⟨RX8, "lays", "(II)I"⟩
abbrev cX8_read : ByteArray := prog_1_method_40_code
def yX8_read : MethodName := ⟨RX8, "read", "(I)I"⟩
abbrev cX8_image : ByteArray := prog_1_method_41_code
def yX8_image : MethodName := ⟨RX8, "image", "()I"⟩
abbrev cX8_undo : ByteArray := prog_1_method_42_code
def yX8_undo : MethodName := ⟨RX8, "undo", "()I"⟩
abbrev cX8_tear : ByteArray := prog_1_method_43_code
def yX8_tear : MethodName := ⟨RX8, "tear", "()I"⟩
abbrev cX8_count : ByteArray := prog_1_method_44_code
def yX8_count : MethodName := ⟨RX8, "count", "(I)I"⟩
abbrev cX8_status : ByteArray := prog_1_method_45_code
def yX8_status : MethodName := ⟨RX8, "status", "(I)I"⟩
abbrev cX8_finding : ByteArray := prog_1_method_46_code
def yX8_finding : MethodName := ⟨RX8, "finding", "(I)I"⟩
abbrev cX8_lengthOrNone : ByteArray := prog_1_method_47_code
def yX8_lengthOrNone : MethodName := ⟨RX8, "lengthOrNone", "(I)I"⟩
abbrev cX8_isLooped : ByteArray := prog_1_method_48_code
def yX8_isLooped : MethodName := ⟨RX8, "isLooped", "()Z"⟩
abbrev cX8_bestToMend : ByteArray := prog_1_method_49_code
def yX8_bestToMend : MethodName := ⟨RX8, "bestToMend", "(I)I"⟩
abbrev cX8_layWays : ByteArray := prog_1_method_50_code
def yX8_layWays : MethodName := ⟨RX8, "layWays", "(LLongerBack$Sheet;I)I"⟩
abbrev cX8_readRow : ByteArray := prog_1_method_51_code
def yX8_readRow : MethodName := ⟨RX8, "readRow", "(LLongerBack$Sheet;)I"⟩
abbrev cX8_isSheet : ByteArray := prog_1_method_52_code
def yX8_isSheet : MethodName := ⟨RX8, "isSheet", "(I)Z"⟩
abbrev cX8_isKind : ByteArray := prog_1_method_53_code
def yX8_isKind : MethodName := ⟨RX8, "isKind", "(I)Z"⟩
abbrev cX8_isUnder : ByteArray := prog_1_method_54_code
def yX8_isUnder : MethodName := ⟨RX8, "isUnder", "(II)Z"⟩
abbrev cX8_isWithin : ByteArray := prog_1_method_55_code
def yX8_isWithin : MethodName := ⟨RX8, "isWithin", "(III)Z"⟩
abbrev cX8_areEnds : ByteArray := prog_1_method_56_code
def yX8_areEnds : MethodName := ⟨RX8, "areEnds", "(II)Z"⟩
abbrev cX8_together : ByteArray := prog_1_method_57_code
def yX8_together : MethodName := ⟨RX8, "together", "(II)I"⟩
def RX9 : String := "LongerBackModel"
def TX9 : u_T := fun k => match k with
  | 0 => ("LongerBackModel", "s", "[I", true)
  | 1 => ("LongerBackModel", "keptS", "[I", true)
  | 2 => ("LongerBackModel", "other", "[I", true)
  | 3 => ("LongerBackModel", "statuses", "[I", true)
  | 4 => ("LongerBackModel", "isKept", "Z", false)
  | 5 => ("LongerBackModel", "far", "[I", true)
  | 6 => ("LongerBackModel", "few", "[I", true)
  | 7 => ("LongerBackModel", "isLooped", "Z", false)
  | 8 => ("LongerBackModel", "sumOf", "I", false)
  | 9 => ("LongerBackModel", "least", "I", false)
  | 10 => ("LongerBackModel", "row", "[I", true)
  | 11 => ("LongerBackModel", "height", "[I", true)
  | 12 => ("LongerBackModel", "group", "[I", true)
  | 13 => ("LongerBackModel", "isFit", "Z", false)
  | 14 => ("LongerBackModel", "changes", "Z", false)
  | 15 => ("LongerBackModel", "lying", "I", false)
  | 16 => ("LongerBackModel", "tape", "[I", true)
  | 17 => ("LongerBackModel", "taped", "I", false)
  | 18 => ("LongerBackModel", "from", "I", false)
  | 19 => ("LongerBackModel", "to", "I", false)
  | 20 => ("LongerBackModel", "value", "I", false)
  | 21 => ("LongerBackModel", "isWrong", "Z", false)
  | 22 => ("LongerBackModel", "walked", "[I", true)
  | 23 => ("LongerBackModel", "bitsOf", "[I", true)
  | 24 => ("LongerBackModel", "sizeOf", "[I", true)
  | 25 => ("LongerBackModel", "number", "[J", true)
  | _ => ("LongerBackModel", "moved", "[J", true)
def tyX9 : Nat → FieldType := fun k => match k with
  | 0 => .array .int
  | 1 => .array .int
  | 2 => .array .int
  | 3 => .array .int
  | 4 => .boolean
  | 5 => .array .int
  | 6 => .array .int
  | 7 => .boolean
  | 8 => .int
  | 9 => .int
  | 10 => .array .int
  | 11 => .array .int
  | 12 => .array .int
  | 13 => .boolean
  | 14 => .boolean
  | 15 => .int
  | 16 => .array .int
  | 17 => .int
  | 18 => .int
  | 19 => .int
  | 20 => .int
  | 21 => .boolean
  | 22 => .array .int
  | 23 => .array .int
  | 24 => .array .int
  | 25 => .array .long
  | _ => .array .long
abbrev wsX90 : List Cond := u_ws RX9 TX9 27
theorem nmX9 : ∀ a, a < 27 → ∀ b, b < 27 → a ≠ b → (TX9 a).2.1 ≠ (TX9 b).2.1 := by decide +kernel
theorem tyX9_ok : ∀ k, k < 27 → parseFieldDescriptor (TX9 k).2.2.1 = some (tyX9 k) := by decide +kernel
abbrev cX9_init : ByteArray := prog_11_method_1_code
def yX9_init : MethodName := ⟨RX9, "<init>", "()V"⟩
abbrev cX9_in : ByteArray := prog_11_method_2_code
def yX9_in : MethodName := ⟨RX9, "in", "(JJJ)Z"⟩
abbrev cX9_finds : ByteArray := prog_11_method_3_code
def yX9_finds : MethodName := ⟨RX9, "finds", "(I)I"⟩
abbrev cX9_isPlace : ByteArray := prog_11_method_4_code
def yX9_isPlace : MethodName := ⟨RX9, "isPlace", "(I)Z"⟩
abbrev cX9_areTwo : ByteArray := prog_11_method_5_code
def yX9_areTwo : MethodName := ⟨RX9, "areTwo", "(II)Z"⟩
abbrev cX9_isOpen : ByteArray := prog_11_method_6_code
def yX9_isOpen : MethodName := ⟨RX9, "isOpen", "(II)Z"⟩
abbrev cX9_isWay : ByteArray := prog_11_method_7_code
def yX9_isWay : MethodName := ⟨RX9, "isWay", "(II)Z"⟩
abbrev cX9_miles : ByteArray := prog_11_method_8_code
def yX9_miles : MethodName := ⟨RX9, "miles", "(II)I"⟩
abbrev cX9_areEnds : ByteArray := prog_11_method_9_code
def yX9_areEnds : MethodName := ⟨RX9, "areEnds", "(II)Z"⟩
abbrev cX9_newPlace : ByteArray := prog_11_method_10_code
def yX9_newPlace : MethodName := ⟨RX9, "newPlace", "()I"⟩
abbrev cX9_place : ByteArray := prog_11_method_11_code
def yX9_place : MethodName := ⟨RX9, "place", "()I"⟩
abbrev cX9_errands : ByteArray := prog_11_method_12_code
def yX9_errands : MethodName := ⟨RX9, "errands", "(II)I"⟩
abbrev cX9_makes : ByteArray := prog_11_method_13_code
def yX9_makes : MethodName := ⟨RX9, "makes", "(IIII)I"⟩
abbrev cX9_way : ByteArray := prog_11_method_14_code
def yX9_way : MethodName := ⟨RX9, "way", "(IIII)I"⟩
abbrev cX9_wayOf : ByteArray := prog_11_method_15_code
def yX9_wayOf : MethodName := ⟨RX9, "wayOf", "(III)I"⟩
abbrev cX9_shut : ByteArray := prog_11_method_16_code
def yX9_shut : MethodName := ⟨RX9, "shut", "(IIZ)I"⟩
abbrev cX9_findFar : ByteArray := prog_11_method_17_code
def yX9_findFar : MethodName := ⟨RX9, "findFar", "()V"⟩
abbrev cX9_joins : ByteArray := prog_11_method_18_code
def yX9_joins : MethodName := ⟨RX9, "joins", "(III)V"⟩
abbrev cX9_far : ByteArray := prog_11_method_19_code
def yX9_far : MethodName := ⟨RX9, "far", "(II)I"⟩
abbrev cX9_by : ByteArray := prog_11_method_20_code
def yX9_by : MethodName := ⟨RX9, "by", "(III)I"⟩
abbrev cX9_loops : ByteArray := prog_11_method_21_code
def yX9_loops : MethodName := ⟨RX9, "loops", "()I"⟩
abbrev cX9_longer : ByteArray := prog_11_method_22_code
def yX9_longer : MethodName := ⟨RX9, "longer", "(II)I"⟩
abbrev cX9_of : ByteArray := prog_11_method_23_code
def yX9_of : MethodName := ⟨RX9, "of", "(II)I"⟩
abbrev cX9_isRound : ByteArray := prog_11_method_24_code
def yX9_isRound : MethodName := ⟨RX9, "isRound", "(I)Z"⟩
abbrev cX9_round : ByteArray := prog_11_method_25_code
def yX9_round : MethodName := ⟨RX9, "round", "(II)I"⟩
abbrev cX9_over : ByteArray := prog_11_method_26_code
def yX9_over : MethodName := ⟨RX9, "over", "(II)I"⟩
abbrev cX9_adds : ByteArray := prog_11_method_27_code
def yX9_adds : MethodName := ⟨RX9, "adds", "(I)V"⟩
abbrev cX9_told : ByteArray := prog_11_method_28_code
def yX9_told : MethodName := ⟨RX9, "told", "(II)I"⟩
abbrev cX9_offers : ByteArray := prog_11_method_29_code
def yX9_offers : MethodName := ⟨RX9, "offers", "(IZ)V"⟩
abbrev cX9_orders : ByteArray := prog_11_method_30_code
def yX9_orders : MethodName := ⟨RX9, "orders", "(IZ)V"⟩
abbrev cX9_meets : ByteArray := prog_11_method_31_code
def yX9_meets : MethodName := ⟨RX9, "meets", "(II)V"⟩
abbrev cX9_comesTo : ByteArray := prog_11_method_32_code
def yX9_comesTo : MethodName := ⟨RX9, "comesTo", "(I)I"⟩
abbrev cX9_pairs : ByteArray := prog_11_method_33_code
def yX9_pairs : MethodName := ⟨RX9, "pairs", "(III)V"⟩
abbrev cX9_closes : ByteArray := prog_11_method_34_code
def yX9_closes : MethodName := ⟨RX9, "closes", "(III)V"⟩
abbrev cX9_sum : ByteArray := prog_11_method_35_code
def yX9_sum : MethodName := ⟨RX9, "sum", "(I)I"⟩
abbrev cX9_roundOf : ByteArray := prog_11_method_36_code
def yX9_roundOf : MethodName := ⟨RX9, "roundOf", "(II)I"⟩
abbrev cX9_as : ByteArray := prog_11_method_37_code
def yX9_as : MethodName := ⟨RX9, "as", "(II)I"⟩
abbrev cX9_tripOf : ByteArray := prog_11_method_38_code
def yX9_tripOf : MethodName := ⟨RX9, "tripOf", "(I)I"⟩
abbrev cX9_home : ByteArray := prog_11_method_39_code
def yX9_home : MethodName := ⟨RX9, "home", "()I"⟩
abbrev cX9_live : ByteArray := prog_11_method_40_code
def yX9_live : MethodName := ⟨RX9, "live", "()I"⟩
abbrev cX9_trip : ByteArray := prog_11_method_41_code
def yX9_trip : MethodName := ⟨RX9, "trip", "(I)I"⟩
abbrev cX9_meeting : ByteArray := prog_11_method_42_code
def yX9_meeting : MethodName := ⟨RX9, "meeting", "(IIII)I"⟩
abbrev cX9_meet : ByteArray := prog_11_method_43_code
def yX9_meet : MethodName := ⟨RX9, "meet", "(III)I"⟩
abbrev cX9_areBoth : ByteArray := prog_11_method_44_code
def yX9_areBoth : MethodName := ⟨RX9, "areBoth", "(II)Z"⟩
abbrev cX9_findHeights : ByteArray := prog_11_method_45_code
def yX9_findHeights : MethodName := ⟨RX9, "findHeights", "()V"⟩
abbrev cX9_spreads : ByteArray := prog_11_method_46_code
def yX9_spreads : MethodName := ⟨RX9, "spreads", "(I)V"⟩
abbrev cX9_fit : ByteArray := prog_11_method_47_code
def yX9_fit : MethodName := ⟨RX9, "fit", "()I"⟩
abbrev cX9_height : ByteArray := prog_11_method_48_code
def yX9_height : MethodName := ⟨RX9, "height", "(I)I"⟩
abbrev cX9_paper : ByteArray := prog_11_method_49_code
def yX9_paper : MethodName := ⟨RX9, "paper", "(II)I"⟩
abbrev cX9_worst : ByteArray := prog_11_method_50_code
def yX9_worst : MethodName := ⟨RX9, "worst", "()I"⟩
abbrev cX9_isTotal : ByteArray := prog_11_method_51_code
def yX9_isTotal : MethodName := ⟨RX9, "isTotal", "(I)Z"⟩
abbrev cX9_newWalk : ByteArray := prog_11_method_52_code
def yX9_newWalk : MethodName := ⟨RX9, "newWalk", "(IIII)I"⟩
abbrev cX9_walk : ByteArray := prog_11_method_53_code
def yX9_walk : MethodName := ⟨RX9, "walk", "(IIII)I"⟩
abbrev cX9_on : ByteArray := prog_11_method_54_code
def yX9_on : MethodName := ⟨RX9, "on", "(II)I"⟩
abbrev cX9_wayAt : ByteArray := prog_11_method_55_code
def yX9_wayAt : MethodName := ⟨RX9, "wayAt", "(II)I"⟩
abbrev cX9_isWalked : ByteArray := prog_11_method_56_code
def yX9_isWalked : MethodName := ⟨RX9, "isWalked", "(I)Z"⟩
abbrev cX9_learns : ByteArray := prog_11_method_57_code
def yX9_learns : MethodName := ⟨RX9, "learns", "(I)Z"⟩
abbrev cX9_learning : ByteArray := prog_11_method_58_code
def yX9_learning : MethodName := ⟨RX9, "learning", "()I"⟩
abbrev cX9_learn : ByteArray := prog_11_method_59_code
def yX9_learn : MethodName := ⟨RX9, "learn", "()I"⟩
abbrev cX9_puts : ByteArray := prog_11_method_60_code
def yX9_puts : MethodName := ⟨RX9, "puts", "()V"⟩
abbrev cX9_putsBack : ByteArray := prog_11_method_61_code
def yX9_putsBack : MethodName := ⟨RX9, "putsBack", "()V"⟩
abbrev cX9_lies : ByteArray := prog_11_method_62_code
def yX9_lies : MethodName := ⟨RX9, "lies", "()I"⟩
abbrev cX9_between : ByteArray := prog_11_method_63_code
def yX9_between : MethodName := ⟨RX9, "between", "(I)I"⟩
abbrev cX9_known : ByteArray := prog_11_method_64_code
def yX9_known : MethodName := ⟨RX9, "known", "(I)I"⟩
abbrev cX9_ask : ByteArray := prog_11_method_65_code
def yX9_ask : MethodName := ⟨RX9, "ask", "()I"⟩
abbrev cX9_tripOfHome : ByteArray := prog_11_method_66_code
def yX9_tripOfHome : MethodName := ⟨RX9, "tripOfHome", "()I"⟩
abbrev cX9_saving : ByteArray := prog_11_method_67_code
def yX9_saving : MethodName := ⟨RX9, "saving", "(III)I"⟩
abbrev cX9_saves : ByteArray := prog_11_method_68_code
def yX9_saves : MethodName := ⟨RX9, "saves", "(II)I"⟩
abbrev cX9_mend : ByteArray := prog_11_method_69_code
def yX9_mend : MethodName := ⟨RX9, "mend", "()I"⟩
abbrev cX9_nearest : ByteArray := prog_11_method_70_code
def yX9_nearest : MethodName := ⟨RX9, "nearest", "(I)I"⟩
abbrev cX9_goes : ByteArray := prog_11_method_71_code
def yX9_goes : MethodName := ⟨RX9, "goes", "(II)I"⟩
abbrev cX9_hollow : ByteArray := prog_11_method_72_code
def yX9_hollow : MethodName := ⟨RX9, "hollow", "()I"⟩
abbrev cX9_feed : ByteArray := prog_11_method_73_code
def yX9_feed : MethodName := ⟨RX9, "feed", "(II)I"⟩
abbrev cX9_wipe : ByteArray := prog_11_method_74_code
def yX9_wipe : MethodName := ⟨RX9, "wipe", "()I"⟩
abbrev cX9_byteAt : ByteArray := prog_11_method_75_code
def yX9_byteAt : MethodName := ⟨RX9, "byteAt", "(I)I"⟩
abbrev cX9_isLetter : ByteArray := prog_11_method_76_code
def yX9_isLetter : MethodName := ⟨RX9, "isLetter", "(I)Z"⟩
abbrev cX9_isDigit : ByteArray := prog_11_method_77_code
def yX9_isDigit : MethodName := ⟨RX9, "isDigit", "(I)Z"⟩
abbrev cX9_next : ByteArray := prog_11_method_78_code
def yX9_next : MethodName := ⟨RX9, "next", "()V"⟩
abbrev cX9_needs : ByteArray := prog_11_method_79_code
def yX9_needs : MethodName := ⟨RX9, "needs", "(Z)V"⟩
abbrev cX9_isAt : ByteArray := prog_11_method_80_code
def yX9_isAt : MethodName := ⟨RX9, "isAt", "(II)Z"⟩
abbrev cX9_isWord : ByteArray := prog_11_method_81_code
def yX9_isWord : MethodName := ⟨RX9, "isWord", "(IIIIIII)Z"⟩
abbrev cX9_number : ByteArray := prog_11_method_82_code
def yX9_number : MethodName := ⟨RX9, "number", "(II)V"⟩
abbrev cX9_mile : ByteArray := prog_11_method_83_code
def yX9_mile : MethodName := ⟨RX9, "mile", "(II)V"⟩
abbrev cX9_numberHere : ByteArray := prog_11_method_84_code
def yX9_numberHere : MethodName := ⟨RX9, "numberHere", "()I"⟩
abbrev cX9_wayItem : ByteArray := prog_11_method_85_code
def yX9_wayItem : MethodName := ⟨RX9, "wayItem", "()V"⟩
abbrev cX9_walkItem : ByteArray := prog_11_method_86_code
def yX9_walkItem : MethodName := ⟨RX9, "walkItem", "()V"⟩
abbrev cX9_item : ByteArray := prog_11_method_87_code
def yX9_item : MethodName := ⟨RX9, "item", "()V"⟩
abbrev cX9_land : ByteArray := prog_11_method_88_code
def yX9_land : MethodName := ⟨RX9, "land", "()I"⟩
abbrev cX9_isOne : ByteArray := prog_11_method_89_code
def yX9_isOne : MethodName := ⟨RX9, "isOne", "(I)Z"⟩
abbrev cX9_sheet : ByteArray := prog_11_method_90_code
def yX9_sheet : MethodName := ⟨RX9, "sheet", "(III)I"⟩
abbrev cX9_narrowed : ByteArray := prog_11_method_91_code
def yX9_narrowed : MethodName := ⟨RX9, "narrowed", "(IJ)J"⟩
abbrev cX9_wrong : ByteArray := prog_11_method_92_code
def yX9_wrong : MethodName := ⟨RX9, "wrong", "(I)I"⟩
abbrev cX9_write : ByteArray := prog_11_method_93_code
def yX9_write : MethodName := ⟨RX9, "write", "(IIJ)J"⟩
abbrev cX9_copy : ByteArray := prog_11_method_94_code
def yX9_copy : MethodName := ⟨RX9, "copy", "(IIIII)I"⟩
abbrev cX9_lays : ByteArray := prog_11_method_95_code
def yX9_lays : MethodName := ⟨RX9, "lays", "(II)I"⟩
abbrev cX9_read : ByteArray := prog_11_method_96_code
def yX9_read : MethodName := ⟨RX9, "read", "(I)I"⟩
abbrev cX9_image : ByteArray := prog_11_method_97_code
def yX9_image : MethodName := ⟨RX9, "image", "()I"⟩
abbrev cX9_undo : ByteArray := prog_11_method_98_code
def yX9_undo : MethodName := ⟨RX9, "undo", "()I"⟩
abbrev cX9_tear : ByteArray := prog_11_method_99_code
def yX9_tear : MethodName := ⟨RX9, "tear", "()I"⟩
abbrev cX9_count : ByteArray := prog_11_method_100_code
def yX9_count : MethodName := ⟨RX9, "count", "(I)I"⟩
abbrev cX9_status : ByteArray := prog_11_method_101_code
def yX9_status : MethodName := ⟨RX9, "status", "(I)I"⟩
def RJ9 : String := "java/lang/Math"
def TJ9 : u_T := fun k => match k with
  | _ => ("", "", "", false)
def tyJ9 : Nat → FieldType := fun k => match k with
  | _ => .int
abbrev wsJ90 : List Cond := u_ws RJ9 TJ9 0
theorem nmJ9 : ∀ a, a < 0 → ∀ b, b < 0 → a ≠ b → (TJ9 a).2.1 ≠ (TJ9 b).2.1 := by decide +kernel
theorem tyJ9_ok : ∀ k, k < 0 → parseFieldDescriptor (TJ9 k).2.2.1 = some (tyJ9 k) := by decide +kernel
abbrev cJ9_floorDiv_7cf53 : ByteArray := prog_12_method_47_code
def yJ9_floorDiv_7cf53 : MethodName := ⟨RJ9, "floorDiv", "(II)I"⟩
abbrev cJ9_floorMod_7cf53 : ByteArray := prog_12_method_50_code
def yJ9_floorMod_7cf53 : MethodName := ⟨RJ9, "floorMod", "(II)I"⟩
abbrev cJ9_abs_0f7a4 : ByteArray := prog_12_method_59_code
def yJ9_abs_0f7a4 : MethodName := ⟨RJ9, "abs", "(I)I"⟩
abbrev cJ9_max_7cf53 : ByteArray := prog_12_method_65_code
def yJ9_max_7cf53 : MethodName := ⟨RJ9, "max", "(II)I"⟩
abbrev cJ9_min_7cf53 : ByteArray := prog_12_method_69_code
def yJ9_min_7cf53 : MethodName := ⟨RJ9, "min", "(II)I"⟩
def RJ0 : String := "java/lang/String"
def TJ0 : u_T := fun k => match k with
  | _ => ("", "", "", false)
def tyJ0 : Nat → FieldType := fun k => match k with
  | _ => .int
abbrev wsJ00 : List Cond := u_ws RJ0 TJ0 0
theorem nmJ0 : ∀ a, a < 0 → ∀ b, b < 0 → a ≠ b → (TJ0 a).2.1 ≠ (TJ0 b).2.1 := by decide +kernel
theorem tyJ0_ok : ∀ k, k < 0 → parseFieldDescriptor (TJ0 k).2.2.1 = some (tyJ0 k) := by decide +kernel
abbrev cJ0_length_8abf5 : ByteArray := prog_13_method_54_code
def yJ0_length_8abf5 : MethodName := ⟨RJ0, "length", "()I"⟩
abbrev cJ0_charAt_5068e : ByteArray := prog_13_method_56_code
def yJ0_charAt_5068e : MethodName := ⟨RJ0, "charAt", "(I)C"⟩
abbrev cJ0_coder_7d493 : ByteArray := prog_13_method_152_code
def yJ0_coder_7d493 : MethodName := ⟨RJ0, "coder", "()B"⟩
abbrev cJ0_isLatin1_aae02 : ByteArray := prog_13_method_154_code
def yJ0_isLatin1_aae02 : MethodName := ⟨RJ0, "isLatin1", "()Z"⟩
abbrev cJ0_checkIndex_df160 : ByteArray := prog_13_method_155_code
def yJ0_checkIndex_df160 : MethodName := ⟨RJ0, "checkIndex", "(II)V"⟩
def RJ1 : String := "java/lang/StringLatin1"
def TJ1 : u_T := fun k => match k with
  | _ => ("", "", "", false)
def tyJ1 : Nat → FieldType := fun k => match k with
  | _ => .int
abbrev wsJ10 : List Cond := u_ws RJ1 TJ1 0
theorem nmJ1 : ∀ a, a < 0 → ∀ b, b < 0 → a ≠ b → (TJ1 a).2.1 ≠ (TJ1 b).2.1 := by decide +kernel
theorem tyJ1_ok : ∀ k, k < 0 → parseFieldDescriptor (TJ1 k).2.2.1 = some (tyJ1 k) := by decide +kernel
abbrev cJ1_charAt_3b067 : ByteArray := prog_14_method_2_code
def yJ1_charAt_3b067 : MethodName := ⟨RJ1, "charAt", "([BI)C"⟩
def RJ2 : String := "java/lang/StringUTF16"
def TJ2 : u_T := fun k => match k with
  | _ => ("", "", "", false)
def tyJ2 : Nat → FieldType := fun k => match k with
  | _ => .int
abbrev wsJ20 : List Cond := u_ws RJ2 TJ2 0
theorem nmJ2 : ∀ a, a < 0 → ∀ b, b < 0 → a ≠ b → (TJ2 a).2.1 ≠ (TJ2 b).2.1 := by decide +kernel
theorem tyJ2_ok : ∀ k, k < 0 → parseFieldDescriptor (TJ2 k).2.2.1 = some (tyJ2 k) := by decide +kernel
abbrev cJ2_getChar_3b067 : ByteArray := prog_15_method_5_code
def yJ2_getChar_3b067 : MethodName := ⟨RJ2, "getChar", "([BI)C"⟩
abbrev cJ2_length_9d52b : ByteArray := prog_15_method_6_code
def yJ2_length_9d52b : MethodName := ⟨RJ2, "length", "([B)I"⟩
abbrev cJ2_charAt_3b067 : ByteArray := prog_15_method_83_code
def yJ2_charAt_3b067 : MethodName := ⟨RJ2, "charAt", "([BI)C"⟩
abbrev cJ2_checkIndex_2214a : ByteArray := prog_15_method_91_code
def yJ2_checkIndex_2214a : MethodName := ⟨RJ2, "checkIndex", "(I[B)V"⟩
def RJ10 : String := "java/lang/System"
def TJ10 : u_T := fun k => match k with
  | _ => ("", "", "", false)
def tyJ10 : Nat → FieldType := fun k => match k with
  | _ => .int
abbrev wsJ100 : List Cond := u_ws RJ10 TJ10 0
theorem nmJ10 : ∀ a, a < 0 → ∀ b, b < 0 → a ≠ b → (TJ10 a).2.1 ≠ (TJ10 b).2.1 := by decide +kernel
theorem tyJ10_ok : ∀ k, k < 0 → parseFieldDescriptor (TJ10 k).2.2.1 = some (tyJ10 k) := by decide +kernel
def RJ3 : String := "jdk/internal/util/Preconditions"
def TJ3 : u_T := fun k => match k with
  | _ => ("", "", "", false)
def tyJ3 : Nat → FieldType := fun k => match k with
  | _ => .int
abbrev wsJ30 : List Cond := u_ws RJ3 TJ3 0
theorem nmJ3 : ∀ a, a < 0 → ∀ b, b < 0 → a ≠ b → (TJ3 a).2.1 ≠ (TJ3 b).2.1 := by decide +kernel
theorem tyJ3_ok : ∀ k, k < 0 → parseFieldDescriptor (TJ3 k).2.2.1 = some (tyJ3 k) := by decide +kernel
abbrev cJ3_checkIndex_8e157 : ByteArray := prog_17_method_11_code
def yJ3_checkIndex_8e157 : MethodName := ⟨RJ3, "checkIndex", "(IILjava/util/function/BiFunction;)I"⟩
def RL : String := "LongerBackLaw"
abbrev cL_law : ByteArray := code
def yL_law : MethodName := ⟨RL, "law", "([I)Z"⟩
abbrev vwCl : List vw_C := [(RX0, TX0, 2), (RX1, TX1, 10), (RX2, TX2, 2), (RX3, TX3, 3), (RX4, TX4, 3), (RX5, TX5, 3), (RX6, TX6, 1), (RX7, TX7, 7), (RX8, TX8, 12), (RX9, TX9, 27)]
end
section
/-! words: one list for all methods: the good ones of the tables -/
def wsU : List Cond := lw_tbl.filter goodWord
theorem wsU_in : ∀ w ∈ wsU, w ∈ lw_tbl := fun _ h => (List.mem_filter.mp h).1
theorem ut_ok {w : Cond} (h : w ∈ tables_1) (g : goodWord w = true) : w ∈ wsU := List.mem_filter.mpr ⟨List.mem_append_right _ h, g⟩
theorem ut1 {w : Cond} (h : w ∈ tables_1_1) (g : goodWord w = true) : w ∈ wsU := ut_ok (List.mem_append_left _ h) g
theorem ut2 {w : Cond} (h : w ∈ tables_1_2) (g : goodWord w = true) : w ∈ wsU := ut_ok (List.mem_append_right _ (List.mem_append_left _ h)) g
theorem ut3 {w : Cond} (h : w ∈ tables_1_3) (g : goodWord w = true) : w ∈ wsU := ut_ok (List.mem_append_right _ (List.mem_append_right _ (List.mem_append_left _ h))) g
theorem ut4 {w : Cond} (h : w ∈ tables_1_4) (g : goodWord w = true) : w ∈ wsU := ut_ok (List.mem_append_right _ (List.mem_append_right _ (List.mem_append_right _ (List.mem_append_left _ h)))) g
theorem ut5 {w : Cond} (h : w ∈ tables_1_5) (g : goodWord w = true) : w ∈ wsU := ut_ok (List.mem_append_right _ (List.mem_append_right _ (List.mem_append_right _ (List.mem_append_right _ (List.mem_append_left _ h))))) g
theorem ut6 {w : Cond} (h : w ∈ tables_1_6) (g : goodWord w = true) : w ∈ wsU := ut_ok (List.mem_append_right _ (List.mem_append_right _ (List.mem_append_right _ (List.mem_append_right _ (List.mem_append_right _ h))))) g
theorem us_sel {q : MethodName × Nat} (h : q ∈ lw_privs) (g : goodWord (Cond.selects q.1.cls q.1 q.1) = true) : Cond.selects q.1.cls q.1 q.1 ∈ wsU := List.mem_filter.mpr ⟨List.mem_append_left _ (List.mem_map.mpr ⟨q, h, rfl⟩), g⟩
theorem xU_ok {c0 : Cond} : GoodIn (c0 :: wsU) wsU := fun w h => ⟨List.mem_cons_of_mem _ h, good_of_word (List.mem_filter.mp h).2⟩
theorem xU_cons {c0 c1 : Cond} (h : c1 ∈ wsU) : GoodIn (c0 :: wsU) (c1 :: wsU) := fun w hw => (List.mem_cons.mp hw).elim (fun e => by subst e; exact xU_ok _ h) (fun h2 => xU_ok _ h2)
/-- what a call of an instance method needs of the tables -/
def xWV (own : String) (index : Nat) (C : String) (y : MethodName) (bytes : ByteArray) (maxL : Nat) (ret : Option FieldType) (n : Nat) : Prop :=
  (Cond.methodLink own index y ∈ wsU ∧ Cond.instanceMethod y ∈ wsU ∧ Cond.selects C y y ∈ wsU ∧ Cond.initialized C ∈ wsU ∧ Cond.code y bytes maxL ret ∈ wsU) ∧
  (y.cls = C ∧ y.cls ≠ "java/lang/invoke/MethodHandle" ∧ y.cls ≠ "java/lang/invoke/VarHandle" ∧ (parseMethodDescriptor y.desc).map (fun d => d.parameters.length) = some n)
/-- .. of a static method of its own class -/
def xWS (own : String) (index : Nat) (y : MethodName) (bytes : ByteArray) (maxL : Nat) (ret : Option FieldType) (n : Nat) : Prop :=
  (Cond.methodLink own index y ∈ wsU ∧ Cond.static y ∈ wsU ∧ Cond.initialized y.cls ∈ wsU ∧ Cond.code y bytes maxL ret ∈ wsU) ∧
  (y.cls ≠ "java/lang/invoke/MethodHandle" ∧ y.cls ≠ "java/lang/invoke/VarHandle" ∧ (parseMethodDescriptor y.desc).map (fun d => d.parameters.length) = some n)
/-- .. of a constructor, linked the plain way -/
def xWI (own : String) (index : Nat) (y : MethodName) (bytes : ByteArray) (maxL : Nat) (n : Nat) : Prop :=
  (Cond.methodLink own index y ∈ wsU ∧ Cond.instanceMethod y ∈ wsU ∧ Cond.initialized y.cls ∈ wsU ∧ Cond.code y bytes maxL none ∈ wsU) ∧
  (y.name = "<init>" ∧ y.cls ≠ "java/lang/invoke/MethodHandle" ∧ y.cls ≠ "java/lang/invoke/VarHandle" ∧ (parseMethodDescriptor y.desc).map (fun d => d.parameters.length) = some n)
/-- the words that lie beside the list: private members of nest mates, the array of sheets, String constants -/
def xNest : List Cond := [.methodLinkNest RX8 11 yX1_init RX8, .methodLinkNest RX8 28 yX0_init RX8, .methodLinkNest RX8 38 yX6_init RX8, .methodLinkNest RX8 45 yX5_init RX8, .methodLinkNest RX8 52 yX2_init RX8, .methodLinkNest RX8 59 yX7_init RX8, .methodLinkNest RX8 74 yX4_init RX8, .methodLinkNest RX0 42 yX8_together RX8, .methodLinkNest RX1 30 yX3_init RX8, .methodLinkNest RX2 75 yX8_areEnds RX8, .methodLinkNest RX6 62 yX8_together RX8]
def xStr : List (Nat × String × Nat) := [(41, "place", 0), (50, "way", 1), (55, "walk", 2), (65, "errands", 3), (82, "to", 4), (88, "back", 5), (118, "all", 6), (123, "slack", 7)]
def XN (sa : Nat → Nat) (U : State) : Prop := (∀ w ∈ xNest, va_Nw w U) ∧ va_AO RX4 U ∧ ∀ q ∈ xStr, vk_R RX7 q.1 q.2.1 (sa q.2.2) U
theorem xNest_form : ∀ w ∈ xNest, ∃ (a : String) (i : Nat) (y : MethodName) (h : String), w = .methodLinkNest a i y h := by
  intro w hw
  simp only [xNest, List.mem_cons, List.not_mem_nil, or_false] at hw
  rcases hw with rfl | rfl | rfl | rfl | rfl | rfl | rfl | rfl | rfl | rfl | rfl <;> exact ⟨_, _, _, _, rfl⟩
theorem XN.same {sa : Nat → Nat} {u U : State} (h : U.vm = u.vm) (q : XN sa u) : XN sa U := by
  refine ⟨fun w hw => ?_, va_AO.moved (by rw [h]; exact Vm.Alike.refl _) q.2.1, fun x hx => (q.2.2 x hx).same h⟩
  obtain ⟨a, i, y, hh, rfl⟩ := xNest_form w hw
  exact va_Nw.same rfl h.symm (q.1 _ hw)
theorem XN.warm {sa : Nat → Nat} {s U : State} (hW : s.WarmedH U.vm) (q : XN sa s) : XN sa U := by
  refine ⟨fun w hw => ?_, va_AO.moved hW.alike q.2.1, fun x hx => (q.2.2 x hx).warm hW⟩
  obtain ⟨a, i, y, hh, rfl⟩ := xNest_form w hw
  exact (q.1 _ hw : va_Nw _ s).warmM hW
/-- the types of arrays -/
abbrev xT (cI cJ cZ cS : ClassId) : List (ClassId × FieldType) := [(cI, .int), (cJ, .long), (cZ, .boolean), (cS, .object RX4)]
/-- a contract's start: the cells wc, and no more is known of the heap but its size -/
def XW (D : va_G) (T : List (ClassId × FieldType)) (sa : Nat → Nat) (wc : va_W) (sz : Nat) (U : State) : Prop := U.heap.size = sz ∧ va_P D vwCl wc U.heap ∧ va_K D vwCl T U ∧ va_D (fun _ => True) wc ∧ XN sa U
def XQi {S : Type} (post : Int32 → S → Prop) (D : va_G) (w1 : S → va_W) (A : Nat → Prop) : Array Value → State → Outcome → State → Prop := va_Qi post (fun u t => va_P D vwCl (w1 u) t.heap ∧ va_D A (w1 u)) A
def XQl {S : Type} (post : Int64 → S → Prop) (D : va_G) (w1 : S → va_W) (A : Nat → Prop) : Array Value → State → Outcome → State → Prop := va_Ql post (fun u t => va_P D vwCl (w1 u) t.heap ∧ va_D A (w1 u)) A
def XQv {S : Type} (post : S → Prop) (D : va_G) (w1 : S → va_W) (A : Nat → Prop) : Array Value → State → Outcome → State → Prop := va_Qv post (fun u t => va_P D vwCl (w1 u) t.heap ∧ va_D A (w1 u)) A
theorem xh {l : Launch} {y : MethodName} {cc : ByteArray} {maxL : Nat} {ret : Option FieldType} {rm : Room} {D : va_G} {T : List (ClassId × FieldType)} {sa : Nat → Nat} {av : List Value} {wc : va_W} {sz : Nat} {Qc : Array Value → State → Outcome → State → Prop} {mc ms : Nat} {free : Addr → Prop} (hy : plainName y.cls = true) (hlen : (lg_sl av).length ≤ maxL)
    (body : ∀ (p : Program) (e : Env) (s : State) (m : MethodId) (below : List Frame) (meth : Method) (c : Code) (ls : Array Slot), CallFix p m c cc maxL s av.toArray (Cond.code y cc maxL ret :: wsU) y.cls → meth.sig.returnType = ret → meth.locks = false → meth.name = y.name → s.heap.size = sz → va_P D vwCl wc s.heap → va_K D vwCl T s → va_D (fun _ => True) wc → XN sa s → lv_has ls maxL (lv_args 0 av) →
      W p l e rm s m av.toArray below meth c s.heap [] 0 0 (MQ below Qc av.toArray s mc ms free) (F0 m 0 ls [])) :
    Met l y (Cond.code y cc maxL ret :: wsU) rm (va_Pc av (XW D T sa wc sz)) Qc mc ms free := by
  refine Met.ofW (cc := cc) (maxL := maxL) (ret := ret) hy rfl ?_
  intro p e s m args below meth c s₁ B hml hv
  obtain ⟨rfl, hsz, hP, hK, hD, hN⟩ := hv
  have hl := lv_entry av (n := maxL) hlen
  rw [lg_entry_eq]
  exact body p e s m below meth c _ ⟨B.exec, B.bytes, hml, findClass_of_methodNamed B.named, atoms_spec (ws := _) B.pre⟩ B.returns B.notSynchronized (name_of_methodNamed B.named B.method).1 hsz hP hK hD hN hl
theorem xhw {l : Launch} {y : MethodName} {cc : ByteArray} {maxL : Nat} {ret : Option FieldType} {rm : Room} {D : va_G} {T : List (ClassId × FieldType)} {sa : Nat → Nat} {av : List Value} {wc : va_W} {sz : Nat} {QA : (Nat → Prop) → Array Value → State → Outcome → State → Prop} {mc ms : Nat} (hy : plainName y.cls = true) (hlen : (lg_sl av).length ≤ maxL)
    (body : ∀ (p : Program) (e : Env) (s : State) (m : MethodId) (below : List Frame) (meth : Method) (c : Code) (ls : Array Slot) (A : Nat → Prop), CallFix p m c cc maxL s av.toArray (Cond.code y cc maxL ret :: wsU) y.cls → meth.sig.returnType = ret → meth.locks = false → meth.name = y.name → s.heap.size = sz → va_P D vwCl wc s.heap → va_K D vwCl T s → va_D A wc → XN sa s → (∀ q : Nat, s.heap.size ≤ q → A q) → va_S A s.heap s.heap [] → lv_has ls maxL (lv_args 0 av) →
      W p l e rm s m av.toArray below meth c s.heap [] 0 0 (MQ below (QA A) av.toArray s mc ms A) (F0 m 0 ls [])) :
    Met l y (Cond.code y cc maxL ret :: wsU) rm (va_Pc av (XW D T sa wc sz)) (QA (va_A wc sz)) mc ms (va_A wc sz) :=
  xh hy hlen (fun p e s m below meth c ls hF hr hlk hin hsz hP hK hD hN hl => body p e s m below meth c ls (va_A wc sz) hF hr hlk hin hsz hP hK hD.self hN (fun _ h => Or.inr (by rw [← hsz]; exact h)) va_S.rf hl)
theorem xsub {ws wc : va_W} {is : List Nat} (h : is.map (fun i => ws[i]?) = wc.map some) : is.filterMap (fun i => ws[i]?) = wc := by
  have e : is.filterMap (fun i => ws[i]?) = (is.map (fun i => ws[i]?)).filterMap id := by rw [List.filterMap_map]; rfl
  rw [e, h, List.filterMap_map]
  exact List.filterMap_some
section XR
variable {p : Program} {l : Launch} {e : Env} {R : Room} {s : State} {m : MethodId} {args : Array Value} {below : List Frame} {meth : Method} {c : Code} {H : Heap} {locs : List Loc} {cells slots : Nat} {Q : State → Prop}
variable {cc : ByteArray} {pc nL : Nat} {ls : Array Slot} {rest st0 : List Value} {D : va_G} {T : List (ClassId × FieldType)} {sa : Nat → Nat} {A : Nat → Prop} {ws : va_W} {c0 : Cond} {own : String}
theorem xl_i {x y : Int32} (h : x = y) (k : W p l e R s m args below meth c H locs cells slots Q (F0 m pc ls (.int y :: rest))) : W p l e R s m args below meth c H locs cells slots Q (F0 m pc ls (.int x :: rest)) := by subst h; exact k
theorem xl_v {v w : Value} (h : v = w) (k : W p l e R s m args below meth c H locs cells slots Q (F0 m pc ls (w :: rest))) : W p l e R s m args below meth c H locs cells slots Q (F0 m pc ls (v :: rest)) := by subst h; exact k
theorem xl_l {x y : Int64} (h : x = y) (k : W p l e R s m args below meth c H locs cells slots Q (F0 m pc ls (.long y :: rest))) : W p l e R s m args below meth c H locs cells slots Q (F0 m pc ls (.long x :: rest)) := by subst h; exact k
/-- a field of an object: where its word stands -/
def xWF (own : String) (index ci k : Nat) (C : String) (X : u_T) (N : Nat) : Prop := (∀ w ∈ u_ws C X N, w ∈ wsU) ∧ vwCl[ci]? = some (C, X, N) ∧ k < N ∧ Cond.fieldLink own index (X k).1 (X k).2.1 (X k).2.2.1 ∈ wsU
theorem xg (hF : CallFix p m c cc nL s args (c0 :: wsU) own) {index ci k : Nat} {C : String} {X : u_T} {N : Nat} (hw : xWF own index ci k C X N) (hK : va_K D vwCl T s) (hP : va_P D vwCl ws H) (q0 : Nat) {a : Nat} {fs : List Value} (he : ws[q0]? = some (a, .inr (ci, fs))) {v : Value} (hv : fs[k]? = some v) (hdg : decode cc pc = .ok (.getfield index, 3))
    (kk : W p l e R s m args below meth c H locs cells slots Q (F0 m (pc + 3) ls (v :: rest))) : W p l e R s m args below meth c H locs cells slots Q (F0 m pc ls (.ref a :: rest)) :=
  va_get (D := D) (C := C) (T := X) (N := N) (ref := (X k).1) hF.1 hF.2.1 hF.2.2.2.2 (fun w h => List.mem_cons_of_mem _ (hw.1 w h)) hF.2.2.2.1 hK hP q0 he hw.2.1 k hw.2.2.1 (hF.2.2.2.2 _ (List.mem_cons_of_mem _ hw.2.2.2)) (fun _ h => h) hv hdg kk
theorem xp (hF : CallFix p m c cc nL s args (c0 :: wsU) own) {index ci k : Nat} {C : String} {X : u_T} {N : Nat} (hw : xWF own index ci k C X N) {ty0 : Nat → FieldType} (hty : ∀ k, k < N → parseFieldDescriptor (X k).2.2.1 = some (ty0 k)) (hnm : ∀ a, a < N → ∀ b, b < N → a ≠ b → (X a).2.1 ≠ (X b).2.1) (hK : va_K D vwCl T s) (hP : va_P D vwCl ws H) (hD : va_D A ws) (hS : va_S A s.heap H locs) (q0 : Nat) {a : Nat} {fs : List Value} (he : ws[q0]? = some (a, .inr (ci, fs))) (hfin : (X k).2.2.2 = false) {v : Value} (hn : narrow (ty0 k) v = v) (hfit : fits (ty0 k) v = true) (hl : k < fs.length) (hdg : decode cc pc = .ok (.putfield index, 3))
    (kk : ∀ (H1 : Heap) (locs1 : List Loc), va_P D vwCl (ws.set q0 (a, .inr (ci, fs.set k v))) H1 → va_D A (ws.set q0 (a, .inr (ci, fs.set k v))) → va_S A s.heap H1 locs1 → W p l e R s m args below meth c H1 locs1 cells slots Q (F0 m (pc + 3) ls rest)) : W p l e R s m args below meth c H locs cells slots Q (F0 m pc ls (v :: .ref a :: rest)) :=
  va_put (D := D) (C := C) (T := X) (N := N) (ref := (X k).1) hF.1 hF.2.1 hF.2.2.2.2 (fun w h => List.mem_cons_of_mem _ (hw.1 w h)) ty0 hty hnm hF.2.2.2.1 hK hP hD hS q0 he hw.2.1 k hw.2.2.1 (hF.2.2.2.2 _ (List.mem_cons_of_mem _ hw.2.2.2)) (fun _ h => h) hfin (hty k hw.2.2.1) hn hfit hl hdg kk
theorem xpF (hF : CallFix p m c cc nL s args (c0 :: wsU) own) {index ci k : Nat} {C : String} {X : u_T} {N : Nat} (hw : xWF own index ci k C X N) {ty0 : Nat → FieldType} (hty : ∀ k, k < N → parseFieldDescriptor (X k).2.2.1 = some (ty0 k)) (hnm : ∀ a, a < N → ∀ b, b < N → a ≠ b → (X a).2.1 ≠ (X b).2.1) (hK : va_K D vwCl T s) (hP : va_P D vwCl ws H) (hD : va_D A ws) (hS : va_S A s.heap H locs) (q0 : Nat) {a : Nat} {fs : List Value} (he : ws[q0]? = some (a, .inr (ci, fs))) (hfin : (X k).2.2.2 = true) (hin : meth.name = "<init>") (hdecl : (X k).1 = own) {v : Value} (hn : narrow (ty0 k) v = v) (hfit : fits (ty0 k) v = true) (hl : k < fs.length) (hdg : decode cc pc = .ok (.putfield index, 3))
    (kk : ∀ (H1 : Heap) (locs1 : List Loc), va_P D vwCl (ws.set q0 (a, .inr (ci, fs.set k v))) H1 → va_D A (ws.set q0 (a, .inr (ci, fs.set k v))) → va_S A s.heap H1 locs1 → W p l e R s m args below meth c H1 locs1 cells slots Q (F0 m (pc + 3) ls rest)) : W p l e R s m args below meth c H locs cells slots Q (F0 m pc ls (v :: .ref a :: rest)) :=
  va_putF (D := D) (C := C) (T := X) (N := N) (ref := (X k).1) hF.1 hF.2.1 hF.2.2.2.2 (fun w h => List.mem_cons_of_mem _ (hw.1 w h)) ty0 hty hnm hF.2.2.2.1 hK hP hD hS q0 he hw.2.1 k hw.2.2.1 (hF.2.2.2.2 _ (List.mem_cons_of_mem _ hw.2.2.2)) (fun _ h => h) hfin hin hdecl (hty k hw.2.2.1) hn hfit hl hdg kk
variable {y : MethodName} {bytes : ByteArray} {maxL mc ms n index : Nat} {ret : Option FieldType} {rm : Room} {C : String} {b : Addr} {As : List Value} {wc wr : va_W}
theorem xPS (hK : va_K D vwCl T s) (hN : XN sa s) (hP : va_P D vwCl ws H) (hD : va_D A ws) (isC : List Nat) (hC : isC.map (fun i => ws[i]?) = wc.map some) (hnC : va_nd isC = true) : PreS s H (va_Pc As (XW D T sa wc H.size)) As :=
  ⟨fun a U g mk q => ⟨q.1, q.2.1, q.2.2.1, va_K.moved (u := U) (U := U.calling g mk a) (Vm.Alike.refl U.vm) q.2.2.2.1, q.2.2.2.2.1, XN.same (u := U) (U := U.calling g mk a) rfl q.2.2.2.2.2⟩,
   fun U hU hW => ⟨rfl, by rw [hU], by rw [hU]; exact hP.sub isC (xsub hC), va_K.moved hW.alike hK, (hD.sub isC hnC hC).weaken (fun _ _ _ _ => trivial), XN.warm hW hN⟩⟩
theorem xPV (hK : va_K D vwCl T s) (hN : XN sa s) (hP : va_P D vwCl ws H) (hD : va_D A ws) (isC : List Nat) (hC : isC.map (fun i => ws[i]?) = wc.map some) (hnC : va_nd isC = true) (q0 : Nat) {ci : Nat} {fs : List Value} {cq : vw_C} (he : wc[q0]? = some (b, .inr (ci, fs))) (hc : vwCl[ci]? = some cq) (hcC : cq.1 = C) : PreV s H C b (va_Pc (.ref b :: As) (XW D T sa wc H.size)) As := by
  subst hcC
  exact ⟨(xPS (As := .ref b :: As) hK hN hP hD isC hC hnC).1, va_recv hK (hP.sub isC (xsub hC)) hc he, (xPS (As := .ref b :: As) hK hN hP hD isC hC hnC).2⟩
theorem xCW (hF : CallFix p m c cc nL s args (c0 :: wsU) own) (hw : xWV own index C y bytes maxL ret n) (hR : rm.cells = mc ∧ rm.slots = ms ∧ rm.frames + 1 ≤ R.frames ∧ 8 + (maxL + 11) + rm.locals ≤ R.locals) : CallW R s args own C index y bytes maxL ret (Cond.code y bytes maxL ret :: wsU) rm mc ms n := by
  have g : GoodIn (c0 :: wsU) (wsV own index C y (Cond.code y bytes maxL ret :: wsU)) := by
    refine goodIn_app ?_ (xU_cons hw.1.2.2.2.2)
    intro w h
    simp only [List.mem_cons, List.not_mem_nil, or_false] at h
    rcases h with rfl | rfl | rfl | rfl
    · exact xU_ok _ hw.1.1
    · exact xU_ok _ hw.1.2.1
    · exact xU_ok _ hw.1.2.2.1
    · exact xU_ok _ hw.1.2.2.2.1
  exact cwV n hF.2.2.2.2 g rfl hR.1 hR.2.1 hw.2 hR.2.2
theorem xCS (hF : CallFix p m c cc nL s args (c0 :: wsU) own) (hw : xWS own index y bytes maxL ret n) (hR : rm.cells = mc ∧ rm.slots = ms ∧ rm.frames + 1 ≤ R.frames ∧ 8 + (maxL + 11) + rm.locals ≤ R.locals) : CallB R s args own index y bytes maxL ret (Cond.code y bytes maxL ret :: wsU) rm mc ms n ∧ (Cond.static y).before args s = true :=
  have ok : ∀ w ∈ wsU, w.before args s = true := fun w h => hF.2.2.2.2 w (List.mem_cons_of_mem _ h)
  ⟨callB_of n hF.2.2.2.2 (xU_cons hw.1.2.2.2) rfl hR.1 hR.2.1 (ok _ hw.1.2.2.1) (ok _ hw.1.1) hw.2 hR.2.2, ok _ hw.1.2.1⟩
/-- RO: a call that only reads; int or boolean back -/
theorem xc_Vr (hF : CallFix p m c cc nL s args (c0 :: wsU) own) {post : Int32 → Prop} (hM : Met l y (Cond.code y bytes maxL ret :: wsU) rm (va_Pc (.ref b :: As) (XW D T sa wc H.size)) (vp_Si post) 0 0 (fun _ => False)) (hw : xWV own index C y bytes maxL ret n) (hR : rm.cells = 0 ∧ rm.slots = 0 ∧ rm.frames + 1 ≤ R.frames ∧ 8 + (maxL + 11) + rm.locals ≤ R.locals) (hf : cells ≤ R.cells ∧ slots ≤ R.slots)
    (hK : va_K D vwCl T s) (hN : XN sa s) (hP : va_P D vwCl ws H) (hD : va_D A ws) (isC : List Nat) (hC : isC.map (fun i => ws[i]?) = wc.map some) (hnC : va_nd isC = true) (q0 : Nat) {ci : Nat} {fs : List Value} {cq : vw_C} (he : wc[q0]? = some (b, .inr (ci, fs))) (hc : vwCl[ci]? = some cq) (hcC : cq.1 = C)
    (hn : As.length = n) (hsz : ls.size = nL) (hst : st0 = As.reverse ++ .ref b :: rest) (hrest : (rest.map fun v => v.category).sum ≤ 8) (hdg : decode cc pc = .ok (.invokevirtual index, 3))
    (kk : ∀ r : Int32, post r → W p l e R s m args below meth c H locs cells slots Q (F0 m (pc + 3) ls (.int r :: rest))) : W p l e R s m args below meth c H locs cells slots Q (F0 m pc ls st0) := by
  subst hst
  exact vp_callSi (W.runV hF hM (xCW hF hw hR) (xPV hK hN hP hD isC hC hnC q0 he hc hcC) rfl hn hsz rfl (lv_room hrest) hdg ⟨hf.1, hf.2⟩) kk
theorem xc_Vrv (hF : CallFix p m c cc nL s args (c0 :: wsU) own) {post : Unit → Prop} (hM : Met l y (Cond.code y bytes maxL ret :: wsU) rm (va_Pc (.ref b :: As) (XW D T sa wc H.size)) (va_Sv post) 0 0 (fun _ => False)) (hw : xWV own index C y bytes maxL ret n) (hR : rm.cells = 0 ∧ rm.slots = 0 ∧ rm.frames + 1 ≤ R.frames ∧ 8 + (maxL + 11) + rm.locals ≤ R.locals) (hf : cells ≤ R.cells ∧ slots ≤ R.slots)
    (hK : va_K D vwCl T s) (hN : XN sa s) (hP : va_P D vwCl ws H) (hD : va_D A ws) (isC : List Nat) (hC : isC.map (fun i => ws[i]?) = wc.map some) (hnC : va_nd isC = true) (q0 : Nat) {ci : Nat} {fs : List Value} {cq : vw_C} (he : wc[q0]? = some (b, .inr (ci, fs))) (hc : vwCl[ci]? = some cq) (hcC : cq.1 = C)
    (hn : As.length = n) (hsz : ls.size = nL) (hst : st0 = As.reverse ++ .ref b :: rest) (hrest : (rest.map fun v => v.category).sum ≤ 8) (hdg : decode cc pc = .ok (.invokevirtual index, 3))
    (kk : post () → W p l e R s m args below meth c H locs cells slots Q (F0 m (pc + 3) ls rest)) : W p l e R s m args below meth c H locs cells slots Q (F0 m pc ls st0) := by
  subst hst
  exact va_csv (W.runV hF hM (xCW hF hw hR) (xPV hK hN hP hD isC hC hnC q0 he hc hcC) rfl hn hsz rfl (lv_room hrest) hdg ⟨hf.1, hf.2⟩) kk
theorem xc_Sr (hF : CallFix p m c cc nL s args (c0 :: wsU) own) {post : Int32 → Prop} (hM : Met l y (Cond.code y bytes maxL ret :: wsU) rm (va_Pc As (XW D T sa wc H.size)) (vp_Si post) 0 0 (fun _ => False)) (hw : xWS own index y bytes maxL ret n) (hR : rm.cells = 0 ∧ rm.slots = 0 ∧ rm.frames + 1 ≤ R.frames ∧ 8 + (maxL + 11) + rm.locals ≤ R.locals) (hf : cells ≤ R.cells ∧ slots ≤ R.slots)
    (hK : va_K D vwCl T s) (hN : XN sa s) (hP : va_P D vwCl ws H) (hD : va_D A ws) (isC : List Nat) (hC : isC.map (fun i => ws[i]?) = wc.map some) (hnC : va_nd isC = true)
    (hn : As.length = n) (hsz : ls.size = nL) (hst : st0 = As.reverse ++ rest) (hrest : (rest.map fun v => v.category).sum ≤ 8) (hdg : decode cc pc = .ok (.invokestatic index, 3))
    (kk : ∀ r : Int32, post r → W p l e R s m args below meth c H locs cells slots Q (F0 m (pc + 3) ls (.int r :: rest))) : W p l e R s m args below meth c H locs cells slots Q (F0 m pc ls st0) := by
  subst hst
  exact vp_callSi (W.runS hF hM (xCS hF hw hR) (xPS hK hN hP hD isC hC hnC) rfl hn hsz rfl (lv_room hrest) hdg ⟨hf.1, hf.2⟩) kk
/-- RW: a call that may write its cells; the cells wr stay beside it -/
theorem xc_Vi (hF : CallFix p m c cc nL s args (c0 :: wsU) own) {S : Type} {post : Int32 → S → Prop} {w1 : S → va_W} (hM : Met l y (Cond.code y bytes maxL ret :: wsU) rm (va_Pc (.ref b :: As) (XW D T sa wc H.size)) (XQi post D w1 (va_A wc H.size)) 0 0 (va_A wc H.size)) (hw : xWV own index C y bytes maxL ret n) (hR : rm.cells = 0 ∧ rm.slots = 0 ∧ rm.frames + 1 ≤ R.frames ∧ 8 + (maxL + 11) + rm.locals ≤ R.locals) (hf : cells ≤ R.cells ∧ slots ≤ R.slots)
    (hK : va_K D vwCl T s) (hN : XN sa s) (hP : va_P D vwCl ws H) (hD : va_D A ws) (hS : va_S A s.heap H locs) (hA : ∀ q : Nat, s.heap.size ≤ q → A q) (isC isR : List Nat) (hC : isC.map (fun i => ws[i]?) = wc.map some) (hRr : isR.map (fun i => ws[i]?) = wr.map some) (hnC : va_nd isC = true) (hnR : va_nd isR = true) (hdis : ∀ i ∈ isR, i ∉ isC) (q0 : Nat) {ci : Nat} {fs : List Value} {cq : vw_C} (he : wc[q0]? = some (b, .inr (ci, fs))) (hc : vwCl[ci]? = some cq) (hcC : cq.1 = C)
    (hn : As.length = n) (hsz : ls.size = nL) (hst : st0 = As.reverse ++ .ref b :: rest) (hrest : (rest.map fun v => v.category).sum ≤ 8) (hdg : decode cc pc = .ok (.invokevirtual index, 3))
    (kk : ∀ (r : Int32) (u : S) (H1 : Heap) (locs1 : List Loc), post r u → va_P D vwCl (wr ++ w1 u) H1 → va_D A (wr ++ w1 u) → va_S A s.heap H1 locs1 → W p l e R s m args below meth c H1 locs1 cells slots Q (F0 m (pc + 3) ls (.int r :: rest))) : W p l e R s m args below meth c H locs cells slots Q (F0 m pc ls st0) := by
  subst hst
  have hFc := va_free (wc := wc) hD hS hA isC hC
  refine va_calli (va_runV hF hM (xCW hF hw hR) (xPV hK hN hP hD isC hC hnC q0 he hc hcC) rfl hn hsz rfl (lv_room hrest) hdg ⟨hf.1, hf.2⟩) hS (fun q _ h => hFc q h) hFc (fun r u t H1 locs1 ht hvm hp hB hz hk hS1 => ?_)
  obtain ⟨hP1, hD1⟩ := hB
  rw [ht] at hP1
  obtain ⟨hP2, hD2⟩ := va_join (wr := wr) (w1 := w1 u) hP hD isC isR hC hRr hnR hdis hk hFc hP1 hD1
  exact kk r u H1 locs1 hp hP2 hD2 hS1
theorem xc_Vl (hF : CallFix p m c cc nL s args (c0 :: wsU) own) {S : Type} {post : Int64 → S → Prop} {w1 : S → va_W} (hM : Met l y (Cond.code y bytes maxL ret :: wsU) rm (va_Pc (.ref b :: As) (XW D T sa wc H.size)) (XQl post D w1 (va_A wc H.size)) 0 0 (va_A wc H.size)) (hw : xWV own index C y bytes maxL ret n) (hR : rm.cells = 0 ∧ rm.slots = 0 ∧ rm.frames + 1 ≤ R.frames ∧ 8 + (maxL + 11) + rm.locals ≤ R.locals) (hf : cells ≤ R.cells ∧ slots ≤ R.slots)
    (hK : va_K D vwCl T s) (hN : XN sa s) (hP : va_P D vwCl ws H) (hD : va_D A ws) (hS : va_S A s.heap H locs) (hA : ∀ q : Nat, s.heap.size ≤ q → A q) (isC isR : List Nat) (hC : isC.map (fun i => ws[i]?) = wc.map some) (hRr : isR.map (fun i => ws[i]?) = wr.map some) (hnC : va_nd isC = true) (hnR : va_nd isR = true) (hdis : ∀ i ∈ isR, i ∉ isC) (q0 : Nat) {ci : Nat} {fs : List Value} {cq : vw_C} (he : wc[q0]? = some (b, .inr (ci, fs))) (hc : vwCl[ci]? = some cq) (hcC : cq.1 = C)
    (hn : As.length = n) (hsz : ls.size = nL) (hst : st0 = As.reverse ++ .ref b :: rest) (hrest : (rest.map fun v => v.category).sum ≤ 8) (hdg : decode cc pc = .ok (.invokevirtual index, 3))
    (kk : ∀ (r : Int64) (u : S) (H1 : Heap) (locs1 : List Loc), post r u → va_P D vwCl (wr ++ w1 u) H1 → va_D A (wr ++ w1 u) → va_S A s.heap H1 locs1 → W p l e R s m args below meth c H1 locs1 cells slots Q (F0 m (pc + 3) ls (.long r :: rest))) : W p l e R s m args below meth c H locs cells slots Q (F0 m pc ls st0) := by
  subst hst
  have hFc := va_free (wc := wc) hD hS hA isC hC
  refine va_calll (va_runV hF hM (xCW hF hw hR) (xPV hK hN hP hD isC hC hnC q0 he hc hcC) rfl hn hsz rfl (lv_room hrest) hdg ⟨hf.1, hf.2⟩) hS (fun q _ h => hFc q h) hFc (fun r u t H1 locs1 ht hvm hp hB hz hk hS1 => ?_)
  obtain ⟨hP1, hD1⟩ := hB
  rw [ht] at hP1
  obtain ⟨hP2, hD2⟩ := va_join (wr := wr) (w1 := w1 u) hP hD isC isR hC hRr hnR hdis hk hFc hP1 hD1
  exact kk r u H1 locs1 hp hP2 hD2 hS1
theorem xc_Vv (hF : CallFix p m c cc nL s args (c0 :: wsU) own) {S : Type} {post : S → Prop} {w1 : S → va_W} (hM : Met l y (Cond.code y bytes maxL ret :: wsU) rm (va_Pc (.ref b :: As) (XW D T sa wc H.size)) (XQv post D w1 (va_A wc H.size)) 0 0 (va_A wc H.size)) (hw : xWV own index C y bytes maxL ret n) (hR : rm.cells = 0 ∧ rm.slots = 0 ∧ rm.frames + 1 ≤ R.frames ∧ 8 + (maxL + 11) + rm.locals ≤ R.locals) (hf : cells ≤ R.cells ∧ slots ≤ R.slots)
    (hK : va_K D vwCl T s) (hN : XN sa s) (hP : va_P D vwCl ws H) (hD : va_D A ws) (hS : va_S A s.heap H locs) (hA : ∀ q : Nat, s.heap.size ≤ q → A q) (isC isR : List Nat) (hC : isC.map (fun i => ws[i]?) = wc.map some) (hRr : isR.map (fun i => ws[i]?) = wr.map some) (hnC : va_nd isC = true) (hnR : va_nd isR = true) (hdis : ∀ i ∈ isR, i ∉ isC) (q0 : Nat) {ci : Nat} {fs : List Value} {cq : vw_C} (he : wc[q0]? = some (b, .inr (ci, fs))) (hc : vwCl[ci]? = some cq) (hcC : cq.1 = C)
    (hn : As.length = n) (hsz : ls.size = nL) (hst : st0 = As.reverse ++ .ref b :: rest) (hrest : (rest.map fun v => v.category).sum ≤ 8) (hdg : decode cc pc = .ok (.invokevirtual index, 3))
    (kk : ∀ (u : S) (H1 : Heap) (locs1 : List Loc), post u → va_P D vwCl (wr ++ w1 u) H1 → va_D A (wr ++ w1 u) → va_S A s.heap H1 locs1 → W p l e R s m args below meth c H1 locs1 cells slots Q (F0 m (pc + 3) ls rest)) : W p l e R s m args below meth c H locs cells slots Q (F0 m pc ls st0) := by
  subst hst
  have hFc := va_free (wc := wc) hD hS hA isC hC
  refine va_callv (va_runV hF hM (xCW hF hw hR) (xPV hK hN hP hD isC hC hnC q0 he hc hcC) rfl hn hsz rfl (lv_room hrest) hdg ⟨hf.1, hf.2⟩) hS (fun q _ h => hFc q h) hFc (fun u t H1 locs1 ht hvm hp hB hz hk hS1 => ?_)
  obtain ⟨hP1, hD1⟩ := hB
  rw [ht] at hP1
  obtain ⟨hP2, hD2⟩ := va_join (wr := wr) (w1 := w1 u) hP hD isC isR hC hRr hnR hdis hk hFc hP1 hD1
  exact kk u H1 locs1 hp hP2 hD2 hS1
/-- a constructor of a nest mate -/
theorem xc_IN (hF : CallFix p m c cc nL s args (c0 :: wsU) own) {S : Type} {post : S → Prop} {w1 : S → va_W} {host : String} (hM : Met l y (Cond.code y bytes maxL none :: wsU) rm (va_Pc (.ref b :: As) (XW D T sa wc H.size)) (XQv post D w1 (va_A wc H.size)) mc ms (va_A wc H.size)) (hwc : Cond.code y bytes maxL none ∈ wsU ∧ Cond.instanceMethod y ∈ wsU ∧ Cond.initialized y.cls ∈ wsU) (hwd : y.name = "<init>" ∧ y.cls ≠ "java/lang/invoke/MethodHandle" ∧ y.cls ≠ "java/lang/invoke/VarHandle" ∧ (parseMethodDescriptor y.desc).map (fun d => d.parameters.length) = some n) (hne : Cond.methodLinkNest own index y host ∈ xNest) (hR : rm.cells = mc ∧ rm.slots = ms ∧ rm.frames + 1 ≤ R.frames ∧ 8 + (maxL + 11) + rm.locals ≤ R.locals) (hf : cells + mc ≤ R.cells ∧ slots + ms ≤ R.slots)
    (hK : va_K D vwCl T s) (hN : XN sa s) (hP : va_P D vwCl ws H) (hD : va_D A ws) (hS : va_S A s.heap H locs) (hA : ∀ q : Nat, s.heap.size ≤ q → A q) (isC isR : List Nat) (hC : isC.map (fun i => ws[i]?) = wc.map some) (hRr : isR.map (fun i => ws[i]?) = wr.map some) (hnC : va_nd isC = true) (hnR : va_nd isR = true) (hdis : ∀ i ∈ isR, i ∉ isC)
    (hn : As.length = n) (hsz : ls.size = nL) (hst : st0 = As.reverse ++ .ref b :: rest) (hrest : (rest.map fun v => v.category).sum ≤ 8) (hdg : decode cc pc = .ok (.invokespecial index, 3))
    (kk : ∀ (u : S) (H1 : Heap) (locs1 : List Loc), post u → va_P D vwCl (wr ++ w1 u) H1 → va_D A (wr ++ w1 u) → va_S A s.heap H1 locs1 → W p l e R s m args below meth c H1 locs1 (cells + mc) (slots + ms) Q (F0 m (pc + 3) ls rest)) : W p l e R s m args below meth c H locs cells slots Q (F0 m pc ls st0) := by
  subst hst
  have ok : ∀ w ∈ wsU, w.before args s = true := fun w h => hF.2.2.2.2 w (List.mem_cons_of_mem _ h)
  have hFc := va_free (wc := wc) hD hS hA isC hC
  refine va_callv (va_runIN hF hM ⟨va_cnB (host := host) n hF.2.2.2.2 (xU_cons hwc.1) rfl hR.1 hR.2.1 (hN.1 _ hne) (ok _ hwc.2.2) hwd.2 hR.2.2, hwd.1, ok _ hwc.2.1⟩ (xPS hK hN hP hD isC hC hnC) rfl hn hsz rfl (lv_room hrest) hdg hf) hS (fun q _ h => hFc q h) hFc (fun u t H1 locs1 ht hvm hp hB hz hk hS1 => ?_)
  obtain ⟨hP1, hD1⟩ := hB
  rw [ht] at hP1
  obtain ⟨hP2, hD2⟩ := va_join (wr := wr) (w1 := w1 u) hP hD isC isR hC hRr hnR hdis hk hFc hP1 hD1
  exact kk u H1 locs1 hp hP2 hD2 hS1
/-- .. linked the plain way -/
theorem xc_I (hF : CallFix p m c cc nL s args (c0 :: wsU) own) {S : Type} {post : S → Prop} {w1 : S → va_W} (hM : Met l y (Cond.code y bytes maxL none :: wsU) rm (va_Pc (.ref b :: As) (XW D T sa wc H.size)) (XQv post D w1 (va_A wc H.size)) mc ms (va_A wc H.size)) (hw : xWI own index y bytes maxL n) (hR : rm.cells = mc ∧ rm.slots = ms ∧ rm.frames + 1 ≤ R.frames ∧ 8 + (maxL + 11) + rm.locals ≤ R.locals) (hf : cells + mc ≤ R.cells ∧ slots + ms ≤ R.slots)
    (hK : va_K D vwCl T s) (hN : XN sa s) (hP : va_P D vwCl ws H) (hD : va_D A ws) (hS : va_S A s.heap H locs) (hA : ∀ q : Nat, s.heap.size ≤ q → A q) (isC isR : List Nat) (hC : isC.map (fun i => ws[i]?) = wc.map some) (hRr : isR.map (fun i => ws[i]?) = wr.map some) (hnC : va_nd isC = true) (hnR : va_nd isR = true) (hdis : ∀ i ∈ isR, i ∉ isC)
    (hn : As.length = n) (hsz : ls.size = nL) (hst : st0 = As.reverse ++ .ref b :: rest) (hrest : (rest.map fun v => v.category).sum ≤ 8) (hdg : decode cc pc = .ok (.invokespecial index, 3))
    (kk : ∀ (u : S) (H1 : Heap) (locs1 : List Loc), post u → va_P D vwCl (wr ++ w1 u) H1 → va_D A (wr ++ w1 u) → va_S A s.heap H1 locs1 → W p l e R s m args below meth c H1 locs1 (cells + mc) (slots + ms) Q (F0 m (pc + 3) ls rest)) : W p l e R s m args below meth c H locs cells slots Q (F0 m pc ls st0) := by
  subst hst
  have ok : ∀ w ∈ wsU, w.before args s = true := fun w h => hF.2.2.2.2 w (List.mem_cons_of_mem _ h)
  have hFc := va_free (wc := wc) hD hS hA isC hC
  refine va_callv (va_runI hF hM ⟨callB_of n hF.2.2.2.2 (xU_cons hw.1.2.2.2) rfl hR.1 hR.2.1 (ok _ hw.1.2.2.1) (ok _ hw.1.1) hw.2.2 hR.2.2, hw.2.1, ok _ hw.1.2.1⟩ (xPS hK hN hP hD isC hC hnC) rfl hn hsz rfl (lv_room hrest) hdg hf) hS (fun q _ h => hFc q h) hFc (fun u t H1 locs1 ht hvm hp hB hz hk hS1 => ?_)
  obtain ⟨hP1, hD1⟩ := hB
  rw [ht] at hP1
  obtain ⟨hP2, hD2⟩ := va_join (wr := wr) (w1 := w1 u) hP hD isC isR hC hRr hnR hdis hk hFc hP1 hD1
  exact kk u H1 locs1 hp hP2 hD2 hS1
/-- a new array of a class that is known -/
theorem xna (hF : CallFix p m c cc nL s args (c0 :: wsU) own) {atype : ArrayType} {ty : FieldType} (hty : newarray.typeOf atype = ty) (harr : Cond.arrayClass (newarray.typeOf atype) ∈ wsU) (hK : va_K D vwCl T s) (hP : va_P D vwCl ws H) (hD : va_D A ws) (hS : va_S A s.heap H locs) (hA : ∀ q : Nat, s.heap.size ≤ q → A q) (t0 : Nat) {cA0 : ClassId} (ht : T[t0]? = some (cA0, ty)) (huq : ∀ cA, va_RA s cA ty → va_RA s cA0 ty → cA = cA0)
    {n : Int32} {N' : Nat} {a0 : vp_A} (ha : ∀ cA : ClassId, vp_cell cA a0 = arrV cA N' (fun _ => defaultValue ty)) (hn : ¬ n < 0) (hN : n.toNatClampNeg = N') (hbytes : N' * componentBytes ty ≤ 536870912) (hcells : cells + 1 ≤ R.cells) (hslots : slots + N' ≤ R.slots) (hdg : decode cc pc = .ok (.newarray atype, 2))
    (kk : ∀ (q : Nat) (H1 : Heap), va_P D vwCl (ws ++ [(q, .inl (cA0, a0))]) H1 → va_D A (ws ++ [(q, .inl (cA0, a0))]) → va_S A s.heap H1 locs →
      W p l e R s m args below meth c H1 locs (cells + 1) (slots + N') Q (F0 m (pc + 2) ls (.ref q :: rest))) : W p l e R s m args below meth c H locs cells slots Q (F0 m pc ls (.int n :: rest)) := by
  refine va_newa (atype := atype) hF.1 hF.2.1 (hF.2.2.2.2 _ (List.mem_cons_of_mem _ harr)) hty hK hP hD hS hA ha hn hN hbytes hcells hslots hdg (fun q cA H1 hK1 hP1 hD1 hS1 => ?_)
  have e1 : cA = cA0 := huq cA (hK1.2 T.length (cA, ty) (by simp)).2 (hK.2 t0 _ ht).2
  subst e1
  exact kk q H1 hP1 hD1 hS1
/-- .. of the sheets -/
theorem xnq (hF : CallFix p m c cc nL s args (c0 :: wsU) own) {index : Nat} (hcl : (Cond.classLink own index RX4).before args s = true) (hN : XN sa s) (hK : va_K D vwCl T s) (hP : va_P D vwCl ws H) (hD : va_D A ws) (hS : va_S A s.heap H locs) (hA : ∀ q : Nat, s.heap.size ≤ q → A q) (t0 : Nat) {cA0 : ClassId} (ht : T[t0]? = some (cA0, .object RX4))
    {n : Int32} {N' : Nat} (hn : ¬ n < 0) (hN' : n.toNatClampNeg = N') (hbytes : N' * 4 ≤ 536870912) (hcells : cells + 1 ≤ R.cells) (hslots : slots + N' ≤ R.slots) (hdg : decode cc pc = .ok (.anewarray index, 3))
    (kk : ∀ (q : Nat) (H1 : Heap), va_P D vwCl (ws ++ [(q, .inl (cA0, N', .inr (.inr (.inr (.inr (fun _ => none))))))]) H1 → va_D A (ws ++ [(q, .inl (cA0, N', .inr (.inr (.inr (.inr (fun _ => none))))))]) → va_S A s.heap H1 locs →
      W p l e R s m args below meth c H1 locs (cells + 1) (slots + N') Q (F0 m (pc + 3) ls (.ref q :: rest))) : W p l e R s m args below meth c H locs cells slots Q (F0 m pc ls (.int n :: rest)) := by
  refine va_newq hF.1 hF.2.1 hF.2.2.2.1 hcl hN.2.1 hK hP hD hS hA hn hN' hbytes hcells hslots hdg (fun q cA H1 hK1 hP1 hD1 hS1 => ?_)
  have h1 : va_RA s cA (.object RX4) := (hK1.2 T.length (cA, .object RX4) (by simp)).2
  have h2 : va_RA s cA0 (.object RX4) := (hK.2 t0 _ ht).2
  obtain ⟨-, -, -, -, -, e1⟩ := h1
  obtain ⟨-, -, -, -, -, e2⟩ := h2
  have e3 : cA = cA0 := Option.some.inj (e1.symm.trans e2)
  subst e3
  exact kk q H1 hP1 hD1 hS1
end XR
theorem xuq_int {s : State} {a b : ClassId} (h1 : va_RA s a .int) (h2 : va_RA s b .int) : a = b := Option.some.inj ((va_nm_int h1).symm.trans (va_nm_int h2))
theorem xuq_long {s : State} {a b : ClassId} (h1 : va_RA s a .long) (h2 : va_RA s b .long) : a = b := Option.some.inj ((va_nm_long h1).symm.trans (va_nm_long h2))
theorem xuq_boolean {s : State} {a b : ClassId} (h1 : va_RA s a .boolean) (h2 : va_RA s b .boolean) : a = b := Option.some.inj ((va_nm_boolean h1).symm.trans (va_nm_boolean h2))
theorem xin (k n : Nat) (h : k < n) (hn : n < 2 ^ 31) : vp_in (OfNat.ofNat k : Int32) n := vp_in_nI h hn
theorem xcpy0 (a b n : Nat) : va_cpy (fun _ => (0 : Int32)) (fun _ => (0 : Int32)) a b n = fun _ => (0 : Int32) := by
  funext k
  unfold va_cpy
  split <;> rfl
theorem xnl {a b : Int32} (h : ¬ a < b) : b ≤ a := Int32.not_lt.mp h
theorem xlt {a b : Int32} (h : ¬ b ≤ a) : a < b := Int32.not_le.mp h
theorem xw_lt (a b : Int32) : a.toInt64 < b.toInt64 ↔ a < b := by
  rw [Int64.lt_iff_toInt_lt, Int32.lt_iff_toInt_lt, Int32.toInt_toInt64, Int32.toInt_toInt64]
theorem xq_lt (x y : Int64) : lg_cmp x y < 0 ↔ x < y := by
  have h := lg_cmp_ge x y
  rw [← Int32.not_le, h, Int64.not_le]
theorem xq_gt (x y : Int64) : 0 < lg_cmp x y ↔ y < x := by
  unfold lg_cmp
  by_cases h1 : y < x
  · simp [h1]
  · by_cases h2 : x = y
    · subst h2; simp
    · simp [h1, h2]
theorem xq1 {a b : Int32} : lg_cmp a.toInt64 b.toInt64 < 0 ↔ a < b := (xq_lt _ _).trans (xw_lt a b)
theorem xq2 {a b : Int32} : 0 < lg_cmp a.toInt64 b.toInt64 ↔ b < a := (xq_gt _ _).trans (xw_lt b a)
theorem x_m1 {a : Int32} (h1 : ¬ a < 0) (h2 : ¬ (-1) < a) : False := by
  rw [Int32.lt_iff_toInt_lt] at h1 h2
  have e0 : (0 : Int32).toInt = 0 := by decide
  have e1 : (-1 : Int32).toInt = -1 := by decide
  omega
theorem x_i4 {a : Int32} (h1 : ¬ a < 0) (h2 : ¬ 3 < a) : a = 0 ∨ a = 1 ∨ a = 2 ∨ a = 3 := by
  rw [Int32.lt_iff_toInt_lt] at h1 h2
  have e0 : (0 : Int32).toInt = 0 := by decide
  have e1 : (1 : Int32).toInt = 1 := by decide
  have e2 : (2 : Int32).toInt = 2 := by decide
  have e3 : (3 : Int32).toInt = 3 := by decide
  simp only [← Int32.toInt_inj]
  omega
theorem x_f4 {a : Int32} (h1 : ¬ a < 1) (h2 : ¬ 4 < a) : a = 1 ∨ a = 2 ∨ a = 3 ∨ a = 4 := by
  rw [Int32.lt_iff_toInt_lt] at h1 h2
  have e1 : (1 : Int32).toInt = 1 := by decide
  have e2 : (2 : Int32).toInt = 2 := by decide
  have e3 : (3 : Int32).toInt = 3 := by decide
  have e4 : (4 : Int32).toInt = 4 := by decide
  simp only [← Int32.toInt_inj]
  omega
theorem x_k3 {a : Int32} (h1 : ¬ a < 0) (h2 : ¬ 2 < a) : a = 0 ∨ a = 1 ∨ a = 2 := by
  rw [Int32.lt_iff_toInt_lt] at h1 h2
  have e0 : (0 : Int32).toInt = 0 := by decide
  have e1 : (1 : Int32).toInt = 1 := by decide
  have e2 : (2 : Int32).toInt = 2 := by decide
  simp only [← Int32.toInt_inj]
  omega
theorem x_s6 (a : Int32) : (a.toInt < 0 ∨ 5 < a.toInt) ∨ a = 0 ∨ a = 1 ∨ a = 2 ∨ a = 3 ∨ a = 4 ∨ a = 5 := by
  have e0 : (0 : Int32).toInt = 0 := by decide
  have e1 : (1 : Int32).toInt = 1 := by decide
  have e2 : (2 : Int32).toInt = 2 := by decide
  have e3 : (3 : Int32).toInt = 3 := by decide
  have e4 : (4 : Int32).toInt = 4 := by decide
  have e5 : (5 : Int32).toInt = 5 := by decide
  simp only [← Int32.toInt_inj]
  omega
theorem x_st {a : Int32} (h1 : ¬ a < (-1)) (h2 : ¬ 6 < a) : a = -1 ∨ a = 0 ∨ a = 1 ∨ a = 2 ∨ a = 3 ∨ a = 4 ∨ a = 5 ∨ a = 6 := by
  rw [Int32.lt_iff_toInt_lt] at h1 h2
  have em : (-1 : Int32).toInt = -1 := by decide
  have e0 : (0 : Int32).toInt = 0 := by decide
  have e1 : (1 : Int32).toInt = 1 := by decide
  have e2 : (2 : Int32).toInt = 2 := by decide
  have e3 : (3 : Int32).toInt = 3 := by decide
  have e4 : (4 : Int32).toInt = 4 := by decide
  have e5 : (5 : Int32).toInt = 5 := by decide
  have e6 : (6 : Int32).toInt = 6 := by decide
  simp only [← Int32.toInt_inj]
  omega
end
