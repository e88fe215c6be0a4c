section
-- ===== PART A: goes FIRST, ahead of the names: the tables' words, and 'selects' of the private methods out of them =====
/-- a private method of a class that the tables say can be made, by its rows of tables_1 -/
def lw_okq (q : MethodName × Nat) : Prop := (q.1.cls ≠ "java/lang/invoke/MethodHandle" ∧ q.1.cls ≠ "java/lang/invoke/VarHandle") ∧ Cond.instantiable q.1.cls q.2 ∈ tables_1 ∧ Cond.privateMethod q.1 ∈ tables_1 ∧ Cond.instanceMethod q.1 ∈ tables_1
theorem lw_p0 : lw_okq (⟨"LongerBack", "finding", "(I)I"⟩, 12) := ⟨⟨by decide +kernel, by decide +kernel⟩, List.mem_of_getElem? (i := 18) (by decide +kernel), List.mem_of_getElem? (i := 252) (by decide +kernel), List.mem_of_getElem? (i := 253) (by decide +kernel)⟩
theorem lw_p1 : lw_okq (⟨"LongerBack", "isLooped", "()Z"⟩, 12) := ⟨⟨by decide +kernel, by decide +kernel⟩, List.mem_of_getElem? (i := 18) (by decide +kernel), List.mem_of_getElem? (i := 324) (by decide +kernel), List.mem_of_getElem? (i := 325) (by decide +kernel)⟩
theorem lw_p2 : lw_okq (⟨"LongerBack$Atlas", "shortenOver", "(I)V"⟩, 2) := ⟨⟨by decide +kernel, by decide +kernel⟩, List.mem_of_getElem? (i := 105) (by decide +kernel), List.mem_of_getElem? (i := 338) (by decide +kernel), List.mem_of_getElem? (i := 339) (by decide +kernel)⟩
theorem lw_p3 : lw_okq (⟨"LongerBack$Atlas", "lengthOf", "(II)I"⟩, 2) := ⟨⟨by decide +kernel, by decide +kernel⟩, List.mem_of_getElem? (i := 105) (by decide +kernel), List.mem_of_getElem? (i := 342) (by decide +kernel), List.mem_of_getElem? (i := 343) (by decide +kernel)⟩
theorem lw_p4 : lw_okq (⟨"LongerBack", "lengthOrNone", "(I)I"⟩, 12) := ⟨⟨by decide +kernel, by decide +kernel⟩, List.mem_of_getElem? (i := 18) (by decide +kernel), List.mem_of_getElem? (i := 366) (by decide +kernel), List.mem_of_getElem? (i := 367) (by decide +kernel)⟩
theorem lw_p5 : lw_okq (⟨"LongerBack$Atlas", "nextStop", "(LLongerBack$Land;II)I"⟩, 2) := ⟨⟨by decide +kernel, by decide +kernel⟩, List.mem_of_getElem? (i := 105) (by decide +kernel), List.mem_of_getElem? (i := 385) (by decide +kernel), List.mem_of_getElem? (i := 386) (by decide +kernel)⟩
theorem lw_p6 : lw_okq (⟨"LongerBack$Atlas", "isBackAndForth", "(II)Z"⟩, 2) := ⟨⟨by decide +kernel, by decide +kernel⟩, List.mem_of_getElem? (i := 105) (by decide +kernel), List.mem_of_getElem? (i := 397) (by decide +kernel), List.mem_of_getElem? (i := 398) (by decide +kernel)⟩
theorem lw_p7 : lw_okq (⟨"LongerBack$Sums", "bestSum", "(LLongerBack$Rows;LLongerBack$Atlas;IZ)I"⟩, 1) := ⟨⟨by decide +kernel, by decide +kernel⟩, List.mem_of_getElem? (i := 118) (by decide +kernel), List.mem_of_getElem? (i := 470) (by decide +kernel), List.mem_of_getElem? (i := 471) (by decide +kernel)⟩
theorem lw_p8 : lw_okq (⟨"LongerBack$Sums", "orderStops", "(LLongerBack$Rows;LLongerBack$Atlas;I)V"⟩, 1) := ⟨⟨by decide +kernel, by decide +kernel⟩, List.mem_of_getElem? (i := 118) (by decide +kernel), List.mem_of_getElem? (i := 474) (by decide +kernel), List.mem_of_getElem? (i := 475) (by decide +kernel)⟩
theorem lw_p9 : lw_okq (⟨"LongerBack$Sums", "goOnFrom", "(LLongerBack$Rows;LLongerBack$Atlas;III)V"⟩, 1) := ⟨⟨by decide +kernel, by decide +kernel⟩, List.mem_of_getElem? (i := 118) (by decide +kernel), List.mem_of_getElem? (i := 478) (by decide +kernel), List.mem_of_getElem? (i := 479) (by decide +kernel)⟩
theorem lw_p10 : lw_okq (⟨"LongerBack$Slopes", "climbFrom", "(LLongerBack$Land;I)V"⟩, 3) := ⟨⟨by decide +kernel, by decide +kernel⟩, List.mem_of_getElem? (i := 128) (by decide +kernel), List.mem_of_getElem? (i := 551) (by decide +kernel), List.mem_of_getElem? (i := 552) (by decide +kernel)⟩
theorem lw_p11 : lw_okq (⟨"LongerBack$Learner", "isBelieved", "(LLongerBack$Land;I)Z"⟩, 2) := ⟨⟨by decide +kernel, by decide +kernel⟩, List.mem_of_getElem? (i := 146) (by decide +kernel), List.mem_of_getElem? (i := 613) (by decide +kernel), List.mem_of_getElem? (i := 614) (by decide +kernel)⟩
theorem lw_p12 : lw_okq (⟨"LongerBack$Learner", "narrow", "(LLongerBack$Land;II)Z"⟩, 2) := ⟨⟨by decide +kernel, by decide +kernel⟩, List.mem_of_getElem? (i := 146) (by decide +kernel), List.mem_of_getElem? (i := 619) (by decide +kernel), List.mem_of_getElem? (i := 620) (by decide +kernel)⟩
theorem lw_p13 : lw_okq (⟨"LongerBack", "bestToMend", "(I)I"⟩, 12) := ⟨⟨by decide +kernel, by decide +kernel⟩, List.mem_of_getElem? (i := 18) (by decide +kernel), List.mem_of_getElem? (i := 688) (by decide +kernel), List.mem_of_getElem? (i := 689) (by decide +kernel)⟩
theorem lw_p14 : lw_okq (⟨"LongerBack$Land", "nearestOf", "(I)I"⟩, 10) := ⟨⟨by decide +kernel, by decide +kernel⟩, List.mem_of_getElem? (i := 26) (by decide +kernel), List.mem_of_getElem? (i := 700) (by decide +kernel), List.mem_of_getElem? (i := 701) (by decide +kernel)⟩
theorem lw_p15 : lw_okq (⟨"LongerBack$Text", "step", "()V"⟩, 7) := ⟨⟨by decide +kernel, by decide +kernel⟩, List.mem_of_getElem? (i := 160) (by decide +kernel), List.mem_of_getElem? (i := 735) (by decide +kernel), List.mem_of_getElem? (i := 736) (by decide +kernel)⟩
def lw_privs_1 : List (MethodName × Nat) := [(⟨"LongerBack", "finding", "(I)I"⟩, 12), (⟨"LongerBack", "isLooped", "()Z"⟩, 12), (⟨"LongerBack$Atlas", "shortenOver", "(I)V"⟩, 2), (⟨"LongerBack$Atlas", "lengthOf", "(II)I"⟩, 2), (⟨"LongerBack", "lengthOrNone", "(I)I"⟩, 12), (⟨"LongerBack$Atlas", "nextStop", "(LLongerBack$Land;II)I"⟩, 2), (⟨"LongerBack$Atlas", "isBackAndForth", "(II)Z"⟩, 2), (⟨"LongerBack$Sums", "bestSum", "(LLongerBack$Rows;LLongerBack$Atlas;IZ)I"⟩, 1), (⟨"LongerBack$Sums", "orderStops", "(LLongerBack$Rows;LLongerBack$Atlas;I)V"⟩, 1), (⟨"LongerBack$Sums", "goOnFrom", "(LLongerBack$Rows;LLongerBack$Atlas;III)V"⟩, 1), (⟨"LongerBack$Slopes", "climbFrom", "(LLongerBack$Land;I)V"⟩, 3), (⟨"LongerBack$Learner", "isBelieved", "(LLongerBack$Land;I)Z"⟩, 2), (⟨"LongerBack$Learner", "narrow", "(LLongerBack$Land;II)Z"⟩, 2), (⟨"LongerBack", "bestToMend", "(I)I"⟩, 12), (⟨"LongerBack$Land", "nearestOf", "(I)I"⟩, 10), (⟨"LongerBack$Text", "step", "()V"⟩, 7)]
theorem lw_r1 : ∀ q ∈ lw_privs_1, lw_okq q := List.forall_mem_cons.mpr ⟨lw_p0, List.forall_mem_cons.mpr ⟨lw_p1, List.forall_mem_cons.mpr ⟨lw_p2, List.forall_mem_cons.mpr ⟨lw_p3, List.forall_mem_cons.mpr ⟨lw_p4, List.forall_mem_cons.mpr ⟨lw_p5, List.forall_mem_cons.mpr ⟨lw_p6, List.forall_mem_cons.mpr ⟨lw_p7, List.forall_mem_cons.mpr ⟨lw_p8, List.forall_mem_cons.mpr ⟨lw_p9, List.forall_mem_cons.mpr ⟨lw_p10, List.forall_mem_cons.mpr ⟨lw_p11, List.forall_mem_cons.mpr ⟨lw_p12, List.forall_mem_cons.mpr ⟨lw_p13, List.forall_mem_cons.mpr ⟨lw_p14, List.forall_mem_cons.mpr ⟨lw_p15, fun _ h => absurd h List.not_mem_nil⟩⟩⟩⟩⟩⟩⟩⟩⟩⟩⟩⟩⟩⟩⟩⟩
theorem lw_p16 : lw_okq (⟨"LongerBack$Text", "kindAt", "(I)I"⟩, 7) := ⟨⟨by decide +kernel, by decide +kernel⟩, List.mem_of_getElem? (i := 160) (by decide +kernel), List.mem_of_getElem? (i := 739) (by decide +kernel), List.mem_of_getElem? (i := 740) (by decide +kernel)⟩
theorem lw_p17 : lw_okq (⟨"LongerBack$Text", "takeItem", "(LLongerBack$Land;)Z"⟩, 7) := ⟨⟨by decide +kernel, by decide +kernel⟩, List.mem_of_getElem? (i := 160) (by decide +kernel), List.mem_of_getElem? (i := 744) (by decide +kernel), List.mem_of_getElem? (i := 745) (by decide +kernel)⟩
theorem lw_p18 : lw_okq (⟨"LongerBack$Text", "isWord", "(Ljava/lang/String;)Z"⟩, 7) := ⟨⟨by decide +kernel, by decide +kernel⟩, List.mem_of_getElem? (i := 160) (by decide +kernel), List.mem_of_getElem? (i := 749) (by decide +kernel), List.mem_of_getElem? (i := 750) (by decide +kernel)⟩
theorem lw_p19 : lw_okq (⟨"LongerBack$Text", "takePlace", "(LLongerBack$Land;)Z"⟩, 7) := ⟨⟨by decide +kernel, by decide +kernel⟩, List.mem_of_getElem? (i := 160) (by decide +kernel), List.mem_of_getElem? (i := 801) (by decide +kernel), List.mem_of_getElem? (i := 802) (by decide +kernel)⟩
theorem lw_p20 : lw_okq (⟨"LongerBack$Text", "takeWord", "(Ljava/lang/String;)Z"⟩, 7) := ⟨⟨by decide +kernel, by decide +kernel⟩, List.mem_of_getElem? (i := 160) (by decide +kernel), List.mem_of_getElem? (i := 806) (by decide +kernel), List.mem_of_getElem? (i := 807) (by decide +kernel)⟩
theorem lw_p21 : lw_okq (⟨"LongerBack$Text", "takeNumber", "(I)Z"⟩, 7) := ⟨⟨by decide +kernel, by decide +kernel⟩, List.mem_of_getElem? (i := 160) (by decide +kernel), List.mem_of_getElem? (i := 810) (by decide +kernel), List.mem_of_getElem? (i := 811) (by decide +kernel)⟩
theorem lw_p22 : lw_okq (⟨"LongerBack$Text", "takeWay", "(LLongerBack$Land;)Z"⟩, 7) := ⟨⟨by decide +kernel, by decide +kernel⟩, List.mem_of_getElem? (i := 160) (by decide +kernel), List.mem_of_getElem? (i := 816) (by decide +kernel), List.mem_of_getElem? (i := 817) (by decide +kernel)⟩
theorem lw_p23 : lw_okq (⟨"LongerBack$Text", "takeMile", "(II)Z"⟩, 7) := ⟨⟨by decide +kernel, by decide +kernel⟩, List.mem_of_getElem? (i := 160) (by decide +kernel), List.mem_of_getElem? (i := 820) (by decide +kernel), List.mem_of_getElem? (i := 821) (by decide +kernel)⟩
theorem lw_p24 : lw_okq (⟨"LongerBack$Text", "takeWayBack", "(LLongerBack$Land;II)Z"⟩, 7) := ⟨⟨by decide +kernel, by decide +kernel⟩, List.mem_of_getElem? (i := 160) (by decide +kernel), List.mem_of_getElem? (i := 827) (by decide +kernel), List.mem_of_getElem? (i := 828) (by decide +kernel)⟩
theorem lw_p25 : lw_okq (⟨"LongerBack$Text", "takeWalk", "(LLongerBack$Land;)Z"⟩, 7) := ⟨⟨by decide +kernel, by decide +kernel⟩, List.mem_of_getElem? (i := 160) (by decide +kernel), List.mem_of_getElem? (i := 832) (by decide +kernel), List.mem_of_getElem? (i := 833) (by decide +kernel)⟩
theorem lw_p26 : lw_okq (⟨"LongerBack$Text", "takeSlack", "(LLongerBack$Land;I)Z"⟩, 7) := ⟨⟨by decide +kernel, by decide +kernel⟩, List.mem_of_getElem? (i := 160) (by decide +kernel), List.mem_of_getElem? (i := 842) (by decide +kernel), List.mem_of_getElem? (i := 843) (by decide +kernel)⟩
theorem lw_p27 : lw_okq (⟨"LongerBack", "layWays", "(LLongerBack$Sheet;I)I"⟩, 12) := ⟨⟨by decide +kernel, by decide +kernel⟩, List.mem_of_getElem? (i := 18) (by decide +kernel), List.mem_of_getElem? (i := 885) (by decide +kernel), List.mem_of_getElem? (i := 886) (by decide +kernel)⟩
theorem lw_p28 : lw_okq (⟨"LongerBack", "readRow", "(LLongerBack$Sheet;)I"⟩, 12) := ⟨⟨by decide +kernel, by decide +kernel⟩, List.mem_of_getElem? (i := 18) (by decide +kernel), List.mem_of_getElem? (i := 895) (by decide +kernel), List.mem_of_getElem? (i := 896) (by decide +kernel)⟩
theorem lw_p29 : lw_okq (⟨"LongerBackModel", "finds", "(I)I"⟩, 27) := ⟨⟨by decide +kernel, by decide +kernel⟩, List.mem_of_getElem? (i := 923) (by decide +kernel), List.mem_of_getElem? (i := 1016) (by decide +kernel), List.mem_of_getElem? (i := 1017) (by decide +kernel)⟩
theorem lw_p30 : lw_okq (⟨"LongerBackModel", "newPlace", "()I"⟩, 27) := ⟨⟨by decide +kernel, by decide +kernel⟩, List.mem_of_getElem? (i := 923) (by decide +kernel), List.mem_of_getElem? (i := 1021) (by decide +kernel), List.mem_of_getElem? (i := 1022) (by decide +kernel)⟩
theorem lw_p31 : lw_okq (⟨"LongerBackModel", "isPlace", "(I)Z"⟩, 27) := ⟨⟨by decide +kernel, by decide +kernel⟩, List.mem_of_getElem? (i := 923) (by decide +kernel), List.mem_of_getElem? (i := 1029) (by decide +kernel), List.mem_of_getElem? (i := 1030) (by decide +kernel)⟩
def lw_privs_2 : List (MethodName × Nat) := [(⟨"LongerBack$Text", "kindAt", "(I)I"⟩, 7), (⟨"LongerBack$Text", "takeItem", "(LLongerBack$Land;)Z"⟩, 7), (⟨"LongerBack$Text", "isWord", "(Ljava/lang/String;)Z"⟩, 7), (⟨"LongerBack$Text", "takePlace", "(LLongerBack$Land;)Z"⟩, 7), (⟨"LongerBack$Text", "takeWord", "(Ljava/lang/String;)Z"⟩, 7), (⟨"LongerBack$Text", "takeNumber", "(I)Z"⟩, 7), (⟨"LongerBack$Text", "takeWay", "(LLongerBack$Land;)Z"⟩, 7), (⟨"LongerBack$Text", "takeMile", "(II)Z"⟩, 7), (⟨"LongerBack$Text", "takeWayBack", "(LLongerBack$Land;II)Z"⟩, 7), (⟨"LongerBack$Text", "takeWalk", "(LLongerBack$Land;)Z"⟩, 7), (⟨"LongerBack$Text", "takeSlack", "(LLongerBack$Land;I)Z"⟩, 7), (⟨"LongerBack", "layWays", "(LLongerBack$Sheet;I)I"⟩, 12), (⟨"LongerBack", "readRow", "(LLongerBack$Sheet;)I"⟩, 12), (⟨"LongerBackModel", "finds", "(I)I"⟩, 27), (⟨"LongerBackModel", "newPlace", "()I"⟩, 27), (⟨"LongerBackModel", "isPlace", "(I)Z"⟩, 27)]
theorem lw_r2 : ∀ q ∈ lw_privs_2, lw_okq q := List.forall_mem_cons.mpr ⟨lw_p16, List.forall_mem_cons.mpr ⟨lw_p17, List.forall_mem_cons.mpr ⟨lw_p18, List.forall_mem_cons.mpr ⟨lw_p19, List.forall_mem_cons.mpr ⟨lw_p20, List.forall_mem_cons.mpr ⟨lw_p21, List.forall_mem_cons.mpr ⟨lw_p22, List.forall_mem_cons.mpr ⟨lw_p23, List.forall_mem_cons.mpr ⟨lw_p24, List.forall_mem_cons.mpr ⟨lw_p25, List.forall_mem_cons.mpr ⟨lw_p26, List.forall_mem_cons.mpr ⟨lw_p27, List.forall_mem_cons.mpr ⟨lw_p28, List.forall_mem_cons.mpr ⟨lw_p29, List.forall_mem_cons.mpr ⟨lw_p30, List.forall_mem_cons.mpr ⟨lw_p31, fun _ h => absurd h List.not_mem_nil⟩⟩⟩⟩⟩⟩⟩⟩⟩⟩⟩⟩⟩⟩⟩⟩
theorem lw_p32 : lw_okq (⟨"LongerBackModel", "areTwo", "(II)Z"⟩, 27) := ⟨⟨by decide +kernel, by decide +kernel⟩, List.mem_of_getElem? (i := 923) (by decide +kernel), List.mem_of_getElem? (i := 1041) (by decide +kernel), List.mem_of_getElem? (i := 1042) (by decide +kernel)⟩
theorem lw_p33 : lw_okq (⟨"LongerBackModel", "makes", "(IIII)I"⟩, 27) := ⟨⟨by decide +kernel, by decide +kernel⟩, List.mem_of_getElem? (i := 923) (by decide +kernel), List.mem_of_getElem? (i := 1050) (by decide +kernel), List.mem_of_getElem? (i := 1051) (by decide +kernel)⟩
theorem lw_p34 : lw_okq (⟨"LongerBackModel", "isWay", "(II)Z"⟩, 27) := ⟨⟨by decide +kernel, by decide +kernel⟩, List.mem_of_getElem? (i := 923) (by decide +kernel), List.mem_of_getElem? (i := 1059) (by decide +kernel), List.mem_of_getElem? (i := 1060) (by decide +kernel)⟩
theorem lw_p35 : lw_okq (⟨"LongerBackModel", "findFar", "()V"⟩, 27) := ⟨⟨by decide +kernel, by decide +kernel⟩, List.mem_of_getElem? (i := 923) (by decide +kernel), List.mem_of_getElem? (i := 1072) (by decide +kernel), List.mem_of_getElem? (i := 1073) (by decide +kernel)⟩
theorem lw_p36 : lw_okq (⟨"LongerBackModel", "isOpen", "(II)Z"⟩, 27) := ⟨⟨by decide +kernel, by decide +kernel⟩, List.mem_of_getElem? (i := 923) (by decide +kernel), List.mem_of_getElem? (i := 1076) (by decide +kernel), List.mem_of_getElem? (i := 1077) (by decide +kernel)⟩
theorem lw_p37 : lw_okq (⟨"LongerBackModel", "miles", "(II)I"⟩, 27) := ⟨⟨by decide +kernel, by decide +kernel⟩, List.mem_of_getElem? (i := 923) (by decide +kernel), List.mem_of_getElem? (i := 1080) (by decide +kernel), List.mem_of_getElem? (i := 1081) (by decide +kernel)⟩
theorem lw_p38 : lw_okq (⟨"LongerBackModel", "joins", "(III)V"⟩, 27) := ⟨⟨by decide +kernel, by decide +kernel⟩, List.mem_of_getElem? (i := 923) (by decide +kernel), List.mem_of_getElem? (i := 1085) (by decide +kernel), List.mem_of_getElem? (i := 1086) (by decide +kernel)⟩
theorem lw_p39 : lw_okq (⟨"LongerBackModel", "isRound", "(I)Z"⟩, 27) := ⟨⟨by decide +kernel, by decide +kernel⟩, List.mem_of_getElem? (i := 923) (by decide +kernel), List.mem_of_getElem? (i := 1113) (by decide +kernel), List.mem_of_getElem? (i := 1114) (by decide +kernel)⟩
theorem lw_p40 : lw_okq (⟨"LongerBackModel", "comesTo", "(I)I"⟩, 27) := ⟨⟨by decide +kernel, by decide +kernel⟩, List.mem_of_getElem? (i := 923) (by decide +kernel), List.mem_of_getElem? (i := 1121) (by decide +kernel), List.mem_of_getElem? (i := 1122) (by decide +kernel)⟩
theorem lw_p41 : lw_okq (⟨"LongerBackModel", "of", "(II)I"⟩, 27) := ⟨⟨by decide +kernel, by decide +kernel⟩, List.mem_of_getElem? (i := 923) (by decide +kernel), List.mem_of_getElem? (i := 1125) (by decide +kernel), List.mem_of_getElem? (i := 1126) (by decide +kernel)⟩
theorem lw_p42 : lw_okq (⟨"LongerBackModel", "orders", "(IZ)V"⟩, 27) := ⟨⟨by decide +kernel, by decide +kernel⟩, List.mem_of_getElem? (i := 923) (by decide +kernel), List.mem_of_getElem? (i := 1129) (by decide +kernel), List.mem_of_getElem? (i := 1130) (by decide +kernel)⟩
theorem lw_p43 : lw_okq (⟨"LongerBackModel", "offers", "(IZ)V"⟩, 27) := ⟨⟨by decide +kernel, by decide +kernel⟩, List.mem_of_getElem? (i := 923) (by decide +kernel), List.mem_of_getElem? (i := 1133) (by decide +kernel), List.mem_of_getElem? (i := 1134) (by decide +kernel)⟩
theorem lw_p44 : lw_okq (⟨"LongerBackModel", "adds", "(I)V"⟩, 27) := ⟨⟨by decide +kernel, by decide +kernel⟩, List.mem_of_getElem? (i := 923) (by decide +kernel), List.mem_of_getElem? (i := 1137) (by decide +kernel), List.mem_of_getElem? (i := 1138) (by decide +kernel)⟩
theorem lw_p45 : lw_okq (⟨"LongerBackModel", "meets", "(II)V"⟩, 27) := ⟨⟨by decide +kernel, by decide +kernel⟩, List.mem_of_getElem? (i := 923) (by decide +kernel), List.mem_of_getElem? (i := 1141) (by decide +kernel), List.mem_of_getElem? (i := 1142) (by decide +kernel)⟩
theorem lw_p46 : lw_okq (⟨"LongerBackModel", "pairs", "(III)V"⟩, 27) := ⟨⟨by decide +kernel, by decide +kernel⟩, List.mem_of_getElem? (i := 923) (by decide +kernel), List.mem_of_getElem? (i := 1145) (by decide +kernel), List.mem_of_getElem? (i := 1146) (by decide +kernel)⟩
theorem lw_p47 : lw_okq (⟨"LongerBackModel", "told", "(II)I"⟩, 27) := ⟨⟨by decide +kernel, by decide +kernel⟩, List.mem_of_getElem? (i := 923) (by decide +kernel), List.mem_of_getElem? (i := 1149) (by decide +kernel), List.mem_of_getElem? (i := 1150) (by decide +kernel)⟩
def lw_privs_3 : List (MethodName × Nat) := [(⟨"LongerBackModel", "areTwo", "(II)Z"⟩, 27), (⟨"LongerBackModel", "makes", "(IIII)I"⟩, 27), (⟨"LongerBackModel", "isWay", "(II)Z"⟩, 27), (⟨"LongerBackModel", "findFar", "()V"⟩, 27), (⟨"LongerBackModel", "isOpen", "(II)Z"⟩, 27), (⟨"LongerBackModel", "miles", "(II)I"⟩, 27), (⟨"LongerBackModel", "joins", "(III)V"⟩, 27), (⟨"LongerBackModel", "isRound", "(I)Z"⟩, 27), (⟨"LongerBackModel", "comesTo", "(I)I"⟩, 27), (⟨"LongerBackModel", "of", "(II)I"⟩, 27), (⟨"LongerBackModel", "orders", "(IZ)V"⟩, 27), (⟨"LongerBackModel", "offers", "(IZ)V"⟩, 27), (⟨"LongerBackModel", "adds", "(I)V"⟩, 27), (⟨"LongerBackModel", "meets", "(II)V"⟩, 27), (⟨"LongerBackModel", "pairs", "(III)V"⟩, 27), (⟨"LongerBackModel", "told", "(II)I"⟩, 27)]
theorem lw_r3 : ∀ q ∈ lw_privs_3, lw_okq q := List.forall_mem_cons.mpr ⟨lw_p32, List.forall_mem_cons.mpr ⟨lw_p33, List.forall_mem_cons.mpr ⟨lw_p34, List.forall_mem_cons.mpr ⟨lw_p35, List.forall_mem_cons.mpr ⟨lw_p36, List.forall_mem_cons.mpr ⟨lw_p37, List.forall_mem_cons.mpr ⟨lw_p38, List.forall_mem_cons.mpr ⟨lw_p39, List.forall_mem_cons.mpr ⟨lw_p40, List.forall_mem_cons.mpr ⟨lw_p41, List.forall_mem_cons.mpr ⟨lw_p42, List.forall_mem_cons.mpr ⟨lw_p43, List.forall_mem_cons.mpr ⟨lw_p44, List.forall_mem_cons.mpr ⟨lw_p45, List.forall_mem_cons.mpr ⟨lw_p46, List.forall_mem_cons.mpr ⟨lw_p47, fun _ h => absurd h List.not_mem_nil⟩⟩⟩⟩⟩⟩⟩⟩⟩⟩⟩⟩⟩⟩⟩⟩
theorem lw_p48 : lw_okq (⟨"LongerBackModel", "closes", "(III)V"⟩, 27) := ⟨⟨by decide +kernel, by decide +kernel⟩, List.mem_of_getElem? (i := 923) (by decide +kernel), List.mem_of_getElem? (i := 1153) (by decide +kernel), List.mem_of_getElem? (i := 1154) (by decide +kernel)⟩
theorem lw_p49 : lw_okq (⟨"LongerBackModel", "home", "()I"⟩, 27) := ⟨⟨by decide +kernel, by decide +kernel⟩, List.mem_of_getElem? (i := 923) (by decide +kernel), List.mem_of_getElem? (i := 1172) (by decide +kernel), List.mem_of_getElem? (i := 1173) (by decide +kernel)⟩
theorem lw_p50 : lw_okq (⟨"LongerBackModel", "tripOf", "(I)I"⟩, 27) := ⟨⟨by decide +kernel, by decide +kernel⟩, List.mem_of_getElem? (i := 923) (by decide +kernel), List.mem_of_getElem? (i := 1176) (by decide +kernel), List.mem_of_getElem? (i := 1177) (by decide +kernel)⟩
theorem lw_p51 : lw_okq (⟨"LongerBackModel", "meeting", "(IIII)I"⟩, 27) := ⟨⟨by decide +kernel, by decide +kernel⟩, List.mem_of_getElem? (i := 923) (by decide +kernel), List.mem_of_getElem? (i := 1188) (by decide +kernel), List.mem_of_getElem? (i := 1189) (by decide +kernel)⟩
theorem lw_p52 : lw_okq (⟨"LongerBackModel", "findHeights", "()V"⟩, 27) := ⟨⟨by decide +kernel, by decide +kernel⟩, List.mem_of_getElem? (i := 923) (by decide +kernel), List.mem_of_getElem? (i := 1196) (by decide +kernel), List.mem_of_getElem? (i := 1197) (by decide +kernel)⟩
theorem lw_p53 : lw_okq (⟨"LongerBackModel", "spreads", "(I)V"⟩, 27) := ⟨⟨by decide +kernel, by decide +kernel⟩, List.mem_of_getElem? (i := 923) (by decide +kernel), List.mem_of_getElem? (i := 1200) (by decide +kernel), List.mem_of_getElem? (i := 1201) (by decide +kernel)⟩
theorem lw_p54 : lw_okq (⟨"LongerBackModel", "areBoth", "(II)Z"⟩, 27) := ⟨⟨by decide +kernel, by decide +kernel⟩, List.mem_of_getElem? (i := 923) (by decide +kernel), List.mem_of_getElem? (i := 1204) (by decide +kernel), List.mem_of_getElem? (i := 1205) (by decide +kernel)⟩
theorem lw_p55 : lw_okq (⟨"LongerBackModel", "newWalk", "(IIII)I"⟩, 27) := ⟨⟨by decide +kernel, by decide +kernel⟩, List.mem_of_getElem? (i := 923) (by decide +kernel), List.mem_of_getElem? (i := 1229) (by decide +kernel), List.mem_of_getElem? (i := 1230) (by decide +kernel)⟩
theorem lw_p56 : lw_okq (⟨"LongerBackModel", "learning", "()I"⟩, 27) := ⟨⟨by decide +kernel, by decide +kernel⟩, List.mem_of_getElem? (i := 923) (by decide +kernel), List.mem_of_getElem? (i := 1241) (by decide +kernel), List.mem_of_getElem? (i := 1242) (by decide +kernel)⟩
theorem lw_p57 : lw_okq (⟨"LongerBackModel", "learns", "(I)Z"⟩, 27) := ⟨⟨by decide +kernel, by decide +kernel⟩, List.mem_of_getElem? (i := 923) (by decide +kernel), List.mem_of_getElem? (i := 1245) (by decide +kernel), List.mem_of_getElem? (i := 1246) (by decide +kernel)⟩
theorem lw_p58 : lw_okq (⟨"LongerBackModel", "isWalked", "(I)Z"⟩, 27) := ⟨⟨by decide +kernel, by decide +kernel⟩, List.mem_of_getElem? (i := 923) (by decide +kernel), List.mem_of_getElem? (i := 1249) (by decide +kernel), List.mem_of_getElem? (i := 1250) (by decide +kernel)⟩
theorem lw_p59 : lw_okq (⟨"LongerBackModel", "wayAt", "(II)I"⟩, 27) := ⟨⟨by decide +kernel, by decide +kernel⟩, List.mem_of_getElem? (i := 923) (by decide +kernel), List.mem_of_getElem? (i := 1253) (by decide +kernel), List.mem_of_getElem? (i := 1254) (by decide +kernel)⟩
theorem lw_p60 : lw_okq (⟨"LongerBackModel", "puts", "()V"⟩, 27) := ⟨⟨by decide +kernel, by decide +kernel⟩, List.mem_of_getElem? (i := 923) (by decide +kernel), List.mem_of_getElem? (i := 1261) (by decide +kernel), List.mem_of_getElem? (i := 1262) (by decide +kernel)⟩
theorem lw_p61 : lw_okq (⟨"LongerBackModel", "putsBack", "()V"⟩, 27) := ⟨⟨by decide +kernel, by decide +kernel⟩, List.mem_of_getElem? (i := 923) (by decide +kernel), List.mem_of_getElem? (i := 1265) (by decide +kernel), List.mem_of_getElem? (i := 1266) (by decide +kernel)⟩
theorem lw_p62 : lw_okq (⟨"LongerBackModel", "between", "(I)I"⟩, 27) := ⟨⟨by decide +kernel, by decide +kernel⟩, List.mem_of_getElem? (i := 923) (by decide +kernel), List.mem_of_getElem? (i := 1273) (by decide +kernel), List.mem_of_getElem? (i := 1274) (by decide +kernel)⟩
theorem lw_p63 : lw_okq (⟨"LongerBackModel", "tripOfHome", "()I"⟩, 27) := ⟨⟨by decide +kernel, by decide +kernel⟩, List.mem_of_getElem? (i := 923) (by decide +kernel), List.mem_of_getElem? (i := 1285) (by decide +kernel), List.mem_of_getElem? (i := 1286) (by decide +kernel)⟩
def lw_privs_4 : List (MethodName × Nat) := [(⟨"LongerBackModel", "closes", "(III)V"⟩, 27), (⟨"LongerBackModel", "home", "()I"⟩, 27), (⟨"LongerBackModel", "tripOf", "(I)I"⟩, 27), (⟨"LongerBackModel", "meeting", "(IIII)I"⟩, 27), (⟨"LongerBackModel", "findHeights", "()V"⟩, 27), (⟨"LongerBackModel", "spreads", "(I)V"⟩, 27), (⟨"LongerBackModel", "areBoth", "(II)Z"⟩, 27), (⟨"LongerBackModel", "newWalk", "(IIII)I"⟩, 27), (⟨"LongerBackModel", "learning", "()I"⟩, 27), (⟨"LongerBackModel", "learns", "(I)Z"⟩, 27), (⟨"LongerBackModel", "isWalked", "(I)Z"⟩, 27), (⟨"LongerBackModel", "wayAt", "(II)I"⟩, 27), (⟨"LongerBackModel", "puts", "()V"⟩, 27), (⟨"LongerBackModel", "putsBack", "()V"⟩, 27), (⟨"LongerBackModel", "between", "(I)I"⟩, 27), (⟨"LongerBackModel", "tripOfHome", "()I"⟩, 27)]
theorem lw_r4 : ∀ q ∈ lw_privs_4, lw_okq q := List.forall_mem_cons.mpr ⟨lw_p48, List.forall_mem_cons.mpr ⟨lw_p49, List.forall_mem_cons.mpr ⟨lw_p50, List.forall_mem_cons.mpr ⟨lw_p51, List.forall_mem_cons.mpr ⟨lw_p52, List.forall_mem_cons.mpr ⟨lw_p53, List.forall_mem_cons.mpr ⟨lw_p54, List.forall_mem_cons.mpr ⟨lw_p55, List.forall_mem_cons.mpr ⟨lw_p56, List.forall_mem_cons.mpr ⟨lw_p57, List.forall_mem_cons.mpr ⟨lw_p58, List.forall_mem_cons.mpr ⟨lw_p59, List.forall_mem_cons.mpr ⟨lw_p60, List.forall_mem_cons.mpr ⟨lw_p61, List.forall_mem_cons.mpr ⟨lw_p62, List.forall_mem_cons.mpr ⟨lw_p63, fun _ h => absurd h List.not_mem_nil⟩⟩⟩⟩⟩⟩⟩⟩⟩⟩⟩⟩⟩⟩⟩⟩
theorem lw_p64 : lw_okq (⟨"LongerBackModel", "saving", "(III)I"⟩, 27) := ⟨⟨by decide +kernel, by decide +kernel⟩, List.mem_of_getElem? (i := 923) (by decide +kernel), List.mem_of_getElem? (i := 1289) (by decide +kernel), List.mem_of_getElem? (i := 1290) (by decide +kernel)⟩
theorem lw_p65 : lw_okq (⟨"LongerBackModel", "nearest", "(I)I"⟩, 27) := ⟨⟨by decide +kernel, by decide +kernel⟩, List.mem_of_getElem? (i := 923) (by decide +kernel), List.mem_of_getElem? (i := 1302) (by decide +kernel), List.mem_of_getElem? (i := 1303) (by decide +kernel)⟩
theorem lw_p66 : lw_okq (⟨"LongerBackModel", "next", "()V"⟩, 27) := ⟨⟨by decide +kernel, by decide +kernel⟩, List.mem_of_getElem? (i := 923) (by decide +kernel), List.mem_of_getElem? (i := 1323) (by decide +kernel), List.mem_of_getElem? (i := 1324) (by decide +kernel)⟩
theorem lw_p67 : lw_okq (⟨"LongerBackModel", "byteAt", "(I)I"⟩, 27) := ⟨⟨by decide +kernel, by decide +kernel⟩, List.mem_of_getElem? (i := 923) (by decide +kernel), List.mem_of_getElem? (i := 1327) (by decide +kernel), List.mem_of_getElem? (i := 1328) (by decide +kernel)⟩
theorem lw_p68 : lw_okq (⟨"LongerBackModel", "item", "()V"⟩, 27) := ⟨⟨by decide +kernel, by decide +kernel⟩, List.mem_of_getElem? (i := 923) (by decide +kernel), List.mem_of_getElem? (i := 1341) (by decide +kernel), List.mem_of_getElem? (i := 1342) (by decide +kernel)⟩
theorem lw_p69 : lw_okq (⟨"LongerBackModel", "isWord", "(IIIIIII)Z"⟩, 27) := ⟨⟨by decide +kernel, by decide +kernel⟩, List.mem_of_getElem? (i := 923) (by decide +kernel), List.mem_of_getElem? (i := 1345) (by decide +kernel), List.mem_of_getElem? (i := 1346) (by decide +kernel)⟩
theorem lw_p70 : lw_okq (⟨"LongerBackModel", "isAt", "(II)Z"⟩, 27) := ⟨⟨by decide +kernel, by decide +kernel⟩, List.mem_of_getElem? (i := 923) (by decide +kernel), List.mem_of_getElem? (i := 1349) (by decide +kernel), List.mem_of_getElem? (i := 1350) (by decide +kernel)⟩
theorem lw_p71 : lw_okq (⟨"LongerBackModel", "wayItem", "()V"⟩, 27) := ⟨⟨by decide +kernel, by decide +kernel⟩, List.mem_of_getElem? (i := 923) (by decide +kernel), List.mem_of_getElem? (i := 1353) (by decide +kernel), List.mem_of_getElem? (i := 1354) (by decide +kernel)⟩
theorem lw_p72 : lw_okq (⟨"LongerBackModel", "needs", "(Z)V"⟩, 27) := ⟨⟨by decide +kernel, by decide +kernel⟩, List.mem_of_getElem? (i := 923) (by decide +kernel), List.mem_of_getElem? (i := 1357) (by decide +kernel), List.mem_of_getElem? (i := 1358) (by decide +kernel)⟩
theorem lw_p73 : lw_okq (⟨"LongerBackModel", "number", "(II)V"⟩, 27) := ⟨⟨by decide +kernel, by decide +kernel⟩, List.mem_of_getElem? (i := 923) (by decide +kernel), List.mem_of_getElem? (i := 1361) (by decide +kernel), List.mem_of_getElem? (i := 1362) (by decide +kernel)⟩
theorem lw_p74 : lw_okq (⟨"LongerBackModel", "numberHere", "()I"⟩, 27) := ⟨⟨by decide +kernel, by decide +kernel⟩, List.mem_of_getElem? (i := 923) (by decide +kernel), List.mem_of_getElem? (i := 1365) (by decide +kernel), List.mem_of_getElem? (i := 1366) (by decide +kernel)⟩
theorem lw_p75 : lw_okq (⟨"LongerBackModel", "mile", "(II)V"⟩, 27) := ⟨⟨by decide +kernel, by decide +kernel⟩, List.mem_of_getElem? (i := 923) (by decide +kernel), List.mem_of_getElem? (i := 1369) (by decide +kernel), List.mem_of_getElem? (i := 1370) (by decide +kernel)⟩
theorem lw_p76 : lw_okq (⟨"LongerBackModel", "walkItem", "()V"⟩, 27) := ⟨⟨by decide +kernel, by decide +kernel⟩, List.mem_of_getElem? (i := 923) (by decide +kernel), List.mem_of_getElem? (i := 1373) (by decide +kernel), List.mem_of_getElem? (i := 1374) (by decide +kernel)⟩
theorem lw_p77 : lw_okq (⟨"LongerBackModel", "wrong", "(I)I"⟩, 27) := ⟨⟨by decide +kernel, by decide +kernel⟩, List.mem_of_getElem? (i := 923) (by decide +kernel), List.mem_of_getElem? (i := 1390) (by decide +kernel), List.mem_of_getElem? (i := 1391) (by decide +kernel)⟩
def lw_privs_5 : List (MethodName × Nat) := [(⟨"LongerBackModel", "saving", "(III)I"⟩, 27), (⟨"LongerBackModel", "nearest", "(I)I"⟩, 27), (⟨"LongerBackModel", "next", "()V"⟩, 27), (⟨"LongerBackModel", "byteAt", "(I)I"⟩, 27), (⟨"LongerBackModel", "item", "()V"⟩, 27), (⟨"LongerBackModel", "isWord", "(IIIIIII)Z"⟩, 27), (⟨"LongerBackModel", "isAt", "(II)Z"⟩, 27), (⟨"LongerBackModel", "wayItem", "()V"⟩, 27), (⟨"LongerBackModel", "needs", "(Z)V"⟩, 27), (⟨"LongerBackModel", "number", "(II)V"⟩, 27), (⟨"LongerBackModel", "numberHere", "()I"⟩, 27), (⟨"LongerBackModel", "mile", "(II)V"⟩, 27), (⟨"LongerBackModel", "walkItem", "()V"⟩, 27), (⟨"LongerBackModel", "wrong", "(I)I"⟩, 27)]
theorem lw_r5 : ∀ q ∈ lw_privs_5, lw_okq q := List.forall_mem_cons.mpr ⟨lw_p64, List.forall_mem_cons.mpr ⟨lw_p65, List.forall_mem_cons.mpr ⟨lw_p66, List.forall_mem_cons.mpr ⟨lw_p67, List.forall_mem_cons.mpr ⟨lw_p68, List.forall_mem_cons.mpr ⟨lw_p69, List.forall_mem_cons.mpr ⟨lw_p70, List.forall_mem_cons.mpr ⟨lw_p71, List.forall_mem_cons.mpr ⟨lw_p72, List.forall_mem_cons.mpr ⟨lw_p73, List.forall_mem_cons.mpr ⟨lw_p74, List.forall_mem_cons.mpr ⟨lw_p75, List.forall_mem_cons.mpr ⟨lw_p76, List.forall_mem_cons.mpr ⟨lw_p77, fun _ h => absurd h List.not_mem_nil⟩⟩⟩⟩⟩⟩⟩⟩⟩⟩⟩⟩⟩⟩
def lw_privs : List (MethodName × Nat) := lw_privs_1 ++ (lw_privs_2 ++ (lw_privs_3 ++ (lw_privs_4 ++ (lw_privs_5))))
def lw_tbl : List Cond := k2_sels lw_privs ++ tables_1
theorem lw_privs_ok : ∀ q ∈ lw_privs, lw_okq q := by
  show ∀ q ∈ lw_privs_1 ++ (lw_privs_2 ++ (lw_privs_3 ++ (lw_privs_4 ++ (lw_privs_5)))), lw_okq q
  exact List.forall_mem_append.mpr ⟨lw_r1, List.forall_mem_append.mpr ⟨lw_r2, List.forall_mem_append.mpr ⟨lw_r3, List.forall_mem_append.mpr ⟨lw_r4, lw_r5⟩⟩⟩⟩
end
section
/-! ===== BEGIN words of one list among another's, by their places ===== -/
theorem goodIn_r {big : List Cond} (ws : List Cond) (ps : List Nat) (hp : ws = ps.filterMap (fun i => big[i]?)) (h : ws.all goodWord = true) : GoodIn big ws := by
  intro w hw
  have h1 := List.all_eq_true.mp h w hw
  rw [hp] at hw
  obtain ⟨i, -, hi⟩ := List.mem_filterMap.mp hw
  have hm : w ∈ big := by first | exact List.mem_of_getElem? hi | exact List.getElem?_mem hi
  exact ⟨hm, good_of_word h1⟩
theorem goodIn_app {big a b : List Cond} (ha : GoodIn big a) (hb : GoodIn big b) : GoodIn big (a ++ b) := fun w h => (List.mem_append.mp h).elim (ha w) (hb w)
theorem goodIn_ca {big a b : List Cond} {c : Cond} (ha : GoodIn big (c :: a)) (hb : GoodIn big b) : GoodIn big (c :: (a ++ b)) := fun w h => (List.mem_cons.mp h).elim (fun e => ha w (List.mem_cons.mpr (Or.inl e))) (fun h => (List.mem_append.mp h).elim (fun h => ha w (List.mem_cons.mpr (Or.inr h))) (hb w))
theorem goodIn_sub {big ws : List Cond} (hm : ∀ w ∈ ws, w ∈ big) (h : ws.all goodWord = true) : GoodIn big ws := fun w hw => ⟨hm w hw, good_of_word (List.all_eq_true.mp h w hw)⟩
/-! ===== END ===== -/

/-! ===== BEGIN printed: names, fields, word lists, decode rows ===== -/
def RX0 : String := "LongerBack$Atlas"
def TX0 : u_T := fun k => match k with
  | 0 => ("LongerBack$Atlas", "places", "I", false)
  | _ => ("LongerBack$Atlas", "lengths", "[I", true)
def tyX0 : Nat → FieldType := fun k => match k with
  | 0 => .int
  | _ => .array .int
abbrev wsX00 : List Cond := u_ws RX0 TX0 2
theorem nmX0 : ∀ a, a < 2 → ∀ b, b < 2 → a ≠ b → (TX0 a).2.1 ≠ (TX0 b).2.1 := by decide +kernel
theorem tyX0_ok : ∀ k, k < 2 → parseFieldDescriptor (TX0 k).2.2.1 = some (tyX0 k) := by decide +kernel
abbrev cX0_init : ByteArray := prog_2_method_1_code
def yX0_init : MethodName := ⟨RX0, "<init>", "()V"⟩
abbrev cX0_measure : ByteArray := prog_2_method_2_code
def yX0_measure : MethodName := ⟨RX0, "measure", "(LLongerBack$Land;)V"⟩
abbrev cX0_oneWay : ByteArray := prog_2_method_3_code
def yX0_oneWay : MethodName := ⟨RX0, "oneWay", "(LLongerBack$Land;II)I"⟩
abbrev cX0_lengthOf : ByteArray := prog_2_method_4_code
def yX0_lengthOf : MethodName := ⟨RX0, "lengthOf", "(II)I"⟩
abbrev cX0_shortenOver : ByteArray := prog_2_method_5_code
def yX0_shortenOver : MethodName := ⟨RX0, "shortenOver", "(I)V"⟩
abbrev cX0_hasLoop : ByteArray := prog_2_method_6_code
def yX0_hasLoop : MethodName := ⟨RX0, "hasLoop", "()Z"⟩
abbrev cX0_loopSet : ByteArray := prog_2_method_7_code
def yX0_loopSet : MethodName := ⟨RX0, "loopSet", "()I"⟩
abbrev cX0_isBackAndForth : ByteArray := prog_2_method_8_code
def yX0_isBackAndForth : MethodName := ⟨RX0, "isBackAndForth", "(II)Z"⟩
abbrev cX0_farOf : ByteArray := prog_2_method_9_code
def yX0_farOf : MethodName := ⟨RX0, "farOf", "(II)I"⟩
abbrev cX0_waysOf : ByteArray := prog_2_method_10_code
def yX0_waysOf : MethodName := ⟨RX0, "waysOf", "(II)I"⟩
abbrev cX0_stopOf : ByteArray := prog_2_method_11_code
def yX0_stopOf : MethodName := ⟨RX0, "stopOf", "(LLongerBack$Land;III)I"⟩
abbrev cX0_nextStop : ByteArray := prog_2_method_12_code
def yX0_nextStop : MethodName := ⟨RX0, "nextStop", "(LLongerBack$Land;II)I"⟩
abbrev cX0_tripOf : ByteArray := prog_2_method_13_code
def yX0_tripOf : MethodName := ⟨RX0, "tripOf", "(LLongerBack$Land;I)I"⟩
abbrev cX0_homeOf : ByteArray := prog_2_method_14_code
def yX0_homeOf : MethodName := ⟨RX0, "homeOf", "(LLongerBack$Land;)I"⟩
abbrev cX0_leastTrip : ByteArray := prog_2_method_15_code
def yX0_leastTrip : MethodName := ⟨RX0, "leastTrip", "(LLongerBack$Land;)I"⟩
abbrev cX0_meetingOf : ByteArray := prog_2_method_16_code
def yX0_meetingOf : MethodName := ⟨RX0, "meetingOf", "(III)I"⟩
abbrev cX0_priceOf : ByteArray := prog_2_method_17_code
def yX0_priceOf : MethodName := ⟨RX0, "priceOf", "(IIII)I"⟩
abbrev cX0_mendFrom : ByteArray := prog_2_method_18_code
def yX0_mendFrom : MethodName := ⟨RX0, "mendFrom", "(LLongerBack$Atlas;LLongerBack$Land;II)Z"⟩
def RX1 : String := "LongerBack$Land"
def TX1 : u_T := fun k => match k with
  | 0 => ("LongerBack$Land", "places", "I", false)
  | 1 => ("LongerBack$Land", "errands", "[I", true)
  | 2 => ("LongerBack$Land", "low", "[I", true)
  | 3 => ("LongerBack$Land", "high", "[I", true)
  | 4 => ("LongerBack$Land", "doors", "[I", true)
  | 5 => ("LongerBack$Land", "rounds", "LLongerBack$Rows;", true)
  | 6 => ("LongerBack$Land", "kinds", "[I", true)
  | 7 => ("LongerBack$Land", "walks", "LLongerBack$Rows;", true)
  | 8 => ("LongerBack$Land", "totals", "[I", true)
  | _ => ("LongerBack$Land", "slacks", "[I", true)
def tyX1 : Nat → FieldType := fun k => match k with
  | 0 => .int
  | 1 => .array .int
  | 2 => .array .int
  | 3 => .array .int
  | 4 => .array .int
  | 5 => .object "LongerBack$Rows"
  | 6 => .array .int
  | 7 => .object "LongerBack$Rows"
  | 8 => .array .int
  | _ => .array .int
abbrev wsX10 : List Cond := u_ws RX1 TX1 10
theorem nmX1 : ∀ a, a < 10 → ∀ b, b < 10 → a ≠ b → (TX1 a).2.1 ≠ (TX1 b).2.1 := by decide +kernel
theorem tyX1_ok : ∀ k, k < 10 → parseFieldDescriptor (TX1 k).2.2.1 = some (tyX1 k) := by decide +kernel
abbrev cX1_init : ByteArray := prog_3_method_1_code
def yX1_init : MethodName := ⟨RX1, "<init>", "()V"⟩
abbrev cX1_become : ByteArray := prog_3_method_2_code
def yX1_become : MethodName := ⟨RX1, "become", "(LLongerBack$Land;)V"⟩
abbrev cX1_isPlace : ByteArray := prog_3_method_3_code
def yX1_isPlace : MethodName := ⟨RX1, "isPlace", "(J)Z"⟩
abbrev cX1_areTwo : ByteArray := prog_3_method_4_code
def yX1_areTwo : MethodName := ⟨RX1, "areTwo", "(II)Z"⟩
abbrev cX1_wayAt : ByteArray := prog_3_method_5_code
def yX1_wayAt : MethodName := ⟨RX1, "wayAt", "(II)I"⟩
abbrev cX1_isThere : ByteArray := prog_3_method_6_code
def yX1_isThere : MethodName := ⟨RX1, "isThere", "(II)Z"⟩
abbrev cX1_isOpen : ByteArray := prog_3_method_7_code
def yX1_isOpen : MethodName := ⟨RX1, "isOpen", "(II)Z"⟩
abbrev cX1_areBothWays : ByteArray := prog_3_method_8_code
def yX1_areBothWays : MethodName := ⟨RX1, "areBothWays", "(II)Z"⟩
abbrev cX1_lowOf : ByteArray := prog_3_method_9_code
def yX1_lowOf : MethodName := ⟨RX1, "lowOf", "(II)I"⟩
abbrev cX1_highOf : ByteArray := prog_3_method_10_code
def yX1_highOf : MethodName := ⟨RX1, "highOf", "(II)I"⟩
abbrev cX1_addPlace : ByteArray := prog_3_method_11_code
def yX1_addPlace : MethodName := ⟨RX1, "addPlace", "(I)I"⟩
abbrev cX1_setWay : ByteArray := prog_3_method_12_code
def yX1_setWay : MethodName := ⟨RX1, "setWay", "(IIII)V"⟩
abbrev cX1_setShut : ByteArray := prog_3_method_13_code
def yX1_setShut : MethodName := ⟨RX1, "setShut", "(IIZ)V"⟩
abbrev cX1_addRound : ByteArray := prog_3_method_14_code
def yX1_addRound : MethodName := ⟨RX1, "addRound", "(II)I"⟩
abbrev cX1_addWalk : ByteArray := prog_3_method_15_code
def yX1_addWalk : MethodName := ⟨RX1, "addWalk", "(III)I"⟩
abbrev cX1_allErrands : ByteArray := prog_3_method_16_code
def yX1_allErrands : MethodName := ⟨RX1, "allErrands", "()I"⟩
abbrev cX1_countWays : ByteArray := prog_3_method_17_code
def yX1_countWays : MethodName := ⟨RX1, "countWays", "()I"⟩
abbrev cX1_countUnknown : ByteArray := prog_3_method_18_code
def yX1_countUnknown : MethodName := ⟨RX1, "countUnknown", "()I"⟩
abbrev cX1_allBetweenEnds : ByteArray := prog_3_method_19_code
def yX1_allBetweenEnds : MethodName := ⟨RX1, "allBetweenEnds", "()I"⟩
abbrev cX1_widestWay : ByteArray := prog_3_method_20_code
def yX1_widestWay : MethodName := ⟨RX1, "widestWay", "()I"⟩
abbrev cX1_nearestOf : ByteArray := prog_3_method_21_code
def yX1_nearestOf : MethodName := ⟨RX1, "nearestOf", "(I)I"⟩
abbrev cX1_comesTo : ByteArray := prog_3_method_22_code
def yX1_comesTo : MethodName := ⟨RX1, "comesTo", "(II)I"⟩
abbrev cX1_hollowSet : ByteArray := prog_3_method_23_code
def yX1_hollowSet : MethodName := ⟨RX1, "hollowSet", "()I"⟩
def RX2 : String := "LongerBack$Learner"
def TX2 : u_T := fun k => match k with
  | 0 => ("LongerBack$Learner", "liars", "I", false)
  | _ => ("LongerBack$Learner", "isChanged", "Z", false)
def tyX2 : Nat → FieldType := fun k => match k with
  | 0 => .int
  | _ => .boolean
abbrev wsX20 : List Cond := u_ws RX2 TX2 2
theorem nmX2 : ∀ a, a < 2 → ∀ b, b < 2 → a ≠ b → (TX2 a).2.1 ≠ (TX2 b).2.1 := by decide +kernel
theorem tyX2_ok : ∀ k, k < 2 → parseFieldDescriptor (TX2 k).2.2.1 = some (tyX2 k) := by decide +kernel
abbrev cX2_init : ByteArray := prog_4_method_1_code
def yX2_init : MethodName := ⟨RX2, "<init>", "()V"⟩
abbrev cX2_learnIn : ByteArray := prog_4_method_2_code
def yX2_learnIn : MethodName := ⟨RX2, "learnIn", "(LLongerBack$Land;)I"⟩
abbrev cX2_isBelieved : ByteArray := prog_4_method_3_code
def yX2_isBelieved : MethodName := ⟨RX2, "isBelieved", "(LLongerBack$Land;I)Z"⟩
abbrev cX2_wayOn : ByteArray := prog_4_method_4_code
def yX2_wayOn : MethodName := ⟨RX2, "wayOn", "(LLongerBack$Land;II)I"⟩
abbrev cX2_narrow : ByteArray := prog_4_method_5_code
def yX2_narrow : MethodName := ⟨RX2, "narrow", "(LLongerBack$Land;II)Z"⟩
def RX3 : String := "LongerBack$Rows"
def TX3 : u_T := fun k => match k with
  | 0 => ("LongerBack$Rows", "count", "I", false)
  | 1 => ("LongerBack$Rows", "lengths", "[I", true)
  | _ => ("LongerBack$Rows", "stops", "[I", true)
def tyX3 : Nat → FieldType := fun k => match k with
  | 0 => .int
  | 1 => .array .int
  | _ => .array .int
abbrev wsX30 : List Cond := u_ws RX3 TX3 3
theorem nmX3 : ∀ a, a < 3 → ∀ b, b < 3 → a ≠ b → (TX3 a).2.1 ≠ (TX3 b).2.1 := by decide +kernel
theorem tyX3_ok : ∀ k, k < 3 → parseFieldDescriptor (TX3 k).2.2.1 = some (tyX3 k) := by decide +kernel
abbrev cX3_init : ByteArray := prog_5_method_1_code
def yX3_init : MethodName := ⟨RX3, "<init>", "()V"⟩
abbrev cX3_has : ByteArray := prog_5_method_2_code
def yX3_has : MethodName := ⟨RX3, "has", "(I)Z"⟩
abbrev cX3_isFull : ByteArray := prog_5_method_3_code
def yX3_isFull : MethodName := ⟨RX3, "isFull", "()Z"⟩
abbrev cX3_isFullRow : ByteArray := prog_5_method_4_code
def yX3_isFullRow : MethodName := ⟨RX3, "isFullRow", "(I)Z"⟩
abbrev cX3_begin : ByteArray := prog_5_method_5_code
def yX3_begin : MethodName := ⟨RX3, "begin", "(I)I"⟩
abbrev cX3_append : ByteArray := prog_5_method_6_code
def yX3_append : MethodName := ⟨RX3, "append", "(II)I"⟩
abbrev cX3_stop : ByteArray := prog_5_method_7_code
def yX3_stop : MethodName := ⟨RX3, "stop", "(II)I"⟩
abbrev cX3_lastStop : ByteArray := prog_5_method_8_code
def yX3_lastStop : MethodName := ⟨RX3, "lastStop", "(I)I"⟩
abbrev cX3_become : ByteArray := prog_5_method_9_code
def yX3_become : MethodName := ⟨RX3, "become", "(LLongerBack$Rows;)V"⟩
def RX4 : String := "LongerBack$Sheet"
def TX4 : u_T := fun k => match k with
  | 0 => ("LongerBack$Sheet", "bits", "I", false)
  | 1 => ("LongerBack$Sheet", "size", "I", false)
  | _ => ("LongerBack$Sheet", "numbers", "[J", true)
def tyX4 : Nat → FieldType := fun k => match k with
  | 0 => .int
  | 1 => .int
  | _ => .array .long
abbrev wsX40 : List Cond := u_ws RX4 TX4 3
theorem nmX4 : ∀ a, a < 3 → ∀ b, b < 3 → a ≠ b → (TX4 a).2.1 ≠ (TX4 b).2.1 := by decide +kernel
theorem tyX4_ok : ∀ k, k < 3 → parseFieldDescriptor (TX4 k).2.2.1 = some (tyX4 k) := by decide +kernel
abbrev cX4_init : ByteArray := prog_6_method_1_code
def yX4_init : MethodName := ⟨RX4, "<init>", "()V"⟩
abbrev cX4_isMissing : ByteArray := prog_6_method_2_code
def yX4_isMissing : MethodName := ⟨RX4, "isMissing", "()Z"⟩
abbrev cX4_begin : ByteArray := prog_6_method_3_code
def yX4_begin : MethodName := ⟨RX4, "begin", "(II)V"⟩
abbrev cX4_lowestBits : ByteArray := prog_6_method_4_code
def yX4_lowestBits : MethodName := ⟨RX4, "lowestBits", "(J)J"⟩
abbrev cX4_hasSpan : ByteArray := prog_6_method_5_code
def yX4_hasSpan : MethodName := ⟨RX4, "hasSpan", "(II)Z"⟩
def RX5 : String := "LongerBack$Slopes"
def TX5 : u_T := fun k => match k with
  | 0 => ("LongerBack$Slopes", "heights", "[I", true)
  | 1 => ("LongerBack$Slopes", "isClimbed", "[Z", true)
  | _ => ("LongerBack$Slopes", "queue", "[I", true)
def tyX5 : Nat → FieldType := fun k => match k with
  | 0 => .array .int
  | 1 => .array .boolean
  | _ => .array .int
abbrev wsX50 : List Cond := u_ws RX5 TX5 3
theorem nmX5 : ∀ a, a < 3 → ∀ b, b < 3 → a ≠ b → (TX5 a).2.1 ≠ (TX5 b).2.1 := by decide +kernel
theorem tyX5_ok : ∀ k, k < 3 → parseFieldDescriptor (TX5 k).2.2.1 = some (tyX5 k) := by decide +kernel
abbrev cX5_init : ByteArray := prog_7_method_1_code
def yX5_init : MethodName := ⟨RX5, "<init>", "()V"⟩
abbrev cX5_climb : ByteArray := prog_7_method_2_code
def yX5_climb : MethodName := ⟨RX5, "climb", "(LLongerBack$Land;)V"⟩
abbrev cX5_climbFrom : ByteArray := prog_7_method_3_code
def yX5_climbFrom : MethodName := ⟨RX5, "climbFrom", "(LLongerBack$Land;I)V"⟩
abbrev cX5_doFit : ByteArray := prog_7_method_4_code
def yX5_doFit : MethodName := ⟨RX5, "doFit", "(LLongerBack$Land;)Z"⟩
abbrev cX5_riseOf : ByteArray := prog_7_method_5_code
def yX5_riseOf : MethodName := ⟨RX5, "riseOf", "(LLongerBack$Land;II)I"⟩
abbrev cX5_paperOf : ByteArray := prog_7_method_6_code
def yX5_paperOf : MethodName := ⟨RX5, "paperOf", "(LLongerBack$Land;II)I"⟩
abbrev cX5_mostOffPaper : ByteArray := prog_7_method_7_code
def yX5_mostOffPaper : MethodName := ⟨RX5, "mostOffPaper", "(LLongerBack$Land;)I"⟩
def RX6 : String := "LongerBack$Sums"
def TX6 : u_T := fun k => match k with
  | _ => ("LongerBack$Sums", "least", "[I", true)
def tyX6 : Nat → FieldType := fun k => match k with
  | _ => .array .int
abbrev wsX60 : List Cond := u_ws RX6 TX6 1
theorem nmX6 : ∀ a, a < 1 → ∀ b, b < 1 → a ≠ b → (TX6 a).2.1 ≠ (TX6 b).2.1 := by decide +kernel
theorem tyX6_ok : ∀ k, k < 1 → parseFieldDescriptor (TX6 k).2.2.1 = some (tyX6 k) := by decide +kernel
abbrev cX6_init : ByteArray := prog_8_method_1_code
def yX6_init : MethodName := ⟨RX6, "<init>", "()V"⟩
abbrev cX6_sumOf : ByteArray := prog_8_method_2_code
def yX6_sumOf : MethodName := ⟨RX6, "sumOf", "(LLongerBack$Land;LLongerBack$Atlas;I)I"⟩
abbrev cX6_stopBehind : ByteArray := prog_8_method_3_code
def yX6_stopBehind : MethodName := ⟨RX6, "stopBehind", "(LLongerBack$Rows;II)I"⟩
abbrev cX6_roundSum : ByteArray := prog_8_method_4_code
def yX6_roundSum : MethodName := ⟨RX6, "roundSum", "(LLongerBack$Rows;LLongerBack$Atlas;I)I"⟩
abbrev cX6_toldSum : ByteArray := prog_8_method_5_code
def yX6_toldSum : MethodName := ⟨RX6, "toldSum", "(LLongerBack$Land;IZ)I"⟩
abbrev cX6_toldWay : ByteArray := prog_8_method_6_code
def yX6_toldWay : MethodName := ⟨RX6, "toldWay", "(LLongerBack$Land;II)I"⟩
abbrev cX6_meetSum : ByteArray := prog_8_method_7_code
def yX6_meetSum : MethodName := ⟨RX6, "meetSum", "(LLongerBack$Land;LLongerBack$Atlas;I)I"⟩
abbrev cX6_pairsSum : ByteArray := prog_8_method_8_code
def yX6_pairsSum : MethodName := ⟨RX6, "pairsSum", "(LLongerBack$Rows;LLongerBack$Atlas;I)I"⟩
abbrev cX6_bestSum : ByteArray := prog_8_method_9_code
def yX6_bestSum : MethodName := ⟨RX6, "bestSum", "(LLongerBack$Rows;LLongerBack$Atlas;IZ)I"⟩
abbrev cX6_orderStops : ByteArray := prog_8_method_10_code
def yX6_orderStops : MethodName := ⟨RX6, "orderStops", "(LLongerBack$Rows;LLongerBack$Atlas;I)V"⟩
abbrev cX6_goOnFrom : ByteArray := prog_8_method_11_code
def yX6_goOnFrom : MethodName := ⟨RX6, "goOnFrom", "(LLongerBack$Rows;LLongerBack$Atlas;III)V"⟩
def RX7 : String := "LongerBack$Text"
def TX7 : u_T := fun k => match k with
  | 0 => ("LongerBack$Text", "size", "I", false)
  | 1 => ("LongerBack$Text", "bytes", "[I", true)
  | 2 => ("LongerBack$Text", "token", "I", false)
  | 3 => ("LongerBack$Text", "start", "I", false)
  | 4 => ("LongerBack$Text", "next", "I", false)
  | 5 => ("LongerBack$Text", "value", "I", false)
  | _ => ("LongerBack$Text", "taken", "I", false)
def tyX7 : Nat → FieldType := fun k => match k with
  | 0 => .int
  | 1 => .array .int
  | 2 => .int
  | 3 => .int
  | 4 => .int
  | 5 => .int
  | _ => .int
abbrev wsX70 : List Cond := u_ws RX7 TX7 7
theorem nmX7 : ∀ a, a < 7 → ∀ b, b < 7 → a ≠ b → (TX7 a).2.1 ≠ (TX7 b).2.1 := by decide +kernel
theorem tyX7_ok : ∀ k, k < 7 → parseFieldDescriptor (TX7 k).2.2.1 = some (tyX7 k) := by decide +kernel
abbrev cX7_init : ByteArray := prog_9_method_1_code
def yX7_init : MethodName := ⟨RX7, "<init>", "()V"⟩
abbrev cX7_addByte : ByteArray := prog_9_method_2_code
def yX7_addByte : MethodName := ⟨RX7, "addByte", "(I)V"⟩
abbrev cX7_tellTo : ByteArray := prog_9_method_3_code
def yX7_tellTo : MethodName := ⟨RX7, "tellTo", "(LLongerBack$Land;)I"⟩
abbrev cX7_takeItem : ByteArray := prog_9_method_4_code
def yX7_takeItem : MethodName := ⟨RX7, "takeItem", "(LLongerBack$Land;)Z"⟩
abbrev cX7_takePlace : ByteArray := prog_9_method_5_code
def yX7_takePlace : MethodName := ⟨RX7, "takePlace", "(LLongerBack$Land;)Z"⟩
abbrev cX7_takeWay : ByteArray := prog_9_method_6_code
def yX7_takeWay : MethodName := ⟨RX7, "takeWay", "(LLongerBack$Land;)Z"⟩
abbrev cX7_takeWayBack : ByteArray := prog_9_method_7_code
def yX7_takeWayBack : MethodName := ⟨RX7, "takeWayBack", "(LLongerBack$Land;II)Z"⟩
abbrev cX7_takeWalk : ByteArray := prog_9_method_8_code
def yX7_takeWalk : MethodName := ⟨RX7, "takeWalk", "(LLongerBack$Land;)Z"⟩
abbrev cX7_takeSlack : ByteArray := prog_9_method_9_code
def yX7_takeSlack : MethodName := ⟨RX7, "takeSlack", "(LLongerBack$Land;I)Z"⟩
abbrev cX7_takeWord : ByteArray := prog_9_method_10_code
def yX7_takeWord : MethodName := ⟨RX7, "takeWord", "(Ljava/lang/String;)Z"⟩
abbrev cX7_takeNumber : ByteArray := prog_9_method_11_code
def yX7_takeNumber : MethodName := ⟨RX7, "takeNumber", "(I)Z"⟩
abbrev cX7_takeMile : ByteArray := prog_9_method_12_code
def yX7_takeMile : MethodName := ⟨RX7, "takeMile", "(II)Z"⟩
abbrev cX7_isWord : ByteArray := prog_9_method_13_code
def yX7_isWord : MethodName := ⟨RX7, "isWord", "(Ljava/lang/String;)Z"⟩
abbrev cX7_step : ByteArray := prog_9_method_14_code
def yX7_step : MethodName := ⟨RX7, "step", "()V"⟩
abbrev cX7_kindAt : ByteArray := prog_9_method_15_code
def yX7_kindAt : MethodName := ⟨RX7, "kindAt", "(I)I"⟩
def RX8 : String := "LongerBack"
def TX8 : u_T := fun k => match k with
  | 0 => ("LongerBack", "here", "LLongerBack$Land;", true)
  | 1 => ("LongerBack", "kept", "LLongerBack$Land;", true)
  | 2 => ("LongerBack", "draft", "LLongerBack$Land;", true)
  | 3 => ("LongerBack", "isKept", "Z", false)
  | 4 => ("LongerBack", "atlas", "LLongerBack$Atlas;", true)
  | 5 => ("LongerBack", "mended", "LLongerBack$Atlas;", true)
  | 6 => ("LongerBack", "sums", "LLongerBack$Sums;", true)
  | 7 => ("LongerBack", "slopes", "LLongerBack$Slopes;", true)
  | 8 => ("LongerBack", "learner", "LLongerBack$Learner;", true)
  | 9 => ("LongerBack", "text", "LLongerBack$Text;", true)
  | 10 => ("LongerBack", "sheets", "[LLongerBack$Sheet;", true)
  | _ => ("LongerBack", "found", "[I", true)
def tyX8 : Nat → FieldType := fun k => match k with
  | 0 => .object "LongerBack$Land"
  | 1 => .object "LongerBack$Land"
  | 2 => .object "LongerBack$Land"
  | 3 => .boolean
  | 4 => .object "LongerBack$Atlas"
  | 5 => .object "LongerBack$Atlas"
  | 6 => .object "LongerBack$Sums"
  | 7 => .object "LongerBack$Slopes"
  | 8 => .object "LongerBack$Learner"
  | 9 => .object "LongerBack$Text"
  | 10 => .array (.object "LongerBack$Sheet")
  | _ => .array .int
abbrev wsX80 : List Cond := u_ws RX8 TX8 12
theorem nmX8 : ∀ a, a < 12 → ∀ b, b < 12 → a ≠ b → (TX8 a).2.1 ≠ (TX8 b).2.1 := by decide +kernel
theorem tyX8_ok : ∀ k, k < 12 → parseFieldDescriptor (TX8 k).2.2.1 = some (tyX8 k) := by decide +kernel
abbrev cX8_init : ByteArray := prog_1_method_1_code
def yX8_init : MethodName := ⟨RX8, "<init>", "()V"⟩
abbrev cX8_place : ByteArray := prog_1_method_2_code
def yX8_place : MethodName := ⟨RX8, "place", "()I"⟩
abbrev cX8_errands : ByteArray := prog_1_method_3_code
def yX8_errands : MethodName := ⟨RX8, "errands", "(II)I"⟩
abbrev cX8_way : ByteArray := prog_1_method_4_code
def yX8_way : MethodName := ⟨RX8, "way", "(IIII)I"⟩
abbrev cX8_wayOf : ByteArray := prog_1_method_5_code
def yX8_wayOf : MethodName := ⟨RX8, "wayOf", "(III)I"⟩
abbrev cX8_shut : ByteArray := prog_1_method_6_code
def yX8_shut : MethodName := ⟨RX8, "shut", "(IIZ)I"⟩
abbrev cX8_far : ByteArray := prog_1_method_7_code
def yX8_far : MethodName := ⟨RX8, "far", "(II)I"⟩
abbrev cX8_by : ByteArray := prog_1_method_8_code
def yX8_by : MethodName := ⟨RX8, "by", "(III)I"⟩
abbrev cX8_loops : ByteArray := prog_1_method_9_code
def yX8_loops : MethodName := ⟨RX8, "loops", "()I"⟩
abbrev cX8_longer : ByteArray := prog_1_method_10_code
def yX8_longer : MethodName := ⟨RX8, "longer", "(II)I"⟩
abbrev cX8_round : ByteArray := prog_1_method_11_code
def yX8_round : MethodName := ⟨RX8, "round", "(II)I"⟩
abbrev cX8_over : ByteArray := prog_1_method_12_code
def yX8_over : MethodName := ⟨RX8, "over", "(II)I"⟩
abbrev cX8_sum : ByteArray := prog_1_method_13_code
def yX8_sum : MethodName := ⟨RX8, "sum", "(I)I"⟩
abbrev cX8_roundOf : ByteArray := prog_1_method_14_code
def yX8_roundOf : MethodName := ⟨RX8, "roundOf", "(II)I"⟩
abbrev cX8_as : ByteArray := prog_1_method_15_code
def yX8_as : MethodName := ⟨RX8, "as", "(II)I"⟩
abbrev cX8_live : ByteArray := prog_1_method_16_code
def yX8_live : MethodName := ⟨RX8, "live", "()I"⟩
abbrev cX8_trip : ByteArray := prog_1_method_17_code
def yX8_trip : MethodName := ⟨RX8, "trip", "(I)I"⟩
abbrev cX8_meet : ByteArray := prog_1_method_18_code
def yX8_meet : MethodName := ⟨RX8, "meet", "(III)I"⟩
abbrev cX8_fit : ByteArray := prog_1_method_19_code
def yX8_fit : MethodName := ⟨RX8, "fit", "()I"⟩
abbrev cX8_height : ByteArray := prog_1_method_20_code
def yX8_height : MethodName := ⟨RX8, "height", "(I)I"⟩
abbrev cX8_paper : ByteArray := prog_1_method_21_code
def yX8_paper : MethodName := ⟨RX8, "paper", "(II)I"⟩
abbrev cX8_worst : ByteArray := prog_1_method_22_code
def yX8_worst : MethodName := ⟨RX8, "worst", "()I"⟩
abbrev cX8_walk : ByteArray := prog_1_method_23_code
def yX8_walk : MethodName := ⟨RX8, "walk", "(IIII)I"⟩
abbrev cX8_on : ByteArray := prog_1_method_24_code
def yX8_on : MethodName := ⟨RX8, "on", "(II)I"⟩
abbrev cX8_learn : ByteArray := prog_1_method_25_code
def yX8_learn : MethodName := ⟨RX8, "learn", "()I"⟩
abbrev cX8_lies : ByteArray := prog_1_method_26_code
def yX8_lies : MethodName := ⟨RX8, "lies", "()I"⟩
abbrev cX8_known : ByteArray := prog_1_method_27_code
def yX8_known : MethodName := ⟨RX8, "known", "(I)I"⟩
abbrev cX8_ask : ByteArray := prog_1_method_28_code
def yX8_ask : MethodName := ⟨RX8, "ask", "()I"⟩
abbrev cX8_saves : ByteArray := prog_1_method_29_code
def yX8_saves : MethodName := ⟨RX8, "saves", "(II)I"⟩
abbrev cX8_mend : ByteArray := prog_1_method_30_code
def yX8_mend : MethodName := ⟨RX8, "mend", "()I"⟩
abbrev cX8_goes : ByteArray := prog_1_method_31_code
def yX8_goes : MethodName := ⟨RX8, "goes", "(II)I"⟩
abbrev cX8_hollow : ByteArray := prog_1_method_32_code
def yX8_hollow : MethodName := ⟨RX8, "hollow", "()I"⟩
abbrev cX8_feed : ByteArray := prog_1_method_33_code
def yX8_feed : MethodName := ⟨RX8, "feed", "(II)I"⟩
abbrev cX8_wipe : ByteArray := prog_1_method_34_code
def yX8_wipe : MethodName := ⟨RX8, "wipe", "()I"⟩
abbrev cX8_land : ByteArray := prog_1_method_35_code
def yX8_land : MethodName := ⟨RX8, "land", "()I"⟩
abbrev cX8_sheet : ByteArray := prog_1_method_36_code
def yX8_sheet : MethodName := ⟨RX8, "sheet", "(III)I"⟩
abbrev cX8_write : ByteArray := prog_1_method_37_code
def yX8_write : MethodName := ⟨RX8, "write", "(IIJ)J"⟩
abbrev cX8_copy : ByteArray := prog_1_method_38_code
def yX8_copy : MethodName := ⟨RX8, "copy", "(IIIII)I"⟩
abbrev cX8_lays : ByteArray := prog_1_method_39_code
def yX8_lays : MethodName := ⟨RX8, "lays", "(II)I"⟩
abbrev cX8_read : ByteArray := prog_1_method_40_code
def yX8_read : MethodName := ⟨RX8, "read", "(I)I"⟩
abbrev cX8_image : ByteArray := prog_1_method_41_code
def yX8_image : MethodName := ⟨RX8, "image", "()I"⟩
abbrev cX8_undo : ByteArray := prog_1_method_42_code
def yX8_undo : MethodName := ⟨RX8, "undo", "()I"⟩
abbrev cX8_tear : ByteArray := prog_1_method_43_code
def yX8_tear : MethodName := ⟨RX8, "tear", "()I"⟩
abbrev cX8_count : ByteArray := prog_1_method_44_code
def yX8_count : MethodName := ⟨RX8, "count", "(I)I"⟩
abbrev cX8_status : ByteArray := prog_1_method_45_code
def yX8_status : MethodName := ⟨RX8, "status", "(I)I"⟩
abbrev cX8_finding : ByteArray := prog_1_method_46_code
def yX8_finding : MethodName := ⟨RX8, "finding", "(I)I"⟩
abbrev cX8_lengthOrNone : ByteArray := prog_1_method_47_code
def yX8_lengthOrNone : MethodName := ⟨RX8, "lengthOrNone", "(I)I"⟩
abbrev cX8_isLooped : ByteArray := prog_1_method_48_code
def yX8_isLooped : MethodName := ⟨RX8, "isLooped", "()Z"⟩
abbrev cX8_bestToMend : ByteArray := prog_1_method_49_code
def yX8_bestToMend : MethodName := ⟨RX8, "bestToMend", "(I)I"⟩
abbrev cX8_layWays : ByteArray := prog_1_method_50_code
def yX8_layWays : MethodName := ⟨RX8, "layWays", "(LLongerBack$Sheet;I)I"⟩
abbrev cX8_readRow : ByteArray := prog_1_method_51_code
def yX8_readRow : MethodName := ⟨RX8, "readRow", "(LLongerBack$Sheet;)I"⟩
abbrev cX8_isSheet : ByteArray := prog_1_method_52_code
def yX8_isSheet : MethodName := ⟨RX8, "isSheet", "(I)Z"⟩
abbrev cX8_isKind : ByteArray := prog_1_method_53_code
def yX8_isKind : MethodName := ⟨RX8, "isKind", "(I)Z"⟩
abbrev cX8_isUnder : ByteArray := prog_1_method_54_code
def yX8_isUnder : MethodName := ⟨RX8, "isUnder", "(II)Z"⟩
abbrev cX8_isWithin : ByteArray := prog_1_method_55_code
def yX8_isWithin : MethodName := ⟨RX8, "isWithin", "(III)Z"⟩
abbrev cX8_areEnds : ByteArray := prog_1_method_56_code
def yX8_areEnds : MethodName := ⟨RX8, "areEnds", "(II)Z"⟩
abbrev cX8_together : ByteArray := prog_1_method_57_code
def yX8_together : MethodName := ⟨RX8, "together", "(II)I"⟩
def RX9 : String := "LongerBackModel"
def TX9 : u_T := fun k => match k with
  | 0 => ("LongerBackModel", "s", "[I", true)
  | 1 => ("LongerBackModel", "keptS", "[I", true)
  | 2 => ("LongerBackModel", "other", "[I", true)
  | 3 => ("LongerBackModel", "statuses", "[I", true)
  | 4 => ("LongerBackModel", "isKept", "Z", false)
  | 5 => ("LongerBackModel", "far", "[I", true)
  | 6 => ("LongerBackModel", "few", "[I", true)
  | 7 => ("LongerBackModel", "isLooped", "Z", false)
  | 8 => ("LongerBackModel", "sumOf", "I", false)
  | 9 => ("LongerBackModel", "least", "I", false)
  | 10 => ("LongerBackModel", "row", "[I", true)
  | 11 => ("LongerBackModel", "height", "[I", true)
  | 12 => ("LongerBackModel", "group", "[I", true)
  | 13 => ("LongerBackModel", "isFit", "Z", false)
  | 14 => ("LongerBackModel", "changes", "Z", false)
  | 15 => ("LongerBackModel", "lying", "I", false)
  | 16 => ("LongerBackModel", "tape", "[I", true)
  | 17 => ("LongerBackModel", "taped", "I", false)
  | 18 => ("LongerBackModel", "from", "I", false)
  | 19 => ("LongerBackModel", "to", "I", false)
  | 20 => ("LongerBackModel", "value", "I", false)
  | 21 => ("LongerBackModel", "isWrong", "Z", false)
  | 22 => ("LongerBackModel", "walked", "[I", true)
  | 23 => ("LongerBackModel", "bitsOf", "[I", true)
  | 24 => ("LongerBackModel", "sizeOf", "[I", true)
  | 25 => ("LongerBackModel", "number", "[J", true)
  | _ => ("LongerBackModel", "moved", "[J", true)
def tyX9 : Nat → FieldType := fun k => match k with
  | 0 => .array .int
  | 1 => .array .int
  | 2 => .array .int
  | 3 => .array .int
  | 4 => .boolean
  | 5 => .array .int
  | 6 => .array .int
  | 7 => .boolean
  | 8 => .int
  | 9 => .int
  | 10 => .array .int
  | 11 => .array .int
  | 12 => .array .int
  | 13 => .boolean
  | 14 => .boolean
  | 15 => .int
  | 16 => .array .int
  | 17 => .int
  | 18 => .int
  | 19 => .int
  | 20 => .int
  | 21 => .boolean
  | 22 => .array .int
  | 23 => .array .int
  | 24 => .array .int
  | 25 => .array .long
  | _ => .array .long
abbrev wsX90 : List Cond := u_ws RX9 TX9 27
theorem nmX9 : ∀ a, a < 27 → ∀ b, b < 27 → a ≠ b → (TX9 a).2.1 ≠ (TX9 b).2.1 := by decide +kernel
theorem tyX9_ok : ∀ k, k < 27 → parseFieldDescriptor (TX9 k).2.2.1 = some (tyX9 k) := by decide +kernel
abbrev cX9_init : ByteArray := prog_11_method_1_code
def yX9_init : MethodName := ⟨RX9, "<init>", "()V"⟩
abbrev cX9_in : ByteArray := prog_11_method_2_code
def yX9_in : MethodName := ⟨RX9, "in", "(JJJ)Z"⟩
abbrev cX9_finds : ByteArray := prog_11_method_3_code
def yX9_finds : MethodName := ⟨RX9, "finds", "(I)I"⟩
abbrev cX9_isPlace : ByteArray := prog_11_method_4_code
def yX9_isPlace : MethodName := ⟨RX9, "isPlace", "(I)Z"⟩
abbrev cX9_areTwo : ByteArray := prog_11_method_5_code
def yX9_areTwo : MethodName := ⟨RX9, "areTwo", "(II)Z"⟩
abbrev cX9_isOpen : ByteArray := prog_11_method_6_code
def yX9_isOpen : MethodName := ⟨RX9, "isOpen", "(II)Z"⟩
abbrev cX9_isWay : ByteArray := prog_11_method_7_code
def yX9_isWay : MethodName := ⟨RX9, "isWay", "(II)Z"⟩
abbrev cX9_miles : ByteArray := prog_11_method_8_code
def yX9_miles : MethodName := ⟨RX9, "miles", "(II)I"⟩
abbrev cX9_areEnds : ByteArray := prog_11_method_9_code
def yX9_areEnds : MethodName := ⟨RX9, "areEnds", "(II)Z"⟩
abbrev cX9_newPlace : ByteArray := prog_11_method_10_code
def yX9_newPlace : MethodName := ⟨RX9, "newPlace", "()I"⟩
abbrev cX9_place : ByteArray := prog_11_method_11_code
def yX9_place : MethodName := ⟨RX9, "place", "()I"⟩
abbrev cX9_errands : ByteArray := prog_11_method_12_code
def yX9_errands : MethodName := ⟨RX9, "errands", "(II)I"⟩
abbrev cX9_makes : ByteArray := prog_11_method_13_code
def yX9_makes : MethodName := ⟨RX9, "makes", "(IIII)I"⟩
abbrev cX9_way : ByteArray := prog_11_method_14_code
def yX9_way : MethodName := ⟨RX9, "way", "(IIII)I"⟩
abbrev cX9_wayOf : ByteArray := prog_11_method_15_code
def yX9_wayOf : MethodName := ⟨RX9, "wayOf", "(III)I"⟩
abbrev cX9_shut : ByteArray := prog_11_method_16_code
def yX9_shut : MethodName := ⟨RX9, "shut", "(IIZ)I"⟩
abbrev cX9_findFar : ByteArray := prog_11_method_17_code
def yX9_findFar : MethodName := ⟨RX9, "findFar", "()V"⟩
abbrev cX9_joins : ByteArray := prog_11_method_18_code
def yX9_joins : MethodName := ⟨RX9, "joins", "(III)V"⟩
abbrev cX9_far : ByteArray := prog_11_method_19_code
def yX9_far : MethodName := ⟨RX9, "far", "(II)I"⟩
abbrev cX9_by : ByteArray := prog_11_method_20_code
def yX9_by : MethodName := ⟨RX9, "by", "(III)I"⟩
abbrev cX9_loops : ByteArray := prog_11_method_21_code
def yX9_loops : MethodName := ⟨RX9, "loops", "()I"⟩
abbrev cX9_longer : ByteArray := prog_11_method_22_code
def yX9_longer : MethodName := ⟨RX9, "longer", "(II)I"⟩
abbrev cX9_of : ByteArray := prog_11_method_23_code
def yX9_of : MethodName := ⟨RX9, "of", "(II)I"⟩
abbrev cX9_isRound : ByteArray := prog_11_method_24_code
def yX9_isRound : MethodName := ⟨RX9, "isRound", "(I)Z"⟩
abbrev cX9_round : ByteArray := prog_11_method_25_code
def yX9_round : MethodName := ⟨RX9, "round", "(II)I"⟩
abbrev cX9_over : ByteArray := prog_11_method_26_code
def yX9_over : MethodName := ⟨RX9, "over", "(II)I"⟩
abbrev cX9_adds : ByteArray := prog_11_method_27_code
def yX9_adds : MethodName := ⟨RX9, "adds", "(I)V"⟩
abbrev cX9_told : ByteArray := prog_11_method_28_code
def yX9_told : MethodName := ⟨RX9, "told", "(II)I"⟩
abbrev cX9_offers : ByteArray := prog_11_method_29_code
def yX9_offers : MethodName := ⟨RX9, "offers", "(IZ)V"⟩
abbrev cX9_orders : ByteArray := prog_11_method_30_code
def yX9_orders : MethodName := ⟨RX9, "orders", "(IZ)V"⟩
abbrev cX9_meets : ByteArray := prog_11_method_31_code
def yX9_meets : MethodName := ⟨RX9, "meets", "(II)V"⟩
abbrev cX9_comesTo : ByteArray := prog_11_method_32_code
def yX9_comesTo : MethodName := ⟨RX9, "comesTo", "(I)I"⟩
abbrev cX9_pairs : ByteArray := prog_11_method_33_code
def yX9_pairs : MethodName := ⟨RX9, "pairs", "(III)V"⟩
abbrev cX9_closes : ByteArray := prog_11_method_34_code
def yX9_closes : MethodName := ⟨RX9, "closes", "(III)V"⟩
abbrev cX9_sum : ByteArray := prog_11_method_35_code
def yX9_sum : MethodName := ⟨RX9, "sum", "(I)I"⟩
abbrev cX9_roundOf : ByteArray := prog_11_method_36_code
def yX9_roundOf : MethodName := ⟨RX9, "roundOf", "(II)I"⟩
abbrev cX9_as : ByteArray := prog_11_method_37_code
def yX9_as : MethodName := ⟨RX9, "as", "(II)I"⟩
abbrev cX9_tripOf : ByteArray := prog_11_method_38_code
def yX9_tripOf : MethodName := ⟨RX9, "tripOf", "(I)I"⟩
abbrev cX9_home : ByteArray := prog_11_method_39_code
def yX9_home : MethodName := ⟨RX9, "home", "()I"⟩
abbrev cX9_live : ByteArray := prog_11_method_40_code
def yX9_live : MethodName := ⟨RX9, "live", "()I"⟩
abbrev cX9_trip : ByteArray := prog_11_method_41_code
def yX9_trip : MethodName := ⟨RX9, "trip", "(I)I"⟩
abbrev cX9_meeting : ByteArray := prog_11_method_42_code
def yX9_meeting : MethodName := ⟨RX9, "meeting", "(IIII)I"⟩
abbrev cX9_meet : ByteArray := prog_11_method_43_code
def yX9_meet : MethodName := ⟨RX9, "meet", "(III)I"⟩
abbrev cX9_areBoth : ByteArray := prog_11_method_44_code
def yX9_areBoth : MethodName := ⟨RX9, "areBoth", "(II)Z"⟩
abbrev cX9_findHeights : ByteArray := prog_11_method_45_code
def yX9_findHeights : MethodName := ⟨RX9, "findHeights", "()V"⟩
abbrev cX9_spreads : ByteArray := prog_11_method_46_code
def yX9_spreads : MethodName := ⟨RX9, "spreads", "(I)V"⟩
abbrev cX9_fit : ByteArray := prog_11_method_47_code
def yX9_fit : MethodName := ⟨RX9, "fit", "()I"⟩
abbrev cX9_height : ByteArray := prog_11_method_48_code
def yX9_height : MethodName := ⟨RX9, "height", "(I)I"⟩
abbrev cX9_paper : ByteArray := prog_11_method_49_code
def yX9_paper : MethodName := ⟨RX9, "paper", "(II)I"⟩
abbrev cX9_worst : ByteArray := prog_11_method_50_code
def yX9_worst : MethodName := ⟨RX9, "worst", "()I"⟩
abbrev cX9_isTotal : ByteArray := prog_11_method_51_code
def yX9_isTotal : MethodName := ⟨RX9, "isTotal", "(I)Z"⟩
abbrev cX9_newWalk : ByteArray := prog_11_method_52_code
def yX9_newWalk : MethodName := ⟨RX9, "newWalk", "(IIII)I"⟩
abbrev cX9_walk : ByteArray := prog_11_method_53_code
def yX9_walk : MethodName := ⟨RX9, "walk", "(IIII)I"⟩
abbrev cX9_on : ByteArray := prog_11_method_54_code
def yX9_on : MethodName := ⟨RX9, "on", "(II)I"⟩
abbrev cX9_wayAt : ByteArray := prog_11_method_55_code
def yX9_wayAt : MethodName := ⟨RX9, "wayAt", "(II)I"⟩
abbrev cX9_isWalked : ByteArray := prog_11_method_56_code
def yX9_isWalked : MethodName := ⟨RX9, "isWalked", "(I)Z"⟩
abbrev cX9_learns : ByteArray := prog_11_method_57_code
def yX9_learns : MethodName := ⟨RX9, "learns", "(I)Z"⟩
abbrev cX9_learning : ByteArray := prog_11_method_58_code
def yX9_learning : MethodName := ⟨RX9, "learning", "()I"⟩
abbrev cX9_learn : ByteArray := prog_11_method_59_code
def yX9_learn : MethodName := ⟨RX9, "learn", "()I"⟩
abbrev cX9_puts : ByteArray := prog_11_method_60_code
def yX9_puts : MethodName := ⟨RX9, "puts", "()V"⟩
abbrev cX9_putsBack : ByteArray := prog_11_method_61_code
def yX9_putsBack : MethodName := ⟨RX9, "putsBack", "()V"⟩
abbrev cX9_lies : ByteArray := prog_11_method_62_code
def yX9_lies : MethodName := ⟨RX9, "lies", "()I"⟩
abbrev cX9_between : ByteArray := prog_11_method_63_code
def yX9_between : MethodName := ⟨RX9, "between", "(I)I"⟩
abbrev cX9_known : ByteArray := prog_11_method_64_code
def yX9_known : MethodName := ⟨RX9, "known", "(I)I"⟩
abbrev cX9_ask : ByteArray := prog_11_method_65_code
def yX9_ask : MethodName := ⟨RX9, "ask", "()I"⟩
abbrev cX9_tripOfHome : ByteArray := prog_11_method_66_code
def yX9_tripOfHome : MethodName := ⟨RX9, "tripOfHome", "()I"⟩
abbrev cX9_saving : ByteArray := prog_11_method_67_code
def yX9_saving : MethodName := ⟨RX9, "saving", "(III)I"⟩
abbrev cX9_saves : ByteArray := prog_11_method_68_code
def yX9_saves : MethodName := ⟨RX9, "saves", "(II)I"⟩
abbrev cX9_mend : ByteArray := prog_11_method_69_code
def yX9_mend : MethodName := ⟨RX9, "mend", "()I"⟩
abbrev cX9_nearest : ByteArray := prog_11_method_70_code
def yX9_nearest : MethodName := ⟨RX9, "nearest", "(I)I"⟩
abbrev cX9_goes : ByteArray := prog_11_method_71_code
def yX9_goes : MethodName := ⟨RX9, "goes", "(II)I"⟩
abbrev cX9_hollow : ByteArray := prog_11_method_72_code
def yX9_hollow : MethodName := ⟨RX9, "hollow", "()I"⟩
abbrev cX9_feed : ByteArray := prog_11_method_73_code
def yX9_feed : MethodName := ⟨RX9, "feed", "(II)I"⟩
abbrev cX9_wipe : ByteArray := prog_11_method_74_code
def yX9_wipe : MethodName := ⟨RX9, "wipe", "()I"⟩
abbrev cX9_byteAt : ByteArray := prog_11_method_75_code
def yX9_byteAt : MethodName := ⟨RX9, "byteAt", "(I)I"⟩
abbrev cX9_isLetter : ByteArray := prog_11_method_76_code
def yX9_isLetter : MethodName := ⟨RX9, "isLetter", "(I)Z"⟩
abbrev cX9_isDigit : ByteArray := prog_11_method_77_code
def yX9_isDigit : MethodName := ⟨RX9, "isDigit", "(I)Z"⟩
abbrev cX9_next : ByteArray := prog_11_method_78_code
def yX9_next : MethodName := ⟨RX9, "next", "()V"⟩
abbrev cX9_needs : ByteArray := prog_11_method_79_code
def yX9_needs : MethodName := ⟨RX9, "needs", "(Z)V"⟩
abbrev cX9_isAt : ByteArray := prog_11_method_80_code
def yX9_isAt : MethodName := ⟨RX9, "isAt", "(II)Z"⟩
abbrev cX9_isWord : ByteArray := prog_11_method_81_code
def yX9_isWord : MethodName := ⟨RX9, "isWord", "(IIIIIII)Z"⟩
abbrev cX9_number : ByteArray := prog_11_method_82_code
def yX9_number : MethodName := ⟨RX9, "number", "(II)V"⟩
abbrev cX9_mile : ByteArray := prog_11_method_83_code
def yX9_mile : MethodName := ⟨RX9, "mile", "(II)V"⟩
abbrev cX9_numberHere : ByteArray := prog_11_method_84_code
def yX9_numberHere : MethodName := ⟨RX9, "numberHere", "()I"⟩
abbrev cX9_wayItem : ByteArray := prog_11_method_85_code
def yX9_wayItem : MethodName := ⟨RX9, "wayItem", "()V"⟩
abbrev cX9_walkItem : ByteArray := prog_11_method_86_code
def yX9_walkItem : MethodName := ⟨RX9, "walkItem", "()V"⟩
abbrev cX9_item : ByteArray := prog_11_method_87_code
def yX9_item : MethodName := ⟨RX9, "item", "()V"⟩
abbrev cX9_land : ByteArray := prog_11_method_88_code
def yX9_land : MethodName := ⟨RX9, "land", "()I"⟩
abbrev cX9_isOne : ByteArray := prog_11_method_89_code
def yX9_isOne : MethodName := ⟨RX9, "isOne", "(I)Z"⟩
abbrev cX9_sheet : ByteArray := prog_11_method_90_code
def yX9_sheet : MethodName := ⟨RX9, "sheet", "(III)I"⟩
abbrev cX9_narrowed : ByteArray := prog_11_method_91_code
def yX9_narrowed : MethodName := ⟨RX9, "narrowed", "(IJ)J"⟩
abbrev cX9_wrong : ByteArray := prog_11_method_92_code
def yX9_wrong : MethodName := ⟨RX9, "wrong", "(I)I"⟩
abbrev cX9_write : ByteArray := prog_11_method_93_code
def yX9_write : MethodName := ⟨RX9, "write", "(IIJ)J"⟩
abbrev cX9_copy : ByteArray := prog_11_method_94_code
def yX9_copy : MethodName := ⟨RX9, "copy", "(IIIII)I"⟩
abbrev cX9_lays : ByteArray := prog_11_method_95_code
def yX9_lays : MethodName := ⟨RX9, "lays", "(II)I"⟩
abbrev cX9_read : ByteArray := prog_11_method_96_code
def yX9_read : MethodName := ⟨RX9, "read", "(I)I"⟩
abbrev cX9_image : ByteArray := prog_11_method_97_code
def yX9_image : MethodName := ⟨RX9, "image", "()I"⟩
abbrev cX9_undo : ByteArray := prog_11_method_98_code
def yX9_undo : MethodName := ⟨RX9, "undo", "()I"⟩
abbrev cX9_tear : ByteArray := prog_11_method_99_code
def yX9_tear : MethodName := ⟨RX9, "tear", "()I"⟩
abbrev cX9_count : ByteArray := prog_11_method_100_code
def yX9_count : MethodName := ⟨RX9, "count", "(I)I"⟩
abbrev cX9_status : ByteArray := prog_11_method_101_code
def yX9_status : MethodName := ⟨RX9, "status", "(I)I"⟩
def RJ9 : String := "java/lang/Math"
def TJ9 : u_T := fun k => match k with
  | _ => ("", "", "", false)
def tyJ9 : Nat → FieldType := fun k => match k with
  | _ => .int
abbrev wsJ90 : List Cond := u_ws RJ9 TJ9 0
theorem nmJ9 : ∀ a, a < 0 → ∀ b, b < 0 → a ≠ b → (TJ9 a).2.1 ≠ (TJ9 b).2.1 := by decide +kernel
theorem tyJ9_ok : ∀ k, k < 0 → parseFieldDescriptor (TJ9 k).2.2.1 = some (tyJ9 k) := by decide +kernel
abbrev cJ9_floorDiv_7cf53 : ByteArray := prog_12_method_47_code
def yJ9_floorDiv_7cf53 : MethodName := ⟨RJ9, "floorDiv", "(II)I"⟩
abbrev cJ9_floorMod_7cf53 : ByteArray := prog_12_method_50_code
def yJ9_floorMod_7cf53 : MethodName := ⟨RJ9, "floorMod", "(II)I"⟩
abbrev cJ9_abs_0f7a4 : ByteArray := prog_12_method_59_code
def yJ9_abs_0f7a4 : MethodName := ⟨RJ9, "abs", "(I)I"⟩
abbrev cJ9_max_7cf53 : ByteArray := prog_12_method_65_code
def yJ9_max_7cf53 : MethodName := ⟨RJ9, "max", "(II)I"⟩
abbrev cJ9_min_7cf53 : ByteArray := prog_12_method_69_code
def yJ9_min_7cf53 : MethodName := ⟨RJ9, "min", "(II)I"⟩
def RJ0 : String := "java/lang/String"
def TJ0 : u_T := fun k => match k with
  | _ => ("", "", "", false)
def tyJ0 : Nat → FieldType := fun k => match k with
  | _ => .int
abbrev wsJ00 : List Cond := u_ws RJ0 TJ0 0
theorem nmJ0 : ∀ a, a < 0 → ∀ b, b < 0 → a ≠ b → (TJ0 a).2.1 ≠ (TJ0 b).2.1 := by decide +kernel
theorem tyJ0_ok : ∀ k, k < 0 → parseFieldDescriptor (TJ0 k).2.2.1 = some (tyJ0 k) := by decide +kernel
abbrev cJ0_length_8abf5 : ByteArray := prog_13_method_54_code
def yJ0_length_8abf5 : MethodName := ⟨RJ0, "length", "()I"⟩
abbrev cJ0_charAt_5068e : ByteArray := prog_13_method_56_code
def yJ0_charAt_5068e : MethodName := ⟨RJ0, "charAt", "(I)C"⟩
abbrev cJ0_coder_7d493 : ByteArray := prog_13_method_152_code
def yJ0_coder_7d493 : MethodName := ⟨RJ0, "coder", "()B"⟩
abbrev cJ0_isLatin1_aae02 : ByteArray := prog_13_method_154_code
def yJ0_isLatin1_aae02 : MethodName := ⟨RJ0, "isLatin1", "()Z"⟩
abbrev cJ0_checkIndex_df160 : ByteArray := prog_13_method_155_code
def yJ0_checkIndex_df160 : MethodName := ⟨RJ0, "checkIndex", "(II)V"⟩
def RJ1 : String := "java/lang/StringLatin1"
def TJ1 : u_T := fun k => match k with
  | _ => ("", "", "", false)
def tyJ1 : Nat → FieldType := fun k => match k with
  | _ => .int
abbrev wsJ10 : List Cond := u_ws RJ1 TJ1 0
theorem nmJ1 : ∀ a, a < 0 → ∀ b, b < 0 → a ≠ b → (TJ1 a).2.1 ≠ (TJ1 b).2.1 := by decide +kernel
theorem tyJ1_ok : ∀ k, k < 0 → parseFieldDescriptor (TJ1 k).2.2.1 = some (tyJ1 k) := by decide +kernel
abbrev cJ1_charAt_3b067 : ByteArray := prog_14_method_2_code
def yJ1_charAt_3b067 : MethodName := ⟨RJ1, "charAt", "([BI)C"⟩
def RJ2 : String := "java/lang/StringUTF16"
def TJ2 : u_T := fun k => match k with
  | _ => ("", "", "", false)
def tyJ2 : Nat → FieldType := fun k => match k with
  | _ => .int
abbrev wsJ20 : List Cond := u_ws RJ2 TJ2 0
theorem nmJ2 : ∀ a, a < 0 → ∀ b, b < 0 → a ≠ b → (TJ2 a).2.1 ≠ (TJ2 b).2.1 := by decide +kernel
theorem tyJ2_ok : ∀ k, k < 0 → parseFieldDescriptor (TJ2 k).2.2.1 = some (tyJ2 k) := by decide +kernel
abbrev cJ2_getChar_3b067 : ByteArray := prog_15_method_5_code
def yJ2_getChar_3b067 : MethodName := ⟨RJ2, "getChar", "([BI)C"⟩
abbrev cJ2_length_9d52b : ByteArray := prog_15_method_6_code
def yJ2_length_9d52b : MethodName := ⟨RJ2, "length", "([B)I"⟩
abbrev cJ2_charAt_3b067 : ByteArray := prog_15_method_83_code
def yJ2_charAt_3b067 : MethodName := ⟨RJ2, "charAt", "([BI)C"⟩
abbrev cJ2_checkIndex_2214a : ByteArray := prog_15_method_91_code
def yJ2_checkIndex_2214a : MethodName := ⟨RJ2, "checkIndex", "(I[B)V"⟩
def RJ10 : String := "java/lang/System"
def TJ10 : u_T := fun k => match k with
  | _ => ("", "", "", false)
def tyJ10 : Nat → FieldType := fun k => match k with
  | _ => .int
abbrev wsJ100 : List Cond := u_ws RJ10 TJ10 0
theorem nmJ10 : ∀ a, a < 0 → ∀ b, b < 0 → a ≠ b → (TJ10 a).2.1 ≠ (TJ10 b).2.1 := by decide +kernel
theorem tyJ10_ok : ∀ k, k < 0 → parseFieldDescriptor (TJ10 k).2.2.1 = some (tyJ10 k) := by decide +kernel
def RJ3 : String := "jdk/internal/util/Preconditions"
def TJ3 : u_T := fun k => match k with
  | _ => ("", "", "", false)
def tyJ3 : Nat → FieldType := fun k => match k with
  | _ => .int
abbrev wsJ30 : List Cond := u_ws RJ3 TJ3 0
theorem nmJ3 : ∀ a, a < 0 → ∀ b, b < 0 → a ≠ b → (TJ3 a).2.1 ≠ (TJ3 b).2.1 := by decide +kernel
theorem tyJ3_ok : ∀ k, k < 0 → parseFieldDescriptor (TJ3 k).2.2.1 = some (tyJ3 k) := by decide +kernel
abbrev cJ3_checkIndex_8e157 : ByteArray := prog_17_method_11_code
def yJ3_checkIndex_8e157 : MethodName := ⟨RJ3, "checkIndex", "(IILjava/util/function/BiFunction;)I"⟩
def RL : String := "LongerBackLaw"
abbrev cL_law : ByteArray := code
def yL_law : MethodName := ⟨RL, "law", "([I)Z"⟩
abbrev vwCl : List vw_C := [(RX0, TX0, 2), (RX1, TX1, 10), (RX2, TX2, 2), (RX3, TX3, 3), (RX4, TX4, 3), (RX5, TX5, 3), (RX6, TX6, 1), (RX7, TX7, 7), (RX8, TX8, 12), (RX9, TX9, 27)]
end
section
/-! words: one list for all methods: the good ones of the tables -/
def wsU : List Cond := lw_tbl.filter goodWord
theorem wsU_in : ∀ w ∈ wsU, w ∈ lw_tbl := fun _ h => (List.mem_filter.mp h).1
theorem ut_ok {w : Cond} (h : w ∈ tables_1) (g : goodWord w = true) : w ∈ wsU := List.mem_filter.mpr ⟨List.mem_append_right _ h, g⟩
theorem ut1 {w : Cond} (h : w ∈ tables_1_1) (g : goodWord w = true) : w ∈ wsU := ut_ok (List.mem_append_left _ h) g
theorem ut2 {w : Cond} (h : w ∈ tables_1_2) (g : goodWord w = true) : w ∈ wsU := ut_ok (List.mem_append_right _ (List.mem_append_left _ h)) g
theorem ut3 {w : Cond} (h : w ∈ tables_1_3) (g : goodWord w = true) : w ∈ wsU := ut_ok (List.mem_append_right _ (List.mem_append_right _ (List.mem_append_left _ h))) g
theorem ut4 {w : Cond} (h : w ∈ tables_1_4) (g : goodWord w = true) : w ∈ wsU := ut_ok (List.mem_append_right _ (List.mem_append_right _ (List.mem_append_right _ (List.mem_append_left _ h)))) g
theorem ut5 {w : Cond} (h : w ∈ tables_1_5) (g : goodWord w = true) : w ∈ wsU := ut_ok (List.mem_append_right _ (List.mem_append_right _ (List.mem_append_right _ (List.mem_append_right _ (List.mem_append_left _ h))))) g
theorem ut6 {w : Cond} (h : w ∈ tables_1_6) (g : goodWord w = true) : w ∈ wsU := ut_ok (List.mem_append_right _ (List.mem_append_right _ (List.mem_append_right _ (List.mem_append_right _ (List.mem_append_right _ h))))) g
theorem us_sel {q : MethodName × Nat} (h : q ∈ lw_privs) (g : goodWord (Cond.selects q.1.cls q.1 q.1) = true) : Cond.selects q.1.cls q.1 q.1 ∈ wsU := List.mem_filter.mpr ⟨List.mem_append_left _ (List.mem_map.mpr ⟨q, h, rfl⟩), g⟩
theorem xU_ok {c0 : Cond} : GoodIn (c0 :: wsU) wsU := fun w h => ⟨List.mem_cons_of_mem _ h, good_of_word (List.mem_filter.mp h).2⟩
theorem xU_cons {c0 c1 : Cond} (h : c1 ∈ wsU) : GoodIn (c0 :: wsU) (c1 :: wsU) := fun w hw => (List.mem_cons.mp hw).elim (fun e => by subst e; exact xU_ok _ h) (fun h2 => xU_ok _ h2)
/-- what a call of an instance method needs of the tables -/
def xWV (own : String) (index : Nat) (C : String) (y : MethodName) (bytes : ByteArray) (maxL : Nat) (ret : Option FieldType) (n : Nat) : Prop :=
  (Cond.methodLink own index y ∈ wsU ∧ Cond.instanceMethod y ∈ wsU ∧ Cond.selects C y y ∈ wsU ∧ Cond.initialized C ∈ wsU ∧ Cond.code y bytes maxL ret ∈ wsU) ∧
  (y.cls = C ∧ y.cls ≠ "java/lang/invoke/MethodHandle" ∧ y.cls ≠ "java/lang/invoke/VarHandle" ∧ (parseMethodDescriptor y.desc).map (fun d => d.parameters.length) = some n)
/-- .. of a static method of its own class -/
def xWS (own : String) (index : Nat) (y : MethodName) (bytes : ByteArray) (maxL : Nat) (ret : Option FieldType) (n : Nat) : Prop :=
  (Cond.methodLink own index y ∈ wsU ∧ Cond.static y ∈ wsU ∧ Cond.initialized y.cls ∈ wsU ∧ Cond.code y bytes maxL ret ∈ wsU) ∧
  (y.cls ≠ "java/lang/invoke/MethodHandle" ∧ y.cls ≠ "java/lang/invoke/VarHandle" ∧ (parseMethodDescriptor y.desc).map (fun d => d.parameters.length) = some n)
/-- .. of a constructor, linked the plain way -/
def xWI (own : String) (index : Nat) (y : MethodName) (bytes : ByteArray) (maxL : Nat) (n : Nat) : Prop :=
  (Cond.methodLink own index y ∈ wsU ∧ Cond.instanceMethod y ∈ wsU ∧ Cond.initialized y.cls ∈ wsU ∧ Cond.code y bytes maxL none ∈ wsU) ∧
  (y.name = "<init>" ∧ y.cls ≠ "java/lang/invoke/MethodHandle" ∧ y.cls ≠ "java/lang/invoke/VarHandle" ∧ (parseMethodDescriptor y.desc).map (fun d => d.parameters.length) = some n)
/-- the words that lie beside the list: private members of nest mates, the array of sheets, String constants -/
def xNest : List Cond := [.methodLinkNest RX8 11 yX1_init RX8, .methodLinkNest RX8 28 yX0_init RX8, .methodLinkNest RX8 38 yX6_init RX8, .methodLinkNest RX8 45 yX5_init RX8, .methodLinkNest RX8 52 yX2_init RX8, .methodLinkNest RX8 59 yX7_init RX8, .methodLinkNest RX8 74 yX4_init RX8, .methodLinkNest RX0 42 yX8_together RX8, .methodLinkNest RX1 30 yX3_init RX8, .methodLinkNest RX2 75 yX8_areEnds RX8, .methodLinkNest RX6 62 yX8_together RX8]
def xStr : List (Nat × String × Nat) := [(41, "place", 0), (50, "way", 1), (55, "walk", 2), (65, "errands", 3), (82, "to", 4), (88, "back", 5), (118, "all", 6), (123, "slack", 7)]
def XN (sa : Nat → Nat) (U : State) : Prop := (∀ w ∈ xNest, va_Nw w U) ∧ va_AO RX4 U ∧ ∀ q ∈ xStr, vk_R RX7 q.1 q.2.1 (sa q.2.2) U
theorem xNest_form : ∀ w ∈ xNest, ∃ (a : String) (i : Nat) (y : MethodName) (h : String), w = .methodLinkNest a i y h := by
  intro w hw
  simp only [xNest, List.mem_cons, List.not_mem_nil, or_false] at hw
  rcases hw with rfl | rfl | rfl | rfl | rfl | rfl | rfl | rfl | rfl | rfl | rfl <;> exact ⟨_, _, _, _, rfl⟩
theorem XN.same {sa : Nat → Nat} {u U : State} (h : U.vm = u.vm) (q : XN sa u) : XN sa U := by
  refine ⟨fun w hw => ?_, va_AO.moved (by rw [h]; exact Vm.Alike.refl _) q.2.1, fun x hx => (q.2.2 x hx).same h⟩
  obtain ⟨a, i, y, hh, rfl⟩ := xNest_form w hw
  exact va_Nw.same rfl h.symm (q.1 _ hw)
theorem XN.warm {sa : Nat → Nat} {s U : State} (hW : s.WarmedH U.vm) (q : XN sa s) : XN sa U := by
  refine ⟨fun w hw => ?_, va_AO.moved hW.alike q.2.1, fun x hx => (q.2.2 x hx).warm hW⟩
  obtain ⟨a, i, y, hh, rfl⟩ := xNest_form w hw
  exact (q.1 _ hw : va_Nw _ s).warmM hW
/-- the types of arrays -/
abbrev xT (cI cJ cZ cS : ClassId) : List (ClassId × FieldType) := [(cI, .int), (cJ, .long), (cZ, .boolean), (cS, .object RX4)]
/-- a contract's start: the cells wc, and no more is known of the heap but its size -/
def XW (D : va_G) (T : List (ClassId × FieldType)) (sa : Nat → Nat) (wc : va_W) (sz : Nat) (U : State) : Prop := U.heap.size = sz ∧ va_P D vwCl wc U.heap ∧ va_K D vwCl T U ∧ va_D (fun _ => True) wc ∧ XN sa U
def XQi {S : Type} (post : Int32 → S → Prop) (D : va_G) (w1 : S → va_W) (A : Nat → Prop) : Array Value → State → Outcome → State → Prop := va_Qi post (fun u t => va_P D vwCl (w1 u) t.heap ∧ va_D A (w1 u)) A
def XQl {S : Type} (post : Int64 → S → Prop) (D : va_G) (w1 : S → va_W) (A : Nat → Prop) : Array Value → State → Outcome → State → Prop := va_Ql post (fun u t => va_P D vwCl (w1 u) t.heap ∧ va_D A (w1 u)) A
def XQv {S : Type} (post : S → Prop) (D : va_G) (w1 : S → va_W) (A : Nat → Prop) : Array Value → State → Outcome → State → Prop := va_Qv post (fun u t => va_P D vwCl (w1 u) t.heap ∧ va_D A (w1 u)) A
theorem xh {l : Launch} {y : MethodName} {cc : ByteArray} {maxL : Nat} {ret : Option FieldType} {rm : Room} {D : va_G} {T : List (ClassId × FieldType)} {sa : Nat → Nat} {av : List Value} {wc : va_W} {sz : Nat} {Qc : Array Value → State → Outcome → State → Prop} {mc ms : Nat} {free : Addr → Prop} (hy : plainName y.cls = true) (hlen : (lg_sl av).length ≤ maxL)
    (body : ∀ (p : Program) (e : Env) (s : State) (m : MethodId) (below : List Frame) (meth : Method) (c : Code) (ls : Array Slot), CallFix p m c cc maxL s av.toArray (Cond.code y cc maxL ret :: wsU) y.cls → meth.sig.returnType = ret → meth.locks = false → meth.name = y.name → s.heap.size = sz → va_P D vwCl wc s.heap → va_K D vwCl T s → va_D (fun _ => True) wc → XN sa s → lv_has ls maxL (lv_args 0 av) →
      W p l e rm s m av.toArray below meth c s.heap [] 0 0 (MQ below Qc av.toArray s mc ms free) (F0 m 0 ls [])) :
    Met l y (Cond.code y cc maxL ret :: wsU) rm (va_Pc av (XW D T sa wc sz)) Qc mc ms free := by
  refine Met.ofW (cc := cc) (maxL := maxL) (ret := ret) hy rfl ?_
  intro p e s m args below meth c s₁ B hml hv
  obtain ⟨rfl, hsz, hP, hK, hD, hN⟩ := hv
  have hl := lv_entry av (n := maxL) hlen
  rw [lg_entry_eq]
  exact body p e s m below meth c _ ⟨B.exec, B.bytes, hml, findClass_of_methodNamed B.named, atoms_spec (ws := _) B.pre⟩ B.returns B.notSynchronized (name_of_methodNamed B.named B.method).1 hsz hP hK hD hN hl
theorem xhw {l : Launch} {y : MethodName} {cc : ByteArray} {maxL : Nat} {ret : Option FieldType} {rm : Room} {D : va_G} {T : List (ClassId × FieldType)} {sa : Nat → Nat} {av : List Value} {wc : va_W} {sz : Nat} {QA : (Nat → Prop) → Array Value → State → Outcome → State → Prop} {mc ms : Nat} (hy : plainName y.cls = true) (hlen : (lg_sl av).length ≤ maxL)
    (body : ∀ (p : Program) (e : Env) (s : State) (m : MethodId) (below : List Frame) (meth : Method) (c : Code) (ls : Array Slot) (A : Nat → Prop), CallFix p m c cc maxL s av.toArray (Cond.code y cc maxL ret :: wsU) y.cls → meth.sig.returnType = ret → meth.locks = false → meth.name = y.name → s.heap.size = sz → va_P D vwCl wc s.heap → va_K D vwCl T s → va_D A wc → XN sa s → (∀ q : Nat, s.heap.size ≤ q → A q) → va_S A s.heap s.heap [] → lv_has ls maxL (lv_args 0 av) →
      W p l e rm s m av.toArray below meth c s.heap [] 0 0 (MQ below (QA A) av.toArray s mc ms A) (F0 m 0 ls [])) :
    Met l y (Cond.code y cc maxL ret :: wsU) rm (va_Pc av (XW D T sa wc sz)) (QA (va_A wc sz)) mc ms (va_A wc sz) :=
  xh hy hlen (fun p e s m below meth c ls hF hr hlk hin hsz hP hK hD hN hl => body p e s m below meth c ls (va_A wc sz) hF hr hlk hin hsz hP hK hD.self hN (fun _ h => Or.inr (by rw [← hsz]; exact h)) va_S.rf hl)
theorem xsub {ws wc : va_W} {is : List Nat} (h : is.map (fun i => ws[i]?) = wc.map some) : is.filterMap (fun i => ws[i]?) = wc := by
  have e : is.filterMap (fun i => ws[i]?) = (is.map (fun i => ws[i]?)).filterMap id := by rw [List.filterMap_map]; rfl
  rw [e, h, List.filterMap_map]
  exact List.filterMap_some
section XR
variable {p : Program} {l : Launch} {e : Env} {R : Room} {s : State} {m : MethodId} {args : Array Value} {below : List Frame} {meth : Method} {c : Code} {H : Heap} {locs : List Loc} {cells slots : Nat} {Q : State → Prop}
variable {cc : ByteArray} {pc nL : Nat} {ls : Array Slot} {rest st0 : List Value} {D : va_G} {T : List (ClassId × FieldType)} {sa : Nat → Nat} {A : Nat → Prop} {ws : va_W} {c0 : Cond} {own : String}
theorem xl_i {x y : Int32} (h : x = y) (k : W p l e R s m args below meth c H locs cells slots Q (F0 m pc ls (.int y :: rest))) : W p l e R s m args below meth c H locs cells slots Q (F0 m pc ls (.int x :: rest)) := by subst h; exact k
theorem xl_v {v w : Value} (h : v = w) (k : W p l e R s m args below meth c H locs cells slots Q (F0 m pc ls (w :: rest))) : W p l e R s m args below meth c H locs cells slots Q (F0 m pc ls (v :: rest)) := by subst h; exact k
theorem xl_l {x y : Int64} (h : x = y) (k : W p l e R s m args below meth c H locs cells slots Q (F0 m pc ls (.long y :: rest))) : W p l e R s m args below meth c H locs cells slots Q (F0 m pc ls (.long x :: rest)) := by subst h; exact k
/-- a field of an object: where its word stands -/
def xWF (own : String) (index ci k : Nat) (C : String) (X : u_T) (N : Nat) : Prop := (∀ w ∈ u_ws C X N, w ∈ wsU) ∧ vwCl[ci]? = some (C, X, N) ∧ k < N ∧ Cond.fieldLink own index (X k).1 (X k).2.1 (X k).2.2.1 ∈ wsU
theorem xg (hF : CallFix p m c cc nL s args (c0 :: wsU) own) {index ci k : Nat} {C : String} {X : u_T} {N : Nat} (hw : xWF own index ci k C X N) (hK : va_K D vwCl T s) (hP : va_P D vwCl ws H) (q0 : Nat) {a : Nat} {fs : List Value} (he : ws[q0]? = some (a, .inr (ci, fs))) {v : Value} (hv : fs[k]? = some v) (hdg : decode cc pc = .ok (.getfield index, 3))
    (kk : W p l e R s m args below meth c H locs cells slots Q (F0 m (pc + 3) ls (v :: rest))) : W p l e R s m args below meth c H locs cells slots Q (F0 m pc ls (.ref a :: rest)) :=
  va_get (D := D) (C := C) (T := X) (N := N) (ref := (X k).1) hF.1 hF.2.1 hF.2.2.2.2 (fun w h => List.mem_cons_of_mem _ (hw.1 w h)) hF.2.2.2.1 hK hP q0 he hw.2.1 k hw.2.2.1 (hF.2.2.2.2 _ (List.mem_cons_of_mem _ hw.2.2.2)) (fun _ h => h) hv hdg kk
theorem xp (hF : CallFix p m c cc nL s args (c0 :: wsU) own) {index ci k : Nat} {C : String} {X : u_T} {N : Nat} (hw : xWF own index ci k C X N) {ty0 : Nat → FieldType} (hty : ∀ k, k < N → parseFieldDescriptor (X k).2.2.1 = some (ty0 k)) (hnm : ∀ a, a < N → ∀ b, b < N → a ≠ b → (X a).2.1 ≠ (X b).2.1) (hK : va_K D vwCl T s) (hP : va_P D vwCl ws H) (hD : va_D A ws) (hS : va_S A s.heap H locs) (q0 : Nat) {a : Nat} {fs : List Value} (he : ws[q0]? = some (a, .inr (ci, fs))) (hfin : (X k).2.2.2 = false) {v : Value} (hn : narrow (ty0 k) v = v) (hfit : fits (ty0 k) v = true) (hl : k < fs.length) (hdg : decode cc pc = .ok (.putfield index, 3))
    (kk : ∀ (H1 : Heap) (locs1 : List Loc), va_P D vwCl (ws.set q0 (a, .inr (ci, fs.set k v))) H1 → va_D A (ws.set q0 (a, .inr (ci, fs.set k v))) → va_S A s.heap H1 locs1 → W p l e R s m args below meth c H1 locs1 cells slots Q (F0 m (pc + 3) ls rest)) : W p l e R s m args below meth c H locs cells slots Q (F0 m pc ls (v :: .ref a :: rest)) :=
  va_put (D := D) (C := C) (T := X) (N := N) (ref := (X k).1) hF.1 hF.2.1 hF.2.2.2.2 (fun w h => List.mem_cons_of_mem _ (hw.1 w h)) ty0 hty hnm hF.2.2.2.1 hK hP hD hS q0 he hw.2.1 k hw.2.2.1 (hF.2.2.2.2 _ (List.mem_cons_of_mem _ hw.2.2.2)) (fun _ h => h) hfin (hty k hw.2.2.1) hn hfit hl hdg kk
theorem xpF (hF : CallFix p m c cc nL s args (c0 :: wsU) own) {index ci k : Nat} {C : String} {X : u_T} {N : Nat} (hw : xWF own index ci k C X N) {ty0 : Nat → FieldType} (hty : ∀ k, k < N → parseFieldDescriptor (X k).2.2.1 = some (ty0 k)) (hnm : ∀ a, a < N → ∀ b, b < N → a ≠ b → (X a).2.1 ≠ (X b).2.1) (hK : va_K D vwCl T s) (hP : va_P D vwCl ws H) (hD : va_D A ws) (hS : va_S A s.heap H locs) (q0 : Nat) {a : Nat} {fs : List Value} (he : ws[q0]? = some (a, .inr (ci, fs))) (hfin : (X k).2.2.2 = true) (hin : meth.name = "<init>") (hdecl : (X k).1 = own) {v : Value} (hn : narrow (ty0 k) v = v) (hfit : fits (ty0 k) v = true) (hl : k < fs.length) (hdg : decode cc pc = .ok (.putfield index, 3))
    (kk : ∀ (H1 : Heap) (locs1 : List Loc), va_P D vwCl (ws.set q0 (a, .inr (ci, fs.set k v))) H1 → va_D A (ws.set q0 (a, .inr (ci, fs.set k v))) → va_S A s.heap H1 locs1 → W p l e R s m args below meth c H1 locs1 cells slots Q (F0 m (pc + 3) ls rest)) : W p l e R s m args below meth c H locs cells slots Q (F0 m pc ls (v :: .ref a :: rest)) :=
  va_putF (D := D) (C := C) (T := X) (N := N) (ref := (X k).1) hF.1 hF.2.1 hF.2.2.2.2 (fun w h => List.mem_cons_of_mem _ (hw.1 w h)) ty0 hty hnm hF.2.2.2.1 hK hP hD hS q0 he hw.2.1 k hw.2.2.1 (hF.2.2.2.2 _ (List.mem_cons_of_mem _ hw.2.2.2)) (fun _ h => h) hfin hin hdecl (hty k hw.2.2.1) hn hfit hl hdg kk
variable {y : MethodName} {bytes : ByteArray} {maxL mc ms n index : Nat} {ret : Option FieldType} {rm : Room} {C : String} {b : Addr} {As : List Value} {wc wr : va_W}
theorem xPS (hK : va_K D vwCl T s) (hN : XN sa s) (hP : va_P D vwCl ws H) (hD : va_D A ws) (isC : List Nat) (hC : isC.map (fun i => ws[i]?) = wc.map some) (hnC : va_nd isC = true) : PreS s H (va_Pc As (XW D T sa wc H.size)) As :=
  ⟨fun a U g mk q => ⟨q.1, q.2.1, q.2.2.1, va_K.moved (u := U) (U := U.calling g mk a) (Vm.Alike.refl U.vm) q.2.2.2.1, q.2.2.2.2.1, XN.same (u := U) (U := U.calling g mk a) rfl q.2.2.2.2.2⟩,
   fun U hU hW => ⟨rfl, by rw [hU], by rw [hU]; exact hP.sub isC (xsub hC), va_K.moved hW.alike hK, (hD.sub isC hnC hC).weaken (fun _ _ _ _ => trivial), XN.warm hW hN⟩⟩
theorem xPV (hK : va_K D vwCl T s) (hN : XN sa s) (hP : va_P D vwCl ws H) (hD : va_D A ws) (isC : List Nat) (hC : isC.map (fun i => ws[i]?) = wc.map some) (hnC : va_nd isC = true) (q0 : Nat) {ci : Nat} {fs : List Value} {cq : vw_C} (he : wc[q0]? = some (b, .inr (ci, fs))) (hc : vwCl[ci]? = some cq) (hcC : cq.1 = C) : PreV s H C b (va_Pc (.ref b :: As) (XW D T sa wc H.size)) As := by
  subst hcC
  exact ⟨(xPS (As := .ref b :: As) hK hN hP hD isC hC hnC).1, va_recv hK (hP.sub isC (xsub hC)) hc he, (xPS (As := .ref b :: As) hK hN hP hD isC hC hnC).2⟩
theorem xCW (hF : CallFix p m c cc nL s args (c0 :: wsU) own) (hw : xWV own index C y bytes maxL ret n) (hR : rm.cells = mc ∧ rm.slots = ms ∧ rm.frames + 1 ≤ R.frames ∧ 8 + (maxL + 11) + rm.locals ≤ R.locals) : CallW R s args own C index y bytes maxL ret (Cond.code y bytes maxL ret :: wsU) rm mc ms n := by
  have g : GoodIn (c0 :: wsU) (wsV own index C y (Cond.code y bytes maxL ret :: wsU)) := by
    refine goodIn_app ?_ (xU_cons hw.1.2.2.2.2)
    intro w h
    simp only [List.mem_cons, List.not_mem_nil, or_false] at h
    rcases h with rfl | rfl | rfl | rfl
    · exact xU_ok _ hw.1.1
    · exact xU_ok _ hw.1.2.1
    · exact xU_ok _ hw.1.2.2.1
    · exact xU_ok _ hw.1.2.2.2.1
  exact cwV n hF.2.2.2.2 g rfl hR.1 hR.2.1 hw.2 hR.2.2
theorem xCS (hF : CallFix p m c cc nL s args (c0 :: wsU) own) (hw : xWS own index y bytes maxL ret n) (hR : rm.cells = mc ∧ rm.slots = ms ∧ rm.frames + 1 ≤ R.frames ∧ 8 + (maxL + 11) + rm.locals ≤ R.locals) : CallB R s args own index y bytes maxL ret (Cond.code y bytes maxL ret :: wsU) rm mc ms n ∧ (Cond.static y).before args s = true :=
  have ok : ∀ w ∈ wsU, w.before args s = true := fun w h => hF.2.2.2.2 w (List.mem_cons_of_mem _ h)
  ⟨callB_of n hF.2.2.2.2 (xU_cons hw.1.2.2.2) rfl hR.1 hR.2.1 (ok _ hw.1.2.2.1) (ok _ hw.1.1) hw.2 hR.2.2, ok _ hw.1.2.1⟩
/-- RO: a call that only reads; int or boolean back -/
theorem xc_Vr (hF : CallFix p m c cc nL s args (c0 :: wsU) own) {post : Int32 → Prop} (hM : Met l y (Cond.code y bytes maxL ret :: wsU) rm (va_Pc (.ref b :: As) (XW D T sa wc H.size)) (vp_Si post) 0 0 (fun _ => False)) (hw : xWV own index C y bytes maxL ret n) (hR : rm.cells = 0 ∧ rm.slots = 0 ∧ rm.frames + 1 ≤ R.frames ∧ 8 + (maxL + 11) + rm.locals ≤ R.locals) (hf : cells ≤ R.cells ∧ slots ≤ R.slots)
    (hK : va_K D vwCl T s) (hN : XN sa s) (hP : va_P D vwCl ws H) (hD : va_D A ws) (isC : List Nat) (hC : isC.map (fun i => ws[i]?) = wc.map some) (hnC : va_nd isC = true) (q0 : Nat) {ci : Nat} {fs : List Value} {cq : vw_C} (he : wc[q0]? = some (b, .inr (ci, fs))) (hc : vwCl[ci]? = some cq) (hcC : cq.1 = C)
    (hn : As.length = n) (hsz : ls.size = nL) (hst : st0 = As.reverse ++ .ref b :: rest) (hrest : (rest.map fun v => v.category).sum ≤ 8) (hdg : decode cc pc = .ok (.invokevirtual index, 3))
    (kk : ∀ r : Int32, post r → W p l e R s m args below meth c H locs cells slots Q (F0 m (pc + 3) ls (.int r :: rest))) : W p l e R s m args below meth c H locs cells slots Q (F0 m pc ls st0) := by
  subst hst
  exact vp_callSi (W.runV hF hM (xCW hF hw hR) (xPV hK hN hP hD isC hC hnC q0 he hc hcC) rfl hn hsz rfl (lv_room hrest) hdg ⟨hf.1, hf.2⟩) kk
theorem xc_Vrv (hF : CallFix p m c cc nL s args (c0 :: wsU) own) {post : Unit → Prop} (hM : Met l y (Cond.code y bytes maxL ret :: wsU) rm (va_Pc (.ref b :: As) (XW D T sa wc H.size)) (va_Sv post) 0 0 (fun _ => False)) (hw : xWV own index C y bytes maxL ret n) (hR : rm.cells = 0 ∧ rm.slots = 0 ∧ rm.frames + 1 ≤ R.frames ∧ 8 + (maxL + 11) + rm.locals ≤ R.locals) (hf : cells ≤ R.cells ∧ slots ≤ R.slots)
    (hK : va_K D vwCl T s) (hN : XN sa s) (hP : va_P D vwCl ws H) (hD : va_D A ws) (isC : List Nat) (hC : isC.map (fun i => ws[i]?) = wc.map some) (hnC : va_nd isC = true) (q0 : Nat) {ci : Nat} {fs : List Value} {cq : vw_C} (he : wc[q0]? = some (b, .inr (ci, fs))) (hc : vwCl[ci]? = some cq) (hcC : cq.1 = C)
    (hn : As.length = n) (hsz : ls.size = nL) (hst : st0 = As.reverse ++ .ref b :: rest) (hrest : (rest.map fun v => v.category).sum ≤ 8) (hdg : decode cc pc = .ok (.invokevirtual index, 3))
    (kk : post () → W p l e R s m args below meth c H locs cells slots Q (F0 m (pc + 3) ls rest)) : W p l e R s m args below meth c H locs cells slots Q (F0 m pc ls st0) := by
  subst hst
  exact va_csv (W.runV hF hM (xCW hF hw hR) (xPV hK hN hP hD isC hC hnC q0 he hc hcC) rfl hn hsz rfl (lv_room hrest) hdg ⟨hf.1, hf.2⟩) kk
theorem xc_Sr (hF : CallFix p m c cc nL s args (c0 :: wsU) own) {post : Int32 → Prop} (hM : Met l y (Cond.code y bytes maxL ret :: wsU) rm (va_Pc As (XW D T sa wc H.size)) (vp_Si post) 0 0 (fun _ => False)) (hw : xWS own index y bytes maxL ret n) (hR : rm.cells = 0 ∧ rm.slots = 0 ∧ rm.frames + 1 ≤ R.frames ∧ 8 + (maxL + 11) + rm.locals ≤ R.locals) (hf : cells ≤ R.cells ∧ slots ≤ R.slots)
    (hK : va_K D vwCl T s) (hN : XN sa s) (hP : va_P D vwCl ws H) (hD : va_D A ws) (isC : List Nat) (hC : isC.map (fun i => ws[i]?) = wc.map some) (hnC : va_nd isC = true)
    (hn : As.length = n) (hsz : ls.size = nL) (hst : st0 = As.reverse ++ rest) (hrest : (rest.map fun v => v.category).sum ≤ 8) (hdg : decode cc pc = .ok (.invokestatic index, 3))
    (kk : ∀ r : Int32, post r → W p l e R s m args below meth c H locs cells slots Q (F0 m (pc + 3) ls (.int r :: rest))) : W p l e R s m args below meth c H locs cells slots Q (F0 m pc ls st0) := by
  subst hst
  exact vp_callSi (W.runS hF hM (xCS hF hw hR) (xPS hK hN hP hD isC hC hnC) rfl hn hsz rfl (lv_room hrest) hdg ⟨hf.1, hf.2⟩) kk
/-- RW: a call that may write its cells; the cells wr stay beside it -/
theorem xc_Vi (hF : CallFix p m c cc nL s args (c0 :: wsU) own) {S : Type} {post : Int32 → S → Prop} {w1 : S → va_W} (hM : Met l y (Cond.code y bytes maxL ret :: wsU) rm (va_Pc (.ref b :: As) (XW D T sa wc H.size)) (XQi post D w1 (va_A wc H.size)) 0 0 (va_A wc H.size)) (hw : xWV own index C y bytes maxL ret n) (hR : rm.cells = 0 ∧ rm.slots = 0 ∧ rm.frames + 1 ≤ R.frames ∧ 8 + (maxL + 11) + rm.locals ≤ R.locals) (hf : cells ≤ R.cells ∧ slots ≤ R.slots)
    (hK : va_K D vwCl T s) (hN : XN sa s) (hP : va_P D vwCl ws H) (hD : va_D A ws) (hS : va_S A s.heap H locs) (hA : ∀ q : Nat, s.heap.size ≤ q → A q) (isC isR : List Nat) (hC : isC.map (fun i => ws[i]?) = wc.map some) (hRr : isR.map (fun i => ws[i]?) = wr.map some) (hnC : va_nd isC = true) (hnR : va_nd isR = true) (hdis : ∀ i ∈ isR, i ∉ isC) (q0 : Nat) {ci : Nat} {fs : List Value} {cq : vw_C} (he : wc[q0]? = some (b, .inr (ci, fs))) (hc : vwCl[ci]? = some cq) (hcC : cq.1 = C)
    (hn : As.length = n) (hsz : ls.size = nL) (hst : st0 = As.reverse ++ .ref b :: rest) (hrest : (rest.map fun v => v.category).sum ≤ 8) (hdg : decode cc pc = .ok (.invokevirtual index, 3))
    (kk : ∀ (r : Int32) (u : S) (H1 : Heap) (locs1 : List Loc), post r u → va_P D vwCl (wr ++ w1 u) H1 → va_D A (wr ++ w1 u) → va_S A s.heap H1 locs1 → W p l e R s m args below meth c H1 locs1 cells slots Q (F0 m (pc + 3) ls (.int r :: rest))) : W p l e R s m args below meth c H locs cells slots Q (F0 m pc ls st0) := by
  subst hst
  have hFc := va_free (wc := wc) hD hS hA isC hC
  refine va_calli (va_runV hF hM (xCW hF hw hR) (xPV hK hN hP hD isC hC hnC q0 he hc hcC) rfl hn hsz rfl (lv_room hrest) hdg ⟨hf.1, hf.2⟩) hS (fun q _ h => hFc q h) hFc (fun r u t H1 locs1 ht hvm hp hB hz hk hS1 => ?_)
  obtain ⟨hP1, hD1⟩ := hB
  rw [ht] at hP1
  obtain ⟨hP2, hD2⟩ := va_join (wr := wr) (w1 := w1 u) hP hD isC isR hC hRr hnR hdis hk hFc hP1 hD1
  exact kk r u H1 locs1 hp hP2 hD2 hS1
theorem xc_Vl (hF : CallFix p m c cc nL s args (c0 :: wsU) own) {S : Type} {post : Int64 → S → Prop} {w1 : S → va_W} (hM : Met l y (Cond.code y bytes maxL ret :: wsU) rm (va_Pc (.ref b :: As) (XW D T sa wc H.size)) (XQl post D w1 (va_A wc H.size)) 0 0 (va_A wc H.size)) (hw : xWV own index C y bytes maxL ret n) (hR : rm.cells = 0 ∧ rm.slots = 0 ∧ rm.frames + 1 ≤ R.frames ∧ 8 + (maxL + 11) + rm.locals ≤ R.locals) (hf : cells ≤ R.cells ∧ slots ≤ R.slots)
    (hK : va_K D vwCl T s) (hN : XN sa s) (hP : va_P D vwCl ws H) (hD : va_D A ws) (hS : va_S A s.heap H locs) (hA : ∀ q : Nat, s.heap.size ≤ q → A q) (isC isR : List Nat) (hC : isC.map (fun i => ws[i]?) = wc.map some) (hRr : isR.map (fun i => ws[i]?) = wr.map some) (hnC : va_nd isC = true) (hnR : va_nd isR = true) (hdis : ∀ i ∈ isR, i ∉ isC) (q0 : Nat) {ci : Nat} {fs : List Value} {cq : vw_C} (he : wc[q0]? = some (b, .inr (ci, fs))) (hc : vwCl[ci]? = some cq) (hcC : cq.1 = C)
    (hn : As.length = n) (hsz : ls.size = nL) (hst : st0 = As.reverse ++ .ref b :: rest) (hrest : (rest.map fun v => v.category).sum ≤ 8) (hdg : decode cc pc = .ok (.invokevirtual index, 3))
    (kk : ∀ (r : Int64) (u : S) (H1 : Heap) (locs1 : List Loc), post r u → va_P D vwCl (wr ++ w1 u) H1 → va_D A (wr ++ w1 u) → va_S A s.heap H1 locs1 → W p l e R s m args below meth c H1 locs1 cells slots Q (F0 m (pc + 3) ls (.long r :: rest))) : W p l e R s m args below meth c H locs cells slots Q (F0 m pc ls st0) := by
  subst hst
  have hFc := va_free (wc := wc) hD hS hA isC hC
  refine va_calll (va_runV hF hM (xCW hF hw hR) (xPV hK hN hP hD isC hC hnC q0 he hc hcC) rfl hn hsz rfl (lv_room hrest) hdg ⟨hf.1, hf.2⟩) hS (fun q _ h => hFc q h) hFc (fun r u t H1 locs1 ht hvm hp hB hz hk hS1 => ?_)
  obtain ⟨hP1, hD1⟩ := hB
  rw [ht] at hP1
  obtain ⟨hP2, hD2⟩ := va_join (wr := wr) (w1 := w1 u) hP hD isC isR hC hRr hnR hdis hk hFc hP1 hD1
  exact kk r u H1 locs1 hp hP2 hD2 hS1
theorem xc_Vv (hF : CallFix p m c cc nL s args (c0 :: wsU) own) {S : Type} {post : S → Prop} {w1 : S → va_W} (hM : Met l y (Cond.code y bytes maxL ret :: wsU) rm (va_Pc (.ref b :: As) (XW D T sa wc H.size)) (XQv post D w1 (va_A wc H.size)) 0 0 (va_A wc H.size)) (hw : xWV own index C y bytes maxL ret n) (hR : rm.cells = 0 ∧ rm.slots = 0 ∧ rm.frames + 1 ≤ R.frames ∧ 8 + (maxL + 11) + rm.locals ≤ R.locals) (hf : cells ≤ R.cells ∧ slots ≤ R.slots)
    (hK : va_K D vwCl T s) (hN : XN sa s) (hP : va_P D vwCl ws H) (hD : va_D A ws) (hS : va_S A s.heap H locs) (hA : ∀ q : Nat, s.heap.size ≤ q → A q) (isC isR : List Nat) (hC : isC.map (fun i => ws[i]?) = wc.map some) (hRr : isR.map (fun i => ws[i]?) = wr.map some) (hnC : va_nd isC = true) (hnR : va_nd isR = true) (hdis : ∀ i ∈ isR, i ∉ isC) (q0 : Nat) {ci : Nat} {fs : List Value} {cq : vw_C} (he : wc[q0]? = some (b, .inr (ci, fs))) (hc : vwCl[ci]? = some cq) (hcC : cq.1 = C)
    (hn : As.length = n) (hsz : ls.size = nL) (hst : st0 = As.reverse ++ .ref b :: rest) (hrest : (rest.map fun v => v.category).sum ≤ 8) (hdg : decode cc pc = .ok (.invokevirtual index, 3))
    (kk : ∀ (u : S) (H1 : Heap) (locs1 : List Loc), post u → va_P D vwCl (wr ++ w1 u) H1 → va_D A (wr ++ w1 u) → va_S A s.heap H1 locs1 → W p l e R s m args below meth c H1 locs1 cells slots Q (F0 m (pc + 3) ls rest)) : W p l e R s m args below meth c H locs cells slots Q (F0 m pc ls st0) := by
  subst hst
  have hFc := va_free (wc := wc) hD hS hA isC hC
  refine va_callv (va_runV hF hM (xCW hF hw hR) (xPV hK hN hP hD isC hC hnC q0 he hc hcC) rfl hn hsz rfl (lv_room hrest) hdg ⟨hf.1, hf.2⟩) hS (fun q _ h => hFc q h) hFc (fun u t H1 locs1 ht hvm hp hB hz hk hS1 => ?_)
  obtain ⟨hP1, hD1⟩ := hB
  rw [ht] at hP1
  obtain ⟨hP2, hD2⟩ := va_join (wr := wr) (w1 := w1 u) hP hD isC isR hC hRr hnR hdis hk hFc hP1 hD1
  exact kk u H1 locs1 hp hP2 hD2 hS1
/-- a constructor of a nest mate -/
theorem xc_IN (hF : CallFix p m c cc nL s args (c0 :: wsU) own) {S : Type} {post : S → Prop} {w1 : S → va_W} {host : String} (hM : Met l y (Cond.code y bytes maxL none :: wsU) rm (va_Pc (.ref b :: As) (XW D T sa wc H.size)) (XQv post D w1 (va_A wc H.size)) mc ms (va_A wc H.size)) (hwc : Cond.code y bytes maxL none ∈ wsU ∧ Cond.instanceMethod y ∈ wsU ∧ Cond.initialized y.cls ∈ wsU) (hwd : y.name = "<init>" ∧ y.cls ≠ "java/lang/invoke/MethodHandle" ∧ y.cls ≠ "java/lang/invoke/VarHandle" ∧ (parseMethodDescriptor y.desc).map (fun d => d.parameters.length) = some n) (hne : Cond.methodLinkNest own index y host ∈ xNest) (hR : rm.cells = mc ∧ rm.slots = ms ∧ rm.frames + 1 ≤ R.frames ∧ 8 + (maxL + 11) + rm.locals ≤ R.locals) (hf : cells + mc ≤ R.cells ∧ slots + ms ≤ R.slots)
    (hK : va_K D vwCl T s) (hN : XN sa s) (hP : va_P D vwCl ws H) (hD : va_D A ws) (hS : va_S A s.heap H locs) (hA : ∀ q : Nat, s.heap.size ≤ q → A q) (isC isR : List Nat) (hC : isC.map (fun i => ws[i]?) = wc.map some) (hRr : isR.map (fun i => ws[i]?) = wr.map some) (hnC : va_nd isC = true) (hnR : va_nd isR = true) (hdis : ∀ i ∈ isR, i ∉ isC)
    (hn : As.length = n) (hsz : ls.size = nL) (hst : st0 = As.reverse ++ .ref b :: rest) (hrest : (rest.map fun v => v.category).sum ≤ 8) (hdg : decode cc pc = .ok (.invokespecial index, 3))
    (kk : ∀ (u : S) (H1 : Heap) (locs1 : List Loc), post u → va_P D vwCl (wr ++ w1 u) H1 → va_D A (wr ++ w1 u) → va_S A s.heap H1 locs1 → W p l e R s m args below meth c H1 locs1 (cells + mc) (slots + ms) Q (F0 m (pc + 3) ls rest)) : W p l e R s m args below meth c H locs cells slots Q (F0 m pc ls st0) := by
  subst hst
  have ok : ∀ w ∈ wsU, w.before args s = true := fun w h => hF.2.2.2.2 w (List.mem_cons_of_mem _ h)
  have hFc := va_free (wc := wc) hD hS hA isC hC
  refine va_callv (va_runIN hF hM ⟨va_cnB (host := host) n hF.2.2.2.2 (xU_cons hwc.1) rfl hR.1 hR.2.1 (hN.1 _ hne) (ok _ hwc.2.2) hwd.2 hR.2.2, hwd.1, ok _ hwc.2.1⟩ (xPS hK hN hP hD isC hC hnC) rfl hn hsz rfl (lv_room hrest) hdg hf) hS (fun q _ h => hFc q h) hFc (fun u t H1 locs1 ht hvm hp hB hz hk hS1 => ?_)
  obtain ⟨hP1, hD1⟩ := hB
  rw [ht] at hP1
  obtain ⟨hP2, hD2⟩ := va_join (wr := wr) (w1 := w1 u) hP hD isC isR hC hRr hnR hdis hk hFc hP1 hD1
  exact kk u H1 locs1 hp hP2 hD2 hS1
/-- .. linked the plain way -/
theorem xc_I (hF : CallFix p m c cc nL s args (c0 :: wsU) own) {S : Type} {post : S → Prop} {w1 : S → va_W} (hM : Met l y (Cond.code y bytes maxL none :: wsU) rm (va_Pc (.ref b :: As) (XW D T sa wc H.size)) (XQv post D w1 (va_A wc H.size)) mc ms (va_A wc H.size)) (hw : xWI own index y bytes maxL n) (hR : rm.cells = mc ∧ rm.slots = ms ∧ rm.frames + 1 ≤ R.frames ∧ 8 + (maxL + 11) + rm.locals ≤ R.locals) (hf : cells + mc ≤ R.cells ∧ slots + ms ≤ R.slots)
    (hK : va_K D vwCl T s) (hN : XN sa s) (hP : va_P D vwCl ws H) (hD : va_D A ws) (hS : va_S A s.heap H locs) (hA : ∀ q : Nat, s.heap.size ≤ q → A q) (isC isR : List Nat) (hC : isC.map (fun i => ws[i]?) = wc.map some) (hRr : isR.map (fun i => ws[i]?) = wr.map some) (hnC : va_nd isC = true) (hnR : va_nd isR = true) (hdis : ∀ i ∈ isR, i ∉ isC)
    (hn : As.length = n) (hsz : ls.size = nL) (hst : st0 = As.reverse ++ .ref b :: rest) (hrest : (rest.map fun v => v.category).sum ≤ 8) (hdg : decode cc pc = .ok (.invokespecial index, 3))
    (kk : ∀ (u : S) (H1 : Heap) (locs1 : List Loc), post u → va_P D vwCl (wr ++ w1 u) H1 → va_D A (wr ++ w1 u) → va_S A s.heap H1 locs1 → W p l e R s m args below meth c H1 locs1 (cells + mc) (slots + ms) Q (F0 m (pc + 3) ls rest)) : W p l e R s m args below meth c H locs cells slots Q (F0 m pc ls st0) := by
  subst hst
  have ok : ∀ w ∈ wsU, w.before args s = true := fun w h => hF.2.2.2.2 w (List.mem_cons_of_mem _ h)
  have hFc := va_free (wc := wc) hD hS hA isC hC
  refine va_callv (va_runI hF hM ⟨callB_of n hF.2.2.2.2 (xU_cons hw.1.2.2.2) rfl hR.1 hR.2.1 (ok _ hw.1.2.2.1) (ok _ hw.1.1) hw.2.2 hR.2.2, hw.2.1, ok _ hw.1.2.1⟩ (xPS hK hN hP hD isC hC hnC) rfl hn hsz rfl (lv_room hrest) hdg hf) hS (fun q _ h => hFc q h) hFc (fun u t H1 locs1 ht hvm hp hB hz hk hS1 => ?_)
  obtain ⟨hP1, hD1⟩ := hB
  rw [ht] at hP1
  obtain ⟨hP2, hD2⟩ := va_join (wr := wr) (w1 := w1 u) hP hD isC isR hC hRr hnR hdis hk hFc hP1 hD1
  exact kk u H1 locs1 hp hP2 hD2 hS1
/-- a new array of a class that is known -/
theorem xna (hF : CallFix p m c cc nL s args (c0 :: wsU) own) {atype : ArrayType} {ty : FieldType} (hty : newarray.typeOf atype = ty) (harr : Cond.arrayClass (newarray.typeOf atype) ∈ wsU) (hK : va_K D vwCl T s) (hP : va_P D vwCl ws H) (hD : va_D A ws) (hS : va_S A s.heap H locs) (hA : ∀ q : Nat, s.heap.size ≤ q → A q) (t0 : Nat) {cA0 : ClassId} (ht : T[t0]? = some (cA0, ty)) (huq : ∀ cA, va_RA s cA ty → va_RA s cA0 ty → cA = cA0)
    {n : Int32} {N' : Nat} {a0 : vp_A} (ha : ∀ cA : ClassId, vp_cell cA a0 = arrV cA N' (fun _ => defaultValue ty)) (hn : ¬ n < 0) (hN : n.toNatClampNeg = N') (hbytes : N' * componentBytes ty ≤ 536870912) (hcells : cells + 1 ≤ R.cells) (hslots : slots + N' ≤ R.slots) (hdg : decode cc pc = .ok (.newarray atype, 2))
    (kk : ∀ (q : Nat) (H1 : Heap), va_P D vwCl (ws ++ [(q, .inl (cA0, a0))]) H1 → va_D A (ws ++ [(q, .inl (cA0, a0))]) → va_S A s.heap H1 locs →
      W p l e R s m args below meth c H1 locs (cells + 1) (slots + N') Q (F0 m (pc + 2) ls (.ref q :: rest))) : W p l e R s m args below meth c H locs cells slots Q (F0 m pc ls (.int n :: rest)) := by
  refine va_newa (atype := atype) hF.1 hF.2.1 (hF.2.2.2.2 _ (List.mem_cons_of_mem _ harr)) hty hK hP hD hS hA ha hn hN hbytes hcells hslots hdg (fun q cA H1 hK1 hP1 hD1 hS1 => ?_)
  have e1 : cA = cA0 := huq cA (hK1.2 T.length (cA, ty) (by simp)).2 (hK.2 t0 _ ht).2
  subst e1
  exact kk q H1 hP1 hD1 hS1
/-- .. of the sheets -/
theorem xnq (hF : CallFix p m c cc nL s args (c0 :: wsU) own) {index : Nat} (hcl : (Cond.classLink own index RX4).before args s = true) (hN : XN sa s) (hK : va_K D vwCl T s) (hP : va_P D vwCl ws H) (hD : va_D A ws) (hS : va_S A s.heap H locs) (hA : ∀ q : Nat, s.heap.size ≤ q → A q) (t0 : Nat) {cA0 : ClassId} (ht : T[t0]? = some (cA0, .object RX4))
    {n : Int32} {N' : Nat} (hn : ¬ n < 0) (hN' : n.toNatClampNeg = N') (hbytes : N' * 4 ≤ 536870912) (hcells : cells + 1 ≤ R.cells) (hslots : slots + N' ≤ R.slots) (hdg : decode cc pc = .ok (.anewarray index, 3))
    (kk : ∀ (q : Nat) (H1 : Heap), va_P D vwCl (ws ++ [(q, .inl (cA0, N', .inr (.inr (.inr (.inr (fun _ => none))))))]) H1 → va_D A (ws ++ [(q, .inl (cA0, N', .inr (.inr (.inr (.inr (fun _ => none))))))]) → va_S A s.heap H1 locs →
      W p l e R s m args below meth c H1 locs (cells + 1) (slots + N') Q (F0 m (pc + 3) ls (.ref q :: rest))) : W p l e R s m args below meth c H locs cells slots Q (F0 m pc ls (.int n :: rest)) := by
  refine va_newq hF.1 hF.2.1 hF.2.2.2.1 hcl hN.2.1 hK hP hD hS hA hn hN' hbytes hcells hslots hdg (fun q cA H1 hK1 hP1 hD1 hS1 => ?_)
  have h1 : va_RA s cA (.object RX4) := (hK1.2 T.length (cA, .object RX4) (by simp)).2
  have h2 : va_RA s cA0 (.object RX4) := (hK.2 t0 _ ht).2
  obtain ⟨-, -, -, -, -, e1⟩ := h1
  obtain ⟨-, -, -, -, -, e2⟩ := h2
  have e3 : cA = cA0 := Option.some.inj (e1.symm.trans e2)
  subst e3
  exact kk q H1 hP1 hD1 hS1
end XR
theorem xuq_int {s : State} {a b : ClassId} (h1 : va_RA s a .int) (h2 : va_RA s b .int) : a = b := Option.some.inj ((va_nm_int h1).symm.trans (va_nm_int h2))
theorem xuq_long {s : State} {a b : ClassId} (h1 : va_RA s a .long) (h2 : va_RA s b .long) : a = b := Option.some.inj ((va_nm_long h1).symm.trans (va_nm_long h2))
theorem xuq_boolean {s : State} {a b : ClassId} (h1 : va_RA s a .boolean) (h2 : va_RA s b .boolean) : a = b := Option.some.inj ((va_nm_boolean h1).symm.trans (va_nm_boolean h2))
theorem xin (k n : Nat) (h : k < n) (hn : n < 2 ^ 31) : vp_in (OfNat.ofNat k : Int32) n := vp_in_nI h hn
theorem xcpy0 (a b n : Nat) : va_cpy (fun _ => (0 : Int32)) (fun _ => (0 : Int32)) a b n = fun _ => (0 : Int32) := by
  funext k
  unfold va_cpy
  split <;> rfl
theorem xnl {a b : Int32} (h : ¬ a < b) : b ≤ a := Int32.not_lt.mp h
theorem xlt {a b : Int32} (h : ¬ b ≤ a) : a < b := Int32.not_le.mp h
theorem xw_lt (a b : Int32) : a.toInt64 < b.toInt64 ↔ a < b := by
  rw [Int64.lt_iff_toInt_lt, Int32.lt_iff_toInt_lt, Int32.toInt_toInt64, Int32.toInt_toInt64]
theorem xq_lt (x y : Int64) : lg_cmp x y < 0 ↔ x < y := by
  have h := lg_cmp_ge x y
  rw [← Int32.not_le, h, Int64.not_le]
theorem xq_gt (x y : Int64) : 0 < lg_cmp x y ↔ y < x := by
  unfold lg_cmp
  by_cases h1 : y < x
  · simp [h1]
  · by_cases h2 : x = y
    · subst h2; simp
    · simp [h1, h2]
theorem xq1 {a b : Int32} : lg_cmp a.toInt64 b.toInt64 < 0 ↔ a < b := (xq_lt _ _).trans (xw_lt a b)
theorem xq2 {a b : Int32} : 0 < lg_cmp a.toInt64 b.toInt64 ↔ b < a := (xq_gt _ _).trans (xw_lt b a)
theorem x_m1 {a : Int32} (h1 : ¬ a < 0) (h2 : ¬ (-1) < a) : False := by
  rw [Int32.lt_iff_toInt_lt] at h1 h2
  have e0 : (0 : Int32).toInt = 0 := by decide
  have e1 : (-1 : Int32).toInt = -1 := by decide
  omega
theorem x_i4 {a : Int32} (h1 : ¬ a < 0) (h2 : ¬ 3 < a) : a = 0 ∨ a = 1 ∨ a = 2 ∨ a = 3 := by
  rw [Int32.lt_iff_toInt_lt] at h1 h2
  have e0 : (0 : Int32).toInt = 0 := by decide
  have e1 : (1 : Int32).toInt = 1 := by decide
  have e2 : (2 : Int32).toInt = 2 := by decide
  have e3 : (3 : Int32).toInt = 3 := by decide
  simp only [← Int32.toInt_inj]
  omega
theorem x_f4 {a : Int32} (h1 : ¬ a < 1) (h2 : ¬ 4 < a) : a = 1 ∨ a = 2 ∨ a = 3 ∨ a = 4 := by
  rw [Int32.lt_iff_toInt_lt] at h1 h2
  have e1 : (1 : Int32).toInt = 1 := by decide
  have e2 : (2 : Int32).toInt = 2 := by decide
  have e3 : (3 : Int32).toInt = 3 := by decide
  have e4 : (4 : Int32).toInt = 4 := by decide
  simp only [← Int32.toInt_inj]
  omega
theorem x_k3 {a : Int32} (h1 : ¬ a < 0) (h2 : ¬ 2 < a) : a = 0 ∨ a = 1 ∨ a = 2 := by
  rw [Int32.lt_iff_toInt_lt] at h1 h2
  have e0 : (0 : Int32).toInt = 0 := by decide
  have e1 : (1 : Int32).toInt = 1 := by decide
  have e2 : (2 : Int32).toInt = 2 := by decide
  simp only [← Int32.toInt_inj]
  omega
theorem x_s6 (a : Int32) : (a.toInt < 0 ∨ 5 < a.toInt) ∨ a = 0 ∨ a = 1 ∨ a = 2 ∨ a = 3 ∨ a = 4 ∨ a = 5 := by
  have e0 : (0 : Int32).toInt = 0 := by decide
  have e1 : (1 : Int32).toInt = 1 := by decide
  have e2 : (2 : Int32).toInt = 2 := by decide
  have e3 : (3 : Int32).toInt = 3 := by decide
  have e4 : (4 : Int32).toInt = 4 := by decide
  have e5 : (5 : Int32).toInt = 5 := by decide
  simp only [← Int32.toInt_inj]
  omega
theorem x_st {a : Int32} (h1 : ¬ a < (-1)) (h2 : ¬ 6 < a) : a = -1 ∨ a = 0 ∨ a = 1 ∨ a = 2 ∨ a = 3 ∨ a = 4 ∨ a = 5 ∨ a = 6 := by
  rw [Int32.lt_iff_toInt_lt] at h1 h2
  have em : (-1 : Int32).toInt = -1 := by decide
  have e0 : (0 : Int32).toInt = 0 := by decide
  have e1 : (1 : Int32).toInt = 1 := by decide
  have e2 : (2 : Int32).toInt = 2 := by decide
  have e3 : (3 : Int32).toInt = 3 := by decide
  have e4 : (4 : Int32).toInt = 4 := by decide
  have e5 : (5 : Int32).toInt = 5 := by decide
  have e6 : (6 : Int32).toInt = 6 := by decide
  simp only [← Int32.toInt_inj]
  omega
end
section
theorem dX0_hasLoop_0 : decode cX0_hasLoop 0 = .ok (.iconst 0, 1) := by decide +kernel
theorem dX0_hasLoop_1 : decode cX0_hasLoop 1 = .ok (.istore_n 1, 1) := by decide +kernel
theorem dX0_hasLoop_2 : decode cX0_hasLoop 2 = .ok (.iload_n 1, 1) := by decide +kernel
theorem dX0_hasLoop_3 : decode cX0_hasLoop 3 = .ok (.aload_n 0, 1) := by decide +kernel
theorem dX0_hasLoop_4 : decode cX0_hasLoop 4 = .ok (.getfield 9, 3) := by decide +kernel
theorem dX0_hasLoop_7 : decode cX0_hasLoop 7 = .ok (.if_icmp .ge 20, 3) := by decide +kernel
theorem dX0_hasLoop_27 : decode cX0_hasLoop 27 = .ok (.iconst 0, 1) := by decide +kernel
theorem dX0_hasLoop_28 : decode cX0_hasLoop 28 = .ok (.ireturn, 1) := by decide +kernel
theorem dX0_homeOf_0 : decode cX0_homeOf 0 = .ok (.iconst (-1), 1) := by decide +kernel
theorem dX0_homeOf_1 : decode cX0_homeOf 1 = .ok (.istore_n 2, 1) := by decide +kernel
theorem dX0_homeOf_2 : decode cX0_homeOf 2 = .ok (.ldc 38, 2) := by decide +kernel
theorem dX0_homeOf_4 : decode cX0_homeOf 4 = .ok (.istore_n 3, 1) := by decide +kernel
theorem dX0_homeOf_5 : decode cX0_homeOf 5 = .ok (.iconst 0, 1) := by decide +kernel
theorem dX0_homeOf_6 : decode cX0_homeOf 6 = .ok (.istore 4, 2) := by decide +kernel
theorem dX0_homeOf_8 : decode cX0_homeOf 8 = .ok (.iload 4, 2) := by decide +kernel
theorem dX0_homeOf_10 : decode cX0_homeOf 10 = .ok (.aload_n 0, 1) := by decide +kernel
theorem dX0_homeOf_11 : decode cX0_homeOf 11 = .ok (.getfield 9, 3) := by decide +kernel
theorem dX0_homeOf_14 : decode cX0_homeOf 14 = .ok (.if_icmp .ge 30, 3) := by decide +kernel
theorem dX0_homeOf_44 : decode cX0_homeOf 44 = .ok (.iload_n 2, 1) := by decide +kernel
theorem dX0_homeOf_45 : decode cX0_homeOf 45 = .ok (.ireturn, 1) := by decide +kernel
theorem dX0_leastTrip_0 : decode cX0_leastTrip 0 = .ok (.aload_n 0, 1) := by decide +kernel
theorem dX0_leastTrip_1 : decode cX0_leastTrip 1 = .ok (.aload_n 1, 1) := by decide +kernel
theorem dX0_leastTrip_2 : decode cX0_leastTrip 2 = .ok (.invokevirtual 73, 3) := by decide +kernel
theorem dX0_leastTrip_5 : decode cX0_leastTrip 5 = .ok (.istore_n 2, 1) := by decide +kernel
theorem dX0_leastTrip_6 : decode cX0_leastTrip 6 = .ok (.iload_n 2, 1) := by decide +kernel
theorem dX0_leastTrip_7 : decode cX0_leastTrip 7 = .ok (.ifCond .ge 8, 3) := by decide +kernel
theorem dX0_leastTrip_10 : decode cX0_leastTrip 10 = .ok (.ldc 38, 2) := by decide +kernel
theorem dX0_leastTrip_12 : decode cX0_leastTrip 12 = .ok (.goto 9, 3) := by decide +kernel
theorem dX0_leastTrip_21 : decode cX0_leastTrip 21 = .ok (.ireturn, 1) := by decide +kernel
theorem dX0_loopSet_0 : decode cX0_loopSet 0 = .ok (.iconst 0, 1) := by decide +kernel
theorem dX0_loopSet_1 : decode cX0_loopSet 1 = .ok (.istore_n 1, 1) := by decide +kernel
theorem dX0_loopSet_2 : decode cX0_loopSet 2 = .ok (.iconst 0, 1) := by decide +kernel
theorem dX0_loopSet_3 : decode cX0_loopSet 3 = .ok (.istore_n 2, 1) := by decide +kernel
theorem dX0_loopSet_4 : decode cX0_loopSet 4 = .ok (.iload_n 2, 1) := by decide +kernel
theorem dX0_loopSet_5 : decode cX0_loopSet 5 = .ok (.aload_n 0, 1) := by decide +kernel
theorem dX0_loopSet_6 : decode cX0_loopSet 6 = .ok (.getfield 9, 3) := by decide +kernel
theorem dX0_loopSet_9 : decode cX0_loopSet 9 = .ok (.if_icmp .ge 49, 3) := by decide +kernel
theorem dX0_loopSet_58 : decode cX0_loopSet 58 = .ok (.iload_n 1, 1) := by decide +kernel
theorem dX0_loopSet_59 : decode cX0_loopSet 59 = .ok (.ireturn, 1) := by decide +kernel
theorem dX0_measure_0 : decode cX0_measure 0 = .ok (.aload_n 0, 1) := by decide +kernel
theorem dX0_measure_1 : decode cX0_measure 1 = .ok (.aload_n 1, 1) := by decide +kernel
theorem dX0_measure_2 : decode cX0_measure 2 = .ok (.getfield 19, 3) := by decide +kernel
theorem dX0_measure_5 : decode cX0_measure 5 = .ok (.putfield 9, 3) := by decide +kernel
theorem dX0_measure_8 : decode cX0_measure 8 = .ok (.iconst 0, 1) := by decide +kernel
theorem dX0_measure_9 : decode cX0_measure 9 = .ok (.istore_n 2, 1) := by decide +kernel
theorem dX0_measure_10 : decode cX0_measure 10 = .ok (.iload_n 2, 1) := by decide +kernel
theorem dX0_measure_11 : decode cX0_measure 11 = .ok (.aload_n 0, 1) := by decide +kernel
theorem dX0_measure_12 : decode cX0_measure 12 = .ok (.getfield 9, 3) := by decide +kernel
theorem dX0_measure_15 : decode cX0_measure 15 = .ok (.if_icmp .ge 51, 3) := by decide +kernel
theorem dX0_measure_66 : decode cX0_measure 66 = .ok (.iconst 0, 1) := by decide +kernel
theorem dX0_measure_67 : decode cX0_measure 67 = .ok (.istore_n 2, 1) := by decide +kernel
theorem dX0_measure_68 : decode cX0_measure 68 = .ok (.iload_n 2, 1) := by decide +kernel
theorem dX0_measure_69 : decode cX0_measure 69 = .ok (.aload_n 0, 1) := by decide +kernel
theorem dX0_measure_70 : decode cX0_measure 70 = .ok (.getfield 9, 3) := by decide +kernel
theorem dX0_measure_73 : decode cX0_measure 73 = .ok (.if_icmp .ge 14, 3) := by decide +kernel
theorem dX0_measure_87 : decode cX0_measure 87 = .ok (.return_, 1) := by decide +kernel
theorem dX1_addPlace_0 : decode cX1_addPlace 0 = .ok (.aload_n 0, 1) := by decide +kernel
theorem dX1_addPlace_1 : decode cX1_addPlace 1 = .ok (.getfield 9, 3) := by decide +kernel
theorem dX1_addPlace_4 : decode cX1_addPlace 4 = .ok (.istore_n 2, 1) := by decide +kernel
theorem dX1_addPlace_5 : decode cX1_addPlace 5 = .ok (.aload_n 0, 1) := by decide +kernel
theorem dX1_addPlace_6 : decode cX1_addPlace 6 = .ok (.dup, 1) := by decide +kernel
theorem dX1_addPlace_7 : decode cX1_addPlace 7 = .ok (.getfield 9, 3) := by decide +kernel
theorem dX1_addPlace_10 : decode cX1_addPlace 10 = .ok (.iconst 1, 1) := by decide +kernel
theorem dX1_addPlace_11 : decode cX1_addPlace 11 = .ok (.iadd, 1) := by decide +kernel
theorem dX1_addPlace_12 : decode cX1_addPlace 12 = .ok (.putfield 9, 3) := by decide +kernel
theorem dX1_addPlace_15 : decode cX1_addPlace 15 = .ok (.aload_n 0, 1) := by decide +kernel
theorem dX1_addPlace_16 : decode cX1_addPlace 16 = .ok (.getfield 15, 3) := by decide +kernel
theorem dX1_addPlace_19 : decode cX1_addPlace 19 = .ok (.iload_n 2, 1) := by decide +kernel
theorem dX1_addPlace_20 : decode cX1_addPlace 20 = .ok (.iload_n 1, 1) := by decide +kernel
theorem dX1_addPlace_21 : decode cX1_addPlace 21 = .ok (.iastore, 1) := by decide +kernel
theorem dX1_addPlace_22 : decode cX1_addPlace 22 = .ok (.iload_n 2, 1) := by decide +kernel
theorem dX1_addPlace_23 : decode cX1_addPlace 23 = .ok (.ireturn, 1) := by decide +kernel
theorem dX1_allBetweenEnds_0 : decode cX1_allBetweenEnds 0 = .ok (.iconst 0, 1) := by decide +kernel
theorem dX1_allBetweenEnds_1 : decode cX1_allBetweenEnds 1 = .ok (.istore_n 1, 1) := by decide +kernel
theorem dX1_allBetweenEnds_2 : decode cX1_allBetweenEnds 2 = .ok (.iconst 0, 1) := by decide +kernel
theorem dX1_allBetweenEnds_3 : decode cX1_allBetweenEnds 3 = .ok (.istore_n 2, 1) := by decide +kernel
theorem dX1_allBetweenEnds_4 : decode cX1_allBetweenEnds 4 = .ok (.iload_n 2, 1) := by decide +kernel
theorem dX1_allBetweenEnds_5 : decode cX1_allBetweenEnds 5 = .ok (.bipush 100, 2) := by decide +kernel
theorem dX1_allBetweenEnds_7 : decode cX1_allBetweenEnds 7 = .ok (.if_icmp .ge 38, 3) := by decide +kernel
theorem dX1_allBetweenEnds_10 : decode cX1_allBetweenEnds 10 = .ok (.iload_n 1, 1) := by decide +kernel
theorem dX1_allBetweenEnds_11 : decode cX1_allBetweenEnds 11 = .ok (.aload_n 0, 1) := by decide +kernel
theorem dX1_allBetweenEnds_12 : decode cX1_allBetweenEnds 12 = .ok (.getfield 25, 3) := by decide +kernel
theorem dX1_allBetweenEnds_15 : decode cX1_allBetweenEnds 15 = .ok (.iload_n 2, 1) := by decide +kernel
theorem dX1_allBetweenEnds_16 : decode cX1_allBetweenEnds 16 = .ok (.iaload, 1) := by decide +kernel
theorem dX1_allBetweenEnds_17 : decode cX1_allBetweenEnds 17 = .ok (.ifCond .ne 7, 3) := by decide +kernel
theorem dX1_allBetweenEnds_20 : decode cX1_allBetweenEnds 20 = .ok (.iconst 0, 1) := by decide +kernel
theorem dX1_allBetweenEnds_21 : decode cX1_allBetweenEnds 21 = .ok (.goto 16, 3) := by decide +kernel
theorem dX1_allBetweenEnds_37 : decode cX1_allBetweenEnds 37 = .ok (.iadd, 1) := by decide +kernel
theorem dX1_allBetweenEnds_38 : decode cX1_allBetweenEnds 38 = .ok (.istore_n 1, 1) := by decide +kernel
theorem dX1_allBetweenEnds_39 : decode cX1_allBetweenEnds 39 = .ok (.iinc 2 1, 3) := by decide +kernel
theorem dX1_allBetweenEnds_42 : decode cX1_allBetweenEnds 42 = .ok (.goto (-38), 3) := by decide +kernel
theorem dX1_allBetweenEnds_45 : decode cX1_allBetweenEnds 45 = .ok (.iload_n 1, 1) := by decide +kernel
theorem dX1_allBetweenEnds_46 : decode cX1_allBetweenEnds 46 = .ok (.ireturn, 1) := by decide +kernel
theorem dX1_allErrands_0 : decode cX1_allErrands 0 = .ok (.iconst 0, 1) := by decide +kernel
theorem dX1_allErrands_1 : decode cX1_allErrands 1 = .ok (.istore_n 1, 1) := by decide +kernel
theorem dX1_allErrands_2 : decode cX1_allErrands 2 = .ok (.iconst 0, 1) := by decide +kernel
theorem dX1_allErrands_3 : decode cX1_allErrands 3 = .ok (.istore_n 2, 1) := by decide +kernel
theorem dX1_allErrands_4 : decode cX1_allErrands 4 = .ok (.iload_n 2, 1) := by decide +kernel
theorem dX1_allErrands_5 : decode cX1_allErrands 5 = .ok (.aload_n 0, 1) := by decide +kernel
theorem dX1_allErrands_6 : decode cX1_allErrands 6 = .ok (.getfield 9, 3) := by decide +kernel
theorem dX1_allErrands_9 : decode cX1_allErrands 9 = .ok (.if_icmp .ge 18, 3) := by decide +kernel
theorem dX1_allErrands_27 : decode cX1_allErrands 27 = .ok (.iload_n 1, 1) := by decide +kernel
theorem dX1_allErrands_28 : decode cX1_allErrands 28 = .ok (.ireturn, 1) := by decide +kernel
theorem dX1_areTwo_0 : decode cX1_areTwo 0 = .ok (.aload_n 0, 1) := by decide +kernel
theorem dX1_areTwo_1 : decode cX1_areTwo 1 = .ok (.iload_n 1, 1) := by decide +kernel
theorem dX1_areTwo_2 : decode cX1_areTwo 2 = .ok (.i2l, 1) := by decide +kernel
theorem dX1_areTwo_3 : decode cX1_areTwo 3 = .ok (.invokevirtual 57, 3) := by decide +kernel
theorem dX1_areTwo_6 : decode cX1_areTwo 6 = .ok (.ifCond .eq 21, 3) := by decide +kernel
theorem dX1_areTwo_27 : decode cX1_areTwo 27 = .ok (.iconst 0, 1) := by decide +kernel
theorem dX1_areTwo_28 : decode cX1_areTwo 28 = .ok (.ireturn, 1) := by decide +kernel
theorem dX1_become_0 : decode cX1_become 0 = .ok (.aload_n 0, 1) := by decide +kernel
theorem dX1_become_1 : decode cX1_become 1 = .ok (.aload_n 1, 1) := by decide +kernel
theorem dX1_become_2 : decode cX1_become 2 = .ok (.getfield 9, 3) := by decide +kernel
theorem dX1_become_5 : decode cX1_become 5 = .ok (.putfield 9, 3) := by decide +kernel
theorem dX1_become_8 : decode cX1_become 8 = .ok (.aload_n 1, 1) := by decide +kernel
theorem dX1_become_9 : decode cX1_become 9 = .ok (.getfield 15, 3) := by decide +kernel
theorem dX1_become_12 : decode cX1_become 12 = .ok (.iconst 0, 1) := by decide +kernel
theorem dX1_become_13 : decode cX1_become 13 = .ok (.aload_n 0, 1) := by decide +kernel
theorem dX1_become_14 : decode cX1_become 14 = .ok (.getfield 15, 3) := by decide +kernel
theorem dX1_become_17 : decode cX1_become 17 = .ok (.iconst 0, 1) := by decide +kernel
theorem dX1_become_18 : decode cX1_become 18 = .ok (.bipush 10, 2) := by decide +kernel
theorem dX1_become_20 : decode cX1_become 20 = .ok (.invokestatic 47, 3) := by decide +kernel
theorem dX1_become_23 : decode cX1_become 23 = .ok (.aload_n 1, 1) := by decide +kernel
theorem dX1_become_24 : decode cX1_become 24 = .ok (.getfield 19, 3) := by decide +kernel
theorem dX1_become_27 : decode cX1_become 27 = .ok (.iconst 0, 1) := by decide +kernel
theorem dX1_become_28 : decode cX1_become 28 = .ok (.aload_n 0, 1) := by decide +kernel
theorem dX1_become_29 : decode cX1_become 29 = .ok (.getfield 19, 3) := by decide +kernel
theorem dX1_become_32 : decode cX1_become 32 = .ok (.iconst 0, 1) := by decide +kernel
theorem dX1_become_33 : decode cX1_become 33 = .ok (.bipush 100, 2) := by decide +kernel
theorem dX1_become_35 : decode cX1_become 35 = .ok (.invokestatic 47, 3) := by decide +kernel
theorem dX1_become_38 : decode cX1_become 38 = .ok (.aload_n 1, 1) := by decide +kernel
theorem dX1_become_39 : decode cX1_become 39 = .ok (.getfield 22, 3) := by decide +kernel
theorem dX1_become_42 : decode cX1_become 42 = .ok (.iconst 0, 1) := by decide +kernel
theorem dX1_become_43 : decode cX1_become 43 = .ok (.aload_n 0, 1) := by decide +kernel
theorem dX1_become_44 : decode cX1_become 44 = .ok (.getfield 22, 3) := by decide +kernel
theorem dX1_become_47 : decode cX1_become 47 = .ok (.iconst 0, 1) := by decide +kernel
theorem dX1_become_48 : decode cX1_become 48 = .ok (.bipush 100, 2) := by decide +kernel
theorem dX1_become_50 : decode cX1_become 50 = .ok (.invokestatic 47, 3) := by decide +kernel
theorem dX1_become_53 : decode cX1_become 53 = .ok (.aload_n 1, 1) := by decide +kernel
theorem dX1_become_54 : decode cX1_become 54 = .ok (.getfield 25, 3) := by decide +kernel
theorem dX1_become_57 : decode cX1_become 57 = .ok (.iconst 0, 1) := by decide +kernel
theorem dX1_become_58 : decode cX1_become 58 = .ok (.aload_n 0, 1) := by decide +kernel
theorem dX1_become_59 : decode cX1_become 59 = .ok (.getfield 25, 3) := by decide +kernel
theorem dX1_become_62 : decode cX1_become 62 = .ok (.iconst 0, 1) := by decide +kernel
theorem dX1_become_63 : decode cX1_become 63 = .ok (.bipush 100, 2) := by decide +kernel
theorem dX1_become_65 : decode cX1_become 65 = .ok (.invokestatic 47, 3) := by decide +kernel
theorem dX1_become_68 : decode cX1_become 68 = .ok (.aload_n 0, 1) := by decide +kernel
theorem dX1_become_69 : decode cX1_become 69 = .ok (.getfield 31, 3) := by decide +kernel
theorem dX1_become_72 : decode cX1_become 72 = .ok (.aload_n 1, 1) := by decide +kernel
theorem dX1_become_73 : decode cX1_become 73 = .ok (.getfield 31, 3) := by decide +kernel
theorem dX1_become_76 : decode cX1_become 76 = .ok (.invokevirtual 53, 3) := by decide +kernel
theorem dX1_become_79 : decode cX1_become 79 = .ok (.aload_n 1, 1) := by decide +kernel
theorem dX1_become_80 : decode cX1_become 80 = .ok (.getfield 35, 3) := by decide +kernel
theorem dX1_become_83 : decode cX1_become 83 = .ok (.iconst 0, 1) := by decide +kernel
theorem dX1_become_84 : decode cX1_become 84 = .ok (.aload_n 0, 1) := by decide +kernel
theorem dX1_become_85 : decode cX1_become 85 = .ok (.getfield 35, 3) := by decide +kernel
theorem dX1_become_88 : decode cX1_become 88 = .ok (.iconst 0, 1) := by decide +kernel
theorem dX1_become_89 : decode cX1_become 89 = .ok (.bipush 8, 2) := by decide +kernel
theorem dX1_become_91 : decode cX1_become 91 = .ok (.invokestatic 47, 3) := by decide +kernel
theorem dX1_become_94 : decode cX1_become 94 = .ok (.aload_n 0, 1) := by decide +kernel
theorem dX1_become_95 : decode cX1_become 95 = .ok (.getfield 38, 3) := by decide +kernel
theorem dX1_become_98 : decode cX1_become 98 = .ok (.aload_n 1, 1) := by decide +kernel
theorem dX1_become_99 : decode cX1_become 99 = .ok (.getfield 38, 3) := by decide +kernel
theorem dX1_become_102 : decode cX1_become 102 = .ok (.invokevirtual 53, 3) := by decide +kernel
theorem dX1_become_105 : decode cX1_become 105 = .ok (.aload_n 1, 1) := by decide +kernel
theorem dX1_become_106 : decode cX1_become 106 = .ok (.getfield 41, 3) := by decide +kernel
theorem dX1_become_109 : decode cX1_become 109 = .ok (.iconst 0, 1) := by decide +kernel
theorem dX1_become_110 : decode cX1_become 110 = .ok (.aload_n 0, 1) := by decide +kernel
theorem dX1_become_111 : decode cX1_become 111 = .ok (.getfield 41, 3) := by decide +kernel
theorem dX1_become_114 : decode cX1_become 114 = .ok (.iconst 0, 1) := by decide +kernel
theorem dX1_become_115 : decode cX1_become 115 = .ok (.bipush 8, 2) := by decide +kernel
theorem dX1_become_117 : decode cX1_become 117 = .ok (.invokestatic 47, 3) := by decide +kernel
theorem dX1_become_120 : decode cX1_become 120 = .ok (.aload_n 1, 1) := by decide +kernel
theorem dX1_become_121 : decode cX1_become 121 = .ok (.getfield 44, 3) := by decide +kernel
theorem dX1_become_124 : decode cX1_become 124 = .ok (.iconst 0, 1) := by decide +kernel
theorem dX1_become_125 : decode cX1_become 125 = .ok (.aload_n 0, 1) := by decide +kernel
theorem dX1_become_126 : decode cX1_become 126 = .ok (.getfield 44, 3) := by decide +kernel
theorem dX1_become_129 : decode cX1_become 129 = .ok (.iconst 0, 1) := by decide +kernel
theorem dX1_become_130 : decode cX1_become 130 = .ok (.bipush 8, 2) := by decide +kernel
theorem dX1_become_132 : decode cX1_become 132 = .ok (.invokestatic 47, 3) := by decide +kernel
theorem dX1_become_135 : decode cX1_become 135 = .ok (.return_, 1) := by decide +kernel
theorem dX1_countUnknown_0 : decode cX1_countUnknown 0 = .ok (.iconst 0, 1) := by decide +kernel
theorem dX1_countUnknown_1 : decode cX1_countUnknown 1 = .ok (.istore_n 1, 1) := by decide +kernel
theorem dX1_countUnknown_2 : decode cX1_countUnknown 2 = .ok (.iconst 0, 1) := by decide +kernel
theorem dX1_countUnknown_3 : decode cX1_countUnknown 3 = .ok (.istore_n 2, 1) := by decide +kernel
theorem dX1_countUnknown_4 : decode cX1_countUnknown 4 = .ok (.iload_n 2, 1) := by decide +kernel
theorem dX1_countUnknown_5 : decode cX1_countUnknown 5 = .ok (.bipush 100, 2) := by decide +kernel
theorem dX1_countUnknown_7 : decode cX1_countUnknown 7 = .ok (.if_icmp .ge 41, 3) := by decide +kernel
theorem dX1_countUnknown_10 : decode cX1_countUnknown 10 = .ok (.iload_n 1, 1) := by decide +kernel
theorem dX1_countUnknown_11 : decode cX1_countUnknown 11 = .ok (.aload_n 0, 1) := by decide +kernel
theorem dX1_countUnknown_12 : decode cX1_countUnknown 12 = .ok (.getfield 25, 3) := by decide +kernel
theorem dX1_countUnknown_15 : decode cX1_countUnknown 15 = .ok (.iload_n 2, 1) := by decide +kernel
theorem dX1_countUnknown_16 : decode cX1_countUnknown 16 = .ok (.iaload, 1) := by decide +kernel
theorem dX1_countUnknown_17 : decode cX1_countUnknown 17 = .ok (.ifCond .eq 22, 3) := by decide +kernel
theorem dX1_countUnknown_39 : decode cX1_countUnknown 39 = .ok (.iconst 0, 1) := by decide +kernel
theorem dX1_countUnknown_40 : decode cX1_countUnknown 40 = .ok (.iadd, 1) := by decide +kernel
theorem dX1_countUnknown_41 : decode cX1_countUnknown 41 = .ok (.istore_n 1, 1) := by decide +kernel
theorem dX1_countUnknown_42 : decode cX1_countUnknown 42 = .ok (.iinc 2 1, 3) := by decide +kernel
theorem dX1_countUnknown_45 : decode cX1_countUnknown 45 = .ok (.goto (-41), 3) := by decide +kernel
theorem dX1_countUnknown_48 : decode cX1_countUnknown 48 = .ok (.iload_n 1, 1) := by decide +kernel
theorem dX1_countUnknown_49 : decode cX1_countUnknown 49 = .ok (.ireturn, 1) := by decide +kernel
theorem dX1_countWays_0 : decode cX1_countWays 0 = .ok (.iconst 0, 1) := by decide +kernel
theorem dX1_countWays_1 : decode cX1_countWays 1 = .ok (.istore_n 1, 1) := by decide +kernel
theorem dX1_countWays_2 : decode cX1_countWays 2 = .ok (.iconst 0, 1) := by decide +kernel
theorem dX1_countWays_3 : decode cX1_countWays 3 = .ok (.istore_n 2, 1) := by decide +kernel
theorem dX1_countWays_4 : decode cX1_countWays 4 = .ok (.iload_n 2, 1) := by decide +kernel
theorem dX1_countWays_5 : decode cX1_countWays 5 = .ok (.bipush 100, 2) := by decide +kernel
theorem dX1_countWays_7 : decode cX1_countWays 7 = .ok (.if_icmp .ge 26, 3) := by decide +kernel
theorem dX1_countWays_10 : decode cX1_countWays 10 = .ok (.iload_n 1, 1) := by decide +kernel
theorem dX1_countWays_11 : decode cX1_countWays 11 = .ok (.aload_n 0, 1) := by decide +kernel
theorem dX1_countWays_12 : decode cX1_countWays 12 = .ok (.getfield 25, 3) := by decide +kernel
theorem dX1_countWays_15 : decode cX1_countWays 15 = .ok (.iload_n 2, 1) := by decide +kernel
theorem dX1_countWays_16 : decode cX1_countWays 16 = .ok (.iaload, 1) := by decide +kernel
theorem dX1_countWays_17 : decode cX1_countWays 17 = .ok (.ifCond .ne 7, 3) := by decide +kernel
theorem dX1_countWays_20 : decode cX1_countWays 20 = .ok (.iconst 0, 1) := by decide +kernel
theorem dX1_countWays_21 : decode cX1_countWays 21 = .ok (.goto 4, 3) := by decide +kernel
theorem dX1_countWays_25 : decode cX1_countWays 25 = .ok (.iadd, 1) := by decide +kernel
theorem dX1_countWays_26 : decode cX1_countWays 26 = .ok (.istore_n 1, 1) := by decide +kernel
theorem dX1_countWays_27 : decode cX1_countWays 27 = .ok (.iinc 2 1, 3) := by decide +kernel
theorem dX1_countWays_30 : decode cX1_countWays 30 = .ok (.goto (-26), 3) := by decide +kernel
theorem dX1_countWays_33 : decode cX1_countWays 33 = .ok (.iload_n 1, 1) := by decide +kernel
theorem dX1_countWays_34 : decode cX1_countWays 34 = .ok (.ireturn, 1) := by decide +kernel
theorem dX1_hollowSet_0 : decode cX1_hollowSet 0 = .ok (.iconst 0, 1) := by decide +kernel
theorem dX1_hollowSet_1 : decode cX1_hollowSet 1 = .ok (.istore_n 1, 1) := by decide +kernel
theorem dX1_hollowSet_2 : decode cX1_hollowSet 2 = .ok (.iconst 0, 1) := by decide +kernel
theorem dX1_hollowSet_3 : decode cX1_hollowSet 3 = .ok (.istore_n 2, 1) := by decide +kernel
theorem dX1_hollowSet_4 : decode cX1_hollowSet 4 = .ok (.iload_n 2, 1) := by decide +kernel
theorem dX1_hollowSet_5 : decode cX1_hollowSet 5 = .ok (.aload_n 0, 1) := by decide +kernel
theorem dX1_hollowSet_6 : decode cX1_hollowSet 6 = .ok (.getfield 9, 3) := by decide +kernel
theorem dX1_hollowSet_9 : decode cX1_hollowSet 9 = .ok (.if_icmp .ge 53, 3) := by decide +kernel
theorem dX1_hollowSet_62 : decode cX1_hollowSet 62 = .ok (.iload_n 1, 1) := by decide +kernel
theorem dX1_hollowSet_63 : decode cX1_hollowSet 63 = .ok (.ireturn, 1) := by decide +kernel
theorem dX1_isPlace_0 : decode cX1_isPlace 0 = .ok (.lload_n 1, 1) := by decide +kernel
theorem dX1_isPlace_1 : decode cX1_isPlace 1 = .ok (.lconst 0, 1) := by decide +kernel
theorem dX1_isPlace_2 : decode cX1_isPlace 2 = .ok (.lcmp, 1) := by decide +kernel
theorem dX1_isPlace_3 : decode cX1_isPlace 3 = .ok (.ifCond .lt 17, 3) := by decide +kernel
theorem dX1_isPlace_6 : decode cX1_isPlace 6 = .ok (.lload_n 1, 1) := by decide +kernel
theorem dX1_isPlace_7 : decode cX1_isPlace 7 = .ok (.aload_n 0, 1) := by decide +kernel
theorem dX1_isPlace_8 : decode cX1_isPlace 8 = .ok (.getfield 9, 3) := by decide +kernel
theorem dX1_isPlace_11 : decode cX1_isPlace 11 = .ok (.i2l, 1) := by decide +kernel
theorem dX1_isPlace_12 : decode cX1_isPlace 12 = .ok (.lcmp, 1) := by decide +kernel
theorem dX1_isPlace_13 : decode cX1_isPlace 13 = .ok (.ifCond .ge 7, 3) := by decide +kernel
theorem dX1_isPlace_20 : decode cX1_isPlace 20 = .ok (.iconst 0, 1) := by decide +kernel
theorem dX1_isPlace_21 : decode cX1_isPlace 21 = .ok (.ireturn, 1) := by decide +kernel
theorem dX1_widestWay_0 : decode cX1_widestWay 0 = .ok (.iconst (-1), 1) := by decide +kernel
theorem dX1_widestWay_1 : decode cX1_widestWay 1 = .ok (.istore_n 1, 1) := by decide +kernel
theorem dX1_widestWay_2 : decode cX1_widestWay 2 = .ok (.iconst 0, 1) := by decide +kernel
theorem dX1_widestWay_3 : decode cX1_widestWay 3 = .ok (.istore_n 2, 1) := by decide +kernel
theorem dX1_widestWay_4 : decode cX1_widestWay 4 = .ok (.iconst 0, 1) := by decide +kernel
theorem dX1_widestWay_5 : decode cX1_widestWay 5 = .ok (.istore_n 3, 1) := by decide +kernel
theorem dX1_widestWay_6 : decode cX1_widestWay 6 = .ok (.iload_n 3, 1) := by decide +kernel
theorem dX1_widestWay_7 : decode cX1_widestWay 7 = .ok (.bipush 100, 2) := by decide +kernel
theorem dX1_widestWay_9 : decode cX1_widestWay 9 = .ok (.if_icmp .ge 52, 3) := by decide +kernel
theorem dX1_widestWay_12 : decode cX1_widestWay 12 = .ok (.aload_n 0, 1) := by decide +kernel
theorem dX1_widestWay_13 : decode cX1_widestWay 13 = .ok (.getfield 25, 3) := by decide +kernel
theorem dX1_widestWay_16 : decode cX1_widestWay 16 = .ok (.iload_n 3, 1) := by decide +kernel
theorem dX1_widestWay_17 : decode cX1_widestWay 17 = .ok (.iaload, 1) := by decide +kernel
theorem dX1_widestWay_18 : decode cX1_widestWay 18 = .ok (.iconst 1, 1) := by decide +kernel
theorem dX1_widestWay_19 : decode cX1_widestWay 19 = .ok (.if_icmp .ne 36, 3) := by decide +kernel
theorem dX1_widestWay_55 : decode cX1_widestWay 55 = .ok (.iinc 3 1, 3) := by decide +kernel
theorem dX1_widestWay_58 : decode cX1_widestWay 58 = .ok (.goto (-52), 3) := by decide +kernel
theorem dX1_widestWay_61 : decode cX1_widestWay 61 = .ok (.iload_n 1, 1) := by decide +kernel
theorem dX1_widestWay_62 : decode cX1_widestWay 62 = .ok (.ireturn, 1) := by decide +kernel
theorem dX2_learnIn_0 : decode cX2_learnIn 0 = .ok (.aload_n 0, 1) := by decide +kernel
theorem dX2_learnIn_1 : decode cX2_learnIn 1 = .ok (.iconst 0, 1) := by decide +kernel
theorem dX2_learnIn_2 : decode cX2_learnIn 2 = .ok (.putfield 7, 3) := by decide +kernel
theorem dX2_learnIn_5 : decode cX2_learnIn 5 = .ok (.iconst 0, 1) := by decide +kernel
theorem dX2_learnIn_6 : decode cX2_learnIn 6 = .ok (.istore_n 2, 1) := by decide +kernel
theorem dX2_learnIn_7 : decode cX2_learnIn 7 = .ok (.iconst 0, 1) := by decide +kernel
theorem dX2_learnIn_8 : decode cX2_learnIn 8 = .ok (.istore_n 3, 1) := by decide +kernel
theorem dX2_learnIn_9 : decode cX2_learnIn 9 = .ok (.iload_n 3, 1) := by decide +kernel
theorem dX2_learnIn_10 : decode cX2_learnIn 10 = .ok (.bipush 50, 2) := by decide +kernel
theorem dX2_learnIn_12 : decode cX2_learnIn 12 = .ok (.if_icmp .ge 70, 3) := by decide +kernel
theorem dX2_learnIn_15 : decode cX2_learnIn 15 = .ok (.aload_n 0, 1) := by decide +kernel
theorem dX2_learnIn_16 : decode cX2_learnIn 16 = .ok (.iconst 0, 1) := by decide +kernel
theorem dX2_learnIn_17 : decode cX2_learnIn 17 = .ok (.putfield 13, 3) := by decide +kernel
theorem dX2_learnIn_20 : decode cX2_learnIn 20 = .ok (.iconst 0, 1) := by decide +kernel
theorem dX2_learnIn_21 : decode cX2_learnIn 21 = .ok (.istore 4, 2) := by decide +kernel
theorem dX2_learnIn_23 : decode cX2_learnIn 23 = .ok (.iload 4, 2) := by decide +kernel
theorem dX2_learnIn_25 : decode cX2_learnIn 25 = .ok (.aload_n 1, 1) := by decide +kernel
theorem dX2_learnIn_26 : decode cX2_learnIn 26 = .ok (.getfield 17, 3) := by decide +kernel
theorem dX2_learnIn_29 : decode cX2_learnIn 29 = .ok (.getfield 23, 3) := by decide +kernel
theorem dX2_learnIn_32 : decode cX2_learnIn 32 = .ok (.if_icmp .ge 32, 3) := by decide +kernel
theorem dX2_learnIn_64 : decode cX2_learnIn 64 = .ok (.aload_n 0, 1) := by decide +kernel
theorem dX2_learnIn_65 : decode cX2_learnIn 65 = .ok (.getfield 13, 3) := by decide +kernel
theorem dX2_learnIn_68 : decode cX2_learnIn 68 = .ok (.ifCond .ne 5, 3) := by decide +kernel
theorem dX2_learnIn_71 : decode cX2_learnIn 71 = .ok (.iload_n 2, 1) := by decide +kernel
theorem dX2_learnIn_72 : decode cX2_learnIn 72 = .ok (.ireturn, 1) := by decide +kernel
theorem dX3_become_0 : decode cX3_become 0 = .ok (.aload_n 0, 1) := by decide +kernel
theorem dX3_become_1 : decode cX3_become 1 = .ok (.aload_n 1, 1) := by decide +kernel
theorem dX3_become_2 : decode cX3_become 2 = .ok (.getfield 9, 3) := by decide +kernel
theorem dX3_become_5 : decode cX3_become 5 = .ok (.putfield 9, 3) := by decide +kernel
theorem dX3_become_8 : decode cX3_become 8 = .ok (.aload_n 1, 1) := by decide +kernel
theorem dX3_become_9 : decode cX3_become 9 = .ok (.getfield 15, 3) := by decide +kernel
theorem dX3_become_12 : decode cX3_become 12 = .ok (.iconst 0, 1) := by decide +kernel
theorem dX3_become_13 : decode cX3_become 13 = .ok (.aload_n 0, 1) := by decide +kernel
theorem dX3_become_14 : decode cX3_become 14 = .ok (.getfield 15, 3) := by decide +kernel
theorem dX3_become_17 : decode cX3_become 17 = .ok (.iconst 0, 1) := by decide +kernel
theorem dX3_become_18 : decode cX3_become 18 = .ok (.bipush 8, 2) := by decide +kernel
theorem dX3_become_20 : decode cX3_become 20 = .ok (.invokestatic 29, 3) := by decide +kernel
theorem dX3_become_23 : decode cX3_become 23 = .ok (.aload_n 1, 1) := by decide +kernel
theorem dX3_become_24 : decode cX3_become 24 = .ok (.getfield 19, 3) := by decide +kernel
theorem dX3_become_27 : decode cX3_become 27 = .ok (.iconst 0, 1) := by decide +kernel
theorem dX3_become_28 : decode cX3_become 28 = .ok (.aload_n 0, 1) := by decide +kernel
theorem dX3_become_29 : decode cX3_become 29 = .ok (.getfield 19, 3) := by decide +kernel
theorem dX3_become_32 : decode cX3_become 32 = .ok (.iconst 0, 1) := by decide +kernel
theorem dX3_become_33 : decode cX3_become 33 = .ok (.bipush 48, 2) := by decide +kernel
theorem dX3_become_35 : decode cX3_become 35 = .ok (.invokestatic 29, 3) := by decide +kernel
theorem dX3_become_38 : decode cX3_become 38 = .ok (.return_, 1) := by decide +kernel
theorem dX3_has_0 : decode cX3_has 0 = .ok (.iload_n 1, 1) := by decide +kernel
theorem dX3_has_1 : decode cX3_has 1 = .ok (.ifCond .lt 15, 3) := by decide +kernel
theorem dX3_has_4 : decode cX3_has 4 = .ok (.iload_n 1, 1) := by decide +kernel
theorem dX3_has_5 : decode cX3_has 5 = .ok (.aload_n 0, 1) := by decide +kernel
theorem dX3_has_6 : decode cX3_has 6 = .ok (.getfield 9, 3) := by decide +kernel
theorem dX3_has_9 : decode cX3_has 9 = .ok (.if_icmp .ge 7, 3) := by decide +kernel
theorem dX3_has_16 : decode cX3_has 16 = .ok (.iconst 0, 1) := by decide +kernel
theorem dX3_has_17 : decode cX3_has 17 = .ok (.ireturn, 1) := by decide +kernel
theorem dX4_begin_0 : decode cX4_begin 0 = .ok (.aload_n 0, 1) := by decide +kernel
theorem dX4_begin_1 : decode cX4_begin 1 = .ok (.iload_n 1, 1) := by decide +kernel
theorem dX4_begin_2 : decode cX4_begin 2 = .ok (.putfield 9, 3) := by decide +kernel
theorem dX4_begin_5 : decode cX4_begin 5 = .ok (.aload_n 0, 1) := by decide +kernel
theorem dX4_begin_6 : decode cX4_begin 6 = .ok (.iload_n 2, 1) := by decide +kernel
theorem dX4_begin_7 : decode cX4_begin 7 = .ok (.putfield 15, 3) := by decide +kernel
theorem dX4_begin_10 : decode cX4_begin 10 = .ok (.iconst 0, 1) := by decide +kernel
theorem dX4_begin_11 : decode cX4_begin 11 = .ok (.istore_n 3, 1) := by decide +kernel
theorem dX4_begin_12 : decode cX4_begin 12 = .ok (.iload_n 3, 1) := by decide +kernel
theorem dX4_begin_13 : decode cX4_begin 13 = .ok (.bipush 40, 2) := by decide +kernel
theorem dX4_begin_15 : decode cX4_begin 15 = .ok (.if_icmp .ge 16, 3) := by decide +kernel
theorem dX4_begin_18 : decode cX4_begin 18 = .ok (.aload_n 0, 1) := by decide +kernel
theorem dX4_begin_19 : decode cX4_begin 19 = .ok (.getfield 18, 3) := by decide +kernel
theorem dX4_begin_22 : decode cX4_begin 22 = .ok (.iload_n 3, 1) := by decide +kernel
theorem dX4_begin_23 : decode cX4_begin 23 = .ok (.lconst 0, 1) := by decide +kernel
theorem dX4_begin_24 : decode cX4_begin 24 = .ok (.lastore, 1) := by decide +kernel
theorem dX4_begin_25 : decode cX4_begin 25 = .ok (.iinc 3 1, 3) := by decide +kernel
theorem dX4_begin_28 : decode cX4_begin 28 = .ok (.goto (-16), 3) := by decide +kernel
theorem dX4_begin_31 : decode cX4_begin 31 = .ok (.return_, 1) := by decide +kernel
theorem dX4_isMissing_0 : decode cX4_isMissing 0 = .ok (.aload_n 0, 1) := by decide +kernel
theorem dX4_isMissing_1 : decode cX4_isMissing 1 = .ok (.getfield 9, 3) := by decide +kernel
theorem dX4_isMissing_4 : decode cX4_isMissing 4 = .ok (.ifCond .ne 7, 3) := by decide +kernel
theorem dX4_isMissing_7 : decode cX4_isMissing 7 = .ok (.iconst 1, 1) := by decide +kernel
theorem dX4_isMissing_8 : decode cX4_isMissing 8 = .ok (.goto 4, 3) := by decide +kernel
theorem dX4_isMissing_12 : decode cX4_isMissing 12 = .ok (.ireturn, 1) := by decide +kernel
theorem dX5_climb_0 : decode cX5_climb 0 = .ok (.iconst 0, 1) := by decide +kernel
theorem dX5_climb_1 : decode cX5_climb 1 = .ok (.istore_n 2, 1) := by decide +kernel
theorem dX5_climb_2 : decode cX5_climb 2 = .ok (.iload_n 2, 1) := by decide +kernel
theorem dX5_climb_3 : decode cX5_climb 3 = .ok (.aload_n 1, 1) := by decide +kernel
theorem dX5_climb_4 : decode cX5_climb 4 = .ok (.getfield 22, 3) := by decide +kernel
theorem dX5_climb_7 : decode cX5_climb 7 = .ok (.if_icmp .ge 16, 3) := by decide +kernel
theorem dX5_climb_23 : decode cX5_climb 23 = .ok (.iconst 0, 1) := by decide +kernel
theorem dX5_climb_24 : decode cX5_climb 24 = .ok (.istore_n 2, 1) := by decide +kernel
theorem dX5_climb_25 : decode cX5_climb 25 = .ok (.iload_n 2, 1) := by decide +kernel
theorem dX5_climb_26 : decode cX5_climb 26 = .ok (.aload_n 1, 1) := by decide +kernel
theorem dX5_climb_27 : decode cX5_climb 27 = .ok (.getfield 22, 3) := by decide +kernel
theorem dX5_climb_30 : decode cX5_climb 30 = .ok (.if_icmp .ge 24, 3) := by decide +kernel
theorem dX5_climb_54 : decode cX5_climb 54 = .ok (.return_, 1) := by decide +kernel
theorem dX5_doFit_0 : decode cX5_doFit 0 = .ok (.iconst 0, 1) := by decide +kernel
theorem dX5_doFit_1 : decode cX5_doFit 1 = .ok (.istore_n 2, 1) := by decide +kernel
theorem dX5_doFit_2 : decode cX5_doFit 2 = .ok (.iload_n 2, 1) := by decide +kernel
theorem dX5_doFit_3 : decode cX5_doFit 3 = .ok (.aload_n 1, 1) := by decide +kernel
theorem dX5_doFit_4 : decode cX5_doFit 4 = .ok (.getfield 22, 3) := by decide +kernel
theorem dX5_doFit_7 : decode cX5_doFit 7 = .ok (.if_icmp .ge 60, 3) := by decide +kernel
theorem dX5_doFit_67 : decode cX5_doFit 67 = .ok (.iconst 1, 1) := by decide +kernel
theorem dX5_doFit_68 : decode cX5_doFit 68 = .ok (.ireturn, 1) := by decide +kernel
theorem dX5_mostOffPaper_0 : decode cX5_mostOffPaper 0 = .ok (.iconst (-1), 1) := by decide +kernel
theorem dX5_mostOffPaper_1 : decode cX5_mostOffPaper 1 = .ok (.istore_n 1, 1) := by decide +kernel
theorem dX5_mostOffPaper_2 : decode cX5_mostOffPaper 2 = .ok (.iconst 0, 1) := by decide +kernel
theorem dX5_mostOffPaper_3 : decode cX5_mostOffPaper 3 = .ok (.istore_n 2, 1) := by decide +kernel
theorem dX5_mostOffPaper_4 : decode cX5_mostOffPaper 4 = .ok (.iload_n 2, 1) := by decide +kernel
theorem dX5_mostOffPaper_5 : decode cX5_mostOffPaper 5 = .ok (.aload_n 0, 1) := by decide +kernel
theorem dX5_mostOffPaper_6 : decode cX5_mostOffPaper 6 = .ok (.getfield 22, 3) := by decide +kernel
theorem dX5_mostOffPaper_9 : decode cX5_mostOffPaper 9 = .ok (.if_icmp .ge 60, 3) := by decide +kernel
theorem dX5_mostOffPaper_69 : decode cX5_mostOffPaper 69 = .ok (.iload_n 1, 1) := by decide +kernel
theorem dX5_mostOffPaper_70 : decode cX5_mostOffPaper 70 = .ok (.ireturn, 1) := by decide +kernel
theorem dX7_addByte_0 : decode cX7_addByte 0 = .ok (.aload_n 0, 1) := by decide +kernel
theorem dX7_addByte_1 : decode cX7_addByte 1 = .ok (.getfield 9, 3) := by decide +kernel
theorem dX7_addByte_4 : decode cX7_addByte 4 = .ok (.bipush 120, 2) := by decide +kernel
theorem dX7_addByte_6 : decode cX7_addByte 6 = .ok (.if_icmp .ge 23, 3) := by decide +kernel
theorem dX7_addByte_9 : decode cX7_addByte 9 = .ok (.aload_n 0, 1) := by decide +kernel
theorem dX7_addByte_10 : decode cX7_addByte 10 = .ok (.getfield 15, 3) := by decide +kernel
theorem dX7_addByte_13 : decode cX7_addByte 13 = .ok (.aload_n 0, 1) := by decide +kernel
theorem dX7_addByte_14 : decode cX7_addByte 14 = .ok (.getfield 9, 3) := by decide +kernel
theorem dX7_addByte_17 : decode cX7_addByte 17 = .ok (.iload_n 1, 1) := by decide +kernel
theorem dX7_addByte_18 : decode cX7_addByte 18 = .ok (.iastore, 1) := by decide +kernel
theorem dX7_addByte_19 : decode cX7_addByte 19 = .ok (.aload_n 0, 1) := by decide +kernel
theorem dX7_addByte_20 : decode cX7_addByte 20 = .ok (.dup, 1) := by decide +kernel
theorem dX7_addByte_21 : decode cX7_addByte 21 = .ok (.getfield 9, 3) := by decide +kernel
theorem dX7_addByte_24 : decode cX7_addByte 24 = .ok (.iconst 1, 1) := by decide +kernel
theorem dX7_addByte_25 : decode cX7_addByte 25 = .ok (.iadd, 1) := by decide +kernel
theorem dX7_addByte_26 : decode cX7_addByte 26 = .ok (.putfield 9, 3) := by decide +kernel
theorem dX7_addByte_29 : decode cX7_addByte 29 = .ok (.return_, 1) := by decide +kernel
theorem dX7_isWord_0 : decode cX7_isWord 0 = .ok (.aload_n 0, 1) := by decide +kernel
theorem dX7_isWord_1 : decode cX7_isWord 1 = .ok (.getfield 19, 3) := by decide +kernel
theorem dX7_isWord_4 : decode cX7_isWord 4 = .ok (.iconst 1, 1) := by decide +kernel
theorem dX7_isWord_5 : decode cX7_isWord 5 = .ok (.if_icmp .ne 19, 3) := by decide +kernel
theorem dX7_isWord_24 : decode cX7_isWord 24 = .ok (.iconst 0, 1) := by decide +kernel
theorem dX7_isWord_25 : decode cX7_isWord 25 = .ok (.ireturn, 1) := by decide +kernel
theorem dX7_kindAt_0 : decode cX7_kindAt 0 = .ok (.iload_n 1, 1) := by decide +kernel
theorem dX7_kindAt_1 : decode cX7_kindAt 1 = .ok (.aload_n 0, 1) := by decide +kernel
theorem dX7_kindAt_2 : decode cX7_kindAt 2 = .ok (.getfield 9, 3) := by decide +kernel
theorem dX7_kindAt_5 : decode cX7_kindAt 5 = .ok (.if_icmp .lt 5, 3) := by decide +kernel
theorem dX7_kindAt_8 : decode cX7_kindAt 8 = .ok (.iconst 0, 1) := by decide +kernel
theorem dX7_kindAt_9 : decode cX7_kindAt 9 = .ok (.ireturn, 1) := by decide +kernel
theorem dX7_step_0 : decode cX7_step 0 = .ok (.aload_n 0, 1) := by decide +kernel
theorem dX7_step_1 : decode cX7_step 1 = .ok (.getfield 25, 3) := by decide +kernel
theorem dX7_step_4 : decode cX7_step 4 = .ok (.istore_n 1, 1) := by decide +kernel
theorem dX7_step_5 : decode cX7_step 5 = .ok (.iload_n 1, 1) := by decide +kernel
theorem dX7_step_6 : decode cX7_step 6 = .ok (.aload_n 0, 1) := by decide +kernel
theorem dX7_step_7 : decode cX7_step 7 = .ok (.getfield 9, 3) := by decide +kernel
theorem dX7_step_10 : decode cX7_step 10 = .ok (.if_icmp .ge 20, 3) := by decide +kernel
theorem dX7_step_30 : decode cX7_step 30 = .ok (.aload_n 0, 1) := by decide +kernel
theorem dX7_step_31 : decode cX7_step 31 = .ok (.iload_n 1, 1) := by decide +kernel
theorem dX7_step_32 : decode cX7_step 32 = .ok (.putfield 22, 3) := by decide +kernel
theorem dX7_step_35 : decode cX7_step 35 = .ok (.aload_n 0, 1) := by decide +kernel
theorem dX7_step_36 : decode cX7_step 36 = .ok (.aload_n 0, 1) := by decide +kernel
theorem dX7_step_37 : decode cX7_step 37 = .ok (.iload_n 1, 1) := by decide +kernel
theorem dX7_step_38 : decode cX7_step 38 = .ok (.invokevirtual 142, 3) := by decide +kernel
theorem dX7_step_41 : decode cX7_step 41 = .ok (.putfield 19, 3) := by decide +kernel
theorem dX7_step_44 : decode cX7_step 44 = .ok (.aload_n 0, 1) := by decide +kernel
theorem dX7_step_45 : decode cX7_step 45 = .ok (.iconst 0, 1) := by decide +kernel
theorem dX7_step_46 : decode cX7_step 46 = .ok (.putfield 28, 3) := by decide +kernel
theorem dX7_step_49 : decode cX7_step 49 = .ok (.aload_n 0, 1) := by decide +kernel
theorem dX7_step_50 : decode cX7_step 50 = .ok (.getfield 19, 3) := by decide +kernel
theorem dX7_step_53 : decode cX7_step 53 = .ok (.iconst 1, 1) := by decide +kernel
theorem dX7_step_54 : decode cX7_step 54 = .ok (.if_icmp .eq 11, 3) := by decide +kernel
theorem dX7_step_57 : decode cX7_step 57 = .ok (.aload_n 0, 1) := by decide +kernel
theorem dX7_step_58 : decode cX7_step 58 = .ok (.getfield 19, 3) := by decide +kernel
theorem dX7_step_61 : decode cX7_step 61 = .ok (.iconst 2, 1) := by decide +kernel
theorem dX7_step_62 : decode cX7_step 62 = .ok (.if_icmp .ne 7, 3) := by decide +kernel
theorem dX7_step_69 : decode cX7_step 69 = .ok (.iconst 0, 1) := by decide +kernel
theorem dX7_step_70 : decode cX7_step 70 = .ok (.istore_n 2, 1) := by decide +kernel
theorem dX7_step_71 : decode cX7_step 71 = .ok (.iload_n 1, 1) := by decide +kernel
theorem dX7_step_72 : decode cX7_step 72 = .ok (.aload_n 0, 1) := by decide +kernel
theorem dX7_step_73 : decode cX7_step 73 = .ok (.getfield 9, 3) := by decide +kernel
theorem dX7_step_76 : decode cX7_step 76 = .ok (.if_icmp .ge 68, 3) := by decide +kernel
theorem dX7_step_144 : decode cX7_step 144 = .ok (.aload_n 0, 1) := by decide +kernel
theorem dX7_step_145 : decode cX7_step 145 = .ok (.iload_n 1, 1) := by decide +kernel
theorem dX7_step_146 : decode cX7_step 146 = .ok (.putfield 25, 3) := by decide +kernel
theorem dX7_step_149 : decode cX7_step 149 = .ok (.return_, 1) := by decide +kernel
theorem dX7_takeItem_0 : decode cX7_takeItem 0 = .ok (.aload_n 0, 1) := by decide +kernel
theorem dX7_takeItem_1 : decode cX7_takeItem 1 = .ok (.ldc 41, 2) := by decide +kernel
theorem dX7_takeItem_3 : decode cX7_takeItem 3 = .ok (.invokevirtual 43, 3) := by decide +kernel
theorem dX7_takeItem_6 : decode cX7_takeItem 6 = .ok (.ifCond .eq 9, 3) := by decide +kernel
theorem dX7_takeItem_15 : decode cX7_takeItem 15 = .ok (.aload_n 0, 1) := by decide +kernel
theorem dX7_takeItem_16 : decode cX7_takeItem 16 = .ok (.ldc 50, 2) := by decide +kernel
theorem dX7_takeItem_18 : decode cX7_takeItem 18 = .ok (.invokevirtual 43, 3) := by decide +kernel
theorem dX7_takeItem_21 : decode cX7_takeItem 21 = .ok (.ifCond .eq 9, 3) := by decide +kernel
theorem dX7_takeItem_30 : decode cX7_takeItem 30 = .ok (.aload_n 0, 1) := by decide +kernel
theorem dX7_takeItem_31 : decode cX7_takeItem 31 = .ok (.ldc 55, 2) := by decide +kernel
theorem dX7_takeItem_33 : decode cX7_takeItem 33 = .ok (.invokevirtual 43, 3) := by decide +kernel
theorem dX7_takeItem_36 : decode cX7_takeItem 36 = .ok (.ifCond .eq 15, 3) := by decide +kernel
theorem dX7_takeItem_51 : decode cX7_takeItem 51 = .ok (.iconst 0, 1) := by decide +kernel
theorem dX7_takeItem_52 : decode cX7_takeItem 52 = .ok (.ireturn, 1) := by decide +kernel
theorem dX7_tellTo_0 : decode cX7_tellTo 0 = .ok (.aload_n 0, 1) := by decide +kernel
theorem dX7_tellTo_1 : decode cX7_tellTo 1 = .ok (.iconst 0, 1) := by decide +kernel
theorem dX7_tellTo_2 : decode cX7_tellTo 2 = .ok (.putfield 25, 3) := by decide +kernel
theorem dX7_tellTo_5 : decode cX7_tellTo 5 = .ok (.aload_n 0, 1) := by decide +kernel
theorem dX7_tellTo_6 : decode cX7_tellTo 6 = .ok (.invokevirtual 34, 3) := by decide +kernel
theorem dX7_tellTo_9 : decode cX7_tellTo 9 = .ok (.iconst 1, 1) := by decide +kernel
theorem dX7_tellTo_10 : decode cX7_tellTo 10 = .ok (.istore_n 2, 1) := by decide +kernel
theorem dX7_tellTo_11 : decode cX7_tellTo 11 = .ok (.iload_n 2, 1) := by decide +kernel
theorem dX7_tellTo_12 : decode cX7_tellTo 12 = .ok (.bipush 120, 2) := by decide +kernel
theorem dX7_tellTo_14 : decode cX7_tellTo 14 = .ok (.if_icmp .gt 52, 3) := by decide +kernel
theorem dX7_tellTo_17 : decode cX7_tellTo 17 = .ok (.aload_n 0, 1) := by decide +kernel
theorem dX7_tellTo_18 : decode cX7_tellTo 18 = .ok (.aload_n 1, 1) := by decide +kernel
theorem dX7_tellTo_19 : decode cX7_tellTo 19 = .ok (.invokevirtual 37, 3) := by decide +kernel
theorem dX7_tellTo_22 : decode cX7_tellTo 22 = .ok (.ifCond .ne 10, 3) := by decide +kernel
theorem dX7_tellTo_25 : decode cX7_tellTo 25 = .ok (.iconst (-1), 1) := by decide +kernel
theorem dX7_tellTo_26 : decode cX7_tellTo 26 = .ok (.aload_n 0, 1) := by decide +kernel
theorem dX7_tellTo_27 : decode cX7_tellTo 27 = .ok (.getfield 22, 3) := by decide +kernel
theorem dX7_tellTo_30 : decode cX7_tellTo 30 = .ok (.isub, 1) := by decide +kernel
theorem dX7_tellTo_31 : decode cX7_tellTo 31 = .ok (.ireturn, 1) := by decide +kernel
theorem dX8_as_0 : decode cX8_as 0 = .ok (.aload_n 0, 1) := by decide +kernel
theorem dX8_as_1 : decode cX8_as 1 = .ok (.getfield 12, 3) := by decide +kernel
theorem dX8_as_4 : decode cX8_as 4 = .ok (.getfield 159, 3) := by decide +kernel
theorem dX8_as_7 : decode cX8_as 7 = .ok (.iload_n 1, 1) := by decide +kernel
theorem dX8_as_8 : decode cX8_as 8 = .ok (.invokevirtual 171, 3) := by decide +kernel
theorem dX8_as_11 : decode cX8_as 11 = .ok (.ifCond .eq 10, 3) := by decide +kernel
theorem dX8_as_21 : decode cX8_as 21 = .ok (.aload_n 0, 1) := by decide +kernel
theorem dX8_as_22 : decode cX8_as 22 = .ok (.ldc 95, 2) := by decide +kernel
theorem dX8_as_24 : decode cX8_as 24 = .ok (.invokevirtual 80, 3) := by decide +kernel
theorem dX8_as_27 : decode cX8_as 27 = .ok (.ireturn, 1) := by decide +kernel
theorem dX8_ask_0 : decode cX8_ask 0 = .ok (.aload_n 0, 1) := by decide +kernel
theorem dX8_ask_1 : decode cX8_ask 1 = .ok (.getfield 12, 3) := by decide +kernel
theorem dX8_ask_4 : decode cX8_ask 4 = .ok (.invokevirtual 256, 3) := by decide +kernel
theorem dX8_ask_7 : decode cX8_ask 7 = .ok (.istore_n 1, 1) := by decide +kernel
theorem dX8_ask_8 : decode cX8_ask 8 = .ok (.iload_n 1, 1) := by decide +kernel
theorem dX8_ask_9 : decode cX8_ask 9 = .ok (.ifCond .ge 12, 3) := by decide +kernel
theorem dX8_ask_12 : decode cX8_ask 12 = .ok (.aload_n 0, 1) := by decide +kernel
theorem dX8_ask_13 : decode cX8_ask 13 = .ok (.ldc 113, 2) := by decide +kernel
theorem dX8_ask_15 : decode cX8_ask 15 = .ok (.invokevirtual 80, 3) := by decide +kernel
theorem dX8_ask_18 : decode cX8_ask 18 = .ok (.goto 4, 3) := by decide +kernel
theorem dX8_ask_22 : decode cX8_ask 22 = .ok (.ireturn, 1) := by decide +kernel
theorem dX8_by_0 : decode cX8_by 0 = .ok (.aload_n 0, 1) := by decide +kernel
theorem dX8_by_1 : decode cX8_by 1 = .ok (.getfield 12, 3) := by decide +kernel
theorem dX8_by_4 : decode cX8_by 4 = .ok (.iload_n 1, 1) := by decide +kernel
theorem dX8_by_5 : decode cX8_by 5 = .ok (.i2l, 1) := by decide +kernel
theorem dX8_by_6 : decode cX8_by 6 = .ok (.invokevirtual 87, 3) := by decide +kernel
theorem dX8_by_9 : decode cX8_by 9 = .ok (.ifCond .eq 25, 3) := by decide +kernel
theorem dX8_by_34 : decode cX8_by 34 = .ok (.aload_n 0, 1) := by decide +kernel
theorem dX8_by_35 : decode cX8_by 35 = .ok (.ldc 95, 2) := by decide +kernel
theorem dX8_by_37 : decode cX8_by 37 = .ok (.invokevirtual 80, 3) := by decide +kernel
theorem dX8_by_40 : decode cX8_by 40 = .ok (.ireturn, 1) := by decide +kernel
theorem dX8_errands_0 : decode cX8_errands 0 = .ok (.aload_n 0, 1) := by decide +kernel
theorem dX8_errands_1 : decode cX8_errands 1 = .ok (.getfield 12, 3) := by decide +kernel
theorem dX8_errands_4 : decode cX8_errands 4 = .ok (.iload_n 1, 1) := by decide +kernel
theorem dX8_errands_5 : decode cX8_errands 5 = .ok (.i2l, 1) := by decide +kernel
theorem dX8_errands_6 : decode cX8_errands 6 = .ok (.invokevirtual 87, 3) := by decide +kernel
theorem dX8_errands_9 : decode cX8_errands 9 = .ok (.ifCond .eq 13, 3) := by decide +kernel
theorem dX8_errands_22 : decode cX8_errands 22 = .ok (.aload_n 0, 1) := by decide +kernel
theorem dX8_errands_23 : decode cX8_errands 23 = .ok (.ldc 95, 2) := by decide +kernel
theorem dX8_errands_25 : decode cX8_errands 25 = .ok (.invokevirtual 80, 3) := by decide +kernel
theorem dX8_errands_28 : decode cX8_errands 28 = .ok (.ireturn, 1) := by decide +kernel
theorem dX8_far_0 : decode cX8_far 0 = .ok (.aload_n 0, 1) := by decide +kernel
theorem dX8_far_1 : decode cX8_far 1 = .ok (.getfield 12, 3) := by decide +kernel
theorem dX8_far_4 : decode cX8_far 4 = .ok (.iload_n 1, 1) := by decide +kernel
theorem dX8_far_5 : decode cX8_far 5 = .ok (.i2l, 1) := by decide +kernel
theorem dX8_far_6 : decode cX8_far 6 = .ok (.invokevirtual 87, 3) := by decide +kernel
theorem dX8_far_9 : decode cX8_far 9 = .ok (.ifCond .eq 15, 3) := by decide +kernel
theorem dX8_far_24 : decode cX8_far 24 = .ok (.aload_n 0, 1) := by decide +kernel
theorem dX8_far_25 : decode cX8_far 25 = .ok (.ldc 95, 2) := by decide +kernel
theorem dX8_far_27 : decode cX8_far 27 = .ok (.invokevirtual 80, 3) := by decide +kernel
theorem dX8_far_30 : decode cX8_far 30 = .ok (.ireturn, 1) := by decide +kernel
theorem dX8_finding_0 : decode cX8_finding 0 = .ok (.ldc 95, 2) := by decide +kernel
theorem dX8_finding_2 : decode cX8_finding 2 = .ok (.iload_n 1, 1) := by decide +kernel
theorem dX8_finding_3 : decode cX8_finding 3 = .ok (.isub, 1) := by decide +kernel
theorem dX8_finding_4 : decode cX8_finding 4 = .ok (.istore_n 2, 1) := by decide +kernel
theorem dX8_finding_5 : decode cX8_finding 5 = .ok (.iload_n 2, 1) := by decide +kernel
theorem dX8_finding_6 : decode cX8_finding 6 = .ok (.ifCond .lt 19, 3) := by decide +kernel
theorem dX8_finding_9 : decode cX8_finding 9 = .ok (.iload_n 2, 1) := by decide +kernel
theorem dX8_finding_10 : decode cX8_finding 10 = .ok (.bipush 7, 2) := by decide +kernel
theorem dX8_finding_12 : decode cX8_finding 12 = .ok (.if_icmp .ge 13, 3) := by decide +kernel
theorem dX8_finding_15 : decode cX8_finding 15 = .ok (.aload_n 0, 1) := by decide +kernel
theorem dX8_finding_16 : decode cX8_finding 16 = .ok (.getfield 70, 3) := by decide +kernel
theorem dX8_finding_19 : decode cX8_finding 19 = .ok (.iload_n 2, 1) := by decide +kernel
theorem dX8_finding_20 : decode cX8_finding 20 = .ok (.dup2, 1) := by decide +kernel
theorem dX8_finding_21 : decode cX8_finding 21 = .ok (.iaload, 1) := by decide +kernel
theorem dX8_finding_22 : decode cX8_finding 22 = .ok (.iconst 1, 1) := by decide +kernel
theorem dX8_finding_23 : decode cX8_finding 23 = .ok (.iadd, 1) := by decide +kernel
theorem dX8_finding_24 : decode cX8_finding 24 = .ok (.iastore, 1) := by decide +kernel
theorem dX8_finding_25 : decode cX8_finding 25 = .ok (.iload_n 1, 1) := by decide +kernel
theorem dX8_finding_26 : decode cX8_finding 26 = .ok (.ireturn, 1) := by decide +kernel
theorem dX8_fit_0 : decode cX8_fit 0 = .ok (.aload_n 0, 1) := by decide +kernel
theorem dX8_fit_1 : decode cX8_fit 1 = .ok (.getfield 46, 3) := by decide +kernel
theorem dX8_fit_4 : decode cX8_fit 4 = .ok (.aload_n 0, 1) := by decide +kernel
theorem dX8_fit_5 : decode cX8_fit 5 = .ok (.getfield 12, 3) := by decide +kernel
theorem dX8_fit_8 : decode cX8_fit 8 = .ok (.invokevirtual 209, 3) := by decide +kernel
theorem dX8_fit_11 : decode cX8_fit 11 = .ok (.aload_n 0, 1) := by decide +kernel
theorem dX8_fit_12 : decode cX8_fit 12 = .ok (.getfield 46, 3) := by decide +kernel
theorem dX8_fit_15 : decode cX8_fit 15 = .ok (.aload_n 0, 1) := by decide +kernel
theorem dX8_fit_16 : decode cX8_fit 16 = .ok (.getfield 12, 3) := by decide +kernel
theorem dX8_fit_19 : decode cX8_fit 19 = .ok (.invokevirtual 212, 3) := by decide +kernel
theorem dX8_fit_22 : decode cX8_fit 22 = .ok (.ifCond .eq 7, 3) := by decide +kernel
theorem dX8_fit_25 : decode cX8_fit 25 = .ok (.iconst 1, 1) := by decide +kernel
theorem dX8_fit_26 : decode cX8_fit 26 = .ok (.goto 4, 3) := by decide +kernel
theorem dX8_fit_30 : decode cX8_fit 30 = .ok (.ireturn, 1) := by decide +kernel
theorem dX8_goes_0 : decode cX8_goes 0 = .ok (.aload_n 0, 1) := by decide +kernel
theorem dX8_goes_1 : decode cX8_goes 1 = .ok (.getfield 12, 3) := by decide +kernel
theorem dX8_goes_4 : decode cX8_goes 4 = .ok (.iload_n 1, 1) := by decide +kernel
theorem dX8_goes_5 : decode cX8_goes 5 = .ok (.i2l, 1) := by decide +kernel
theorem dX8_goes_6 : decode cX8_goes 6 = .ok (.invokevirtual 87, 3) := by decide +kernel
theorem dX8_goes_9 : decode cX8_goes 9 = .ok (.ifCond .eq 14, 3) := by decide +kernel
theorem dX8_goes_23 : decode cX8_goes 23 = .ok (.aload_n 0, 1) := by decide +kernel
theorem dX8_goes_24 : decode cX8_goes 24 = .ok (.ldc 95, 2) := by decide +kernel
theorem dX8_goes_26 : decode cX8_goes 26 = .ok (.invokevirtual 80, 3) := by decide +kernel
theorem dX8_goes_29 : decode cX8_goes 29 = .ok (.ireturn, 1) := by decide +kernel
theorem dX8_height_0 : decode cX8_height 0 = .ok (.aload_n 0, 1) := by decide +kernel
theorem dX8_height_1 : decode cX8_height 1 = .ok (.getfield 12, 3) := by decide +kernel
theorem dX8_height_4 : decode cX8_height 4 = .ok (.iload_n 1, 1) := by decide +kernel
theorem dX8_height_5 : decode cX8_height 5 = .ok (.i2l, 1) := by decide +kernel
theorem dX8_height_6 : decode cX8_height 6 = .ok (.invokevirtual 87, 3) := by decide +kernel
theorem dX8_height_9 : decode cX8_height 9 = .ok (.ifCond .ne 10, 3) := by decide +kernel
theorem dX8_height_12 : decode cX8_height 12 = .ok (.aload_n 0, 1) := by decide +kernel
theorem dX8_height_13 : decode cX8_height 13 = .ok (.ldc 95, 2) := by decide +kernel
theorem dX8_height_15 : decode cX8_height 15 = .ok (.invokevirtual 80, 3) := by decide +kernel
theorem dX8_height_18 : decode cX8_height 18 = .ok (.ireturn, 1) := by decide +kernel
theorem dX8_hollow_0 : decode cX8_hollow 0 = .ok (.aload_n 0, 1) := by decide +kernel
theorem dX8_hollow_1 : decode cX8_hollow 1 = .ok (.getfield 12, 3) := by decide +kernel
theorem dX8_hollow_4 : decode cX8_hollow 4 = .ok (.invokevirtual 272, 3) := by decide +kernel
theorem dX8_hollow_7 : decode cX8_hollow 7 = .ok (.ireturn, 1) := by decide +kernel
theorem dX8_image_0 : decode cX8_image 0 = .ok (.aload_n 0, 1) := by decide +kernel
theorem dX8_image_1 : decode cX8_image 1 = .ok (.getfield 16, 3) := by decide +kernel
theorem dX8_image_4 : decode cX8_image 4 = .ok (.aload_n 0, 1) := by decide +kernel
theorem dX8_image_5 : decode cX8_image 5 = .ok (.getfield 12, 3) := by decide +kernel
theorem dX8_image_8 : decode cX8_image 8 = .ok (.invokevirtual 241, 3) := by decide +kernel
theorem dX8_image_11 : decode cX8_image 11 = .ok (.aload_n 0, 1) := by decide +kernel
theorem dX8_image_12 : decode cX8_image 12 = .ok (.iconst 1, 1) := by decide +kernel
theorem dX8_image_13 : decode cX8_image 13 = .ok (.putfield 22, 3) := by decide +kernel
theorem dX8_image_16 : decode cX8_image 16 = .ok (.iconst 1, 1) := by decide +kernel
theorem dX8_image_17 : decode cX8_image 17 = .ok (.ireturn, 1) := by decide +kernel
theorem dX8_isKind_0 : decode cX8_isKind 0 = .ok (.iload_n 0, 1) := by decide +kernel
theorem dX8_isKind_1 : decode cX8_isKind 1 = .ok (.iconst 0, 1) := by decide +kernel
theorem dX8_isKind_2 : decode cX8_isKind 2 = .ok (.bipush 6, 2) := by decide +kernel
theorem dX8_isKind_4 : decode cX8_isKind 4 = .ok (.invokestatic 91, 3) := by decide +kernel
theorem dX8_isKind_7 : decode cX8_isKind 7 = .ok (.ireturn, 1) := by decide +kernel
theorem dX8_isLooped_0 : decode cX8_isLooped 0 = .ok (.aload_n 0, 1) := by decide +kernel
theorem dX8_isLooped_1 : decode cX8_isLooped 1 = .ok (.getfield 29, 3) := by decide +kernel
theorem dX8_isLooped_4 : decode cX8_isLooped 4 = .ok (.aload_n 0, 1) := by decide +kernel
theorem dX8_isLooped_5 : decode cX8_isLooped 5 = .ok (.getfield 12, 3) := by decide +kernel
theorem dX8_isLooped_8 : decode cX8_isLooped 8 = .ok (.invokevirtual 146, 3) := by decide +kernel
theorem dX8_isLooped_11 : decode cX8_isLooped 11 = .ok (.aload_n 0, 1) := by decide +kernel
theorem dX8_isLooped_12 : decode cX8_isLooped 12 = .ok (.getfield 29, 3) := by decide +kernel
theorem dX8_isLooped_15 : decode cX8_isLooped 15 = .ok (.invokevirtual 332, 3) := by decide +kernel
theorem dX8_isLooped_18 : decode cX8_isLooped 18 = .ok (.ireturn, 1) := by decide +kernel
theorem dX8_isSheet_0 : decode cX8_isSheet 0 = .ok (.iload_n 0, 1) := by decide +kernel
theorem dX8_isSheet_1 : decode cX8_isSheet 1 = .ok (.iconst 0, 1) := by decide +kernel
theorem dX8_isSheet_2 : decode cX8_isSheet 2 = .ok (.iconst 3, 1) := by decide +kernel
theorem dX8_isSheet_3 : decode cX8_isSheet 3 = .ok (.invokestatic 91, 3) := by decide +kernel
theorem dX8_isSheet_6 : decode cX8_isSheet 6 = .ok (.ireturn, 1) := by decide +kernel
theorem dX8_isWithin_0 : decode cX8_isWithin 0 = .ok (.iload_n 0, 1) := by decide +kernel
theorem dX8_isWithin_1 : decode cX8_isWithin 1 = .ok (.iload_n 1, 1) := by decide +kernel
theorem dX8_isWithin_2 : decode cX8_isWithin 2 = .ok (.if_icmp .lt 12, 3) := by decide +kernel
theorem dX8_isWithin_5 : decode cX8_isWithin 5 = .ok (.iload_n 0, 1) := by decide +kernel
theorem dX8_isWithin_6 : decode cX8_isWithin 6 = .ok (.iload_n 2, 1) := by decide +kernel
theorem dX8_isWithin_7 : decode cX8_isWithin 7 = .ok (.if_icmp .gt 7, 3) := by decide +kernel
theorem dX8_isWithin_10 : decode cX8_isWithin 10 = .ok (.iconst 1, 1) := by decide +kernel
theorem dX8_isWithin_11 : decode cX8_isWithin 11 = .ok (.goto 4, 3) := by decide +kernel
theorem dX8_isWithin_14 : decode cX8_isWithin 14 = .ok (.iconst 0, 1) := by decide +kernel
theorem dX8_isWithin_15 : decode cX8_isWithin 15 = .ok (.ireturn, 1) := by decide +kernel
theorem dX8_land_0 : decode cX8_land 0 = .ok (.aload_n 0, 1) := by decide +kernel
theorem dX8_land_1 : decode cX8_land 1 = .ok (.getfield 19, 3) := by decide +kernel
theorem dX8_land_4 : decode cX8_land 4 = .ok (.aload_n 0, 1) := by decide +kernel
theorem dX8_land_5 : decode cX8_land 5 = .ok (.getfield 12, 3) := by decide +kernel
theorem dX8_land_8 : decode cX8_land 8 = .ok (.invokevirtual 241, 3) := by decide +kernel
theorem dX8_land_11 : decode cX8_land 11 = .ok (.aload_n 0, 1) := by decide +kernel
theorem dX8_land_12 : decode cX8_land 12 = .ok (.getfield 60, 3) := by decide +kernel
theorem dX8_land_15 : decode cX8_land 15 = .ok (.aload_n 0, 1) := by decide +kernel
theorem dX8_land_16 : decode cX8_land 16 = .ok (.getfield 19, 3) := by decide +kernel
theorem dX8_land_19 : decode cX8_land 19 = .ok (.invokevirtual 282, 3) := by decide +kernel
theorem dX8_land_22 : decode cX8_land 22 = .ok (.istore_n 1, 1) := by decide +kernel
theorem dX8_land_23 : decode cX8_land 23 = .ok (.iload_n 1, 1) := by decide +kernel
theorem dX8_land_24 : decode cX8_land 24 = .ok (.ifCond .lt 14, 3) := by decide +kernel
theorem dX8_land_38 : decode cX8_land 38 = .ok (.aload_n 0, 1) := by decide +kernel
theorem dX8_land_39 : decode cX8_land 39 = .ok (.getfield 60, 3) := by decide +kernel
theorem dX8_land_42 : decode cX8_land 42 = .ok (.iconst 0, 1) := by decide +kernel
theorem dX8_land_43 : decode cX8_land 43 = .ok (.putfield 275, 3) := by decide +kernel
theorem dX8_land_46 : decode cX8_land 46 = .ok (.iload_n 1, 1) := by decide +kernel
theorem dX8_land_47 : decode cX8_land 47 = .ok (.ireturn, 1) := by decide +kernel
theorem dX8_learn_0 : decode cX8_learn 0 = .ok (.aload_n 0, 1) := by decide +kernel
theorem dX8_learn_1 : decode cX8_learn 1 = .ok (.getfield 53, 3) := by decide +kernel
theorem dX8_learn_4 : decode cX8_learn 4 = .ok (.aload_n 0, 1) := by decide +kernel
theorem dX8_learn_5 : decode cX8_learn 5 = .ok (.getfield 12, 3) := by decide +kernel
theorem dX8_learn_8 : decode cX8_learn 8 = .ok (.invokevirtual 238, 3) := by decide +kernel
theorem dX8_learn_11 : decode cX8_learn 11 = .ok (.ireturn, 1) := by decide +kernel
theorem dX8_lies_0 : decode cX8_lies 0 = .ok (.aload_n 0, 1) := by decide +kernel
theorem dX8_lies_1 : decode cX8_lies 1 = .ok (.getfield 19, 3) := by decide +kernel
theorem dX8_lies_4 : decode cX8_lies 4 = .ok (.aload_n 0, 1) := by decide +kernel
theorem dX8_lies_5 : decode cX8_lies 5 = .ok (.getfield 12, 3) := by decide +kernel
theorem dX8_lies_8 : decode cX8_lies 8 = .ok (.invokevirtual 241, 3) := by decide +kernel
theorem dX8_lies_11 : decode cX8_lies 11 = .ok (.aload_n 0, 1) := by decide +kernel
theorem dX8_lies_12 : decode cX8_lies 12 = .ok (.getfield 53, 3) := by decide +kernel
theorem dX8_lies_15 : decode cX8_lies 15 = .ok (.aload_n 0, 1) := by decide +kernel
theorem dX8_lies_16 : decode cX8_lies 16 = .ok (.getfield 19, 3) := by decide +kernel
theorem dX8_lies_19 : decode cX8_lies 19 = .ok (.invokevirtual 238, 3) := by decide +kernel
theorem dX8_lies_22 : decode cX8_lies 22 = .ok (.pop, 1) := by decide +kernel
theorem dX8_lies_23 : decode cX8_lies 23 = .ok (.aload_n 0, 1) := by decide +kernel
theorem dX8_lies_24 : decode cX8_lies 24 = .ok (.getfield 53, 3) := by decide +kernel
theorem dX8_lies_27 : decode cX8_lies 27 = .ok (.getfield 244, 3) := by decide +kernel
theorem dX8_lies_30 : decode cX8_lies 30 = .ok (.ireturn, 1) := by decide +kernel
theorem dX8_live_0 : decode cX8_live 0 = .ok (.aload_n 0, 1) := by decide +kernel
theorem dX8_live_1 : decode cX8_live 1 = .ok (.invokevirtual 128, 3) := by decide +kernel
theorem dX8_live_4 : decode cX8_live 4 = .ok (.ifCond .eq 10, 3) := by decide +kernel
theorem dX8_live_14 : decode cX8_live 14 = .ok (.aload_n 0, 1) := by decide +kernel
theorem dX8_live_15 : decode cX8_live 15 = .ok (.getfield 29, 3) := by decide +kernel
theorem dX8_live_18 : decode cX8_live 18 = .ok (.aload_n 0, 1) := by decide +kernel
theorem dX8_live_19 : decode cX8_live 19 = .ok (.getfield 12, 3) := by decide +kernel
theorem dX8_live_22 : decode cX8_live 22 = .ok (.invokevirtual 197, 3) := by decide +kernel
theorem dX8_live_25 : decode cX8_live 25 = .ok (.istore_n 1, 1) := by decide +kernel
theorem dX8_live_26 : decode cX8_live 26 = .ok (.iload_n 1, 1) := by decide +kernel
theorem dX8_live_27 : decode cX8_live 27 = .ok (.ifCond .ge 12, 3) := by decide +kernel
theorem dX8_live_30 : decode cX8_live 30 = .ok (.aload_n 0, 1) := by decide +kernel
theorem dX8_live_31 : decode cX8_live 31 = .ok (.ldc 113, 2) := by decide +kernel
theorem dX8_live_33 : decode cX8_live 33 = .ok (.invokevirtual 80, 3) := by decide +kernel
theorem dX8_live_36 : decode cX8_live 36 = .ok (.goto 4, 3) := by decide +kernel
theorem dX8_live_40 : decode cX8_live 40 = .ok (.ireturn, 1) := by decide +kernel
theorem dX8_longer_0 : decode cX8_longer 0 = .ok (.aload_n 0, 1) := by decide +kernel
theorem dX8_longer_1 : decode cX8_longer 1 = .ok (.getfield 12, 3) := by decide +kernel
theorem dX8_longer_4 : decode cX8_longer 4 = .ok (.iload_n 1, 1) := by decide +kernel
theorem dX8_longer_5 : decode cX8_longer 5 = .ok (.i2l, 1) := by decide +kernel
theorem dX8_longer_6 : decode cX8_longer 6 = .ok (.invokevirtual 87, 3) := by decide +kernel
theorem dX8_longer_9 : decode cX8_longer 9 = .ok (.ifCond .eq 15, 3) := by decide +kernel
theorem dX8_longer_24 : decode cX8_longer 24 = .ok (.aload_n 0, 1) := by decide +kernel
theorem dX8_longer_25 : decode cX8_longer 25 = .ok (.ldc 95, 2) := by decide +kernel
theorem dX8_longer_27 : decode cX8_longer 27 = .ok (.invokevirtual 80, 3) := by decide +kernel
theorem dX8_longer_30 : decode cX8_longer 30 = .ok (.ireturn, 1) := by decide +kernel
theorem dX8_loops_0 : decode cX8_loops 0 = .ok (.aload_n 0, 1) := by decide +kernel
theorem dX8_loops_1 : decode cX8_loops 1 = .ok (.getfield 29, 3) := by decide +kernel
theorem dX8_loops_4 : decode cX8_loops 4 = .ok (.aload_n 0, 1) := by decide +kernel
theorem dX8_loops_5 : decode cX8_loops 5 = .ok (.getfield 12, 3) := by decide +kernel
theorem dX8_loops_8 : decode cX8_loops 8 = .ok (.invokevirtual 146, 3) := by decide +kernel
theorem dX8_loops_11 : decode cX8_loops 11 = .ok (.aload_n 0, 1) := by decide +kernel
theorem dX8_loops_12 : decode cX8_loops 12 = .ok (.getfield 29, 3) := by decide +kernel
theorem dX8_loops_15 : decode cX8_loops 15 = .ok (.invokevirtual 150, 3) := by decide +kernel
theorem dX8_loops_18 : decode cX8_loops 18 = .ok (.ireturn, 1) := by decide +kernel
theorem dX8_meet_0 : decode cX8_meet 0 = .ok (.aload_n 0, 1) := by decide +kernel
theorem dX8_meet_1 : decode cX8_meet 1 = .ok (.getfield 12, 3) := by decide +kernel
theorem dX8_meet_4 : decode cX8_meet 4 = .ok (.iload_n 1, 1) := by decide +kernel
theorem dX8_meet_5 : decode cX8_meet 5 = .ok (.i2l, 1) := by decide +kernel
theorem dX8_meet_6 : decode cX8_meet 6 = .ok (.invokevirtual 87, 3) := by decide +kernel
theorem dX8_meet_9 : decode cX8_meet 9 = .ok (.ifCond .eq 24, 3) := by decide +kernel
theorem dX8_meet_33 : decode cX8_meet 33 = .ok (.aload_n 0, 1) := by decide +kernel
theorem dX8_meet_34 : decode cX8_meet 34 = .ok (.ldc 95, 2) := by decide +kernel
theorem dX8_meet_36 : decode cX8_meet 36 = .ok (.invokevirtual 80, 3) := by decide +kernel
theorem dX8_meet_39 : decode cX8_meet 39 = .ok (.ireturn, 1) := by decide +kernel
theorem dX8_mend_0 : decode cX8_mend 0 = .ok (.aload_n 0, 1) := by decide +kernel
theorem dX8_mend_1 : decode cX8_mend 1 = .ok (.invokevirtual 128, 3) := by decide +kernel
theorem dX8_mend_4 : decode cX8_mend 4 = .ok (.ifCond .eq 10, 3) := by decide +kernel
theorem dX8_mend_14 : decode cX8_mend 14 = .ok (.aload_n 0, 1) := by decide +kernel
theorem dX8_mend_15 : decode cX8_mend 15 = .ok (.getfield 29, 3) := by decide +kernel
theorem dX8_mend_18 : decode cX8_mend 18 = .ok (.aload_n 0, 1) := by decide +kernel
theorem dX8_mend_19 : decode cX8_mend 19 = .ok (.getfield 12, 3) := by decide +kernel
theorem dX8_mend_22 : decode cX8_mend 22 = .ok (.invokevirtual 263, 3) := by decide +kernel
theorem dX8_mend_25 : decode cX8_mend 25 = .ok (.istore_n 1, 1) := by decide +kernel
theorem dX8_mend_26 : decode cX8_mend 26 = .ok (.iload_n 1, 1) := by decide +kernel
theorem dX8_mend_27 : decode cX8_mend 27 = .ok (.ldc 154, 2) := by decide +kernel
theorem dX8_mend_29 : decode cX8_mend 29 = .ok (.if_icmp .ne 7, 3) := by decide +kernel
theorem dX8_mend_32 : decode cX8_mend 32 = .ok (.iconst (-1), 1) := by decide +kernel
theorem dX8_mend_33 : decode cX8_mend 33 = .ok (.goto 8, 3) := by decide +kernel
theorem dX8_mend_41 : decode cX8_mend 41 = .ok (.istore_n 2, 1) := by decide +kernel
theorem dX8_mend_42 : decode cX8_mend 42 = .ok (.iload_n 2, 1) := by decide +kernel
theorem dX8_mend_43 : decode cX8_mend 43 = .ok (.ifCond .ge 12, 3) := by decide +kernel
theorem dX8_mend_46 : decode cX8_mend 46 = .ok (.aload_n 0, 1) := by decide +kernel
theorem dX8_mend_47 : decode cX8_mend 47 = .ok (.ldc 113, 2) := by decide +kernel
theorem dX8_mend_49 : decode cX8_mend 49 = .ok (.invokevirtual 80, 3) := by decide +kernel
theorem dX8_mend_52 : decode cX8_mend 52 = .ok (.goto 4, 3) := by decide +kernel
theorem dX8_mend_56 : decode cX8_mend 56 = .ok (.ireturn, 1) := by decide +kernel
theorem dX8_on_0 : decode cX8_on 0 = .ok (.aload_n 0, 1) := by decide +kernel
theorem dX8_on_1 : decode cX8_on 1 = .ok (.getfield 12, 3) := by decide +kernel
theorem dX8_on_4 : decode cX8_on 4 = .ok (.getfield 229, 3) := by decide +kernel
theorem dX8_on_7 : decode cX8_on 7 = .ok (.iload_n 1, 1) := by decide +kernel
theorem dX8_on_8 : decode cX8_on 8 = .ok (.invokevirtual 171, 3) := by decide +kernel
theorem dX8_on_11 : decode cX8_on 11 = .ok (.ifCond .eq 30, 3) := by decide +kernel
theorem dX8_on_41 : decode cX8_on 41 = .ok (.aload_n 0, 1) := by decide +kernel
theorem dX8_on_42 : decode cX8_on 42 = .ok (.ldc 95, 2) := by decide +kernel
theorem dX8_on_44 : decode cX8_on 44 = .ok (.invokevirtual 80, 3) := by decide +kernel
theorem dX8_on_47 : decode cX8_on 47 = .ok (.ireturn, 1) := by decide +kernel
theorem dX8_over_0 : decode cX8_over 0 = .ok (.aload_n 0, 1) := by decide +kernel
theorem dX8_over_1 : decode cX8_over 1 = .ok (.getfield 12, 3) := by decide +kernel
theorem dX8_over_4 : decode cX8_over 4 = .ok (.getfield 159, 3) := by decide +kernel
theorem dX8_over_7 : decode cX8_over 7 = .ok (.iload_n 1, 1) := by decide +kernel
theorem dX8_over_8 : decode cX8_over 8 = .ok (.invokevirtual 171, 3) := by decide +kernel
theorem dX8_over_11 : decode cX8_over 11 = .ok (.ifCond .eq 15, 3) := by decide +kernel
theorem dX8_over_26 : decode cX8_over 26 = .ok (.aload_n 0, 1) := by decide +kernel
theorem dX8_over_27 : decode cX8_over 27 = .ok (.ldc 95, 2) := by decide +kernel
theorem dX8_over_29 : decode cX8_over 29 = .ok (.invokevirtual 80, 3) := by decide +kernel
theorem dX8_over_32 : decode cX8_over 32 = .ok (.ireturn, 1) := by decide +kernel
theorem dX8_paper_0 : decode cX8_paper 0 = .ok (.aload_n 0, 1) := by decide +kernel
theorem dX8_paper_1 : decode cX8_paper 1 = .ok (.getfield 12, 3) := by decide +kernel
theorem dX8_paper_4 : decode cX8_paper 4 = .ok (.iload_n 1, 1) := by decide +kernel
theorem dX8_paper_5 : decode cX8_paper 5 = .ok (.iload_n 2, 1) := by decide +kernel
theorem dX8_paper_6 : decode cX8_paper 6 = .ok (.invokevirtual 99, 3) := by decide +kernel
theorem dX8_paper_9 : decode cX8_paper 9 = .ok (.ifCond .ne 10, 3) := by decide +kernel
theorem dX8_paper_12 : decode cX8_paper 12 = .ok (.aload_n 0, 1) := by decide +kernel
theorem dX8_paper_13 : decode cX8_paper 13 = .ok (.ldc 95, 2) := by decide +kernel
theorem dX8_paper_15 : decode cX8_paper 15 = .ok (.invokevirtual 80, 3) := by decide +kernel
theorem dX8_paper_18 : decode cX8_paper 18 = .ok (.ireturn, 1) := by decide +kernel
theorem dX8_place_0 : decode cX8_place 0 = .ok (.aload_n 0, 1) := by decide +kernel
theorem dX8_place_1 : decode cX8_place 1 = .ok (.getfield 12, 3) := by decide +kernel
theorem dX8_place_4 : decode cX8_place 4 = .ok (.getfield 75, 3) := by decide +kernel
theorem dX8_place_7 : decode cX8_place 7 = .ok (.bipush 10, 2) := by decide +kernel
theorem dX8_place_9 : decode cX8_place 9 = .ok (.if_icmp .lt 10, 3) := by decide +kernel
theorem dX8_place_19 : decode cX8_place 19 = .ok (.aload_n 0, 1) := by decide +kernel
theorem dX8_place_20 : decode cX8_place 20 = .ok (.getfield 12, 3) := by decide +kernel
theorem dX8_place_23 : decode cX8_place 23 = .ok (.iconst 0, 1) := by decide +kernel
theorem dX8_place_24 : decode cX8_place 24 = .ok (.invokevirtual 84, 3) := by decide +kernel
theorem dX8_place_27 : decode cX8_place 27 = .ok (.ireturn, 1) := by decide +kernel
theorem dX8_round_0 : decode cX8_round 0 = .ok (.iload_n 1, 1) := by decide +kernel
theorem dX8_round_1 : decode cX8_round 1 = .ok (.invokestatic 155, 3) := by decide +kernel
theorem dX8_round_4 : decode cX8_round 4 = .ok (.ifCond .eq 15, 3) := by decide +kernel
theorem dX8_round_7 : decode cX8_round 7 = .ok (.aload_n 0, 1) := by decide +kernel
theorem dX8_round_8 : decode cX8_round 8 = .ok (.getfield 12, 3) := by decide +kernel
theorem dX8_round_11 : decode cX8_round 11 = .ok (.iload_n 2, 1) := by decide +kernel
theorem dX8_round_12 : decode cX8_round 12 = .ok (.i2l, 1) := by decide +kernel
theorem dX8_round_13 : decode cX8_round 13 = .ok (.invokevirtual 87, 3) := by decide +kernel
theorem dX8_round_16 : decode cX8_round 16 = .ok (.ifCond .ne 10, 3) := by decide +kernel
theorem dX8_round_19 : decode cX8_round 19 = .ok (.aload_n 0, 1) := by decide +kernel
theorem dX8_round_20 : decode cX8_round 20 = .ok (.ldc 95, 2) := by decide +kernel
theorem dX8_round_22 : decode cX8_round 22 = .ok (.invokevirtual 80, 3) := by decide +kernel
theorem dX8_round_25 : decode cX8_round 25 = .ok (.ireturn, 1) := by decide +kernel
theorem dX8_roundOf_0 : decode cX8_roundOf 0 = .ok (.aload_n 0, 1) := by decide +kernel
theorem dX8_roundOf_1 : decode cX8_roundOf 1 = .ok (.getfield 12, 3) := by decide +kernel
theorem dX8_roundOf_4 : decode cX8_roundOf 4 = .ok (.getfield 159, 3) := by decide +kernel
theorem dX8_roundOf_7 : decode cX8_roundOf 7 = .ok (.iload_n 1, 1) := by decide +kernel
theorem dX8_roundOf_8 : decode cX8_roundOf 8 = .ok (.invokevirtual 171, 3) := by decide +kernel
theorem dX8_roundOf_11 : decode cX8_roundOf 11 = .ok (.ifCond .eq 13, 3) := by decide +kernel
theorem dX8_roundOf_24 : decode cX8_roundOf 24 = .ok (.aload_n 0, 1) := by decide +kernel
theorem dX8_roundOf_25 : decode cX8_roundOf 25 = .ok (.ldc 95, 2) := by decide +kernel
theorem dX8_roundOf_27 : decode cX8_roundOf 27 = .ok (.invokevirtual 80, 3) := by decide +kernel
theorem dX8_roundOf_30 : decode cX8_roundOf 30 = .ok (.ireturn, 1) := by decide +kernel
theorem dX8_saves_0 : decode cX8_saves 0 = .ok (.aload_n 0, 1) := by decide +kernel
theorem dX8_saves_1 : decode cX8_saves 1 = .ok (.getfield 12, 3) := by decide +kernel
theorem dX8_saves_4 : decode cX8_saves 4 = .ok (.iload_n 1, 1) := by decide +kernel
theorem dX8_saves_5 : decode cX8_saves 5 = .ok (.iload_n 2, 1) := by decide +kernel
theorem dX8_saves_6 : decode cX8_saves 6 = .ok (.invokevirtual 99, 3) := by decide +kernel
theorem dX8_saves_9 : decode cX8_saves 9 = .ok (.ifCond .ne 10, 3) := by decide +kernel
theorem dX8_saves_12 : decode cX8_saves 12 = .ok (.aload_n 0, 1) := by decide +kernel
theorem dX8_saves_13 : decode cX8_saves 13 = .ok (.ldc 95, 2) := by decide +kernel
theorem dX8_saves_15 : decode cX8_saves 15 = .ok (.invokevirtual 80, 3) := by decide +kernel
theorem dX8_saves_18 : decode cX8_saves 18 = .ok (.ireturn, 1) := by decide +kernel
theorem dX8_shut_0 : decode cX8_shut 0 = .ok (.aload_n 0, 1) := by decide +kernel
theorem dX8_shut_1 : decode cX8_shut 1 = .ok (.getfield 12, 3) := by decide +kernel
theorem dX8_shut_4 : decode cX8_shut 4 = .ok (.iload_n 1, 1) := by decide +kernel
theorem dX8_shut_5 : decode cX8_shut 5 = .ok (.iload_n 2, 1) := by decide +kernel
theorem dX8_shut_6 : decode cX8_shut 6 = .ok (.invokevirtual 99, 3) := by decide +kernel
theorem dX8_shut_9 : decode cX8_shut 9 = .ok (.ifCond .ne 10, 3) := by decide +kernel
theorem dX8_shut_12 : decode cX8_shut 12 = .ok (.aload_n 0, 1) := by decide +kernel
theorem dX8_shut_13 : decode cX8_shut 13 = .ok (.ldc 95, 2) := by decide +kernel
theorem dX8_shut_15 : decode cX8_shut 15 = .ok (.invokevirtual 80, 3) := by decide +kernel
theorem dX8_shut_18 : decode cX8_shut 18 = .ok (.ireturn, 1) := by decide +kernel
theorem dX8_sum_0 : decode cX8_sum 0 = .ok (.aload_n 0, 1) := by decide +kernel
theorem dX8_sum_1 : decode cX8_sum 1 = .ok (.getfield 12, 3) := by decide +kernel
theorem dX8_sum_4 : decode cX8_sum 4 = .ok (.getfield 159, 3) := by decide +kernel
theorem dX8_sum_7 : decode cX8_sum 7 = .ok (.iload_n 1, 1) := by decide +kernel
theorem dX8_sum_8 : decode cX8_sum 8 = .ok (.invokevirtual 171, 3) := by decide +kernel
theorem dX8_sum_11 : decode cX8_sum 11 = .ok (.ifCond .ne 10, 3) := by decide +kernel
theorem dX8_sum_14 : decode cX8_sum 14 = .ok (.aload_n 0, 1) := by decide +kernel
theorem dX8_sum_15 : decode cX8_sum 15 = .ok (.ldc 95, 2) := by decide +kernel
theorem dX8_sum_17 : decode cX8_sum 17 = .ok (.invokevirtual 80, 3) := by decide +kernel
theorem dX8_sum_20 : decode cX8_sum 20 = .ok (.ireturn, 1) := by decide +kernel
theorem dX8_tear_0 : decode cX8_tear 0 = .ok (.aload_n 0, 1) := by decide +kernel
theorem dX8_tear_1 : decode cX8_tear 1 = .ok (.getfield 22, 3) := by decide +kernel
theorem dX8_tear_4 : decode cX8_tear 4 = .ok (.ifCond .eq 7, 3) := by decide +kernel
theorem dX8_tear_11 : decode cX8_tear 11 = .ok (.iconst 0, 1) := by decide +kernel
theorem dX8_tear_12 : decode cX8_tear 12 = .ok (.istore_n 1, 1) := by decide +kernel
theorem dX8_tear_13 : decode cX8_tear 13 = .ok (.aload_n 0, 1) := by decide +kernel
theorem dX8_tear_14 : decode cX8_tear 14 = .ok (.iconst 0, 1) := by decide +kernel
theorem dX8_tear_15 : decode cX8_tear 15 = .ok (.putfield 22, 3) := by decide +kernel
theorem dX8_tear_18 : decode cX8_tear 18 = .ok (.iload_n 1, 1) := by decide +kernel
theorem dX8_tear_19 : decode cX8_tear 19 = .ok (.ireturn, 1) := by decide +kernel
theorem dX8_trip_0 : decode cX8_trip 0 = .ok (.aload_n 0, 1) := by decide +kernel
theorem dX8_trip_1 : decode cX8_trip 1 = .ok (.getfield 12, 3) := by decide +kernel
theorem dX8_trip_4 : decode cX8_trip 4 = .ok (.iload_n 1, 1) := by decide +kernel
theorem dX8_trip_5 : decode cX8_trip 5 = .ok (.i2l, 1) := by decide +kernel
theorem dX8_trip_6 : decode cX8_trip 6 = .ok (.invokevirtual 87, 3) := by decide +kernel
theorem dX8_trip_9 : decode cX8_trip 9 = .ok (.ifCond .ne 10, 3) := by decide +kernel
theorem dX8_trip_12 : decode cX8_trip 12 = .ok (.aload_n 0, 1) := by decide +kernel
theorem dX8_trip_13 : decode cX8_trip 13 = .ok (.ldc 95, 2) := by decide +kernel
theorem dX8_trip_15 : decode cX8_trip 15 = .ok (.invokevirtual 80, 3) := by decide +kernel
theorem dX8_trip_18 : decode cX8_trip 18 = .ok (.ireturn, 1) := by decide +kernel
theorem dX8_undo_0 : decode cX8_undo 0 = .ok (.aload_n 0, 1) := by decide +kernel
theorem dX8_undo_1 : decode cX8_undo 1 = .ok (.getfield 22, 3) := by decide +kernel
theorem dX8_undo_4 : decode cX8_undo 4 = .ok (.ifCond .ne 10, 3) := by decide +kernel
theorem dX8_undo_7 : decode cX8_undo 7 = .ok (.aload_n 0, 1) := by decide +kernel
theorem dX8_undo_8 : decode cX8_undo 8 = .ok (.ldc 113, 2) := by decide +kernel
theorem dX8_undo_10 : decode cX8_undo 10 = .ok (.invokevirtual 80, 3) := by decide +kernel
theorem dX8_undo_13 : decode cX8_undo 13 = .ok (.ireturn, 1) := by decide +kernel
theorem dX8_walk_0 : decode cX8_walk 0 = .ok (.aload_n 0, 1) := by decide +kernel
theorem dX8_walk_1 : decode cX8_walk 1 = .ok (.getfield 12, 3) := by decide +kernel
theorem dX8_walk_4 : decode cX8_walk 4 = .ok (.iload_n 1, 1) := by decide +kernel
theorem dX8_walk_5 : decode cX8_walk 5 = .ok (.iload_n 2, 1) := by decide +kernel
theorem dX8_walk_6 : decode cX8_walk 6 = .ok (.invokevirtual 99, 3) := by decide +kernel
theorem dX8_walk_9 : decode cX8_walk 9 = .ok (.ifCond .eq 27, 3) := by decide +kernel
theorem dX8_walk_36 : decode cX8_walk 36 = .ok (.aload_n 0, 1) := by decide +kernel
theorem dX8_walk_37 : decode cX8_walk 37 = .ok (.ldc 95, 2) := by decide +kernel
theorem dX8_walk_39 : decode cX8_walk 39 = .ok (.invokevirtual 80, 3) := by decide +kernel
theorem dX8_walk_42 : decode cX8_walk 42 = .ok (.ireturn, 1) := by decide +kernel
theorem dX8_way_0 : decode cX8_way 0 = .ok (.aload_n 0, 1) := by decide +kernel
theorem dX8_way_1 : decode cX8_way 1 = .ok (.getfield 12, 3) := by decide +kernel
theorem dX8_way_4 : decode cX8_way 4 = .ok (.iload_n 1, 1) := by decide +kernel
theorem dX8_way_5 : decode cX8_way 5 = .ok (.iload_n 2, 1) := by decide +kernel
theorem dX8_way_6 : decode cX8_way 6 = .ok (.invokevirtual 99, 3) := by decide +kernel
theorem dX8_way_9 : decode cX8_way 9 = .ok (.ifCond .eq 12, 3) := by decide +kernel
theorem dX8_way_21 : decode cX8_way 21 = .ok (.aload_n 0, 1) := by decide +kernel
theorem dX8_way_22 : decode cX8_way 22 = .ok (.ldc 95, 2) := by decide +kernel
theorem dX8_way_24 : decode cX8_way 24 = .ok (.invokevirtual 80, 3) := by decide +kernel
theorem dX8_way_27 : decode cX8_way 27 = .ok (.ireturn, 1) := by decide +kernel
theorem dX8_wayOf_0 : decode cX8_wayOf 0 = .ok (.aload_n 0, 1) := by decide +kernel
theorem dX8_wayOf_1 : decode cX8_wayOf 1 = .ok (.getfield 12, 3) := by decide +kernel
theorem dX8_wayOf_4 : decode cX8_wayOf 4 = .ok (.iload_n 1, 1) := by decide +kernel
theorem dX8_wayOf_5 : decode cX8_wayOf 5 = .ok (.iload_n 2, 1) := by decide +kernel
theorem dX8_wayOf_6 : decode cX8_wayOf 6 = .ok (.invokevirtual 99, 3) := by decide +kernel
theorem dX8_wayOf_9 : decode cX8_wayOf 9 = .ok (.ifCond .eq 12, 3) := by decide +kernel
theorem dX8_wayOf_21 : decode cX8_wayOf 21 = .ok (.aload_n 0, 1) := by decide +kernel
theorem dX8_wayOf_22 : decode cX8_wayOf 22 = .ok (.ldc 95, 2) := by decide +kernel
theorem dX8_wayOf_24 : decode cX8_wayOf 24 = .ok (.invokevirtual 80, 3) := by decide +kernel
theorem dX8_wayOf_27 : decode cX8_wayOf 27 = .ok (.ireturn, 1) := by decide +kernel
theorem dX8_wipe_0 : decode cX8_wipe 0 = .ok (.aload_n 0, 1) := by decide +kernel
theorem dX8_wipe_1 : decode cX8_wipe 1 = .ok (.getfield 60, 3) := by decide +kernel
theorem dX8_wipe_4 : decode cX8_wipe 4 = .ok (.getfield 275, 3) := by decide +kernel
theorem dX8_wipe_7 : decode cX8_wipe 7 = .ok (.istore_n 1, 1) := by decide +kernel
theorem dX8_wipe_8 : decode cX8_wipe 8 = .ok (.aload_n 0, 1) := by decide +kernel
theorem dX8_wipe_9 : decode cX8_wipe 9 = .ok (.getfield 60, 3) := by decide +kernel
theorem dX8_wipe_12 : decode cX8_wipe 12 = .ok (.iconst 0, 1) := by decide +kernel
theorem dX8_wipe_13 : decode cX8_wipe 13 = .ok (.putfield 275, 3) := by decide +kernel
theorem dX8_wipe_16 : decode cX8_wipe 16 = .ok (.iload_n 1, 1) := by decide +kernel
theorem dX8_wipe_17 : decode cX8_wipe 17 = .ok (.ireturn, 1) := by decide +kernel
theorem dX8_worst_0 : decode cX8_worst 0 = .ok (.aload_n 0, 1) := by decide +kernel
theorem dX8_worst_1 : decode cX8_worst 1 = .ok (.getfield 12, 3) := by decide +kernel
theorem dX8_worst_4 : decode cX8_worst 4 = .ok (.invokestatic 226, 3) := by decide +kernel
theorem dX8_worst_7 : decode cX8_worst 7 = .ok (.istore_n 1, 1) := by decide +kernel
theorem dX8_worst_8 : decode cX8_worst 8 = .ok (.iload_n 1, 1) := by decide +kernel
theorem dX8_worst_9 : decode cX8_worst 9 = .ok (.ifCond .ge 12, 3) := by decide +kernel
theorem dX8_worst_12 : decode cX8_worst 12 = .ok (.aload_n 0, 1) := by decide +kernel
theorem dX8_worst_13 : decode cX8_worst 13 = .ok (.ldc 113, 2) := by decide +kernel
theorem dX8_worst_15 : decode cX8_worst 15 = .ok (.invokevirtual 80, 3) := by decide +kernel
theorem dX8_worst_18 : decode cX8_worst 18 = .ok (.goto 4, 3) := by decide +kernel
theorem dX8_worst_22 : decode cX8_worst 22 = .ok (.ireturn, 1) := by decide +kernel
end
section
theorem uw0 : Cond.methodLink RX8 91 yX8_isWithin ∈ wsU := ut2 (List.mem_of_getElem? (i := 28) (by decide +kernel)) rfl
theorem uw1 : Cond.static yX8_isWithin ∈ wsU := ut2 (List.mem_of_getElem? (i := 29) (by decide +kernel)) rfl
theorem uw2 : Cond.initialized yX8_isWithin.cls ∈ wsU := ut1 (List.mem_of_getElem? (i := 1) (by decide +kernel)) rfl
theorem uw3 : Cond.code yX8_isWithin cX8_isWithin 3 (some .boolean) ∈ wsU := ut2 (List.mem_of_getElem? (i := 30) (by decide +kernel)) rfl
theorem uw4 : Cond.constant RX8 95 (-1000000001) ∈ wsU := ut2 (List.mem_of_getElem? (i := 15) (by decide +kernel)) rfl
theorem uw5 : Cond.fieldLink RX8 70 "LongerBack" "found" "[I" ∈ wsU := ut1 (List.mem_of_getElem? (i := 220) (by decide +kernel)) rfl
theorem uw6 : Cond.laysFinal RX8 "LongerBack" "here" "LLongerBack$Land;" ∈ wsU := ut1 (List.mem_of_getElem? (i := 221) (by decide +kernel)) rfl
theorem uw7 : Cond.laysFinal RX8 "LongerBack" "kept" "LLongerBack$Land;" ∈ wsU := ut1 (List.mem_of_getElem? (i := 223) (by decide +kernel)) rfl
theorem uw8 : Cond.laysFinal RX8 "LongerBack" "draft" "LLongerBack$Land;" ∈ wsU := ut1 (List.mem_of_getElem? (i := 225) (by decide +kernel)) rfl
theorem uw9 : Cond.lays RX8 "LongerBack" "isKept" "Z" ∈ wsU := ut1 (List.mem_of_getElem? (i := 227) (by decide +kernel)) rfl
theorem uw10 : Cond.laysFinal RX8 "LongerBack" "atlas" "LLongerBack$Atlas;" ∈ wsU := ut1 (List.mem_of_getElem? (i := 229) (by decide +kernel)) rfl
theorem uw11 : Cond.laysFinal RX8 "LongerBack" "mended" "LLongerBack$Atlas;" ∈ wsU := ut1 (List.mem_of_getElem? (i := 231) (by decide +kernel)) rfl
theorem uw12 : Cond.laysFinal RX8 "LongerBack" "sums" "LLongerBack$Sums;" ∈ wsU := ut1 (List.mem_of_getElem? (i := 233) (by decide +kernel)) rfl
theorem uw13 : Cond.laysFinal RX8 "LongerBack" "slopes" "LLongerBack$Slopes;" ∈ wsU := ut1 (List.mem_of_getElem? (i := 235) (by decide +kernel)) rfl
theorem uw14 : Cond.laysFinal RX8 "LongerBack" "learner" "LLongerBack$Learner;" ∈ wsU := ut1 (List.mem_of_getElem? (i := 237) (by decide +kernel)) rfl
theorem uw15 : Cond.laysFinal RX8 "LongerBack" "text" "LLongerBack$Text;" ∈ wsU := ut1 (List.mem_of_getElem? (i := 239) (by decide +kernel)) rfl
theorem uw16 : Cond.laysFinal RX8 "LongerBack" "sheets" "[LLongerBack$Sheet;" ∈ wsU := ut2 (List.mem_of_getElem? (i := 1) (by decide +kernel)) rfl
theorem uw17 : Cond.laysFinal RX8 "LongerBack" "found" "[I" ∈ wsU := ut2 (List.mem_of_getElem? (i := 3) (by decide +kernel)) rfl
theorem uw18 : Cond.fieldLink RX1 9 "LongerBack$Land" "places" "I" ∈ wsU := ut1 (List.mem_of_getElem? (i := 54) (by decide +kernel)) rfl
theorem uw19 : Cond.lays RX1 "LongerBack$Land" "places" "I" ∈ wsU := ut1 (List.mem_of_getElem? (i := 83) (by decide +kernel)) rfl
theorem uw20 : Cond.laysFinal RX1 "LongerBack$Land" "errands" "[I" ∈ wsU := ut1 (List.mem_of_getElem? (i := 85) (by decide +kernel)) rfl
theorem uw21 : Cond.laysFinal RX1 "LongerBack$Land" "low" "[I" ∈ wsU := ut1 (List.mem_of_getElem? (i := 87) (by decide +kernel)) rfl
theorem uw22 : Cond.laysFinal RX1 "LongerBack$Land" "high" "[I" ∈ wsU := ut1 (List.mem_of_getElem? (i := 89) (by decide +kernel)) rfl
theorem uw23 : Cond.laysFinal RX1 "LongerBack$Land" "doors" "[I" ∈ wsU := ut1 (List.mem_of_getElem? (i := 91) (by decide +kernel)) rfl
theorem uw24 : Cond.laysFinal RX1 "LongerBack$Land" "rounds" "LLongerBack$Rows;" ∈ wsU := ut1 (List.mem_of_getElem? (i := 93) (by decide +kernel)) rfl
theorem uw25 : Cond.laysFinal RX1 "LongerBack$Land" "kinds" "[I" ∈ wsU := ut1 (List.mem_of_getElem? (i := 95) (by decide +kernel)) rfl
theorem uw26 : Cond.laysFinal RX1 "LongerBack$Land" "walks" "LLongerBack$Rows;" ∈ wsU := ut1 (List.mem_of_getElem? (i := 97) (by decide +kernel)) rfl
theorem uw27 : Cond.laysFinal RX1 "LongerBack$Land" "totals" "[I" ∈ wsU := ut1 (List.mem_of_getElem? (i := 99) (by decide +kernel)) rfl
theorem uw28 : Cond.laysFinal RX1 "LongerBack$Land" "slacks" "[I" ∈ wsU := ut1 (List.mem_of_getElem? (i := 101) (by decide +kernel)) rfl
theorem uw29 : Cond.methodLink RX1 57 yX1_isPlace ∈ wsU := ut2 (List.mem_of_getElem? (i := 39) (by decide +kernel)) rfl
theorem uw30 : Cond.instanceMethod yX1_isPlace ∈ wsU := ut2 (List.mem_of_getElem? (i := 25) (by decide +kernel)) rfl
theorem uw31 : Cond.selects RX1 yX1_isPlace yX1_isPlace ∈ wsU := ut2 (List.mem_of_getElem? (i := 26) (by decide +kernel)) rfl
theorem uw32 : Cond.initialized RX1 ∈ wsU := ut1 (List.mem_of_getElem? (i := 2) (by decide +kernel)) rfl
theorem uw33 : Cond.code yX1_isPlace cX1_isPlace 3 (some .boolean) ∈ wsU := ut2 (List.mem_of_getElem? (i := 27) (by decide +kernel)) rfl
theorem uw34 : Cond.fieldLink RX3 9 "LongerBack$Rows" "count" "I" ∈ wsU := ut1 (List.mem_of_getElem? (i := 37) (by decide +kernel)) rfl
theorem uw35 : Cond.lays RX3 "LongerBack$Rows" "count" "I" ∈ wsU := ut1 (List.mem_of_getElem? (i := 46) (by decide +kernel)) rfl
theorem uw36 : Cond.laysFinal RX3 "LongerBack$Rows" "lengths" "[I" ∈ wsU := ut1 (List.mem_of_getElem? (i := 48) (by decide +kernel)) rfl
theorem uw37 : Cond.laysFinal RX3 "LongerBack$Rows" "stops" "[I" ∈ wsU := ut1 (List.mem_of_getElem? (i := 50) (by decide +kernel)) rfl
theorem uw38 : Cond.fieldLink RX1 25 "LongerBack$Land" "doors" "[I" ∈ wsU := ut1 (List.mem_of_getElem? (i := 66) (by decide +kernel)) rfl
theorem uw39 : Cond.fieldLink RX1 15 "LongerBack$Land" "errands" "[I" ∈ wsU := ut1 (List.mem_of_getElem? (i := 59) (by decide +kernel)) rfl
theorem uw40 : Cond.fieldLink RX0 19 "LongerBack$Land" "places" "I" ∈ wsU := ut1 (List.mem_of_getElem? (i := 55) (by decide +kernel)) rfl
theorem uw41 : Cond.fieldLink RX0 9 "LongerBack$Atlas" "places" "I" ∈ wsU := ut1 (List.mem_of_getElem? (i := 110) (by decide +kernel)) rfl
theorem uw42 : Cond.lays RX0 "LongerBack$Atlas" "places" "I" ∈ wsU := ut1 (List.mem_of_getElem? (i := 112) (by decide +kernel)) rfl
theorem uw43 : Cond.laysFinal RX0 "LongerBack$Atlas" "lengths" "[I" ∈ wsU := ut1 (List.mem_of_getElem? (i := 114) (by decide +kernel)) rfl
theorem uw44 : Cond.constant RX0 38 1000000000 ∈ wsU := ut2 (List.mem_of_getElem? (i := 96) (by decide +kernel)) rfl
theorem uw45 : Cond.methodLink RX0 73 yX0_homeOf ∈ wsU := ut3 (List.mem_of_getElem? (i := 202) (by decide +kernel)) rfl
theorem uw46 : Cond.instanceMethod yX0_homeOf ∈ wsU := ut3 (List.mem_of_getElem? (i := 45) (by decide +kernel)) rfl
theorem uw47 : Cond.selects RX0 yX0_homeOf yX0_homeOf ∈ wsU := ut3 (List.mem_of_getElem? (i := 46) (by decide +kernel)) rfl
theorem uw48 : Cond.initialized RX0 ∈ wsU := ut1 (List.mem_of_getElem? (i := 4) (by decide +kernel)) rfl
theorem uw49 : Cond.code yX0_homeOf cX0_homeOf 6 (some .int) ∈ wsU := ut3 (List.mem_of_getElem? (i := 47) (by decide +kernel)) rfl
theorem uw50 : Cond.fieldLink RX5 22 "LongerBack$Land" "places" "I" ∈ wsU := ut1 (List.mem_of_getElem? (i := 57) (by decide +kernel)) rfl
theorem uw51 : Cond.fieldLink RX2 7 "LongerBack$Learner" "liars" "I" ∈ wsU := ut1 (List.mem_of_getElem? (i := 151) (by decide +kernel)) rfl
theorem uw52 : Cond.lays RX2 "LongerBack$Learner" "liars" "I" ∈ wsU := ut1 (List.mem_of_getElem? (i := 154) (by decide +kernel)) rfl
theorem uw53 : Cond.lays RX2 "LongerBack$Learner" "isChanged" "Z" ∈ wsU := ut1 (List.mem_of_getElem? (i := 156) (by decide +kernel)) rfl
theorem uw54 : Cond.fieldLink RX2 13 "LongerBack$Learner" "isChanged" "Z" ∈ wsU := ut1 (List.mem_of_getElem? (i := 153) (by decide +kernel)) rfl
theorem uw55 : Cond.fieldLink RX2 17 "LongerBack$Land" "walks" "LLongerBack$Rows;" ∈ wsU := ut1 (List.mem_of_getElem? (i := 74) (by decide +kernel)) rfl
theorem uw56 : Cond.fieldLink RX2 23 "LongerBack$Rows" "count" "I" ∈ wsU := ut1 (List.mem_of_getElem? (i := 38) (by decide +kernel)) rfl
theorem uw57 : Cond.fieldLink RX3 15 "LongerBack$Rows" "lengths" "[I" ∈ wsU := ut1 (List.mem_of_getElem? (i := 40) (by decide +kernel)) rfl
theorem uw58 : Cond.methodLink RX3 29 arraycopyName ∈ wsU := ut3 (List.mem_of_getElem? (i := 164) (by decide +kernel)) rfl
theorem uw59 : Cond.native arraycopyName ∈ wsU := ut3 (List.mem_of_getElem? (i := 159) (by decide +kernel)) rfl
theorem uw60 : Cond.static arraycopyName ∈ wsU := ut3 (List.mem_of_getElem? (i := 158) (by decide +kernel)) rfl
theorem uw61 : Cond.initialized "java/lang/System" ∈ wsU := ut1 (List.mem_of_getElem? (i := 12) (by decide +kernel)) rfl
theorem uw62 : Cond.fieldLink RX3 19 "LongerBack$Rows" "stops" "[I" ∈ wsU := ut1 (List.mem_of_getElem? (i := 45) (by decide +kernel)) rfl
theorem uw63 : Cond.methodLink RX1 47 arraycopyName ∈ wsU := ut3 (List.mem_of_getElem? (i := 157) (by decide +kernel)) rfl
theorem uw64 : Cond.fieldLink RX1 19 "LongerBack$Land" "low" "[I" ∈ wsU := ut1 (List.mem_of_getElem? (i := 62) (by decide +kernel)) rfl
theorem uw65 : Cond.fieldLink RX1 22 "LongerBack$Land" "high" "[I" ∈ wsU := ut1 (List.mem_of_getElem? (i := 64) (by decide +kernel)) rfl
theorem uw66 : Cond.fieldLink RX1 31 "LongerBack$Land" "rounds" "LLongerBack$Rows;" ∈ wsU := ut1 (List.mem_of_getElem? (i := 67) (by decide +kernel)) rfl
theorem uw67 : Cond.methodLink RX1 53 yX3_become ∈ wsU := ut3 (List.mem_of_getElem? (i := 160) (by decide +kernel)) rfl
theorem uw68 : Cond.instanceMethod yX3_become ∈ wsU := ut3 (List.mem_of_getElem? (i := 161) (by decide +kernel)) rfl
theorem uw69 : Cond.selects RX3 yX3_become yX3_become ∈ wsU := ut3 (List.mem_of_getElem? (i := 162) (by decide +kernel)) rfl
theorem uw70 : Cond.initialized RX3 ∈ wsU := ut1 (List.mem_of_getElem? (i := 3) (by decide +kernel)) rfl
theorem uw71 : Cond.code yX3_become cX3_become 2 none ∈ wsU := ut3 (List.mem_of_getElem? (i := 163) (by decide +kernel)) rfl
theorem uw72 : Cond.fieldLink RX1 35 "LongerBack$Land" "kinds" "[I" ∈ wsU := ut1 (List.mem_of_getElem? (i := 70) (by decide +kernel)) rfl
theorem uw73 : Cond.fieldLink RX1 38 "LongerBack$Land" "walks" "LLongerBack$Rows;" ∈ wsU := ut1 (List.mem_of_getElem? (i := 73) (by decide +kernel)) rfl
theorem uw74 : Cond.fieldLink RX1 41 "LongerBack$Land" "totals" "[I" ∈ wsU := ut1 (List.mem_of_getElem? (i := 77) (by decide +kernel)) rfl
theorem uw75 : Cond.fieldLink RX1 44 "LongerBack$Land" "slacks" "[I" ∈ wsU := ut1 (List.mem_of_getElem? (i := 80) (by decide +kernel)) rfl
theorem uw76 : Cond.fieldLink RX7 9 "LongerBack$Text" "size" "I" ∈ wsU := ut1 (List.mem_of_getElem? (i := 165) (by decide +kernel)) rfl
theorem uw77 : Cond.lays RX7 "LongerBack$Text" "size" "I" ∈ wsU := ut1 (List.mem_of_getElem? (i := 173) (by decide +kernel)) rfl
theorem uw78 : Cond.laysFinal RX7 "LongerBack$Text" "bytes" "[I" ∈ wsU := ut1 (List.mem_of_getElem? (i := 175) (by decide +kernel)) rfl
theorem uw79 : Cond.lays RX7 "LongerBack$Text" "token" "I" ∈ wsU := ut1 (List.mem_of_getElem? (i := 177) (by decide +kernel)) rfl
theorem uw80 : Cond.lays RX7 "LongerBack$Text" "start" "I" ∈ wsU := ut1 (List.mem_of_getElem? (i := 179) (by decide +kernel)) rfl
theorem uw81 : Cond.lays RX7 "LongerBack$Text" "next" "I" ∈ wsU := ut1 (List.mem_of_getElem? (i := 181) (by decide +kernel)) rfl
theorem uw82 : Cond.lays RX7 "LongerBack$Text" "value" "I" ∈ wsU := ut1 (List.mem_of_getElem? (i := 183) (by decide +kernel)) rfl
theorem uw83 : Cond.lays RX7 "LongerBack$Text" "taken" "I" ∈ wsU := ut1 (List.mem_of_getElem? (i := 185) (by decide +kernel)) rfl
theorem uw84 : Cond.fieldLink RX7 25 "LongerBack$Text" "next" "I" ∈ wsU := ut1 (List.mem_of_getElem? (i := 170) (by decide +kernel)) rfl
theorem uw85 : Cond.fieldLink RX7 22 "LongerBack$Text" "start" "I" ∈ wsU := ut1 (List.mem_of_getElem? (i := 169) (by decide +kernel)) rfl
theorem uw86 : Cond.methodLink RX7 142 yX7_kindAt ∈ wsU := ut4 (List.mem_of_getElem? (i := 18) (by decide +kernel)) rfl
theorem uw87 : Cond.instanceMethod yX7_kindAt ∈ wsU := ut4 (List.mem_of_getElem? (i := 20) (by decide +kernel)) rfl
theorem uw88 : Cond.selects RX7 yX7_kindAt yX7_kindAt ∈ wsU := us_sel (q := (yX7_kindAt, 7)) (List.mem_of_getElem? (i := 16) (by decide +kernel)) rfl
theorem uw89 : Cond.initialized RX7 ∈ wsU := ut1 (List.mem_of_getElem? (i := 8) (by decide +kernel)) rfl
theorem uw90 : Cond.code yX7_kindAt cX7_kindAt 3 (some .int) ∈ wsU := ut4 (List.mem_of_getElem? (i := 21) (by decide +kernel)) rfl
theorem uw91 : Cond.fieldLink RX7 19 "LongerBack$Text" "token" "I" ∈ wsU := ut1 (List.mem_of_getElem? (i := 168) (by decide +kernel)) rfl
theorem uw92 : Cond.fieldLink RX7 28 "LongerBack$Text" "value" "I" ∈ wsU := ut1 (List.mem_of_getElem? (i := 171) (by decide +kernel)) rfl
theorem uw93 : Cond.methodLink RX7 43 yX7_isWord ∈ wsU := ut4 (List.mem_of_getElem? (i := 28) (by decide +kernel)) rfl
theorem uw94 : Cond.instanceMethod yX7_isWord ∈ wsU := ut4 (List.mem_of_getElem? (i := 30) (by decide +kernel)) rfl
theorem uw95 : Cond.selects RX7 yX7_isWord yX7_isWord ∈ wsU := us_sel (q := (yX7_isWord, 7)) (List.mem_of_getElem? (i := 18) (by decide +kernel)) rfl
theorem uw96 : Cond.code yX7_isWord cX7_isWord 3 (some .boolean) ∈ wsU := ut4 (List.mem_of_getElem? (i := 31) (by decide +kernel)) rfl
theorem uw97 : Cond.methodLink RX7 34 yX7_step ∈ wsU := ut4 (List.mem_of_getElem? (i := 14) (by decide +kernel)) rfl
theorem uw98 : Cond.instanceMethod yX7_step ∈ wsU := ut4 (List.mem_of_getElem? (i := 16) (by decide +kernel)) rfl
theorem uw99 : Cond.selects RX7 yX7_step yX7_step ∈ wsU := us_sel (q := (yX7_step, 7)) (List.mem_of_getElem? (i := 15) (by decide +kernel)) rfl
theorem uw100 : Cond.code yX7_step cX7_step 3 none ∈ wsU := ut4 (List.mem_of_getElem? (i := 17) (by decide +kernel)) rfl
theorem uw101 : Cond.methodLink RX7 37 yX7_takeItem ∈ wsU := ut4 (List.mem_of_getElem? (i := 23) (by decide +kernel)) rfl
theorem uw102 : Cond.instanceMethod yX7_takeItem ∈ wsU := ut4 (List.mem_of_getElem? (i := 25) (by decide +kernel)) rfl
theorem uw103 : Cond.selects RX7 yX7_takeItem yX7_takeItem ∈ wsU := us_sel (q := (yX7_takeItem, 7)) (List.mem_of_getElem? (i := 17) (by decide +kernel)) rfl
theorem uw104 : Cond.code yX7_takeItem cX7_takeItem 2 (some .boolean) ∈ wsU := ut4 (List.mem_of_getElem? (i := 26) (by decide +kernel)) rfl
theorem uw105 : Cond.fieldLink RX7 15 "LongerBack$Text" "bytes" "[I" ∈ wsU := ut1 (List.mem_of_getElem? (i := 167) (by decide +kernel)) rfl
theorem uw106 : Cond.fieldLink RX4 9 "LongerBack$Sheet" "bits" "I" ∈ wsU := ut1 (List.mem_of_getElem? (i := 195) (by decide +kernel)) rfl
theorem uw107 : Cond.lays RX4 "LongerBack$Sheet" "bits" "I" ∈ wsU := ut1 (List.mem_of_getElem? (i := 201) (by decide +kernel)) rfl
theorem uw108 : Cond.lays RX4 "LongerBack$Sheet" "size" "I" ∈ wsU := ut1 (List.mem_of_getElem? (i := 203) (by decide +kernel)) rfl
theorem uw109 : Cond.laysFinal RX4 "LongerBack$Sheet" "numbers" "[J" ∈ wsU := ut1 (List.mem_of_getElem? (i := 205) (by decide +kernel)) rfl
theorem uw110 : Cond.fieldLink RX4 15 "LongerBack$Sheet" "size" "I" ∈ wsU := ut1 (List.mem_of_getElem? (i := 197) (by decide +kernel)) rfl
theorem uw111 : Cond.fieldLink RX4 18 "LongerBack$Sheet" "numbers" "[J" ∈ wsU := ut1 (List.mem_of_getElem? (i := 199) (by decide +kernel)) rfl
theorem uw112 : Cond.fieldLink RX8 29 "LongerBack" "atlas" "LLongerBack$Atlas;" ∈ wsU := ut1 (List.mem_of_getElem? (i := 213) (by decide +kernel)) rfl
theorem uw113 : Cond.fieldLink RX8 12 "LongerBack" "here" "LLongerBack$Land;" ∈ wsU := ut1 (List.mem_of_getElem? (i := 209) (by decide +kernel)) rfl
theorem uw114 : Cond.methodLink RX8 146 yX0_measure ∈ wsU := ut2 (List.mem_of_getElem? (i := 87) (by decide +kernel)) rfl
theorem uw115 : Cond.instanceMethod yX0_measure ∈ wsU := ut2 (List.mem_of_getElem? (i := 88) (by decide +kernel)) rfl
theorem uw116 : Cond.selects RX0 yX0_measure yX0_measure ∈ wsU := ut2 (List.mem_of_getElem? (i := 89) (by decide +kernel)) rfl
theorem uw117 : Cond.code yX0_measure cX0_measure 4 none ∈ wsU := ut2 (List.mem_of_getElem? (i := 90) (by decide +kernel)) rfl
theorem uw118 : Cond.methodLink RX8 332 yX0_hasLoop ∈ wsU := ut2 (List.mem_of_getElem? (i := 113) (by decide +kernel)) rfl
theorem uw119 : Cond.instanceMethod yX0_hasLoop ∈ wsU := ut2 (List.mem_of_getElem? (i := 114) (by decide +kernel)) rfl
theorem uw120 : Cond.selects RX0 yX0_hasLoop yX0_hasLoop ∈ wsU := ut2 (List.mem_of_getElem? (i := 115) (by decide +kernel)) rfl
theorem uw121 : Cond.code yX0_hasLoop cX0_hasLoop 2 (some .boolean) ∈ wsU := ut2 (List.mem_of_getElem? (i := 116) (by decide +kernel)) rfl
theorem uw122 : Cond.fieldLink RX8 75 "LongerBack$Land" "places" "I" ∈ wsU := ut1 (List.mem_of_getElem? (i := 56) (by decide +kernel)) rfl
theorem uw123 : Cond.methodLink RX8 84 yX1_addPlace ∈ wsU := ut2 (List.mem_of_getElem? (i := 16) (by decide +kernel)) rfl
theorem uw124 : Cond.instanceMethod yX1_addPlace ∈ wsU := ut2 (List.mem_of_getElem? (i := 17) (by decide +kernel)) rfl
theorem uw125 : Cond.selects RX1 yX1_addPlace yX1_addPlace ∈ wsU := ut2 (List.mem_of_getElem? (i := 18) (by decide +kernel)) rfl
theorem uw126 : Cond.code yX1_addPlace cX1_addPlace 3 (some .int) ∈ wsU := ut2 (List.mem_of_getElem? (i := 19) (by decide +kernel)) rfl
theorem uw127 : Cond.methodLink RX8 87 yX1_isPlace ∈ wsU := ut2 (List.mem_of_getElem? (i := 24) (by decide +kernel)) rfl
theorem uw128 : Cond.methodLink RX8 80 yX8_finding ∈ wsU := ut2 (List.mem_of_getElem? (i := 11) (by decide +kernel)) rfl
theorem uw129 : Cond.instanceMethod yX8_finding ∈ wsU := ut2 (List.mem_of_getElem? (i := 13) (by decide +kernel)) rfl
theorem uw130 : Cond.selects RX8 yX8_finding yX8_finding ∈ wsU := us_sel (q := (yX8_finding, 12)) (List.mem_of_getElem? (i := 0) (by decide +kernel)) rfl
theorem uw131 : Cond.initialized RX8 ∈ wsU := ut1 (List.mem_of_getElem? (i := 1) (by decide +kernel)) rfl
theorem uw132 : Cond.code yX8_finding cX8_finding 3 (some .int) ∈ wsU := ut2 (List.mem_of_getElem? (i := 14) (by decide +kernel)) rfl
theorem uw133 : Cond.methodLink RX8 99 yX1_areTwo ∈ wsU := ut2 (List.mem_of_getElem? (i := 35) (by decide +kernel)) rfl
theorem uw134 : Cond.instanceMethod yX1_areTwo ∈ wsU := ut2 (List.mem_of_getElem? (i := 36) (by decide +kernel)) rfl
theorem uw135 : Cond.selects RX1 yX1_areTwo yX1_areTwo ∈ wsU := ut2 (List.mem_of_getElem? (i := 37) (by decide +kernel)) rfl
theorem uw136 : Cond.code yX1_areTwo cX1_areTwo 3 (some .boolean) ∈ wsU := ut2 (List.mem_of_getElem? (i := 38) (by decide +kernel)) rfl
theorem uw137 : Cond.methodLink RX8 155 yX8_isKind ∈ wsU := ut2 (List.mem_of_getElem? (i := 168) (by decide +kernel)) rfl
theorem uw138 : Cond.static yX8_isKind ∈ wsU := ut2 (List.mem_of_getElem? (i := 169) (by decide +kernel)) rfl
theorem uw139 : Cond.initialized yX8_isKind.cls ∈ wsU := ut1 (List.mem_of_getElem? (i := 1) (by decide +kernel)) rfl
theorem uw140 : Cond.code yX8_isKind cX8_isKind 1 (some .boolean) ∈ wsU := ut2 (List.mem_of_getElem? (i := 170) (by decide +kernel)) rfl
theorem uw141 : Cond.fieldLink RX8 159 "LongerBack$Land" "rounds" "LLongerBack$Rows;" ∈ wsU := ut1 (List.mem_of_getElem? (i := 69) (by decide +kernel)) rfl
theorem uw142 : Cond.methodLink RX8 171 yX3_has ∈ wsU := ut2 (List.mem_of_getElem? (i := 191) (by decide +kernel)) rfl
theorem uw143 : Cond.instanceMethod yX3_has ∈ wsU := ut2 (List.mem_of_getElem? (i := 192) (by decide +kernel)) rfl
theorem uw144 : Cond.selects RX3 yX3_has yX3_has ∈ wsU := ut2 (List.mem_of_getElem? (i := 193) (by decide +kernel)) rfl
theorem uw145 : Cond.code yX3_has cX3_has 2 (some .boolean) ∈ wsU := ut2 (List.mem_of_getElem? (i := 194) (by decide +kernel)) rfl
theorem uw146 : Cond.fieldLink RX8 229 "LongerBack$Land" "walks" "LLongerBack$Rows;" ∈ wsU := ut1 (List.mem_of_getElem? (i := 76) (by decide +kernel)) rfl
theorem uw147 : Cond.methodLink RX8 150 yX0_loopSet ∈ wsU := ut2 (List.mem_of_getElem? (i := 152) (by decide +kernel)) rfl
theorem uw148 : Cond.instanceMethod yX0_loopSet ∈ wsU := ut2 (List.mem_of_getElem? (i := 153) (by decide +kernel)) rfl
theorem uw149 : Cond.selects RX0 yX0_loopSet yX0_loopSet ∈ wsU := ut2 (List.mem_of_getElem? (i := 154) (by decide +kernel)) rfl
theorem uw150 : Cond.code yX0_loopSet cX0_loopSet 4 (some .int) ∈ wsU := ut2 (List.mem_of_getElem? (i := 155) (by decide +kernel)) rfl
theorem uw151 : Cond.methodLink RX8 128 yX8_isLooped ∈ wsU := ut2 (List.mem_of_getElem? (i := 83) (by decide +kernel)) rfl
theorem uw152 : Cond.instanceMethod yX8_isLooped ∈ wsU := ut2 (List.mem_of_getElem? (i := 85) (by decide +kernel)) rfl
theorem uw153 : Cond.selects RX8 yX8_isLooped yX8_isLooped ∈ wsU := us_sel (q := (yX8_isLooped, 12)) (List.mem_of_getElem? (i := 1) (by decide +kernel)) rfl
theorem uw154 : Cond.code yX8_isLooped cX8_isLooped 1 (some .boolean) ∈ wsU := ut2 (List.mem_of_getElem? (i := 86) (by decide +kernel)) rfl
theorem uw155 : Cond.methodLink RX8 197 yX0_homeOf ∈ wsU := ut3 (List.mem_of_getElem? (i := 44) (by decide +kernel)) rfl
theorem uw156 : Cond.constant RX8 113 (-1000000004) ∈ wsU := ut2 (List.mem_of_getElem? (i := 58) (by decide +kernel)) rfl
theorem uw157 : Cond.methodLink RX8 263 yX0_leastTrip ∈ wsU := ut3 (List.mem_of_getElem? (i := 198) (by decide +kernel)) rfl
theorem uw158 : Cond.instanceMethod yX0_leastTrip ∈ wsU := ut3 (List.mem_of_getElem? (i := 199) (by decide +kernel)) rfl
theorem uw159 : Cond.selects RX0 yX0_leastTrip yX0_leastTrip ∈ wsU := ut3 (List.mem_of_getElem? (i := 200) (by decide +kernel)) rfl
theorem uw160 : Cond.code yX0_leastTrip cX0_leastTrip 3 (some .int) ∈ wsU := ut3 (List.mem_of_getElem? (i := 201) (by decide +kernel)) rfl
theorem uw161 : Cond.constant RX8 154 1000000000 ∈ wsU := ut2 (List.mem_of_getElem? (i := 108) (by decide +kernel)) rfl
theorem uw162 : Cond.fieldLink RX8 46 "LongerBack" "slopes" "LLongerBack$Slopes;" ∈ wsU := ut1 (List.mem_of_getElem? (i := 216) (by decide +kernel)) rfl
theorem uw163 : Cond.methodLink RX8 209 yX5_climb ∈ wsU := ut3 (List.mem_of_getElem? (i := 66) (by decide +kernel)) rfl
theorem uw164 : Cond.instanceMethod yX5_climb ∈ wsU := ut3 (List.mem_of_getElem? (i := 67) (by decide +kernel)) rfl
theorem uw165 : Cond.selects RX5 yX5_climb yX5_climb ∈ wsU := ut3 (List.mem_of_getElem? (i := 68) (by decide +kernel)) rfl
theorem uw166 : Cond.initialized RX5 ∈ wsU := ut1 (List.mem_of_getElem? (i := 6) (by decide +kernel)) rfl
theorem uw167 : Cond.code yX5_climb cX5_climb 3 none ∈ wsU := ut3 (List.mem_of_getElem? (i := 69) (by decide +kernel)) rfl
theorem uw168 : Cond.methodLink RX8 212 yX5_doFit ∈ wsU := ut3 (List.mem_of_getElem? (i := 83) (by decide +kernel)) rfl
theorem uw169 : Cond.instanceMethod yX5_doFit ∈ wsU := ut3 (List.mem_of_getElem? (i := 84) (by decide +kernel)) rfl
theorem uw170 : Cond.selects RX5 yX5_doFit yX5_doFit ∈ wsU := ut3 (List.mem_of_getElem? (i := 85) (by decide +kernel)) rfl
theorem uw171 : Cond.code yX5_doFit cX5_doFit 4 (some .boolean) ∈ wsU := ut3 (List.mem_of_getElem? (i := 86) (by decide +kernel)) rfl
theorem uw172 : Cond.methodLink RX8 226 yX5_mostOffPaper ∈ wsU := ut3 (List.mem_of_getElem? (i := 103) (by decide +kernel)) rfl
theorem uw173 : Cond.static yX5_mostOffPaper ∈ wsU := ut3 (List.mem_of_getElem? (i := 104) (by decide +kernel)) rfl
theorem uw174 : Cond.initialized yX5_mostOffPaper.cls ∈ wsU := ut1 (List.mem_of_getElem? (i := 6) (by decide +kernel)) rfl
theorem uw175 : Cond.code yX5_mostOffPaper cX5_mostOffPaper 4 (some .int) ∈ wsU := ut3 (List.mem_of_getElem? (i := 105) (by decide +kernel)) rfl
theorem uw176 : Cond.fieldLink RX8 53 "LongerBack" "learner" "LLongerBack$Learner;" ∈ wsU := ut1 (List.mem_of_getElem? (i := 217) (by decide +kernel)) rfl
theorem uw177 : Cond.methodLink RX8 238 yX2_learnIn ∈ wsU := ut3 (List.mem_of_getElem? (i := 128) (by decide +kernel)) rfl
theorem uw178 : Cond.instanceMethod yX2_learnIn ∈ wsU := ut3 (List.mem_of_getElem? (i := 129) (by decide +kernel)) rfl
theorem uw179 : Cond.selects RX2 yX2_learnIn yX2_learnIn ∈ wsU := ut3 (List.mem_of_getElem? (i := 130) (by decide +kernel)) rfl
theorem uw180 : Cond.initialized RX2 ∈ wsU := ut1 (List.mem_of_getElem? (i := 7) (by decide +kernel)) rfl
theorem uw181 : Cond.code yX2_learnIn cX2_learnIn 5 (some .int) ∈ wsU := ut3 (List.mem_of_getElem? (i := 131) (by decide +kernel)) rfl
theorem uw182 : Cond.fieldLink RX8 19 "LongerBack" "draft" "LLongerBack$Land;" ∈ wsU := ut1 (List.mem_of_getElem? (i := 211) (by decide +kernel)) rfl
theorem uw183 : Cond.methodLink RX8 241 yX1_become ∈ wsU := ut3 (List.mem_of_getElem? (i := 153) (by decide +kernel)) rfl
theorem uw184 : Cond.instanceMethod yX1_become ∈ wsU := ut3 (List.mem_of_getElem? (i := 154) (by decide +kernel)) rfl
theorem uw185 : Cond.selects RX1 yX1_become yX1_become ∈ wsU := ut3 (List.mem_of_getElem? (i := 155) (by decide +kernel)) rfl
theorem uw186 : Cond.code yX1_become cX1_become 2 none ∈ wsU := ut3 (List.mem_of_getElem? (i := 156) (by decide +kernel)) rfl
theorem uw187 : Cond.fieldLink RX8 244 "LongerBack$Learner" "liars" "I" ∈ wsU := ut1 (List.mem_of_getElem? (i := 152) (by decide +kernel)) rfl
theorem uw188 : Cond.methodLink RX8 256 yX1_widestWay ∈ wsU := ut3 (List.mem_of_getElem? (i := 185) (by decide +kernel)) rfl
theorem uw189 : Cond.instanceMethod yX1_widestWay ∈ wsU := ut3 (List.mem_of_getElem? (i := 186) (by decide +kernel)) rfl
theorem uw190 : Cond.selects RX1 yX1_widestWay yX1_widestWay ∈ wsU := ut3 (List.mem_of_getElem? (i := 187) (by decide +kernel)) rfl
theorem uw191 : Cond.code yX1_widestWay cX1_widestWay 4 (some .int) ∈ wsU := ut3 (List.mem_of_getElem? (i := 188) (by decide +kernel)) rfl
theorem uw192 : Cond.methodLink RX8 272 yX1_hollowSet ∈ wsU := ut3 (List.mem_of_getElem? (i := 229) (by decide +kernel)) rfl
theorem uw193 : Cond.instanceMethod yX1_hollowSet ∈ wsU := ut3 (List.mem_of_getElem? (i := 230) (by decide +kernel)) rfl
theorem uw194 : Cond.selects RX1 yX1_hollowSet yX1_hollowSet ∈ wsU := ut3 (List.mem_of_getElem? (i := 231) (by decide +kernel)) rfl
theorem uw195 : Cond.code yX1_hollowSet cX1_hollowSet 5 (some .int) ∈ wsU := ut3 (List.mem_of_getElem? (i := 232) (by decide +kernel)) rfl
theorem uw196 : Cond.fieldLink RX8 60 "LongerBack" "text" "LLongerBack$Text;" ∈ wsU := ut1 (List.mem_of_getElem? (i := 218) (by decide +kernel)) rfl
theorem uw197 : Cond.fieldLink RX8 275 "LongerBack$Text" "size" "I" ∈ wsU := ut1 (List.mem_of_getElem? (i := 166) (by decide +kernel)) rfl
theorem uw198 : Cond.methodLink RX8 282 yX7_tellTo ∈ wsU := ut4 (List.mem_of_getElem? (i := 10) (by decide +kernel)) rfl
theorem uw199 : Cond.instanceMethod yX7_tellTo ∈ wsU := ut4 (List.mem_of_getElem? (i := 11) (by decide +kernel)) rfl
theorem uw200 : Cond.selects RX7 yX7_tellTo yX7_tellTo ∈ wsU := ut4 (List.mem_of_getElem? (i := 12) (by decide +kernel)) rfl
theorem uw201 : Cond.code yX7_tellTo cX7_tellTo 3 (some .int) ∈ wsU := ut4 (List.mem_of_getElem? (i := 13) (by decide +kernel)) rfl
theorem uw202 : Cond.fieldLink RX8 16 "LongerBack" "kept" "LLongerBack$Land;" ∈ wsU := ut1 (List.mem_of_getElem? (i := 210) (by decide +kernel)) rfl
theorem uw203 : Cond.fieldLink RX8 22 "LongerBack" "isKept" "Z" ∈ wsU := ut1 (List.mem_of_getElem? (i := 212) (by decide +kernel)) rfl
theorem inUX8 : ∀ w ∈ u_ws RX8 TX8 12, w ∈ wsU := List.forall_mem_cons.mpr ⟨uw6, List.forall_mem_cons.mpr ⟨uw7, List.forall_mem_cons.mpr ⟨uw8, List.forall_mem_cons.mpr ⟨uw9, List.forall_mem_cons.mpr ⟨uw10, List.forall_mem_cons.mpr ⟨uw11, List.forall_mem_cons.mpr ⟨uw12, List.forall_mem_cons.mpr ⟨uw13, List.forall_mem_cons.mpr ⟨uw14, List.forall_mem_cons.mpr ⟨uw15, List.forall_mem_cons.mpr ⟨uw16, List.forall_mem_cons.mpr ⟨uw17, fun _ h => absurd h List.not_mem_nil⟩⟩⟩⟩⟩⟩⟩⟩⟩⟩⟩⟩
theorem inUX1 : ∀ w ∈ u_ws RX1 TX1 10, w ∈ wsU := List.forall_mem_cons.mpr ⟨uw19, List.forall_mem_cons.mpr ⟨uw20, List.forall_mem_cons.mpr ⟨uw21, List.forall_mem_cons.mpr ⟨uw22, List.forall_mem_cons.mpr ⟨uw23, List.forall_mem_cons.mpr ⟨uw24, List.forall_mem_cons.mpr ⟨uw25, List.forall_mem_cons.mpr ⟨uw26, List.forall_mem_cons.mpr ⟨uw27, List.forall_mem_cons.mpr ⟨uw28, fun _ h => absurd h List.not_mem_nil⟩⟩⟩⟩⟩⟩⟩⟩⟩⟩
theorem inUX3 : ∀ w ∈ u_ws RX3 TX3 3, w ∈ wsU := List.forall_mem_cons.mpr ⟨uw35, List.forall_mem_cons.mpr ⟨uw36, List.forall_mem_cons.mpr ⟨uw37, fun _ h => absurd h List.not_mem_nil⟩⟩⟩
theorem inUX0 : ∀ w ∈ u_ws RX0 TX0 2, w ∈ wsU := List.forall_mem_cons.mpr ⟨uw42, List.forall_mem_cons.mpr ⟨uw43, fun _ h => absurd h List.not_mem_nil⟩⟩
theorem inUX2 : ∀ w ∈ u_ws RX2 TX2 2, w ∈ wsU := List.forall_mem_cons.mpr ⟨uw52, List.forall_mem_cons.mpr ⟨uw53, fun _ h => absurd h List.not_mem_nil⟩⟩
theorem inUX7 : ∀ w ∈ u_ws RX7 TX7 7, w ∈ wsU := List.forall_mem_cons.mpr ⟨uw77, List.forall_mem_cons.mpr ⟨uw78, List.forall_mem_cons.mpr ⟨uw79, List.forall_mem_cons.mpr ⟨uw80, List.forall_mem_cons.mpr ⟨uw81, List.forall_mem_cons.mpr ⟨uw82, List.forall_mem_cons.mpr ⟨uw83, fun _ h => absurd h List.not_mem_nil⟩⟩⟩⟩⟩⟩⟩
theorem inUX4 : ∀ w ∈ u_ws RX4 TX4 3, w ∈ wsU := List.forall_mem_cons.mpr ⟨uw107, List.forall_mem_cons.mpr ⟨uw108, List.forall_mem_cons.mpr ⟨uw109, fun _ h => absurd h List.not_mem_nil⟩⟩⟩
theorem ks_X8_91 : xWS RX8 91 yX8_isWithin cX8_isWithin 3 (some .boolean) 3 := ⟨⟨uw0, uw1, uw2, uw3⟩, by decide +kernel⟩
theorem kf_X8_70 : xWF RX8 70 8 11 RX8 TX8 12 := ⟨inUX8, rfl, by decide, uw5⟩
theorem kf_X1_9 : xWF RX1 9 1 0 RX1 TX1 10 := ⟨inUX1, rfl, by decide, uw18⟩
theorem kv_X1_57 : xWV RX1 57 RX1 yX1_isPlace cX1_isPlace 3 (some .boolean) 1 := ⟨⟨uw29, uw30, uw31, uw32, uw33⟩, by decide +kernel⟩
theorem kf_X3_9 : xWF RX3 9 3 0 RX3 TX3 3 := ⟨inUX3, rfl, by decide, uw34⟩
theorem kf_X1_25 : xWF RX1 25 1 4 RX1 TX1 10 := ⟨inUX1, rfl, by decide, uw38⟩
theorem kf_X1_15 : xWF RX1 15 1 1 RX1 TX1 10 := ⟨inUX1, rfl, by decide, uw39⟩
theorem kf_X0_19 : xWF RX0 19 1 0 RX1 TX1 10 := ⟨inUX1, rfl, by decide, uw40⟩
theorem kf_X0_9 : xWF RX0 9 0 0 RX0 TX0 2 := ⟨inUX0, rfl, by decide, uw41⟩
theorem kv_X0_73 : xWV RX0 73 RX0 yX0_homeOf cX0_homeOf 6 (some .int) 1 := ⟨⟨uw45, uw46, uw47, uw48, uw49⟩, by decide +kernel⟩
theorem kf_X5_22 : xWF RX5 22 1 0 RX1 TX1 10 := ⟨inUX1, rfl, by decide, uw50⟩
theorem kf_X2_7 : xWF RX2 7 2 0 RX2 TX2 2 := ⟨inUX2, rfl, by decide, uw51⟩
theorem kf_X2_13 : xWF RX2 13 2 1 RX2 TX2 2 := ⟨inUX2, rfl, by decide, uw54⟩
theorem kf_X2_17 : xWF RX2 17 1 7 RX1 TX1 10 := ⟨inUX1, rfl, by decide, uw55⟩
theorem kf_X2_23 : xWF RX2 23 3 0 RX3 TX3 3 := ⟨inUX3, rfl, by decide, uw56⟩
theorem kf_X3_15 : xWF RX3 15 3 1 RX3 TX3 3 := ⟨inUX3, rfl, by decide, uw57⟩
theorem kf_X3_19 : xWF RX3 19 3 2 RX3 TX3 3 := ⟨inUX3, rfl, by decide, uw62⟩
theorem kf_X1_19 : xWF RX1 19 1 2 RX1 TX1 10 := ⟨inUX1, rfl, by decide, uw64⟩
theorem kf_X1_22 : xWF RX1 22 1 3 RX1 TX1 10 := ⟨inUX1, rfl, by decide, uw65⟩
theorem kf_X1_31 : xWF RX1 31 1 5 RX1 TX1 10 := ⟨inUX1, rfl, by decide, uw66⟩
theorem kv_X1_53 : xWV RX1 53 RX3 yX3_become cX3_become 2 none 1 := ⟨⟨uw67, uw68, uw69, uw70, uw71⟩, by decide +kernel⟩
theorem kf_X1_35 : xWF RX1 35 1 6 RX1 TX1 10 := ⟨inUX1, rfl, by decide, uw72⟩
theorem kf_X1_38 : xWF RX1 38 1 7 RX1 TX1 10 := ⟨inUX1, rfl, by decide, uw73⟩
theorem kf_X1_41 : xWF RX1 41 1 8 RX1 TX1 10 := ⟨inUX1, rfl, by decide, uw74⟩
theorem kf_X1_44 : xWF RX1 44 1 9 RX1 TX1 10 := ⟨inUX1, rfl, by decide, uw75⟩
theorem kf_X7_9 : xWF RX7 9 7 0 RX7 TX7 7 := ⟨inUX7, rfl, by decide, uw76⟩
theorem kf_X7_25 : xWF RX7 25 7 4 RX7 TX7 7 := ⟨inUX7, rfl, by decide, uw84⟩
theorem kf_X7_22 : xWF RX7 22 7 3 RX7 TX7 7 := ⟨inUX7, rfl, by decide, uw85⟩
theorem kv_X7_142 : xWV RX7 142 RX7 yX7_kindAt cX7_kindAt 3 (some .int) 1 := ⟨⟨uw86, uw87, uw88, uw89, uw90⟩, by decide +kernel⟩
theorem kf_X7_19 : xWF RX7 19 7 2 RX7 TX7 7 := ⟨inUX7, rfl, by decide, uw91⟩
theorem kf_X7_28 : xWF RX7 28 7 5 RX7 TX7 7 := ⟨inUX7, rfl, by decide, uw92⟩
theorem kv_X7_43 : xWV RX7 43 RX7 yX7_isWord cX7_isWord 3 (some .boolean) 1 := ⟨⟨uw93, uw94, uw95, uw89, uw96⟩, by decide +kernel⟩
theorem kv_X7_34 : xWV RX7 34 RX7 yX7_step cX7_step 3 none 0 := ⟨⟨uw97, uw98, uw99, uw89, uw100⟩, by decide +kernel⟩
theorem kv_X7_37 : xWV RX7 37 RX7 yX7_takeItem cX7_takeItem 2 (some .boolean) 1 := ⟨⟨uw101, uw102, uw103, uw89, uw104⟩, by decide +kernel⟩
theorem kf_X7_15 : xWF RX7 15 7 1 RX7 TX7 7 := ⟨inUX7, rfl, by decide, uw105⟩
theorem kf_X4_9 : xWF RX4 9 4 0 RX4 TX4 3 := ⟨inUX4, rfl, by decide, uw106⟩
theorem kf_X4_15 : xWF RX4 15 4 1 RX4 TX4 3 := ⟨inUX4, rfl, by decide, uw110⟩
theorem kf_X4_18 : xWF RX4 18 4 2 RX4 TX4 3 := ⟨inUX4, rfl, by decide, uw111⟩
theorem kf_X8_29 : xWF RX8 29 8 4 RX8 TX8 12 := ⟨inUX8, rfl, by decide, uw112⟩
theorem kf_X8_12 : xWF RX8 12 8 0 RX8 TX8 12 := ⟨inUX8, rfl, by decide, uw113⟩
theorem kv_X8_146 : xWV RX8 146 RX0 yX0_measure cX0_measure 4 none 1 := ⟨⟨uw114, uw115, uw116, uw48, uw117⟩, by decide +kernel⟩
theorem kv_X8_332 : xWV RX8 332 RX0 yX0_hasLoop cX0_hasLoop 2 (some .boolean) 0 := ⟨⟨uw118, uw119, uw120, uw48, uw121⟩, by decide +kernel⟩
theorem kf_X8_75 : xWF RX8 75 1 0 RX1 TX1 10 := ⟨inUX1, rfl, by decide, uw122⟩
theorem kv_X8_84 : xWV RX8 84 RX1 yX1_addPlace cX1_addPlace 3 (some .int) 1 := ⟨⟨uw123, uw124, uw125, uw32, uw126⟩, by decide +kernel⟩
theorem kv_X8_87 : xWV RX8 87 RX1 yX1_isPlace cX1_isPlace 3 (some .boolean) 1 := ⟨⟨uw127, uw30, uw31, uw32, uw33⟩, by decide +kernel⟩
theorem kv_X8_80 : xWV RX8 80 RX8 yX8_finding cX8_finding 3 (some .int) 1 := ⟨⟨uw128, uw129, uw130, uw131, uw132⟩, by decide +kernel⟩
theorem kv_X8_99 : xWV RX8 99 RX1 yX1_areTwo cX1_areTwo 3 (some .boolean) 2 := ⟨⟨uw133, uw134, uw135, uw32, uw136⟩, by decide +kernel⟩
theorem ks_X8_155 : xWS RX8 155 yX8_isKind cX8_isKind 1 (some .boolean) 1 := ⟨⟨uw137, uw138, uw139, uw140⟩, by decide +kernel⟩
theorem kf_X8_159 : xWF RX8 159 1 5 RX1 TX1 10 := ⟨inUX1, rfl, by decide, uw141⟩
theorem kv_X8_171 : xWV RX8 171 RX3 yX3_has cX3_has 2 (some .boolean) 1 := ⟨⟨uw142, uw143, uw144, uw70, uw145⟩, by decide +kernel⟩
theorem kf_X8_229 : xWF RX8 229 1 7 RX1 TX1 10 := ⟨inUX1, rfl, by decide, uw146⟩
theorem kv_X8_150 : xWV RX8 150 RX0 yX0_loopSet cX0_loopSet 4 (some .int) 0 := ⟨⟨uw147, uw148, uw149, uw48, uw150⟩, by decide +kernel⟩
theorem kv_X8_128 : xWV RX8 128 RX8 yX8_isLooped cX8_isLooped 1 (some .boolean) 0 := ⟨⟨uw151, uw152, uw153, uw131, uw154⟩, by decide +kernel⟩
theorem kv_X8_197 : xWV RX8 197 RX0 yX0_homeOf cX0_homeOf 6 (some .int) 1 := ⟨⟨uw155, uw46, uw47, uw48, uw49⟩, by decide +kernel⟩
theorem kv_X8_263 : xWV RX8 263 RX0 yX0_leastTrip cX0_leastTrip 3 (some .int) 1 := ⟨⟨uw157, uw158, uw159, uw48, uw160⟩, by decide +kernel⟩
theorem kf_X8_46 : xWF RX8 46 8 7 RX8 TX8 12 := ⟨inUX8, rfl, by decide, uw162⟩
theorem kv_X8_209 : xWV RX8 209 RX5 yX5_climb cX5_climb 3 none 1 := ⟨⟨uw163, uw164, uw165, uw166, uw167⟩, by decide +kernel⟩
theorem kv_X8_212 : xWV RX8 212 RX5 yX5_doFit cX5_doFit 4 (some .boolean) 1 := ⟨⟨uw168, uw169, uw170, uw166, uw171⟩, by decide +kernel⟩
theorem ks_X8_226 : xWS RX8 226 yX5_mostOffPaper cX5_mostOffPaper 4 (some .int) 1 := ⟨⟨uw172, uw173, uw174, uw175⟩, by decide +kernel⟩
theorem kf_X8_53 : xWF RX8 53 8 8 RX8 TX8 12 := ⟨inUX8, rfl, by decide, uw176⟩
theorem kv_X8_238 : xWV RX8 238 RX2 yX2_learnIn cX2_learnIn 5 (some .int) 1 := ⟨⟨uw177, uw178, uw179, uw180, uw181⟩, by decide +kernel⟩
theorem kf_X8_19 : xWF RX8 19 8 2 RX8 TX8 12 := ⟨inUX8, rfl, by decide, uw182⟩
theorem kv_X8_241 : xWV RX8 241 RX1 yX1_become cX1_become 2 none 1 := ⟨⟨uw183, uw184, uw185, uw32, uw186⟩, by decide +kernel⟩
theorem kf_X8_244 : xWF RX8 244 2 0 RX2 TX2 2 := ⟨inUX2, rfl, by decide, uw187⟩
theorem kv_X8_256 : xWV RX8 256 RX1 yX1_widestWay cX1_widestWay 4 (some .int) 0 := ⟨⟨uw188, uw189, uw190, uw32, uw191⟩, by decide +kernel⟩
theorem kv_X8_272 : xWV RX8 272 RX1 yX1_hollowSet cX1_hollowSet 5 (some .int) 0 := ⟨⟨uw192, uw193, uw194, uw32, uw195⟩, by decide +kernel⟩
theorem kf_X8_60 : xWF RX8 60 8 9 RX8 TX8 12 := ⟨inUX8, rfl, by decide, uw196⟩
theorem kf_X8_275 : xWF RX8 275 7 0 RX7 TX7 7 := ⟨inUX7, rfl, by decide, uw197⟩
theorem kv_X8_282 : xWV RX8 282 RX7 yX7_tellTo cX7_tellTo 3 (some .int) 1 := ⟨⟨uw198, uw199, uw200, uw89, uw201⟩, by decide +kernel⟩
theorem kf_X8_16 : xWF RX8 16 8 1 RX8 TX8 12 := ⟨inUX8, rfl, by decide, uw202⟩
theorem kf_X8_22 : xWF RX8 22 8 3 RX8 TX8 12 := ⟨inUX8, rfl, by decide, uw203⟩
end
section
set_option maxHeartbeats 4000000 in
set_option maxRecDepth 100000 in
theorem c_X8_isWithin (l : Launch) (D : va_G) (cI cJ cZ cS : ClassId) (sa : Nat → Nat) (sz : Nat) (p0 : Int32) (p1 : Int32) (p2 : Int32) : Met l yX8_isWithin (Cond.code yX8_isWithin cX8_isWithin 3 (some .boolean) :: wsU) ({ frames := 0, cells := 0, slots := 0, locals := 0 }) (va_Pc [.int p0, .int p1, .int p2] (XW D (xT cI cJ cZ cS) sa [] sz)) (vp_Si (fun r : Int32 => (r = 1 ∧ (¬ p0 < p1) ∧ (¬ p2 < p0)) ∨ (r = 0 ∧ (p0 < p1 ∨ p2 < p0)))) 0 0 (fun _ => False) := by
  refine xh (by decide) (Nat.le_of_ble_eq_true rfl) ?_
  intro p e s m below meth c ls hF hr hlk hin hsz hP hK hD hN hl
  have hF : CallFix p m c cX8_isWithin 3 s _ _ RX8 := hF
  have hx := hF.1
  have hb := hF.2.1
  have hml := hF.2.2.1
  have hown := hF.2.2.2.1
  have hu : ∀ w ∈ wsU, w.before _ s = true := fun w h => hF.2.2.2.2 w (List.mem_cons_of_mem _ h)
  have hl : lv_has ls 3 [(0, .int p0), (1, .int p1), (2, .int p2)] := hl
  refine lv_iload_n hx hb dX8_isWithin_0 rfl (lv_at hl 0 rfl) ?_
  refine lv_iload_n hx hb dX8_isWithin_1 rfl (lv_at hl 1 rfl) ?_
  refine lv_icmp_lt (tgt := 14) hx hb dX8_isWithin_2 (by decide) (fun c_1 => ?_) (fun c_1 => ?_)
  · skip
    refine lv_iconst (v := 0) hx hb dX8_isWithin_14 (by decide) ?_
    exact W.zret (v := 0) hx hb hr rfl (fun t ht hW => ⟨0, rfl, (by first | exact Or.inl ⟨rfl, (by first | assumption | exact Or.inl (by assumption) | exact Or.inr (by assumption)), (by first | assumption | exact Or.inl (by assumption) | exact Or.inr (by assumption))⟩ | exact Or.inr (⟨rfl, (by first | assumption | exact Or.inl (by assumption) | exact Or.inr (by assumption))⟩)), ht⟩) (fun q h => by cases h) dX8_isWithin_15 hlk
  · skip
    refine lv_iload_n hx hb dX8_isWithin_5 rfl (lv_at hl 0 rfl) ?_
    refine lv_iload_n hx hb dX8_isWithin_6 rfl (lv_at hl 2 rfl) ?_
    refine lv_icmp_gt (tgt := 14) hx hb dX8_isWithin_7 (by decide) (fun c_2 => ?_) (fun c_2 => ?_)
    · skip
      refine lv_iconst (v := 0) hx hb dX8_isWithin_14 (by decide) ?_
      exact W.zret (v := 0) hx hb hr rfl (fun t ht hW => ⟨0, rfl, (by first | exact Or.inl ⟨rfl, (by first | assumption | exact Or.inl (by assumption) | exact Or.inr (by assumption)), (by first | assumption | exact Or.inl (by assumption) | exact Or.inr (by assumption))⟩ | exact Or.inr (⟨rfl, (by first | assumption | exact Or.inl (by assumption) | exact Or.inr (by assumption))⟩)), ht⟩) (fun q h => by cases h) dX8_isWithin_15 hlk
    · skip
      refine lv_iconst (v := 1) hx hb dX8_isWithin_10 (by decide) ?_
      refine lv_goto (tgt := 15) hx hb dX8_isWithin_11 (by decide) ?_
      exact W.zret (v := 1) hx hb hr rfl (fun t ht hW => ⟨1, rfl, (by first | exact Or.inl ⟨rfl, (by first | assumption | exact Or.inl (by assumption) | exact Or.inr (by assumption)), (by first | assumption | exact Or.inl (by assumption) | exact Or.inr (by assumption))⟩ | exact Or.inr (⟨rfl, (by first | assumption | exact Or.inl (by assumption) | exact Or.inr (by assumption))⟩)), ht⟩) (fun q h => by cases h) dX8_isWithin_15 hlk
set_option maxHeartbeats 4000000 in
set_option maxRecDepth 100000 in
theorem c_X8_isKind (l : Launch) (D : va_G) (cI cJ cZ cS : ClassId) (sa : Nat → Nat) (sz : Nat) (p0 : Int32) : Met l yX8_isKind (Cond.code yX8_isKind cX8_isKind 1 (some .boolean) :: wsU) ({ frames := 1, cells := 0, slots := 0, locals := 22 }) (va_Pc [.int p0] (XW D (xT cI cJ cZ cS) sa [] sz)) (vp_Si (fun r : Int32 => (r = 1 ∧ (¬ p0 < 0) ∧ (¬ 6 < p0)) ∨ (r = 0 ∧ (p0 < 0 ∨ 6 < p0)))) 0 0 (fun _ => False) := by
  refine xh (by decide) (Nat.le_of_ble_eq_true rfl) ?_
  intro p e s m below meth c ls hF hr hlk hin hsz hP hK hD hN hl
  have hF : CallFix p m c cX8_isKind 1 s _ _ RX8 := hF
  have hx := hF.1
  have hb := hF.2.1
  have hml := hF.2.2.1
  have hown := hF.2.2.2.1
  have hu : ∀ w ∈ wsU, w.before _ s = true := fun w h => hF.2.2.2.2 w (List.mem_cons_of_mem _ h)
  have hl : lv_has ls 1 [(0, .int p0)] := hl
  refine lv_iload_n hx hb dX8_isKind_0 rfl (lv_at hl 0 rfl) ?_
  refine lv_iconst (v := 0) hx hb dX8_isKind_1 (by decide) ?_
  refine lv_bipush (v := 6) hx hb dX8_isKind_2 (by decide) ?_
  refine xc_Sr hF (c_X8_isWithin l D cI cJ cZ cS sa s.heap.size p0 0 6 ) ks_X8_91 ⟨rfl, rfl, Nat.le_of_ble_eq_true rfl, Nat.le_of_ble_eq_true rfl⟩ ⟨Nat.le_of_ble_eq_true rfl, Nat.le_of_ble_eq_true rfl⟩ hK hN hP hD [] rfl rfl rfl hl.1 rfl (Nat.le_of_ble_eq_true rfl) dX8_isKind_4 (fun r_1 hw_r_1 => ?_)
  rcases hw_r_1 with ⟨rfl, h_2, h_3⟩ | ⟨rfl, h_4⟩
  · skip
    exact W.zret (v := 1) hx hb hr rfl (fun t ht hW => ⟨1, rfl, (by first | exact Or.inl ⟨rfl, (by first | assumption | exact Or.inl (by assumption) | exact Or.inr (by assumption)), (by first | assumption | exact Or.inl (by assumption) | exact Or.inr (by assumption))⟩ | exact Or.inr (⟨rfl, (by first | assumption | exact Or.inl (by assumption) | exact Or.inr (by assumption))⟩)), ht⟩) (fun q h => by cases h) dX8_isKind_7 hlk
  · skip
    exact W.zret (v := 0) hx hb hr rfl (fun t ht hW => ⟨0, rfl, (by first | exact Or.inl ⟨rfl, (by first | assumption | exact Or.inl (by assumption) | exact Or.inr (by assumption)), (by first | assumption | exact Or.inl (by assumption) | exact Or.inr (by assumption))⟩ | exact Or.inr (⟨rfl, (by first | assumption | exact Or.inl (by assumption) | exact Or.inr (by assumption))⟩)), ht⟩) (fun q h => by cases h) dX8_isKind_7 hlk
set_option maxHeartbeats 4000000 in
set_option maxRecDepth 100000 in
theorem c_X8_isSheet (l : Launch) (D : va_G) (cI cJ cZ cS : ClassId) (sa : Nat → Nat) (sz : Nat) (p0 : Int32) : Met l yX8_isSheet (Cond.code yX8_isSheet cX8_isSheet 1 (some .boolean) :: wsU) ({ frames := 1, cells := 0, slots := 0, locals := 22 }) (va_Pc [.int p0] (XW D (xT cI cJ cZ cS) sa [] sz)) (vp_Si (fun r : Int32 => (r = 1 ∧ (¬ p0 < 0) ∧ (¬ 3 < p0)) ∨ (r = 0 ∧ (p0 < 0 ∨ 3 < p0)))) 0 0 (fun _ => False) := by
  refine xh (by decide) (Nat.le_of_ble_eq_true rfl) ?_
  intro p e s m below meth c ls hF hr hlk hin hsz hP hK hD hN hl
  have hF : CallFix p m c cX8_isSheet 1 s _ _ RX8 := hF
  have hx := hF.1
  have hb := hF.2.1
  have hml := hF.2.2.1
  have hown := hF.2.2.2.1
  have hu : ∀ w ∈ wsU, w.before _ s = true := fun w h => hF.2.2.2.2 w (List.mem_cons_of_mem _ h)
  have hl : lv_has ls 1 [(0, .int p0)] := hl
  refine lv_iload_n hx hb dX8_isSheet_0 rfl (lv_at hl 0 rfl) ?_
  refine lv_iconst (v := 0) hx hb dX8_isSheet_1 (by decide) ?_
  refine lv_iconst (v := 3) hx hb dX8_isSheet_2 (by decide) ?_
  refine xc_Sr hF (c_X8_isWithin l D cI cJ cZ cS sa s.heap.size p0 0 3 ) ks_X8_91 ⟨rfl, rfl, Nat.le_of_ble_eq_true rfl, Nat.le_of_ble_eq_true rfl⟩ ⟨Nat.le_of_ble_eq_true rfl, Nat.le_of_ble_eq_true rfl⟩ hK hN hP hD [] rfl rfl rfl hl.1 rfl (Nat.le_of_ble_eq_true rfl) dX8_isSheet_3 (fun r_1 hw_r_1 => ?_)
  rcases hw_r_1 with ⟨rfl, h_2, h_3⟩ | ⟨rfl, h_4⟩
  · skip
    exact W.zret (v := 1) hx hb hr rfl (fun t ht hW => ⟨1, rfl, (by first | exact Or.inl ⟨rfl, (by first | assumption | exact Or.inl (by assumption) | exact Or.inr (by assumption)), (by first | assumption | exact Or.inl (by assumption) | exact Or.inr (by assumption))⟩ | exact Or.inr (⟨rfl, (by first | assumption | exact Or.inl (by assumption) | exact Or.inr (by assumption))⟩)), ht⟩) (fun q h => by cases h) dX8_isSheet_6 hlk
  · skip
    exact W.zret (v := 0) hx hb hr rfl (fun t ht hW => ⟨0, rfl, (by first | exact Or.inl ⟨rfl, (by first | assumption | exact Or.inl (by assumption) | exact Or.inr (by assumption)), (by first | assumption | exact Or.inl (by assumption) | exact Or.inr (by assumption))⟩ | exact Or.inr (⟨rfl, (by first | assumption | exact Or.inl (by assumption) | exact Or.inr (by assumption))⟩)), ht⟩) (fun q h => by cases h) dX8_isSheet_6 hlk
set_option maxHeartbeats 4000000 in
set_option maxRecDepth 100000 in
theorem c_X8_finding_B (l : Launch) (D : va_G) (cI cJ cZ cS : ClassId) (sa : Nat → Nat) (sz : Nat) (h0 : Nat) (qh : Nat) (qk : Nat) (qd : Nat) (qa : Nat) (qm : Nat) (qs : Nat) (qp : Nat) (ql : Nat) (qt : Nat) (qz : Nat) (qf : Nat) (b0 : Int32) (f : Nat → Int32) : Met l yX8_finding (Cond.code yX8_finding cX8_finding 3 (some .int) :: wsU) ({ frames := 0, cells := 0, slots := 0, locals := 0 }) (va_Pc [.ref h0, .int (-1000000001)] (XW D (xT cI cJ cZ cS) sa [(h0, .inr (8, [.ref qh, .ref qk, .ref qd, .int b0, .ref qa, .ref qm, .ref qs, .ref qp, .ref ql, .ref qt, .ref qz, .ref qf])), (qf, .inl (cI, 7, .inl f))] sz)) (XQi (fun (r : Int32) (_ : Unit) => r = (-1000000001)) D (fun _ : Unit => []) (va_A [(h0, .inr (8, [.ref qh, .ref qk, .ref qd, .int b0, .ref qa, .ref qm, .ref qs, .ref qp, .ref ql, .ref qt, .ref qz, .ref qf])), (qf, .inl (cI, 7, .inl f))] sz)) 0 0 (va_A [(h0, .inr (8, [.ref qh, .ref qk, .ref qd, .int b0, .ref qa, .ref qm, .ref qs, .ref qp, .ref ql, .ref qt, .ref qz, .ref qf])), (qf, .inl (cI, 7, .inl f))] sz) := by
  refine xhw (QA := fun A => XQi (fun (r : Int32) (_ : Unit) => r = (-1000000001)) D (fun _ : Unit => []) A) (by decide) (Nat.le_of_ble_eq_true rfl) ?_
  intro p e s m below meth c ls A hF hr hlk hin hsz hP hK hD hN hA hS hl
  have hF : CallFix p m c cX8_finding 3 s _ _ RX8 := hF
  have hx := hF.1
  have hb := hF.2.1
  have hml := hF.2.2.1
  have hown := hF.2.2.2.1
  have hu : ∀ w ∈ wsU, w.before _ s = true := fun w h => hF.2.2.2.2 w (List.mem_cons_of_mem _ h)
  have hl : lv_has ls 3 [(0, .ref h0), (1, .int (-1000000001))] := hl
  refine lv_ldc (v := (-1000000001)) hx hb hown (hu _ uw4) dX8_finding_0 ?_
  refine lv_iload_n hx hb dX8_finding_2 rfl (lv_at hl 1 rfl) ?_
  refine lv_isub hx hb dX8_finding_3 ?_
  refine xl_i (y := 0) (by decide) ?_
  refine lv_istore_n (lv' := [(2, .int 0), (0, .ref h0), (1, .int (-1000000001))]) hx hb dX8_finding_4 rfl hl (by decide) rfl (fun ls hl => ?_)
  refine lv_iload_n hx hb dX8_finding_5 rfl (lv_at hl 0 rfl) ?_
  refine lv_if_lt (tgt := 25) hx hb dX8_finding_6 (by decide) (fun c_1 => absurd c_1 (by decide)) (fun c_1 => ?_)
  refine lv_iload_n hx hb dX8_finding_9 rfl (lv_at hl 0 rfl) ?_
  refine lv_bipush (v := 7) hx hb dX8_finding_10 (by decide) ?_
  refine lv_icmp_ge (tgt := 25) hx hb dX8_finding_12 (by decide) (fun c_2 => absurd c_2 (by decide)) (fun c_2 => ?_)
  refine lv_aload_n hx hb dX8_finding_15 rfl (lv_at hl 1 rfl) ?_
  refine xg hF kf_X8_70 hK hP 0 rfl rfl dX8_finding_16 ?_
  refine lv_iload_n hx hb dX8_finding_19 rfl (lv_at hl 0 rfl) ?_
  refine lv_dup2_11 hx hb dX8_finding_20 rfl rfl ?_
  refine va_iald hx hb hK hP 1 0 rfl rfl (xin 0 7 (by decide) (by decide)) dX8_finding_21 ?_
  refine xl_i (y := f 0) (congrArg f rfl) ?_
  refine lv_iconst (v := 1) hx hb dX8_finding_22 (by decide) ?_
  refine lv_iadd hx hb dX8_finding_23 ?_
  refine va_iast hx hb hK hP hD hS 1 0 rfl rfl (xin 0 7 (by decide) (by decide)) dX8_finding_24 (fun H locs hP hD hS => ?_)
  obtain ⟨f_3, ef_3⟩ : ∃ g, g = upd f (0 : Int32).toNatClampNeg ((f 0) + 1) := ⟨_, rfl⟩
  rw [← ef_3] at hP hD
  have hP : va_P D vwCl [(h0, .inr (8, [.ref qh, .ref qk, .ref qd, .int b0, .ref qa, .ref qm, .ref qs, .ref qp, .ref ql, .ref qt, .ref qz, .ref qf])), (qf, .inl (cI, 7, .inl f_3))] H := hP
  have hD : va_D A [(h0, .inr (8, [.ref qh, .ref qk, .ref qd, .int b0, .ref qa, .ref qm, .ref qs, .ref qp, .ref ql, .ref qt, .ref qz, .ref qf])), (qf, .inl (cI, 7, .inl f_3))] := hD
  refine lv_iload_n hx hb dX8_finding_25 rfl (lv_at hl 2 rfl) ?_
  exact W.iret (v := (-1000000001)) hx hb hr (fun t ht hW => ⟨⟨(-1000000001), (), rfl, rfl, by rw [ht]; exact hP.sub [] rfl, hD.sub [] (by decide) rfl⟩, hS.F ht⟩) hS.2.2 dX8_finding_26 hlk
set_option maxHeartbeats 4000000 in
set_option maxRecDepth 100000 in
theorem c_X8_finding_N (l : Launch) (D : va_G) (cI cJ cZ cS : ClassId) (sa : Nat → Nat) (sz : Nat) (h0 : Nat) (qh : Nat) (qk : Nat) (qd : Nat) (qa : Nat) (qm : Nat) (qs : Nat) (qp : Nat) (ql : Nat) (qt : Nat) (qz : Nat) (qf : Nat) (b0 : Int32) (f : Nat → Int32) : Met l yX8_finding (Cond.code yX8_finding cX8_finding 3 (some .int) :: wsU) ({ frames := 0, cells := 0, slots := 0, locals := 0 }) (va_Pc [.ref h0, .int (-1000000004)] (XW D (xT cI cJ cZ cS) sa [(h0, .inr (8, [.ref qh, .ref qk, .ref qd, .int b0, .ref qa, .ref qm, .ref qs, .ref qp, .ref ql, .ref qt, .ref qz, .ref qf])), (qf, .inl (cI, 7, .inl f))] sz)) (XQi (fun (r : Int32) (_ : Unit) => r = (-1000000004)) D (fun _ : Unit => []) (va_A [(h0, .inr (8, [.ref qh, .ref qk, .ref qd, .int b0, .ref qa, .ref qm, .ref qs, .ref qp, .ref ql, .ref qt, .ref qz, .ref qf])), (qf, .inl (cI, 7, .inl f))] sz)) 0 0 (va_A [(h0, .inr (8, [.ref qh, .ref qk, .ref qd, .int b0, .ref qa, .ref qm, .ref qs, .ref qp, .ref ql, .ref qt, .ref qz, .ref qf])), (qf, .inl (cI, 7, .inl f))] sz) := by
  refine xhw (QA := fun A => XQi (fun (r : Int32) (_ : Unit) => r = (-1000000004)) D (fun _ : Unit => []) A) (by decide) (Nat.le_of_ble_eq_true rfl) ?_
  intro p e s m below meth c ls A hF hr hlk hin hsz hP hK hD hN hA hS hl
  have hF : CallFix p m c cX8_finding 3 s _ _ RX8 := hF
  have hx := hF.1
  have hb := hF.2.1
  have hml := hF.2.2.1
  have hown := hF.2.2.2.1
  have hu : ∀ w ∈ wsU, w.before _ s = true := fun w h => hF.2.2.2.2 w (List.mem_cons_of_mem _ h)
  have hl : lv_has ls 3 [(0, .ref h0), (1, .int (-1000000004))] := hl
  refine lv_ldc (v := (-1000000001)) hx hb hown (hu _ uw4) dX8_finding_0 ?_
  refine lv_iload_n hx hb dX8_finding_2 rfl (lv_at hl 1 rfl) ?_
  refine lv_isub hx hb dX8_finding_3 ?_
  refine xl_i (y := 3) (by decide) ?_
  refine lv_istore_n (lv' := [(2, .int 3), (0, .ref h0), (1, .int (-1000000004))]) hx hb dX8_finding_4 rfl hl (by decide) rfl (fun ls hl => ?_)
  refine lv_iload_n hx hb dX8_finding_5 rfl (lv_at hl 0 rfl) ?_
  refine lv_if_lt (tgt := 25) hx hb dX8_finding_6 (by decide) (fun c_1 => absurd c_1 (by decide)) (fun c_1 => ?_)
  refine lv_iload_n hx hb dX8_finding_9 rfl (lv_at hl 0 rfl) ?_
  refine lv_bipush (v := 7) hx hb dX8_finding_10 (by decide) ?_
  refine lv_icmp_ge (tgt := 25) hx hb dX8_finding_12 (by decide) (fun c_2 => absurd c_2 (by decide)) (fun c_2 => ?_)
  refine lv_aload_n hx hb dX8_finding_15 rfl (lv_at hl 1 rfl) ?_
  refine xg hF kf_X8_70 hK hP 0 rfl rfl dX8_finding_16 ?_
  refine lv_iload_n hx hb dX8_finding_19 rfl (lv_at hl 0 rfl) ?_
  refine lv_dup2_11 hx hb dX8_finding_20 rfl rfl ?_
  refine va_iald hx hb hK hP 1 0 rfl rfl (xin 3 7 (by decide) (by decide)) dX8_finding_21 ?_
  refine xl_i (y := f 3) (congrArg f rfl) ?_
  refine lv_iconst (v := 1) hx hb dX8_finding_22 (by decide) ?_
  refine lv_iadd hx hb dX8_finding_23 ?_
  refine va_iast hx hb hK hP hD hS 1 0 rfl rfl (xin 3 7 (by decide) (by decide)) dX8_finding_24 (fun H locs hP hD hS => ?_)
  obtain ⟨f_3, ef_3⟩ : ∃ g, g = upd f (3 : Int32).toNatClampNeg ((f 3) + 1) := ⟨_, rfl⟩
  rw [← ef_3] at hP hD
  have hP : va_P D vwCl [(h0, .inr (8, [.ref qh, .ref qk, .ref qd, .int b0, .ref qa, .ref qm, .ref qs, .ref qp, .ref ql, .ref qt, .ref qz, .ref qf])), (qf, .inl (cI, 7, .inl f_3))] H := hP
  have hD : va_D A [(h0, .inr (8, [.ref qh, .ref qk, .ref qd, .int b0, .ref qa, .ref qm, .ref qs, .ref qp, .ref ql, .ref qt, .ref qz, .ref qf])), (qf, .inl (cI, 7, .inl f_3))] := hD
  refine lv_iload_n hx hb dX8_finding_25 rfl (lv_at hl 2 rfl) ?_
  exact W.iret (v := (-1000000004)) hx hb hr (fun t ht hW => ⟨⟨(-1000000004), (), rfl, rfl, by rw [ht]; exact hP.sub [] rfl, hD.sub [] (by decide) rfl⟩, hS.F ht⟩) hS.2.2 dX8_finding_26 hlk
set_option maxHeartbeats 4000000 in
set_option maxRecDepth 100000 in
theorem c_X8_finding_M (l : Launch) (D : va_G) (cI cJ cZ cS : ClassId) (sa : Nat → Nat) (sz : Nat) (h0 : Nat) (qh : Nat) (qk : Nat) (qd : Nat) (qa : Nat) (qm : Nat) (qs : Nat) (qp : Nat) (ql : Nat) (qt : Nat) (qz : Nat) (qf : Nat) (b0 : Int32) (f : Nat → Int32) : Met l yX8_finding (Cond.code yX8_finding cX8_finding 3 (some .int) :: wsU) ({ frames := 0, cells := 0, slots := 0, locals := 0 }) (va_Pc [.ref h0, .int (-1000000006)] (XW D (xT cI cJ cZ cS) sa [(h0, .inr (8, [.ref qh, .ref qk, .ref qd, .int b0, .ref qa, .ref qm, .ref qs, .ref qp, .ref ql, .ref qt, .ref qz, .ref qf])), (qf, .inl (cI, 7, .inl f))] sz)) (XQi (fun (r : Int32) (_ : Unit) => r = (-1000000006)) D (fun _ : Unit => []) (va_A [(h0, .inr (8, [.ref qh, .ref qk, .ref qd, .int b0, .ref qa, .ref qm, .ref qs, .ref qp, .ref ql, .ref qt, .ref qz, .ref qf])), (qf, .inl (cI, 7, .inl f))] sz)) 0 0 (va_A [(h0, .inr (8, [.ref qh, .ref qk, .ref qd, .int b0, .ref qa, .ref qm, .ref qs, .ref qp, .ref ql, .ref qt, .ref qz, .ref qf])), (qf, .inl (cI, 7, .inl f))] sz) := by
  refine xhw (QA := fun A => XQi (fun (r : Int32) (_ : Unit) => r = (-1000000006)) D (fun _ : Unit => []) A) (by decide) (Nat.le_of_ble_eq_true rfl) ?_
  intro p e s m below meth c ls A hF hr hlk hin hsz hP hK hD hN hA hS hl
  have hF : CallFix p m c cX8_finding 3 s _ _ RX8 := hF
  have hx := hF.1
  have hb := hF.2.1
  have hml := hF.2.2.1
  have hown := hF.2.2.2.1
  have hu : ∀ w ∈ wsU, w.before _ s = true := fun w h => hF.2.2.2.2 w (List.mem_cons_of_mem _ h)
  have hl : lv_has ls 3 [(0, .ref h0), (1, .int (-1000000006))] := hl
  refine lv_ldc (v := (-1000000001)) hx hb hown (hu _ uw4) dX8_finding_0 ?_
  refine lv_iload_n hx hb dX8_finding_2 rfl (lv_at hl 1 rfl) ?_
  refine lv_isub hx hb dX8_finding_3 ?_
  refine xl_i (y := 5) (by decide) ?_
  refine lv_istore_n (lv' := [(2, .int 5), (0, .ref h0), (1, .int (-1000000006))]) hx hb dX8_finding_4 rfl hl (by decide) rfl (fun ls hl => ?_)
  refine lv_iload_n hx hb dX8_finding_5 rfl (lv_at hl 0 rfl) ?_
  refine lv_if_lt (tgt := 25) hx hb dX8_finding_6 (by decide) (fun c_1 => absurd c_1 (by decide)) (fun c_1 => ?_)
  refine lv_iload_n hx hb dX8_finding_9 rfl (lv_at hl 0 rfl) ?_
  refine lv_bipush (v := 7) hx hb dX8_finding_10 (by decide) ?_
  refine lv_icmp_ge (tgt := 25) hx hb dX8_finding_12 (by decide) (fun c_2 => absurd c_2 (by decide)) (fun c_2 => ?_)
  refine lv_aload_n hx hb dX8_finding_15 rfl (lv_at hl 1 rfl) ?_
  refine xg hF kf_X8_70 hK hP 0 rfl rfl dX8_finding_16 ?_
  refine lv_iload_n hx hb dX8_finding_19 rfl (lv_at hl 0 rfl) ?_
  refine lv_dup2_11 hx hb dX8_finding_20 rfl rfl ?_
  refine va_iald hx hb hK hP 1 0 rfl rfl (xin 5 7 (by decide) (by decide)) dX8_finding_21 ?_
  refine xl_i (y := f 5) (congrArg f rfl) ?_
  refine lv_iconst (v := 1) hx hb dX8_finding_22 (by decide) ?_
  refine lv_iadd hx hb dX8_finding_23 ?_
  refine va_iast hx hb hK hP hD hS 1 0 rfl rfl (xin 5 7 (by decide) (by decide)) dX8_finding_24 (fun H locs hP hD hS => ?_)
  obtain ⟨f_3, ef_3⟩ : ∃ g, g = upd f (5 : Int32).toNatClampNeg ((f 5) + 1) := ⟨_, rfl⟩
  rw [← ef_3] at hP hD
  have hP : va_P D vwCl [(h0, .inr (8, [.ref qh, .ref qk, .ref qd, .int b0, .ref qa, .ref qm, .ref qs, .ref qp, .ref ql, .ref qt, .ref qz, .ref qf])), (qf, .inl (cI, 7, .inl f_3))] H := hP
  have hD : va_D A [(h0, .inr (8, [.ref qh, .ref qk, .ref qd, .int b0, .ref qa, .ref qm, .ref qs, .ref qp, .ref ql, .ref qt, .ref qz, .ref qf])), (qf, .inl (cI, 7, .inl f_3))] := hD
  refine lv_iload_n hx hb dX8_finding_25 rfl (lv_at hl 2 rfl) ?_
  exact W.iret (v := (-1000000006)) hx hb hr (fun t ht hW => ⟨⟨(-1000000006), (), rfl, rfl, by rw [ht]; exact hP.sub [] rfl, hD.sub [] (by decide) rfl⟩, hS.F ht⟩) hS.2.2 dX8_finding_26 hlk
set_option maxHeartbeats 4000000 in
set_option maxRecDepth 100000 in
theorem c_X8_finding_S (l : Launch) (D : va_G) (cI cJ cZ cS : ClassId) (sa : Nat → Nat) (sz : Nat) (h0 : Nat) (qh : Nat) (qk : Nat) (qd : Nat) (qa : Nat) (qm : Nat) (qs : Nat) (qp : Nat) (ql : Nat) (qt : Nat) (qz : Nat) (qf : Nat) (b0 : Int32) (f : Nat → Int32) : Met l yX8_finding (Cond.code yX8_finding cX8_finding 3 (some .int) :: wsU) ({ frames := 0, cells := 0, slots := 0, locals := 0 }) (va_Pc [.ref h0, .int (-1000000007)] (XW D (xT cI cJ cZ cS) sa [(h0, .inr (8, [.ref qh, .ref qk, .ref qd, .int b0, .ref qa, .ref qm, .ref qs, .ref qp, .ref ql, .ref qt, .ref qz, .ref qf])), (qf, .inl (cI, 7, .inl f))] sz)) (XQi (fun (r : Int32) (_ : Unit) => r = (-1000000007)) D (fun _ : Unit => []) (va_A [(h0, .inr (8, [.ref qh, .ref qk, .ref qd, .int b0, .ref qa, .ref qm, .ref qs, .ref qp, .ref ql, .ref qt, .ref qz, .ref qf])), (qf, .inl (cI, 7, .inl f))] sz)) 0 0 (va_A [(h0, .inr (8, [.ref qh, .ref qk, .ref qd, .int b0, .ref qa, .ref qm, .ref qs, .ref qp, .ref ql, .ref qt, .ref qz, .ref qf])), (qf, .inl (cI, 7, .inl f))] sz) := by
  refine xhw (QA := fun A => XQi (fun (r : Int32) (_ : Unit) => r = (-1000000007)) D (fun _ : Unit => []) A) (by decide) (Nat.le_of_ble_eq_true rfl) ?_
  intro p e s m below meth c ls A hF hr hlk hin hsz hP hK hD hN hA hS hl
  have hF : CallFix p m c cX8_finding 3 s _ _ RX8 := hF
  have hx := hF.1
  have hb := hF.2.1
  have hml := hF.2.2.1
  have hown := hF.2.2.2.1
  have hu : ∀ w ∈ wsU, w.before _ s = true := fun w h => hF.2.2.2.2 w (List.mem_cons_of_mem _ h)
  have hl : lv_has ls 3 [(0, .ref h0), (1, .int (-1000000007))] := hl
  refine lv_ldc (v := (-1000000001)) hx hb hown (hu _ uw4) dX8_finding_0 ?_
  refine lv_iload_n hx hb dX8_finding_2 rfl (lv_at hl 1 rfl) ?_
  refine lv_isub hx hb dX8_finding_3 ?_
  refine xl_i (y := 6) (by decide) ?_
  refine lv_istore_n (lv' := [(2, .int 6), (0, .ref h0), (1, .int (-1000000007))]) hx hb dX8_finding_4 rfl hl (by decide) rfl (fun ls hl => ?_)
  refine lv_iload_n hx hb dX8_finding_5 rfl (lv_at hl 0 rfl) ?_
  refine lv_if_lt (tgt := 25) hx hb dX8_finding_6 (by decide) (fun c_1 => absurd c_1 (by decide)) (fun c_1 => ?_)
  refine lv_iload_n hx hb dX8_finding_9 rfl (lv_at hl 0 rfl) ?_
  refine lv_bipush (v := 7) hx hb dX8_finding_10 (by decide) ?_
  refine lv_icmp_ge (tgt := 25) hx hb dX8_finding_12 (by decide) (fun c_2 => absurd c_2 (by decide)) (fun c_2 => ?_)
  refine lv_aload_n hx hb dX8_finding_15 rfl (lv_at hl 1 rfl) ?_
  refine xg hF kf_X8_70 hK hP 0 rfl rfl dX8_finding_16 ?_
  refine lv_iload_n hx hb dX8_finding_19 rfl (lv_at hl 0 rfl) ?_
  refine lv_dup2_11 hx hb dX8_finding_20 rfl rfl ?_
  refine va_iald hx hb hK hP 1 0 rfl rfl (xin 6 7 (by decide) (by decide)) dX8_finding_21 ?_
  refine xl_i (y := f 6) (congrArg f rfl) ?_
  refine lv_iconst (v := 1) hx hb dX8_finding_22 (by decide) ?_
  refine lv_iadd hx hb dX8_finding_23 ?_
  refine va_iast hx hb hK hP hD hS 1 0 rfl rfl (xin 6 7 (by decide) (by decide)) dX8_finding_24 (fun H locs hP hD hS => ?_)
  obtain ⟨f_3, ef_3⟩ : ∃ g, g = upd f (6 : Int32).toNatClampNeg ((f 6) + 1) := ⟨_, rfl⟩
  rw [← ef_3] at hP hD
  have hP : va_P D vwCl [(h0, .inr (8, [.ref qh, .ref qk, .ref qd, .int b0, .ref qa, .ref qm, .ref qs, .ref qp, .ref ql, .ref qt, .ref qz, .ref qf])), (qf, .inl (cI, 7, .inl f_3))] H := hP
  have hD : va_D A [(h0, .inr (8, [.ref qh, .ref qk, .ref qd, .int b0, .ref qa, .ref qm, .ref qs, .ref qp, .ref ql, .ref qt, .ref qz, .ref qf])), (qf, .inl (cI, 7, .inl f_3))] := hD
  refine lv_iload_n hx hb dX8_finding_25 rfl (lv_at hl 2 rfl) ?_
  exact W.iret (v := (-1000000007)) hx hb hr (fun t ht hW => ⟨⟨(-1000000007), (), rfl, rfl, by rw [ht]; exact hP.sub [] rfl, hD.sub [] (by decide) rfl⟩, hS.F ht⟩) hS.2.2 dX8_finding_26 hlk
set_option maxHeartbeats 4000000 in
set_option maxRecDepth 100000 in
theorem c_X1_isPlace (l : Launch) (D : va_G) (cI cJ cZ cS : ClassId) (sa : Nat → Nat) (sz : Nat) (h0 : Nat) (ae : Nat) (al : Nat) (au : Nat) (ao : Nat) (ar : Nat) (ak : Nat) (aw : Nat) (att : Nat) (ass : Nat) (p0 : Int64) : Met l yX1_isPlace (Cond.code yX1_isPlace cX1_isPlace 3 (some .boolean) :: wsU) ({ frames := 0, cells := 0, slots := 0, locals := 0 }) (va_Pc [.ref h0, .long p0] (XW D (xT cI cJ cZ cS) sa [(h0, .inr (1, [.int 0, .ref ae, .ref al, .ref au, .ref ao, .ref ar, .ref ak, .ref aw, .ref att, .ref ass]))] sz)) (vp_Si (fun r : Int32 => r = 0)) 0 0 (fun _ => False) := by
  refine xh (by decide) (Nat.le_of_ble_eq_true rfl) ?_
  intro p e s m below meth c ls hF hr hlk hin hsz hP hK hD hN hl
  have hF : CallFix p m c cX1_isPlace 3 s _ _ RX1 := hF
  have hx := hF.1
  have hb := hF.2.1
  have hml := hF.2.2.1
  have hown := hF.2.2.2.1
  have hu : ∀ w ∈ wsU, w.before _ s = true := fun w h => hF.2.2.2.2 w (List.mem_cons_of_mem _ h)
  have hl : lv_has ls 3 [(0, .ref h0), (1, .long p0)] := hl
  refine lv_lload_n hx hb dX1_isPlace_0 rfl (lv_at hl 1 rfl) ?_
  refine lv_lconst (v := 0) hx hb dX1_isPlace_1 (by decide) ?_
  refine W.lcmp hx hb dX1_isPlace_2 ?_
  refine lv_if_lt (tgt := 20) hx hb dX1_isPlace_3 (by decide) (fun c_1 => ?_) (fun c_1 => ?_)
  · skip
    refine lv_iconst (v := 0) hx hb dX1_isPlace_20 (by decide) ?_
    exact W.zret (v := 0) hx hb hr rfl (fun t ht hW => ⟨0, rfl, rfl, ht⟩) (fun q h => by cases h) dX1_isPlace_21 hlk
  · skip
    refine lv_lload_n hx hb dX1_isPlace_6 rfl (lv_at hl 1 rfl) ?_
    refine lv_aload_n hx hb dX1_isPlace_7 rfl (lv_at hl 0 rfl) ?_
    refine xg hF kf_X1_9 hK hP 0 rfl rfl dX1_isPlace_8 ?_
    refine lv_i2l (v := 0) hx hb dX1_isPlace_11 (by decide) ?_
    refine W.lcmp hx hb dX1_isPlace_12 ?_
    refine lv_if_ge (tgt := 20) hx hb dX1_isPlace_13 (by decide) (fun c_2 => ?_) (fun c_2 => absurd (xnl c_1) c_2)
    refine lv_iconst (v := 0) hx hb dX1_isPlace_20 (by decide) ?_
    exact W.zret (v := 0) hx hb hr rfl (fun t ht hW => ⟨0, rfl, rfl, ht⟩) (fun q h => by cases h) dX1_isPlace_21 hlk
set_option maxHeartbeats 4000000 in
set_option maxRecDepth 100000 in
theorem c_X1_areTwo (l : Launch) (D : va_G) (cI cJ cZ cS : ClassId) (sa : Nat → Nat) (sz : Nat) (h0 : Nat) (ae : Nat) (al : Nat) (au : Nat) (ao : Nat) (ar : Nat) (ak : Nat) (aw : Nat) (att : Nat) (ass : Nat) (p0 : Int32) (p1 : Int32) : Met l yX1_areTwo (Cond.code yX1_areTwo cX1_areTwo 3 (some .boolean) :: wsU) ({ frames := 1, cells := 0, slots := 0, locals := 22 }) (va_Pc [.ref h0, .int p0, .int p1] (XW D (xT cI cJ cZ cS) sa [(h0, .inr (1, [.int 0, .ref ae, .ref al, .ref au, .ref ao, .ref ar, .ref ak, .ref aw, .ref att, .ref ass]))] sz)) (vp_Si (fun r : Int32 => r = 0)) 0 0 (fun _ => False) := by
  refine xh (by decide) (Nat.le_of_ble_eq_true rfl) ?_
  intro p e s m below meth c ls hF hr hlk hin hsz hP hK hD hN hl
  have hF : CallFix p m c cX1_areTwo 3 s _ _ RX1 := hF
  have hx := hF.1
  have hb := hF.2.1
  have hml := hF.2.2.1
  have hown := hF.2.2.2.1
  have hu : ∀ w ∈ wsU, w.before _ s = true := fun w h => hF.2.2.2.2 w (List.mem_cons_of_mem _ h)
  have hl : lv_has ls 3 [(0, .ref h0), (1, .int p0), (2, .int p1)] := hl
  refine lv_aload_n hx hb dX1_areTwo_0 rfl (lv_at hl 0 rfl) ?_
  refine lv_iload_n hx hb dX1_areTwo_1 rfl (lv_at hl 1 rfl) ?_
  refine lv_i2l (v := p0.toInt64) hx hb dX1_areTwo_2 rfl ?_
  refine xc_Vr hF (c_X1_isPlace l D cI cJ cZ cS sa s.heap.size h0 ae al au ao ar ak aw att ass p0.toInt64 ) kv_X1_57 ⟨rfl, rfl, Nat.le_of_ble_eq_true rfl, Nat.le_of_ble_eq_true rfl⟩ ⟨Nat.le_of_ble_eq_true rfl, Nat.le_of_ble_eq_true rfl⟩ hK hN hP hD [0] rfl rfl 0 rfl rfl rfl rfl hl.1 rfl (Nat.le_of_ble_eq_true rfl) dX1_areTwo_3 (fun r_1 hw_r_1 => ?_)
  subst hw_r_1
  refine lv_if_eq (tgt := 27) hx hb dX1_areTwo_6 (by decide) (fun c_2 => ?_) (fun c_2 => absurd (by decide) c_2)
  refine lv_iconst (v := 0) hx hb dX1_areTwo_27 (by decide) ?_
  exact W.zret (v := 0) hx hb hr rfl (fun t ht hW => ⟨0, rfl, rfl, ht⟩) (fun q h => by cases h) dX1_areTwo_28 hlk
set_option maxHeartbeats 4000000 in
set_option maxRecDepth 100000 in
theorem c_X3_has (l : Launch) (D : va_G) (cI cJ cZ cS : ClassId) (sa : Nat → Nat) (sz : Nat) (h0 : Nat) (an : Nat) (ap : Nat) (p0 : Int32) : Met l yX3_has (Cond.code yX3_has cX3_has 2 (some .boolean) :: wsU) ({ frames := 0, cells := 0, slots := 0, locals := 0 }) (va_Pc [.ref h0, .int p0] (XW D (xT cI cJ cZ cS) sa [(h0, .inr (3, [.int 0, .ref an, .ref ap]))] sz)) (vp_Si (fun r : Int32 => r = 0)) 0 0 (fun _ => False) := by
  refine xh (by decide) (Nat.le_of_ble_eq_true rfl) ?_
  intro p e s m below meth c ls hF hr hlk hin hsz hP hK hD hN hl
  have hF : CallFix p m c cX3_has 2 s _ _ RX3 := hF
  have hx := hF.1
  have hb := hF.2.1
  have hml := hF.2.2.1
  have hown := hF.2.2.2.1
  have hu : ∀ w ∈ wsU, w.before _ s = true := fun w h => hF.2.2.2.2 w (List.mem_cons_of_mem _ h)
  have hl : lv_has ls 2 [(0, .ref h0), (1, .int p0)] := hl
  refine lv_iload_n hx hb dX3_has_0 rfl (lv_at hl 1 rfl) ?_
  refine lv_if_lt (tgt := 16) hx hb dX3_has_1 (by decide) (fun c_1 => ?_) (fun c_1 => ?_)
  · skip
    refine lv_iconst (v := 0) hx hb dX3_has_16 (by decide) ?_
    exact W.zret (v := 0) hx hb hr rfl (fun t ht hW => ⟨0, rfl, rfl, ht⟩) (fun q h => by cases h) dX3_has_17 hlk
  · skip
    refine lv_iload_n hx hb dX3_has_4 rfl (lv_at hl 1 rfl) ?_
    refine lv_aload_n hx hb dX3_has_5 rfl (lv_at hl 0 rfl) ?_
    refine xg hF kf_X3_9 hK hP 0 rfl rfl dX3_has_6 ?_
    refine lv_icmp_ge (tgt := 16) hx hb dX3_has_9 (by decide) (fun c_2 => ?_) (fun c_2 => absurd (xnl c_1) c_2)
    refine lv_iconst (v := 0) hx hb dX3_has_16 (by decide) ?_
    exact W.zret (v := 0) hx hb hr rfl (fun t ht hW => ⟨0, rfl, rfl, ht⟩) (fun q h => by cases h) dX3_has_17 hlk
set_option maxHeartbeats 4000000 in
set_option maxRecDepth 100000 in
theorem c_X1_countWays (l : Launch) (D : va_G) (cI cJ cZ cS : ClassId) (sa : Nat → Nat) (sz : Nat) (h0 : Nat) (ae : Nat) (al : Nat) (au : Nat) (ao : Nat) (ar : Nat) (ak : Nat) (aw : Nat) (att : Nat) (ass : Nat) : Met l yX1_countWays (Cond.code yX1_countWays cX1_countWays 3 (some .int) :: wsU) ({ frames := 0, cells := 0, slots := 0, locals := 0 }) (va_Pc [.ref h0] (XW D (xT cI cJ cZ cS) sa [(h0, .inr (1, [.int 0, .ref ae, .ref al, .ref au, .ref ao, .ref ar, .ref ak, .ref aw, .ref att, .ref ass])), (al, .inl (cI, 100, .inl (fun _ => 0))), (au, .inl (cI, 100, .inl (fun _ => 0))), (ao, .inl (cI, 100, .inl (fun _ => 0)))] sz)) (vp_Si (fun r : Int32 => r = 0)) 0 0 (fun _ => False) := by
  refine xh (by decide) (Nat.le_of_ble_eq_true rfl) ?_
  intro p e s m below meth c ls hF hr hlk hin hsz hP hK hD hN hl
  have hF : CallFix p m c cX1_countWays 3 s _ _ RX1 := hF
  have hx := hF.1
  have hb := hF.2.1
  have hml := hF.2.2.1
  have hown := hF.2.2.2.1
  have hu : ∀ w ∈ wsU, w.before _ s = true := fun w h => hF.2.2.2.2 w (List.mem_cons_of_mem _ h)
  have hl : lv_has ls 3 [(0, .ref h0)] := hl
  refine lv_iconst (v := 0) hx hb dX1_countWays_0 (by decide) ?_
  refine lv_istore_n (lv' := [(1, .int 0), (0, .ref h0)]) hx hb dX1_countWays_1 rfl hl (by decide) rfl (fun ls hl => ?_)
  refine lv_iconst (v := 0) hx hb dX1_countWays_2 (by decide) ?_
  refine lv_istore_n (lv' := [(2, .int 0), (1, .int 0), (0, .ref h0)]) hx hb dX1_countWays_3 rfl hl (by decide) rfl (fun ls hl => ?_)
  suffices loop_2 : ∀ (n k_1 : Nat) (ls : Array Slot), k_1 + n = 100 → lv_has ls 3 [(2, .int (nI (k_1))), (1, .int 0), (0, .ref h0)] → W p l e ({ frames := 0, cells := 0, slots := 0, locals := 0 }) s m ([.ref h0] : List Value).toArray below meth c s.heap [] 0 0 (MQ below (vp_Si (fun r : Int32 => r = 0)) ([.ref h0] : List Value).toArray s 0 0 (fun _ => False)) (F0 m 4 ls []) by
    exact loop_2 100 0  _ (by decide) (lv_sub hl [0, 1, 2] rfl)
  intro n
  induction n with
  | zero =>
    intro k_1  ls hk hl 
    have hk2 : k_1 = 100 := by omega
    subst hk2
    have hl : lv_has ls 3 [(2, .int 100), (1, .int 0), (0, .ref h0)] := hl
    refine lv_iload_n hx hb dX1_countWays_4 rfl (lv_at hl 0 rfl) ?_
    refine lv_bipush (v := 100) hx hb dX1_countWays_5 (by decide) ?_
    refine lv_icmp_ge (tgt := 33) hx hb dX1_countWays_7 (by decide) (fun c_3 => ?_) (fun c_3 => absurd (by decide) c_3)
    refine lv_iload_n hx hb dX1_countWays_33 rfl (lv_at hl 1 rfl) ?_
    exact W.iret (v := 0) hx hb hr (fun t ht hW => ⟨0, rfl, rfl, ht⟩) (fun q h => by cases h) dX1_countWays_34 hlk
  | succ n ih =>
    intro k_1  ls hk hl 
    have hlt_k_1 : k_1 < 100 := by omega
    refine lv_iload_n hx hb dX1_countWays_4 rfl (lv_at hl 0 rfl) ?_
    refine lv_bipush (v := 100) hx hb dX1_countWays_5 (by decide) ?_
    refine lv_icmp_ge (tgt := 33) hx hb dX1_countWays_7 (by decide) (fun c_4 => absurd c_4 (nI_ge hlt_k_1 (by decide))) (fun c_4 => ?_)
    refine lv_iload_n hx hb dX1_countWays_10 rfl (lv_at hl 1 rfl) ?_
    refine lv_aload_n hx hb dX1_countWays_11 rfl (lv_at hl 2 rfl) ?_
    refine xg hF kf_X1_25 hK hP 0 rfl rfl dX1_countWays_12 ?_
    refine lv_iload_n hx hb dX1_countWays_15 rfl (lv_at hl 0 rfl) ?_
    refine va_iald hx hb hK hP 3 0 rfl rfl (vp_in_nI (show k_1 < 100 by omega) (by decide)) dX1_countWays_16 ?_
    refine xl_i (y := 0) rfl ?_
    refine lv_if_ne (tgt := 24) hx hb dX1_countWays_17 (by decide) (fun c_5 => absurd (by decide) c_5) (fun c_5 => ?_)
    refine lv_iconst (v := 0) hx hb dX1_countWays_20 (by decide) ?_
    refine lv_goto (tgt := 25) hx hb dX1_countWays_21 (by decide) ?_
    refine lv_iadd hx hb dX1_countWays_25 ?_
    refine xl_i (y := 0) (by decide) ?_
    refine lv_istore_n (lv' := [(1, .int 0), (2, .int (nI (k_1))), (0, .ref h0)]) hx hb dX1_countWays_26 rfl hl (by decide) rfl (fun ls hl => ?_)
    refine lv_iinc (v := nI (k_1 + 1)) (lv' := [(2, .int (nI (k_1 + 1))), (1, .int 0), (0, .ref h0)]) hx hb dX1_countWays_27 hl (k := 1) rfl (nI_1 (k_1)) (by decide) rfl (fun ls hl => ?_)
    refine lv_goto (tgt := 4) hx hb dX1_countWays_30 (by decide) ?_
    exact ih (k_1 + 1)  _ (by omega) (lv_sub hl [0, 1, 2] rfl)
set_option maxHeartbeats 4000000 in
set_option maxRecDepth 100000 in
theorem c_X1_countUnknown (l : Launch) (D : va_G) (cI cJ cZ cS : ClassId) (sa : Nat → Nat) (sz : Nat) (h0 : Nat) (ae : Nat) (al : Nat) (au : Nat) (ao : Nat) (ar : Nat) (ak : Nat) (aw : Nat) (att : Nat) (ass : Nat) : Met l yX1_countUnknown (Cond.code yX1_countUnknown cX1_countUnknown 3 (some .int) :: wsU) ({ frames := 0, cells := 0, slots := 0, locals := 0 }) (va_Pc [.ref h0] (XW D (xT cI cJ cZ cS) sa [(h0, .inr (1, [.int 0, .ref ae, .ref al, .ref au, .ref ao, .ref ar, .ref ak, .ref aw, .ref att, .ref ass])), (al, .inl (cI, 100, .inl (fun _ => 0))), (au, .inl (cI, 100, .inl (fun _ => 0))), (ao, .inl (cI, 100, .inl (fun _ => 0)))] sz)) (vp_Si (fun r : Int32 => r = 0)) 0 0 (fun _ => False) := by
  refine xh (by decide) (Nat.le_of_ble_eq_true rfl) ?_
  intro p e s m below meth c ls hF hr hlk hin hsz hP hK hD hN hl
  have hF : CallFix p m c cX1_countUnknown 3 s _ _ RX1 := hF
  have hx := hF.1
  have hb := hF.2.1
  have hml := hF.2.2.1
  have hown := hF.2.2.2.1
  have hu : ∀ w ∈ wsU, w.before _ s = true := fun w h => hF.2.2.2.2 w (List.mem_cons_of_mem _ h)
  have hl : lv_has ls 3 [(0, .ref h0)] := hl
  refine lv_iconst (v := 0) hx hb dX1_countUnknown_0 (by decide) ?_
  refine lv_istore_n (lv' := [(1, .int 0), (0, .ref h0)]) hx hb dX1_countUnknown_1 rfl hl (by decide) rfl (fun ls hl => ?_)
  refine lv_iconst (v := 0) hx hb dX1_countUnknown_2 (by decide) ?_
  refine lv_istore_n (lv' := [(2, .int 0), (1, .int 0), (0, .ref h0)]) hx hb dX1_countUnknown_3 rfl hl (by decide) rfl (fun ls hl => ?_)
  suffices loop_2 : ∀ (n k_1 : Nat) (ls : Array Slot), k_1 + n = 100 → lv_has ls 3 [(2, .int (nI (k_1))), (1, .int 0), (0, .ref h0)] → W p l e ({ frames := 0, cells := 0, slots := 0, locals := 0 }) s m ([.ref h0] : List Value).toArray below meth c s.heap [] 0 0 (MQ below (vp_Si (fun r : Int32 => r = 0)) ([.ref h0] : List Value).toArray s 0 0 (fun _ => False)) (F0 m 4 ls []) by
    exact loop_2 100 0  _ (by decide) (lv_sub hl [0, 1, 2] rfl)
  intro n
  induction n with
  | zero =>
    intro k_1  ls hk hl 
    have hk2 : k_1 = 100 := by omega
    subst hk2
    have hl : lv_has ls 3 [(2, .int 100), (1, .int 0), (0, .ref h0)] := hl
    refine lv_iload_n hx hb dX1_countUnknown_4 rfl (lv_at hl 0 rfl) ?_
    refine lv_bipush (v := 100) hx hb dX1_countUnknown_5 (by decide) ?_
    refine lv_icmp_ge (tgt := 48) hx hb dX1_countUnknown_7 (by decide) (fun c_3 => ?_) (fun c_3 => absurd (by decide) c_3)
    refine lv_iload_n hx hb dX1_countUnknown_48 rfl (lv_at hl 1 rfl) ?_
    exact W.iret (v := 0) hx hb hr (fun t ht hW => ⟨0, rfl, rfl, ht⟩) (fun q h => by cases h) dX1_countUnknown_49 hlk
  | succ n ih =>
    intro k_1  ls hk hl 
    have hlt_k_1 : k_1 < 100 := by omega
    refine lv_iload_n hx hb dX1_countUnknown_4 rfl (lv_at hl 0 rfl) ?_
    refine lv_bipush (v := 100) hx hb dX1_countUnknown_5 (by decide) ?_
    refine lv_icmp_ge (tgt := 48) hx hb dX1_countUnknown_7 (by decide) (fun c_4 => absurd c_4 (nI_ge hlt_k_1 (by decide))) (fun c_4 => ?_)
    refine lv_iload_n hx hb dX1_countUnknown_10 rfl (lv_at hl 1 rfl) ?_
    refine lv_aload_n hx hb dX1_countUnknown_11 rfl (lv_at hl 2 rfl) ?_
    refine xg hF kf_X1_25 hK hP 0 rfl rfl dX1_countUnknown_12 ?_
    refine lv_iload_n hx hb dX1_countUnknown_15 rfl (lv_at hl 0 rfl) ?_
    refine va_iald hx hb hK hP 3 0 rfl rfl (vp_in_nI (show k_1 < 100 by omega) (by decide)) dX1_countUnknown_16 ?_
    refine xl_i (y := 0) rfl ?_
    refine lv_if_eq (tgt := 39) hx hb dX1_countUnknown_17 (by decide) (fun c_5 => ?_) (fun c_5 => absurd (by decide) c_5)
    refine lv_iconst (v := 0) hx hb dX1_countUnknown_39 (by decide) ?_
    refine lv_iadd hx hb dX1_countUnknown_40 ?_
    refine xl_i (y := 0) (by decide) ?_
    refine lv_istore_n (lv' := [(1, .int 0), (2, .int (nI (k_1))), (0, .ref h0)]) hx hb dX1_countUnknown_41 rfl hl (by decide) rfl (fun ls hl => ?_)
    refine lv_iinc (v := nI (k_1 + 1)) (lv' := [(2, .int (nI (k_1 + 1))), (1, .int 0), (0, .ref h0)]) hx hb dX1_countUnknown_42 hl (k := 1) rfl (nI_1 (k_1)) (by decide) rfl (fun ls hl => ?_)
    refine lv_goto (tgt := 4) hx hb dX1_countUnknown_45 (by decide) ?_
    exact ih (k_1 + 1)  _ (by omega) (lv_sub hl [0, 1, 2] rfl)
set_option maxHeartbeats 4000000 in
set_option maxRecDepth 100000 in
theorem c_X1_allBetweenEnds (l : Launch) (D : va_G) (cI cJ cZ cS : ClassId) (sa : Nat → Nat) (sz : Nat) (h0 : Nat) (ae : Nat) (al : Nat) (au : Nat) (ao : Nat) (ar : Nat) (ak : Nat) (aw : Nat) (att : Nat) (ass : Nat) : Met l yX1_allBetweenEnds (Cond.code yX1_allBetweenEnds cX1_allBetweenEnds 3 (some .int) :: wsU) ({ frames := 0, cells := 0, slots := 0, locals := 0 }) (va_Pc [.ref h0] (XW D (xT cI cJ cZ cS) sa [(h0, .inr (1, [.int 0, .ref ae, .ref al, .ref au, .ref ao, .ref ar, .ref ak, .ref aw, .ref att, .ref ass])), (al, .inl (cI, 100, .inl (fun _ => 0))), (au, .inl (cI, 100, .inl (fun _ => 0))), (ao, .inl (cI, 100, .inl (fun _ => 0)))] sz)) (vp_Si (fun r : Int32 => r = 0)) 0 0 (fun _ => False) := by
  refine xh (by decide) (Nat.le_of_ble_eq_true rfl) ?_
  intro p e s m below meth c ls hF hr hlk hin hsz hP hK hD hN hl
  have hF : CallFix p m c cX1_allBetweenEnds 3 s _ _ RX1 := hF
  have hx := hF.1
  have hb := hF.2.1
  have hml := hF.2.2.1
  have hown := hF.2.2.2.1
  have hu : ∀ w ∈ wsU, w.before _ s = true := fun w h => hF.2.2.2.2 w (List.mem_cons_of_mem _ h)
  have hl : lv_has ls 3 [(0, .ref h0)] := hl
  refine lv_iconst (v := 0) hx hb dX1_allBetweenEnds_0 (by decide) ?_
  refine lv_istore_n (lv' := [(1, .int 0), (0, .ref h0)]) hx hb dX1_allBetweenEnds_1 rfl hl (by decide) rfl (fun ls hl => ?_)
  refine lv_iconst (v := 0) hx hb dX1_allBetweenEnds_2 (by decide) ?_
  refine lv_istore_n (lv' := [(2, .int 0), (1, .int 0), (0, .ref h0)]) hx hb dX1_allBetweenEnds_3 rfl hl (by decide) rfl (fun ls hl => ?_)
  suffices loop_2 : ∀ (n k_1 : Nat) (ls : Array Slot), k_1 + n = 100 → lv_has ls 3 [(2, .int (nI (k_1))), (1, .int 0), (0, .ref h0)] → W p l e ({ frames := 0, cells := 0, slots := 0, locals := 0 }) s m ([.ref h0] : List Value).toArray below meth c s.heap [] 0 0 (MQ below (vp_Si (fun r : Int32 => r = 0)) ([.ref h0] : List Value).toArray s 0 0 (fun _ => False)) (F0 m 4 ls []) by
    exact loop_2 100 0  _ (by decide) (lv_sub hl [0, 1, 2] rfl)
  intro n
  induction n with
  | zero =>
    intro k_1  ls hk hl 
    have hk2 : k_1 = 100 := by omega
    subst hk2
    have hl : lv_has ls 3 [(2, .int 100), (1, .int 0), (0, .ref h0)] := hl
    refine lv_iload_n hx hb dX1_allBetweenEnds_4 rfl (lv_at hl 0 rfl) ?_
    refine lv_bipush (v := 100) hx hb dX1_allBetweenEnds_5 (by decide) ?_
    refine lv_icmp_ge (tgt := 45) hx hb dX1_allBetweenEnds_7 (by decide) (fun c_3 => ?_) (fun c_3 => absurd (by decide) c_3)
    refine lv_iload_n hx hb dX1_allBetweenEnds_45 rfl (lv_at hl 1 rfl) ?_
    exact W.iret (v := 0) hx hb hr (fun t ht hW => ⟨0, rfl, rfl, ht⟩) (fun q h => by cases h) dX1_allBetweenEnds_46 hlk
  | succ n ih =>
    intro k_1  ls hk hl 
    have hlt_k_1 : k_1 < 100 := by omega
    refine lv_iload_n hx hb dX1_allBetweenEnds_4 rfl (lv_at hl 0 rfl) ?_
    refine lv_bipush (v := 100) hx hb dX1_allBetweenEnds_5 (by decide) ?_
    refine lv_icmp_ge (tgt := 45) hx hb dX1_allBetweenEnds_7 (by decide) (fun c_4 => absurd c_4 (nI_ge hlt_k_1 (by decide))) (fun c_4 => ?_)
    refine lv_iload_n hx hb dX1_allBetweenEnds_10 rfl (lv_at hl 1 rfl) ?_
    refine lv_aload_n hx hb dX1_allBetweenEnds_11 rfl (lv_at hl 2 rfl) ?_
    refine xg hF kf_X1_25 hK hP 0 rfl rfl dX1_allBetweenEnds_12 ?_
    refine lv_iload_n hx hb dX1_allBetweenEnds_15 rfl (lv_at hl 0 rfl) ?_
    refine va_iald hx hb hK hP 3 0 rfl rfl (vp_in_nI (show k_1 < 100 by omega) (by decide)) dX1_allBetweenEnds_16 ?_
    refine xl_i (y := 0) rfl ?_
    refine lv_if_ne (tgt := 24) hx hb dX1_allBetweenEnds_17 (by decide) (fun c_5 => absurd (by decide) c_5) (fun c_5 => ?_)
    refine lv_iconst (v := 0) hx hb dX1_allBetweenEnds_20 (by decide) ?_
    refine lv_goto (tgt := 37) hx hb dX1_allBetweenEnds_21 (by decide) ?_
    refine lv_iadd hx hb dX1_allBetweenEnds_37 ?_
    refine xl_i (y := 0) (by decide) ?_
    refine lv_istore_n (lv' := [(1, .int 0), (2, .int (nI (k_1))), (0, .ref h0)]) hx hb dX1_allBetweenEnds_38 rfl hl (by decide) rfl (fun ls hl => ?_)
    refine lv_iinc (v := nI (k_1 + 1)) (lv' := [(2, .int (nI (k_1 + 1))), (1, .int 0), (0, .ref h0)]) hx hb dX1_allBetweenEnds_39 hl (k := 1) rfl (nI_1 (k_1)) (by decide) rfl (fun ls hl => ?_)
    refine lv_goto (tgt := 4) hx hb dX1_allBetweenEnds_42 (by decide) ?_
    exact ih (k_1 + 1)  _ (by omega) (lv_sub hl [0, 1, 2] rfl)
set_option maxHeartbeats 4000000 in
set_option maxRecDepth 100000 in
theorem c_X1_widestWay (l : Launch) (D : va_G) (cI cJ cZ cS : ClassId) (sa : Nat → Nat) (sz : Nat) (h0 : Nat) (ae : Nat) (al : Nat) (au : Nat) (ao : Nat) (ar : Nat) (ak : Nat) (aw : Nat) (att : Nat) (ass : Nat) : Met l yX1_widestWay (Cond.code yX1_widestWay cX1_widestWay 4 (some .int) :: wsU) ({ frames := 0, cells := 0, slots := 0, locals := 0 }) (va_Pc [.ref h0] (XW D (xT cI cJ cZ cS) sa [(h0, .inr (1, [.int 0, .ref ae, .ref al, .ref au, .ref ao, .ref ar, .ref ak, .ref aw, .ref att, .ref ass])), (al, .inl (cI, 100, .inl (fun _ => 0))), (au, .inl (cI, 100, .inl (fun _ => 0))), (ao, .inl (cI, 100, .inl (fun _ => 0)))] sz)) (vp_Si (fun r : Int32 => r = (-1))) 0 0 (fun _ => False) := by
  refine xh (by decide) (Nat.le_of_ble_eq_true rfl) ?_
  intro p e s m below meth c ls hF hr hlk hin hsz hP hK hD hN hl
  have hF : CallFix p m c cX1_widestWay 4 s _ _ RX1 := hF
  have hx := hF.1
  have hb := hF.2.1
  have hml := hF.2.2.1
  have hown := hF.2.2.2.1
  have hu : ∀ w ∈ wsU, w.before _ s = true := fun w h => hF.2.2.2.2 w (List.mem_cons_of_mem _ h)
  have hl : lv_has ls 4 [(0, .ref h0)] := hl
  refine lv_iconst (v := (-1)) hx hb dX1_widestWay_0 (by decide) ?_
  refine lv_istore_n (lv' := [(1, .int (-1)), (0, .ref h0)]) hx hb dX1_widestWay_1 rfl hl (by decide) rfl (fun ls hl => ?_)
  refine lv_iconst (v := 0) hx hb dX1_widestWay_2 (by decide) ?_
  refine lv_istore_n (lv' := [(2, .int 0), (1, .int (-1)), (0, .ref h0)]) hx hb dX1_widestWay_3 rfl hl (by decide) rfl (fun ls hl => ?_)
  refine lv_iconst (v := 0) hx hb dX1_widestWay_4 (by decide) ?_
  refine lv_istore_n (lv' := [(3, .int 0), (2, .int 0), (1, .int (-1)), (0, .ref h0)]) hx hb dX1_widestWay_5 rfl hl (by decide) rfl (fun ls hl => ?_)
  suffices loop_2 : ∀ (n k_1 : Nat) (ls : Array Slot), k_1 + n = 100 → lv_has ls 4 [(3, .int (nI (k_1))), (2, .int 0), (1, .int (-1)), (0, .ref h0)] → W p l e ({ frames := 0, cells := 0, slots := 0, locals := 0 }) s m ([.ref h0] : List Value).toArray below meth c s.heap [] 0 0 (MQ below (vp_Si (fun r : Int32 => r = (-1))) ([.ref h0] : List Value).toArray s 0 0 (fun _ => False)) (F0 m 6 ls []) by
    exact loop_2 100 0  _ (by decide) (lv_sub hl [0, 1, 2, 3] rfl)
  intro n
  induction n with
  | zero =>
    intro k_1  ls hk hl 
    have hk2 : k_1 = 100 := by omega
    subst hk2
    have hl : lv_has ls 4 [(3, .int 100), (2, .int 0), (1, .int (-1)), (0, .ref h0)] := hl
    refine lv_iload_n hx hb dX1_widestWay_6 rfl (lv_at hl 0 rfl) ?_
    refine lv_bipush (v := 100) hx hb dX1_widestWay_7 (by decide) ?_
    refine lv_icmp_ge (tgt := 61) hx hb dX1_widestWay_9 (by decide) (fun c_3 => ?_) (fun c_3 => absurd (by decide) c_3)
    refine lv_iload_n hx hb dX1_widestWay_61 rfl (lv_at hl 2 rfl) ?_
    exact W.iret (v := (-1)) hx hb hr (fun t ht hW => ⟨(-1), rfl, rfl, ht⟩) (fun q h => by cases h) dX1_widestWay_62 hlk
  | succ n ih =>
    intro k_1  ls hk hl 
    have hlt_k_1 : k_1 < 100 := by omega
    refine lv_iload_n hx hb dX1_widestWay_6 rfl (lv_at hl 0 rfl) ?_
    refine lv_bipush (v := 100) hx hb dX1_widestWay_7 (by decide) ?_
    refine lv_icmp_ge (tgt := 61) hx hb dX1_widestWay_9 (by decide) (fun c_4 => absurd c_4 (nI_ge hlt_k_1 (by decide))) (fun c_4 => ?_)
    refine lv_aload_n hx hb dX1_widestWay_12 rfl (lv_at hl 3 rfl) ?_
    refine xg hF kf_X1_25 hK hP 0 rfl rfl dX1_widestWay_13 ?_
    refine lv_iload_n hx hb dX1_widestWay_16 rfl (lv_at hl 0 rfl) ?_
    refine va_iald hx hb hK hP 3 0 rfl rfl (vp_in_nI (show k_1 < 100 by omega) (by decide)) dX1_widestWay_17 ?_
    refine xl_i (y := 0) rfl ?_
    refine lv_iconst (v := 1) hx hb dX1_widestWay_18 (by decide) ?_
    refine lv_icmp_ne (tgt := 55) hx hb dX1_widestWay_19 (by decide) (fun c_5 => ?_) (fun c_5 => absurd c_5 (by decide))
    refine lv_iinc (v := nI (k_1 + 1)) (lv' := [(3, .int (nI (k_1 + 1))), (2, .int 0), (1, .int (-1)), (0, .ref h0)]) hx hb dX1_widestWay_55 hl (k := 0) rfl (nI_1 (k_1)) (by decide) rfl (fun ls hl => ?_)
    refine lv_goto (tgt := 6) hx hb dX1_widestWay_58 (by decide) ?_
    exact ih (k_1 + 1)  _ (by omega) (lv_sub hl [0, 1, 2, 3] rfl)
set_option maxHeartbeats 4000000 in
set_option maxRecDepth 100000 in
theorem c_X1_allErrands (l : Launch) (D : va_G) (cI cJ cZ cS : ClassId) (sa : Nat → Nat) (sz : Nat) (h0 : Nat) (ae : Nat) (al : Nat) (au : Nat) (ao : Nat) (ar : Nat) (ak : Nat) (aw : Nat) (att : Nat) (ass : Nat) : Met l yX1_allErrands (Cond.code yX1_allErrands cX1_allErrands 3 (some .int) :: wsU) ({ frames := 0, cells := 0, slots := 0, locals := 0 }) (va_Pc [.ref h0] (XW D (xT cI cJ cZ cS) sa [(h0, .inr (1, [.int 0, .ref ae, .ref al, .ref au, .ref ao, .ref ar, .ref ak, .ref aw, .ref att, .ref ass]))] sz)) (vp_Si (fun r : Int32 => r = 0)) 0 0 (fun _ => False) := by
  refine xh (by decide) (Nat.le_of_ble_eq_true rfl) ?_
  intro p e s m below meth c ls hF hr hlk hin hsz hP hK hD hN hl
  have hF : CallFix p m c cX1_allErrands 3 s _ _ RX1 := hF
  have hx := hF.1
  have hb := hF.2.1
  have hml := hF.2.2.1
  have hown := hF.2.2.2.1
  have hu : ∀ w ∈ wsU, w.before _ s = true := fun w h => hF.2.2.2.2 w (List.mem_cons_of_mem _ h)
  have hl : lv_has ls 3 [(0, .ref h0)] := hl
  refine lv_iconst (v := 0) hx hb dX1_allErrands_0 (by decide) ?_
  refine lv_istore_n (lv' := [(1, .int 0), (0, .ref h0)]) hx hb dX1_allErrands_1 rfl hl (by decide) rfl (fun ls hl => ?_)
  refine lv_iconst (v := 0) hx hb dX1_allErrands_2 (by decide) ?_
  refine lv_istore_n (lv' := [(2, .int 0), (1, .int 0), (0, .ref h0)]) hx hb dX1_allErrands_3 rfl hl (by decide) rfl (fun ls hl => ?_)
  refine lv_iload_n hx hb dX1_allErrands_4 rfl (lv_at hl 0 rfl) ?_
  refine lv_aload_n hx hb dX1_allErrands_5 rfl (lv_at hl 2 rfl) ?_
  refine xg hF kf_X1_9 hK hP 0 rfl rfl dX1_allErrands_6 ?_
  refine lv_icmp_ge (tgt := 27) hx hb dX1_allErrands_9 (by decide) (fun c_1 => ?_) (fun c_1 => absurd (by decide) c_1)
  refine lv_iload_n hx hb dX1_allErrands_27 rfl (lv_at hl 1 rfl) ?_
  exact W.iret (v := 0) hx hb hr (fun t ht hW => ⟨0, rfl, rfl, ht⟩) (fun q h => by cases h) dX1_allErrands_28 hlk
set_option maxHeartbeats 4000000 in
set_option maxRecDepth 100000 in
theorem c_X1_hollowSet (l : Launch) (D : va_G) (cI cJ cZ cS : ClassId) (sa : Nat → Nat) (sz : Nat) (h0 : Nat) (ae : Nat) (al : Nat) (au : Nat) (ao : Nat) (ar : Nat) (ak : Nat) (aw : Nat) (att : Nat) (ass : Nat) : Met l yX1_hollowSet (Cond.code yX1_hollowSet cX1_hollowSet 5 (some .int) :: wsU) ({ frames := 0, cells := 0, slots := 0, locals := 0 }) (va_Pc [.ref h0] (XW D (xT cI cJ cZ cS) sa [(h0, .inr (1, [.int 0, .ref ae, .ref al, .ref au, .ref ao, .ref ar, .ref ak, .ref aw, .ref att, .ref ass]))] sz)) (vp_Si (fun r : Int32 => r = 0)) 0 0 (fun _ => False) := by
  refine xh (by decide) (Nat.le_of_ble_eq_true rfl) ?_
  intro p e s m below meth c ls hF hr hlk hin hsz hP hK hD hN hl
  have hF : CallFix p m c cX1_hollowSet 5 s _ _ RX1 := hF
  have hx := hF.1
  have hb := hF.2.1
  have hml := hF.2.2.1
  have hown := hF.2.2.2.1
  have hu : ∀ w ∈ wsU, w.before _ s = true := fun w h => hF.2.2.2.2 w (List.mem_cons_of_mem _ h)
  have hl : lv_has ls 5 [(0, .ref h0)] := hl
  refine lv_iconst (v := 0) hx hb dX1_hollowSet_0 (by decide) ?_
  refine lv_istore_n (lv' := [(1, .int 0), (0, .ref h0)]) hx hb dX1_hollowSet_1 rfl hl (by decide) rfl (fun ls hl => ?_)
  refine lv_iconst (v := 0) hx hb dX1_hollowSet_2 (by decide) ?_
  refine lv_istore_n (lv' := [(2, .int 0), (1, .int 0), (0, .ref h0)]) hx hb dX1_hollowSet_3 rfl hl (by decide) rfl (fun ls hl => ?_)
  refine lv_iload_n hx hb dX1_hollowSet_4 rfl (lv_at hl 0 rfl) ?_
  refine lv_aload_n hx hb dX1_hollowSet_5 rfl (lv_at hl 2 rfl) ?_
  refine xg hF kf_X1_9 hK hP 0 rfl rfl dX1_hollowSet_6 ?_
  refine lv_icmp_ge (tgt := 62) hx hb dX1_hollowSet_9 (by decide) (fun c_1 => ?_) (fun c_1 => absurd (by decide) c_1)
  refine lv_iload_n hx hb dX1_hollowSet_62 rfl (lv_at hl 1 rfl) ?_
  exact W.iret (v := 0) hx hb hr (fun t ht hW => ⟨0, rfl, rfl, ht⟩) (fun q h => by cases h) dX1_hollowSet_63 hlk
set_option maxHeartbeats 4000000 in
set_option maxRecDepth 100000 in
theorem c_X1_addPlace (l : Launch) (D : va_G) (cI cJ cZ cS : ClassId) (sa : Nat → Nat) (sz : Nat) (h0 : Nat) (ae : Nat) (al : Nat) (au : Nat) (ao : Nat) (ar : Nat) (ak : Nat) (aw : Nat) (att : Nat) (ass : Nat) : Met l yX1_addPlace (Cond.code yX1_addPlace cX1_addPlace 3 (some .int) :: wsU) ({ frames := 0, cells := 0, slots := 0, locals := 0 }) (va_Pc [.ref h0, .int 0] (XW D (xT cI cJ cZ cS) sa [(h0, .inr (1, [.int 0, .ref ae, .ref al, .ref au, .ref ao, .ref ar, .ref ak, .ref aw, .ref att, .ref ass])), (ae, .inl (cI, 10, .inl (fun _ => 0)))] sz)) (XQi (fun (r : Int32) (_ : Unit) => r = 0) D (fun _ : Unit => []) (va_A [(h0, .inr (1, [.int 0, .ref ae, .ref al, .ref au, .ref ao, .ref ar, .ref ak, .ref aw, .ref att, .ref ass])), (ae, .inl (cI, 10, .inl (fun _ => 0)))] sz)) 0 0 (va_A [(h0, .inr (1, [.int 0, .ref ae, .ref al, .ref au, .ref ao, .ref ar, .ref ak, .ref aw, .ref att, .ref ass])), (ae, .inl (cI, 10, .inl (fun _ => 0)))] sz) := by
  refine xhw (QA := fun A => XQi (fun (r : Int32) (_ : Unit) => r = 0) D (fun _ : Unit => []) A) (by decide) (Nat.le_of_ble_eq_true rfl) ?_
  intro p e s m below meth c ls A hF hr hlk hin hsz hP hK hD hN hA hS hl
  have hF : CallFix p m c cX1_addPlace 3 s _ _ RX1 := hF
  have hx := hF.1
  have hb := hF.2.1
  have hml := hF.2.2.1
  have hown := hF.2.2.2.1
  have hu : ∀ w ∈ wsU, w.before _ s = true := fun w h => hF.2.2.2.2 w (List.mem_cons_of_mem _ h)
  have hl : lv_has ls 3 [(0, .ref h0), (1, .int 0)] := hl
  refine lv_aload_n hx hb dX1_addPlace_0 rfl (lv_at hl 0 rfl) ?_
  refine xg hF kf_X1_9 hK hP 0 rfl rfl dX1_addPlace_1 ?_
  refine lv_istore_n (lv' := [(2, .int 0), (0, .ref h0), (1, .int 0)]) hx hb dX1_addPlace_4 rfl hl (by decide) rfl (fun ls hl => ?_)
  refine lv_aload_n hx hb dX1_addPlace_5 rfl (lv_at hl 1 rfl) ?_
  refine lv_dup hx hb dX1_addPlace_6 rfl ?_
  refine xg hF kf_X1_9 hK hP 0 rfl rfl dX1_addPlace_7 ?_
  refine lv_iconst (v := 1) hx hb dX1_addPlace_10 (by decide) ?_
  refine lv_iadd hx hb dX1_addPlace_11 ?_
  refine xl_i (y := 1) (by decide) ?_
  refine xp hF kf_X1_9 tyX1_ok nmX1 hK hP hD hS 0 rfl rfl rfl rfl (Nat.le_of_ble_eq_true rfl) dX1_addPlace_12 (fun H locs hP hD hS => ?_)
  have hP : va_P D vwCl [(h0, .inr (1, [.int 1, .ref ae, .ref al, .ref au, .ref ao, .ref ar, .ref ak, .ref aw, .ref att, .ref ass])), (ae, .inl (cI, 10, .inl (fun _ => 0)))] H := hP
  have hD : va_D A [(h0, .inr (1, [.int 1, .ref ae, .ref al, .ref au, .ref ao, .ref ar, .ref ak, .ref aw, .ref att, .ref ass])), (ae, .inl (cI, 10, .inl (fun _ => 0)))] := hD
  refine lv_aload_n hx hb dX1_addPlace_15 rfl (lv_at hl 1 rfl) ?_
  refine xg hF kf_X1_15 hK hP 0 rfl rfl dX1_addPlace_16 ?_
  refine lv_iload_n hx hb dX1_addPlace_19 rfl (lv_at hl 0 rfl) ?_
  refine lv_iload_n hx hb dX1_addPlace_20 rfl (lv_at hl 2 rfl) ?_
  refine va_iast hx hb hK hP hD hS 1 0 rfl rfl (xin 0 10 (by decide) (by decide)) dX1_addPlace_21 (fun H locs hP hD hS => ?_)
  obtain ⟨f_1, ef_1⟩ : ∃ g, g = upd (fun _ => 0) (0 : Int32).toNatClampNeg 0 := ⟨_, rfl⟩
  rw [← ef_1] at hP hD
  have hP : va_P D vwCl [(h0, .inr (1, [.int 1, .ref ae, .ref al, .ref au, .ref ao, .ref ar, .ref ak, .ref aw, .ref att, .ref ass])), (ae, .inl (cI, 10, .inl f_1))] H := hP
  have hD : va_D A [(h0, .inr (1, [.int 1, .ref ae, .ref al, .ref au, .ref ao, .ref ar, .ref ak, .ref aw, .ref att, .ref ass])), (ae, .inl (cI, 10, .inl f_1))] := hD
  refine lv_iload_n hx hb dX1_addPlace_22 rfl (lv_at hl 0 rfl) ?_
  exact W.iret (v := 0) hx hb hr (fun t ht hW => ⟨⟨0, (), rfl, rfl, by rw [ht]; exact hP.sub [] rfl, hD.sub [] (by decide) rfl⟩, hS.F ht⟩) hS.2.2 dX1_addPlace_23 hlk
set_option maxHeartbeats 4000000 in
set_option maxRecDepth 100000 in
theorem c_X0_measure (l : Launch) (D : va_G) (cI cJ cZ cS : ClassId) (sa : Nat → Nat) (sz : Nat) (h0 : Nat) (an : Nat) (q1 : Nat) (be : Nat) (bl : Nat) (bu : Nat) (bo : Nat) (br : Nat) (bk : Nat) (bw : Nat) (btt : Nat) (bss : Nat) : Met l yX0_measure (Cond.code yX0_measure cX0_measure 4 none :: wsU) ({ frames := 0, cells := 0, slots := 0, locals := 0 }) (va_Pc [.ref h0, .ref q1] (XW D (xT cI cJ cZ cS) sa [(h0, .inr (0, [.int 0, .ref an])), (q1, .inr (1, [.int 0, .ref be, .ref bl, .ref bu, .ref bo, .ref br, .ref bk, .ref bw, .ref btt, .ref bss]))] sz)) (XQv (fun _ : Unit => True) D (fun _ : Unit => [(h0, .inr (0, [.int 0, .ref an])), (q1, .inr (1, [.int 0, .ref be, .ref bl, .ref bu, .ref bo, .ref br, .ref bk, .ref bw, .ref btt, .ref bss]))]) (va_A [(h0, .inr (0, [.int 0, .ref an])), (q1, .inr (1, [.int 0, .ref be, .ref bl, .ref bu, .ref bo, .ref br, .ref bk, .ref bw, .ref btt, .ref bss]))] sz)) 0 0 (va_A [(h0, .inr (0, [.int 0, .ref an])), (q1, .inr (1, [.int 0, .ref be, .ref bl, .ref bu, .ref bo, .ref br, .ref bk, .ref bw, .ref btt, .ref bss]))] sz) := by
  refine xhw (QA := fun A => XQv (fun _ : Unit => True) D (fun _ : Unit => [(h0, .inr (0, [.int 0, .ref an])), (q1, .inr (1, [.int 0, .ref be, .ref bl, .ref bu, .ref bo, .ref br, .ref bk, .ref bw, .ref btt, .ref bss]))]) A) (by decide) (Nat.le_of_ble_eq_true rfl) ?_
  intro p e s m below meth c ls A hF hr hlk hin hsz hP hK hD hN hA hS hl
  have hF : CallFix p m c cX0_measure 4 s _ _ RX0 := hF
  have hx := hF.1
  have hb := hF.2.1
  have hml := hF.2.2.1
  have hown := hF.2.2.2.1
  have hu : ∀ w ∈ wsU, w.before _ s = true := fun w h => hF.2.2.2.2 w (List.mem_cons_of_mem _ h)
  have hl : lv_has ls 4 [(0, .ref h0), (1, .ref q1)] := hl
  refine lv_aload_n hx hb dX0_measure_0 rfl (lv_at hl 0 rfl) ?_
  refine lv_aload_n hx hb dX0_measure_1 rfl (lv_at hl 1 rfl) ?_
  refine xg hF kf_X0_19 hK hP 1 rfl rfl dX0_measure_2 ?_
  refine xp hF kf_X0_9 tyX0_ok nmX0 hK hP hD hS 0 rfl rfl rfl rfl (Nat.le_of_ble_eq_true rfl) dX0_measure_5 (fun H locs hP hD hS => ?_)
  have hP : va_P D vwCl [(h0, .inr (0, [.int 0, .ref an])), (q1, .inr (1, [.int 0, .ref be, .ref bl, .ref bu, .ref bo, .ref br, .ref bk, .ref bw, .ref btt, .ref bss]))] H := hP
  have hD : va_D A [(h0, .inr (0, [.int 0, .ref an])), (q1, .inr (1, [.int 0, .ref be, .ref bl, .ref bu, .ref bo, .ref br, .ref bk, .ref bw, .ref btt, .ref bss]))] := hD
  refine lv_iconst (v := 0) hx hb dX0_measure_8 (by decide) ?_
  refine lv_istore_n (lv' := [(2, .int 0), (0, .ref h0), (1, .ref q1)]) hx hb dX0_measure_9 rfl hl (by decide) rfl (fun ls hl => ?_)
  refine lv_iload_n hx hb dX0_measure_10 rfl (lv_at hl 0 rfl) ?_
  refine lv_aload_n hx hb dX0_measure_11 rfl (lv_at hl 1 rfl) ?_
  refine xg hF kf_X0_9 hK hP 0 rfl rfl dX0_measure_12 ?_
  refine lv_icmp_ge (tgt := 66) hx hb dX0_measure_15 (by decide) (fun c_1 => ?_) (fun c_1 => absurd (by decide) c_1)
  refine lv_iconst (v := 0) hx hb dX0_measure_66 (by decide) ?_
  refine lv_istore_n (lv' := [(2, .int 0), (0, .ref h0), (1, .ref q1)]) hx hb dX0_measure_67 rfl hl (by decide) rfl (fun ls hl => ?_)
  refine lv_iload_n hx hb dX0_measure_68 rfl (lv_at hl 0 rfl) ?_
  refine lv_aload_n hx hb dX0_measure_69 rfl (lv_at hl 1 rfl) ?_
  refine xg hF kf_X0_9 hK hP 0 rfl rfl dX0_measure_70 ?_
  refine lv_icmp_ge (tgt := 87) hx hb dX0_measure_73 (by decide) (fun c_2 => ?_) (fun c_2 => absurd (by decide) c_2)
  exact W.vret hx hb hr (fun t ht hW => ⟨⟨(), rfl, trivial, by rw [ht]; exact hP.sub [0, 1] rfl, hD.sub [0, 1] (by decide) rfl⟩, hS.F ht⟩) hS.2.2 dX0_measure_87 hlk
set_option maxHeartbeats 4000000 in
set_option maxRecDepth 100000 in
theorem c_X0_hasLoop (l : Launch) (D : va_G) (cI cJ cZ cS : ClassId) (sa : Nat → Nat) (sz : Nat) (h0 : Nat) (an : Nat) : Met l yX0_hasLoop (Cond.code yX0_hasLoop cX0_hasLoop 2 (some .boolean) :: wsU) ({ frames := 0, cells := 0, slots := 0, locals := 0 }) (va_Pc [.ref h0] (XW D (xT cI cJ cZ cS) sa [(h0, .inr (0, [.int 0, .ref an]))] sz)) (vp_Si (fun r : Int32 => r = 0)) 0 0 (fun _ => False) := by
  refine xh (by decide) (Nat.le_of_ble_eq_true rfl) ?_
  intro p e s m below meth c ls hF hr hlk hin hsz hP hK hD hN hl
  have hF : CallFix p m c cX0_hasLoop 2 s _ _ RX0 := hF
  have hx := hF.1
  have hb := hF.2.1
  have hml := hF.2.2.1
  have hown := hF.2.2.2.1
  have hu : ∀ w ∈ wsU, w.before _ s = true := fun w h => hF.2.2.2.2 w (List.mem_cons_of_mem _ h)
  have hl : lv_has ls 2 [(0, .ref h0)] := hl
  refine lv_iconst (v := 0) hx hb dX0_hasLoop_0 (by decide) ?_
  refine lv_istore_n (lv' := [(1, .int 0), (0, .ref h0)]) hx hb dX0_hasLoop_1 rfl hl (by decide) rfl (fun ls hl => ?_)
  refine lv_iload_n hx hb dX0_hasLoop_2 rfl (lv_at hl 0 rfl) ?_
  refine lv_aload_n hx hb dX0_hasLoop_3 rfl (lv_at hl 1 rfl) ?_
  refine xg hF kf_X0_9 hK hP 0 rfl rfl dX0_hasLoop_4 ?_
  refine lv_icmp_ge (tgt := 27) hx hb dX0_hasLoop_7 (by decide) (fun c_1 => ?_) (fun c_1 => absurd (by decide) c_1)
  refine lv_iconst (v := 0) hx hb dX0_hasLoop_27 (by decide) ?_
  exact W.zret (v := 0) hx hb hr rfl (fun t ht hW => ⟨0, rfl, rfl, ht⟩) (fun q h => by cases h) dX0_hasLoop_28 hlk
set_option maxHeartbeats 4000000 in
set_option maxRecDepth 100000 in
theorem c_X0_loopSet (l : Launch) (D : va_G) (cI cJ cZ cS : ClassId) (sa : Nat → Nat) (sz : Nat) (h0 : Nat) (an : Nat) : Met l yX0_loopSet (Cond.code yX0_loopSet cX0_loopSet 4 (some .int) :: wsU) ({ frames := 0, cells := 0, slots := 0, locals := 0 }) (va_Pc [.ref h0] (XW D (xT cI cJ cZ cS) sa [(h0, .inr (0, [.int 0, .ref an]))] sz)) (vp_Si (fun r : Int32 => r = 0)) 0 0 (fun _ => False) := by
  refine xh (by decide) (Nat.le_of_ble_eq_true rfl) ?_
  intro p e s m below meth c ls hF hr hlk hin hsz hP hK hD hN hl
  have hF : CallFix p m c cX0_loopSet 4 s _ _ RX0 := hF
  have hx := hF.1
  have hb := hF.2.1
  have hml := hF.2.2.1
  have hown := hF.2.2.2.1
  have hu : ∀ w ∈ wsU, w.before _ s = true := fun w h => hF.2.2.2.2 w (List.mem_cons_of_mem _ h)
  have hl : lv_has ls 4 [(0, .ref h0)] := hl
  refine lv_iconst (v := 0) hx hb dX0_loopSet_0 (by decide) ?_
  refine lv_istore_n (lv' := [(1, .int 0), (0, .ref h0)]) hx hb dX0_loopSet_1 rfl hl (by decide) rfl (fun ls hl => ?_)
  refine lv_iconst (v := 0) hx hb dX0_loopSet_2 (by decide) ?_
  refine lv_istore_n (lv' := [(2, .int 0), (1, .int 0), (0, .ref h0)]) hx hb dX0_loopSet_3 rfl hl (by decide) rfl (fun ls hl => ?_)
  refine lv_iload_n hx hb dX0_loopSet_4 rfl (lv_at hl 0 rfl) ?_
  refine lv_aload_n hx hb dX0_loopSet_5 rfl (lv_at hl 2 rfl) ?_
  refine xg hF kf_X0_9 hK hP 0 rfl rfl dX0_loopSet_6 ?_
  refine lv_icmp_ge (tgt := 58) hx hb dX0_loopSet_9 (by decide) (fun c_1 => ?_) (fun c_1 => absurd (by decide) c_1)
  refine lv_iload_n hx hb dX0_loopSet_58 rfl (lv_at hl 1 rfl) ?_
  exact W.iret (v := 0) hx hb hr (fun t ht hW => ⟨0, rfl, rfl, ht⟩) (fun q h => by cases h) dX0_loopSet_59 hlk
set_option maxHeartbeats 4000000 in
set_option maxRecDepth 100000 in
theorem c_X0_homeOf (l : Launch) (D : va_G) (cI cJ cZ cS : ClassId) (sa : Nat → Nat) (sz : Nat) (h0 : Nat) (an : Nat) (q1 : Nat) : Met l yX0_homeOf (Cond.code yX0_homeOf cX0_homeOf 6 (some .int) :: wsU) ({ frames := 0, cells := 0, slots := 0, locals := 0 }) (va_Pc [.ref h0, .ref q1] (XW D (xT cI cJ cZ cS) sa [(h0, .inr (0, [.int 0, .ref an]))] sz)) (vp_Si (fun r : Int32 => r = (-1))) 0 0 (fun _ => False) := by
  refine xh (by decide) (Nat.le_of_ble_eq_true rfl) ?_
  intro p e s m below meth c ls hF hr hlk hin hsz hP hK hD hN hl
  have hF : CallFix p m c cX0_homeOf 6 s _ _ RX0 := hF
  have hx := hF.1
  have hb := hF.2.1
  have hml := hF.2.2.1
  have hown := hF.2.2.2.1
  have hu : ∀ w ∈ wsU, w.before _ s = true := fun w h => hF.2.2.2.2 w (List.mem_cons_of_mem _ h)
  have hl : lv_has ls 6 [(0, .ref h0), (1, .ref q1)] := hl
  refine lv_iconst (v := (-1)) hx hb dX0_homeOf_0 (by decide) ?_
  refine lv_istore_n (lv' := [(2, .int (-1)), (0, .ref h0), (1, .ref q1)]) hx hb dX0_homeOf_1 rfl hl (by decide) rfl (fun ls hl => ?_)
  refine lv_ldc (v := 1000000000) hx hb hown (hu _ uw44) dX0_homeOf_2 ?_
  refine lv_istore_n (lv' := [(3, .int 1000000000), (2, .int (-1)), (0, .ref h0), (1, .ref q1)]) hx hb dX0_homeOf_4 rfl hl (by decide) rfl (fun ls hl => ?_)
  refine lv_iconst (v := 0) hx hb dX0_homeOf_5 (by decide) ?_
  refine lv_istore (lv' := [(4, .int 0), (3, .int 1000000000), (2, .int (-1)), (0, .ref h0), (1, .ref q1)]) hx hb dX0_homeOf_6 hl (by decide) rfl (fun ls hl => ?_)
  refine lv_iload hx hb dX0_homeOf_8 (lv_at hl 0 rfl) ?_
  refine lv_aload_n hx hb dX0_homeOf_10 rfl (lv_at hl 3 rfl) ?_
  refine xg hF kf_X0_9 hK hP 0 rfl rfl dX0_homeOf_11 ?_
  refine lv_icmp_ge (tgt := 44) hx hb dX0_homeOf_14 (by decide) (fun c_1 => ?_) (fun c_1 => absurd (by decide) c_1)
  refine lv_iload_n hx hb dX0_homeOf_44 rfl (lv_at hl 2 rfl) ?_
  exact W.iret (v := (-1)) hx hb hr (fun t ht hW => ⟨(-1), rfl, rfl, ht⟩) (fun q h => by cases h) dX0_homeOf_45 hlk
set_option maxHeartbeats 4000000 in
set_option maxRecDepth 100000 in
theorem c_X0_leastTrip (l : Launch) (D : va_G) (cI cJ cZ cS : ClassId) (sa : Nat → Nat) (sz : Nat) (h0 : Nat) (an : Nat) (q1 : Nat) : Met l yX0_leastTrip (Cond.code yX0_leastTrip cX0_leastTrip 3 (some .int) :: wsU) ({ frames := 1, cells := 0, slots := 0, locals := 25 }) (va_Pc [.ref h0, .ref q1] (XW D (xT cI cJ cZ cS) sa [(h0, .inr (0, [.int 0, .ref an]))] sz)) (vp_Si (fun r : Int32 => r = 1000000000)) 0 0 (fun _ => False) := by
  refine xh (by decide) (Nat.le_of_ble_eq_true rfl) ?_
  intro p e s m below meth c ls hF hr hlk hin hsz hP hK hD hN hl
  have hF : CallFix p m c cX0_leastTrip 3 s _ _ RX0 := hF
  have hx := hF.1
  have hb := hF.2.1
  have hml := hF.2.2.1
  have hown := hF.2.2.2.1
  have hu : ∀ w ∈ wsU, w.before _ s = true := fun w h => hF.2.2.2.2 w (List.mem_cons_of_mem _ h)
  have hl : lv_has ls 3 [(0, .ref h0), (1, .ref q1)] := hl
  refine lv_aload_n hx hb dX0_leastTrip_0 rfl (lv_at hl 0 rfl) ?_
  refine lv_aload_n hx hb dX0_leastTrip_1 rfl (lv_at hl 1 rfl) ?_
  refine xc_Vr hF (c_X0_homeOf l D cI cJ cZ cS sa s.heap.size h0 an q1 ) kv_X0_73 ⟨rfl, rfl, Nat.le_of_ble_eq_true rfl, Nat.le_of_ble_eq_true rfl⟩ ⟨Nat.le_of_ble_eq_true rfl, Nat.le_of_ble_eq_true rfl⟩ hK hN hP hD [0] rfl rfl 0 rfl rfl rfl rfl hl.1 rfl (Nat.le_of_ble_eq_true rfl) dX0_leastTrip_2 (fun r_1 hw_r_1 => ?_)
  subst hw_r_1
  refine lv_istore_n (lv' := [(2, .int (-1)), (0, .ref h0), (1, .ref q1)]) hx hb dX0_leastTrip_5 rfl hl (by decide) rfl (fun ls hl => ?_)
  refine lv_iload_n hx hb dX0_leastTrip_6 rfl (lv_at hl 0 rfl) ?_
  refine lv_if_ge (tgt := 15) hx hb dX0_leastTrip_7 (by decide) (fun c_2 => absurd c_2 (by decide)) (fun c_2 => ?_)
  refine lv_ldc (v := 1000000000) hx hb hown (hu _ uw44) dX0_leastTrip_10 ?_
  refine lv_goto (tgt := 21) hx hb dX0_leastTrip_12 (by decide) ?_
  exact W.iret (v := 1000000000) hx hb hr (fun t ht hW => ⟨1000000000, rfl, rfl, ht⟩) (fun q h => by cases h) dX0_leastTrip_21 hlk
set_option maxHeartbeats 4000000 in
set_option maxRecDepth 100000 in
theorem c_X5_climb (l : Launch) (D : va_G) (cI cJ cZ cS : ClassId) (sa : Nat → Nat) (sz : Nat) (h0 : Nat) (ah : Nat) (ac : Nat) (aq : Nat) (q1 : Nat) (be : Nat) (bl : Nat) (bu : Nat) (bo : Nat) (br : Nat) (bk : Nat) (bw : Nat) (btt : Nat) (bss : Nat) : Met l yX5_climb (Cond.code yX5_climb cX5_climb 3 none :: wsU) ({ frames := 0, cells := 0, slots := 0, locals := 0 }) (va_Pc [.ref h0, .ref q1] (XW D (xT cI cJ cZ cS) sa [(h0, .inr (5, [.ref ah, .ref ac, .ref aq])), (q1, .inr (1, [.int 0, .ref be, .ref bl, .ref bu, .ref bo, .ref br, .ref bk, .ref bw, .ref btt, .ref bss]))] sz)) (va_Sv (fun _ => True)) 0 0 (fun _ => False) := by
  refine xh (by decide) (Nat.le_of_ble_eq_true rfl) ?_
  intro p e s m below meth c ls hF hr hlk hin hsz hP hK hD hN hl
  have hF : CallFix p m c cX5_climb 3 s _ _ RX5 := hF
  have hx := hF.1
  have hb := hF.2.1
  have hml := hF.2.2.1
  have hown := hF.2.2.2.1
  have hu : ∀ w ∈ wsU, w.before _ s = true := fun w h => hF.2.2.2.2 w (List.mem_cons_of_mem _ h)
  have hl : lv_has ls 3 [(0, .ref h0), (1, .ref q1)] := hl
  refine lv_iconst (v := 0) hx hb dX5_climb_0 (by decide) ?_
  refine lv_istore_n (lv' := [(2, .int 0), (0, .ref h0), (1, .ref q1)]) hx hb dX5_climb_1 rfl hl (by decide) rfl (fun ls hl => ?_)
  refine lv_iload_n hx hb dX5_climb_2 rfl (lv_at hl 0 rfl) ?_
  refine lv_aload_n hx hb dX5_climb_3 rfl (lv_at hl 2 rfl) ?_
  refine xg hF kf_X5_22 hK hP 1 rfl rfl dX5_climb_4 ?_
  refine lv_icmp_ge (tgt := 23) hx hb dX5_climb_7 (by decide) (fun c_1 => ?_) (fun c_1 => absurd (by decide) c_1)
  refine lv_iconst (v := 0) hx hb dX5_climb_23 (by decide) ?_
  refine lv_istore_n (lv' := [(2, .int 0), (0, .ref h0), (1, .ref q1)]) hx hb dX5_climb_24 rfl hl (by decide) rfl (fun ls hl => ?_)
  refine lv_iload_n hx hb dX5_climb_25 rfl (lv_at hl 0 rfl) ?_
  refine lv_aload_n hx hb dX5_climb_26 rfl (lv_at hl 2 rfl) ?_
  refine xg hF kf_X5_22 hK hP 1 rfl rfl dX5_climb_27 ?_
  refine lv_icmp_ge (tgt := 54) hx hb dX5_climb_30 (by decide) (fun c_2 => ?_) (fun c_2 => absurd (by decide) c_2)
  exact W.vret hx hb hr (fun t ht hW => ⟨rfl, trivial, ht⟩) (fun q h => by cases h) dX5_climb_54 hlk
set_option maxHeartbeats 4000000 in
set_option maxRecDepth 100000 in
theorem c_X5_doFit (l : Launch) (D : va_G) (cI cJ cZ cS : ClassId) (sa : Nat → Nat) (sz : Nat) (h0 : Nat) (ah : Nat) (ac : Nat) (aq : Nat) (q1 : Nat) (be : Nat) (bl : Nat) (bu : Nat) (bo : Nat) (br : Nat) (bk : Nat) (bw : Nat) (btt : Nat) (bss : Nat) : Met l yX5_doFit (Cond.code yX5_doFit cX5_doFit 4 (some .boolean) :: wsU) ({ frames := 0, cells := 0, slots := 0, locals := 0 }) (va_Pc [.ref h0, .ref q1] (XW D (xT cI cJ cZ cS) sa [(h0, .inr (5, [.ref ah, .ref ac, .ref aq])), (q1, .inr (1, [.int 0, .ref be, .ref bl, .ref bu, .ref bo, .ref br, .ref bk, .ref bw, .ref btt, .ref bss]))] sz)) (vp_Si (fun r : Int32 => r = 1)) 0 0 (fun _ => False) := by
  refine xh (by decide) (Nat.le_of_ble_eq_true rfl) ?_
  intro p e s m below meth c ls hF hr hlk hin hsz hP hK hD hN hl
  have hF : CallFix p m c cX5_doFit 4 s _ _ RX5 := hF
  have hx := hF.1
  have hb := hF.2.1
  have hml := hF.2.2.1
  have hown := hF.2.2.2.1
  have hu : ∀ w ∈ wsU, w.before _ s = true := fun w h => hF.2.2.2.2 w (List.mem_cons_of_mem _ h)
  have hl : lv_has ls 4 [(0, .ref h0), (1, .ref q1)] := hl
  refine lv_iconst (v := 0) hx hb dX5_doFit_0 (by decide) ?_
  refine lv_istore_n (lv' := [(2, .int 0), (0, .ref h0), (1, .ref q1)]) hx hb dX5_doFit_1 rfl hl (by decide) rfl (fun ls hl => ?_)
  refine lv_iload_n hx hb dX5_doFit_2 rfl (lv_at hl 0 rfl) ?_
  refine lv_aload_n hx hb dX5_doFit_3 rfl (lv_at hl 2 rfl) ?_
  refine xg hF kf_X5_22 hK hP 1 rfl rfl dX5_doFit_4 ?_
  refine lv_icmp_ge (tgt := 67) hx hb dX5_doFit_7 (by decide) (fun c_1 => ?_) (fun c_1 => absurd (by decide) c_1)
  refine lv_iconst (v := 1) hx hb dX5_doFit_67 (by decide) ?_
  exact W.zret (v := 1) hx hb hr rfl (fun t ht hW => ⟨1, rfl, rfl, ht⟩) (fun q h => by cases h) dX5_doFit_68 hlk
set_option maxHeartbeats 4000000 in
set_option maxRecDepth 100000 in
theorem c_X5_mostOffPaper (l : Launch) (D : va_G) (cI cJ cZ cS : ClassId) (sa : Nat → Nat) (sz : Nat) (q1 : Nat) (be : Nat) (bl : Nat) (bu : Nat) (bo : Nat) (br : Nat) (bk : Nat) (bw : Nat) (btt : Nat) (bss : Nat) : Met l yX5_mostOffPaper (Cond.code yX5_mostOffPaper cX5_mostOffPaper 4 (some .int) :: wsU) ({ frames := 0, cells := 0, slots := 0, locals := 0 }) (va_Pc [.ref q1] (XW D (xT cI cJ cZ cS) sa [(q1, .inr (1, [.int 0, .ref be, .ref bl, .ref bu, .ref bo, .ref br, .ref bk, .ref bw, .ref btt, .ref bss]))] sz)) (vp_Si (fun r : Int32 => r = (-1))) 0 0 (fun _ => False) := by
  refine xh (by decide) (Nat.le_of_ble_eq_true rfl) ?_
  intro p e s m below meth c ls hF hr hlk hin hsz hP hK hD hN hl
  have hF : CallFix p m c cX5_mostOffPaper 4 s _ _ RX5 := hF
  have hx := hF.1
  have hb := hF.2.1
  have hml := hF.2.2.1
  have hown := hF.2.2.2.1
  have hu : ∀ w ∈ wsU, w.before _ s = true := fun w h => hF.2.2.2.2 w (List.mem_cons_of_mem _ h)
  have hl : lv_has ls 4 [(0, .ref q1)] := hl
  refine lv_iconst (v := (-1)) hx hb dX5_mostOffPaper_0 (by decide) ?_
  refine lv_istore_n (lv' := [(1, .int (-1)), (0, .ref q1)]) hx hb dX5_mostOffPaper_1 rfl hl (by decide) rfl (fun ls hl => ?_)
  refine lv_iconst (v := 0) hx hb dX5_mostOffPaper_2 (by decide) ?_
  refine lv_istore_n (lv' := [(2, .int 0), (1, .int (-1)), (0, .ref q1)]) hx hb dX5_mostOffPaper_3 rfl hl (by decide) rfl (fun ls hl => ?_)
  refine lv_iload_n hx hb dX5_mostOffPaper_4 rfl (lv_at hl 0 rfl) ?_
  refine lv_aload_n hx hb dX5_mostOffPaper_5 rfl (lv_at hl 2 rfl) ?_
  refine xg hF kf_X5_22 hK hP 0 rfl rfl dX5_mostOffPaper_6 ?_
  refine lv_icmp_ge (tgt := 69) hx hb dX5_mostOffPaper_9 (by decide) (fun c_1 => ?_) (fun c_1 => absurd (by decide) c_1)
  refine lv_iload_n hx hb dX5_mostOffPaper_69 rfl (lv_at hl 1 rfl) ?_
  exact W.iret (v := (-1)) hx hb hr (fun t ht hW => ⟨(-1), rfl, rfl, ht⟩) (fun q h => by cases h) dX5_mostOffPaper_70 hlk
set_option maxHeartbeats 4000000 in
set_option maxRecDepth 100000 in
theorem c_X2_learnIn (l : Launch) (D : va_G) (cI cJ cZ cS : ClassId) (sa : Nat → Nat) (sz : Nat) (h0 : Nat) (q1 : Nat) (be : Nat) (bl : Nat) (bu : Nat) (bo : Nat) (br : Nat) (bk : Nat) (bw : Nat) (btt : Nat) (bss : Nat) (bWn : Nat) (bWp : Nat) : Met l yX2_learnIn (Cond.code yX2_learnIn cX2_learnIn 5 (some .int) :: wsU) ({ frames := 0, cells := 0, slots := 0, locals := 0 }) (va_Pc [.ref h0, .ref q1] (XW D (xT cI cJ cZ cS) sa [(h0, .inr (2, [.int 0, .int 0])), (q1, .inr (1, [.int 0, .ref be, .ref bl, .ref bu, .ref bo, .ref br, .ref bk, .ref bw, .ref btt, .ref bss])), (bw, .inr (3, [.int 0, .ref bWn, .ref bWp]))] sz)) (XQi (fun (r : Int32) (_ : Unit) => r = 0) D (fun _ : Unit => [(h0, .inr (2, [.int 0, .int 0])), (q1, .inr (1, [.int 0, .ref be, .ref bl, .ref bu, .ref bo, .ref br, .ref bk, .ref bw, .ref btt, .ref bss])), (bw, .inr (3, [.int 0, .ref bWn, .ref bWp]))]) (va_A [(h0, .inr (2, [.int 0, .int 0])), (q1, .inr (1, [.int 0, .ref be, .ref bl, .ref bu, .ref bo, .ref br, .ref bk, .ref bw, .ref btt, .ref bss])), (bw, .inr (3, [.int 0, .ref bWn, .ref bWp]))] sz)) 0 0 (va_A [(h0, .inr (2, [.int 0, .int 0])), (q1, .inr (1, [.int 0, .ref be, .ref bl, .ref bu, .ref bo, .ref br, .ref bk, .ref bw, .ref btt, .ref bss])), (bw, .inr (3, [.int 0, .ref bWn, .ref bWp]))] sz) := by
  refine xhw (QA := fun A => XQi (fun (r : Int32) (_ : Unit) => r = 0) D (fun _ : Unit => [(h0, .inr (2, [.int 0, .int 0])), (q1, .inr (1, [.int 0, .ref be, .ref bl, .ref bu, .ref bo, .ref br, .ref bk, .ref bw, .ref btt, .ref bss])), (bw, .inr (3, [.int 0, .ref bWn, .ref bWp]))]) A) (by decide) (Nat.le_of_ble_eq_true rfl) ?_
  intro p e s m below meth c ls A hF hr hlk hin hsz hP hK hD hN hA hS hl
  have hF : CallFix p m c cX2_learnIn 5 s _ _ RX2 := hF
  have hx := hF.1
  have hb := hF.2.1
  have hml := hF.2.2.1
  have hown := hF.2.2.2.1
  have hu : ∀ w ∈ wsU, w.before _ s = true := fun w h => hF.2.2.2.2 w (List.mem_cons_of_mem _ h)
  have hl : lv_has ls 5 [(0, .ref h0), (1, .ref q1)] := hl
  refine lv_aload_n hx hb dX2_learnIn_0 rfl (lv_at hl 0 rfl) ?_
  refine lv_iconst (v := 0) hx hb dX2_learnIn_1 (by decide) ?_
  refine xp hF kf_X2_7 tyX2_ok nmX2 hK hP hD hS 0 rfl rfl rfl rfl (Nat.le_of_ble_eq_true rfl) dX2_learnIn_2 (fun H locs hP hD hS => ?_)
  have hP : va_P D vwCl [(h0, .inr (2, [.int 0, .int 0])), (q1, .inr (1, [.int 0, .ref be, .ref bl, .ref bu, .ref bo, .ref br, .ref bk, .ref bw, .ref btt, .ref bss])), (bw, .inr (3, [.int 0, .ref bWn, .ref bWp]))] H := hP
  have hD : va_D A [(h0, .inr (2, [.int 0, .int 0])), (q1, .inr (1, [.int 0, .ref be, .ref bl, .ref bu, .ref bo, .ref br, .ref bk, .ref bw, .ref btt, .ref bss])), (bw, .inr (3, [.int 0, .ref bWn, .ref bWp]))] := hD
  refine lv_iconst (v := 0) hx hb dX2_learnIn_5 (by decide) ?_
  refine lv_istore_n (lv' := [(2, .int 0), (0, .ref h0), (1, .ref q1)]) hx hb dX2_learnIn_6 rfl hl (by decide) rfl (fun ls hl => ?_)
  refine lv_iconst (v := 0) hx hb dX2_learnIn_7 (by decide) ?_
  refine lv_istore_n (lv' := [(3, .int 0), (2, .int 0), (0, .ref h0), (1, .ref q1)]) hx hb dX2_learnIn_8 rfl hl (by decide) rfl (fun ls hl => ?_)
  refine lv_iload_n hx hb dX2_learnIn_9 rfl (lv_at hl 0 rfl) ?_
  refine lv_bipush (v := 50) hx hb dX2_learnIn_10 (by decide) ?_
  refine lv_icmp_ge (tgt := 82) hx hb dX2_learnIn_12 (by decide) (fun c_1 => absurd c_1 (by decide)) (fun c_1 => ?_)
  refine lv_aload_n hx hb dX2_learnIn_15 rfl (lv_at hl 2 rfl) ?_
  refine lv_iconst (v := 0) hx hb dX2_learnIn_16 (by decide) ?_
  refine xp hF kf_X2_13 tyX2_ok nmX2 hK hP hD hS 0 rfl rfl rfl rfl (Nat.le_of_ble_eq_true rfl) dX2_learnIn_17 (fun H locs hP hD hS => ?_)
  have hP : va_P D vwCl [(h0, .inr (2, [.int 0, .int 0])), (q1, .inr (1, [.int 0, .ref be, .ref bl, .ref bu, .ref bo, .ref br, .ref bk, .ref bw, .ref btt, .ref bss])), (bw, .inr (3, [.int 0, .ref bWn, .ref bWp]))] H := hP
  have hD : va_D A [(h0, .inr (2, [.int 0, .int 0])), (q1, .inr (1, [.int 0, .ref be, .ref bl, .ref bu, .ref bo, .ref br, .ref bk, .ref bw, .ref btt, .ref bss])), (bw, .inr (3, [.int 0, .ref bWn, .ref bWp]))] := hD
  refine lv_iconst (v := 0) hx hb dX2_learnIn_20 (by decide) ?_
  refine lv_istore (lv' := [(4, .int 0), (3, .int 0), (2, .int 0), (0, .ref h0), (1, .ref q1)]) hx hb dX2_learnIn_21 hl (by decide) rfl (fun ls hl => ?_)
  refine lv_iload hx hb dX2_learnIn_23 (lv_at hl 0 rfl) ?_
  refine lv_aload_n hx hb dX2_learnIn_25 rfl (lv_at hl 4 rfl) ?_
  refine xg hF kf_X2_17 hK hP 1 rfl rfl dX2_learnIn_26 ?_
  refine xg hF kf_X2_23 hK hP 2 rfl rfl dX2_learnIn_29 ?_
  refine lv_icmp_ge (tgt := 64) hx hb dX2_learnIn_32 (by decide) (fun c_2 => ?_) (fun c_2 => absurd (by decide) c_2)
  refine lv_aload_n hx hb dX2_learnIn_64 rfl (lv_at hl 3 rfl) ?_
  refine xg hF kf_X2_13 hK hP 0 rfl rfl dX2_learnIn_65 ?_
  refine lv_if_ne (tgt := 73) hx hb dX2_learnIn_68 (by decide) (fun c_3 => absurd (by decide) c_3) (fun c_3 => ?_)
  refine lv_iload_n hx hb dX2_learnIn_71 rfl (lv_at hl 2 rfl) ?_
  exact W.iret (v := 0) hx hb hr (fun t ht hW => ⟨⟨0, (), rfl, rfl, by rw [ht]; exact hP.sub [0, 1, 2] rfl, hD.sub [0, 1, 2] (by decide) rfl⟩, hS.F ht⟩) hS.2.2 dX2_learnIn_72 hlk
set_option maxHeartbeats 4000000 in
set_option maxRecDepth 100000 in
theorem c_X3_become (l : Launch) (D : va_G) (cI cJ cZ cS : ClassId) (sa : Nat → Nat) (sz : Nat) (h0 : Nat) (an : Nat) (ap : Nat) (q1 : Nat) (bn : Nat) (bp : Nat) : Met l yX3_become (Cond.code yX3_become cX3_become 2 none :: wsU) ({ frames := 1, cells := 0, slots := 0, locals := 60 }) (va_Pc [.ref h0, .ref q1] (XW D (xT cI cJ cZ cS) sa [(h0, .inr (3, [.int 0, .ref an, .ref ap])), (an, .inl (cI, 8, .inl (fun _ => 0))), (ap, .inl (cI, 48, .inl (fun _ => 0))), (q1, .inr (3, [.int 0, .ref bn, .ref bp])), (bn, .inl (cI, 8, .inl (fun _ => 0))), (bp, .inl (cI, 48, .inl (fun _ => 0)))] sz)) (XQv (fun _ : Unit => True) D (fun _ : Unit => [(h0, .inr (3, [.int 0, .ref an, .ref ap])), (an, .inl (cI, 8, .inl (fun _ => 0))), (ap, .inl (cI, 48, .inl (fun _ => 0))), (q1, .inr (3, [.int 0, .ref bn, .ref bp])), (bn, .inl (cI, 8, .inl (fun _ => 0))), (bp, .inl (cI, 48, .inl (fun _ => 0)))]) (va_A [(h0, .inr (3, [.int 0, .ref an, .ref ap])), (an, .inl (cI, 8, .inl (fun _ => 0))), (ap, .inl (cI, 48, .inl (fun _ => 0))), (q1, .inr (3, [.int 0, .ref bn, .ref bp])), (bn, .inl (cI, 8, .inl (fun _ => 0))), (bp, .inl (cI, 48, .inl (fun _ => 0)))] sz)) 0 0 (va_A [(h0, .inr (3, [.int 0, .ref an, .ref ap])), (an, .inl (cI, 8, .inl (fun _ => 0))), (ap, .inl (cI, 48, .inl (fun _ => 0))), (q1, .inr (3, [.int 0, .ref bn, .ref bp])), (bn, .inl (cI, 8, .inl (fun _ => 0))), (bp, .inl (cI, 48, .inl (fun _ => 0)))] sz) := by
  refine xhw (QA := fun A => XQv (fun _ : Unit => True) D (fun _ : Unit => [(h0, .inr (3, [.int 0, .ref an, .ref ap])), (an, .inl (cI, 8, .inl (fun _ => 0))), (ap, .inl (cI, 48, .inl (fun _ => 0))), (q1, .inr (3, [.int 0, .ref bn, .ref bp])), (bn, .inl (cI, 8, .inl (fun _ => 0))), (bp, .inl (cI, 48, .inl (fun _ => 0)))]) A) (by decide) (Nat.le_of_ble_eq_true rfl) ?_
  intro p e s m below meth c ls A hF hr hlk hin hsz hP hK hD hN hA hS hl
  have hF : CallFix p m c cX3_become 2 s _ _ RX3 := hF
  have hx := hF.1
  have hb := hF.2.1
  have hml := hF.2.2.1
  have hown := hF.2.2.2.1
  have hu : ∀ w ∈ wsU, w.before _ s = true := fun w h => hF.2.2.2.2 w (List.mem_cons_of_mem _ h)
  have hl : lv_has ls 2 [(0, .ref h0), (1, .ref q1)] := hl
  refine lv_aload_n hx hb dX3_become_0 rfl (lv_at hl 0 rfl) ?_
  refine lv_aload_n hx hb dX3_become_1 rfl (lv_at hl 1 rfl) ?_
  refine xg hF kf_X3_9 hK hP 3 rfl rfl dX3_become_2 ?_
  refine xp hF kf_X3_9 tyX3_ok nmX3 hK hP hD hS 0 rfl rfl rfl rfl (Nat.le_of_ble_eq_true rfl) dX3_become_5 (fun H locs hP hD hS => ?_)
  have hP : va_P D vwCl [(h0, .inr (3, [.int 0, .ref an, .ref ap])), (an, .inl (cI, 8, .inl (fun _ => 0))), (ap, .inl (cI, 48, .inl (fun _ => 0))), (q1, .inr (3, [.int 0, .ref bn, .ref bp])), (bn, .inl (cI, 8, .inl (fun _ => 0))), (bp, .inl (cI, 48, .inl (fun _ => 0)))] H := hP
  have hD : va_D A [(h0, .inr (3, [.int 0, .ref an, .ref ap])), (an, .inl (cI, 8, .inl (fun _ => 0))), (ap, .inl (cI, 48, .inl (fun _ => 0))), (q1, .inr (3, [.int 0, .ref bn, .ref bp])), (bn, .inl (cI, 8, .inl (fun _ => 0))), (bp, .inl (cI, 48, .inl (fun _ => 0)))] := hD
  refine lv_aload_n hx hb dX3_become_8 rfl (lv_at hl 1 rfl) ?_
  refine xg hF kf_X3_15 hK hP 3 rfl rfl dX3_become_9 ?_
  refine lv_iconst (v := 0) hx hb dX3_become_12 (by decide) ?_
  refine lv_aload_n hx hb dX3_become_13 rfl (lv_at hl 0 rfl) ?_
  refine xg hF kf_X3_15 hK hP 0 rfl rfl dX3_become_14 ?_
  refine lv_iconst (v := 0) hx hb dX3_become_17 (by decide) ?_
  refine lv_bipush (v := 8) hx hb dX3_become_18 (by decide) ?_
  refine va_copyi hx hb (hml.trans hl.1.symm) hown (hu _ uw58) (hu _ uw59) (hu _ uw60) (hu _ uw61) hK hP hD hS 4 1 0 0 rfl rfl rfl rfl rfl (by decide) (by decide) (by decide) (by decide) (by decide) (fun _ _ => rfl) (Nat.le_of_ble_eq_true rfl) (by decide) dX3_become_20 (fun H locs hP hD hS => ?_)
  rw [show va_cpy (fun _ => (0 : Int32)) (fun _ => (0 : Int32)) (0 : Int32).toNatClampNeg (0 : Int32).toNatClampNeg (8 : Int32).toNatClampNeg = (fun _ => (0 : Int32)) from xcpy0 _ _ _] at hP hD
  have hP : va_P D vwCl [(h0, .inr (3, [.int 0, .ref an, .ref ap])), (an, .inl (cI, 8, .inl (fun _ => 0))), (ap, .inl (cI, 48, .inl (fun _ => 0))), (q1, .inr (3, [.int 0, .ref bn, .ref bp])), (bn, .inl (cI, 8, .inl (fun _ => 0))), (bp, .inl (cI, 48, .inl (fun _ => 0)))] H := hP
  have hD : va_D A [(h0, .inr (3, [.int 0, .ref an, .ref ap])), (an, .inl (cI, 8, .inl (fun _ => 0))), (ap, .inl (cI, 48, .inl (fun _ => 0))), (q1, .inr (3, [.int 0, .ref bn, .ref bp])), (bn, .inl (cI, 8, .inl (fun _ => 0))), (bp, .inl (cI, 48, .inl (fun _ => 0)))] := hD
  refine lv_aload_n hx hb dX3_become_23 rfl (lv_at hl 1 rfl) ?_
  refine xg hF kf_X3_19 hK hP 3 rfl rfl dX3_become_24 ?_
  refine lv_iconst (v := 0) hx hb dX3_become_27 (by decide) ?_
  refine lv_aload_n hx hb dX3_become_28 rfl (lv_at hl 0 rfl) ?_
  refine xg hF kf_X3_19 hK hP 0 rfl rfl dX3_become_29 ?_
  refine lv_iconst (v := 0) hx hb dX3_become_32 (by decide) ?_
  refine lv_bipush (v := 48) hx hb dX3_become_33 (by decide) ?_
  refine va_copyi hx hb (hml.trans hl.1.symm) hown (hu _ uw58) (hu _ uw59) (hu _ uw60) (hu _ uw61) hK hP hD hS 5 2 0 0 rfl rfl rfl rfl rfl (by decide) (by decide) (by decide) (by decide) (by decide) (fun _ _ => rfl) (Nat.le_of_ble_eq_true rfl) (by decide) dX3_become_35 (fun H locs hP hD hS => ?_)
  rw [show va_cpy (fun _ => (0 : Int32)) (fun _ => (0 : Int32)) (0 : Int32).toNatClampNeg (0 : Int32).toNatClampNeg (48 : Int32).toNatClampNeg = (fun _ => (0 : Int32)) from xcpy0 _ _ _] at hP hD
  have hP : va_P D vwCl [(h0, .inr (3, [.int 0, .ref an, .ref ap])), (an, .inl (cI, 8, .inl (fun _ => 0))), (ap, .inl (cI, 48, .inl (fun _ => 0))), (q1, .inr (3, [.int 0, .ref bn, .ref bp])), (bn, .inl (cI, 8, .inl (fun _ => 0))), (bp, .inl (cI, 48, .inl (fun _ => 0)))] H := hP
  have hD : va_D A [(h0, .inr (3, [.int 0, .ref an, .ref ap])), (an, .inl (cI, 8, .inl (fun _ => 0))), (ap, .inl (cI, 48, .inl (fun _ => 0))), (q1, .inr (3, [.int 0, .ref bn, .ref bp])), (bn, .inl (cI, 8, .inl (fun _ => 0))), (bp, .inl (cI, 48, .inl (fun _ => 0)))] := hD
  exact W.vret hx hb hr (fun t ht hW => ⟨⟨(), rfl, trivial, by rw [ht]; exact hP.sub [0, 1, 2, 3, 4, 5] rfl, hD.sub [0, 1, 2, 3, 4, 5] (by decide) rfl⟩, hS.F ht⟩) hS.2.2 dX3_become_38 hlk
set_option maxHeartbeats 4000000 in
set_option maxRecDepth 100000 in
theorem c_X1_become (l : Launch) (D : va_G) (cI cJ cZ cS : ClassId) (sa : Nat → Nat) (sz : Nat) (h0 : Nat) (ae : Nat) (al : Nat) (au : Nat) (ao : Nat) (ar : Nat) (ak : Nat) (aw : Nat) (att : Nat) (ass : Nat) (aRn : Nat) (aRp : Nat) (aWn : Nat) (aWp : Nat) (q1 : Nat) (be : Nat) (bl : Nat) (bu : Nat) (bo : Nat) (br : Nat) (bk : Nat) (bw : Nat) (btt : Nat) (bss : Nat) (bRn : Nat) (bRp : Nat) (bWn : Nat) (bWp : Nat) : Met l yX1_become (Cond.code yX1_become cX1_become 2 none :: wsU) ({ frames := 2, cells := 0, slots := 0, locals := 81 }) (va_Pc [.ref h0, .ref q1] (XW D (xT cI cJ cZ cS) sa [(h0, .inr (1, [.int 0, .ref ae, .ref al, .ref au, .ref ao, .ref ar, .ref ak, .ref aw, .ref att, .ref ass])), (ae, .inl (cI, 10, .inl (fun _ => 0))), (al, .inl (cI, 100, .inl (fun _ => 0))), (au, .inl (cI, 100, .inl (fun _ => 0))), (ao, .inl (cI, 100, .inl (fun _ => 0))), (ar, .inr (3, [.int 0, .ref aRn, .ref aRp])), (aRn, .inl (cI, 8, .inl (fun _ => 0))), (aRp, .inl (cI, 48, .inl (fun _ => 0))), (ak, .inl (cI, 8, .inl (fun _ => 0))), (aw, .inr (3, [.int 0, .ref aWn, .ref aWp])), (aWn, .inl (cI, 8, .inl (fun _ => 0))), (aWp, .inl (cI, 48, .inl (fun _ => 0))), (att, .inl (cI, 8, .inl (fun _ => 0))), (ass, .inl (cI, 8, .inl (fun _ => 0))), (q1, .inr (1, [.int 0, .ref be, .ref bl, .ref bu, .ref bo, .ref br, .ref bk, .ref bw, .ref btt, .ref bss])), (be, .inl (cI, 10, .inl (fun _ => 0))), (bl, .inl (cI, 100, .inl (fun _ => 0))), (bu, .inl (cI, 100, .inl (fun _ => 0))), (bo, .inl (cI, 100, .inl (fun _ => 0))), (br, .inr (3, [.int 0, .ref bRn, .ref bRp])), (bRn, .inl (cI, 8, .inl (fun _ => 0))), (bRp, .inl (cI, 48, .inl (fun _ => 0))), (bk, .inl (cI, 8, .inl (fun _ => 0))), (bw, .inr (3, [.int 0, .ref bWn, .ref bWp])), (bWn, .inl (cI, 8, .inl (fun _ => 0))), (bWp, .inl (cI, 48, .inl (fun _ => 0))), (btt, .inl (cI, 8, .inl (fun _ => 0))), (bss, .inl (cI, 8, .inl (fun _ => 0)))] sz)) (XQv (fun _ : Unit => True) D (fun _ : Unit => [(h0, .inr (1, [.int 0, .ref ae, .ref al, .ref au, .ref ao, .ref ar, .ref ak, .ref aw, .ref att, .ref ass])), (ae, .inl (cI, 10, .inl (fun _ => 0))), (al, .inl (cI, 100, .inl (fun _ => 0))), (au, .inl (cI, 100, .inl (fun _ => 0))), (ao, .inl (cI, 100, .inl (fun _ => 0))), (ak, .inl (cI, 8, .inl (fun _ => 0))), (att, .inl (cI, 8, .inl (fun _ => 0))), (ass, .inl (cI, 8, .inl (fun _ => 0))), (q1, .inr (1, [.int 0, .ref be, .ref bl, .ref bu, .ref bo, .ref br, .ref bk, .ref bw, .ref btt, .ref bss])), (be, .inl (cI, 10, .inl (fun _ => 0))), (bl, .inl (cI, 100, .inl (fun _ => 0))), (bu, .inl (cI, 100, .inl (fun _ => 0))), (bo, .inl (cI, 100, .inl (fun _ => 0))), (bk, .inl (cI, 8, .inl (fun _ => 0))), (btt, .inl (cI, 8, .inl (fun _ => 0))), (bss, .inl (cI, 8, .inl (fun _ => 0))), (ar, .inr (3, [.int 0, .ref aRn, .ref aRp])), (aRn, .inl (cI, 8, .inl (fun _ => 0))), (aRp, .inl (cI, 48, .inl (fun _ => 0))), (br, .inr (3, [.int 0, .ref bRn, .ref bRp])), (bRn, .inl (cI, 8, .inl (fun _ => 0))), (bRp, .inl (cI, 48, .inl (fun _ => 0))), (aw, .inr (3, [.int 0, .ref aWn, .ref aWp])), (aWn, .inl (cI, 8, .inl (fun _ => 0))), (aWp, .inl (cI, 48, .inl (fun _ => 0))), (bw, .inr (3, [.int 0, .ref bWn, .ref bWp])), (bWn, .inl (cI, 8, .inl (fun _ => 0))), (bWp, .inl (cI, 48, .inl (fun _ => 0)))]) (va_A [(h0, .inr (1, [.int 0, .ref ae, .ref al, .ref au, .ref ao, .ref ar, .ref ak, .ref aw, .ref att, .ref ass])), (ae, .inl (cI, 10, .inl (fun _ => 0))), (al, .inl (cI, 100, .inl (fun _ => 0))), (au, .inl (cI, 100, .inl (fun _ => 0))), (ao, .inl (cI, 100, .inl (fun _ => 0))), (ar, .inr (3, [.int 0, .ref aRn, .ref aRp])), (aRn, .inl (cI, 8, .inl (fun _ => 0))), (aRp, .inl (cI, 48, .inl (fun _ => 0))), (ak, .inl (cI, 8, .inl (fun _ => 0))), (aw, .inr (3, [.int 0, .ref aWn, .ref aWp])), (aWn, .inl (cI, 8, .inl (fun _ => 0))), (aWp, .inl (cI, 48, .inl (fun _ => 0))), (att, .inl (cI, 8, .inl (fun _ => 0))), (ass, .inl (cI, 8, .inl (fun _ => 0))), (q1, .inr (1, [.int 0, .ref be, .ref bl, .ref bu, .ref bo, .ref br, .ref bk, .ref bw, .ref btt, .ref bss])), (be, .inl (cI, 10, .inl (fun _ => 0))), (bl, .inl (cI, 100, .inl (fun _ => 0))), (bu, .inl (cI, 100, .inl (fun _ => 0))), (bo, .inl (cI, 100, .inl (fun _ => 0))), (br, .inr (3, [.int 0, .ref bRn, .ref bRp])), (bRn, .inl (cI, 8, .inl (fun _ => 0))), (bRp, .inl (cI, 48, .inl (fun _ => 0))), (bk, .inl (cI, 8, .inl (fun _ => 0))), (bw, .inr (3, [.int 0, .ref bWn, .ref bWp])), (bWn, .inl (cI, 8, .inl (fun _ => 0))), (bWp, .inl (cI, 48, .inl (fun _ => 0))), (btt, .inl (cI, 8, .inl (fun _ => 0))), (bss, .inl (cI, 8, .inl (fun _ => 0)))] sz)) 0 0 (va_A [(h0, .inr (1, [.int 0, .ref ae, .ref al, .ref au, .ref ao, .ref ar, .ref ak, .ref aw, .ref att, .ref ass])), (ae, .inl (cI, 10, .inl (fun _ => 0))), (al, .inl (cI, 100, .inl (fun _ => 0))), (au, .inl (cI, 100, .inl (fun _ => 0))), (ao, .inl (cI, 100, .inl (fun _ => 0))), (ar, .inr (3, [.int 0, .ref aRn, .ref aRp])), (aRn, .inl (cI, 8, .inl (fun _ => 0))), (aRp, .inl (cI, 48, .inl (fun _ => 0))), (ak, .inl (cI, 8, .inl (fun _ => 0))), (aw, .inr (3, [.int 0, .ref aWn, .ref aWp])), (aWn, .inl (cI, 8, .inl (fun _ => 0))), (aWp, .inl (cI, 48, .inl (fun _ => 0))), (att, .inl (cI, 8, .inl (fun _ => 0))), (ass, .inl (cI, 8, .inl (fun _ => 0))), (q1, .inr (1, [.int 0, .ref be, .ref bl, .ref bu, .ref bo, .ref br, .ref bk, .ref bw, .ref btt, .ref bss])), (be, .inl (cI, 10, .inl (fun _ => 0))), (bl, .inl (cI, 100, .inl (fun _ => 0))), (bu, .inl (cI, 100, .inl (fun _ => 0))), (bo, .inl (cI, 100, .inl (fun _ => 0))), (br, .inr (3, [.int 0, .ref bRn, .ref bRp])), (bRn, .inl (cI, 8, .inl (fun _ => 0))), (bRp, .inl (cI, 48, .inl (fun _ => 0))), (bk, .inl (cI, 8, .inl (fun _ => 0))), (bw, .inr (3, [.int 0, .ref bWn, .ref bWp])), (bWn, .inl (cI, 8, .inl (fun _ => 0))), (bWp, .inl (cI, 48, .inl (fun _ => 0))), (btt, .inl (cI, 8, .inl (fun _ => 0))), (bss, .inl (cI, 8, .inl (fun _ => 0)))] sz) := by
  refine xhw (QA := fun A => XQv (fun _ : Unit => True) D (fun _ : Unit => [(h0, .inr (1, [.int 0, .ref ae, .ref al, .ref au, .ref ao, .ref ar, .ref ak, .ref aw, .ref att, .ref ass])), (ae, .inl (cI, 10, .inl (fun _ => 0))), (al, .inl (cI, 100, .inl (fun _ => 0))), (au, .inl (cI, 100, .inl (fun _ => 0))), (ao, .inl (cI, 100, .inl (fun _ => 0))), (ak, .inl (cI, 8, .inl (fun _ => 0))), (att, .inl (cI, 8, .inl (fun _ => 0))), (ass, .inl (cI, 8, .inl (fun _ => 0))), (q1, .inr (1, [.int 0, .ref be, .ref bl, .ref bu, .ref bo, .ref br, .ref bk, .ref bw, .ref btt, .ref bss])), (be, .inl (cI, 10, .inl (fun _ => 0))), (bl, .inl (cI, 100, .inl (fun _ => 0))), (bu, .inl (cI, 100, .inl (fun _ => 0))), (bo, .inl (cI, 100, .inl (fun _ => 0))), (bk, .inl (cI, 8, .inl (fun _ => 0))), (btt, .inl (cI, 8, .inl (fun _ => 0))), (bss, .inl (cI, 8, .inl (fun _ => 0))), (ar, .inr (3, [.int 0, .ref aRn, .ref aRp])), (aRn, .inl (cI, 8, .inl (fun _ => 0))), (aRp, .inl (cI, 48, .inl (fun _ => 0))), (br, .inr (3, [.int 0, .ref bRn, .ref bRp])), (bRn, .inl (cI, 8, .inl (fun _ => 0))), (bRp, .inl (cI, 48, .inl (fun _ => 0))), (aw, .inr (3, [.int 0, .ref aWn, .ref aWp])), (aWn, .inl (cI, 8, .inl (fun _ => 0))), (aWp, .inl (cI, 48, .inl (fun _ => 0))), (bw, .inr (3, [.int 0, .ref bWn, .ref bWp])), (bWn, .inl (cI, 8, .inl (fun _ => 0))), (bWp, .inl (cI, 48, .inl (fun _ => 0)))]) A) (by decide) (Nat.le_of_ble_eq_true rfl) ?_
  intro p e s m below meth c ls A hF hr hlk hin hsz hP hK hD hN hA hS hl
  have hF : CallFix p m c cX1_become 2 s _ _ RX1 := hF
  have hx := hF.1
  have hb := hF.2.1
  have hml := hF.2.2.1
  have hown := hF.2.2.2.1
  have hu : ∀ w ∈ wsU, w.before _ s = true := fun w h => hF.2.2.2.2 w (List.mem_cons_of_mem _ h)
  have hl : lv_has ls 2 [(0, .ref h0), (1, .ref q1)] := hl
  refine lv_aload_n hx hb dX1_become_0 rfl (lv_at hl 0 rfl) ?_
  refine lv_aload_n hx hb dX1_become_1 rfl (lv_at hl 1 rfl) ?_
  refine xg hF kf_X1_9 hK hP 14 rfl rfl dX1_become_2 ?_
  refine xp hF kf_X1_9 tyX1_ok nmX1 hK hP hD hS 0 rfl rfl rfl rfl (Nat.le_of_ble_eq_true rfl) dX1_become_5 (fun H locs hP hD hS => ?_)
  have hP : va_P D vwCl [(h0, .inr (1, [.int 0, .ref ae, .ref al, .ref au, .ref ao, .ref ar, .ref ak, .ref aw, .ref att, .ref ass])), (ae, .inl (cI, 10, .inl (fun _ => 0))), (al, .inl (cI, 100, .inl (fun _ => 0))), (au, .inl (cI, 100, .inl (fun _ => 0))), (ao, .inl (cI, 100, .inl (fun _ => 0))), (ar, .inr (3, [.int 0, .ref aRn, .ref aRp])), (aRn, .inl (cI, 8, .inl (fun _ => 0))), (aRp, .inl (cI, 48, .inl (fun _ => 0))), (ak, .inl (cI, 8, .inl (fun _ => 0))), (aw, .inr (3, [.int 0, .ref aWn, .ref aWp])), (aWn, .inl (cI, 8, .inl (fun _ => 0))), (aWp, .inl (cI, 48, .inl (fun _ => 0))), (att, .inl (cI, 8, .inl (fun _ => 0))), (ass, .inl (cI, 8, .inl (fun _ => 0))), (q1, .inr (1, [.int 0, .ref be, .ref bl, .ref bu, .ref bo, .ref br, .ref bk, .ref bw, .ref btt, .ref bss])), (be, .inl (cI, 10, .inl (fun _ => 0))), (bl, .inl (cI, 100, .inl (fun _ => 0))), (bu, .inl (cI, 100, .inl (fun _ => 0))), (bo, .inl (cI, 100, .inl (fun _ => 0))), (br, .inr (3, [.int 0, .ref bRn, .ref bRp])), (bRn, .inl (cI, 8, .inl (fun _ => 0))), (bRp, .inl (cI, 48, .inl (fun _ => 0))), (bk, .inl (cI, 8, .inl (fun _ => 0))), (bw, .inr (3, [.int 0, .ref bWn, .ref bWp])), (bWn, .inl (cI, 8, .inl (fun _ => 0))), (bWp, .inl (cI, 48, .inl (fun _ => 0))), (btt, .inl (cI, 8, .inl (fun _ => 0))), (bss, .inl (cI, 8, .inl (fun _ => 0)))] H := hP
  have hD : va_D A [(h0, .inr (1, [.int 0, .ref ae, .ref al, .ref au, .ref ao, .ref ar, .ref ak, .ref aw, .ref att, .ref ass])), (ae, .inl (cI, 10, .inl (fun _ => 0))), (al, .inl (cI, 100, .inl (fun _ => 0))), (au, .inl (cI, 100, .inl (fun _ => 0))), (ao, .inl (cI, 100, .inl (fun _ => 0))), (ar, .inr (3, [.int 0, .ref aRn, .ref aRp])), (aRn, .inl (cI, 8, .inl (fun _ => 0))), (aRp, .inl (cI, 48, .inl (fun _ => 0))), (ak, .inl (cI, 8, .inl (fun _ => 0))), (aw, .inr (3, [.int 0, .ref aWn, .ref aWp])), (aWn, .inl (cI, 8, .inl (fun _ => 0))), (aWp, .inl (cI, 48, .inl (fun _ => 0))), (att, .inl (cI, 8, .inl (fun _ => 0))), (ass, .inl (cI, 8, .inl (fun _ => 0))), (q1, .inr (1, [.int 0, .ref be, .ref bl, .ref bu, .ref bo, .ref br, .ref bk, .ref bw, .ref btt, .ref bss])), (be, .inl (cI, 10, .inl (fun _ => 0))), (bl, .inl (cI, 100, .inl (fun _ => 0))), (bu, .inl (cI, 100, .inl (fun _ => 0))), (bo, .inl (cI, 100, .inl (fun _ => 0))), (br, .inr (3, [.int 0, .ref bRn, .ref bRp])), (bRn, .inl (cI, 8, .inl (fun _ => 0))), (bRp, .inl (cI, 48, .inl (fun _ => 0))), (bk, .inl (cI, 8, .inl (fun _ => 0))), (bw, .inr (3, [.int 0, .ref bWn, .ref bWp])), (bWn, .inl (cI, 8, .inl (fun _ => 0))), (bWp, .inl (cI, 48, .inl (fun _ => 0))), (btt, .inl (cI, 8, .inl (fun _ => 0))), (bss, .inl (cI, 8, .inl (fun _ => 0)))] := hD
  refine lv_aload_n hx hb dX1_become_8 rfl (lv_at hl 1 rfl) ?_
  refine xg hF kf_X1_15 hK hP 14 rfl rfl dX1_become_9 ?_
  refine lv_iconst (v := 0) hx hb dX1_become_12 (by decide) ?_
  refine lv_aload_n hx hb dX1_become_13 rfl (lv_at hl 0 rfl) ?_
  refine xg hF kf_X1_15 hK hP 0 rfl rfl dX1_become_14 ?_
  refine lv_iconst (v := 0) hx hb dX1_become_17 (by decide) ?_
  refine lv_bipush (v := 10) hx hb dX1_become_18 (by decide) ?_
  refine va_copyi hx hb (hml.trans hl.1.symm) hown (hu _ uw63) (hu _ uw59) (hu _ uw60) (hu _ uw61) hK hP hD hS 15 1 0 0 rfl rfl rfl rfl rfl (by decide) (by decide) (by decide) (by decide) (by decide) (fun _ _ => rfl) (Nat.le_of_ble_eq_true rfl) (by decide) dX1_become_20 (fun H locs hP hD hS => ?_)
  rw [show va_cpy (fun _ => (0 : Int32)) (fun _ => (0 : Int32)) (0 : Int32).toNatClampNeg (0 : Int32).toNatClampNeg (10 : Int32).toNatClampNeg = (fun _ => (0 : Int32)) from xcpy0 _ _ _] at hP hD
  have hP : va_P D vwCl [(h0, .inr (1, [.int 0, .ref ae, .ref al, .ref au, .ref ao, .ref ar, .ref ak, .ref aw, .ref att, .ref ass])), (ae, .inl (cI, 10, .inl (fun _ => 0))), (al, .inl (cI, 100, .inl (fun _ => 0))), (au, .inl (cI, 100, .inl (fun _ => 0))), (ao, .inl (cI, 100, .inl (fun _ => 0))), (ar, .inr (3, [.int 0, .ref aRn, .ref aRp])), (aRn, .inl (cI, 8, .inl (fun _ => 0))), (aRp, .inl (cI, 48, .inl (fun _ => 0))), (ak, .inl (cI, 8, .inl (fun _ => 0))), (aw, .inr (3, [.int 0, .ref aWn, .ref aWp])), (aWn, .inl (cI, 8, .inl (fun _ => 0))), (aWp, .inl (cI, 48, .inl (fun _ => 0))), (att, .inl (cI, 8, .inl (fun _ => 0))), (ass, .inl (cI, 8, .inl (fun _ => 0))), (q1, .inr (1, [.int 0, .ref be, .ref bl, .ref bu, .ref bo, .ref br, .ref bk, .ref bw, .ref btt, .ref bss])), (be, .inl (cI, 10, .inl (fun _ => 0))), (bl, .inl (cI, 100, .inl (fun _ => 0))), (bu, .inl (cI, 100, .inl (fun _ => 0))), (bo, .inl (cI, 100, .inl (fun _ => 0))), (br, .inr (3, [.int 0, .ref bRn, .ref bRp])), (bRn, .inl (cI, 8, .inl (fun _ => 0))), (bRp, .inl (cI, 48, .inl (fun _ => 0))), (bk, .inl (cI, 8, .inl (fun _ => 0))), (bw, .inr (3, [.int 0, .ref bWn, .ref bWp])), (bWn, .inl (cI, 8, .inl (fun _ => 0))), (bWp, .inl (cI, 48, .inl (fun _ => 0))), (btt, .inl (cI, 8, .inl (fun _ => 0))), (bss, .inl (cI, 8, .inl (fun _ => 0)))] H := hP
  have hD : va_D A [(h0, .inr (1, [.int 0, .ref ae, .ref al, .ref au, .ref ao, .ref ar, .ref ak, .ref aw, .ref att, .ref ass])), (ae, .inl (cI, 10, .inl (fun _ => 0))), (al, .inl (cI, 100, .inl (fun _ => 0))), (au, .inl (cI, 100, .inl (fun _ => 0))), (ao, .inl (cI, 100, .inl (fun _ => 0))), (ar, .inr (3, [.int 0, .ref aRn, .ref aRp])), (aRn, .inl (cI, 8, .inl (fun _ => 0))), (aRp, .inl (cI, 48, .inl (fun _ => 0))), (ak, .inl (cI, 8, .inl (fun _ => 0))), (aw, .inr (3, [.int 0, .ref aWn, .ref aWp])), (aWn, .inl (cI, 8, .inl (fun _ => 0))), (aWp, .inl (cI, 48, .inl (fun _ => 0))), (att, .inl (cI, 8, .inl (fun _ => 0))), (ass, .inl (cI, 8, .inl (fun _ => 0))), (q1, .inr (1, [.int 0, .ref be, .ref bl, .ref bu, .ref bo, .ref br, .ref bk, .ref bw, .ref btt, .ref bss])), (be, .inl (cI, 10, .inl (fun _ => 0))), (bl, .inl (cI, 100, .inl (fun _ => 0))), (bu, .inl (cI, 100, .inl (fun _ => 0))), (bo, .inl (cI, 100, .inl (fun _ => 0))), (br, .inr (3, [.int 0, .ref bRn, .ref bRp])), (bRn, .inl (cI, 8, .inl (fun _ => 0))), (bRp, .inl (cI, 48, .inl (fun _ => 0))), (bk, .inl (cI, 8, .inl (fun _ => 0))), (bw, .inr (3, [.int 0, .ref bWn, .ref bWp])), (bWn, .inl (cI, 8, .inl (fun _ => 0))), (bWp, .inl (cI, 48, .inl (fun _ => 0))), (btt, .inl (cI, 8, .inl (fun _ => 0))), (bss, .inl (cI, 8, .inl (fun _ => 0)))] := hD
  refine lv_aload_n hx hb dX1_become_23 rfl (lv_at hl 1 rfl) ?_
  refine xg hF kf_X1_19 hK hP 14 rfl rfl dX1_become_24 ?_
  refine lv_iconst (v := 0) hx hb dX1_become_27 (by decide) ?_
  refine lv_aload_n hx hb dX1_become_28 rfl (lv_at hl 0 rfl) ?_
  refine xg hF kf_X1_19 hK hP 0 rfl rfl dX1_become_29 ?_
  refine lv_iconst (v := 0) hx hb dX1_become_32 (by decide) ?_
  refine lv_bipush (v := 100) hx hb dX1_become_33 (by decide) ?_
  refine va_copyi hx hb (hml.trans hl.1.symm) hown (hu _ uw63) (hu _ uw59) (hu _ uw60) (hu _ uw61) hK hP hD hS 16 2 0 0 rfl rfl rfl rfl rfl (by decide) (by decide) (by decide) (by decide) (by decide) (fun _ _ => rfl) (Nat.le_of_ble_eq_true rfl) (by decide) dX1_become_35 (fun H locs hP hD hS => ?_)
  rw [show va_cpy (fun _ => (0 : Int32)) (fun _ => (0 : Int32)) (0 : Int32).toNatClampNeg (0 : Int32).toNatClampNeg (100 : Int32).toNatClampNeg = (fun _ => (0 : Int32)) from xcpy0 _ _ _] at hP hD
  have hP : va_P D vwCl [(h0, .inr (1, [.int 0, .ref ae, .ref al, .ref au, .ref ao, .ref ar, .ref ak, .ref aw, .ref att, .ref ass])), (ae, .inl (cI, 10, .inl (fun _ => 0))), (al, .inl (cI, 100, .inl (fun _ => 0))), (au, .inl (cI, 100, .inl (fun _ => 0))), (ao, .inl (cI, 100, .inl (fun _ => 0))), (ar, .inr (3, [.int 0, .ref aRn, .ref aRp])), (aRn, .inl (cI, 8, .inl (fun _ => 0))), (aRp, .inl (cI, 48, .inl (fun _ => 0))), (ak, .inl (cI, 8, .inl (fun _ => 0))), (aw, .inr (3, [.int 0, .ref aWn, .ref aWp])), (aWn, .inl (cI, 8, .inl (fun _ => 0))), (aWp, .inl (cI, 48, .inl (fun _ => 0))), (att, .inl (cI, 8, .inl (fun _ => 0))), (ass, .inl (cI, 8, .inl (fun _ => 0))), (q1, .inr (1, [.int 0, .ref be, .ref bl, .ref bu, .ref bo, .ref br, .ref bk, .ref bw, .ref btt, .ref bss])), (be, .inl (cI, 10, .inl (fun _ => 0))), (bl, .inl (cI, 100, .inl (fun _ => 0))), (bu, .inl (cI, 100, .inl (fun _ => 0))), (bo, .inl (cI, 100, .inl (fun _ => 0))), (br, .inr (3, [.int 0, .ref bRn, .ref bRp])), (bRn, .inl (cI, 8, .inl (fun _ => 0))), (bRp, .inl (cI, 48, .inl (fun _ => 0))), (bk, .inl (cI, 8, .inl (fun _ => 0))), (bw, .inr (3, [.int 0, .ref bWn, .ref bWp])), (bWn, .inl (cI, 8, .inl (fun _ => 0))), (bWp, .inl (cI, 48, .inl (fun _ => 0))), (btt, .inl (cI, 8, .inl (fun _ => 0))), (bss, .inl (cI, 8, .inl (fun _ => 0)))] H := hP
  have hD : va_D A [(h0, .inr (1, [.int 0, .ref ae, .ref al, .ref au, .ref ao, .ref ar, .ref ak, .ref aw, .ref att, .ref ass])), (ae, .inl (cI, 10, .inl (fun _ => 0))), (al, .inl (cI, 100, .inl (fun _ => 0))), (au, .inl (cI, 100, .inl (fun _ => 0))), (ao, .inl (cI, 100, .inl (fun _ => 0))), (ar, .inr (3, [.int 0, .ref aRn, .ref aRp])), (aRn, .inl (cI, 8, .inl (fun _ => 0))), (aRp, .inl (cI, 48, .inl (fun _ => 0))), (ak, .inl (cI, 8, .inl (fun _ => 0))), (aw, .inr (3, [.int 0, .ref aWn, .ref aWp])), (aWn, .inl (cI, 8, .inl (fun _ => 0))), (aWp, .inl (cI, 48, .inl (fun _ => 0))), (att, .inl (cI, 8, .inl (fun _ => 0))), (ass, .inl (cI, 8, .inl (fun _ => 0))), (q1, .inr (1, [.int 0, .ref be, .ref bl, .ref bu, .ref bo, .ref br, .ref bk, .ref bw, .ref btt, .ref bss])), (be, .inl (cI, 10, .inl (fun _ => 0))), (bl, .inl (cI, 100, .inl (fun _ => 0))), (bu, .inl (cI, 100, .inl (fun _ => 0))), (bo, .inl (cI, 100, .inl (fun _ => 0))), (br, .inr (3, [.int 0, .ref bRn, .ref bRp])), (bRn, .inl (cI, 8, .inl (fun _ => 0))), (bRp, .inl (cI, 48, .inl (fun _ => 0))), (bk, .inl (cI, 8, .inl (fun _ => 0))), (bw, .inr (3, [.int 0, .ref bWn, .ref bWp])), (bWn, .inl (cI, 8, .inl (fun _ => 0))), (bWp, .inl (cI, 48, .inl (fun _ => 0))), (btt, .inl (cI, 8, .inl (fun _ => 0))), (bss, .inl (cI, 8, .inl (fun _ => 0)))] := hD
  refine lv_aload_n hx hb dX1_become_38 rfl (lv_at hl 1 rfl) ?_
  refine xg hF kf_X1_22 hK hP 14 rfl rfl dX1_become_39 ?_
  refine lv_iconst (v := 0) hx hb dX1_become_42 (by decide) ?_
  refine lv_aload_n hx hb dX1_become_43 rfl (lv_at hl 0 rfl) ?_
  refine xg hF kf_X1_22 hK hP 0 rfl rfl dX1_become_44 ?_
  refine lv_iconst (v := 0) hx hb dX1_become_47 (by decide) ?_
  refine lv_bipush (v := 100) hx hb dX1_become_48 (by decide) ?_
  refine va_copyi hx hb (hml.trans hl.1.symm) hown (hu _ uw63) (hu _ uw59) (hu _ uw60) (hu _ uw61) hK hP hD hS 17 3 0 0 rfl rfl rfl rfl rfl (by decide) (by decide) (by decide) (by decide) (by decide) (fun _ _ => rfl) (Nat.le_of_ble_eq_true rfl) (by decide) dX1_become_50 (fun H locs hP hD hS => ?_)
  rw [show va_cpy (fun _ => (0 : Int32)) (fun _ => (0 : Int32)) (0 : Int32).toNatClampNeg (0 : Int32).toNatClampNeg (100 : Int32).toNatClampNeg = (fun _ => (0 : Int32)) from xcpy0 _ _ _] at hP hD
  have hP : va_P D vwCl [(h0, .inr (1, [.int 0, .ref ae, .ref al, .ref au, .ref ao, .ref ar, .ref ak, .ref aw, .ref att, .ref ass])), (ae, .inl (cI, 10, .inl (fun _ => 0))), (al, .inl (cI, 100, .inl (fun _ => 0))), (au, .inl (cI, 100, .inl (fun _ => 0))), (ao, .inl (cI, 100, .inl (fun _ => 0))), (ar, .inr (3, [.int 0, .ref aRn, .ref aRp])), (aRn, .inl (cI, 8, .inl (fun _ => 0))), (aRp, .inl (cI, 48, .inl (fun _ => 0))), (ak, .inl (cI, 8, .inl (fun _ => 0))), (aw, .inr (3, [.int 0, .ref aWn, .ref aWp])), (aWn, .inl (cI, 8, .inl (fun _ => 0))), (aWp, .inl (cI, 48, .inl (fun _ => 0))), (att, .inl (cI, 8, .inl (fun _ => 0))), (ass, .inl (cI, 8, .inl (fun _ => 0))), (q1, .inr (1, [.int 0, .ref be, .ref bl, .ref bu, .ref bo, .ref br, .ref bk, .ref bw, .ref btt, .ref bss])), (be, .inl (cI, 10, .inl (fun _ => 0))), (bl, .inl (cI, 100, .inl (fun _ => 0))), (bu, .inl (cI, 100, .inl (fun _ => 0))), (bo, .inl (cI, 100, .inl (fun _ => 0))), (br, .inr (3, [.int 0, .ref bRn, .ref bRp])), (bRn, .inl (cI, 8, .inl (fun _ => 0))), (bRp, .inl (cI, 48, .inl (fun _ => 0))), (bk, .inl (cI, 8, .inl (fun _ => 0))), (bw, .inr (3, [.int 0, .ref bWn, .ref bWp])), (bWn, .inl (cI, 8, .inl (fun _ => 0))), (bWp, .inl (cI, 48, .inl (fun _ => 0))), (btt, .inl (cI, 8, .inl (fun _ => 0))), (bss, .inl (cI, 8, .inl (fun _ => 0)))] H := hP
  have hD : va_D A [(h0, .inr (1, [.int 0, .ref ae, .ref al, .ref au, .ref ao, .ref ar, .ref ak, .ref aw, .ref att, .ref ass])), (ae, .inl (cI, 10, .inl (fun _ => 0))), (al, .inl (cI, 100, .inl (fun _ => 0))), (au, .inl (cI, 100, .inl (fun _ => 0))), (ao, .inl (cI, 100, .inl (fun _ => 0))), (ar, .inr (3, [.int 0, .ref aRn, .ref aRp])), (aRn, .inl (cI, 8, .inl (fun _ => 0))), (aRp, .inl (cI, 48, .inl (fun _ => 0))), (ak, .inl (cI, 8, .inl (fun _ => 0))), (aw, .inr (3, [.int 0, .ref aWn, .ref aWp])), (aWn, .inl (cI, 8, .inl (fun _ => 0))), (aWp, .inl (cI, 48, .inl (fun _ => 0))), (att, .inl (cI, 8, .inl (fun _ => 0))), (ass, .inl (cI, 8, .inl (fun _ => 0))), (q1, .inr (1, [.int 0, .ref be, .ref bl, .ref bu, .ref bo, .ref br, .ref bk, .ref bw, .ref btt, .ref bss])), (be, .inl (cI, 10, .inl (fun _ => 0))), (bl, .inl (cI, 100, .inl (fun _ => 0))), (bu, .inl (cI, 100, .inl (fun _ => 0))), (bo, .inl (cI, 100, .inl (fun _ => 0))), (br, .inr (3, [.int 0, .ref bRn, .ref bRp])), (bRn, .inl (cI, 8, .inl (fun _ => 0))), (bRp, .inl (cI, 48, .inl (fun _ => 0))), (bk, .inl (cI, 8, .inl (fun _ => 0))), (bw, .inr (3, [.int 0, .ref bWn, .ref bWp])), (bWn, .inl (cI, 8, .inl (fun _ => 0))), (bWp, .inl (cI, 48, .inl (fun _ => 0))), (btt, .inl (cI, 8, .inl (fun _ => 0))), (bss, .inl (cI, 8, .inl (fun _ => 0)))] := hD
  refine lv_aload_n hx hb dX1_become_53 rfl (lv_at hl 1 rfl) ?_
  refine xg hF kf_X1_25 hK hP 14 rfl rfl dX1_become_54 ?_
  refine lv_iconst (v := 0) hx hb dX1_become_57 (by decide) ?_
  refine lv_aload_n hx hb dX1_become_58 rfl (lv_at hl 0 rfl) ?_
  refine xg hF kf_X1_25 hK hP 0 rfl rfl dX1_become_59 ?_
  refine lv_iconst (v := 0) hx hb dX1_become_62 (by decide) ?_
  refine lv_bipush (v := 100) hx hb dX1_become_63 (by decide) ?_
  refine va_copyi hx hb (hml.trans hl.1.symm) hown (hu _ uw63) (hu _ uw59) (hu _ uw60) (hu _ uw61) hK hP hD hS 18 4 0 0 rfl rfl rfl rfl rfl (by decide) (by decide) (by decide) (by decide) (by decide) (fun _ _ => rfl) (Nat.le_of_ble_eq_true rfl) (by decide) dX1_become_65 (fun H locs hP hD hS => ?_)
  rw [show va_cpy (fun _ => (0 : Int32)) (fun _ => (0 : Int32)) (0 : Int32).toNatClampNeg (0 : Int32).toNatClampNeg (100 : Int32).toNatClampNeg = (fun _ => (0 : Int32)) from xcpy0 _ _ _] at hP hD
  have hP : va_P D vwCl [(h0, .inr (1, [.int 0, .ref ae, .ref al, .ref au, .ref ao, .ref ar, .ref ak, .ref aw, .ref att, .ref ass])), (ae, .inl (cI, 10, .inl (fun _ => 0))), (al, .inl (cI, 100, .inl (fun _ => 0))), (au, .inl (cI, 100, .inl (fun _ => 0))), (ao, .inl (cI, 100, .inl (fun _ => 0))), (ar, .inr (3, [.int 0, .ref aRn, .ref aRp])), (aRn, .inl (cI, 8, .inl (fun _ => 0))), (aRp, .inl (cI, 48, .inl (fun _ => 0))), (ak, .inl (cI, 8, .inl (fun _ => 0))), (aw, .inr (3, [.int 0, .ref aWn, .ref aWp])), (aWn, .inl (cI, 8, .inl (fun _ => 0))), (aWp, .inl (cI, 48, .inl (fun _ => 0))), (att, .inl (cI, 8, .inl (fun _ => 0))), (ass, .inl (cI, 8, .inl (fun _ => 0))), (q1, .inr (1, [.int 0, .ref be, .ref bl, .ref bu, .ref bo, .ref br, .ref bk, .ref bw, .ref btt, .ref bss])), (be, .inl (cI, 10, .inl (fun _ => 0))), (bl, .inl (cI, 100, .inl (fun _ => 0))), (bu, .inl (cI, 100, .inl (fun _ => 0))), (bo, .inl (cI, 100, .inl (fun _ => 0))), (br, .inr (3, [.int 0, .ref bRn, .ref bRp])), (bRn, .inl (cI, 8, .inl (fun _ => 0))), (bRp, .inl (cI, 48, .inl (fun _ => 0))), (bk, .inl (cI, 8, .inl (fun _ => 0))), (bw, .inr (3, [.int 0, .ref bWn, .ref bWp])), (bWn, .inl (cI, 8, .inl (fun _ => 0))), (bWp, .inl (cI, 48, .inl (fun _ => 0))), (btt, .inl (cI, 8, .inl (fun _ => 0))), (bss, .inl (cI, 8, .inl (fun _ => 0)))] H := hP
  have hD : va_D A [(h0, .inr (1, [.int 0, .ref ae, .ref al, .ref au, .ref ao, .ref ar, .ref ak, .ref aw, .ref att, .ref ass])), (ae, .inl (cI, 10, .inl (fun _ => 0))), (al, .inl (cI, 100, .inl (fun _ => 0))), (au, .inl (cI, 100, .inl (fun _ => 0))), (ao, .inl (cI, 100, .inl (fun _ => 0))), (ar, .inr (3, [.int 0, .ref aRn, .ref aRp])), (aRn, .inl (cI, 8, .inl (fun _ => 0))), (aRp, .inl (cI, 48, .inl (fun _ => 0))), (ak, .inl (cI, 8, .inl (fun _ => 0))), (aw, .inr (3, [.int 0, .ref aWn, .ref aWp])), (aWn, .inl (cI, 8, .inl (fun _ => 0))), (aWp, .inl (cI, 48, .inl (fun _ => 0))), (att, .inl (cI, 8, .inl (fun _ => 0))), (ass, .inl (cI, 8, .inl (fun _ => 0))), (q1, .inr (1, [.int 0, .ref be, .ref bl, .ref bu, .ref bo, .ref br, .ref bk, .ref bw, .ref btt, .ref bss])), (be, .inl (cI, 10, .inl (fun _ => 0))), (bl, .inl (cI, 100, .inl (fun _ => 0))), (bu, .inl (cI, 100, .inl (fun _ => 0))), (bo, .inl (cI, 100, .inl (fun _ => 0))), (br, .inr (3, [.int 0, .ref bRn, .ref bRp])), (bRn, .inl (cI, 8, .inl (fun _ => 0))), (bRp, .inl (cI, 48, .inl (fun _ => 0))), (bk, .inl (cI, 8, .inl (fun _ => 0))), (bw, .inr (3, [.int 0, .ref bWn, .ref bWp])), (bWn, .inl (cI, 8, .inl (fun _ => 0))), (bWp, .inl (cI, 48, .inl (fun _ => 0))), (btt, .inl (cI, 8, .inl (fun _ => 0))), (bss, .inl (cI, 8, .inl (fun _ => 0)))] := hD
  refine lv_aload_n hx hb dX1_become_68 rfl (lv_at hl 0 rfl) ?_
  refine xg hF kf_X1_31 hK hP 0 rfl rfl dX1_become_69 ?_
  refine lv_aload_n hx hb dX1_become_72 rfl (lv_at hl 1 rfl) ?_
  refine xg hF kf_X1_31 hK hP 14 rfl rfl dX1_become_73 ?_
  refine xc_Vv (wr := [(h0, .inr (1, [.int 0, .ref ae, .ref al, .ref au, .ref ao, .ref ar, .ref ak, .ref aw, .ref att, .ref ass])), (ae, .inl (cI, 10, .inl (fun _ => 0))), (al, .inl (cI, 100, .inl (fun _ => 0))), (au, .inl (cI, 100, .inl (fun _ => 0))), (ao, .inl (cI, 100, .inl (fun _ => 0))), (ak, .inl (cI, 8, .inl (fun _ => 0))), (aw, .inr (3, [.int 0, .ref aWn, .ref aWp])), (aWn, .inl (cI, 8, .inl (fun _ => 0))), (aWp, .inl (cI, 48, .inl (fun _ => 0))), (att, .inl (cI, 8, .inl (fun _ => 0))), (ass, .inl (cI, 8, .inl (fun _ => 0))), (q1, .inr (1, [.int 0, .ref be, .ref bl, .ref bu, .ref bo, .ref br, .ref bk, .ref bw, .ref btt, .ref bss])), (be, .inl (cI, 10, .inl (fun _ => 0))), (bl, .inl (cI, 100, .inl (fun _ => 0))), (bu, .inl (cI, 100, .inl (fun _ => 0))), (bo, .inl (cI, 100, .inl (fun _ => 0))), (bk, .inl (cI, 8, .inl (fun _ => 0))), (bw, .inr (3, [.int 0, .ref bWn, .ref bWp])), (bWn, .inl (cI, 8, .inl (fun _ => 0))), (bWp, .inl (cI, 48, .inl (fun _ => 0))), (btt, .inl (cI, 8, .inl (fun _ => 0))), (bss, .inl (cI, 8, .inl (fun _ => 0)))]) hF (c_X3_become l D cI cJ cZ cS sa H.size ar aRn aRp br bRn bRp ) kv_X1_53 ⟨rfl, rfl, Nat.le_of_ble_eq_true rfl, Nat.le_of_ble_eq_true rfl⟩ ⟨Nat.le_of_ble_eq_true rfl, Nat.le_of_ble_eq_true rfl⟩ hK hN hP hD hS hA [5, 6, 7, 19, 20, 21] [0, 1, 2, 3, 4, 8, 9, 10, 11, 12, 13, 14, 15, 16, 17, 18, 22, 23, 24, 25, 26, 27] rfl rfl rfl rfl (by decide) 0 rfl rfl rfl rfl hl.1 rfl (Nat.le_of_ble_eq_true rfl) dX1_become_76 (fun u_r_5 H locs hw_r_5 hP hD hS => ?_)
  have hP : va_P D vwCl [(h0, .inr (1, [.int 0, .ref ae, .ref al, .ref au, .ref ao, .ref ar, .ref ak, .ref aw, .ref att, .ref ass])), (ae, .inl (cI, 10, .inl (fun _ => 0))), (al, .inl (cI, 100, .inl (fun _ => 0))), (au, .inl (cI, 100, .inl (fun _ => 0))), (ao, .inl (cI, 100, .inl (fun _ => 0))), (ak, .inl (cI, 8, .inl (fun _ => 0))), (aw, .inr (3, [.int 0, .ref aWn, .ref aWp])), (aWn, .inl (cI, 8, .inl (fun _ => 0))), (aWp, .inl (cI, 48, .inl (fun _ => 0))), (att, .inl (cI, 8, .inl (fun _ => 0))), (ass, .inl (cI, 8, .inl (fun _ => 0))), (q1, .inr (1, [.int 0, .ref be, .ref bl, .ref bu, .ref bo, .ref br, .ref bk, .ref bw, .ref btt, .ref bss])), (be, .inl (cI, 10, .inl (fun _ => 0))), (bl, .inl (cI, 100, .inl (fun _ => 0))), (bu, .inl (cI, 100, .inl (fun _ => 0))), (bo, .inl (cI, 100, .inl (fun _ => 0))), (bk, .inl (cI, 8, .inl (fun _ => 0))), (bw, .inr (3, [.int 0, .ref bWn, .ref bWp])), (bWn, .inl (cI, 8, .inl (fun _ => 0))), (bWp, .inl (cI, 48, .inl (fun _ => 0))), (btt, .inl (cI, 8, .inl (fun _ => 0))), (bss, .inl (cI, 8, .inl (fun _ => 0))), (ar, .inr (3, [.int 0, .ref aRn, .ref aRp])), (aRn, .inl (cI, 8, .inl (fun _ => 0))), (aRp, .inl (cI, 48, .inl (fun _ => 0))), (br, .inr (3, [.int 0, .ref bRn, .ref bRp])), (bRn, .inl (cI, 8, .inl (fun _ => 0))), (bRp, .inl (cI, 48, .inl (fun _ => 0)))] H := hP
  have hD : va_D A [(h0, .inr (1, [.int 0, .ref ae, .ref al, .ref au, .ref ao, .ref ar, .ref ak, .ref aw, .ref att, .ref ass])), (ae, .inl (cI, 10, .inl (fun _ => 0))), (al, .inl (cI, 100, .inl (fun _ => 0))), (au, .inl (cI, 100, .inl (fun _ => 0))), (ao, .inl (cI, 100, .inl (fun _ => 0))), (ak, .inl (cI, 8, .inl (fun _ => 0))), (aw, .inr (3, [.int 0, .ref aWn, .ref aWp])), (aWn, .inl (cI, 8, .inl (fun _ => 0))), (aWp, .inl (cI, 48, .inl (fun _ => 0))), (att, .inl (cI, 8, .inl (fun _ => 0))), (ass, .inl (cI, 8, .inl (fun _ => 0))), (q1, .inr (1, [.int 0, .ref be, .ref bl, .ref bu, .ref bo, .ref br, .ref bk, .ref bw, .ref btt, .ref bss])), (be, .inl (cI, 10, .inl (fun _ => 0))), (bl, .inl (cI, 100, .inl (fun _ => 0))), (bu, .inl (cI, 100, .inl (fun _ => 0))), (bo, .inl (cI, 100, .inl (fun _ => 0))), (bk, .inl (cI, 8, .inl (fun _ => 0))), (bw, .inr (3, [.int 0, .ref bWn, .ref bWp])), (bWn, .inl (cI, 8, .inl (fun _ => 0))), (bWp, .inl (cI, 48, .inl (fun _ => 0))), (btt, .inl (cI, 8, .inl (fun _ => 0))), (bss, .inl (cI, 8, .inl (fun _ => 0))), (ar, .inr (3, [.int 0, .ref aRn, .ref aRp])), (aRn, .inl (cI, 8, .inl (fun _ => 0))), (aRp, .inl (cI, 48, .inl (fun _ => 0))), (br, .inr (3, [.int 0, .ref bRn, .ref bRp])), (bRn, .inl (cI, 8, .inl (fun _ => 0))), (bRp, .inl (cI, 48, .inl (fun _ => 0)))] := hD
  refine lv_aload_n hx hb dX1_become_79 rfl (lv_at hl 1 rfl) ?_
  refine xg hF kf_X1_35 hK hP 11 rfl rfl dX1_become_80 ?_
  refine lv_iconst (v := 0) hx hb dX1_become_83 (by decide) ?_
  refine lv_aload_n hx hb dX1_become_84 rfl (lv_at hl 0 rfl) ?_
  refine xg hF kf_X1_35 hK hP 0 rfl rfl dX1_become_85 ?_
  refine lv_iconst (v := 0) hx hb dX1_become_88 (by decide) ?_
  refine lv_bipush (v := 8) hx hb dX1_become_89 (by decide) ?_
  refine va_copyi hx hb (hml.trans hl.1.symm) hown (hu _ uw63) (hu _ uw59) (hu _ uw60) (hu _ uw61) hK hP hD hS 16 5 0 0 rfl rfl rfl rfl rfl (by decide) (by decide) (by decide) (by decide) (by decide) (fun _ _ => rfl) (Nat.le_of_ble_eq_true rfl) (by decide) dX1_become_91 (fun H locs hP hD hS => ?_)
  rw [show va_cpy (fun _ => (0 : Int32)) (fun _ => (0 : Int32)) (0 : Int32).toNatClampNeg (0 : Int32).toNatClampNeg (8 : Int32).toNatClampNeg = (fun _ => (0 : Int32)) from xcpy0 _ _ _] at hP hD
  have hP : va_P D vwCl [(h0, .inr (1, [.int 0, .ref ae, .ref al, .ref au, .ref ao, .ref ar, .ref ak, .ref aw, .ref att, .ref ass])), (ae, .inl (cI, 10, .inl (fun _ => 0))), (al, .inl (cI, 100, .inl (fun _ => 0))), (au, .inl (cI, 100, .inl (fun _ => 0))), (ao, .inl (cI, 100, .inl (fun _ => 0))), (ak, .inl (cI, 8, .inl (fun _ => 0))), (aw, .inr (3, [.int 0, .ref aWn, .ref aWp])), (aWn, .inl (cI, 8, .inl (fun _ => 0))), (aWp, .inl (cI, 48, .inl (fun _ => 0))), (att, .inl (cI, 8, .inl (fun _ => 0))), (ass, .inl (cI, 8, .inl (fun _ => 0))), (q1, .inr (1, [.int 0, .ref be, .ref bl, .ref bu, .ref bo, .ref br, .ref bk, .ref bw, .ref btt, .ref bss])), (be, .inl (cI, 10, .inl (fun _ => 0))), (bl, .inl (cI, 100, .inl (fun _ => 0))), (bu, .inl (cI, 100, .inl (fun _ => 0))), (bo, .inl (cI, 100, .inl (fun _ => 0))), (bk, .inl (cI, 8, .inl (fun _ => 0))), (bw, .inr (3, [.int 0, .ref bWn, .ref bWp])), (bWn, .inl (cI, 8, .inl (fun _ => 0))), (bWp, .inl (cI, 48, .inl (fun _ => 0))), (btt, .inl (cI, 8, .inl (fun _ => 0))), (bss, .inl (cI, 8, .inl (fun _ => 0))), (ar, .inr (3, [.int 0, .ref aRn, .ref aRp])), (aRn, .inl (cI, 8, .inl (fun _ => 0))), (aRp, .inl (cI, 48, .inl (fun _ => 0))), (br, .inr (3, [.int 0, .ref bRn, .ref bRp])), (bRn, .inl (cI, 8, .inl (fun _ => 0))), (bRp, .inl (cI, 48, .inl (fun _ => 0)))] H := hP
  have hD : va_D A [(h0, .inr (1, [.int 0, .ref ae, .ref al, .ref au, .ref ao, .ref ar, .ref ak, .ref aw, .ref att, .ref ass])), (ae, .inl (cI, 10, .inl (fun _ => 0))), (al, .inl (cI, 100, .inl (fun _ => 0))), (au, .inl (cI, 100, .inl (fun _ => 0))), (ao, .inl (cI, 100, .inl (fun _ => 0))), (ak, .inl (cI, 8, .inl (fun _ => 0))), (aw, .inr (3, [.int 0, .ref aWn, .ref aWp])), (aWn, .inl (cI, 8, .inl (fun _ => 0))), (aWp, .inl (cI, 48, .inl (fun _ => 0))), (att, .inl (cI, 8, .inl (fun _ => 0))), (ass, .inl (cI, 8, .inl (fun _ => 0))), (q1, .inr (1, [.int 0, .ref be, .ref bl, .ref bu, .ref bo, .ref br, .ref bk, .ref bw, .ref btt, .ref bss])), (be, .inl (cI, 10, .inl (fun _ => 0))), (bl, .inl (cI, 100, .inl (fun _ => 0))), (bu, .inl (cI, 100, .inl (fun _ => 0))), (bo, .inl (cI, 100, .inl (fun _ => 0))), (bk, .inl (cI, 8, .inl (fun _ => 0))), (bw, .inr (3, [.int 0, .ref bWn, .ref bWp])), (bWn, .inl (cI, 8, .inl (fun _ => 0))), (bWp, .inl (cI, 48, .inl (fun _ => 0))), (btt, .inl (cI, 8, .inl (fun _ => 0))), (bss, .inl (cI, 8, .inl (fun _ => 0))), (ar, .inr (3, [.int 0, .ref aRn, .ref aRp])), (aRn, .inl (cI, 8, .inl (fun _ => 0))), (aRp, .inl (cI, 48, .inl (fun _ => 0))), (br, .inr (3, [.int 0, .ref bRn, .ref bRp])), (bRn, .inl (cI, 8, .inl (fun _ => 0))), (bRp, .inl (cI, 48, .inl (fun _ => 0)))] := hD
  refine lv_aload_n hx hb dX1_become_94 rfl (lv_at hl 0 rfl) ?_
  refine xg hF kf_X1_38 hK hP 0 rfl rfl dX1_become_95 ?_
  refine lv_aload_n hx hb dX1_become_98 rfl (lv_at hl 1 rfl) ?_
  refine xg hF kf_X1_38 hK hP 11 rfl rfl dX1_become_99 ?_
  refine xc_Vv (wr := [(h0, .inr (1, [.int 0, .ref ae, .ref al, .ref au, .ref ao, .ref ar, .ref ak, .ref aw, .ref att, .ref ass])), (ae, .inl (cI, 10, .inl (fun _ => 0))), (al, .inl (cI, 100, .inl (fun _ => 0))), (au, .inl (cI, 100, .inl (fun _ => 0))), (ao, .inl (cI, 100, .inl (fun _ => 0))), (ak, .inl (cI, 8, .inl (fun _ => 0))), (att, .inl (cI, 8, .inl (fun _ => 0))), (ass, .inl (cI, 8, .inl (fun _ => 0))), (q1, .inr (1, [.int 0, .ref be, .ref bl, .ref bu, .ref bo, .ref br, .ref bk, .ref bw, .ref btt, .ref bss])), (be, .inl (cI, 10, .inl (fun _ => 0))), (bl, .inl (cI, 100, .inl (fun _ => 0))), (bu, .inl (cI, 100, .inl (fun _ => 0))), (bo, .inl (cI, 100, .inl (fun _ => 0))), (bk, .inl (cI, 8, .inl (fun _ => 0))), (btt, .inl (cI, 8, .inl (fun _ => 0))), (bss, .inl (cI, 8, .inl (fun _ => 0))), (ar, .inr (3, [.int 0, .ref aRn, .ref aRp])), (aRn, .inl (cI, 8, .inl (fun _ => 0))), (aRp, .inl (cI, 48, .inl (fun _ => 0))), (br, .inr (3, [.int 0, .ref bRn, .ref bRp])), (bRn, .inl (cI, 8, .inl (fun _ => 0))), (bRp, .inl (cI, 48, .inl (fun _ => 0)))]) hF (c_X3_become l D cI cJ cZ cS sa H.size aw aWn aWp bw bWn bWp ) kv_X1_53 ⟨rfl, rfl, Nat.le_of_ble_eq_true rfl, Nat.le_of_ble_eq_true rfl⟩ ⟨Nat.le_of_ble_eq_true rfl, Nat.le_of_ble_eq_true rfl⟩ hK hN hP hD hS hA [6, 7, 8, 17, 18, 19] [0, 1, 2, 3, 4, 5, 9, 10, 11, 12, 13, 14, 15, 16, 20, 21, 22, 23, 24, 25, 26, 27] rfl rfl rfl rfl (by decide) 0 rfl rfl rfl rfl hl.1 rfl (Nat.le_of_ble_eq_true rfl) dX1_become_102 (fun u_r_7 H locs hw_r_7 hP hD hS => ?_)
  have hP : va_P D vwCl [(h0, .inr (1, [.int 0, .ref ae, .ref al, .ref au, .ref ao, .ref ar, .ref ak, .ref aw, .ref att, .ref ass])), (ae, .inl (cI, 10, .inl (fun _ => 0))), (al, .inl (cI, 100, .inl (fun _ => 0))), (au, .inl (cI, 100, .inl (fun _ => 0))), (ao, .inl (cI, 100, .inl (fun _ => 0))), (ak, .inl (cI, 8, .inl (fun _ => 0))), (att, .inl (cI, 8, .inl (fun _ => 0))), (ass, .inl (cI, 8, .inl (fun _ => 0))), (q1, .inr (1, [.int 0, .ref be, .ref bl, .ref bu, .ref bo, .ref br, .ref bk, .ref bw, .ref btt, .ref bss])), (be, .inl (cI, 10, .inl (fun _ => 0))), (bl, .inl (cI, 100, .inl (fun _ => 0))), (bu, .inl (cI, 100, .inl (fun _ => 0))), (bo, .inl (cI, 100, .inl (fun _ => 0))), (bk, .inl (cI, 8, .inl (fun _ => 0))), (btt, .inl (cI, 8, .inl (fun _ => 0))), (bss, .inl (cI, 8, .inl (fun _ => 0))), (ar, .inr (3, [.int 0, .ref aRn, .ref aRp])), (aRn, .inl (cI, 8, .inl (fun _ => 0))), (aRp, .inl (cI, 48, .inl (fun _ => 0))), (br, .inr (3, [.int 0, .ref bRn, .ref bRp])), (bRn, .inl (cI, 8, .inl (fun _ => 0))), (bRp, .inl (cI, 48, .inl (fun _ => 0))), (aw, .inr (3, [.int 0, .ref aWn, .ref aWp])), (aWn, .inl (cI, 8, .inl (fun _ => 0))), (aWp, .inl (cI, 48, .inl (fun _ => 0))), (bw, .inr (3, [.int 0, .ref bWn, .ref bWp])), (bWn, .inl (cI, 8, .inl (fun _ => 0))), (bWp, .inl (cI, 48, .inl (fun _ => 0)))] H := hP
  have hD : va_D A [(h0, .inr (1, [.int 0, .ref ae, .ref al, .ref au, .ref ao, .ref ar, .ref ak, .ref aw, .ref att, .ref ass])), (ae, .inl (cI, 10, .inl (fun _ => 0))), (al, .inl (cI, 100, .inl (fun _ => 0))), (au, .inl (cI, 100, .inl (fun _ => 0))), (ao, .inl (cI, 100, .inl (fun _ => 0))), (ak, .inl (cI, 8, .inl (fun _ => 0))), (att, .inl (cI, 8, .inl (fun _ => 0))), (ass, .inl (cI, 8, .inl (fun _ => 0))), (q1, .inr (1, [.int 0, .ref be, .ref bl, .ref bu, .ref bo, .ref br, .ref bk, .ref bw, .ref btt, .ref bss])), (be, .inl (cI, 10, .inl (fun _ => 0))), (bl, .inl (cI, 100, .inl (fun _ => 0))), (bu, .inl (cI, 100, .inl (fun _ => 0))), (bo, .inl (cI, 100, .inl (fun _ => 0))), (bk, .inl (cI, 8, .inl (fun _ => 0))), (btt, .inl (cI, 8, .inl (fun _ => 0))), (bss, .inl (cI, 8, .inl (fun _ => 0))), (ar, .inr (3, [.int 0, .ref aRn, .ref aRp])), (aRn, .inl (cI, 8, .inl (fun _ => 0))), (aRp, .inl (cI, 48, .inl (fun _ => 0))), (br, .inr (3, [.int 0, .ref bRn, .ref bRp])), (bRn, .inl (cI, 8, .inl (fun _ => 0))), (bRp, .inl (cI, 48, .inl (fun _ => 0))), (aw, .inr (3, [.int 0, .ref aWn, .ref aWp])), (aWn, .inl (cI, 8, .inl (fun _ => 0))), (aWp, .inl (cI, 48, .inl (fun _ => 0))), (bw, .inr (3, [.int 0, .ref bWn, .ref bWp])), (bWn, .inl (cI, 8, .inl (fun _ => 0))), (bWp, .inl (cI, 48, .inl (fun _ => 0)))] := hD
  refine lv_aload_n hx hb dX1_become_105 rfl (lv_at hl 1 rfl) ?_
  refine xg hF kf_X1_41 hK hP 8 rfl rfl dX1_become_106 ?_
  refine lv_iconst (v := 0) hx hb dX1_become_109 (by decide) ?_
  refine lv_aload_n hx hb dX1_become_110 rfl (lv_at hl 0 rfl) ?_
  refine xg hF kf_X1_41 hK hP 0 rfl rfl dX1_become_111 ?_
  refine lv_iconst (v := 0) hx hb dX1_become_114 (by decide) ?_
  refine lv_bipush (v := 8) hx hb dX1_become_115 (by decide) ?_
  refine va_copyi hx hb (hml.trans hl.1.symm) hown (hu _ uw63) (hu _ uw59) (hu _ uw60) (hu _ uw61) hK hP hD hS 14 6 0 0 rfl rfl rfl rfl rfl (by decide) (by decide) (by decide) (by decide) (by decide) (fun _ _ => rfl) (Nat.le_of_ble_eq_true rfl) (by decide) dX1_become_117 (fun H locs hP hD hS => ?_)
  rw [show va_cpy (fun _ => (0 : Int32)) (fun _ => (0 : Int32)) (0 : Int32).toNatClampNeg (0 : Int32).toNatClampNeg (8 : Int32).toNatClampNeg = (fun _ => (0 : Int32)) from xcpy0 _ _ _] at hP hD
  have hP : va_P D vwCl [(h0, .inr (1, [.int 0, .ref ae, .ref al, .ref au, .ref ao, .ref ar, .ref ak, .ref aw, .ref att, .ref ass])), (ae, .inl (cI, 10, .inl (fun _ => 0))), (al, .inl (cI, 100, .inl (fun _ => 0))), (au, .inl (cI, 100, .inl (fun _ => 0))), (ao, .inl (cI, 100, .inl (fun _ => 0))), (ak, .inl (cI, 8, .inl (fun _ => 0))), (att, .inl (cI, 8, .inl (fun _ => 0))), (ass, .inl (cI, 8, .inl (fun _ => 0))), (q1, .inr (1, [.int 0, .ref be, .ref bl, .ref bu, .ref bo, .ref br, .ref bk, .ref bw, .ref btt, .ref bss])), (be, .inl (cI, 10, .inl (fun _ => 0))), (bl, .inl (cI, 100, .inl (fun _ => 0))), (bu, .inl (cI, 100, .inl (fun _ => 0))), (bo, .inl (cI, 100, .inl (fun _ => 0))), (bk, .inl (cI, 8, .inl (fun _ => 0))), (btt, .inl (cI, 8, .inl (fun _ => 0))), (bss, .inl (cI, 8, .inl (fun _ => 0))), (ar, .inr (3, [.int 0, .ref aRn, .ref aRp])), (aRn, .inl (cI, 8, .inl (fun _ => 0))), (aRp, .inl (cI, 48, .inl (fun _ => 0))), (br, .inr (3, [.int 0, .ref bRn, .ref bRp])), (bRn, .inl (cI, 8, .inl (fun _ => 0))), (bRp, .inl (cI, 48, .inl (fun _ => 0))), (aw, .inr (3, [.int 0, .ref aWn, .ref aWp])), (aWn, .inl (cI, 8, .inl (fun _ => 0))), (aWp, .inl (cI, 48, .inl (fun _ => 0))), (bw, .inr (3, [.int 0, .ref bWn, .ref bWp])), (bWn, .inl (cI, 8, .inl (fun _ => 0))), (bWp, .inl (cI, 48, .inl (fun _ => 0)))] H := hP
  have hD : va_D A [(h0, .inr (1, [.int 0, .ref ae, .ref al, .ref au, .ref ao, .ref ar, .ref ak, .ref aw, .ref att, .ref ass])), (ae, .inl (cI, 10, .inl (fun _ => 0))), (al, .inl (cI, 100, .inl (fun _ => 0))), (au, .inl (cI, 100, .inl (fun _ => 0))), (ao, .inl (cI, 100, .inl (fun _ => 0))), (ak, .inl (cI, 8, .inl (fun _ => 0))), (att, .inl (cI, 8, .inl (fun _ => 0))), (ass, .inl (cI, 8, .inl (fun _ => 0))), (q1, .inr (1, [.int 0, .ref be, .ref bl, .ref bu, .ref bo, .ref br, .ref bk, .ref bw, .ref btt, .ref bss])), (be, .inl (cI, 10, .inl (fun _ => 0))), (bl, .inl (cI, 100, .inl (fun _ => 0))), (bu, .inl (cI, 100, .inl (fun _ => 0))), (bo, .inl (cI, 100, .inl (fun _ => 0))), (bk, .inl (cI, 8, .inl (fun _ => 0))), (btt, .inl (cI, 8, .inl (fun _ => 0))), (bss, .inl (cI, 8, .inl (fun _ => 0))), (ar, .inr (3, [.int 0, .ref aRn, .ref aRp])), (aRn, .inl (cI, 8, .inl (fun _ => 0))), (aRp, .inl (cI, 48, .inl (fun _ => 0))), (br, .inr (3, [.int 0, .ref bRn, .ref bRp])), (bRn, .inl (cI, 8, .inl (fun _ => 0))), (bRp, .inl (cI, 48, .inl (fun _ => 0))), (aw, .inr (3, [.int 0, .ref aWn, .ref aWp])), (aWn, .inl (cI, 8, .inl (fun _ => 0))), (aWp, .inl (cI, 48, .inl (fun _ => 0))), (bw, .inr (3, [.int 0, .ref bWn, .ref bWp])), (bWn, .inl (cI, 8, .inl (fun _ => 0))), (bWp, .inl (cI, 48, .inl (fun _ => 0)))] := hD
  refine lv_aload_n hx hb dX1_become_120 rfl (lv_at hl 1 rfl) ?_
  refine xg hF kf_X1_44 hK hP 8 rfl rfl dX1_become_121 ?_
  refine lv_iconst (v := 0) hx hb dX1_become_124 (by decide) ?_
  refine lv_aload_n hx hb dX1_become_125 rfl (lv_at hl 0 rfl) ?_
  refine xg hF kf_X1_44 hK hP 0 rfl rfl dX1_become_126 ?_
  refine lv_iconst (v := 0) hx hb dX1_become_129 (by decide) ?_
  refine lv_bipush (v := 8) hx hb dX1_become_130 (by decide) ?_
  refine va_copyi hx hb (hml.trans hl.1.symm) hown (hu _ uw63) (hu _ uw59) (hu _ uw60) (hu _ uw61) hK hP hD hS 15 7 0 0 rfl rfl rfl rfl rfl (by decide) (by decide) (by decide) (by decide) (by decide) (fun _ _ => rfl) (Nat.le_of_ble_eq_true rfl) (by decide) dX1_become_132 (fun H locs hP hD hS => ?_)
  rw [show va_cpy (fun _ => (0 : Int32)) (fun _ => (0 : Int32)) (0 : Int32).toNatClampNeg (0 : Int32).toNatClampNeg (8 : Int32).toNatClampNeg = (fun _ => (0 : Int32)) from xcpy0 _ _ _] at hP hD
  have hP : va_P D vwCl [(h0, .inr (1, [.int 0, .ref ae, .ref al, .ref au, .ref ao, .ref ar, .ref ak, .ref aw, .ref att, .ref ass])), (ae, .inl (cI, 10, .inl (fun _ => 0))), (al, .inl (cI, 100, .inl (fun _ => 0))), (au, .inl (cI, 100, .inl (fun _ => 0))), (ao, .inl (cI, 100, .inl (fun _ => 0))), (ak, .inl (cI, 8, .inl (fun _ => 0))), (att, .inl (cI, 8, .inl (fun _ => 0))), (ass, .inl (cI, 8, .inl (fun _ => 0))), (q1, .inr (1, [.int 0, .ref be, .ref bl, .ref bu, .ref bo, .ref br, .ref bk, .ref bw, .ref btt, .ref bss])), (be, .inl (cI, 10, .inl (fun _ => 0))), (bl, .inl (cI, 100, .inl (fun _ => 0))), (bu, .inl (cI, 100, .inl (fun _ => 0))), (bo, .inl (cI, 100, .inl (fun _ => 0))), (bk, .inl (cI, 8, .inl (fun _ => 0))), (btt, .inl (cI, 8, .inl (fun _ => 0))), (bss, .inl (cI, 8, .inl (fun _ => 0))), (ar, .inr (3, [.int 0, .ref aRn, .ref aRp])), (aRn, .inl (cI, 8, .inl (fun _ => 0))), (aRp, .inl (cI, 48, .inl (fun _ => 0))), (br, .inr (3, [.int 0, .ref bRn, .ref bRp])), (bRn, .inl (cI, 8, .inl (fun _ => 0))), (bRp, .inl (cI, 48, .inl (fun _ => 0))), (aw, .inr (3, [.int 0, .ref aWn, .ref aWp])), (aWn, .inl (cI, 8, .inl (fun _ => 0))), (aWp, .inl (cI, 48, .inl (fun _ => 0))), (bw, .inr (3, [.int 0, .ref bWn, .ref bWp])), (bWn, .inl (cI, 8, .inl (fun _ => 0))), (bWp, .inl (cI, 48, .inl (fun _ => 0)))] H := hP
  have hD : va_D A [(h0, .inr (1, [.int 0, .ref ae, .ref al, .ref au, .ref ao, .ref ar, .ref ak, .ref aw, .ref att, .ref ass])), (ae, .inl (cI, 10, .inl (fun _ => 0))), (al, .inl (cI, 100, .inl (fun _ => 0))), (au, .inl (cI, 100, .inl (fun _ => 0))), (ao, .inl (cI, 100, .inl (fun _ => 0))), (ak, .inl (cI, 8, .inl (fun _ => 0))), (att, .inl (cI, 8, .inl (fun _ => 0))), (ass, .inl (cI, 8, .inl (fun _ => 0))), (q1, .inr (1, [.int 0, .ref be, .ref bl, .ref bu, .ref bo, .ref br, .ref bk, .ref bw, .ref btt, .ref bss])), (be, .inl (cI, 10, .inl (fun _ => 0))), (bl, .inl (cI, 100, .inl (fun _ => 0))), (bu, .inl (cI, 100, .inl (fun _ => 0))), (bo, .inl (cI, 100, .inl (fun _ => 0))), (bk, .inl (cI, 8, .inl (fun _ => 0))), (btt, .inl (cI, 8, .inl (fun _ => 0))), (bss, .inl (cI, 8, .inl (fun _ => 0))), (ar, .inr (3, [.int 0, .ref aRn, .ref aRp])), (aRn, .inl (cI, 8, .inl (fun _ => 0))), (aRp, .inl (cI, 48, .inl (fun _ => 0))), (br, .inr (3, [.int 0, .ref bRn, .ref bRp])), (bRn, .inl (cI, 8, .inl (fun _ => 0))), (bRp, .inl (cI, 48, .inl (fun _ => 0))), (aw, .inr (3, [.int 0, .ref aWn, .ref aWp])), (aWn, .inl (cI, 8, .inl (fun _ => 0))), (aWp, .inl (cI, 48, .inl (fun _ => 0))), (bw, .inr (3, [.int 0, .ref bWn, .ref bWp])), (bWn, .inl (cI, 8, .inl (fun _ => 0))), (bWp, .inl (cI, 48, .inl (fun _ => 0)))] := hD
  exact W.vret hx hb hr (fun t ht hW => ⟨⟨(), rfl, trivial, by rw [ht]; exact hP.sub [0, 1, 2, 3, 4, 5, 6, 7, 8, 9, 10, 11, 12, 13, 14, 15, 16, 17, 18, 19, 20, 21, 22, 23, 24, 25, 26, 27] rfl, hD.sub [0, 1, 2, 3, 4, 5, 6, 7, 8, 9, 10, 11, 12, 13, 14, 15, 16, 17, 18, 19, 20, 21, 22, 23, 24, 25, 26, 27] (by decide) rfl⟩, hS.F ht⟩) hS.2.2 dX1_become_135 hlk
set_option maxHeartbeats 4000000 in
set_option maxRecDepth 100000 in
theorem c_X7_kindAt (l : Launch) (D : va_G) (cI cJ cZ cS : ClassId) (sa : Nat → Nat) (sz : Nat) (h0 : Nat) (ab : Nat) : Met l yX7_kindAt (Cond.code yX7_kindAt cX7_kindAt 3 (some .int) :: wsU) ({ frames := 0, cells := 0, slots := 0, locals := 0 }) (va_Pc [.ref h0, .int 0] (XW D (xT cI cJ cZ cS) sa [(h0, .inr (7, [.int 0, .ref ab, .int 0, .int 0, .int 0, .int 0, .int 0]))] sz)) (vp_Si (fun r : Int32 => r = 0)) 0 0 (fun _ => False) := by
  refine xh (by decide) (Nat.le_of_ble_eq_true rfl) ?_
  intro p e s m below meth c ls hF hr hlk hin hsz hP hK hD hN hl
  have hF : CallFix p m c cX7_kindAt 3 s _ _ RX7 := hF
  have hx := hF.1
  have hb := hF.2.1
  have hml := hF.2.2.1
  have hown := hF.2.2.2.1
  have hu : ∀ w ∈ wsU, w.before _ s = true := fun w h => hF.2.2.2.2 w (List.mem_cons_of_mem _ h)
  have hl : lv_has ls 3 [(0, .ref h0), (1, .int 0)] := hl
  refine lv_iload_n hx hb dX7_kindAt_0 rfl (lv_at hl 1 rfl) ?_
  refine lv_aload_n hx hb dX7_kindAt_1 rfl (lv_at hl 0 rfl) ?_
  refine xg hF kf_X7_9 hK hP 0 rfl rfl dX7_kindAt_2 ?_
  refine lv_icmp_lt (tgt := 10) hx hb dX7_kindAt_5 (by decide) (fun c_1 => absurd c_1 (by decide)) (fun c_1 => ?_)
  refine lv_iconst (v := 0) hx hb dX7_kindAt_8 (by decide) ?_
  exact W.iret (v := 0) hx hb hr (fun t ht hW => ⟨0, rfl, rfl, ht⟩) (fun q h => by cases h) dX7_kindAt_9 hlk
set_option maxHeartbeats 4000000 in
set_option maxRecDepth 100000 in
theorem c_X7_step (l : Launch) (D : va_G) (cI cJ cZ cS : ClassId) (sa : Nat → Nat) (sz : Nat) (h0 : Nat) (ab : Nat) : Met l yX7_step (Cond.code yX7_step cX7_step 3 none :: wsU) ({ frames := 1, cells := 0, slots := 0, locals := 22 }) (va_Pc [.ref h0] (XW D (xT cI cJ cZ cS) sa [(h0, .inr (7, [.int 0, .ref ab, .int 0, .int 0, .int 0, .int 0, .int 0]))] sz)) (XQv (fun _ : Unit => True) D (fun _ : Unit => [(h0, .inr (7, [.int 0, .ref ab, .int 0, .int 0, .int 0, .int 0, .int 0]))]) (va_A [(h0, .inr (7, [.int 0, .ref ab, .int 0, .int 0, .int 0, .int 0, .int 0]))] sz)) 0 0 (va_A [(h0, .inr (7, [.int 0, .ref ab, .int 0, .int 0, .int 0, .int 0, .int 0]))] sz) := by
  refine xhw (QA := fun A => XQv (fun _ : Unit => True) D (fun _ : Unit => [(h0, .inr (7, [.int 0, .ref ab, .int 0, .int 0, .int 0, .int 0, .int 0]))]) A) (by decide) (Nat.le_of_ble_eq_true rfl) ?_
  intro p e s m below meth c ls A hF hr hlk hin hsz hP hK hD hN hA hS hl
  have hF : CallFix p m c cX7_step 3 s _ _ RX7 := hF
  have hx := hF.1
  have hb := hF.2.1
  have hml := hF.2.2.1
  have hown := hF.2.2.2.1
  have hu : ∀ w ∈ wsU, w.before _ s = true := fun w h => hF.2.2.2.2 w (List.mem_cons_of_mem _ h)
  have hl : lv_has ls 3 [(0, .ref h0)] := hl
  refine lv_aload_n hx hb dX7_step_0 rfl (lv_at hl 0 rfl) ?_
  refine xg hF kf_X7_25 hK hP 0 rfl rfl dX7_step_1 ?_
  refine lv_istore_n (lv' := [(1, .int 0), (0, .ref h0)]) hx hb dX7_step_4 rfl hl (by decide) rfl (fun ls hl => ?_)
  refine lv_iload_n hx hb dX7_step_5 rfl (lv_at hl 0 rfl) ?_
  refine lv_aload_n hx hb dX7_step_6 rfl (lv_at hl 1 rfl) ?_
  refine xg hF kf_X7_9 hK hP 0 rfl rfl dX7_step_7 ?_
  refine lv_icmp_ge (tgt := 30) hx hb dX7_step_10 (by decide) (fun c_1 => ?_) (fun c_1 => absurd (by decide) c_1)
  refine lv_aload_n hx hb dX7_step_30 rfl (lv_at hl 1 rfl) ?_
  refine lv_iload_n hx hb dX7_step_31 rfl (lv_at hl 0 rfl) ?_
  refine xp hF kf_X7_22 tyX7_ok nmX7 hK hP hD hS 0 rfl rfl rfl rfl (Nat.le_of_ble_eq_true rfl) dX7_step_32 (fun H locs hP hD hS => ?_)
  have hP : va_P D vwCl [(h0, .inr (7, [.int 0, .ref ab, .int 0, .int 0, .int 0, .int 0, .int 0]))] H := hP
  have hD : va_D A [(h0, .inr (7, [.int 0, .ref ab, .int 0, .int 0, .int 0, .int 0, .int 0]))] := hD
  refine lv_aload_n hx hb dX7_step_35 rfl (lv_at hl 1 rfl) ?_
  refine lv_aload_n hx hb dX7_step_36 rfl (lv_at hl 1 rfl) ?_
  refine lv_iload_n hx hb dX7_step_37 rfl (lv_at hl 0 rfl) ?_
  refine xc_Vr hF (c_X7_kindAt l D cI cJ cZ cS sa H.size h0 ab ) kv_X7_142 ⟨rfl, rfl, Nat.le_of_ble_eq_true rfl, Nat.le_of_ble_eq_true rfl⟩ ⟨Nat.le_of_ble_eq_true rfl, Nat.le_of_ble_eq_true rfl⟩ hK hN hP hD [0] rfl rfl 0 rfl rfl rfl rfl hl.1 rfl (Nat.le_of_ble_eq_true rfl) dX7_step_38 (fun r_2 hw_r_2 => ?_)
  subst hw_r_2
  refine xp hF kf_X7_19 tyX7_ok nmX7 hK hP hD hS 0 rfl rfl rfl rfl (Nat.le_of_ble_eq_true rfl) dX7_step_41 (fun H locs hP hD hS => ?_)
  have hP : va_P D vwCl [(h0, .inr (7, [.int 0, .ref ab, .int 0, .int 0, .int 0, .int 0, .int 0]))] H := hP
  have hD : va_D A [(h0, .inr (7, [.int 0, .ref ab, .int 0, .int 0, .int 0, .int 0, .int 0]))] := hD
  refine lv_aload_n hx hb dX7_step_44 rfl (lv_at hl 1 rfl) ?_
  refine lv_iconst (v := 0) hx hb dX7_step_45 (by decide) ?_
  refine xp hF kf_X7_28 tyX7_ok nmX7 hK hP hD hS 0 rfl rfl rfl rfl (Nat.le_of_ble_eq_true rfl) dX7_step_46 (fun H locs hP hD hS => ?_)
  have hP : va_P D vwCl [(h0, .inr (7, [.int 0, .ref ab, .int 0, .int 0, .int 0, .int 0, .int 0]))] H := hP
  have hD : va_D A [(h0, .inr (7, [.int 0, .ref ab, .int 0, .int 0, .int 0, .int 0, .int 0]))] := hD
  refine lv_aload_n hx hb dX7_step_49 rfl (lv_at hl 1 rfl) ?_
  refine xg hF kf_X7_19 hK hP 0 rfl rfl dX7_step_50 ?_
  refine lv_iconst (v := 1) hx hb dX7_step_53 (by decide) ?_
  refine lv_icmp_eq (tgt := 65) hx hb dX7_step_54 (by decide) (fun c_3 => absurd c_3 (by decide)) (fun c_3 => ?_)
  refine lv_aload_n hx hb dX7_step_57 rfl (lv_at hl 1 rfl) ?_
  refine xg hF kf_X7_19 hK hP 0 rfl rfl dX7_step_58 ?_
  refine lv_iconst (v := 2) hx hb dX7_step_61 (by decide) ?_
  refine lv_icmp_ne (tgt := 69) hx hb dX7_step_62 (by decide) (fun c_4 => ?_) (fun c_4 => absurd c_4 (by decide))
  refine lv_iconst (v := 0) hx hb dX7_step_69 (by decide) ?_
  refine lv_istore_n (lv' := [(2, .int 0), (1, .int 0), (0, .ref h0)]) hx hb dX7_step_70 rfl hl (by decide) rfl (fun ls hl => ?_)
  refine lv_iload_n hx hb dX7_step_71 rfl (lv_at hl 1 rfl) ?_
  refine lv_aload_n hx hb dX7_step_72 rfl (lv_at hl 2 rfl) ?_
  refine xg hF kf_X7_9 hK hP 0 rfl rfl dX7_step_73 ?_
  refine lv_icmp_ge (tgt := 144) hx hb dX7_step_76 (by decide) (fun c_5 => ?_) (fun c_5 => absurd (by decide) c_5)
  refine lv_aload_n hx hb dX7_step_144 rfl (lv_at hl 2 rfl) ?_
  refine lv_iload_n hx hb dX7_step_145 rfl (lv_at hl 1 rfl) ?_
  refine xp hF kf_X7_25 tyX7_ok nmX7 hK hP hD hS 0 rfl rfl rfl rfl (Nat.le_of_ble_eq_true rfl) dX7_step_146 (fun H locs hP hD hS => ?_)
  have hP : va_P D vwCl [(h0, .inr (7, [.int 0, .ref ab, .int 0, .int 0, .int 0, .int 0, .int 0]))] H := hP
  have hD : va_D A [(h0, .inr (7, [.int 0, .ref ab, .int 0, .int 0, .int 0, .int 0, .int 0]))] := hD
  exact W.vret hx hb hr (fun t ht hW => ⟨⟨(), rfl, trivial, by rw [ht]; exact hP.sub [0] rfl, hD.sub [0] (by decide) rfl⟩, hS.F ht⟩) hS.2.2 dX7_step_149 hlk
set_option maxHeartbeats 4000000 in
set_option maxRecDepth 100000 in
theorem c_X7_isWord (l : Launch) (D : va_G) (cI cJ cZ cS : ClassId) (sa : Nat → Nat) (sz : Nat) (h0 : Nat) (ab : Nat) (q1 : Nat) : Met l yX7_isWord (Cond.code yX7_isWord cX7_isWord 3 (some .boolean) :: wsU) ({ frames := 0, cells := 0, slots := 0, locals := 0 }) (va_Pc [.ref h0, .ref q1] (XW D (xT cI cJ cZ cS) sa [(h0, .inr (7, [.int 0, .ref ab, .int 0, .int 0, .int 0, .int 0, .int 0]))] sz)) (vp_Si (fun r : Int32 => r = 0)) 0 0 (fun _ => False) := by
  refine xh (by decide) (Nat.le_of_ble_eq_true rfl) ?_
  intro p e s m below meth c ls hF hr hlk hin hsz hP hK hD hN hl
  have hF : CallFix p m c cX7_isWord 3 s _ _ RX7 := hF
  have hx := hF.1
  have hb := hF.2.1
  have hml := hF.2.2.1
  have hown := hF.2.2.2.1
  have hu : ∀ w ∈ wsU, w.before _ s = true := fun w h => hF.2.2.2.2 w (List.mem_cons_of_mem _ h)
  have hl : lv_has ls 3 [(0, .ref h0), (1, .ref q1)] := hl
  refine lv_aload_n hx hb dX7_isWord_0 rfl (lv_at hl 0 rfl) ?_
  refine xg hF kf_X7_19 hK hP 0 rfl rfl dX7_isWord_1 ?_
  refine lv_iconst (v := 1) hx hb dX7_isWord_4 (by decide) ?_
  refine lv_icmp_ne (tgt := 24) hx hb dX7_isWord_5 (by decide) (fun c_1 => ?_) (fun c_1 => absurd c_1 (by decide))
  refine lv_iconst (v := 0) hx hb dX7_isWord_24 (by decide) ?_
  exact W.zret (v := 0) hx hb hr rfl (fun t ht hW => ⟨0, rfl, rfl, ht⟩) (fun q h => by cases h) dX7_isWord_25 hlk
set_option maxHeartbeats 4000000 in
set_option maxRecDepth 100000 in
theorem c_X7_takeItem (l : Launch) (D : va_G) (cI cJ cZ cS : ClassId) (sa : Nat → Nat) (sz : Nat) (h0 : Nat) (ab : Nat) (q1 : Nat) : Met l yX7_takeItem (Cond.code yX7_takeItem cX7_takeItem 2 (some .boolean) :: wsU) ({ frames := 1, cells := 0, slots := 0, locals := 22 }) (va_Pc [.ref h0, .ref q1] (XW D (xT cI cJ cZ cS) sa [(h0, .inr (7, [.int 0, .ref ab, .int 0, .int 0, .int 0, .int 0, .int 0]))] sz)) (vp_Si (fun r : Int32 => r = 0)) 0 0 (fun _ => False) := by
  refine xh (by decide) (Nat.le_of_ble_eq_true rfl) ?_
  intro p e s m below meth c ls hF hr hlk hin hsz hP hK hD hN hl
  have hF : CallFix p m c cX7_takeItem 2 s _ _ RX7 := hF
  have hx := hF.1
  have hb := hF.2.1
  have hml := hF.2.2.1
  have hown := hF.2.2.2.1
  have hu : ∀ w ∈ wsU, w.before _ s = true := fun w h => hF.2.2.2.2 w (List.mem_cons_of_mem _ h)
  have hl : lv_has ls 2 [(0, .ref h0), (1, .ref q1)] := hl
  refine lv_aload_n hx hb dX7_takeItem_0 rfl (lv_at hl 0 rfl) ?_
  refine va_ldcS (tx := "place") (q := sa 0) hx hb hown (hN.2.2 (41, "place", 0) (by decide)) dX7_takeItem_1 ?_
  refine xc_Vr hF (c_X7_isWord l D cI cJ cZ cS sa s.heap.size h0 ab (sa 0) ) kv_X7_43 ⟨rfl, rfl, Nat.le_of_ble_eq_true rfl, Nat.le_of_ble_eq_true rfl⟩ ⟨Nat.le_of_ble_eq_true rfl, Nat.le_of_ble_eq_true rfl⟩ hK hN hP hD [0] rfl rfl 0 rfl rfl rfl rfl hl.1 rfl (Nat.le_of_ble_eq_true rfl) dX7_takeItem_3 (fun r_1 hw_r_1 => ?_)
  subst hw_r_1
  refine lv_if_eq (tgt := 15) hx hb dX7_takeItem_6 (by decide) (fun c_2 => ?_) (fun c_2 => absurd (by decide) c_2)
  refine lv_aload_n hx hb dX7_takeItem_15 rfl (lv_at hl 0 rfl) ?_
  refine va_ldcS (tx := "way") (q := sa 1) hx hb hown (hN.2.2 (50, "way", 1) (by decide)) dX7_takeItem_16 ?_
  refine xc_Vr hF (c_X7_isWord l D cI cJ cZ cS sa s.heap.size h0 ab (sa 1) ) kv_X7_43 ⟨rfl, rfl, Nat.le_of_ble_eq_true rfl, Nat.le_of_ble_eq_true rfl⟩ ⟨Nat.le_of_ble_eq_true rfl, Nat.le_of_ble_eq_true rfl⟩ hK hN hP hD [0] rfl rfl 0 rfl rfl rfl rfl hl.1 rfl (Nat.le_of_ble_eq_true rfl) dX7_takeItem_18 (fun r_3 hw_r_3 => ?_)
  subst hw_r_3
  refine lv_if_eq (tgt := 30) hx hb dX7_takeItem_21 (by decide) (fun c_4 => ?_) (fun c_4 => absurd (by decide) c_4)
  refine lv_aload_n hx hb dX7_takeItem_30 rfl (lv_at hl 0 rfl) ?_
  refine va_ldcS (tx := "walk") (q := sa 2) hx hb hown (hN.2.2 (55, "walk", 2) (by decide)) dX7_takeItem_31 ?_
  refine xc_Vr hF (c_X7_isWord l D cI cJ cZ cS sa s.heap.size h0 ab (sa 2) ) kv_X7_43 ⟨rfl, rfl, Nat.le_of_ble_eq_true rfl, Nat.le_of_ble_eq_true rfl⟩ ⟨Nat.le_of_ble_eq_true rfl, Nat.le_of_ble_eq_true rfl⟩ hK hN hP hD [0] rfl rfl 0 rfl rfl rfl rfl hl.1 rfl (Nat.le_of_ble_eq_true rfl) dX7_takeItem_33 (fun r_5 hw_r_5 => ?_)
  subst hw_r_5
  refine lv_if_eq (tgt := 51) hx hb dX7_takeItem_36 (by decide) (fun c_6 => ?_) (fun c_6 => absurd (by decide) c_6)
  refine lv_iconst (v := 0) hx hb dX7_takeItem_51 (by decide) ?_
  exact W.zret (v := 0) hx hb hr rfl (fun t ht hW => ⟨0, rfl, rfl, ht⟩) (fun q h => by cases h) dX7_takeItem_52 hlk
set_option maxHeartbeats 4000000 in
set_option maxRecDepth 100000 in
theorem c_X7_tellTo (l : Launch) (D : va_G) (cI cJ cZ cS : ClassId) (sa : Nat → Nat) (sz : Nat) (h0 : Nat) (ab : Nat) (q1 : Nat) : Met l yX7_tellTo (Cond.code yX7_tellTo cX7_tellTo 3 (some .int) :: wsU) ({ frames := 2, cells := 0, slots := 0, locals := 44 }) (va_Pc [.ref h0, .ref q1] (XW D (xT cI cJ cZ cS) sa [(h0, .inr (7, [.int 0, .ref ab, .int 0, .int 0, .int 0, .int 0, .int 0]))] sz)) (XQi (fun (r : Int32) (_ : Unit) => r = (-1)) D (fun _ : Unit => [(h0, .inr (7, [.int 0, .ref ab, .int 0, .int 0, .int 0, .int 0, .int 0]))]) (va_A [(h0, .inr (7, [.int 0, .ref ab, .int 0, .int 0, .int 0, .int 0, .int 0]))] sz)) 0 0 (va_A [(h0, .inr (7, [.int 0, .ref ab, .int 0, .int 0, .int 0, .int 0, .int 0]))] sz) := by
  refine xhw (QA := fun A => XQi (fun (r : Int32) (_ : Unit) => r = (-1)) D (fun _ : Unit => [(h0, .inr (7, [.int 0, .ref ab, .int 0, .int 0, .int 0, .int 0, .int 0]))]) A) (by decide) (Nat.le_of_ble_eq_true rfl) ?_
  intro p e s m below meth c ls A hF hr hlk hin hsz hP hK hD hN hA hS hl
  have hF : CallFix p m c cX7_tellTo 3 s _ _ RX7 := hF
  have hx := hF.1
  have hb := hF.2.1
  have hml := hF.2.2.1
  have hown := hF.2.2.2.1
  have hu : ∀ w ∈ wsU, w.before _ s = true := fun w h => hF.2.2.2.2 w (List.mem_cons_of_mem _ h)
  have hl : lv_has ls 3 [(0, .ref h0), (1, .ref q1)] := hl
  refine lv_aload_n hx hb dX7_tellTo_0 rfl (lv_at hl 0 rfl) ?_
  refine lv_iconst (v := 0) hx hb dX7_tellTo_1 (by decide) ?_
  refine xp hF kf_X7_25 tyX7_ok nmX7 hK hP hD hS 0 rfl rfl rfl rfl (Nat.le_of_ble_eq_true rfl) dX7_tellTo_2 (fun H locs hP hD hS => ?_)
  have hP : va_P D vwCl [(h0, .inr (7, [.int 0, .ref ab, .int 0, .int 0, .int 0, .int 0, .int 0]))] H := hP
  have hD : va_D A [(h0, .inr (7, [.int 0, .ref ab, .int 0, .int 0, .int 0, .int 0, .int 0]))] := hD
  refine lv_aload_n hx hb dX7_tellTo_5 rfl (lv_at hl 0 rfl) ?_
  refine xc_Vv (wr := []) hF (c_X7_step l D cI cJ cZ cS sa H.size h0 ab ) kv_X7_34 ⟨rfl, rfl, Nat.le_of_ble_eq_true rfl, Nat.le_of_ble_eq_true rfl⟩ ⟨Nat.le_of_ble_eq_true rfl, Nat.le_of_ble_eq_true rfl⟩ hK hN hP hD hS hA [0] [] rfl rfl rfl rfl (by decide) 0 rfl rfl rfl rfl hl.1 rfl (Nat.le_of_ble_eq_true rfl) dX7_tellTo_6 (fun u_r_1 H locs hw_r_1 hP hD hS => ?_)
  have hP : va_P D vwCl [(h0, .inr (7, [.int 0, .ref ab, .int 0, .int 0, .int 0, .int 0, .int 0]))] H := hP
  have hD : va_D A [(h0, .inr (7, [.int 0, .ref ab, .int 0, .int 0, .int 0, .int 0, .int 0]))] := hD
  refine lv_iconst (v := 1) hx hb dX7_tellTo_9 (by decide) ?_
  refine lv_istore_n (lv' := [(2, .int 1), (0, .ref h0), (1, .ref q1)]) hx hb dX7_tellTo_10 rfl hl (by decide) rfl (fun ls hl => ?_)
  refine lv_iload_n hx hb dX7_tellTo_11 rfl (lv_at hl 0 rfl) ?_
  refine lv_bipush (v := 120) hx hb dX7_tellTo_12 (by decide) ?_
  refine lv_icmp_gt (tgt := 66) hx hb dX7_tellTo_14 (by decide) (fun c_2 => absurd c_2 (by decide)) (fun c_2 => ?_)
  refine lv_aload_n hx hb dX7_tellTo_17 rfl (lv_at hl 1 rfl) ?_
  refine lv_aload_n hx hb dX7_tellTo_18 rfl (lv_at hl 2 rfl) ?_
  refine xc_Vr hF (c_X7_takeItem l D cI cJ cZ cS sa H.size h0 ab q1 ) kv_X7_37 ⟨rfl, rfl, Nat.le_of_ble_eq_true rfl, Nat.le_of_ble_eq_true rfl⟩ ⟨Nat.le_of_ble_eq_true rfl, Nat.le_of_ble_eq_true rfl⟩ hK hN hP hD [0] rfl rfl 0 rfl rfl rfl rfl hl.1 rfl (Nat.le_of_ble_eq_true rfl) dX7_tellTo_19 (fun r_3 hw_r_3 => ?_)
  subst hw_r_3
  refine lv_if_ne (tgt := 32) hx hb dX7_tellTo_22 (by decide) (fun c_4 => absurd (by decide) c_4) (fun c_4 => ?_)
  refine lv_iconst (v := (-1)) hx hb dX7_tellTo_25 (by decide) ?_
  refine lv_aload_n hx hb dX7_tellTo_26 rfl (lv_at hl 1 rfl) ?_
  refine xg hF kf_X7_22 hK hP 0 rfl rfl dX7_tellTo_27 ?_
  refine lv_isub hx hb dX7_tellTo_30 ?_
  refine xl_i (y := (-1)) (by decide) ?_
  exact W.iret (v := (-1)) hx hb hr (fun t ht hW => ⟨⟨(-1), (), rfl, rfl, by rw [ht]; exact hP.sub [0] rfl, hD.sub [0] (by decide) rfl⟩, hS.F ht⟩) hS.2.2 dX7_tellTo_31 hlk
set_option maxHeartbeats 4000000 in
set_option maxRecDepth 100000 in
theorem c_X7_addByte_0 (l : Launch) (D : va_G) (cI cJ cZ cS : ClassId) (sa : Nat → Nat) (sz : Nat) (h0 : Nat) (ab : Nat) (p0 : Int32) (f : Nat → Int32) : Met l yX7_addByte (Cond.code yX7_addByte cX7_addByte 2 none :: wsU) ({ frames := 0, cells := 0, slots := 0, locals := 0 }) (va_Pc [.ref h0, .int p0] (XW D (xT cI cJ cZ cS) sa [(h0, .inr (7, [.int 0, .ref ab, .int 0, .int 0, .int 0, .int 0, .int 0])), (ab, .inl (cI, 120, .inl f))] sz)) (XQv (fun _ : (Nat → Int32) => True) D (fun (f2 : Nat → Int32) => [(h0, .inr (7, [.int 1, .ref ab, .int 0, .int 0, .int 0, .int 0, .int 0])), (ab, .inl (cI, 120, .inl f2))]) (va_A [(h0, .inr (7, [.int 0, .ref ab, .int 0, .int 0, .int 0, .int 0, .int 0])), (ab, .inl (cI, 120, .inl f))] sz)) 0 0 (va_A [(h0, .inr (7, [.int 0, .ref ab, .int 0, .int 0, .int 0, .int 0, .int 0])), (ab, .inl (cI, 120, .inl f))] sz) := by
  refine xhw (QA := fun A => XQv (fun _ : (Nat → Int32) => True) D (fun (f2 : Nat → Int32) => [(h0, .inr (7, [.int 1, .ref ab, .int 0, .int 0, .int 0, .int 0, .int 0])), (ab, .inl (cI, 120, .inl f2))]) A) (by decide) (Nat.le_of_ble_eq_true rfl) ?_
  intro p e s m below meth c ls A hF hr hlk hin hsz hP hK hD hN hA hS hl
  have hF : CallFix p m c cX7_addByte 2 s _ _ RX7 := hF
  have hx := hF.1
  have hb := hF.2.1
  have hml := hF.2.2.1
  have hown := hF.2.2.2.1
  have hu : ∀ w ∈ wsU, w.before _ s = true := fun w h => hF.2.2.2.2 w (List.mem_cons_of_mem _ h)
  have hl : lv_has ls 2 [(0, .ref h0), (1, .int p0)] := hl
  refine lv_aload_n hx hb dX7_addByte_0 rfl (lv_at hl 0 rfl) ?_
  refine xg hF kf_X7_9 hK hP 0 rfl rfl dX7_addByte_1 ?_
  refine lv_bipush (v := 120) hx hb dX7_addByte_4 (by decide) ?_
  refine lv_icmp_ge (tgt := 29) hx hb dX7_addByte_6 (by decide) (fun c_1 => absurd c_1 (by decide)) (fun c_1 => ?_)
  refine lv_aload_n hx hb dX7_addByte_9 rfl (lv_at hl 0 rfl) ?_
  refine xg hF kf_X7_15 hK hP 0 rfl rfl dX7_addByte_10 ?_
  refine lv_aload_n hx hb dX7_addByte_13 rfl (lv_at hl 0 rfl) ?_
  refine xg hF kf_X7_9 hK hP 0 rfl rfl dX7_addByte_14 ?_
  refine lv_iload_n hx hb dX7_addByte_17 rfl (lv_at hl 1 rfl) ?_
  refine va_iast hx hb hK hP hD hS 1 0 rfl rfl (xin 0 120 (by decide) (by decide)) dX7_addByte_18 (fun H locs hP hD hS => ?_)
  obtain ⟨f_2, ef_2⟩ : ∃ g, g = upd f (0 : Int32).toNatClampNeg p0 := ⟨_, rfl⟩
  rw [← ef_2] at hP hD
  have hP : va_P D vwCl [(h0, .inr (7, [.int 0, .ref ab, .int 0, .int 0, .int 0, .int 0, .int 0])), (ab, .inl (cI, 120, .inl f_2))] H := hP
  have hD : va_D A [(h0, .inr (7, [.int 0, .ref ab, .int 0, .int 0, .int 0, .int 0, .int 0])), (ab, .inl (cI, 120, .inl f_2))] := hD
  refine lv_aload_n hx hb dX7_addByte_19 rfl (lv_at hl 0 rfl) ?_
  refine lv_dup hx hb dX7_addByte_20 rfl ?_
  refine xg hF kf_X7_9 hK hP 0 rfl rfl dX7_addByte_21 ?_
  refine lv_iconst (v := 1) hx hb dX7_addByte_24 (by decide) ?_
  refine lv_iadd hx hb dX7_addByte_25 ?_
  refine xl_i (y := 1) (by decide) ?_
  refine xp hF kf_X7_9 tyX7_ok nmX7 hK hP hD hS 0 rfl rfl rfl rfl (Nat.le_of_ble_eq_true rfl) dX7_addByte_26 (fun H locs hP hD hS => ?_)
  have hP : va_P D vwCl [(h0, .inr (7, [.int 1, .ref ab, .int 0, .int 0, .int 0, .int 0, .int 0])), (ab, .inl (cI, 120, .inl f_2))] H := hP
  have hD : va_D A [(h0, .inr (7, [.int 1, .ref ab, .int 0, .int 0, .int 0, .int 0, .int 0])), (ab, .inl (cI, 120, .inl f_2))] := hD
  exact W.vret hx hb hr (fun t ht hW => ⟨⟨f_2, rfl, trivial, by rw [ht]; exact hP.sub [0, 1] rfl, hD.sub [0, 1] (by decide) rfl⟩, hS.F ht⟩) hS.2.2 dX7_addByte_29 hlk
set_option maxHeartbeats 4000000 in
set_option maxRecDepth 100000 in
theorem c_X7_addByte_1 (l : Launch) (D : va_G) (cI cJ cZ cS : ClassId) (sa : Nat → Nat) (sz : Nat) (h0 : Nat) (ab : Nat) (p0 : Int32) (f : Nat → Int32) : Met l yX7_addByte (Cond.code yX7_addByte cX7_addByte 2 none :: wsU) ({ frames := 0, cells := 0, slots := 0, locals := 0 }) (va_Pc [.ref h0, .int p0] (XW D (xT cI cJ cZ cS) sa [(h0, .inr (7, [.int 1, .ref ab, .int 0, .int 0, .int 0, .int 0, .int 0])), (ab, .inl (cI, 120, .inl f))] sz)) (XQv (fun _ : (Nat → Int32) => True) D (fun (f2 : Nat → Int32) => [(h0, .inr (7, [.int 2, .ref ab, .int 0, .int 0, .int 0, .int 0, .int 0])), (ab, .inl (cI, 120, .inl f2))]) (va_A [(h0, .inr (7, [.int 1, .ref ab, .int 0, .int 0, .int 0, .int 0, .int 0])), (ab, .inl (cI, 120, .inl f))] sz)) 0 0 (va_A [(h0, .inr (7, [.int 1, .ref ab, .int 0, .int 0, .int 0, .int 0, .int 0])), (ab, .inl (cI, 120, .inl f))] sz) := by
  refine xhw (QA := fun A => XQv (fun _ : (Nat → Int32) => True) D (fun (f2 : Nat → Int32) => [(h0, .inr (7, [.int 2, .ref ab, .int 0, .int 0, .int 0, .int 0, .int 0])), (ab, .inl (cI, 120, .inl f2))]) A) (by decide) (Nat.le_of_ble_eq_true rfl) ?_
  intro p e s m below meth c ls A hF hr hlk hin hsz hP hK hD hN hA hS hl
  have hF : CallFix p m c cX7_addByte 2 s _ _ RX7 := hF
  have hx := hF.1
  have hb := hF.2.1
  have hml := hF.2.2.1
  have hown := hF.2.2.2.1
  have hu : ∀ w ∈ wsU, w.before _ s = true := fun w h => hF.2.2.2.2 w (List.mem_cons_of_mem _ h)
  have hl : lv_has ls 2 [(0, .ref h0), (1, .int p0)] := hl
  refine lv_aload_n hx hb dX7_addByte_0 rfl (lv_at hl 0 rfl) ?_
  refine xg hF kf_X7_9 hK hP 0 rfl rfl dX7_addByte_1 ?_
  refine lv_bipush (v := 120) hx hb dX7_addByte_4 (by decide) ?_
  refine lv_icmp_ge (tgt := 29) hx hb dX7_addByte_6 (by decide) (fun c_1 => absurd c_1 (by decide)) (fun c_1 => ?_)
  refine lv_aload_n hx hb dX7_addByte_9 rfl (lv_at hl 0 rfl) ?_
  refine xg hF kf_X7_15 hK hP 0 rfl rfl dX7_addByte_10 ?_
  refine lv_aload_n hx hb dX7_addByte_13 rfl (lv_at hl 0 rfl) ?_
  refine xg hF kf_X7_9 hK hP 0 rfl rfl dX7_addByte_14 ?_
  refine lv_iload_n hx hb dX7_addByte_17 rfl (lv_at hl 1 rfl) ?_
  refine va_iast hx hb hK hP hD hS 1 0 rfl rfl (xin 1 120 (by decide) (by decide)) dX7_addByte_18 (fun H locs hP hD hS => ?_)
  obtain ⟨f_2, ef_2⟩ : ∃ g, g = upd f (1 : Int32).toNatClampNeg p0 := ⟨_, rfl⟩
  rw [← ef_2] at hP hD
  have hP : va_P D vwCl [(h0, .inr (7, [.int 1, .ref ab, .int 0, .int 0, .int 0, .int 0, .int 0])), (ab, .inl (cI, 120, .inl f_2))] H := hP
  have hD : va_D A [(h0, .inr (7, [.int 1, .ref ab, .int 0, .int 0, .int 0, .int 0, .int 0])), (ab, .inl (cI, 120, .inl f_2))] := hD
  refine lv_aload_n hx hb dX7_addByte_19 rfl (lv_at hl 0 rfl) ?_
  refine lv_dup hx hb dX7_addByte_20 rfl ?_
  refine xg hF kf_X7_9 hK hP 0 rfl rfl dX7_addByte_21 ?_
  refine lv_iconst (v := 1) hx hb dX7_addByte_24 (by decide) ?_
  refine lv_iadd hx hb dX7_addByte_25 ?_
  refine xl_i (y := 2) (by decide) ?_
  refine xp hF kf_X7_9 tyX7_ok nmX7 hK hP hD hS 0 rfl rfl rfl rfl (Nat.le_of_ble_eq_true rfl) dX7_addByte_26 (fun H locs hP hD hS => ?_)
  have hP : va_P D vwCl [(h0, .inr (7, [.int 2, .ref ab, .int 0, .int 0, .int 0, .int 0, .int 0])), (ab, .inl (cI, 120, .inl f_2))] H := hP
  have hD : va_D A [(h0, .inr (7, [.int 2, .ref ab, .int 0, .int 0, .int 0, .int 0, .int 0])), (ab, .inl (cI, 120, .inl f_2))] := hD
  exact W.vret hx hb hr (fun t ht hW => ⟨⟨f_2, rfl, trivial, by rw [ht]; exact hP.sub [0, 1] rfl, hD.sub [0, 1] (by decide) rfl⟩, hS.F ht⟩) hS.2.2 dX7_addByte_29 hlk
set_option maxHeartbeats 4000000 in
set_option maxRecDepth 100000 in
theorem c_X7_addByte_2 (l : Launch) (D : va_G) (cI cJ cZ cS : ClassId) (sa : Nat → Nat) (sz : Nat) (h0 : Nat) (ab : Nat) (p0 : Int32) (f : Nat → Int32) : Met l yX7_addByte (Cond.code yX7_addByte cX7_addByte 2 none :: wsU) ({ frames := 0, cells := 0, slots := 0, locals := 0 }) (va_Pc [.ref h0, .int p0] (XW D (xT cI cJ cZ cS) sa [(h0, .inr (7, [.int 2, .ref ab, .int 0, .int 0, .int 0, .int 0, .int 0])), (ab, .inl (cI, 120, .inl f))] sz)) (XQv (fun _ : (Nat → Int32) => True) D (fun (f2 : Nat → Int32) => [(h0, .inr (7, [.int 3, .ref ab, .int 0, .int 0, .int 0, .int 0, .int 0])), (ab, .inl (cI, 120, .inl f2))]) (va_A [(h0, .inr (7, [.int 2, .ref ab, .int 0, .int 0, .int 0, .int 0, .int 0])), (ab, .inl (cI, 120, .inl f))] sz)) 0 0 (va_A [(h0, .inr (7, [.int 2, .ref ab, .int 0, .int 0, .int 0, .int 0, .int 0])), (ab, .inl (cI, 120, .inl f))] sz) := by
  refine xhw (QA := fun A => XQv (fun _ : (Nat → Int32) => True) D (fun (f2 : Nat → Int32) => [(h0, .inr (7, [.int 3, .ref ab, .int 0, .int 0, .int 0, .int 0, .int 0])), (ab, .inl (cI, 120, .inl f2))]) A) (by decide) (Nat.le_of_ble_eq_true rfl) ?_
  intro p e s m below meth c ls A hF hr hlk hin hsz hP hK hD hN hA hS hl
  have hF : CallFix p m c cX7_addByte 2 s _ _ RX7 := hF
  have hx := hF.1
  have hb := hF.2.1
  have hml := hF.2.2.1
  have hown := hF.2.2.2.1
  have hu : ∀ w ∈ wsU, w.before _ s = true := fun w h => hF.2.2.2.2 w (List.mem_cons_of_mem _ h)
  have hl : lv_has ls 2 [(0, .ref h0), (1, .int p0)] := hl
  refine lv_aload_n hx hb dX7_addByte_0 rfl (lv_at hl 0 rfl) ?_
  refine xg hF kf_X7_9 hK hP 0 rfl rfl dX7_addByte_1 ?_
  refine lv_bipush (v := 120) hx hb dX7_addByte_4 (by decide) ?_
  refine lv_icmp_ge (tgt := 29) hx hb dX7_addByte_6 (by decide) (fun c_1 => absurd c_1 (by decide)) (fun c_1 => ?_)
  refine lv_aload_n hx hb dX7_addByte_9 rfl (lv_at hl 0 rfl) ?_
  refine xg hF kf_X7_15 hK hP 0 rfl rfl dX7_addByte_10 ?_
  refine lv_aload_n hx hb dX7_addByte_13 rfl (lv_at hl 0 rfl) ?_
  refine xg hF kf_X7_9 hK hP 0 rfl rfl dX7_addByte_14 ?_
  refine lv_iload_n hx hb dX7_addByte_17 rfl (lv_at hl 1 rfl) ?_
  refine va_iast hx hb hK hP hD hS 1 0 rfl rfl (xin 2 120 (by decide) (by decide)) dX7_addByte_18 (fun H locs hP hD hS => ?_)
  obtain ⟨f_2, ef_2⟩ : ∃ g, g = upd f (2 : Int32).toNatClampNeg p0 := ⟨_, rfl⟩
  rw [← ef_2] at hP hD
  have hP : va_P D vwCl [(h0, .inr (7, [.int 2, .ref ab, .int 0, .int 0, .int 0, .int 0, .int 0])), (ab, .inl (cI, 120, .inl f_2))] H := hP
  have hD : va_D A [(h0, .inr (7, [.int 2, .ref ab, .int 0, .int 0, .int 0, .int 0, .int 0])), (ab, .inl (cI, 120, .inl f_2))] := hD
  refine lv_aload_n hx hb dX7_addByte_19 rfl (lv_at hl 0 rfl) ?_
  refine lv_dup hx hb dX7_addByte_20 rfl ?_
  refine xg hF kf_X7_9 hK hP 0 rfl rfl dX7_addByte_21 ?_
  refine lv_iconst (v := 1) hx hb dX7_addByte_24 (by decide) ?_
  refine lv_iadd hx hb dX7_addByte_25 ?_
  refine xl_i (y := 3) (by decide) ?_
  refine xp hF kf_X7_9 tyX7_ok nmX7 hK hP hD hS 0 rfl rfl rfl rfl (Nat.le_of_ble_eq_true rfl) dX7_addByte_26 (fun H locs hP hD hS => ?_)
  have hP : va_P D vwCl [(h0, .inr (7, [.int 3, .ref ab, .int 0, .int 0, .int 0, .int 0, .int 0])), (ab, .inl (cI, 120, .inl f_2))] H := hP
  have hD : va_D A [(h0, .inr (7, [.int 3, .ref ab, .int 0, .int 0, .int 0, .int 0, .int 0])), (ab, .inl (cI, 120, .inl f_2))] := hD
  exact W.vret hx hb hr (fun t ht hW => ⟨⟨f_2, rfl, trivial, by rw [ht]; exact hP.sub [0, 1] rfl, hD.sub [0, 1] (by decide) rfl⟩, hS.F ht⟩) hS.2.2 dX7_addByte_29 hlk
set_option maxHeartbeats 4000000 in
set_option maxRecDepth 100000 in
theorem c_X7_addByte_3 (l : Launch) (D : va_G) (cI cJ cZ cS : ClassId) (sa : Nat → Nat) (sz : Nat) (h0 : Nat) (ab : Nat) (p0 : Int32) (f : Nat → Int32) : Met l yX7_addByte (Cond.code yX7_addByte cX7_addByte 2 none :: wsU) ({ frames := 0, cells := 0, slots := 0, locals := 0 }) (va_Pc [.ref h0, .int p0] (XW D (xT cI cJ cZ cS) sa [(h0, .inr (7, [.int 3, .ref ab, .int 0, .int 0, .int 0, .int 0, .int 0])), (ab, .inl (cI, 120, .inl f))] sz)) (XQv (fun _ : (Nat → Int32) => True) D (fun (f2 : Nat → Int32) => [(h0, .inr (7, [.int 4, .ref ab, .int 0, .int 0, .int 0, .int 0, .int 0])), (ab, .inl (cI, 120, .inl f2))]) (va_A [(h0, .inr (7, [.int 3, .ref ab, .int 0, .int 0, .int 0, .int 0, .int 0])), (ab, .inl (cI, 120, .inl f))] sz)) 0 0 (va_A [(h0, .inr (7, [.int 3, .ref ab, .int 0, .int 0, .int 0, .int 0, .int 0])), (ab, .inl (cI, 120, .inl f))] sz) := by
  refine xhw (QA := fun A => XQv (fun _ : (Nat → Int32) => True) D (fun (f2 : Nat → Int32) => [(h0, .inr (7, [.int 4, .ref ab, .int 0, .int 0, .int 0, .int 0, .int 0])), (ab, .inl (cI, 120, .inl f2))]) A) (by decide) (Nat.le_of_ble_eq_true rfl) ?_
  intro p e s m below meth c ls A hF hr hlk hin hsz hP hK hD hN hA hS hl
  have hF : CallFix p m c cX7_addByte 2 s _ _ RX7 := hF
  have hx := hF.1
  have hb := hF.2.1
  have hml := hF.2.2.1
  have hown := hF.2.2.2.1
  have hu : ∀ w ∈ wsU, w.before _ s = true := fun w h => hF.2.2.2.2 w (List.mem_cons_of_mem _ h)
  have hl : lv_has ls 2 [(0, .ref h0), (1, .int p0)] := hl
  refine lv_aload_n hx hb dX7_addByte_0 rfl (lv_at hl 0 rfl) ?_
  refine xg hF kf_X7_9 hK hP 0 rfl rfl dX7_addByte_1 ?_
  refine lv_bipush (v := 120) hx hb dX7_addByte_4 (by decide) ?_
  refine lv_icmp_ge (tgt := 29) hx hb dX7_addByte_6 (by decide) (fun c_1 => absurd c_1 (by decide)) (fun c_1 => ?_)
  refine lv_aload_n hx hb dX7_addByte_9 rfl (lv_at hl 0 rfl) ?_
  refine xg hF kf_X7_15 hK hP 0 rfl rfl dX7_addByte_10 ?_
  refine lv_aload_n hx hb dX7_addByte_13 rfl (lv_at hl 0 rfl) ?_
  refine xg hF kf_X7_9 hK hP 0 rfl rfl dX7_addByte_14 ?_
  refine lv_iload_n hx hb dX7_addByte_17 rfl (lv_at hl 1 rfl) ?_
  refine va_iast hx hb hK hP hD hS 1 0 rfl rfl (xin 3 120 (by decide) (by decide)) dX7_addByte_18 (fun H locs hP hD hS => ?_)
  obtain ⟨f_2, ef_2⟩ : ∃ g, g = upd f (3 : Int32).toNatClampNeg p0 := ⟨_, rfl⟩
  rw [← ef_2] at hP hD
  have hP : va_P D vwCl [(h0, .inr (7, [.int 3, .ref ab, .int 0, .int 0, .int 0, .int 0, .int 0])), (ab, .inl (cI, 120, .inl f_2))] H := hP
  have hD : va_D A [(h0, .inr (7, [.int 3, .ref ab, .int 0, .int 0, .int 0, .int 0, .int 0])), (ab, .inl (cI, 120, .inl f_2))] := hD
  refine lv_aload_n hx hb dX7_addByte_19 rfl (lv_at hl 0 rfl) ?_
  refine lv_dup hx hb dX7_addByte_20 rfl ?_
  refine xg hF kf_X7_9 hK hP 0 rfl rfl dX7_addByte_21 ?_
  refine lv_iconst (v := 1) hx hb dX7_addByte_24 (by decide) ?_
  refine lv_iadd hx hb dX7_addByte_25 ?_
  refine xl_i (y := 4) (by decide) ?_
  refine xp hF kf_X7_9 tyX7_ok nmX7 hK hP hD hS 0 rfl rfl rfl rfl (Nat.le_of_ble_eq_true rfl) dX7_addByte_26 (fun H locs hP hD hS => ?_)
  have hP : va_P D vwCl [(h0, .inr (7, [.int 4, .ref ab, .int 0, .int 0, .int 0, .int 0, .int 0])), (ab, .inl (cI, 120, .inl f_2))] H := hP
  have hD : va_D A [(h0, .inr (7, [.int 4, .ref ab, .int 0, .int 0, .int 0, .int 0, .int 0])), (ab, .inl (cI, 120, .inl f_2))] := hD
  exact W.vret hx hb hr (fun t ht hW => ⟨⟨f_2, rfl, trivial, by rw [ht]; exact hP.sub [0, 1] rfl, hD.sub [0, 1] (by decide) rfl⟩, hS.F ht⟩) hS.2.2 dX7_addByte_29 hlk
set_option maxHeartbeats 4000000 in
set_option maxRecDepth 100000 in
theorem c_X4_isMissing (l : Launch) (D : va_G) (cI cJ cZ cS : ClassId) (sa : Nat → Nat) (sz : Nat) (h0 : Nat) (an : Nat) : Met l yX4_isMissing (Cond.code yX4_isMissing cX4_isMissing 1 (some .boolean) :: wsU) ({ frames := 0, cells := 0, slots := 0, locals := 0 }) (va_Pc [.ref h0] (XW D (xT cI cJ cZ cS) sa [(h0, .inr (4, [.int 0, .int 0, .ref an]))] sz)) (vp_Si (fun r : Int32 => r = 1)) 0 0 (fun _ => False) := by
  refine xh (by decide) (Nat.le_of_ble_eq_true rfl) ?_
  intro p e s m below meth c ls hF hr hlk hin hsz hP hK hD hN hl
  have hF : CallFix p m c cX4_isMissing 1 s _ _ RX4 := hF
  have hx := hF.1
  have hb := hF.2.1
  have hml := hF.2.2.1
  have hown := hF.2.2.2.1
  have hu : ∀ w ∈ wsU, w.before _ s = true := fun w h => hF.2.2.2.2 w (List.mem_cons_of_mem _ h)
  have hl : lv_has ls 1 [(0, .ref h0)] := hl
  refine lv_aload_n hx hb dX4_isMissing_0 rfl (lv_at hl 0 rfl) ?_
  refine xg hF kf_X4_9 hK hP 0 rfl rfl dX4_isMissing_1 ?_
  refine lv_if_ne (tgt := 11) hx hb dX4_isMissing_4 (by decide) (fun c_1 => absurd (by decide) c_1) (fun c_1 => ?_)
  refine lv_iconst (v := 1) hx hb dX4_isMissing_7 (by decide) ?_
  refine lv_goto (tgt := 12) hx hb dX4_isMissing_8 (by decide) ?_
  exact W.zret (v := 1) hx hb hr rfl (fun t ht hW => ⟨1, rfl, rfl, ht⟩) (fun q h => by cases h) dX4_isMissing_12 hlk
set_option maxHeartbeats 4000000 in
set_option maxRecDepth 100000 in
theorem c_X4_begin (l : Launch) (D : va_G) (cI cJ cZ cS : ClassId) (sa : Nat → Nat) (sz : Nat) (h0 : Nat) (an : Nat) (p0 : Int32) (p1 : Int32) (f : Nat → Int64) : Met l yX4_begin (Cond.code yX4_begin cX4_begin 4 none :: wsU) ({ frames := 0, cells := 0, slots := 0, locals := 0 }) (va_Pc [.ref h0, .int p0, .int p1] (XW D (xT cI cJ cZ cS) sa [(h0, .inr (4, [.int 0, .int 0, .ref an])), (an, .inl (cJ, 40, .inr (.inl f)))] sz)) (XQv (fun _ : Unit => True) D (fun _ : Unit => [(h0, .inr (4, [.int p0, .int p1, .ref an]))]) (va_A [(h0, .inr (4, [.int 0, .int 0, .ref an])), (an, .inl (cJ, 40, .inr (.inl f)))] sz)) 0 0 (va_A [(h0, .inr (4, [.int 0, .int 0, .ref an])), (an, .inl (cJ, 40, .inr (.inl f)))] sz) := by
  refine xhw (QA := fun A => XQv (fun _ : Unit => True) D (fun _ : Unit => [(h0, .inr (4, [.int p0, .int p1, .ref an]))]) A) (by decide) (Nat.le_of_ble_eq_true rfl) ?_
  intro p e s m below meth c ls A hF hr hlk hin hsz hP hK hD hN hA hS hl
  have hF : CallFix p m c cX4_begin 4 s _ _ RX4 := hF
  have hx := hF.1
  have hb := hF.2.1
  have hml := hF.2.2.1
  have hown := hF.2.2.2.1
  have hu : ∀ w ∈ wsU, w.before _ s = true := fun w h => hF.2.2.2.2 w (List.mem_cons_of_mem _ h)
  have hl : lv_has ls 4 [(0, .ref h0), (1, .int p0), (2, .int p1)] := hl
  refine lv_aload_n hx hb dX4_begin_0 rfl (lv_at hl 0 rfl) ?_
  refine lv_iload_n hx hb dX4_begin_1 rfl (lv_at hl 1 rfl) ?_
  refine xp hF kf_X4_9 tyX4_ok nmX4 hK hP hD hS 0 rfl rfl rfl rfl (Nat.le_of_ble_eq_true rfl) dX4_begin_2 (fun H locs hP hD hS => ?_)
  have hP : va_P D vwCl [(h0, .inr (4, [.int p0, .int 0, .ref an])), (an, .inl (cJ, 40, .inr (.inl f)))] H := hP
  have hD : va_D A [(h0, .inr (4, [.int p0, .int 0, .ref an])), (an, .inl (cJ, 40, .inr (.inl f)))] := hD
  refine lv_aload_n hx hb dX4_begin_5 rfl (lv_at hl 0 rfl) ?_
  refine lv_iload_n hx hb dX4_begin_6 rfl (lv_at hl 2 rfl) ?_
  refine xp hF kf_X4_15 tyX4_ok nmX4 hK hP hD hS 0 rfl rfl rfl rfl (Nat.le_of_ble_eq_true rfl) dX4_begin_7 (fun H locs hP hD hS => ?_)
  have hP : va_P D vwCl [(h0, .inr (4, [.int p0, .int p1, .ref an])), (an, .inl (cJ, 40, .inr (.inl f)))] H := hP
  have hD : va_D A [(h0, .inr (4, [.int p0, .int p1, .ref an])), (an, .inl (cJ, 40, .inr (.inl f)))] := hD
  refine lv_iconst (v := 0) hx hb dX4_begin_10 (by decide) ?_
  refine lv_istore_n (lv' := [(3, .int 0), (0, .ref h0), (1, .int p0), (2, .int p1)]) hx hb dX4_begin_11 rfl hl (by decide) rfl (fun ls hl => ?_)
  suffices loop_2 : ∀ (n k_1 : Nat) (f9 : Nat → Int64) (H : Heap) (locs : List Loc) (ls : Array Slot), k_1 + n = 40 → va_P D vwCl [(h0, .inr (4, [.int p0, .int p1, .ref an])), (an, .inl (cJ, 40, .inr (.inl f9)))] H → va_D A [(h0, .inr (4, [.int p0, .int p1, .ref an])), (an, .inl (cJ, 40, .inr (.inl f9)))] → va_S A s.heap H locs → lv_has ls 4 [(3, .int (nI (k_1))), (0, .ref h0), (1, .int p0), (2, .int p1)] → W p l e ({ frames := 0, cells := 0, slots := 0, locals := 0 }) s m ([.ref h0, .int p0, .int p1] : List Value).toArray below meth c H locs 0 0 (MQ below (XQv (fun _ : Unit => True) D (fun _ : Unit => [(h0, .inr (4, [.int p0, .int p1, .ref an]))]) A) ([.ref h0, .int p0, .int p1] : List Value).toArray s 0 0 A) (F0 m 12 ls []) by
    exact loop_2 40 0 f _ _ _ (by decide) hP hD hS (lv_sub hl [0, 1, 2, 3] rfl)
  intro n
  induction n with
  | zero =>
    intro k_1 f9 H locs ls hk hP hD hS hl 
    have hk2 : k_1 = 40 := by omega
    subst hk2
    have hl : lv_has ls 4 [(3, .int 40), (0, .ref h0), (1, .int p0), (2, .int p1)] := hl
    refine lv_iload_n hx hb dX4_begin_12 rfl (lv_at hl 0 rfl) ?_
    refine lv_bipush (v := 40) hx hb dX4_begin_13 (by decide) ?_
    refine lv_icmp_ge (tgt := 31) hx hb dX4_begin_15 (by decide) (fun c_3 => ?_) (fun c_3 => absurd (by decide) c_3)
    exact W.vret hx hb hr (fun t ht hW => ⟨⟨(), rfl, trivial, by rw [ht]; exact hP.sub [0] rfl, hD.sub [0] (by decide) rfl⟩, hS.F ht⟩) hS.2.2 dX4_begin_31 hlk
  | succ n ih =>
    intro k_1 f9 H locs ls hk hP hD hS hl 
    have hlt_k_1 : k_1 < 40 := by omega
    refine lv_iload_n hx hb dX4_begin_12 rfl (lv_at hl 0 rfl) ?_
    refine lv_bipush (v := 40) hx hb dX4_begin_13 (by decide) ?_
    refine lv_icmp_ge (tgt := 31) hx hb dX4_begin_15 (by decide) (fun c_4 => absurd c_4 (nI_ge hlt_k_1 (by decide))) (fun c_4 => ?_)
    refine lv_aload_n hx hb dX4_begin_18 rfl (lv_at hl 1 rfl) ?_
    refine xg hF kf_X4_18 hK hP 0 rfl rfl dX4_begin_19 ?_
    refine lv_iload_n hx hb dX4_begin_22 rfl (lv_at hl 0 rfl) ?_
    refine lv_lconst (v := 0) hx hb dX4_begin_23 (by decide) ?_
    refine va_last hx hb hK hP hD hS 1 1 rfl rfl (vp_in_nI (show k_1 < 40 by omega) (by decide)) dX4_begin_24 (fun H locs hP hD hS => ?_)
    obtain ⟨f_5, ef_5⟩ : ∃ g, g = vp_updL f9 (nI (k_1)).toNatClampNeg 0 := ⟨_, rfl⟩
    rw [← ef_5] at hP hD
    have hP : va_P D vwCl [(h0, .inr (4, [.int p0, .int p1, .ref an])), (an, .inl (cJ, 40, .inr (.inl f_5)))] H := hP
    have hD : va_D A [(h0, .inr (4, [.int p0, .int p1, .ref an])), (an, .inl (cJ, 40, .inr (.inl f_5)))] := hD
    refine lv_iinc (v := nI (k_1 + 1)) (lv' := [(3, .int (nI (k_1 + 1))), (0, .ref h0), (1, .int p0), (2, .int p1)]) hx hb dX4_begin_25 hl (k := 0) rfl (nI_1 (k_1)) (by decide) rfl (fun ls hl => ?_)
    refine lv_goto (tgt := 12) hx hb dX4_begin_28 (by decide) ?_
    exact ih (k_1 + 1) f_5 _ _ _ (by omega) (hP.sub [0, 1] rfl) (hD.sub [0, 1] (by decide) rfl) hS (lv_sub hl [0, 1, 2, 3] rfl)
end
section
set_option maxHeartbeats 4000000 in
set_option maxRecDepth 100000 in
theorem c_X8_isLooped (l : Launch) (D : va_G) (cI cJ cZ cS : ClassId) (sa : Nat → Nat) (sz : Nat) (h0 : Nat) (qh : Nat) (qk : Nat) (qd : Nat) (qa : Nat) (qm : Nat) (qs : Nat) (qp : Nat) (ql : Nat) (qt : Nat) (qz : Nat) (qf : Nat) (ae : Nat) (al : Nat) (au : Nat) (ao : Nat) (ar : Nat) (ak : Nat) (aw : Nat) (att : Nat) (ass : Nat) (an : Nat) : Met l yX8_isLooped (Cond.code yX8_isLooped cX8_isLooped 1 (some .boolean) :: wsU) ({ frames := 1, cells := 0, slots := 0, locals := 23 }) (va_Pc [.ref h0] (XW D (xT cI cJ cZ cS) sa [(h0, .inr (8, [.ref qh, .ref qk, .ref qd, .int 0, .ref qa, .ref qm, .ref qs, .ref qp, .ref ql, .ref qt, .ref qz, .ref qf])), (qh, .inr (1, [.int 0, .ref ae, .ref al, .ref au, .ref ao, .ref ar, .ref ak, .ref aw, .ref att, .ref ass])), (qa, .inr (0, [.int 0, .ref an]))] sz)) (XQi (fun (r : Int32) (_ : Unit) => r = 0) D (fun _ : Unit => [(h0, .inr (8, [.ref qh, .ref qk, .ref qd, .int 0, .ref qa, .ref qm, .ref qs, .ref qp, .ref ql, .ref qt, .ref qz, .ref qf])), (qa, .inr (0, [.int 0, .ref an])), (qh, .inr (1, [.int 0, .ref ae, .ref al, .ref au, .ref ao, .ref ar, .ref ak, .ref aw, .ref att, .ref ass]))]) (va_A [(h0, .inr (8, [.ref qh, .ref qk, .ref qd, .int 0, .ref qa, .ref qm, .ref qs, .ref qp, .ref ql, .ref qt, .ref qz, .ref qf])), (qh, .inr (1, [.int 0, .ref ae, .ref al, .ref au, .ref ao, .ref ar, .ref ak, .ref aw, .ref att, .ref ass])), (qa, .inr (0, [.int 0, .ref an]))] sz)) 0 0 (va_A [(h0, .inr (8, [.ref qh, .ref qk, .ref qd, .int 0, .ref qa, .ref qm, .ref qs, .ref qp, .ref ql, .ref qt, .ref qz, .ref qf])), (qh, .inr (1, [.int 0, .ref ae, .ref al, .ref au, .ref ao, .ref ar, .ref ak, .ref aw, .ref att, .ref ass])), (qa, .inr (0, [.int 0, .ref an]))] sz) := by
  refine xhw (QA := fun A => XQi (fun (r : Int32) (_ : Unit) => r = 0) D (fun _ : Unit => [(h0, .inr (8, [.ref qh, .ref qk, .ref qd, .int 0, .ref qa, .ref qm, .ref qs, .ref qp, .ref ql, .ref qt, .ref qz, .ref qf])), (qa, .inr (0, [.int 0, .ref an])), (qh, .inr (1, [.int 0, .ref ae, .ref al, .ref au, .ref ao, .ref ar, .ref ak, .ref aw, .ref att, .ref ass]))]) A) (by decide) (Nat.le_of_ble_eq_true rfl) ?_
  intro p e s m below meth c ls A hF hr hlk hin hsz hP hK hD hN hA hS hl
  have hF : CallFix p m c cX8_isLooped 1 s _ _ RX8 := hF
  have hx := hF.1
  have hb := hF.2.1
  have hml := hF.2.2.1
  have hown := hF.2.2.2.1
  have hu : ∀ w ∈ wsU, w.before _ s = true := fun w h => hF.2.2.2.2 w (List.mem_cons_of_mem _ h)
  have hl : lv_has ls 1 [(0, .ref h0)] := hl
  refine lv_aload_n hx hb dX8_isLooped_0 rfl (lv_at hl 0 rfl) ?_
  refine xg hF kf_X8_29 hK hP 0 rfl rfl dX8_isLooped_1 ?_
  refine lv_aload_n hx hb dX8_isLooped_4 rfl (lv_at hl 0 rfl) ?_
  refine xg hF kf_X8_12 hK hP 0 rfl rfl dX8_isLooped_5 ?_
  refine xc_Vv (wr := [(h0, .inr (8, [.ref qh, .ref qk, .ref qd, .int 0, .ref qa, .ref qm, .ref qs, .ref qp, .ref ql, .ref qt, .ref qz, .ref qf]))]) hF (c_X0_measure l D cI cJ cZ cS sa s.heap.size qa an qh ae al au ao ar ak aw att ass ) kv_X8_146 ⟨rfl, rfl, Nat.le_of_ble_eq_true rfl, Nat.le_of_ble_eq_true rfl⟩ ⟨Nat.le_of_ble_eq_true rfl, Nat.le_of_ble_eq_true rfl⟩ hK hN hP hD hS hA [2, 1] [0] rfl rfl rfl rfl (by decide) 0 rfl rfl rfl rfl hl.1 rfl (Nat.le_of_ble_eq_true rfl) dX8_isLooped_8 (fun u_r_1 H locs hw_r_1 hP hD hS => ?_)
  have hP : va_P D vwCl [(h0, .inr (8, [.ref qh, .ref qk, .ref qd, .int 0, .ref qa, .ref qm, .ref qs, .ref qp, .ref ql, .ref qt, .ref qz, .ref qf])), (qa, .inr (0, [.int 0, .ref an])), (qh, .inr (1, [.int 0, .ref ae, .ref al, .ref au, .ref ao, .ref ar, .ref ak, .ref aw, .ref att, .ref ass]))] H := hP
  have hD : va_D A [(h0, .inr (8, [.ref qh, .ref qk, .ref qd, .int 0, .ref qa, .ref qm, .ref qs, .ref qp, .ref ql, .ref qt, .ref qz, .ref qf])), (qa, .inr (0, [.int 0, .ref an])), (qh, .inr (1, [.int 0, .ref ae, .ref al, .ref au, .ref ao, .ref ar, .ref ak, .ref aw, .ref att, .ref ass]))] := hD
  refine lv_aload_n hx hb dX8_isLooped_11 rfl (lv_at hl 0 rfl) ?_
  refine xg hF kf_X8_29 hK hP 0 rfl rfl dX8_isLooped_12 ?_
  refine xc_Vr hF (c_X0_hasLoop l D cI cJ cZ cS sa H.size qa an ) kv_X8_332 ⟨rfl, rfl, Nat.le_of_ble_eq_true rfl, Nat.le_of_ble_eq_true rfl⟩ ⟨Nat.le_of_ble_eq_true rfl, Nat.le_of_ble_eq_true rfl⟩ hK hN hP hD [1] rfl rfl 0 rfl rfl rfl rfl hl.1 rfl (Nat.le_of_ble_eq_true rfl) dX8_isLooped_15 (fun r_2 hw_r_2 => ?_)
  subst hw_r_2
  exact W.zret (v := 0) hx hb hr rfl (fun t ht hW => ⟨⟨0, (), rfl, rfl, by rw [ht]; exact hP.sub [0, 1, 2] rfl, hD.sub [0, 1, 2] (by decide) rfl⟩, hS.F ht⟩) hS.2.2 dX8_isLooped_18 hlk
set_option maxHeartbeats 4000000 in
set_option maxRecDepth 100000 in
theorem c_X8_place (l : Launch) (D : va_G) (cI cJ cZ cS : ClassId) (sa : Nat → Nat) (sz : Nat) (h0 : Nat) (qh : Nat) (qk : Nat) (qd : Nat) (qa : Nat) (qm : Nat) (qs : Nat) (qp : Nat) (ql : Nat) (qt : Nat) (qz : Nat) (qf : Nat) (ae : Nat) (al : Nat) (au : Nat) (ao : Nat) (ar : Nat) (ak : Nat) (aw : Nat) (att : Nat) (ass : Nat) : Met l yX8_place (Cond.code yX8_place cX8_place 1 (some .int) :: wsU) ({ frames := 1, cells := 0, slots := 0, locals := 22 }) (va_Pc [.ref h0] (XW D (xT cI cJ cZ cS) sa [(h0, .inr (8, [.ref qh, .ref qk, .ref qd, .int 0, .ref qa, .ref qm, .ref qs, .ref qp, .ref ql, .ref qt, .ref qz, .ref qf])), (qh, .inr (1, [.int 0, .ref ae, .ref al, .ref au, .ref ao, .ref ar, .ref ak, .ref aw, .ref att, .ref ass])), (ae, .inl (cI, 10, .inl (fun _ => 0)))] sz)) (XQi (fun (r : Int32) (_ : Unit) => r = 0) D (fun _ : Unit => []) (va_A [(h0, .inr (8, [.ref qh, .ref qk, .ref qd, .int 0, .ref qa, .ref qm, .ref qs, .ref qp, .ref ql, .ref qt, .ref qz, .ref qf])), (qh, .inr (1, [.int 0, .ref ae, .ref al, .ref au, .ref ao, .ref ar, .ref ak, .ref aw, .ref att, .ref ass])), (ae, .inl (cI, 10, .inl (fun _ => 0)))] sz)) 0 0 (va_A [(h0, .inr (8, [.ref qh, .ref qk, .ref qd, .int 0, .ref qa, .ref qm, .ref qs, .ref qp, .ref ql, .ref qt, .ref qz, .ref qf])), (qh, .inr (1, [.int 0, .ref ae, .ref al, .ref au, .ref ao, .ref ar, .ref ak, .ref aw, .ref att, .ref ass])), (ae, .inl (cI, 10, .inl (fun _ => 0)))] sz) := by
  refine xhw (QA := fun A => XQi (fun (r : Int32) (_ : Unit) => r = 0) D (fun _ : Unit => []) A) (by decide) (Nat.le_of_ble_eq_true rfl) ?_
  intro p e s m below meth c ls A hF hr hlk hin hsz hP hK hD hN hA hS hl
  have hF : CallFix p m c cX8_place 1 s _ _ RX8 := hF
  have hx := hF.1
  have hb := hF.2.1
  have hml := hF.2.2.1
  have hown := hF.2.2.2.1
  have hu : ∀ w ∈ wsU, w.before _ s = true := fun w h => hF.2.2.2.2 w (List.mem_cons_of_mem _ h)
  have hl : lv_has ls 1 [(0, .ref h0)] := hl
  refine lv_aload_n hx hb dX8_place_0 rfl (lv_at hl 0 rfl) ?_
  refine xg hF kf_X8_12 hK hP 0 rfl rfl dX8_place_1 ?_
  refine xg hF kf_X8_75 hK hP 1 rfl rfl dX8_place_4 ?_
  refine lv_bipush (v := 10) hx hb dX8_place_7 (by decide) ?_
  refine lv_icmp_lt (tgt := 19) hx hb dX8_place_9 (by decide) (fun c_1 => ?_) (fun c_1 => absurd (by decide) c_1)
  refine lv_aload_n hx hb dX8_place_19 rfl (lv_at hl 0 rfl) ?_
  refine xg hF kf_X8_12 hK hP 0 rfl rfl dX8_place_20 ?_
  refine lv_iconst (v := 0) hx hb dX8_place_23 (by decide) ?_
  refine xc_Vi (wr := [(h0, .inr (8, [.ref qh, .ref qk, .ref qd, .int 0, .ref qa, .ref qm, .ref qs, .ref qp, .ref ql, .ref qt, .ref qz, .ref qf]))]) hF (c_X1_addPlace l D cI cJ cZ cS sa s.heap.size qh ae al au ao ar ak aw att ass ) kv_X8_84 ⟨rfl, rfl, Nat.le_of_ble_eq_true rfl, Nat.le_of_ble_eq_true rfl⟩ ⟨Nat.le_of_ble_eq_true rfl, Nat.le_of_ble_eq_true rfl⟩ hK hN hP hD hS hA [1, 2] [0] rfl rfl rfl rfl (by decide) 0 rfl rfl rfl rfl hl.1 rfl (Nat.le_of_ble_eq_true rfl) dX8_place_24 (fun r_2 u_r_2 H locs hw_r_2 hP hD hS => ?_)
  have hP : va_P D vwCl [(h0, .inr (8, [.ref qh, .ref qk, .ref qd, .int 0, .ref qa, .ref qm, .ref qs, .ref qp, .ref ql, .ref qt, .ref qz, .ref qf]))] H := hP
  have hD : va_D A [(h0, .inr (8, [.ref qh, .ref qk, .ref qd, .int 0, .ref qa, .ref qm, .ref qs, .ref qp, .ref ql, .ref qt, .ref qz, .ref qf]))] := hD
  subst hw_r_2
  exact W.iret (v := 0) hx hb hr (fun t ht hW => ⟨⟨0, (), rfl, rfl, by rw [ht]; exact hP.sub [] rfl, hD.sub [] (by decide) rfl⟩, hS.F ht⟩) hS.2.2 dX8_place_27 hlk
set_option maxHeartbeats 4000000 in
set_option maxRecDepth 100000 in
theorem c_X8_errands (l : Launch) (D : va_G) (cI cJ cZ cS : ClassId) (sa : Nat → Nat) (sz : Nat) (h0 : Nat) (qh : Nat) (qk : Nat) (qd : Nat) (qa : Nat) (qm : Nat) (qs : Nat) (qp : Nat) (ql : Nat) (qt : Nat) (qz : Nat) (qf : Nat) (ae : Nat) (al : Nat) (au : Nat) (ao : Nat) (ar : Nat) (ak : Nat) (aw : Nat) (att : Nat) (ass : Nat) (p0 : Int32) (p1 : Int32) : Met l yX8_errands (Cond.code yX8_errands cX8_errands 4 (some .int) :: wsU) ({ frames := 1, cells := 0, slots := 0, locals := 22 }) (va_Pc [.ref h0, .int p0, .int p1] (XW D (xT cI cJ cZ cS) sa [(h0, .inr (8, [.ref qh, .ref qk, .ref qd, .int 0, .ref qa, .ref qm, .ref qs, .ref qp, .ref ql, .ref qt, .ref qz, .ref qf])), (qh, .inr (1, [.int 0, .ref ae, .ref al, .ref au, .ref ao, .ref ar, .ref ak, .ref aw, .ref att, .ref ass])), (qf, .inl (cI, 7, .inl (fun _ => 0)))] sz)) (XQi (fun (r : Int32) (_ : Unit) => r = (-1000000001)) D (fun _ : Unit => []) (va_A [(h0, .inr (8, [.ref qh, .ref qk, .ref qd, .int 0, .ref qa, .ref qm, .ref qs, .ref qp, .ref ql, .ref qt, .ref qz, .ref qf])), (qh, .inr (1, [.int 0, .ref ae, .ref al, .ref au, .ref ao, .ref ar, .ref ak, .ref aw, .ref att, .ref ass])), (qf, .inl (cI, 7, .inl (fun _ => 0)))] sz)) 0 0 (va_A [(h0, .inr (8, [.ref qh, .ref qk, .ref qd, .int 0, .ref qa, .ref qm, .ref qs, .ref qp, .ref ql, .ref qt, .ref qz, .ref qf])), (qh, .inr (1, [.int 0, .ref ae, .ref al, .ref au, .ref ao, .ref ar, .ref ak, .ref aw, .ref att, .ref ass])), (qf, .inl (cI, 7, .inl (fun _ => 0)))] sz) := by
  refine xhw (QA := fun A => XQi (fun (r : Int32) (_ : Unit) => r = (-1000000001)) D (fun _ : Unit => []) A) (by decide) (Nat.le_of_ble_eq_true rfl) ?_
  intro p e s m below meth c ls A hF hr hlk hin hsz hP hK hD hN hA hS hl
  have hF : CallFix p m c cX8_errands 4 s _ _ RX8 := hF
  have hx := hF.1
  have hb := hF.2.1
  have hml := hF.2.2.1
  have hown := hF.2.2.2.1
  have hu : ∀ w ∈ wsU, w.before _ s = true := fun w h => hF.2.2.2.2 w (List.mem_cons_of_mem _ h)
  have hl : lv_has ls 4 [(0, .ref h0), (1, .int p0), (2, .int p1)] := hl
  refine lv_aload_n hx hb dX8_errands_0 rfl (lv_at hl 0 rfl) ?_
  refine xg hF kf_X8_12 hK hP 0 rfl rfl dX8_errands_1 ?_
  refine lv_iload_n hx hb dX8_errands_4 rfl (lv_at hl 1 rfl) ?_
  refine lv_i2l (v := p0.toInt64) hx hb dX8_errands_5 rfl ?_
  refine xc_Vr hF (c_X1_isPlace l D cI cJ cZ cS sa s.heap.size qh ae al au ao ar ak aw att ass p0.toInt64 ) kv_X8_87 ⟨rfl, rfl, Nat.le_of_ble_eq_true rfl, Nat.le_of_ble_eq_true rfl⟩ ⟨Nat.le_of_ble_eq_true rfl, Nat.le_of_ble_eq_true rfl⟩ hK hN hP hD [1] rfl rfl 0 rfl rfl rfl rfl hl.1 rfl (Nat.le_of_ble_eq_true rfl) dX8_errands_6 (fun r_1 hw_r_1 => ?_)
  subst hw_r_1
  refine lv_if_eq (tgt := 22) hx hb dX8_errands_9 (by decide) (fun c_2 => ?_) (fun c_2 => absurd (by decide) c_2)
  refine lv_aload_n hx hb dX8_errands_22 rfl (lv_at hl 0 rfl) ?_
  refine lv_ldc (v := (-1000000001)) hx hb hown (hu _ uw4) dX8_errands_23 ?_
  refine xc_Vi (wr := [(qh, .inr (1, [.int 0, .ref ae, .ref al, .ref au, .ref ao, .ref ar, .ref ak, .ref aw, .ref att, .ref ass]))]) hF (c_X8_finding_B l D cI cJ cZ cS sa s.heap.size h0 qh qk qd qa qm qs qp ql qt qz qf 0 (fun _ => 0) ) kv_X8_80 ⟨rfl, rfl, Nat.le_of_ble_eq_true rfl, Nat.le_of_ble_eq_true rfl⟩ ⟨Nat.le_of_ble_eq_true rfl, Nat.le_of_ble_eq_true rfl⟩ hK hN hP hD hS hA [0, 2] [1] rfl rfl rfl rfl (by decide) 0 rfl rfl rfl rfl hl.1 rfl (Nat.le_of_ble_eq_true rfl) dX8_errands_25 (fun r_3 u_r_3 H locs hw_r_3 hP hD hS => ?_)
  have hP : va_P D vwCl [(qh, .inr (1, [.int 0, .ref ae, .ref al, .ref au, .ref ao, .ref ar, .ref ak, .ref aw, .ref att, .ref ass]))] H := hP
  have hD : va_D A [(qh, .inr (1, [.int 0, .ref ae, .ref al, .ref au, .ref ao, .ref ar, .ref ak, .ref aw, .ref att, .ref ass]))] := hD
  subst hw_r_3
  exact W.iret (v := (-1000000001)) hx hb hr (fun t ht hW => ⟨⟨(-1000000001), (), rfl, rfl, by rw [ht]; exact hP.sub [] rfl, hD.sub [] (by decide) rfl⟩, hS.F ht⟩) hS.2.2 dX8_errands_28 hlk
set_option maxHeartbeats 4000000 in
set_option maxRecDepth 100000 in
theorem c_X8_way (l : Launch) (D : va_G) (cI cJ cZ cS : ClassId) (sa : Nat → Nat) (sz : Nat) (h0 : Nat) (qh : Nat) (qk : Nat) (qd : Nat) (qa : Nat) (qm : Nat) (qs : Nat) (qp : Nat) (ql : Nat) (qt : Nat) (qz : Nat) (qf : Nat) (ae : Nat) (al : Nat) (au : Nat) (ao : Nat) (ar : Nat) (ak : Nat) (aw : Nat) (att : Nat) (ass : Nat) (p0 : Int32) (p1 : Int32) (p2 : Int32) (p3 : Int32) : Met l yX8_way (Cond.code yX8_way cX8_way 6 (some .int) :: wsU) ({ frames := 2, cells := 0, slots := 0, locals := 44 }) (va_Pc [.ref h0, .int p0, .int p1, .int p2, .int p3] (XW D (xT cI cJ cZ cS) sa [(h0, .inr (8, [.ref qh, .ref qk, .ref qd, .int 0, .ref qa, .ref qm, .ref qs, .ref qp, .ref ql, .ref qt, .ref qz, .ref qf])), (qh, .inr (1, [.int 0, .ref ae, .ref al, .ref au, .ref ao, .ref ar, .ref ak, .ref aw, .ref att, .ref ass])), (qf, .inl (cI, 7, .inl (fun _ => 0)))] sz)) (XQi (fun (r : Int32) (_ : Unit) => r = (-1000000001)) D (fun _ : Unit => []) (va_A [(h0, .inr (8, [.ref qh, .ref qk, .ref qd, .int 0, .ref qa, .ref qm, .ref qs, .ref qp, .ref ql, .ref qt, .ref qz, .ref qf])), (qh, .inr (1, [.int 0, .ref ae, .ref al, .ref au, .ref ao, .ref ar, .ref ak, .ref aw, .ref att, .ref ass])), (qf, .inl (cI, 7, .inl (fun _ => 0)))] sz)) 0 0 (va_A [(h0, .inr (8, [.ref qh, .ref qk, .ref qd, .int 0, .ref qa, .ref qm, .ref qs, .ref qp, .ref ql, .ref qt, .ref qz, .ref qf])), (qh, .inr (1, [.int 0, .ref ae, .ref al, .ref au, .ref ao, .ref ar, .ref ak, .ref aw, .ref att, .ref ass])), (qf, .inl (cI, 7, .inl (fun _ => 0)))] sz) := by
  refine xhw (QA := fun A => XQi (fun (r : Int32) (_ : Unit) => r = (-1000000001)) D (fun _ : Unit => []) A) (by decide) (Nat.le_of_ble_eq_true rfl) ?_
  intro p e s m below meth c ls A hF hr hlk hin hsz hP hK hD hN hA hS hl
  have hF : CallFix p m c cX8_way 6 s _ _ RX8 := hF
  have hx := hF.1
  have hb := hF.2.1
  have hml := hF.2.2.1
  have hown := hF.2.2.2.1
  have hu : ∀ w ∈ wsU, w.before _ s = true := fun w h => hF.2.2.2.2 w (List.mem_cons_of_mem _ h)
  have hl : lv_has ls 6 [(0, .ref h0), (1, .int p0), (2, .int p1), (3, .int p2), (4, .int p3)] := hl
  refine lv_aload_n hx hb dX8_way_0 rfl (lv_at hl 0 rfl) ?_
  refine xg hF kf_X8_12 hK hP 0 rfl rfl dX8_way_1 ?_
  refine lv_iload_n hx hb dX8_way_4 rfl (lv_at hl 1 rfl) ?_
  refine lv_iload_n hx hb dX8_way_5 rfl (lv_at hl 2 rfl) ?_
  refine xc_Vr hF (c_X1_areTwo l D cI cJ cZ cS sa s.heap.size qh ae al au ao ar ak aw att ass p0 p1 ) kv_X8_99 ⟨rfl, rfl, Nat.le_of_ble_eq_true rfl, Nat.le_of_ble_eq_true rfl⟩ ⟨Nat.le_of_ble_eq_true rfl, Nat.le_of_ble_eq_true rfl⟩ hK hN hP hD [1] rfl rfl 0 rfl rfl rfl rfl hl.1 rfl (Nat.le_of_ble_eq_true rfl) dX8_way_6 (fun r_1 hw_r_1 => ?_)
  subst hw_r_1
  refine lv_if_eq (tgt := 21) hx hb dX8_way_9 (by decide) (fun c_2 => ?_) (fun c_2 => absurd (by decide) c_2)
  refine lv_aload_n hx hb dX8_way_21 rfl (lv_at hl 0 rfl) ?_
  refine lv_ldc (v := (-1000000001)) hx hb hown (hu _ uw4) dX8_way_22 ?_
  refine xc_Vi (wr := [(qh, .inr (1, [.int 0, .ref ae, .ref al, .ref au, .ref ao, .ref ar, .ref ak, .ref aw, .ref att, .ref ass]))]) hF (c_X8_finding_B l D cI cJ cZ cS sa s.heap.size h0 qh qk qd qa qm qs qp ql qt qz qf 0 (fun _ => 0) ) kv_X8_80 ⟨rfl, rfl, Nat.le_of_ble_eq_true rfl, Nat.le_of_ble_eq_true rfl⟩ ⟨Nat.le_of_ble_eq_true rfl, Nat.le_of_ble_eq_true rfl⟩ hK hN hP hD hS hA [0, 2] [1] rfl rfl rfl rfl (by decide) 0 rfl rfl rfl rfl hl.1 rfl (Nat.le_of_ble_eq_true rfl) dX8_way_24 (fun r_3 u_r_3 H locs hw_r_3 hP hD hS => ?_)
  have hP : va_P D vwCl [(qh, .inr (1, [.int 0, .ref ae, .ref al, .ref au, .ref ao, .ref ar, .ref ak, .ref aw, .ref att, .ref ass]))] H := hP
  have hD : va_D A [(qh, .inr (1, [.int 0, .ref ae, .ref al, .ref au, .ref ao, .ref ar, .ref ak, .ref aw, .ref att, .ref ass]))] := hD
  subst hw_r_3
  exact W.iret (v := (-1000000001)) hx hb hr (fun t ht hW => ⟨⟨(-1000000001), (), rfl, rfl, by rw [ht]; exact hP.sub [] rfl, hD.sub [] (by decide) rfl⟩, hS.F ht⟩) hS.2.2 dX8_way_27 hlk
set_option maxHeartbeats 4000000 in
set_option maxRecDepth 100000 in
theorem c_X8_wayOf (l : Launch) (D : va_G) (cI cJ cZ cS : ClassId) (sa : Nat → Nat) (sz : Nat) (h0 : Nat) (qh : Nat) (qk : Nat) (qd : Nat) (qa : Nat) (qm : Nat) (qs : Nat) (qp : Nat) (ql : Nat) (qt : Nat) (qz : Nat) (qf : Nat) (ae : Nat) (al : Nat) (au : Nat) (ao : Nat) (ar : Nat) (ak : Nat) (aw : Nat) (att : Nat) (ass : Nat) (p0 : Int32) (p1 : Int32) (p2 : Int32) : Met l yX8_wayOf (Cond.code yX8_wayOf cX8_wayOf 4 (some .int) :: wsU) ({ frames := 2, cells := 0, slots := 0, locals := 44 }) (va_Pc [.ref h0, .int p0, .int p1, .int p2] (XW D (xT cI cJ cZ cS) sa [(h0, .inr (8, [.ref qh, .ref qk, .ref qd, .int 0, .ref qa, .ref qm, .ref qs, .ref qp, .ref ql, .ref qt, .ref qz, .ref qf])), (qh, .inr (1, [.int 0, .ref ae, .ref al, .ref au, .ref ao, .ref ar, .ref ak, .ref aw, .ref att, .ref ass])), (qf, .inl (cI, 7, .inl (fun _ => 0)))] sz)) (XQi (fun (r : Int32) (_ : Unit) => r = (-1000000001)) D (fun _ : Unit => []) (va_A [(h0, .inr (8, [.ref qh, .ref qk, .ref qd, .int 0, .ref qa, .ref qm, .ref qs, .ref qp, .ref ql, .ref qt, .ref qz, .ref qf])), (qh, .inr (1, [.int 0, .ref ae, .ref al, .ref au, .ref ao, .ref ar, .ref ak, .ref aw, .ref att, .ref ass])), (qf, .inl (cI, 7, .inl (fun _ => 0)))] sz)) 0 0 (va_A [(h0, .inr (8, [.ref qh, .ref qk, .ref qd, .int 0, .ref qa, .ref qm, .ref qs, .ref qp, .ref ql, .ref qt, .ref qz, .ref qf])), (qh, .inr (1, [.int 0, .ref ae, .ref al, .ref au, .ref ao, .ref ar, .ref ak, .ref aw, .ref att, .ref ass])), (qf, .inl (cI, 7, .inl (fun _ => 0)))] sz) := by
  refine xhw (QA := fun A => XQi (fun (r : Int32) (_ : Unit) => r = (-1000000001)) D (fun _ : Unit => []) A) (by decide) (Nat.le_of_ble_eq_true rfl) ?_
  intro p e s m below meth c ls A hF hr hlk hin hsz hP hK hD hN hA hS hl
  have hF : CallFix p m c cX8_wayOf 4 s _ _ RX8 := hF
  have hx := hF.1
  have hb := hF.2.1
  have hml := hF.2.2.1
  have hown := hF.2.2.2.1
  have hu : ∀ w ∈ wsU, w.before _ s = true := fun w h => hF.2.2.2.2 w (List.mem_cons_of_mem _ h)
  have hl : lv_has ls 4 [(0, .ref h0), (1, .int p0), (2, .int p1), (3, .int p2)] := hl
  refine lv_aload_n hx hb dX8_wayOf_0 rfl (lv_at hl 0 rfl) ?_
  refine xg hF kf_X8_12 hK hP 0 rfl rfl dX8_wayOf_1 ?_
  refine lv_iload_n hx hb dX8_wayOf_4 rfl (lv_at hl 1 rfl) ?_
  refine lv_iload_n hx hb dX8_wayOf_5 rfl (lv_at hl 2 rfl) ?_
  refine xc_Vr hF (c_X1_areTwo l D cI cJ cZ cS sa s.heap.size qh ae al au ao ar ak aw att ass p0 p1 ) kv_X8_99 ⟨rfl, rfl, Nat.le_of_ble_eq_true rfl, Nat.le_of_ble_eq_true rfl⟩ ⟨Nat.le_of_ble_eq_true rfl, Nat.le_of_ble_eq_true rfl⟩ hK hN hP hD [1] rfl rfl 0 rfl rfl rfl rfl hl.1 rfl (Nat.le_of_ble_eq_true rfl) dX8_wayOf_6 (fun r_1 hw_r_1 => ?_)
  subst hw_r_1
  refine lv_if_eq (tgt := 21) hx hb dX8_wayOf_9 (by decide) (fun c_2 => ?_) (fun c_2 => absurd (by decide) c_2)
  refine lv_aload_n hx hb dX8_wayOf_21 rfl (lv_at hl 0 rfl) ?_
  refine lv_ldc (v := (-1000000001)) hx hb hown (hu _ uw4) dX8_wayOf_22 ?_
  refine xc_Vi (wr := [(qh, .inr (1, [.int 0, .ref ae, .ref al, .ref au, .ref ao, .ref ar, .ref ak, .ref aw, .ref att, .ref ass]))]) hF (c_X8_finding_B l D cI cJ cZ cS sa s.heap.size h0 qh qk qd qa qm qs qp ql qt qz qf 0 (fun _ => 0) ) kv_X8_80 ⟨rfl, rfl, Nat.le_of_ble_eq_true rfl, Nat.le_of_ble_eq_true rfl⟩ ⟨Nat.le_of_ble_eq_true rfl, Nat.le_of_ble_eq_true rfl⟩ hK hN hP hD hS hA [0, 2] [1] rfl rfl rfl rfl (by decide) 0 rfl rfl rfl rfl hl.1 rfl (Nat.le_of_ble_eq_true rfl) dX8_wayOf_24 (fun r_3 u_r_3 H locs hw_r_3 hP hD hS => ?_)
  have hP : va_P D vwCl [(qh, .inr (1, [.int 0, .ref ae, .ref al, .ref au, .ref ao, .ref ar, .ref ak, .ref aw, .ref att, .ref ass]))] H := hP
  have hD : va_D A [(qh, .inr (1, [.int 0, .ref ae, .ref al, .ref au, .ref ao, .ref ar, .ref ak, .ref aw, .ref att, .ref ass]))] := hD
  subst hw_r_3
  exact W.iret (v := (-1000000001)) hx hb hr (fun t ht hW => ⟨⟨(-1000000001), (), rfl, rfl, by rw [ht]; exact hP.sub [] rfl, hD.sub [] (by decide) rfl⟩, hS.F ht⟩) hS.2.2 dX8_wayOf_27 hlk
set_option maxHeartbeats 4000000 in
set_option maxRecDepth 100000 in
theorem c_X8_far (l : Launch) (D : va_G) (cI cJ cZ cS : ClassId) (sa : Nat → Nat) (sz : Nat) (h0 : Nat) (qh : Nat) (qk : Nat) (qd : Nat) (qa : Nat) (qm : Nat) (qs : Nat) (qp : Nat) (ql : Nat) (qt : Nat) (qz : Nat) (qf : Nat) (ae : Nat) (al : Nat) (au : Nat) (ao : Nat) (ar : Nat) (ak : Nat) (aw : Nat) (att : Nat) (ass : Nat) (p0 : Int32) (p1 : Int32) : Met l yX8_far (Cond.code yX8_far cX8_far 3 (some .int) :: wsU) ({ frames := 1, cells := 0, slots := 0, locals := 22 }) (va_Pc [.ref h0, .int p0, .int p1] (XW D (xT cI cJ cZ cS) sa [(h0, .inr (8, [.ref qh, .ref qk, .ref qd, .int 0, .ref qa, .ref qm, .ref qs, .ref qp, .ref ql, .ref qt, .ref qz, .ref qf])), (qh, .inr (1, [.int 0, .ref ae, .ref al, .ref au, .ref ao, .ref ar, .ref ak, .ref aw, .ref att, .ref ass])), (qf, .inl (cI, 7, .inl (fun _ => 0)))] sz)) (XQi (fun (r : Int32) (_ : Unit) => r = (-1000000001)) D (fun _ : Unit => []) (va_A [(h0, .inr (8, [.ref qh, .ref qk, .ref qd, .int 0, .ref qa, .ref qm, .ref qs, .ref qp, .ref ql, .ref qt, .ref qz, .ref qf])), (qh, .inr (1, [.int 0, .ref ae, .ref al, .ref au, .ref ao, .ref ar, .ref ak, .ref aw, .ref att, .ref ass])), (qf, .inl (cI, 7, .inl (fun _ => 0)))] sz)) 0 0 (va_A [(h0, .inr (8, [.ref qh, .ref qk, .ref qd, .int 0, .ref qa, .ref qm, .ref qs, .ref qp, .ref ql, .ref qt, .ref qz, .ref qf])), (qh, .inr (1, [.int 0, .ref ae, .ref al, .ref au, .ref ao, .ref ar, .ref ak, .ref aw, .ref att, .ref ass])), (qf, .inl (cI, 7, .inl (fun _ => 0)))] sz) := by
  refine xhw (QA := fun A => XQi (fun (r : Int32) (_ : Unit) => r = (-1000000001)) D (fun _ : Unit => []) A) (by decide) (Nat.le_of_ble_eq_true rfl) ?_
  intro p e s m below meth c ls A hF hr hlk hin hsz hP hK hD hN hA hS hl
  have hF : CallFix p m c cX8_far 3 s _ _ RX8 := hF
  have hx := hF.1
  have hb := hF.2.1
  have hml := hF.2.2.1
  have hown := hF.2.2.2.1
  have hu : ∀ w ∈ wsU, w.before _ s = true := fun w h => hF.2.2.2.2 w (List.mem_cons_of_mem _ h)
  have hl : lv_has ls 3 [(0, .ref h0), (1, .int p0), (2, .int p1)] := hl
  refine lv_aload_n hx hb dX8_far_0 rfl (lv_at hl 0 rfl) ?_
  refine xg hF kf_X8_12 hK hP 0 rfl rfl dX8_far_1 ?_
  refine lv_iload_n hx hb dX8_far_4 rfl (lv_at hl 1 rfl) ?_
  refine lv_i2l (v := p0.toInt64) hx hb dX8_far_5 rfl ?_
  refine xc_Vr hF (c_X1_isPlace l D cI cJ cZ cS sa s.heap.size qh ae al au ao ar ak aw att ass p0.toInt64 ) kv_X8_87 ⟨rfl, rfl, Nat.le_of_ble_eq_true rfl, Nat.le_of_ble_eq_true rfl⟩ ⟨Nat.le_of_ble_eq_true rfl, Nat.le_of_ble_eq_true rfl⟩ hK hN hP hD [1] rfl rfl 0 rfl rfl rfl rfl hl.1 rfl (Nat.le_of_ble_eq_true rfl) dX8_far_6 (fun r_1 hw_r_1 => ?_)
  subst hw_r_1
  refine lv_if_eq (tgt := 24) hx hb dX8_far_9 (by decide) (fun c_2 => ?_) (fun c_2 => absurd (by decide) c_2)
  refine lv_aload_n hx hb dX8_far_24 rfl (lv_at hl 0 rfl) ?_
  refine lv_ldc (v := (-1000000001)) hx hb hown (hu _ uw4) dX8_far_25 ?_
  refine xc_Vi (wr := [(qh, .inr (1, [.int 0, .ref ae, .ref al, .ref au, .ref ao, .ref ar, .ref ak, .ref aw, .ref att, .ref ass]))]) hF (c_X8_finding_B l D cI cJ cZ cS sa s.heap.size h0 qh qk qd qa qm qs qp ql qt qz qf 0 (fun _ => 0) ) kv_X8_80 ⟨rfl, rfl, Nat.le_of_ble_eq_true rfl, Nat.le_of_ble_eq_true rfl⟩ ⟨Nat.le_of_ble_eq_true rfl, Nat.le_of_ble_eq_true rfl⟩ hK hN hP hD hS hA [0, 2] [1] rfl rfl rfl rfl (by decide) 0 rfl rfl rfl rfl hl.1 rfl (Nat.le_of_ble_eq_true rfl) dX8_far_27 (fun r_3 u_r_3 H locs hw_r_3 hP hD hS => ?_)
  have hP : va_P D vwCl [(qh, .inr (1, [.int 0, .ref ae, .ref al, .ref au, .ref ao, .ref ar, .ref ak, .ref aw, .ref att, .ref ass]))] H := hP
  have hD : va_D A [(qh, .inr (1, [.int 0, .ref ae, .ref al, .ref au, .ref ao, .ref ar, .ref ak, .ref aw, .ref att, .ref ass]))] := hD
  subst hw_r_3
  exact W.iret (v := (-1000000001)) hx hb hr (fun t ht hW => ⟨⟨(-1000000001), (), rfl, rfl, by rw [ht]; exact hP.sub [] rfl, hD.sub [] (by decide) rfl⟩, hS.F ht⟩) hS.2.2 dX8_far_30 hlk
set_option maxHeartbeats 4000000 in
set_option maxRecDepth 100000 in
theorem c_X8_by (l : Launch) (D : va_G) (cI cJ cZ cS : ClassId) (sa : Nat → Nat) (sz : Nat) (h0 : Nat) (qh : Nat) (qk : Nat) (qd : Nat) (qa : Nat) (qm : Nat) (qs : Nat) (qp : Nat) (ql : Nat) (qt : Nat) (qz : Nat) (qf : Nat) (ae : Nat) (al : Nat) (au : Nat) (ao : Nat) (ar : Nat) (ak : Nat) (aw : Nat) (att : Nat) (ass : Nat) (p0 : Int32) (p1 : Int32) (p2 : Int32) : Met l yX8_by (Cond.code yX8_by cX8_by 5 (some .int) :: wsU) ({ frames := 1, cells := 0, slots := 0, locals := 22 }) (va_Pc [.ref h0, .int p0, .int p1, .int p2] (XW D (xT cI cJ cZ cS) sa [(h0, .inr (8, [.ref qh, .ref qk, .ref qd, .int 0, .ref qa, .ref qm, .ref qs, .ref qp, .ref ql, .ref qt, .ref qz, .ref qf])), (qh, .inr (1, [.int 0, .ref ae, .ref al, .ref au, .ref ao, .ref ar, .ref ak, .ref aw, .ref att, .ref ass])), (qf, .inl (cI, 7, .inl (fun _ => 0)))] sz)) (XQi (fun (r : Int32) (_ : Unit) => r = (-1000000001)) D (fun _ : Unit => []) (va_A [(h0, .inr (8, [.ref qh, .ref qk, .ref qd, .int 0, .ref qa, .ref qm, .ref qs, .ref qp, .ref ql, .ref qt, .ref qz, .ref qf])), (qh, .inr (1, [.int 0, .ref ae, .ref al, .ref au, .ref ao, .ref ar, .ref ak, .ref aw, .ref att, .ref ass])), (qf, .inl (cI, 7, .inl (fun _ => 0)))] sz)) 0 0 (va_A [(h0, .inr (8, [.ref qh, .ref qk, .ref qd, .int 0, .ref qa, .ref qm, .ref qs, .ref qp, .ref ql, .ref qt, .ref qz, .ref qf])), (qh, .inr (1, [.int 0, .ref ae, .ref al, .ref au, .ref ao, .ref ar, .ref ak, .ref aw, .ref att, .ref ass])), (qf, .inl (cI, 7, .inl (fun _ => 0)))] sz) := by
  refine xhw (QA := fun A => XQi (fun (r : Int32) (_ : Unit) => r = (-1000000001)) D (fun _ : Unit => []) A) (by decide) (Nat.le_of_ble_eq_true rfl) ?_
  intro p e s m below meth c ls A hF hr hlk hin hsz hP hK hD hN hA hS hl
  have hF : CallFix p m c cX8_by 5 s _ _ RX8 := hF
  have hx := hF.1
  have hb := hF.2.1
  have hml := hF.2.2.1
  have hown := hF.2.2.2.1
  have hu : ∀ w ∈ wsU, w.before _ s = true := fun w h => hF.2.2.2.2 w (List.mem_cons_of_mem _ h)
  have hl : lv_has ls 5 [(0, .ref h0), (1, .int p0), (2, .int p1), (3, .int p2)] := hl
  refine lv_aload_n hx hb dX8_by_0 rfl (lv_at hl 0 rfl) ?_
  refine xg hF kf_X8_12 hK hP 0 rfl rfl dX8_by_1 ?_
  refine lv_iload_n hx hb dX8_by_4 rfl (lv_at hl 1 rfl) ?_
  refine lv_i2l (v := p0.toInt64) hx hb dX8_by_5 rfl ?_
  refine xc_Vr hF (c_X1_isPlace l D cI cJ cZ cS sa s.heap.size qh ae al au ao ar ak aw att ass p0.toInt64 ) kv_X8_87 ⟨rfl, rfl, Nat.le_of_ble_eq_true rfl, Nat.le_of_ble_eq_true rfl⟩ ⟨Nat.le_of_ble_eq_true rfl, Nat.le_of_ble_eq_true rfl⟩ hK hN hP hD [1] rfl rfl 0 rfl rfl rfl rfl hl.1 rfl (Nat.le_of_ble_eq_true rfl) dX8_by_6 (fun r_1 hw_r_1 => ?_)
  subst hw_r_1
  refine lv_if_eq (tgt := 34) hx hb dX8_by_9 (by decide) (fun c_2 => ?_) (fun c_2 => absurd (by decide) c_2)
  refine lv_aload_n hx hb dX8_by_34 rfl (lv_at hl 0 rfl) ?_
  refine lv_ldc (v := (-1000000001)) hx hb hown (hu _ uw4) dX8_by_35 ?_
  refine xc_Vi (wr := [(qh, .inr (1, [.int 0, .ref ae, .ref al, .ref au, .ref ao, .ref ar, .ref ak, .ref aw, .ref att, .ref ass]))]) hF (c_X8_finding_B l D cI cJ cZ cS sa s.heap.size h0 qh qk qd qa qm qs qp ql qt qz qf 0 (fun _ => 0) ) kv_X8_80 ⟨rfl, rfl, Nat.le_of_ble_eq_true rfl, Nat.le_of_ble_eq_true rfl⟩ ⟨Nat.le_of_ble_eq_true rfl, Nat.le_of_ble_eq_true rfl⟩ hK hN hP hD hS hA [0, 2] [1] rfl rfl rfl rfl (by decide) 0 rfl rfl rfl rfl hl.1 rfl (Nat.le_of_ble_eq_true rfl) dX8_by_37 (fun r_3 u_r_3 H locs hw_r_3 hP hD hS => ?_)
  have hP : va_P D vwCl [(qh, .inr (1, [.int 0, .ref ae, .ref al, .ref au, .ref ao, .ref ar, .ref ak, .ref aw, .ref att, .ref ass]))] H := hP
  have hD : va_D A [(qh, .inr (1, [.int 0, .ref ae, .ref al, .ref au, .ref ao, .ref ar, .ref ak, .ref aw, .ref att, .ref ass]))] := hD
  subst hw_r_3
  exact W.iret (v := (-1000000001)) hx hb hr (fun t ht hW => ⟨⟨(-1000000001), (), rfl, rfl, by rw [ht]; exact hP.sub [] rfl, hD.sub [] (by decide) rfl⟩, hS.F ht⟩) hS.2.2 dX8_by_40 hlk
set_option maxHeartbeats 4000000 in
set_option maxRecDepth 100000 in
theorem c_X8_longer (l : Launch) (D : va_G) (cI cJ cZ cS : ClassId) (sa : Nat → Nat) (sz : Nat) (h0 : Nat) (qh : Nat) (qk : Nat) (qd : Nat) (qa : Nat) (qm : Nat) (qs : Nat) (qp : Nat) (ql : Nat) (qt : Nat) (qz : Nat) (qf : Nat) (ae : Nat) (al : Nat) (au : Nat) (ao : Nat) (ar : Nat) (ak : Nat) (aw : Nat) (att : Nat) (ass : Nat) (p0 : Int32) (p1 : Int32) : Met l yX8_longer (Cond.code yX8_longer cX8_longer 5 (some .int) :: wsU) ({ frames := 1, cells := 0, slots := 0, locals := 22 }) (va_Pc [.ref h0, .int p0, .int p1] (XW D (xT cI cJ cZ cS) sa [(h0, .inr (8, [.ref qh, .ref qk, .ref qd, .int 0, .ref qa, .ref qm, .ref qs, .ref qp, .ref ql, .ref qt, .ref qz, .ref qf])), (qh, .inr (1, [.int 0, .ref ae, .ref al, .ref au, .ref ao, .ref ar, .ref ak, .ref aw, .ref att, .ref ass])), (qf, .inl (cI, 7, .inl (fun _ => 0)))] sz)) (XQi (fun (r : Int32) (_ : Unit) => r = (-1000000001)) D (fun _ : Unit => []) (va_A [(h0, .inr (8, [.ref qh, .ref qk, .ref qd, .int 0, .ref qa, .ref qm, .ref qs, .ref qp, .ref ql, .ref qt, .ref qz, .ref qf])), (qh, .inr (1, [.int 0, .ref ae, .ref al, .ref au, .ref ao, .ref ar, .ref ak, .ref aw, .ref att, .ref ass])), (qf, .inl (cI, 7, .inl (fun _ => 0)))] sz)) 0 0 (va_A [(h0, .inr (8, [.ref qh, .ref qk, .ref qd, .int 0, .ref qa, .ref qm, .ref qs, .ref qp, .ref ql, .ref qt, .ref qz, .ref qf])), (qh, .inr (1, [.int 0, .ref ae, .ref al, .ref au, .ref ao, .ref ar, .ref ak, .ref aw, .ref att, .ref ass])), (qf, .inl (cI, 7, .inl (fun _ => 0)))] sz) := by
  refine xhw (QA := fun A => XQi (fun (r : Int32) (_ : Unit) => r = (-1000000001)) D (fun _ : Unit => []) A) (by decide) (Nat.le_of_ble_eq_true rfl) ?_
  intro p e s m below meth c ls A hF hr hlk hin hsz hP hK hD hN hA hS hl
  have hF : CallFix p m c cX8_longer 5 s _ _ RX8 := hF
  have hx := hF.1
  have hb := hF.2.1
  have hml := hF.2.2.1
  have hown := hF.2.2.2.1
  have hu : ∀ w ∈ wsU, w.before _ s = true := fun w h => hF.2.2.2.2 w (List.mem_cons_of_mem _ h)
  have hl : lv_has ls 5 [(0, .ref h0), (1, .int p0), (2, .int p1)] := hl
  refine lv_aload_n hx hb dX8_longer_0 rfl (lv_at hl 0 rfl) ?_
  refine xg hF kf_X8_12 hK hP 0 rfl rfl dX8_longer_1 ?_
  refine lv_iload_n hx hb dX8_longer_4 rfl (lv_at hl 1 rfl) ?_
  refine lv_i2l (v := p0.toInt64) hx hb dX8_longer_5 rfl ?_
  refine xc_Vr hF (c_X1_isPlace l D cI cJ cZ cS sa s.heap.size qh ae al au ao ar ak aw att ass p0.toInt64 ) kv_X8_87 ⟨rfl, rfl, Nat.le_of_ble_eq_true rfl, Nat.le_of_ble_eq_true rfl⟩ ⟨Nat.le_of_ble_eq_true rfl, Nat.le_of_ble_eq_true rfl⟩ hK hN hP hD [1] rfl rfl 0 rfl rfl rfl rfl hl.1 rfl (Nat.le_of_ble_eq_true rfl) dX8_longer_6 (fun r_1 hw_r_1 => ?_)
  subst hw_r_1
  refine lv_if_eq (tgt := 24) hx hb dX8_longer_9 (by decide) (fun c_2 => ?_) (fun c_2 => absurd (by decide) c_2)
  refine lv_aload_n hx hb dX8_longer_24 rfl (lv_at hl 0 rfl) ?_
  refine lv_ldc (v := (-1000000001)) hx hb hown (hu _ uw4) dX8_longer_25 ?_
  refine xc_Vi (wr := [(qh, .inr (1, [.int 0, .ref ae, .ref al, .ref au, .ref ao, .ref ar, .ref ak, .ref aw, .ref att, .ref ass]))]) hF (c_X8_finding_B l D cI cJ cZ cS sa s.heap.size h0 qh qk qd qa qm qs qp ql qt qz qf 0 (fun _ => 0) ) kv_X8_80 ⟨rfl, rfl, Nat.le_of_ble_eq_true rfl, Nat.le_of_ble_eq_true rfl⟩ ⟨Nat.le_of_ble_eq_true rfl, Nat.le_of_ble_eq_true rfl⟩ hK hN hP hD hS hA [0, 2] [1] rfl rfl rfl rfl (by decide) 0 rfl rfl rfl rfl hl.1 rfl (Nat.le_of_ble_eq_true rfl) dX8_longer_27 (fun r_3 u_r_3 H locs hw_r_3 hP hD hS => ?_)
  have hP : va_P D vwCl [(qh, .inr (1, [.int 0, .ref ae, .ref al, .ref au, .ref ao, .ref ar, .ref ak, .ref aw, .ref att, .ref ass]))] H := hP
  have hD : va_D A [(qh, .inr (1, [.int 0, .ref ae, .ref al, .ref au, .ref ao, .ref ar, .ref ak, .ref aw, .ref att, .ref ass]))] := hD
  subst hw_r_3
  exact W.iret (v := (-1000000001)) hx hb hr (fun t ht hW => ⟨⟨(-1000000001), (), rfl, rfl, by rw [ht]; exact hP.sub [] rfl, hD.sub [] (by decide) rfl⟩, hS.F ht⟩) hS.2.2 dX8_longer_30 hlk
set_option maxHeartbeats 4000000 in
set_option maxRecDepth 100000 in
theorem c_X8_trip (l : Launch) (D : va_G) (cI cJ cZ cS : ClassId) (sa : Nat → Nat) (sz : Nat) (h0 : Nat) (qh : Nat) (qk : Nat) (qd : Nat) (qa : Nat) (qm : Nat) (qs : Nat) (qp : Nat) (ql : Nat) (qt : Nat) (qz : Nat) (qf : Nat) (ae : Nat) (al : Nat) (au : Nat) (ao : Nat) (ar : Nat) (ak : Nat) (aw : Nat) (att : Nat) (ass : Nat) (p0 : Int32) : Met l yX8_trip (Cond.code yX8_trip cX8_trip 2 (some .int) :: wsU) ({ frames := 1, cells := 0, slots := 0, locals := 22 }) (va_Pc [.ref h0, .int p0] (XW D (xT cI cJ cZ cS) sa [(h0, .inr (8, [.ref qh, .ref qk, .ref qd, .int 0, .ref qa, .ref qm, .ref qs, .ref qp, .ref ql, .ref qt, .ref qz, .ref qf])), (qh, .inr (1, [.int 0, .ref ae, .ref al, .ref au, .ref ao, .ref ar, .ref ak, .ref aw, .ref att, .ref ass])), (qf, .inl (cI, 7, .inl (fun _ => 0)))] sz)) (XQi (fun (r : Int32) (_ : Unit) => r = (-1000000001)) D (fun _ : Unit => []) (va_A [(h0, .inr (8, [.ref qh, .ref qk, .ref qd, .int 0, .ref qa, .ref qm, .ref qs, .ref qp, .ref ql, .ref qt, .ref qz, .ref qf])), (qh, .inr (1, [.int 0, .ref ae, .ref al, .ref au, .ref ao, .ref ar, .ref ak, .ref aw, .ref att, .ref ass])), (qf, .inl (cI, 7, .inl (fun _ => 0)))] sz)) 0 0 (va_A [(h0, .inr (8, [.ref qh, .ref qk, .ref qd, .int 0, .ref qa, .ref qm, .ref qs, .ref qp, .ref ql, .ref qt, .ref qz, .ref qf])), (qh, .inr (1, [.int 0, .ref ae, .ref al, .ref au, .ref ao, .ref ar, .ref ak, .ref aw, .ref att, .ref ass])), (qf, .inl (cI, 7, .inl (fun _ => 0)))] sz) := by
  refine xhw (QA := fun A => XQi (fun (r : Int32) (_ : Unit) => r = (-1000000001)) D (fun _ : Unit => []) A) (by decide) (Nat.le_of_ble_eq_true rfl) ?_
  intro p e s m below meth c ls A hF hr hlk hin hsz hP hK hD hN hA hS hl
  have hF : CallFix p m c cX8_trip 2 s _ _ RX8 := hF
  have hx := hF.1
  have hb := hF.2.1
  have hml := hF.2.2.1
  have hown := hF.2.2.2.1
  have hu : ∀ w ∈ wsU, w.before _ s = true := fun w h => hF.2.2.2.2 w (List.mem_cons_of_mem _ h)
  have hl : lv_has ls 2 [(0, .ref h0), (1, .int p0)] := hl
  refine lv_aload_n hx hb dX8_trip_0 rfl (lv_at hl 0 rfl) ?_
  refine xg hF kf_X8_12 hK hP 0 rfl rfl dX8_trip_1 ?_
  refine lv_iload_n hx hb dX8_trip_4 rfl (lv_at hl 1 rfl) ?_
  refine lv_i2l (v := p0.toInt64) hx hb dX8_trip_5 rfl ?_
  refine xc_Vr hF (c_X1_isPlace l D cI cJ cZ cS sa s.heap.size qh ae al au ao ar ak aw att ass p0.toInt64 ) kv_X8_87 ⟨rfl, rfl, Nat.le_of_ble_eq_true rfl, Nat.le_of_ble_eq_true rfl⟩ ⟨Nat.le_of_ble_eq_true rfl, Nat.le_of_ble_eq_true rfl⟩ hK hN hP hD [1] rfl rfl 0 rfl rfl rfl rfl hl.1 rfl (Nat.le_of_ble_eq_true rfl) dX8_trip_6 (fun r_1 hw_r_1 => ?_)
  subst hw_r_1
  refine lv_if_ne (tgt := 19) hx hb dX8_trip_9 (by decide) (fun c_2 => absurd (by decide) c_2) (fun c_2 => ?_)
  refine lv_aload_n hx hb dX8_trip_12 rfl (lv_at hl 0 rfl) ?_
  refine lv_ldc (v := (-1000000001)) hx hb hown (hu _ uw4) dX8_trip_13 ?_
  refine xc_Vi (wr := [(qh, .inr (1, [.int 0, .ref ae, .ref al, .ref au, .ref ao, .ref ar, .ref ak, .ref aw, .ref att, .ref ass]))]) hF (c_X8_finding_B l D cI cJ cZ cS sa s.heap.size h0 qh qk qd qa qm qs qp ql qt qz qf 0 (fun _ => 0) ) kv_X8_80 ⟨rfl, rfl, Nat.le_of_ble_eq_true rfl, Nat.le_of_ble_eq_true rfl⟩ ⟨Nat.le_of_ble_eq_true rfl, Nat.le_of_ble_eq_true rfl⟩ hK hN hP hD hS hA [0, 2] [1] rfl rfl rfl rfl (by decide) 0 rfl rfl rfl rfl hl.1 rfl (Nat.le_of_ble_eq_true rfl) dX8_trip_15 (fun r_3 u_r_3 H locs hw_r_3 hP hD hS => ?_)
  have hP : va_P D vwCl [(qh, .inr (1, [.int 0, .ref ae, .ref al, .ref au, .ref ao, .ref ar, .ref ak, .ref aw, .ref att, .ref ass]))] H := hP
  have hD : va_D A [(qh, .inr (1, [.int 0, .ref ae, .ref al, .ref au, .ref ao, .ref ar, .ref ak, .ref aw, .ref att, .ref ass]))] := hD
  subst hw_r_3
  exact W.iret (v := (-1000000001)) hx hb hr (fun t ht hW => ⟨⟨(-1000000001), (), rfl, rfl, by rw [ht]; exact hP.sub [] rfl, hD.sub [] (by decide) rfl⟩, hS.F ht⟩) hS.2.2 dX8_trip_18 hlk
set_option maxHeartbeats 4000000 in
set_option maxRecDepth 100000 in
theorem c_X8_meet (l : Launch) (D : va_G) (cI cJ cZ cS : ClassId) (sa : Nat → Nat) (sz : Nat) (h0 : Nat) (qh : Nat) (qk : Nat) (qd : Nat) (qa : Nat) (qm : Nat) (qs : Nat) (qp : Nat) (ql : Nat) (qt : Nat) (qz : Nat) (qf : Nat) (ae : Nat) (al : Nat) (au : Nat) (ao : Nat) (ar : Nat) (ak : Nat) (aw : Nat) (att : Nat) (ass : Nat) (p0 : Int32) (p1 : Int32) (p2 : Int32) : Met l yX8_meet (Cond.code yX8_meet cX8_meet 5 (some .int) :: wsU) ({ frames := 1, cells := 0, slots := 0, locals := 22 }) (va_Pc [.ref h0, .int p0, .int p1, .int p2] (XW D (xT cI cJ cZ cS) sa [(h0, .inr (8, [.ref qh, .ref qk, .ref qd, .int 0, .ref qa, .ref qm, .ref qs, .ref qp, .ref ql, .ref qt, .ref qz, .ref qf])), (qh, .inr (1, [.int 0, .ref ae, .ref al, .ref au, .ref ao, .ref ar, .ref ak, .ref aw, .ref att, .ref ass])), (qf, .inl (cI, 7, .inl (fun _ => 0)))] sz)) (XQi (fun (r : Int32) (_ : Unit) => r = (-1000000001)) D (fun _ : Unit => []) (va_A [(h0, .inr (8, [.ref qh, .ref qk, .ref qd, .int 0, .ref qa, .ref qm, .ref qs, .ref qp, .ref ql, .ref qt, .ref qz, .ref qf])), (qh, .inr (1, [.int 0, .ref ae, .ref al, .ref au, .ref ao, .ref ar, .ref ak, .ref aw, .ref att, .ref ass])), (qf, .inl (cI, 7, .inl (fun _ => 0)))] sz)) 0 0 (va_A [(h0, .inr (8, [.ref qh, .ref qk, .ref qd, .int 0, .ref qa, .ref qm, .ref qs, .ref qp, .ref ql, .ref qt, .ref qz, .ref qf])), (qh, .inr (1, [.int 0, .ref ae, .ref al, .ref au, .ref ao, .ref ar, .ref ak, .ref aw, .ref att, .ref ass])), (qf, .inl (cI, 7, .inl (fun _ => 0)))] sz) := by
  refine xhw (QA := fun A => XQi (fun (r : Int32) (_ : Unit) => r = (-1000000001)) D (fun _ : Unit => []) A) (by decide) (Nat.le_of_ble_eq_true rfl) ?_
  intro p e s m below meth c ls A hF hr hlk hin hsz hP hK hD hN hA hS hl
  have hF : CallFix p m c cX8_meet 5 s _ _ RX8 := hF
  have hx := hF.1
  have hb := hF.2.1
  have hml := hF.2.2.1
  have hown := hF.2.2.2.1
  have hu : ∀ w ∈ wsU, w.before _ s = true := fun w h => hF.2.2.2.2 w (List.mem_cons_of_mem _ h)
  have hl : lv_has ls 5 [(0, .ref h0), (1, .int p0), (2, .int p1), (3, .int p2)] := hl
  refine lv_aload_n hx hb dX8_meet_0 rfl (lv_at hl 0 rfl) ?_
  refine xg hF kf_X8_12 hK hP 0 rfl rfl dX8_meet_1 ?_
  refine lv_iload_n hx hb dX8_meet_4 rfl (lv_at hl 1 rfl) ?_
  refine lv_i2l (v := p0.toInt64) hx hb dX8_meet_5 rfl ?_
  refine xc_Vr hF (c_X1_isPlace l D cI cJ cZ cS sa s.heap.size qh ae al au ao ar ak aw att ass p0.toInt64 ) kv_X8_87 ⟨rfl, rfl, Nat.le_of_ble_eq_true rfl, Nat.le_of_ble_eq_true rfl⟩ ⟨Nat.le_of_ble_eq_true rfl, Nat.le_of_ble_eq_true rfl⟩ hK hN hP hD [1] rfl rfl 0 rfl rfl rfl rfl hl.1 rfl (Nat.le_of_ble_eq_true rfl) dX8_meet_6 (fun r_1 hw_r_1 => ?_)
  subst hw_r_1
  refine lv_if_eq (tgt := 33) hx hb dX8_meet_9 (by decide) (fun c_2 => ?_) (fun c_2 => absurd (by decide) c_2)
  refine lv_aload_n hx hb dX8_meet_33 rfl (lv_at hl 0 rfl) ?_
  refine lv_ldc (v := (-1000000001)) hx hb hown (hu _ uw4) dX8_meet_34 ?_
  refine xc_Vi (wr := [(qh, .inr (1, [.int 0, .ref ae, .ref al, .ref au, .ref ao, .ref ar, .ref ak, .ref aw, .ref att, .ref ass]))]) hF (c_X8_finding_B l D cI cJ cZ cS sa s.heap.size h0 qh qk qd qa qm qs qp ql qt qz qf 0 (fun _ => 0) ) kv_X8_80 ⟨rfl, rfl, Nat.le_of_ble_eq_true rfl, Nat.le_of_ble_eq_true rfl⟩ ⟨Nat.le_of_ble_eq_true rfl, Nat.le_of_ble_eq_true rfl⟩ hK hN hP hD hS hA [0, 2] [1] rfl rfl rfl rfl (by decide) 0 rfl rfl rfl rfl hl.1 rfl (Nat.le_of_ble_eq_true rfl) dX8_meet_36 (fun r_3 u_r_3 H locs hw_r_3 hP hD hS => ?_)
  have hP : va_P D vwCl [(qh, .inr (1, [.int 0, .ref ae, .ref al, .ref au, .ref ao, .ref ar, .ref ak, .ref aw, .ref att, .ref ass]))] H := hP
  have hD : va_D A [(qh, .inr (1, [.int 0, .ref ae, .ref al, .ref au, .ref ao, .ref ar, .ref ak, .ref aw, .ref att, .ref ass]))] := hD
  subst hw_r_3
  exact W.iret (v := (-1000000001)) hx hb hr (fun t ht hW => ⟨⟨(-1000000001), (), rfl, rfl, by rw [ht]; exact hP.sub [] rfl, hD.sub [] (by decide) rfl⟩, hS.F ht⟩) hS.2.2 dX8_meet_39 hlk
set_option maxHeartbeats 4000000 in
set_option maxRecDepth 100000 in
theorem c_X8_height (l : Launch) (D : va_G) (cI cJ cZ cS : ClassId) (sa : Nat → Nat) (sz : Nat) (h0 : Nat) (qh : Nat) (qk : Nat) (qd : Nat) (qa : Nat) (qm : Nat) (qs : Nat) (qp : Nat) (ql : Nat) (qt : Nat) (qz : Nat) (qf : Nat) (ae : Nat) (al : Nat) (au : Nat) (ao : Nat) (ar : Nat) (ak : Nat) (aw : Nat) (att : Nat) (ass : Nat) (p0 : Int32) : Met l yX8_height (Cond.code yX8_height cX8_height 2 (some .int) :: wsU) ({ frames := 1, cells := 0, slots := 0, locals := 22 }) (va_Pc [.ref h0, .int p0] (XW D (xT cI cJ cZ cS) sa [(h0, .inr (8, [.ref qh, .ref qk, .ref qd, .int 0, .ref qa, .ref qm, .ref qs, .ref qp, .ref ql, .ref qt, .ref qz, .ref qf])), (qh, .inr (1, [.int 0, .ref ae, .ref al, .ref au, .ref ao, .ref ar, .ref ak, .ref aw, .ref att, .ref ass])), (qf, .inl (cI, 7, .inl (fun _ => 0)))] sz)) (XQi (fun (r : Int32) (_ : Unit) => r = (-1000000001)) D (fun _ : Unit => []) (va_A [(h0, .inr (8, [.ref qh, .ref qk, .ref qd, .int 0, .ref qa, .ref qm, .ref qs, .ref qp, .ref ql, .ref qt, .ref qz, .ref qf])), (qh, .inr (1, [.int 0, .ref ae, .ref al, .ref au, .ref ao, .ref ar, .ref ak, .ref aw, .ref att, .ref ass])), (qf, .inl (cI, 7, .inl (fun _ => 0)))] sz)) 0 0 (va_A [(h0, .inr (8, [.ref qh, .ref qk, .ref qd, .int 0, .ref qa, .ref qm, .ref qs, .ref qp, .ref ql, .ref qt, .ref qz, .ref qf])), (qh, .inr (1, [.int 0, .ref ae, .ref al, .ref au, .ref ao, .ref ar, .ref ak, .ref aw, .ref att, .ref ass])), (qf, .inl (cI, 7, .inl (fun _ => 0)))] sz) := by
  refine xhw (QA := fun A => XQi (fun (r : Int32) (_ : Unit) => r = (-1000000001)) D (fun _ : Unit => []) A) (by decide) (Nat.le_of_ble_eq_true rfl) ?_
  intro p e s m below meth c ls A hF hr hlk hin hsz hP hK hD hN hA hS hl
  have hF : CallFix p m c cX8_height 2 s _ _ RX8 := hF
  have hx := hF.1
  have hb := hF.2.1
  have hml := hF.2.2.1
  have hown := hF.2.2.2.1
  have hu : ∀ w ∈ wsU, w.before _ s = true := fun w h => hF.2.2.2.2 w (List.mem_cons_of_mem _ h)
  have hl : lv_has ls 2 [(0, .ref h0), (1, .int p0)] := hl
  refine lv_aload_n hx hb dX8_height_0 rfl (lv_at hl 0 rfl) ?_
  refine xg hF kf_X8_12 hK hP 0 rfl rfl dX8_height_1 ?_
  refine lv_iload_n hx hb dX8_height_4 rfl (lv_at hl 1 rfl) ?_
  refine lv_i2l (v := p0.toInt64) hx hb dX8_height_5 rfl ?_
  refine xc_Vr hF (c_X1_isPlace l D cI cJ cZ cS sa s.heap.size qh ae al au ao ar ak aw att ass p0.toInt64 ) kv_X8_87 ⟨rfl, rfl, Nat.le_of_ble_eq_true rfl, Nat.le_of_ble_eq_true rfl⟩ ⟨Nat.le_of_ble_eq_true rfl, Nat.le_of_ble_eq_true rfl⟩ hK hN hP hD [1] rfl rfl 0 rfl rfl rfl rfl hl.1 rfl (Nat.le_of_ble_eq_true rfl) dX8_height_6 (fun r_1 hw_r_1 => ?_)
  subst hw_r_1
  refine lv_if_ne (tgt := 19) hx hb dX8_height_9 (by decide) (fun c_2 => absurd (by decide) c_2) (fun c_2 => ?_)
  refine lv_aload_n hx hb dX8_height_12 rfl (lv_at hl 0 rfl) ?_
  refine lv_ldc (v := (-1000000001)) hx hb hown (hu _ uw4) dX8_height_13 ?_
  refine xc_Vi (wr := [(qh, .inr (1, [.int 0, .ref ae, .ref al, .ref au, .ref ao, .ref ar, .ref ak, .ref aw, .ref att, .ref ass]))]) hF (c_X8_finding_B l D cI cJ cZ cS sa s.heap.size h0 qh qk qd qa qm qs qp ql qt qz qf 0 (fun _ => 0) ) kv_X8_80 ⟨rfl, rfl, Nat.le_of_ble_eq_true rfl, Nat.le_of_ble_eq_true rfl⟩ ⟨Nat.le_of_ble_eq_true rfl, Nat.le_of_ble_eq_true rfl⟩ hK hN hP hD hS hA [0, 2] [1] rfl rfl rfl rfl (by decide) 0 rfl rfl rfl rfl hl.1 rfl (Nat.le_of_ble_eq_true rfl) dX8_height_15 (fun r_3 u_r_3 H locs hw_r_3 hP hD hS => ?_)
  have hP : va_P D vwCl [(qh, .inr (1, [.int 0, .ref ae, .ref al, .ref au, .ref ao, .ref ar, .ref ak, .ref aw, .ref att, .ref ass]))] H := hP
  have hD : va_D A [(qh, .inr (1, [.int 0, .ref ae, .ref al, .ref au, .ref ao, .ref ar, .ref ak, .ref aw, .ref att, .ref ass]))] := hD
  subst hw_r_3
  exact W.iret (v := (-1000000001)) hx hb hr (fun t ht hW => ⟨⟨(-1000000001), (), rfl, rfl, by rw [ht]; exact hP.sub [] rfl, hD.sub [] (by decide) rfl⟩, hS.F ht⟩) hS.2.2 dX8_height_18 hlk
set_option maxHeartbeats 4000000 in
set_option maxRecDepth 100000 in
theorem c_X8_paper (l : Launch) (D : va_G) (cI cJ cZ cS : ClassId) (sa : Nat → Nat) (sz : Nat) (h0 : Nat) (qh : Nat) (qk : Nat) (qd : Nat) (qa : Nat) (qm : Nat) (qs : Nat) (qp : Nat) (ql : Nat) (qt : Nat) (qz : Nat) (qf : Nat) (ae : Nat) (al : Nat) (au : Nat) (ao : Nat) (ar : Nat) (ak : Nat) (aw : Nat) (att : Nat) (ass : Nat) (p0 : Int32) (p1 : Int32) : Met l yX8_paper (Cond.code yX8_paper cX8_paper 3 (some .int) :: wsU) ({ frames := 2, cells := 0, slots := 0, locals := 44 }) (va_Pc [.ref h0, .int p0, .int p1] (XW D (xT cI cJ cZ cS) sa [(h0, .inr (8, [.ref qh, .ref qk, .ref qd, .int 0, .ref qa, .ref qm, .ref qs, .ref qp, .ref ql, .ref qt, .ref qz, .ref qf])), (qh, .inr (1, [.int 0, .ref ae, .ref al, .ref au, .ref ao, .ref ar, .ref ak, .ref aw, .ref att, .ref ass])), (qf, .inl (cI, 7, .inl (fun _ => 0)))] sz)) (XQi (fun (r : Int32) (_ : Unit) => r = (-1000000001)) D (fun _ : Unit => []) (va_A [(h0, .inr (8, [.ref qh, .ref qk, .ref qd, .int 0, .ref qa, .ref qm, .ref qs, .ref qp, .ref ql, .ref qt, .ref qz, .ref qf])), (qh, .inr (1, [.int 0, .ref ae, .ref al, .ref au, .ref ao, .ref ar, .ref ak, .ref aw, .ref att, .ref ass])), (qf, .inl (cI, 7, .inl (fun _ => 0)))] sz)) 0 0 (va_A [(h0, .inr (8, [.ref qh, .ref qk, .ref qd, .int 0, .ref qa, .ref qm, .ref qs, .ref qp, .ref ql, .ref qt, .ref qz, .ref qf])), (qh, .inr (1, [.int 0, .ref ae, .ref al, .ref au, .ref ao, .ref ar, .ref ak, .ref aw, .ref att, .ref ass])), (qf, .inl (cI, 7, .inl (fun _ => 0)))] sz) := by
  refine xhw (QA := fun A => XQi (fun (r : Int32) (_ : Unit) => r = (-1000000001)) D (fun _ : Unit => []) A) (by decide) (Nat.le_of_ble_eq_true rfl) ?_
  intro p e s m below meth c ls A hF hr hlk hin hsz hP hK hD hN hA hS hl
  have hF : CallFix p m c cX8_paper 3 s _ _ RX8 := hF
  have hx := hF.1
  have hb := hF.2.1
  have hml := hF.2.2.1
  have hown := hF.2.2.2.1
  have hu : ∀ w ∈ wsU, w.before _ s = true := fun w h => hF.2.2.2.2 w (List.mem_cons_of_mem _ h)
  have hl : lv_has ls 3 [(0, .ref h0), (1, .int p0), (2, .int p1)] := hl
  refine lv_aload_n hx hb dX8_paper_0 rfl (lv_at hl 0 rfl) ?_
  refine xg hF kf_X8_12 hK hP 0 rfl rfl dX8_paper_1 ?_
  refine lv_iload_n hx hb dX8_paper_4 rfl (lv_at hl 1 rfl) ?_
  refine lv_iload_n hx hb dX8_paper_5 rfl (lv_at hl 2 rfl) ?_
  refine xc_Vr hF (c_X1_areTwo l D cI cJ cZ cS sa s.heap.size qh ae al au ao ar ak aw att ass p0 p1 ) kv_X8_99 ⟨rfl, rfl, Nat.le_of_ble_eq_true rfl, Nat.le_of_ble_eq_true rfl⟩ ⟨Nat.le_of_ble_eq_true rfl, Nat.le_of_ble_eq_true rfl⟩ hK hN hP hD [1] rfl rfl 0 rfl rfl rfl rfl hl.1 rfl (Nat.le_of_ble_eq_true rfl) dX8_paper_6 (fun r_1 hw_r_1 => ?_)
  subst hw_r_1
  refine lv_if_ne (tgt := 19) hx hb dX8_paper_9 (by decide) (fun c_2 => absurd (by decide) c_2) (fun c_2 => ?_)
  refine lv_aload_n hx hb dX8_paper_12 rfl (lv_at hl 0 rfl) ?_
  refine lv_ldc (v := (-1000000001)) hx hb hown (hu _ uw4) dX8_paper_13 ?_
  refine xc_Vi (wr := [(qh, .inr (1, [.int 0, .ref ae, .ref al, .ref au, .ref ao, .ref ar, .ref ak, .ref aw, .ref att, .ref ass]))]) hF (c_X8_finding_B l D cI cJ cZ cS sa s.heap.size h0 qh qk qd qa qm qs qp ql qt qz qf 0 (fun _ => 0) ) kv_X8_80 ⟨rfl, rfl, Nat.le_of_ble_eq_true rfl, Nat.le_of_ble_eq_true rfl⟩ ⟨Nat.le_of_ble_eq_true rfl, Nat.le_of_ble_eq_true rfl⟩ hK hN hP hD hS hA [0, 2] [1] rfl rfl rfl rfl (by decide) 0 rfl rfl rfl rfl hl.1 rfl (Nat.le_of_ble_eq_true rfl) dX8_paper_15 (fun r_3 u_r_3 H locs hw_r_3 hP hD hS => ?_)
  have hP : va_P D vwCl [(qh, .inr (1, [.int 0, .ref ae, .ref al, .ref au, .ref ao, .ref ar, .ref ak, .ref aw, .ref att, .ref ass]))] H := hP
  have hD : va_D A [(qh, .inr (1, [.int 0, .ref ae, .ref al, .ref au, .ref ao, .ref ar, .ref ak, .ref aw, .ref att, .ref ass]))] := hD
  subst hw_r_3
  exact W.iret (v := (-1000000001)) hx hb hr (fun t ht hW => ⟨⟨(-1000000001), (), rfl, rfl, by rw [ht]; exact hP.sub [] rfl, hD.sub [] (by decide) rfl⟩, hS.F ht⟩) hS.2.2 dX8_paper_18 hlk
set_option maxHeartbeats 4000000 in
set_option maxRecDepth 100000 in
theorem c_X8_walk (l : Launch) (D : va_G) (cI cJ cZ cS : ClassId) (sa : Nat → Nat) (sz : Nat) (h0 : Nat) (qh : Nat) (qk : Nat) (qd : Nat) (qa : Nat) (qm : Nat) (qs : Nat) (qp : Nat) (ql : Nat) (qt : Nat) (qz : Nat) (qf : Nat) (ae : Nat) (al : Nat) (au : Nat) (ao : Nat) (ar : Nat) (ak : Nat) (aw : Nat) (att : Nat) (ass : Nat) (p0 : Int32) (p1 : Int32) (p2 : Int32) (p3 : Int32) : Met l yX8_walk (Cond.code yX8_walk cX8_walk 6 (some .int) :: wsU) ({ frames := 2, cells := 0, slots := 0, locals := 44 }) (va_Pc [.ref h0, .int p0, .int p1, .int p2, .int p3] (XW D (xT cI cJ cZ cS) sa [(h0, .inr (8, [.ref qh, .ref qk, .ref qd, .int 0, .ref qa, .ref qm, .ref qs, .ref qp, .ref ql, .ref qt, .ref qz, .ref qf])), (qh, .inr (1, [.int 0, .ref ae, .ref al, .ref au, .ref ao, .ref ar, .ref ak, .ref aw, .ref att, .ref ass])), (qf, .inl (cI, 7, .inl (fun _ => 0)))] sz)) (XQi (fun (r : Int32) (_ : Unit) => r = (-1000000001)) D (fun _ : Unit => []) (va_A [(h0, .inr (8, [.ref qh, .ref qk, .ref qd, .int 0, .ref qa, .ref qm, .ref qs, .ref qp, .ref ql, .ref qt, .ref qz, .ref qf])), (qh, .inr (1, [.int 0, .ref ae, .ref al, .ref au, .ref ao, .ref ar, .ref ak, .ref aw, .ref att, .ref ass])), (qf, .inl (cI, 7, .inl (fun _ => 0)))] sz)) 0 0 (va_A [(h0, .inr (8, [.ref qh, .ref qk, .ref qd, .int 0, .ref qa, .ref qm, .ref qs, .ref qp, .ref ql, .ref qt, .ref qz, .ref qf])), (qh, .inr (1, [.int 0, .ref ae, .ref al, .ref au, .ref ao, .ref ar, .ref ak, .ref aw, .ref att, .ref ass])), (qf, .inl (cI, 7, .inl (fun _ => 0)))] sz) := by
  refine xhw (QA := fun A => XQi (fun (r : Int32) (_ : Unit) => r = (-1000000001)) D (fun _ : Unit => []) A) (by decide) (Nat.le_of_ble_eq_true rfl) ?_
  intro p e s m below meth c ls A hF hr hlk hin hsz hP hK hD hN hA hS hl
  have hF : CallFix p m c cX8_walk 6 s _ _ RX8 := hF
  have hx := hF.1
  have hb := hF.2.1
  have hml := hF.2.2.1
  have hown := hF.2.2.2.1
  have hu : ∀ w ∈ wsU, w.before _ s = true := fun w h => hF.2.2.2.2 w (List.mem_cons_of_mem _ h)
  have hl : lv_has ls 6 [(0, .ref h0), (1, .int p0), (2, .int p1), (3, .int p2), (4, .int p3)] := hl
  refine lv_aload_n hx hb dX8_walk_0 rfl (lv_at hl 0 rfl) ?_
  refine xg hF kf_X8_12 hK hP 0 rfl rfl dX8_walk_1 ?_
  refine lv_iload_n hx hb dX8_walk_4 rfl (lv_at hl 1 rfl) ?_
  refine lv_iload_n hx hb dX8_walk_5 rfl (lv_at hl 2 rfl) ?_
  refine xc_Vr hF (c_X1_areTwo l D cI cJ cZ cS sa s.heap.size qh ae al au ao ar ak aw att ass p0 p1 ) kv_X8_99 ⟨rfl, rfl, Nat.le_of_ble_eq_true rfl, Nat.le_of_ble_eq_true rfl⟩ ⟨Nat.le_of_ble_eq_true rfl, Nat.le_of_ble_eq_true rfl⟩ hK hN hP hD [1] rfl rfl 0 rfl rfl rfl rfl hl.1 rfl (Nat.le_of_ble_eq_true rfl) dX8_walk_6 (fun r_1 hw_r_1 => ?_)
  subst hw_r_1
  refine lv_if_eq (tgt := 36) hx hb dX8_walk_9 (by decide) (fun c_2 => ?_) (fun c_2 => absurd (by decide) c_2)
  refine lv_aload_n hx hb dX8_walk_36 rfl (lv_at hl 0 rfl) ?_
  refine lv_ldc (v := (-1000000001)) hx hb hown (hu _ uw4) dX8_walk_37 ?_
  refine xc_Vi (wr := [(qh, .inr (1, [.int 0, .ref ae, .ref al, .ref au, .ref ao, .ref ar, .ref ak, .ref aw, .ref att, .ref ass]))]) hF (c_X8_finding_B l D cI cJ cZ cS sa s.heap.size h0 qh qk qd qa qm qs qp ql qt qz qf 0 (fun _ => 0) ) kv_X8_80 ⟨rfl, rfl, Nat.le_of_ble_eq_true rfl, Nat.le_of_ble_eq_true rfl⟩ ⟨Nat.le_of_ble_eq_true rfl, Nat.le_of_ble_eq_true rfl⟩ hK hN hP hD hS hA [0, 2] [1] rfl rfl rfl rfl (by decide) 0 rfl rfl rfl rfl hl.1 rfl (Nat.le_of_ble_eq_true rfl) dX8_walk_39 (fun r_3 u_r_3 H locs hw_r_3 hP hD hS => ?_)
  have hP : va_P D vwCl [(qh, .inr (1, [.int 0, .ref ae, .ref al, .ref au, .ref ao, .ref ar, .ref ak, .ref aw, .ref att, .ref ass]))] H := hP
  have hD : va_D A [(qh, .inr (1, [.int 0, .ref ae, .ref al, .ref au, .ref ao, .ref ar, .ref ak, .ref aw, .ref att, .ref ass]))] := hD
  subst hw_r_3
  exact W.iret (v := (-1000000001)) hx hb hr (fun t ht hW => ⟨⟨(-1000000001), (), rfl, rfl, by rw [ht]; exact hP.sub [] rfl, hD.sub [] (by decide) rfl⟩, hS.F ht⟩) hS.2.2 dX8_walk_42 hlk
set_option maxHeartbeats 4000000 in
set_option maxRecDepth 100000 in
theorem c_X8_saves (l : Launch) (D : va_G) (cI cJ cZ cS : ClassId) (sa : Nat → Nat) (sz : Nat) (h0 : Nat) (qh : Nat) (qk : Nat) (qd : Nat) (qa : Nat) (qm : Nat) (qs : Nat) (qp : Nat) (ql : Nat) (qt : Nat) (qz : Nat) (qf : Nat) (ae : Nat) (al : Nat) (au : Nat) (ao : Nat) (ar : Nat) (ak : Nat) (aw : Nat) (att : Nat) (ass : Nat) (p0 : Int32) (p1 : Int32) : Met l yX8_saves (Cond.code yX8_saves cX8_saves 4 (some .int) :: wsU) ({ frames := 2, cells := 0, slots := 0, locals := 44 }) (va_Pc [.ref h0, .int p0, .int p1] (XW D (xT cI cJ cZ cS) sa [(h0, .inr (8, [.ref qh, .ref qk, .ref qd, .int 0, .ref qa, .ref qm, .ref qs, .ref qp, .ref ql, .ref qt, .ref qz, .ref qf])), (qh, .inr (1, [.int 0, .ref ae, .ref al, .ref au, .ref ao, .ref ar, .ref ak, .ref aw, .ref att, .ref ass])), (qf, .inl (cI, 7, .inl (fun _ => 0)))] sz)) (XQi (fun (r : Int32) (_ : Unit) => r = (-1000000001)) D (fun _ : Unit => []) (va_A [(h0, .inr (8, [.ref qh, .ref qk, .ref qd, .int 0, .ref qa, .ref qm, .ref qs, .ref qp, .ref ql, .ref qt, .ref qz, .ref qf])), (qh, .inr (1, [.int 0, .ref ae, .ref al, .ref au, .ref ao, .ref ar, .ref ak, .ref aw, .ref att, .ref ass])), (qf, .inl (cI, 7, .inl (fun _ => 0)))] sz)) 0 0 (va_A [(h0, .inr (8, [.ref qh, .ref qk, .ref qd, .int 0, .ref qa, .ref qm, .ref qs, .ref qp, .ref ql, .ref qt, .ref qz, .ref qf])), (qh, .inr (1, [.int 0, .ref ae, .ref al, .ref au, .ref ao, .ref ar, .ref ak, .ref aw, .ref att, .ref ass])), (qf, .inl (cI, 7, .inl (fun _ => 0)))] sz) := by
  refine xhw (QA := fun A => XQi (fun (r : Int32) (_ : Unit) => r = (-1000000001)) D (fun _ : Unit => []) A) (by decide) (Nat.le_of_ble_eq_true rfl) ?_
  intro p e s m below meth c ls A hF hr hlk hin hsz hP hK hD hN hA hS hl
  have hF : CallFix p m c cX8_saves 4 s _ _ RX8 := hF
  have hx := hF.1
  have hb := hF.2.1
  have hml := hF.2.2.1
  have hown := hF.2.2.2.1
  have hu : ∀ w ∈ wsU, w.before _ s = true := fun w h => hF.2.2.2.2 w (List.mem_cons_of_mem _ h)
  have hl : lv_has ls 4 [(0, .ref h0), (1, .int p0), (2, .int p1)] := hl
  refine lv_aload_n hx hb dX8_saves_0 rfl (lv_at hl 0 rfl) ?_
  refine xg hF kf_X8_12 hK hP 0 rfl rfl dX8_saves_1 ?_
  refine lv_iload_n hx hb dX8_saves_4 rfl (lv_at hl 1 rfl) ?_
  refine lv_iload_n hx hb dX8_saves_5 rfl (lv_at hl 2 rfl) ?_
  refine xc_Vr hF (c_X1_areTwo l D cI cJ cZ cS sa s.heap.size qh ae al au ao ar ak aw att ass p0 p1 ) kv_X8_99 ⟨rfl, rfl, Nat.le_of_ble_eq_true rfl, Nat.le_of_ble_eq_true rfl⟩ ⟨Nat.le_of_ble_eq_true rfl, Nat.le_of_ble_eq_true rfl⟩ hK hN hP hD [1] rfl rfl 0 rfl rfl rfl rfl hl.1 rfl (Nat.le_of_ble_eq_true rfl) dX8_saves_6 (fun r_1 hw_r_1 => ?_)
  subst hw_r_1
  refine lv_if_ne (tgt := 19) hx hb dX8_saves_9 (by decide) (fun c_2 => absurd (by decide) c_2) (fun c_2 => ?_)
  refine lv_aload_n hx hb dX8_saves_12 rfl (lv_at hl 0 rfl) ?_
  refine lv_ldc (v := (-1000000001)) hx hb hown (hu _ uw4) dX8_saves_13 ?_
  refine xc_Vi (wr := [(qh, .inr (1, [.int 0, .ref ae, .ref al, .ref au, .ref ao, .ref ar, .ref ak, .ref aw, .ref att, .ref ass]))]) hF (c_X8_finding_B l D cI cJ cZ cS sa s.heap.size h0 qh qk qd qa qm qs qp ql qt qz qf 0 (fun _ => 0) ) kv_X8_80 ⟨rfl, rfl, Nat.le_of_ble_eq_true rfl, Nat.le_of_ble_eq_true rfl⟩ ⟨Nat.le_of_ble_eq_true rfl, Nat.le_of_ble_eq_true rfl⟩ hK hN hP hD hS hA [0, 2] [1] rfl rfl rfl rfl (by decide) 0 rfl rfl rfl rfl hl.1 rfl (Nat.le_of_ble_eq_true rfl) dX8_saves_15 (fun r_3 u_r_3 H locs hw_r_3 hP hD hS => ?_)
  have hP : va_P D vwCl [(qh, .inr (1, [.int 0, .ref ae, .ref al, .ref au, .ref ao, .ref ar, .ref ak, .ref aw, .ref att, .ref ass]))] H := hP
  have hD : va_D A [(qh, .inr (1, [.int 0, .ref ae, .ref al, .ref au, .ref ao, .ref ar, .ref ak, .ref aw, .ref att, .ref ass]))] := hD
  subst hw_r_3
  exact W.iret (v := (-1000000001)) hx hb hr (fun t ht hW => ⟨⟨(-1000000001), (), rfl, rfl, by rw [ht]; exact hP.sub [] rfl, hD.sub [] (by decide) rfl⟩, hS.F ht⟩) hS.2.2 dX8_saves_18 hlk
set_option maxHeartbeats 4000000 in
set_option maxRecDepth 100000 in
theorem c_X8_goes (l : Launch) (D : va_G) (cI cJ cZ cS : ClassId) (sa : Nat → Nat) (sz : Nat) (h0 : Nat) (qh : Nat) (qk : Nat) (qd : Nat) (qa : Nat) (qm : Nat) (qs : Nat) (qp : Nat) (ql : Nat) (qt : Nat) (qz : Nat) (qf : Nat) (ae : Nat) (al : Nat) (au : Nat) (ao : Nat) (ar : Nat) (ak : Nat) (aw : Nat) (att : Nat) (ass : Nat) (p0 : Int32) (p1 : Int32) : Met l yX8_goes (Cond.code yX8_goes cX8_goes 4 (some .int) :: wsU) ({ frames := 1, cells := 0, slots := 0, locals := 22 }) (va_Pc [.ref h0, .int p0, .int p1] (XW D (xT cI cJ cZ cS) sa [(h0, .inr (8, [.ref qh, .ref qk, .ref qd, .int 0, .ref qa, .ref qm, .ref qs, .ref qp, .ref ql, .ref qt, .ref qz, .ref qf])), (qh, .inr (1, [.int 0, .ref ae, .ref al, .ref au, .ref ao, .ref ar, .ref ak, .ref aw, .ref att, .ref ass])), (qf, .inl (cI, 7, .inl (fun _ => 0)))] sz)) (XQi (fun (r : Int32) (_ : Unit) => r = (-1000000001)) D (fun _ : Unit => []) (va_A [(h0, .inr (8, [.ref qh, .ref qk, .ref qd, .int 0, .ref qa, .ref qm, .ref qs, .ref qp, .ref ql, .ref qt, .ref qz, .ref qf])), (qh, .inr (1, [.int 0, .ref ae, .ref al, .ref au, .ref ao, .ref ar, .ref ak, .ref aw, .ref att, .ref ass])), (qf, .inl (cI, 7, .inl (fun _ => 0)))] sz)) 0 0 (va_A [(h0, .inr (8, [.ref qh, .ref qk, .ref qd, .int 0, .ref qa, .ref qm, .ref qs, .ref qp, .ref ql, .ref qt, .ref qz, .ref qf])), (qh, .inr (1, [.int 0, .ref ae, .ref al, .ref au, .ref ao, .ref ar, .ref ak, .ref aw, .ref att, .ref ass])), (qf, .inl (cI, 7, .inl (fun _ => 0)))] sz) := by
  refine xhw (QA := fun A => XQi (fun (r : Int32) (_ : Unit) => r = (-1000000001)) D (fun _ : Unit => []) A) (by decide) (Nat.le_of_ble_eq_true rfl) ?_
  intro p e s m below meth c ls A hF hr hlk hin hsz hP hK hD hN hA hS hl
  have hF : CallFix p m c cX8_goes 4 s _ _ RX8 := hF
  have hx := hF.1
  have hb := hF.2.1
  have hml := hF.2.2.1
  have hown := hF.2.2.2.1
  have hu : ∀ w ∈ wsU, w.before _ s = true := fun w h => hF.2.2.2.2 w (List.mem_cons_of_mem _ h)
  have hl : lv_has ls 4 [(0, .ref h0), (1, .int p0), (2, .int p1)] := hl
  refine lv_aload_n hx hb dX8_goes_0 rfl (lv_at hl 0 rfl) ?_
  refine xg hF kf_X8_12 hK hP 0 rfl rfl dX8_goes_1 ?_
  refine lv_iload_n hx hb dX8_goes_4 rfl (lv_at hl 1 rfl) ?_
  refine lv_i2l (v := p0.toInt64) hx hb dX8_goes_5 rfl ?_
  refine xc_Vr hF (c_X1_isPlace l D cI cJ cZ cS sa s.heap.size qh ae al au ao ar ak aw att ass p0.toInt64 ) kv_X8_87 ⟨rfl, rfl, Nat.le_of_ble_eq_true rfl, Nat.le_of_ble_eq_true rfl⟩ ⟨Nat.le_of_ble_eq_true rfl, Nat.le_of_ble_eq_true rfl⟩ hK hN hP hD [1] rfl rfl 0 rfl rfl rfl rfl hl.1 rfl (Nat.le_of_ble_eq_true rfl) dX8_goes_6 (fun r_1 hw_r_1 => ?_)
  subst hw_r_1
  refine lv_if_eq (tgt := 23) hx hb dX8_goes_9 (by decide) (fun c_2 => ?_) (fun c_2 => absurd (by decide) c_2)
  refine lv_aload_n hx hb dX8_goes_23 rfl (lv_at hl 0 rfl) ?_
  refine lv_ldc (v := (-1000000001)) hx hb hown (hu _ uw4) dX8_goes_24 ?_
  refine xc_Vi (wr := [(qh, .inr (1, [.int 0, .ref ae, .ref al, .ref au, .ref ao, .ref ar, .ref ak, .ref aw, .ref att, .ref ass]))]) hF (c_X8_finding_B l D cI cJ cZ cS sa s.heap.size h0 qh qk qd qa qm qs qp ql qt qz qf 0 (fun _ => 0) ) kv_X8_80 ⟨rfl, rfl, Nat.le_of_ble_eq_true rfl, Nat.le_of_ble_eq_true rfl⟩ ⟨Nat.le_of_ble_eq_true rfl, Nat.le_of_ble_eq_true rfl⟩ hK hN hP hD hS hA [0, 2] [1] rfl rfl rfl rfl (by decide) 0 rfl rfl rfl rfl hl.1 rfl (Nat.le_of_ble_eq_true rfl) dX8_goes_26 (fun r_3 u_r_3 H locs hw_r_3 hP hD hS => ?_)
  have hP : va_P D vwCl [(qh, .inr (1, [.int 0, .ref ae, .ref al, .ref au, .ref ao, .ref ar, .ref ak, .ref aw, .ref att, .ref ass]))] H := hP
  have hD : va_D A [(qh, .inr (1, [.int 0, .ref ae, .ref al, .ref au, .ref ao, .ref ar, .ref ak, .ref aw, .ref att, .ref ass]))] := hD
  subst hw_r_3
  exact W.iret (v := (-1000000001)) hx hb hr (fun t ht hW => ⟨⟨(-1000000001), (), rfl, rfl, by rw [ht]; exact hP.sub [] rfl, hD.sub [] (by decide) rfl⟩, hS.F ht⟩) hS.2.2 dX8_goes_29 hlk
set_option maxHeartbeats 4000000 in
set_option maxRecDepth 100000 in
theorem c_X8_round (l : Launch) (D : va_G) (cI cJ cZ cS : ClassId) (sa : Nat → Nat) (sz : Nat) (h0 : Nat) (qh : Nat) (qk : Nat) (qd : Nat) (qa : Nat) (qm : Nat) (qs : Nat) (qp : Nat) (ql : Nat) (qt : Nat) (qz : Nat) (qf : Nat) (ae : Nat) (al : Nat) (au : Nat) (ao : Nat) (ar : Nat) (ak : Nat) (aw : Nat) (att : Nat) (ass : Nat) (p0 : Int32) (p1 : Int32) : Met l yX8_round (Cond.code yX8_round cX8_round 3 (some .int) :: wsU) ({ frames := 2, cells := 0, slots := 0, locals := 42 }) (va_Pc [.ref h0, .int p0, .int p1] (XW D (xT cI cJ cZ cS) sa [(h0, .inr (8, [.ref qh, .ref qk, .ref qd, .int 0, .ref qa, .ref qm, .ref qs, .ref qp, .ref ql, .ref qt, .ref qz, .ref qf])), (qh, .inr (1, [.int 0, .ref ae, .ref al, .ref au, .ref ao, .ref ar, .ref ak, .ref aw, .ref att, .ref ass])), (qf, .inl (cI, 7, .inl (fun _ => 0)))] sz)) (XQi (fun (r : Int32) (_ : Unit) => r = (-1000000001)) D (fun _ : Unit => []) (va_A [(h0, .inr (8, [.ref qh, .ref qk, .ref qd, .int 0, .ref qa, .ref qm, .ref qs, .ref qp, .ref ql, .ref qt, .ref qz, .ref qf])), (qh, .inr (1, [.int 0, .ref ae, .ref al, .ref au, .ref ao, .ref ar, .ref ak, .ref aw, .ref att, .ref ass])), (qf, .inl (cI, 7, .inl (fun _ => 0)))] sz)) 0 0 (va_A [(h0, .inr (8, [.ref qh, .ref qk, .ref qd, .int 0, .ref qa, .ref qm, .ref qs, .ref qp, .ref ql, .ref qt, .ref qz, .ref qf])), (qh, .inr (1, [.int 0, .ref ae, .ref al, .ref au, .ref ao, .ref ar, .ref ak, .ref aw, .ref att, .ref ass])), (qf, .inl (cI, 7, .inl (fun _ => 0)))] sz) := by
  refine xhw (QA := fun A => XQi (fun (r : Int32) (_ : Unit) => r = (-1000000001)) D (fun _ : Unit => []) A) (by decide) (Nat.le_of_ble_eq_true rfl) ?_
  intro p e s m below meth c ls A hF hr hlk hin hsz hP hK hD hN hA hS hl
  have hF : CallFix p m c cX8_round 3 s _ _ RX8 := hF
  have hx := hF.1
  have hb := hF.2.1
  have hml := hF.2.2.1
  have hown := hF.2.2.2.1
  have hu : ∀ w ∈ wsU, w.before _ s = true := fun w h => hF.2.2.2.2 w (List.mem_cons_of_mem _ h)
  have hl : lv_has ls 3 [(0, .ref h0), (1, .int p0), (2, .int p1)] := hl
  refine lv_iload_n hx hb dX8_round_0 rfl (lv_at hl 1 rfl) ?_
  refine xc_Sr hF (c_X8_isKind l D cI cJ cZ cS sa s.heap.size p0 ) ks_X8_155 ⟨rfl, rfl, Nat.le_of_ble_eq_true rfl, Nat.le_of_ble_eq_true rfl⟩ ⟨Nat.le_of_ble_eq_true rfl, Nat.le_of_ble_eq_true rfl⟩ hK hN hP hD [] rfl rfl rfl hl.1 rfl (Nat.le_of_ble_eq_true rfl) dX8_round_1 (fun r_1 hw_r_1 => ?_)
  rcases hw_r_1 with ⟨rfl, h_2, h_3⟩ | ⟨rfl, h_4⟩
  · skip
    refine lv_if_eq (tgt := 19) hx hb dX8_round_4 (by decide) (fun c_5 => absurd c_5 (by decide)) (fun c_5 => ?_)
    refine lv_aload_n hx hb dX8_round_7 rfl (lv_at hl 0 rfl) ?_
    refine xg hF kf_X8_12 hK hP 0 rfl rfl dX8_round_8 ?_
    refine lv_iload_n hx hb dX8_round_11 rfl (lv_at hl 2 rfl) ?_
    refine lv_i2l (v := p1.toInt64) hx hb dX8_round_12 rfl ?_
    refine xc_Vr hF (c_X1_isPlace l D cI cJ cZ cS sa s.heap.size qh ae al au ao ar ak aw att ass p1.toInt64 ) kv_X8_87 ⟨rfl, rfl, Nat.le_of_ble_eq_true rfl, Nat.le_of_ble_eq_true rfl⟩ ⟨Nat.le_of_ble_eq_true rfl, Nat.le_of_ble_eq_true rfl⟩ hK hN hP hD [1] rfl rfl 0 rfl rfl rfl rfl hl.1 rfl (Nat.le_of_ble_eq_true rfl) dX8_round_13 (fun r_6 hw_r_6 => ?_)
    subst hw_r_6
    refine lv_if_ne (tgt := 26) hx hb dX8_round_16 (by decide) (fun c_7 => absurd (by decide) c_7) (fun c_7 => ?_)
    refine lv_aload_n hx hb dX8_round_19 rfl (lv_at hl 0 rfl) ?_
    refine lv_ldc (v := (-1000000001)) hx hb hown (hu _ uw4) dX8_round_20 ?_
    refine xc_Vi (wr := [(qh, .inr (1, [.int 0, .ref ae, .ref al, .ref au, .ref ao, .ref ar, .ref ak, .ref aw, .ref att, .ref ass]))]) hF (c_X8_finding_B l D cI cJ cZ cS sa s.heap.size h0 qh qk qd qa qm qs qp ql qt qz qf 0 (fun _ => 0) ) kv_X8_80 ⟨rfl, rfl, Nat.le_of_ble_eq_true rfl, Nat.le_of_ble_eq_true rfl⟩ ⟨Nat.le_of_ble_eq_true rfl, Nat.le_of_ble_eq_true rfl⟩ hK hN hP hD hS hA [0, 2] [1] rfl rfl rfl rfl (by decide) 0 rfl rfl rfl rfl hl.1 rfl (Nat.le_of_ble_eq_true rfl) dX8_round_22 (fun r_8 u_r_8 H locs hw_r_8 hP hD hS => ?_)
    have hP : va_P D vwCl [(qh, .inr (1, [.int 0, .ref ae, .ref al, .ref au, .ref ao, .ref ar, .ref ak, .ref aw, .ref att, .ref ass]))] H := hP
    have hD : va_D A [(qh, .inr (1, [.int 0, .ref ae, .ref al, .ref au, .ref ao, .ref ar, .ref ak, .ref aw, .ref att, .ref ass]))] := hD
    subst hw_r_8
    exact W.iret (v := (-1000000001)) hx hb hr (fun t ht hW => ⟨⟨(-1000000001), (), rfl, rfl, by rw [ht]; exact hP.sub [] rfl, hD.sub [] (by decide) rfl⟩, hS.F ht⟩) hS.2.2 dX8_round_25 hlk
  · skip
    refine lv_if_eq (tgt := 19) hx hb dX8_round_4 (by decide) (fun c_9 => ?_) (fun c_9 => absurd (by decide) c_9)
    refine lv_aload_n hx hb dX8_round_19 rfl (lv_at hl 0 rfl) ?_
    refine lv_ldc (v := (-1000000001)) hx hb hown (hu _ uw4) dX8_round_20 ?_
    refine xc_Vi (wr := [(qh, .inr (1, [.int 0, .ref ae, .ref al, .ref au, .ref ao, .ref ar, .ref ak, .ref aw, .ref att, .ref ass]))]) hF (c_X8_finding_B l D cI cJ cZ cS sa s.heap.size h0 qh qk qd qa qm qs qp ql qt qz qf 0 (fun _ => 0) ) kv_X8_80 ⟨rfl, rfl, Nat.le_of_ble_eq_true rfl, Nat.le_of_ble_eq_true rfl⟩ ⟨Nat.le_of_ble_eq_true rfl, Nat.le_of_ble_eq_true rfl⟩ hK hN hP hD hS hA [0, 2] [1] rfl rfl rfl rfl (by decide) 0 rfl rfl rfl rfl hl.1 rfl (Nat.le_of_ble_eq_true rfl) dX8_round_22 (fun r_10 u_r_10 H locs hw_r_10 hP hD hS => ?_)
    have hP : va_P D vwCl [(qh, .inr (1, [.int 0, .ref ae, .ref al, .ref au, .ref ao, .ref ar, .ref ak, .ref aw, .ref att, .ref ass]))] H := hP
    have hD : va_D A [(qh, .inr (1, [.int 0, .ref ae, .ref al, .ref au, .ref ao, .ref ar, .ref ak, .ref aw, .ref att, .ref ass]))] := hD
    subst hw_r_10
    exact W.iret (v := (-1000000001)) hx hb hr (fun t ht hW => ⟨⟨(-1000000001), (), rfl, rfl, by rw [ht]; exact hP.sub [] rfl, hD.sub [] (by decide) rfl⟩, hS.F ht⟩) hS.2.2 dX8_round_25 hlk
set_option maxHeartbeats 4000000 in
set_option maxRecDepth 100000 in
theorem c_X8_shut (l : Launch) (D : va_G) (cI cJ cZ cS : ClassId) (sa : Nat → Nat) (sz : Nat) (h0 : Nat) (qh : Nat) (qk : Nat) (qd : Nat) (qa : Nat) (qm : Nat) (qs : Nat) (qp : Nat) (ql : Nat) (qt : Nat) (qz : Nat) (qf : Nat) (ae : Nat) (al : Nat) (au : Nat) (ao : Nat) (ar : Nat) (ak : Nat) (aw : Nat) (att : Nat) (ass : Nat) (p0 : Int32) (p1 : Int32) (p2 : Int32) : Met l yX8_shut (Cond.code yX8_shut cX8_shut 5 (some .int) :: wsU) ({ frames := 2, cells := 0, slots := 0, locals := 44 }) (va_Pc [.ref h0, .int p0, .int p1, .int p2] (XW D (xT cI cJ cZ cS) sa [(h0, .inr (8, [.ref qh, .ref qk, .ref qd, .int 0, .ref qa, .ref qm, .ref qs, .ref qp, .ref ql, .ref qt, .ref qz, .ref qf])), (qh, .inr (1, [.int 0, .ref ae, .ref al, .ref au, .ref ao, .ref ar, .ref ak, .ref aw, .ref att, .ref ass])), (qf, .inl (cI, 7, .inl (fun _ => 0)))] sz)) (XQi (fun (r : Int32) (_ : Unit) => r = (-1000000001)) D (fun _ : Unit => []) (va_A [(h0, .inr (8, [.ref qh, .ref qk, .ref qd, .int 0, .ref qa, .ref qm, .ref qs, .ref qp, .ref ql, .ref qt, .ref qz, .ref qf])), (qh, .inr (1, [.int 0, .ref ae, .ref al, .ref au, .ref ao, .ref ar, .ref ak, .ref aw, .ref att, .ref ass])), (qf, .inl (cI, 7, .inl (fun _ => 0)))] sz)) 0 0 (va_A [(h0, .inr (8, [.ref qh, .ref qk, .ref qd, .int 0, .ref qa, .ref qm, .ref qs, .ref qp, .ref ql, .ref qt, .ref qz, .ref qf])), (qh, .inr (1, [.int 0, .ref ae, .ref al, .ref au, .ref ao, .ref ar, .ref ak, .ref aw, .ref att, .ref ass])), (qf, .inl (cI, 7, .inl (fun _ => 0)))] sz) := by
  refine xhw (QA := fun A => XQi (fun (r : Int32) (_ : Unit) => r = (-1000000001)) D (fun _ : Unit => []) A) (by decide) (Nat.le_of_ble_eq_true rfl) ?_
  intro p e s m below meth c ls A hF hr hlk hin hsz hP hK hD hN hA hS hl
  have hF : CallFix p m c cX8_shut 5 s _ _ RX8 := hF
  have hx := hF.1
  have hb := hF.2.1
  have hml := hF.2.2.1
  have hown := hF.2.2.2.1
  have hu : ∀ w ∈ wsU, w.before _ s = true := fun w h => hF.2.2.2.2 w (List.mem_cons_of_mem _ h)
  have hl : lv_has ls 5 [(0, .ref h0), (1, .int p0), (2, .int p1), (3, .int p2)] := hl
  refine lv_aload_n hx hb dX8_shut_0 rfl (lv_at hl 0 rfl) ?_
  refine xg hF kf_X8_12 hK hP 0 rfl rfl dX8_shut_1 ?_
  refine lv_iload_n hx hb dX8_shut_4 rfl (lv_at hl 1 rfl) ?_
  refine lv_iload_n hx hb dX8_shut_5 rfl (lv_at hl 2 rfl) ?_
  refine xc_Vr hF (c_X1_areTwo l D cI cJ cZ cS sa s.heap.size qh ae al au ao ar ak aw att ass p0 p1 ) kv_X8_99 ⟨rfl, rfl, Nat.le_of_ble_eq_true rfl, Nat.le_of_ble_eq_true rfl⟩ ⟨Nat.le_of_ble_eq_true rfl, Nat.le_of_ble_eq_true rfl⟩ hK hN hP hD [1] rfl rfl 0 rfl rfl rfl rfl hl.1 rfl (Nat.le_of_ble_eq_true rfl) dX8_shut_6 (fun r_1 hw_r_1 => ?_)
  subst hw_r_1
  refine lv_if_ne (tgt := 19) hx hb dX8_shut_9 (by decide) (fun c_2 => absurd (by decide) c_2) (fun c_2 => ?_)
  refine lv_aload_n hx hb dX8_shut_12 rfl (lv_at hl 0 rfl) ?_
  refine lv_ldc (v := (-1000000001)) hx hb hown (hu _ uw4) dX8_shut_13 ?_
  refine xc_Vi (wr := [(qh, .inr (1, [.int 0, .ref ae, .ref al, .ref au, .ref ao, .ref ar, .ref ak, .ref aw, .ref att, .ref ass]))]) hF (c_X8_finding_B l D cI cJ cZ cS sa s.heap.size h0 qh qk qd qa qm qs qp ql qt qz qf 0 (fun _ => 0) ) kv_X8_80 ⟨rfl, rfl, Nat.le_of_ble_eq_true rfl, Nat.le_of_ble_eq_true rfl⟩ ⟨Nat.le_of_ble_eq_true rfl, Nat.le_of_ble_eq_true rfl⟩ hK hN hP hD hS hA [0, 2] [1] rfl rfl rfl rfl (by decide) 0 rfl rfl rfl rfl hl.1 rfl (Nat.le_of_ble_eq_true rfl) dX8_shut_15 (fun r_3 u_r_3 H locs hw_r_3 hP hD hS => ?_)
  have hP : va_P D vwCl [(qh, .inr (1, [.int 0, .ref ae, .ref al, .ref au, .ref ao, .ref ar, .ref ak, .ref aw, .ref att, .ref ass]))] H := hP
  have hD : va_D A [(qh, .inr (1, [.int 0, .ref ae, .ref al, .ref au, .ref ao, .ref ar, .ref ak, .ref aw, .ref att, .ref ass]))] := hD
  subst hw_r_3
  exact W.iret (v := (-1000000001)) hx hb hr (fun t ht hW => ⟨⟨(-1000000001), (), rfl, rfl, by rw [ht]; exact hP.sub [] rfl, hD.sub [] (by decide) rfl⟩, hS.F ht⟩) hS.2.2 dX8_shut_18 hlk
set_option maxHeartbeats 4000000 in
set_option maxRecDepth 100000 in
theorem c_X8_over (l : Launch) (D : va_G) (cI cJ cZ cS : ClassId) (sa : Nat → Nat) (sz : Nat) (h0 : Nat) (qh : Nat) (qk : Nat) (qd : Nat) (qa : Nat) (qm : Nat) (qs : Nat) (qp : Nat) (ql : Nat) (qt : Nat) (qz : Nat) (qf : Nat) (ae : Nat) (al : Nat) (au : Nat) (ao : Nat) (ar : Nat) (ak : Nat) (aw : Nat) (att : Nat) (ass : Nat) (aRn : Nat) (aRp : Nat) (p0 : Int32) (p1 : Int32) : Met l yX8_over (Cond.code yX8_over cX8_over 3 (some .int) :: wsU) ({ frames := 1, cells := 0, slots := 0, locals := 22 }) (va_Pc [.ref h0, .int p0, .int p1] (XW D (xT cI cJ cZ cS) sa [(h0, .inr (8, [.ref qh, .ref qk, .ref qd, .int 0, .ref qa, .ref qm, .ref qs, .ref qp, .ref ql, .ref qt, .ref qz, .ref qf])), (qh, .inr (1, [.int 0, .ref ae, .ref al, .ref au, .ref ao, .ref ar, .ref ak, .ref aw, .ref att, .ref ass])), (ar, .inr (3, [.int 0, .ref aRn, .ref aRp])), (qf, .inl (cI, 7, .inl (fun _ => 0)))] sz)) (XQi (fun (r : Int32) (_ : Unit) => r = (-1000000001)) D (fun _ : Unit => []) (va_A [(h0, .inr (8, [.ref qh, .ref qk, .ref qd, .int 0, .ref qa, .ref qm, .ref qs, .ref qp, .ref ql, .ref qt, .ref qz, .ref qf])), (qh, .inr (1, [.int 0, .ref ae, .ref al, .ref au, .ref ao, .ref ar, .ref ak, .ref aw, .ref att, .ref ass])), (ar, .inr (3, [.int 0, .ref aRn, .ref aRp])), (qf, .inl (cI, 7, .inl (fun _ => 0)))] sz)) 0 0 (va_A [(h0, .inr (8, [.ref qh, .ref qk, .ref qd, .int 0, .ref qa, .ref qm, .ref qs, .ref qp, .ref ql, .ref qt, .ref qz, .ref qf])), (qh, .inr (1, [.int 0, .ref ae, .ref al, .ref au, .ref ao, .ref ar, .ref ak, .ref aw, .ref att, .ref ass])), (ar, .inr (3, [.int 0, .ref aRn, .ref aRp])), (qf, .inl (cI, 7, .inl (fun _ => 0)))] sz) := by
  refine xhw (QA := fun A => XQi (fun (r : Int32) (_ : Unit) => r = (-1000000001)) D (fun _ : Unit => []) A) (by decide) (Nat.le_of_ble_eq_true rfl) ?_
  intro p e s m below meth c ls A hF hr hlk hin hsz hP hK hD hN hA hS hl
  have hF : CallFix p m c cX8_over 3 s _ _ RX8 := hF
  have hx := hF.1
  have hb := hF.2.1
  have hml := hF.2.2.1
  have hown := hF.2.2.2.1
  have hu : ∀ w ∈ wsU, w.before _ s = true := fun w h => hF.2.2.2.2 w (List.mem_cons_of_mem _ h)
  have hl : lv_has ls 3 [(0, .ref h0), (1, .int p0), (2, .int p1)] := hl
  refine lv_aload_n hx hb dX8_over_0 rfl (lv_at hl 0 rfl) ?_
  refine xg hF kf_X8_12 hK hP 0 rfl rfl dX8_over_1 ?_
  refine xg hF kf_X8_159 hK hP 1 rfl rfl dX8_over_4 ?_
  refine lv_iload_n hx hb dX8_over_7 rfl (lv_at hl 1 rfl) ?_
  refine xc_Vr hF (c_X3_has l D cI cJ cZ cS sa s.heap.size ar aRn aRp p0 ) kv_X8_171 ⟨rfl, rfl, Nat.le_of_ble_eq_true rfl, Nat.le_of_ble_eq_true rfl⟩ ⟨Nat.le_of_ble_eq_true rfl, Nat.le_of_ble_eq_true rfl⟩ hK hN hP hD [2] rfl rfl 0 rfl rfl rfl rfl hl.1 rfl (Nat.le_of_ble_eq_true rfl) dX8_over_8 (fun r_1 hw_r_1 => ?_)
  subst hw_r_1
  refine lv_if_eq (tgt := 26) hx hb dX8_over_11 (by decide) (fun c_2 => ?_) (fun c_2 => absurd (by decide) c_2)
  refine lv_aload_n hx hb dX8_over_26 rfl (lv_at hl 0 rfl) ?_
  refine lv_ldc (v := (-1000000001)) hx hb hown (hu _ uw4) dX8_over_27 ?_
  refine xc_Vi (wr := [(qh, .inr (1, [.int 0, .ref ae, .ref al, .ref au, .ref ao, .ref ar, .ref ak, .ref aw, .ref att, .ref ass])), (ar, .inr (3, [.int 0, .ref aRn, .ref aRp]))]) hF (c_X8_finding_B l D cI cJ cZ cS sa s.heap.size h0 qh qk qd qa qm qs qp ql qt qz qf 0 (fun _ => 0) ) kv_X8_80 ⟨rfl, rfl, Nat.le_of_ble_eq_true rfl, Nat.le_of_ble_eq_true rfl⟩ ⟨Nat.le_of_ble_eq_true rfl, Nat.le_of_ble_eq_true rfl⟩ hK hN hP hD hS hA [0, 3] [1, 2] rfl rfl rfl rfl (by decide) 0 rfl rfl rfl rfl hl.1 rfl (Nat.le_of_ble_eq_true rfl) dX8_over_29 (fun r_3 u_r_3 H locs hw_r_3 hP hD hS => ?_)
  have hP : va_P D vwCl [(qh, .inr (1, [.int 0, .ref ae, .ref al, .ref au, .ref ao, .ref ar, .ref ak, .ref aw, .ref att, .ref ass])), (ar, .inr (3, [.int 0, .ref aRn, .ref aRp]))] H := hP
  have hD : va_D A [(qh, .inr (1, [.int 0, .ref ae, .ref al, .ref au, .ref ao, .ref ar, .ref ak, .ref aw, .ref att, .ref ass])), (ar, .inr (3, [.int 0, .ref aRn, .ref aRp]))] := hD
  subst hw_r_3
  exact W.iret (v := (-1000000001)) hx hb hr (fun t ht hW => ⟨⟨(-1000000001), (), rfl, rfl, by rw [ht]; exact hP.sub [] rfl, hD.sub [] (by decide) rfl⟩, hS.F ht⟩) hS.2.2 dX8_over_32 hlk
set_option maxHeartbeats 4000000 in
set_option maxRecDepth 100000 in
theorem c_X8_sum (l : Launch) (D : va_G) (cI cJ cZ cS : ClassId) (sa : Nat → Nat) (sz : Nat) (h0 : Nat) (qh : Nat) (qk : Nat) (qd : Nat) (qa : Nat) (qm : Nat) (qs : Nat) (qp : Nat) (ql : Nat) (qt : Nat) (qz : Nat) (qf : Nat) (ae : Nat) (al : Nat) (au : Nat) (ao : Nat) (ar : Nat) (ak : Nat) (aw : Nat) (att : Nat) (ass : Nat) (aRn : Nat) (aRp : Nat) (p0 : Int32) : Met l yX8_sum (Cond.code yX8_sum cX8_sum 2 (some .int) :: wsU) ({ frames := 1, cells := 0, slots := 0, locals := 22 }) (va_Pc [.ref h0, .int p0] (XW D (xT cI cJ cZ cS) sa [(h0, .inr (8, [.ref qh, .ref qk, .ref qd, .int 0, .ref qa, .ref qm, .ref qs, .ref qp, .ref ql, .ref qt, .ref qz, .ref qf])), (qh, .inr (1, [.int 0, .ref ae, .ref al, .ref au, .ref ao, .ref ar, .ref ak, .ref aw, .ref att, .ref ass])), (ar, .inr (3, [.int 0, .ref aRn, .ref aRp])), (qf, .inl (cI, 7, .inl (fun _ => 0)))] sz)) (XQi (fun (r : Int32) (_ : Unit) => r = (-1000000001)) D (fun _ : Unit => []) (va_A [(h0, .inr (8, [.ref qh, .ref qk, .ref qd, .int 0, .ref qa, .ref qm, .ref qs, .ref qp, .ref ql, .ref qt, .ref qz, .ref qf])), (qh, .inr (1, [.int 0, .ref ae, .ref al, .ref au, .ref ao, .ref ar, .ref ak, .ref aw, .ref att, .ref ass])), (ar, .inr (3, [.int 0, .ref aRn, .ref aRp])), (qf, .inl (cI, 7, .inl (fun _ => 0)))] sz)) 0 0 (va_A [(h0, .inr (8, [.ref qh, .ref qk, .ref qd, .int 0, .ref qa, .ref qm, .ref qs, .ref qp, .ref ql, .ref qt, .ref qz, .ref qf])), (qh, .inr (1, [.int 0, .ref ae, .ref al, .ref au, .ref ao, .ref ar, .ref ak, .ref aw, .ref att, .ref ass])), (ar, .inr (3, [.int 0, .ref aRn, .ref aRp])), (qf, .inl (cI, 7, .inl (fun _ => 0)))] sz) := by
  refine xhw (QA := fun A => XQi (fun (r : Int32) (_ : Unit) => r = (-1000000001)) D (fun _ : Unit => []) A) (by decide) (Nat.le_of_ble_eq_true rfl) ?_
  intro p e s m below meth c ls A hF hr hlk hin hsz hP hK hD hN hA hS hl
  have hF : CallFix p m c cX8_sum 2 s _ _ RX8 := hF
  have hx := hF.1
  have hb := hF.2.1
  have hml := hF.2.2.1
  have hown := hF.2.2.2.1
  have hu : ∀ w ∈ wsU, w.before _ s = true := fun w h => hF.2.2.2.2 w (List.mem_cons_of_mem _ h)
  have hl : lv_has ls 2 [(0, .ref h0), (1, .int p0)] := hl
  refine lv_aload_n hx hb dX8_sum_0 rfl (lv_at hl 0 rfl) ?_
  refine xg hF kf_X8_12 hK hP 0 rfl rfl dX8_sum_1 ?_
  refine xg hF kf_X8_159 hK hP 1 rfl rfl dX8_sum_4 ?_
  refine lv_iload_n hx hb dX8_sum_7 rfl (lv_at hl 1 rfl) ?_
  refine xc_Vr hF (c_X3_has l D cI cJ cZ cS sa s.heap.size ar aRn aRp p0 ) kv_X8_171 ⟨rfl, rfl, Nat.le_of_ble_eq_true rfl, Nat.le_of_ble_eq_true rfl⟩ ⟨Nat.le_of_ble_eq_true rfl, Nat.le_of_ble_eq_true rfl⟩ hK hN hP hD [2] rfl rfl 0 rfl rfl rfl rfl hl.1 rfl (Nat.le_of_ble_eq_true rfl) dX8_sum_8 (fun r_1 hw_r_1 => ?_)
  subst hw_r_1
  refine lv_if_ne (tgt := 21) hx hb dX8_sum_11 (by decide) (fun c_2 => absurd (by decide) c_2) (fun c_2 => ?_)
  refine lv_aload_n hx hb dX8_sum_14 rfl (lv_at hl 0 rfl) ?_
  refine lv_ldc (v := (-1000000001)) hx hb hown (hu _ uw4) dX8_sum_15 ?_
  refine xc_Vi (wr := [(qh, .inr (1, [.int 0, .ref ae, .ref al, .ref au, .ref ao, .ref ar, .ref ak, .ref aw, .ref att, .ref ass])), (ar, .inr (3, [.int 0, .ref aRn, .ref aRp]))]) hF (c_X8_finding_B l D cI cJ cZ cS sa s.heap.size h0 qh qk qd qa qm qs qp ql qt qz qf 0 (fun _ => 0) ) kv_X8_80 ⟨rfl, rfl, Nat.le_of_ble_eq_true rfl, Nat.le_of_ble_eq_true rfl⟩ ⟨Nat.le_of_ble_eq_true rfl, Nat.le_of_ble_eq_true rfl⟩ hK hN hP hD hS hA [0, 3] [1, 2] rfl rfl rfl rfl (by decide) 0 rfl rfl rfl rfl hl.1 rfl (Nat.le_of_ble_eq_true rfl) dX8_sum_17 (fun r_3 u_r_3 H locs hw_r_3 hP hD hS => ?_)
  have hP : va_P D vwCl [(qh, .inr (1, [.int 0, .ref ae, .ref al, .ref au, .ref ao, .ref ar, .ref ak, .ref aw, .ref att, .ref ass])), (ar, .inr (3, [.int 0, .ref aRn, .ref aRp]))] H := hP
  have hD : va_D A [(qh, .inr (1, [.int 0, .ref ae, .ref al, .ref au, .ref ao, .ref ar, .ref ak, .ref aw, .ref att, .ref ass])), (ar, .inr (3, [.int 0, .ref aRn, .ref aRp]))] := hD
  subst hw_r_3
  exact W.iret (v := (-1000000001)) hx hb hr (fun t ht hW => ⟨⟨(-1000000001), (), rfl, rfl, by rw [ht]; exact hP.sub [] rfl, hD.sub [] (by decide) rfl⟩, hS.F ht⟩) hS.2.2 dX8_sum_20 hlk
set_option maxHeartbeats 4000000 in
set_option maxRecDepth 100000 in
theorem c_X8_roundOf (l : Launch) (D : va_G) (cI cJ cZ cS : ClassId) (sa : Nat → Nat) (sz : Nat) (h0 : Nat) (qh : Nat) (qk : Nat) (qd : Nat) (qa : Nat) (qm : Nat) (qs : Nat) (qp : Nat) (ql : Nat) (qt : Nat) (qz : Nat) (qf : Nat) (ae : Nat) (al : Nat) (au : Nat) (ao : Nat) (ar : Nat) (ak : Nat) (aw : Nat) (att : Nat) (ass : Nat) (aRn : Nat) (aRp : Nat) (p0 : Int32) (p1 : Int32) : Met l yX8_roundOf (Cond.code yX8_roundOf cX8_roundOf 4 (some .int) :: wsU) ({ frames := 1, cells := 0, slots := 0, locals := 22 }) (va_Pc [.ref h0, .int p0, .int p1] (XW D (xT cI cJ cZ cS) sa [(h0, .inr (8, [.ref qh, .ref qk, .ref qd, .int 0, .ref qa, .ref qm, .ref qs, .ref qp, .ref ql, .ref qt, .ref qz, .ref qf])), (qh, .inr (1, [.int 0, .ref ae, .ref al, .ref au, .ref ao, .ref ar, .ref ak, .ref aw, .ref att, .ref ass])), (ar, .inr (3, [.int 0, .ref aRn, .ref aRp])), (qf, .inl (cI, 7, .inl (fun _ => 0)))] sz)) (XQi (fun (r : Int32) (_ : Unit) => r = (-1000000001)) D (fun _ : Unit => []) (va_A [(h0, .inr (8, [.ref qh, .ref qk, .ref qd, .int 0, .ref qa, .ref qm, .ref qs, .ref qp, .ref ql, .ref qt, .ref qz, .ref qf])), (qh, .inr (1, [.int 0, .ref ae, .ref al, .ref au, .ref ao, .ref ar, .ref ak, .ref aw, .ref att, .ref ass])), (ar, .inr (3, [.int 0, .ref aRn, .ref aRp])), (qf, .inl (cI, 7, .inl (fun _ => 0)))] sz)) 0 0 (va_A [(h0, .inr (8, [.ref qh, .ref qk, .ref qd, .int 0, .ref qa, .ref qm, .ref qs, .ref qp, .ref ql, .ref qt, .ref qz, .ref qf])), (qh, .inr (1, [.int 0, .ref ae, .ref al, .ref au, .ref ao, .ref ar, .ref ak, .ref aw, .ref att, .ref ass])), (ar, .inr (3, [.int 0, .ref aRn, .ref aRp])), (qf, .inl (cI, 7, .inl (fun _ => 0)))] sz) := by
  refine xhw (QA := fun A => XQi (fun (r : Int32) (_ : Unit) => r = (-1000000001)) D (fun _ : Unit => []) A) (by decide) (Nat.le_of_ble_eq_true rfl) ?_
  intro p e s m below meth c ls A hF hr hlk hin hsz hP hK hD hN hA hS hl
  have hF : CallFix p m c cX8_roundOf 4 s _ _ RX8 := hF
  have hx := hF.1
  have hb := hF.2.1
  have hml := hF.2.2.1
  have hown := hF.2.2.2.1
  have hu : ∀ w ∈ wsU, w.before _ s = true := fun w h => hF.2.2.2.2 w (List.mem_cons_of_mem _ h)
  have hl : lv_has ls 4 [(0, .ref h0), (1, .int p0), (2, .int p1)] := hl
  refine lv_aload_n hx hb dX8_roundOf_0 rfl (lv_at hl 0 rfl) ?_
  refine xg hF kf_X8_12 hK hP 0 rfl rfl dX8_roundOf_1 ?_
  refine xg hF kf_X8_159 hK hP 1 rfl rfl dX8_roundOf_4 ?_
  refine lv_iload_n hx hb dX8_roundOf_7 rfl (lv_at hl 1 rfl) ?_
  refine xc_Vr hF (c_X3_has l D cI cJ cZ cS sa s.heap.size ar aRn aRp p0 ) kv_X8_171 ⟨rfl, rfl, Nat.le_of_ble_eq_true rfl, Nat.le_of_ble_eq_true rfl⟩ ⟨Nat.le_of_ble_eq_true rfl, Nat.le_of_ble_eq_true rfl⟩ hK hN hP hD [2] rfl rfl 0 rfl rfl rfl rfl hl.1 rfl (Nat.le_of_ble_eq_true rfl) dX8_roundOf_8 (fun r_1 hw_r_1 => ?_)
  subst hw_r_1
  refine lv_if_eq (tgt := 24) hx hb dX8_roundOf_11 (by decide) (fun c_2 => ?_) (fun c_2 => absurd (by decide) c_2)
  refine lv_aload_n hx hb dX8_roundOf_24 rfl (lv_at hl 0 rfl) ?_
  refine lv_ldc (v := (-1000000001)) hx hb hown (hu _ uw4) dX8_roundOf_25 ?_
  refine xc_Vi (wr := [(qh, .inr (1, [.int 0, .ref ae, .ref al, .ref au, .ref ao, .ref ar, .ref ak, .ref aw, .ref att, .ref ass])), (ar, .inr (3, [.int 0, .ref aRn, .ref aRp]))]) hF (c_X8_finding_B l D cI cJ cZ cS sa s.heap.size h0 qh qk qd qa qm qs qp ql qt qz qf 0 (fun _ => 0) ) kv_X8_80 ⟨rfl, rfl, Nat.le_of_ble_eq_true rfl, Nat.le_of_ble_eq_true rfl⟩ ⟨Nat.le_of_ble_eq_true rfl, Nat.le_of_ble_eq_true rfl⟩ hK hN hP hD hS hA [0, 3] [1, 2] rfl rfl rfl rfl (by decide) 0 rfl rfl rfl rfl hl.1 rfl (Nat.le_of_ble_eq_true rfl) dX8_roundOf_27 (fun r_3 u_r_3 H locs hw_r_3 hP hD hS => ?_)
  have hP : va_P D vwCl [(qh, .inr (1, [.int 0, .ref ae, .ref al, .ref au, .ref ao, .ref ar, .ref ak, .ref aw, .ref att, .ref ass])), (ar, .inr (3, [.int 0, .ref aRn, .ref aRp]))] H := hP
  have hD : va_D A [(qh, .inr (1, [.int 0, .ref ae, .ref al, .ref au, .ref ao, .ref ar, .ref ak, .ref aw, .ref att, .ref ass])), (ar, .inr (3, [.int 0, .ref aRn, .ref aRp]))] := hD
  subst hw_r_3
  exact W.iret (v := (-1000000001)) hx hb hr (fun t ht hW => ⟨⟨(-1000000001), (), rfl, rfl, by rw [ht]; exact hP.sub [] rfl, hD.sub [] (by decide) rfl⟩, hS.F ht⟩) hS.2.2 dX8_roundOf_30 hlk
set_option maxHeartbeats 4000000 in
set_option maxRecDepth 100000 in
theorem c_X8_as (l : Launch) (D : va_G) (cI cJ cZ cS : ClassId) (sa : Nat → Nat) (sz : Nat) (h0 : Nat) (qh : Nat) (qk : Nat) (qd : Nat) (qa : Nat) (qm : Nat) (qs : Nat) (qp : Nat) (ql : Nat) (qt : Nat) (qz : Nat) (qf : Nat) (ae : Nat) (al : Nat) (au : Nat) (ao : Nat) (ar : Nat) (ak : Nat) (aw : Nat) (att : Nat) (ass : Nat) (aRn : Nat) (aRp : Nat) (p0 : Int32) (p1 : Int32) : Met l yX8_as (Cond.code yX8_as cX8_as 3 (some .int) :: wsU) ({ frames := 1, cells := 0, slots := 0, locals := 22 }) (va_Pc [.ref h0, .int p0, .int p1] (XW D (xT cI cJ cZ cS) sa [(h0, .inr (8, [.ref qh, .ref qk, .ref qd, .int 0, .ref qa, .ref qm, .ref qs, .ref qp, .ref ql, .ref qt, .ref qz, .ref qf])), (qh, .inr (1, [.int 0, .ref ae, .ref al, .ref au, .ref ao, .ref ar, .ref ak, .ref aw, .ref att, .ref ass])), (ar, .inr (3, [.int 0, .ref aRn, .ref aRp])), (qf, .inl (cI, 7, .inl (fun _ => 0)))] sz)) (XQi (fun (r : Int32) (_ : Unit) => r = (-1000000001)) D (fun _ : Unit => []) (va_A [(h0, .inr (8, [.ref qh, .ref qk, .ref qd, .int 0, .ref qa, .ref qm, .ref qs, .ref qp, .ref ql, .ref qt, .ref qz, .ref qf])), (qh, .inr (1, [.int 0, .ref ae, .ref al, .ref au, .ref ao, .ref ar, .ref ak, .ref aw, .ref att, .ref ass])), (ar, .inr (3, [.int 0, .ref aRn, .ref aRp])), (qf, .inl (cI, 7, .inl (fun _ => 0)))] sz)) 0 0 (va_A [(h0, .inr (8, [.ref qh, .ref qk, .ref qd, .int 0, .ref qa, .ref qm, .ref qs, .ref qp, .ref ql, .ref qt, .ref qz, .ref qf])), (qh, .inr (1, [.int 0, .ref ae, .ref al, .ref au, .ref ao, .ref ar, .ref ak, .ref aw, .ref att, .ref ass])), (ar, .inr (3, [.int 0, .ref aRn, .ref aRp])), (qf, .inl (cI, 7, .inl (fun _ => 0)))] sz) := by
  refine xhw (QA := fun A => XQi (fun (r : Int32) (_ : Unit) => r = (-1000000001)) D (fun _ : Unit => []) A) (by decide) (Nat.le_of_ble_eq_true rfl) ?_
  intro p e s m below meth c ls A hF hr hlk hin hsz hP hK hD hN hA hS hl
  have hF : CallFix p m c cX8_as 3 s _ _ RX8 := hF
  have hx := hF.1
  have hb := hF.2.1
  have hml := hF.2.2.1
  have hown := hF.2.2.2.1
  have hu : ∀ w ∈ wsU, w.before _ s = true := fun w h => hF.2.2.2.2 w (List.mem_cons_of_mem _ h)
  have hl : lv_has ls 3 [(0, .ref h0), (1, .int p0), (2, .int p1)] := hl
  refine lv_aload_n hx hb dX8_as_0 rfl (lv_at hl 0 rfl) ?_
  refine xg hF kf_X8_12 hK hP 0 rfl rfl dX8_as_1 ?_
  refine xg hF kf_X8_159 hK hP 1 rfl rfl dX8_as_4 ?_
  refine lv_iload_n hx hb dX8_as_7 rfl (lv_at hl 1 rfl) ?_
  refine xc_Vr hF (c_X3_has l D cI cJ cZ cS sa s.heap.size ar aRn aRp p0 ) kv_X8_171 ⟨rfl, rfl, Nat.le_of_ble_eq_true rfl, Nat.le_of_ble_eq_true rfl⟩ ⟨Nat.le_of_ble_eq_true rfl, Nat.le_of_ble_eq_true rfl⟩ hK hN hP hD [2] rfl rfl 0 rfl rfl rfl rfl hl.1 rfl (Nat.le_of_ble_eq_true rfl) dX8_as_8 (fun r_1 hw_r_1 => ?_)
  subst hw_r_1
  refine lv_if_eq (tgt := 21) hx hb dX8_as_11 (by decide) (fun c_2 => ?_) (fun c_2 => absurd (by decide) c_2)
  refine lv_aload_n hx hb dX8_as_21 rfl (lv_at hl 0 rfl) ?_
  refine lv_ldc (v := (-1000000001)) hx hb hown (hu _ uw4) dX8_as_22 ?_
  refine xc_Vi (wr := [(qh, .inr (1, [.int 0, .ref ae, .ref al, .ref au, .ref ao, .ref ar, .ref ak, .ref aw, .ref att, .ref ass])), (ar, .inr (3, [.int 0, .ref aRn, .ref aRp]))]) hF (c_X8_finding_B l D cI cJ cZ cS sa s.heap.size h0 qh qk qd qa qm qs qp ql qt qz qf 0 (fun _ => 0) ) kv_X8_80 ⟨rfl, rfl, Nat.le_of_ble_eq_true rfl, Nat.le_of_ble_eq_true rfl⟩ ⟨Nat.le_of_ble_eq_true rfl, Nat.le_of_ble_eq_true rfl⟩ hK hN hP hD hS hA [0, 3] [1, 2] rfl rfl rfl rfl (by decide) 0 rfl rfl rfl rfl hl.1 rfl (Nat.le_of_ble_eq_true rfl) dX8_as_24 (fun r_3 u_r_3 H locs hw_r_3 hP hD hS => ?_)
  have hP : va_P D vwCl [(qh, .inr (1, [.int 0, .ref ae, .ref al, .ref au, .ref ao, .ref ar, .ref ak, .ref aw, .ref att, .ref ass])), (ar, .inr (3, [.int 0, .ref aRn, .ref aRp]))] H := hP
  have hD : va_D A [(qh, .inr (1, [.int 0, .ref ae, .ref al, .ref au, .ref ao, .ref ar, .ref ak, .ref aw, .ref att, .ref ass])), (ar, .inr (3, [.int 0, .ref aRn, .ref aRp]))] := hD
  subst hw_r_3
  exact W.iret (v := (-1000000001)) hx hb hr (fun t ht hW => ⟨⟨(-1000000001), (), rfl, rfl, by rw [ht]; exact hP.sub [] rfl, hD.sub [] (by decide) rfl⟩, hS.F ht⟩) hS.2.2 dX8_as_27 hlk
set_option maxHeartbeats 4000000 in
set_option maxRecDepth 100000 in
theorem c_X8_on (l : Launch) (D : va_G) (cI cJ cZ cS : ClassId) (sa : Nat → Nat) (sz : Nat) (h0 : Nat) (qh : Nat) (qk : Nat) (qd : Nat) (qa : Nat) (qm : Nat) (qs : Nat) (qp : Nat) (ql : Nat) (qt : Nat) (qz : Nat) (qf : Nat) (ae : Nat) (al : Nat) (au : Nat) (ao : Nat) (ar : Nat) (ak : Nat) (aw : Nat) (att : Nat) (ass : Nat) (aWn : Nat) (aWp : Nat) (p0 : Int32) (p1 : Int32) : Met l yX8_on (Cond.code yX8_on cX8_on 3 (some .int) :: wsU) ({ frames := 1, cells := 0, slots := 0, locals := 22 }) (va_Pc [.ref h0, .int p0, .int p1] (XW D (xT cI cJ cZ cS) sa [(h0, .inr (8, [.ref qh, .ref qk, .ref qd, .int 0, .ref qa, .ref qm, .ref qs, .ref qp, .ref ql, .ref qt, .ref qz, .ref qf])), (qh, .inr (1, [.int 0, .ref ae, .ref al, .ref au, .ref ao, .ref ar, .ref ak, .ref aw, .ref att, .ref ass])), (aw, .inr (3, [.int 0, .ref aWn, .ref aWp])), (qf, .inl (cI, 7, .inl (fun _ => 0)))] sz)) (XQi (fun (r : Int32) (_ : Unit) => r = (-1000000001)) D (fun _ : Unit => []) (va_A [(h0, .inr (8, [.ref qh, .ref qk, .ref qd, .int 0, .ref qa, .ref qm, .ref qs, .ref qp, .ref ql, .ref qt, .ref qz, .ref qf])), (qh, .inr (1, [.int 0, .ref ae, .ref al, .ref au, .ref ao, .ref ar, .ref ak, .ref aw, .ref att, .ref ass])), (aw, .inr (3, [.int 0, .ref aWn, .ref aWp])), (qf, .inl (cI, 7, .inl (fun _ => 0)))] sz)) 0 0 (va_A [(h0, .inr (8, [.ref qh, .ref qk, .ref qd, .int 0, .ref qa, .ref qm, .ref qs, .ref qp, .ref ql, .ref qt, .ref qz, .ref qf])), (qh, .inr (1, [.int 0, .ref ae, .ref al, .ref au, .ref ao, .ref ar, .ref ak, .ref aw, .ref att, .ref ass])), (aw, .inr (3, [.int 0, .ref aWn, .ref aWp])), (qf, .inl (cI, 7, .inl (fun _ => 0)))] sz) := by
  refine xhw (QA := fun A => XQi (fun (r : Int32) (_ : Unit) => r = (-1000000001)) D (fun _ : Unit => []) A) (by decide) (Nat.le_of_ble_eq_true rfl) ?_
  intro p e s m below meth c ls A hF hr hlk hin hsz hP hK hD hN hA hS hl
  have hF : CallFix p m c cX8_on 3 s _ _ RX8 := hF
  have hx := hF.1
  have hb := hF.2.1
  have hml := hF.2.2.1
  have hown := hF.2.2.2.1
  have hu : ∀ w ∈ wsU, w.before _ s = true := fun w h => hF.2.2.2.2 w (List.mem_cons_of_mem _ h)
  have hl : lv_has ls 3 [(0, .ref h0), (1, .int p0), (2, .int p1)] := hl
  refine lv_aload_n hx hb dX8_on_0 rfl (lv_at hl 0 rfl) ?_
  refine xg hF kf_X8_12 hK hP 0 rfl rfl dX8_on_1 ?_
  refine xg hF kf_X8_229 hK hP 1 rfl rfl dX8_on_4 ?_
  refine lv_iload_n hx hb dX8_on_7 rfl (lv_at hl 1 rfl) ?_
  refine xc_Vr hF (c_X3_has l D cI cJ cZ cS sa s.heap.size aw aWn aWp p0 ) kv_X8_171 ⟨rfl, rfl, Nat.le_of_ble_eq_true rfl, Nat.le_of_ble_eq_true rfl⟩ ⟨Nat.le_of_ble_eq_true rfl, Nat.le_of_ble_eq_true rfl⟩ hK hN hP hD [2] rfl rfl 0 rfl rfl rfl rfl hl.1 rfl (Nat.le_of_ble_eq_true rfl) dX8_on_8 (fun r_1 hw_r_1 => ?_)
  subst hw_r_1
  refine lv_if_eq (tgt := 41) hx hb dX8_on_11 (by decide) (fun c_2 => ?_) (fun c_2 => absurd (by decide) c_2)
  refine lv_aload_n hx hb dX8_on_41 rfl (lv_at hl 0 rfl) ?_
  refine lv_ldc (v := (-1000000001)) hx hb hown (hu _ uw4) dX8_on_42 ?_
  refine xc_Vi (wr := [(qh, .inr (1, [.int 0, .ref ae, .ref al, .ref au, .ref ao, .ref ar, .ref ak, .ref aw, .ref att, .ref ass])), (aw, .inr (3, [.int 0, .ref aWn, .ref aWp]))]) hF (c_X8_finding_B l D cI cJ cZ cS sa s.heap.size h0 qh qk qd qa qm qs qp ql qt qz qf 0 (fun _ => 0) ) kv_X8_80 ⟨rfl, rfl, Nat.le_of_ble_eq_true rfl, Nat.le_of_ble_eq_true rfl⟩ ⟨Nat.le_of_ble_eq_true rfl, Nat.le_of_ble_eq_true rfl⟩ hK hN hP hD hS hA [0, 3] [1, 2] rfl rfl rfl rfl (by decide) 0 rfl rfl rfl rfl hl.1 rfl (Nat.le_of_ble_eq_true rfl) dX8_on_44 (fun r_3 u_r_3 H locs hw_r_3 hP hD hS => ?_)
  have hP : va_P D vwCl [(qh, .inr (1, [.int 0, .ref ae, .ref al, .ref au, .ref ao, .ref ar, .ref ak, .ref aw, .ref att, .ref ass])), (aw, .inr (3, [.int 0, .ref aWn, .ref aWp]))] H := hP
  have hD : va_D A [(qh, .inr (1, [.int 0, .ref ae, .ref al, .ref au, .ref ao, .ref ar, .ref ak, .ref aw, .ref att, .ref ass])), (aw, .inr (3, [.int 0, .ref aWn, .ref aWp]))] := hD
  subst hw_r_3
  exact W.iret (v := (-1000000001)) hx hb hr (fun t ht hW => ⟨⟨(-1000000001), (), rfl, rfl, by rw [ht]; exact hP.sub [] rfl, hD.sub [] (by decide) rfl⟩, hS.F ht⟩) hS.2.2 dX8_on_47 hlk
set_option maxHeartbeats 4000000 in
set_option maxRecDepth 100000 in
theorem c_X8_loops (l : Launch) (D : va_G) (cI cJ cZ cS : ClassId) (sa : Nat → Nat) (sz : Nat) (h0 : Nat) (qh : Nat) (qk : Nat) (qd : Nat) (qa : Nat) (qm : Nat) (qs : Nat) (qp : Nat) (ql : Nat) (qt : Nat) (qz : Nat) (qf : Nat) (ae : Nat) (al : Nat) (au : Nat) (ao : Nat) (ar : Nat) (ak : Nat) (aw : Nat) (att : Nat) (ass : Nat) (an : Nat) : Met l yX8_loops (Cond.code yX8_loops cX8_loops 1 (some .int) :: wsU) ({ frames := 1, cells := 0, slots := 0, locals := 23 }) (va_Pc [.ref h0] (XW D (xT cI cJ cZ cS) sa [(h0, .inr (8, [.ref qh, .ref qk, .ref qd, .int 0, .ref qa, .ref qm, .ref qs, .ref qp, .ref ql, .ref qt, .ref qz, .ref qf])), (qh, .inr (1, [.int 0, .ref ae, .ref al, .ref au, .ref ao, .ref ar, .ref ak, .ref aw, .ref att, .ref ass])), (qa, .inr (0, [.int 0, .ref an]))] sz)) (XQi (fun (r : Int32) (_ : Unit) => r = 0) D (fun _ : Unit => []) (va_A [(h0, .inr (8, [.ref qh, .ref qk, .ref qd, .int 0, .ref qa, .ref qm, .ref qs, .ref qp, .ref ql, .ref qt, .ref qz, .ref qf])), (qh, .inr (1, [.int 0, .ref ae, .ref al, .ref au, .ref ao, .ref ar, .ref ak, .ref aw, .ref att, .ref ass])), (qa, .inr (0, [.int 0, .ref an]))] sz)) 0 0 (va_A [(h0, .inr (8, [.ref qh, .ref qk, .ref qd, .int 0, .ref qa, .ref qm, .ref qs, .ref qp, .ref ql, .ref qt, .ref qz, .ref qf])), (qh, .inr (1, [.int 0, .ref ae, .ref al, .ref au, .ref ao, .ref ar, .ref ak, .ref aw, .ref att, .ref ass])), (qa, .inr (0, [.int 0, .ref an]))] sz) := by
  refine xhw (QA := fun A => XQi (fun (r : Int32) (_ : Unit) => r = 0) D (fun _ : Unit => []) A) (by decide) (Nat.le_of_ble_eq_true rfl) ?_
  intro p e s m below meth c ls A hF hr hlk hin hsz hP hK hD hN hA hS hl
  have hF : CallFix p m c cX8_loops 1 s _ _ RX8 := hF
  have hx := hF.1
  have hb := hF.2.1
  have hml := hF.2.2.1
  have hown := hF.2.2.2.1
  have hu : ∀ w ∈ wsU, w.before _ s = true := fun w h => hF.2.2.2.2 w (List.mem_cons_of_mem _ h)
  have hl : lv_has ls 1 [(0, .ref h0)] := hl
  refine lv_aload_n hx hb dX8_loops_0 rfl (lv_at hl 0 rfl) ?_
  refine xg hF kf_X8_29 hK hP 0 rfl rfl dX8_loops_1 ?_
  refine lv_aload_n hx hb dX8_loops_4 rfl (lv_at hl 0 rfl) ?_
  refine xg hF kf_X8_12 hK hP 0 rfl rfl dX8_loops_5 ?_
  refine xc_Vv (wr := [(h0, .inr (8, [.ref qh, .ref qk, .ref qd, .int 0, .ref qa, .ref qm, .ref qs, .ref qp, .ref ql, .ref qt, .ref qz, .ref qf]))]) hF (c_X0_measure l D cI cJ cZ cS sa s.heap.size qa an qh ae al au ao ar ak aw att ass ) kv_X8_146 ⟨rfl, rfl, Nat.le_of_ble_eq_true rfl, Nat.le_of_ble_eq_true rfl⟩ ⟨Nat.le_of_ble_eq_true rfl, Nat.le_of_ble_eq_true rfl⟩ hK hN hP hD hS hA [2, 1] [0] rfl rfl rfl rfl (by decide) 0 rfl rfl rfl rfl hl.1 rfl (Nat.le_of_ble_eq_true rfl) dX8_loops_8 (fun u_r_1 H locs hw_r_1 hP hD hS => ?_)
  have hP : va_P D vwCl [(h0, .inr (8, [.ref qh, .ref qk, .ref qd, .int 0, .ref qa, .ref qm, .ref qs, .ref qp, .ref ql, .ref qt, .ref qz, .ref qf])), (qa, .inr (0, [.int 0, .ref an])), (qh, .inr (1, [.int 0, .ref ae, .ref al, .ref au, .ref ao, .ref ar, .ref ak, .ref aw, .ref att, .ref ass]))] H := hP
  have hD : va_D A [(h0, .inr (8, [.ref qh, .ref qk, .ref qd, .int 0, .ref qa, .ref qm, .ref qs, .ref qp, .ref ql, .ref qt, .ref qz, .ref qf])), (qa, .inr (0, [.int 0, .ref an])), (qh, .inr (1, [.int 0, .ref ae, .ref al, .ref au, .ref ao, .ref ar, .ref ak, .ref aw, .ref att, .ref ass]))] := hD
  refine lv_aload_n hx hb dX8_loops_11 rfl (lv_at hl 0 rfl) ?_
  refine xg hF kf_X8_29 hK hP 0 rfl rfl dX8_loops_12 ?_
  refine xc_Vr hF (c_X0_loopSet l D cI cJ cZ cS sa H.size qa an ) kv_X8_150 ⟨rfl, rfl, Nat.le_of_ble_eq_true rfl, Nat.le_of_ble_eq_true rfl⟩ ⟨Nat.le_of_ble_eq_true rfl, Nat.le_of_ble_eq_true rfl⟩ hK hN hP hD [1] rfl rfl 0 rfl rfl rfl rfl hl.1 rfl (Nat.le_of_ble_eq_true rfl) dX8_loops_15 (fun r_2 hw_r_2 => ?_)
  subst hw_r_2
  exact W.iret (v := 0) hx hb hr (fun t ht hW => ⟨⟨0, (), rfl, rfl, by rw [ht]; exact hP.sub [] rfl, hD.sub [] (by decide) rfl⟩, hS.F ht⟩) hS.2.2 dX8_loops_18 hlk
set_option maxHeartbeats 4000000 in
set_option maxRecDepth 100000 in
theorem c_X8_live (l : Launch) (D : va_G) (cI cJ cZ cS : ClassId) (sa : Nat → Nat) (sz : Nat) (h0 : Nat) (qh : Nat) (qk : Nat) (qd : Nat) (qa : Nat) (qm : Nat) (qs : Nat) (qp : Nat) (ql : Nat) (qt : Nat) (qz : Nat) (qf : Nat) (ae : Nat) (al : Nat) (au : Nat) (ao : Nat) (ar : Nat) (ak : Nat) (aw : Nat) (att : Nat) (ass : Nat) (an : Nat) : Met l yX8_live (Cond.code yX8_live cX8_live 2 (some .int) :: wsU) ({ frames := 2, cells := 0, slots := 0, locals := 43 }) (va_Pc [.ref h0] (XW D (xT cI cJ cZ cS) sa [(h0, .inr (8, [.ref qh, .ref qk, .ref qd, .int 0, .ref qa, .ref qm, .ref qs, .ref qp, .ref ql, .ref qt, .ref qz, .ref qf])), (qh, .inr (1, [.int 0, .ref ae, .ref al, .ref au, .ref ao, .ref ar, .ref ak, .ref aw, .ref att, .ref ass])), (qa, .inr (0, [.int 0, .ref an])), (qf, .inl (cI, 7, .inl (fun _ => 0)))] sz)) (XQi (fun (r : Int32) (_ : Unit) => r = (-1000000004)) D (fun _ : Unit => []) (va_A [(h0, .inr (8, [.ref qh, .ref qk, .ref qd, .int 0, .ref qa, .ref qm, .ref qs, .ref qp, .ref ql, .ref qt, .ref qz, .ref qf])), (qh, .inr (1, [.int 0, .ref ae, .ref al, .ref au, .ref ao, .ref ar, .ref ak, .ref aw, .ref att, .ref ass])), (qa, .inr (0, [.int 0, .ref an])), (qf, .inl (cI, 7, .inl (fun _ => 0)))] sz)) 0 0 (va_A [(h0, .inr (8, [.ref qh, .ref qk, .ref qd, .int 0, .ref qa, .ref qm, .ref qs, .ref qp, .ref ql, .ref qt, .ref qz, .ref qf])), (qh, .inr (1, [.int 0, .ref ae, .ref al, .ref au, .ref ao, .ref ar, .ref ak, .ref aw, .ref att, .ref ass])), (qa, .inr (0, [.int 0, .ref an])), (qf, .inl (cI, 7, .inl (fun _ => 0)))] sz) := by
  refine xhw (QA := fun A => XQi (fun (r : Int32) (_ : Unit) => r = (-1000000004)) D (fun _ : Unit => []) A) (by decide) (Nat.le_of_ble_eq_true rfl) ?_
  intro p e s m below meth c ls A hF hr hlk hin hsz hP hK hD hN hA hS hl
  have hF : CallFix p m c cX8_live 2 s _ _ RX8 := hF
  have hx := hF.1
  have hb := hF.2.1
  have hml := hF.2.2.1
  have hown := hF.2.2.2.1
  have hu : ∀ w ∈ wsU, w.before _ s = true := fun w h => hF.2.2.2.2 w (List.mem_cons_of_mem _ h)
  have hl : lv_has ls 2 [(0, .ref h0)] := hl
  refine lv_aload_n hx hb dX8_live_0 rfl (lv_at hl 0 rfl) ?_
  refine xc_Vi (wr := [(qf, .inl (cI, 7, .inl (fun _ => 0)))]) hF (c_X8_isLooped l D cI cJ cZ cS sa s.heap.size h0 qh qk qd qa qm qs qp ql qt qz qf ae al au ao ar ak aw att ass an ) kv_X8_128 ⟨rfl, rfl, Nat.le_of_ble_eq_true rfl, Nat.le_of_ble_eq_true rfl⟩ ⟨Nat.le_of_ble_eq_true rfl, Nat.le_of_ble_eq_true rfl⟩ hK hN hP hD hS hA [0, 1, 2] [3] rfl rfl rfl rfl (by decide) 0 rfl rfl rfl rfl hl.1 rfl (Nat.le_of_ble_eq_true rfl) dX8_live_1 (fun r_1 u_r_1 H locs hw_r_1 hP hD hS => ?_)
  have hP : va_P D vwCl [(qf, .inl (cI, 7, .inl (fun _ => 0))), (h0, .inr (8, [.ref qh, .ref qk, .ref qd, .int 0, .ref qa, .ref qm, .ref qs, .ref qp, .ref ql, .ref qt, .ref qz, .ref qf])), (qa, .inr (0, [.int 0, .ref an])), (qh, .inr (1, [.int 0, .ref ae, .ref al, .ref au, .ref ao, .ref ar, .ref ak, .ref aw, .ref att, .ref ass]))] H := hP
  have hD : va_D A [(qf, .inl (cI, 7, .inl (fun _ => 0))), (h0, .inr (8, [.ref qh, .ref qk, .ref qd, .int 0, .ref qa, .ref qm, .ref qs, .ref qp, .ref ql, .ref qt, .ref qz, .ref qf])), (qa, .inr (0, [.int 0, .ref an])), (qh, .inr (1, [.int 0, .ref ae, .ref al, .ref au, .ref ao, .ref ar, .ref ak, .ref aw, .ref att, .ref ass]))] := hD
  subst hw_r_1
  refine lv_if_eq (tgt := 14) hx hb dX8_live_4 (by decide) (fun c_2 => ?_) (fun c_2 => absurd (by decide) c_2)
  refine lv_aload_n hx hb dX8_live_14 rfl (lv_at hl 0 rfl) ?_
  refine xg hF kf_X8_29 hK hP 1 rfl rfl dX8_live_15 ?_
  refine lv_aload_n hx hb dX8_live_18 rfl (lv_at hl 0 rfl) ?_
  refine xg hF kf_X8_12 hK hP 1 rfl rfl dX8_live_19 ?_
  refine xc_Vr hF (c_X0_homeOf l D cI cJ cZ cS sa H.size qa an qh ) kv_X8_197 ⟨rfl, rfl, Nat.le_of_ble_eq_true rfl, Nat.le_of_ble_eq_true rfl⟩ ⟨Nat.le_of_ble_eq_true rfl, Nat.le_of_ble_eq_true rfl⟩ hK hN hP hD [2] rfl rfl 0 rfl rfl rfl rfl hl.1 rfl (Nat.le_of_ble_eq_true rfl) dX8_live_22 (fun r_3 hw_r_3 => ?_)
  subst hw_r_3
  refine lv_istore_n (lv' := [(1, .int (-1)), (0, .ref h0)]) hx hb dX8_live_25 rfl hl (by decide) rfl (fun ls hl => ?_)
  refine lv_iload_n hx hb dX8_live_26 rfl (lv_at hl 0 rfl) ?_
  refine lv_if_ge (tgt := 39) hx hb dX8_live_27 (by decide) (fun c_4 => absurd c_4 (by decide)) (fun c_4 => ?_)
  refine lv_aload_n hx hb dX8_live_30 rfl (lv_at hl 1 rfl) ?_
  refine lv_ldc (v := (-1000000004)) hx hb hown (hu _ uw156) dX8_live_31 ?_
  refine xc_Vi (wr := [(qa, .inr (0, [.int 0, .ref an])), (qh, .inr (1, [.int 0, .ref ae, .ref al, .ref au, .ref ao, .ref ar, .ref ak, .ref aw, .ref att, .ref ass]))]) hF (c_X8_finding_N l D cI cJ cZ cS sa H.size h0 qh qk qd qa qm qs qp ql qt qz qf 0 (fun _ => 0) ) kv_X8_80 ⟨rfl, rfl, Nat.le_of_ble_eq_true rfl, Nat.le_of_ble_eq_true rfl⟩ ⟨Nat.le_of_ble_eq_true rfl, Nat.le_of_ble_eq_true rfl⟩ hK hN hP hD hS hA [1, 0] [2, 3] rfl rfl rfl rfl (by decide) 0 rfl rfl rfl rfl hl.1 rfl (Nat.le_of_ble_eq_true rfl) dX8_live_33 (fun r_5 u_r_5 H locs hw_r_5 hP hD hS => ?_)
  have hP : va_P D vwCl [(qa, .inr (0, [.int 0, .ref an])), (qh, .inr (1, [.int 0, .ref ae, .ref al, .ref au, .ref ao, .ref ar, .ref ak, .ref aw, .ref att, .ref ass]))] H := hP
  have hD : va_D A [(qa, .inr (0, [.int 0, .ref an])), (qh, .inr (1, [.int 0, .ref ae, .ref al, .ref au, .ref ao, .ref ar, .ref ak, .ref aw, .ref att, .ref ass]))] := hD
  subst hw_r_5
  refine lv_goto (tgt := 40) hx hb dX8_live_36 (by decide) ?_
  exact W.iret (v := (-1000000004)) hx hb hr (fun t ht hW => ⟨⟨(-1000000004), (), rfl, rfl, by rw [ht]; exact hP.sub [] rfl, hD.sub [] (by decide) rfl⟩, hS.F ht⟩) hS.2.2 dX8_live_40 hlk
set_option maxHeartbeats 4000000 in
set_option maxRecDepth 100000 in
theorem c_X8_mend (l : Launch) (D : va_G) (cI cJ cZ cS : ClassId) (sa : Nat → Nat) (sz : Nat) (h0 : Nat) (qh : Nat) (qk : Nat) (qd : Nat) (qa : Nat) (qm : Nat) (qs : Nat) (qp : Nat) (ql : Nat) (qt : Nat) (qz : Nat) (qf : Nat) (ae : Nat) (al : Nat) (au : Nat) (ao : Nat) (ar : Nat) (ak : Nat) (aw : Nat) (att : Nat) (ass : Nat) (an : Nat) : Met l yX8_mend (Cond.code yX8_mend cX8_mend 3 (some .int) :: wsU) ({ frames := 2, cells := 0, slots := 0, locals := 47 }) (va_Pc [.ref h0] (XW D (xT cI cJ cZ cS) sa [(h0, .inr (8, [.ref qh, .ref qk, .ref qd, .int 0, .ref qa, .ref qm, .ref qs, .ref qp, .ref ql, .ref qt, .ref qz, .ref qf])), (qh, .inr (1, [.int 0, .ref ae, .ref al, .ref au, .ref ao, .ref ar, .ref ak, .ref aw, .ref att, .ref ass])), (qa, .inr (0, [.int 0, .ref an])), (qf, .inl (cI, 7, .inl (fun _ => 0)))] sz)) (XQi (fun (r : Int32) (_ : Unit) => r = (-1000000004)) D (fun _ : Unit => []) (va_A [(h0, .inr (8, [.ref qh, .ref qk, .ref qd, .int 0, .ref qa, .ref qm, .ref qs, .ref qp, .ref ql, .ref qt, .ref qz, .ref qf])), (qh, .inr (1, [.int 0, .ref ae, .ref al, .ref au, .ref ao, .ref ar, .ref ak, .ref aw, .ref att, .ref ass])), (qa, .inr (0, [.int 0, .ref an])), (qf, .inl (cI, 7, .inl (fun _ => 0)))] sz)) 0 0 (va_A [(h0, .inr (8, [.ref qh, .ref qk, .ref qd, .int 0, .ref qa, .ref qm, .ref qs, .ref qp, .ref ql, .ref qt, .ref qz, .ref qf])), (qh, .inr (1, [.int 0, .ref ae, .ref al, .ref au, .ref ao, .ref ar, .ref ak, .ref aw, .ref att, .ref ass])), (qa, .inr (0, [.int 0, .ref an])), (qf, .inl (cI, 7, .inl (fun _ => 0)))] sz) := by
  refine xhw (QA := fun A => XQi (fun (r : Int32) (_ : Unit) => r = (-1000000004)) D (fun _ : Unit => []) A) (by decide) (Nat.le_of_ble_eq_true rfl) ?_
  intro p e s m below meth c ls A hF hr hlk hin hsz hP hK hD hN hA hS hl
  have hF : CallFix p m c cX8_mend 3 s _ _ RX8 := hF
  have hx := hF.1
  have hb := hF.2.1
  have hml := hF.2.2.1
  have hown := hF.2.2.2.1
  have hu : ∀ w ∈ wsU, w.before _ s = true := fun w h => hF.2.2.2.2 w (List.mem_cons_of_mem _ h)
  have hl : lv_has ls 3 [(0, .ref h0)] := hl
  refine lv_aload_n hx hb dX8_mend_0 rfl (lv_at hl 0 rfl) ?_
  refine xc_Vi (wr := [(qf, .inl (cI, 7, .inl (fun _ => 0)))]) hF (c_X8_isLooped l D cI cJ cZ cS sa s.heap.size h0 qh qk qd qa qm qs qp ql qt qz qf ae al au ao ar ak aw att ass an ) kv_X8_128 ⟨rfl, rfl, Nat.le_of_ble_eq_true rfl, Nat.le_of_ble_eq_true rfl⟩ ⟨Nat.le_of_ble_eq_true rfl, Nat.le_of_ble_eq_true rfl⟩ hK hN hP hD hS hA [0, 1, 2] [3] rfl rfl rfl rfl (by decide) 0 rfl rfl rfl rfl hl.1 rfl (Nat.le_of_ble_eq_true rfl) dX8_mend_1 (fun r_1 u_r_1 H locs hw_r_1 hP hD hS => ?_)
  have hP : va_P D vwCl [(qf, .inl (cI, 7, .inl (fun _ => 0))), (h0, .inr (8, [.ref qh, .ref qk, .ref qd, .int 0, .ref qa, .ref qm, .ref qs, .ref qp, .ref ql, .ref qt, .ref qz, .ref qf])), (qa, .inr (0, [.int 0, .ref an])), (qh, .inr (1, [.int 0, .ref ae, .ref al, .ref au, .ref ao, .ref ar, .ref ak, .ref aw, .ref att, .ref ass]))] H := hP
  have hD : va_D A [(qf, .inl (cI, 7, .inl (fun _ => 0))), (h0, .inr (8, [.ref qh, .ref qk, .ref qd, .int 0, .ref qa, .ref qm, .ref qs, .ref qp, .ref ql, .ref qt, .ref qz, .ref qf])), (qa, .inr (0, [.int 0, .ref an])), (qh, .inr (1, [.int 0, .ref ae, .ref al, .ref au, .ref ao, .ref ar, .ref ak, .ref aw, .ref att, .ref ass]))] := hD
  subst hw_r_1
  refine lv_if_eq (tgt := 14) hx hb dX8_mend_4 (by decide) (fun c_2 => ?_) (fun c_2 => absurd (by decide) c_2)
  refine lv_aload_n hx hb dX8_mend_14 rfl (lv_at hl 0 rfl) ?_
  refine xg hF kf_X8_29 hK hP 1 rfl rfl dX8_mend_15 ?_
  refine lv_aload_n hx hb dX8_mend_18 rfl (lv_at hl 0 rfl) ?_
  refine xg hF kf_X8_12 hK hP 1 rfl rfl dX8_mend_19 ?_
  refine xc_Vr hF (c_X0_leastTrip l D cI cJ cZ cS sa H.size qa an qh ) kv_X8_263 ⟨rfl, rfl, Nat.le_of_ble_eq_true rfl, Nat.le_of_ble_eq_true rfl⟩ ⟨Nat.le_of_ble_eq_true rfl, Nat.le_of_ble_eq_true rfl⟩ hK hN hP hD [2] rfl rfl 0 rfl rfl rfl rfl hl.1 rfl (Nat.le_of_ble_eq_true rfl) dX8_mend_22 (fun r_3 hw_r_3 => ?_)
  subst hw_r_3
  refine lv_istore_n (lv' := [(1, .int 1000000000), (0, .ref h0)]) hx hb dX8_mend_25 rfl hl (by decide) rfl (fun ls hl => ?_)
  refine lv_iload_n hx hb dX8_mend_26 rfl (lv_at hl 0 rfl) ?_
  refine lv_ldc (v := 1000000000) hx hb hown (hu _ uw161) dX8_mend_27 ?_
  refine lv_icmp_ne (tgt := 36) hx hb dX8_mend_29 (by decide) (fun c_4 => absurd (by decide) c_4) (fun c_4 => ?_)
  refine lv_iconst (v := (-1)) hx hb dX8_mend_32 (by decide) ?_
  refine lv_goto (tgt := 41) hx hb dX8_mend_33 (by decide) ?_
  refine lv_istore_n (lv' := [(2, .int (-1)), (1, .int 1000000000), (0, .ref h0)]) hx hb dX8_mend_41 rfl hl (by decide) rfl (fun ls hl => ?_)
  refine lv_iload_n hx hb dX8_mend_42 rfl (lv_at hl 0 rfl) ?_
  refine lv_if_ge (tgt := 55) hx hb dX8_mend_43 (by decide) (fun c_5 => absurd c_5 (by decide)) (fun c_5 => ?_)
  refine lv_aload_n hx hb dX8_mend_46 rfl (lv_at hl 2 rfl) ?_
  refine lv_ldc (v := (-1000000004)) hx hb hown (hu _ uw156) dX8_mend_47 ?_
  refine xc_Vi (wr := [(qa, .inr (0, [.int 0, .ref an])), (qh, .inr (1, [.int 0, .ref ae, .ref al, .ref au, .ref ao, .ref ar, .ref ak, .ref aw, .ref att, .ref ass]))]) hF (c_X8_finding_N l D cI cJ cZ cS sa H.size h0 qh qk qd qa qm qs qp ql qt qz qf 0 (fun _ => 0) ) kv_X8_80 ⟨rfl, rfl, Nat.le_of_ble_eq_true rfl, Nat.le_of_ble_eq_true rfl⟩ ⟨Nat.le_of_ble_eq_true rfl, Nat.le_of_ble_eq_true rfl⟩ hK hN hP hD hS hA [1, 0] [2, 3] rfl rfl rfl rfl (by decide) 0 rfl rfl rfl rfl hl.1 rfl (Nat.le_of_ble_eq_true rfl) dX8_mend_49 (fun r_6 u_r_6 H locs hw_r_6 hP hD hS => ?_)
  have hP : va_P D vwCl [(qa, .inr (0, [.int 0, .ref an])), (qh, .inr (1, [.int 0, .ref ae, .ref al, .ref au, .ref ao, .ref ar, .ref ak, .ref aw, .ref att, .ref ass]))] H := hP
  have hD : va_D A [(qa, .inr (0, [.int 0, .ref an])), (qh, .inr (1, [.int 0, .ref ae, .ref al, .ref au, .ref ao, .ref ar, .ref ak, .ref aw, .ref att, .ref ass]))] := hD
  subst hw_r_6
  refine lv_goto (tgt := 56) hx hb dX8_mend_52 (by decide) ?_
  exact W.iret (v := (-1000000004)) hx hb hr (fun t ht hW => ⟨⟨(-1000000004), (), rfl, rfl, by rw [ht]; exact hP.sub [] rfl, hD.sub [] (by decide) rfl⟩, hS.F ht⟩) hS.2.2 dX8_mend_56 hlk
set_option maxHeartbeats 4000000 in
set_option maxRecDepth 100000 in
theorem c_X8_fit (l : Launch) (D : va_G) (cI cJ cZ cS : ClassId) (sa : Nat → Nat) (sz : Nat) (h0 : Nat) (qh : Nat) (qk : Nat) (qd : Nat) (qa : Nat) (qm : Nat) (qs : Nat) (qp : Nat) (ql : Nat) (qt : Nat) (qz : Nat) (qf : Nat) (ae : Nat) (al : Nat) (au : Nat) (ao : Nat) (ar : Nat) (ak : Nat) (aw : Nat) (att : Nat) (ass : Nat) (ch : Nat) (cc : Nat) (cq : Nat) : Met l yX8_fit (Cond.code yX8_fit cX8_fit 1 (some .int) :: wsU) ({ frames := 1, cells := 0, slots := 0, locals := 23 }) (va_Pc [.ref h0] (XW D (xT cI cJ cZ cS) sa [(h0, .inr (8, [.ref qh, .ref qk, .ref qd, .int 0, .ref qa, .ref qm, .ref qs, .ref qp, .ref ql, .ref qt, .ref qz, .ref qf])), (qh, .inr (1, [.int 0, .ref ae, .ref al, .ref au, .ref ao, .ref ar, .ref ak, .ref aw, .ref att, .ref ass])), (qp, .inr (5, [.ref ch, .ref cc, .ref cq]))] sz)) (XQi (fun (r : Int32) (_ : Unit) => r = 1) D (fun _ : Unit => []) (va_A [(h0, .inr (8, [.ref qh, .ref qk, .ref qd, .int 0, .ref qa, .ref qm, .ref qs, .ref qp, .ref ql, .ref qt, .ref qz, .ref qf])), (qh, .inr (1, [.int 0, .ref ae, .ref al, .ref au, .ref ao, .ref ar, .ref ak, .ref aw, .ref att, .ref ass])), (qp, .inr (5, [.ref ch, .ref cc, .ref cq]))] sz)) 0 0 (va_A [(h0, .inr (8, [.ref qh, .ref qk, .ref qd, .int 0, .ref qa, .ref qm, .ref qs, .ref qp, .ref ql, .ref qt, .ref qz, .ref qf])), (qh, .inr (1, [.int 0, .ref ae, .ref al, .ref au, .ref ao, .ref ar, .ref ak, .ref aw, .ref att, .ref ass])), (qp, .inr (5, [.ref ch, .ref cc, .ref cq]))] sz) := by
  refine xhw (QA := fun A => XQi (fun (r : Int32) (_ : Unit) => r = 1) D (fun _ : Unit => []) A) (by decide) (Nat.le_of_ble_eq_true rfl) ?_
  intro p e s m below meth c ls A hF hr hlk hin hsz hP hK hD hN hA hS hl
  have hF : CallFix p m c cX8_fit 1 s _ _ RX8 := hF
  have hx := hF.1
  have hb := hF.2.1
  have hml := hF.2.2.1
  have hown := hF.2.2.2.1
  have hu : ∀ w ∈ wsU, w.before _ s = true := fun w h => hF.2.2.2.2 w (List.mem_cons_of_mem _ h)
  have hl : lv_has ls 1 [(0, .ref h0)] := hl
  refine lv_aload_n hx hb dX8_fit_0 rfl (lv_at hl 0 rfl) ?_
  refine xg hF kf_X8_46 hK hP 0 rfl rfl dX8_fit_1 ?_
  refine lv_aload_n hx hb dX8_fit_4 rfl (lv_at hl 0 rfl) ?_
  refine xg hF kf_X8_12 hK hP 0 rfl rfl dX8_fit_5 ?_
  refine xc_Vrv hF (c_X5_climb l D cI cJ cZ cS sa s.heap.size qp ch cc cq qh ae al au ao ar ak aw att ass ) kv_X8_209 ⟨rfl, rfl, Nat.le_of_ble_eq_true rfl, Nat.le_of_ble_eq_true rfl⟩ ⟨Nat.le_of_ble_eq_true rfl, Nat.le_of_ble_eq_true rfl⟩ hK hN hP hD [2, 1] rfl rfl 0 rfl rfl rfl rfl hl.1 rfl (Nat.le_of_ble_eq_true rfl) dX8_fit_8 (fun hw_r_1 => ?_)
  refine lv_aload_n hx hb dX8_fit_11 rfl (lv_at hl 0 rfl) ?_
  refine xg hF kf_X8_46 hK hP 0 rfl rfl dX8_fit_12 ?_
  refine lv_aload_n hx hb dX8_fit_15 rfl (lv_at hl 0 rfl) ?_
  refine xg hF kf_X8_12 hK hP 0 rfl rfl dX8_fit_16 ?_
  refine xc_Vr hF (c_X5_doFit l D cI cJ cZ cS sa s.heap.size qp ch cc cq qh ae al au ao ar ak aw att ass ) kv_X8_212 ⟨rfl, rfl, Nat.le_of_ble_eq_true rfl, Nat.le_of_ble_eq_true rfl⟩ ⟨Nat.le_of_ble_eq_true rfl, Nat.le_of_ble_eq_true rfl⟩ hK hN hP hD [2, 1] rfl rfl 0 rfl rfl rfl rfl hl.1 rfl (Nat.le_of_ble_eq_true rfl) dX8_fit_19 (fun r_2 hw_r_2 => ?_)
  subst hw_r_2
  refine lv_if_eq (tgt := 29) hx hb dX8_fit_22 (by decide) (fun c_3 => absurd c_3 (by decide)) (fun c_3 => ?_)
  refine lv_iconst (v := 1) hx hb dX8_fit_25 (by decide) ?_
  refine lv_goto (tgt := 30) hx hb dX8_fit_26 (by decide) ?_
  exact W.iret (v := 1) hx hb hr (fun t ht hW => ⟨⟨1, (), rfl, rfl, by rw [ht]; exact hP.sub [] rfl, hD.sub [] (by decide) rfl⟩, hS.F ht⟩) hS.2.2 dX8_fit_30 hlk
set_option maxHeartbeats 4000000 in
set_option maxRecDepth 100000 in
theorem c_X8_worst (l : Launch) (D : va_G) (cI cJ cZ cS : ClassId) (sa : Nat → Nat) (sz : Nat) (h0 : Nat) (qh : Nat) (qk : Nat) (qd : Nat) (qa : Nat) (qm : Nat) (qs : Nat) (qp : Nat) (ql : Nat) (qt : Nat) (qz : Nat) (qf : Nat) (ae : Nat) (al : Nat) (au : Nat) (ao : Nat) (ar : Nat) (ak : Nat) (aw : Nat) (att : Nat) (ass : Nat) : Met l yX8_worst (Cond.code yX8_worst cX8_worst 2 (some .int) :: wsU) ({ frames := 1, cells := 0, slots := 0, locals := 23 }) (va_Pc [.ref h0] (XW D (xT cI cJ cZ cS) sa [(h0, .inr (8, [.ref qh, .ref qk, .ref qd, .int 0, .ref qa, .ref qm, .ref qs, .ref qp, .ref ql, .ref qt, .ref qz, .ref qf])), (qh, .inr (1, [.int 0, .ref ae, .ref al, .ref au, .ref ao, .ref ar, .ref ak, .ref aw, .ref att, .ref ass])), (qf, .inl (cI, 7, .inl (fun _ => 0)))] sz)) (XQi (fun (r : Int32) (_ : Unit) => r = (-1000000004)) D (fun _ : Unit => []) (va_A [(h0, .inr (8, [.ref qh, .ref qk, .ref qd, .int 0, .ref qa, .ref qm, .ref qs, .ref qp, .ref ql, .ref qt, .ref qz, .ref qf])), (qh, .inr (1, [.int 0, .ref ae, .ref al, .ref au, .ref ao, .ref ar, .ref ak, .ref aw, .ref att, .ref ass])), (qf, .inl (cI, 7, .inl (fun _ => 0)))] sz)) 0 0 (va_A [(h0, .inr (8, [.ref qh, .ref qk, .ref qd, .int 0, .ref qa, .ref qm, .ref qs, .ref qp, .ref ql, .ref qt, .ref qz, .ref qf])), (qh, .inr (1, [.int 0, .ref ae, .ref al, .ref au, .ref ao, .ref ar, .ref ak, .ref aw, .ref att, .ref ass])), (qf, .inl (cI, 7, .inl (fun _ => 0)))] sz) := by
  refine xhw (QA := fun A => XQi (fun (r : Int32) (_ : Unit) => r = (-1000000004)) D (fun _ : Unit => []) A) (by decide) (Nat.le_of_ble_eq_true rfl) ?_
  intro p e s m below meth c ls A hF hr hlk hin hsz hP hK hD hN hA hS hl
  have hF : CallFix p m c cX8_worst 2 s _ _ RX8 := hF
  have hx := hF.1
  have hb := hF.2.1
  have hml := hF.2.2.1
  have hown := hF.2.2.2.1
  have hu : ∀ w ∈ wsU, w.before _ s = true := fun w h => hF.2.2.2.2 w (List.mem_cons_of_mem _ h)
  have hl : lv_has ls 2 [(0, .ref h0)] := hl
  refine lv_aload_n hx hb dX8_worst_0 rfl (lv_at hl 0 rfl) ?_
  refine xg hF kf_X8_12 hK hP 0 rfl rfl dX8_worst_1 ?_
  refine xc_Sr hF (c_X5_mostOffPaper l D cI cJ cZ cS sa s.heap.size qh ae al au ao ar ak aw att ass ) ks_X8_226 ⟨rfl, rfl, Nat.le_of_ble_eq_true rfl, Nat.le_of_ble_eq_true rfl⟩ ⟨Nat.le_of_ble_eq_true rfl, Nat.le_of_ble_eq_true rfl⟩ hK hN hP hD [1] rfl rfl rfl hl.1 rfl (Nat.le_of_ble_eq_true rfl) dX8_worst_4 (fun r_1 hw_r_1 => ?_)
  subst hw_r_1
  refine lv_istore_n (lv' := [(1, .int (-1)), (0, .ref h0)]) hx hb dX8_worst_7 rfl hl (by decide) rfl (fun ls hl => ?_)
  refine lv_iload_n hx hb dX8_worst_8 rfl (lv_at hl 0 rfl) ?_
  refine lv_if_ge (tgt := 21) hx hb dX8_worst_9 (by decide) (fun c_2 => absurd c_2 (by decide)) (fun c_2 => ?_)
  refine lv_aload_n hx hb dX8_worst_12 rfl (lv_at hl 1 rfl) ?_
  refine lv_ldc (v := (-1000000004)) hx hb hown (hu _ uw156) dX8_worst_13 ?_
  refine xc_Vi (wr := [(qh, .inr (1, [.int 0, .ref ae, .ref al, .ref au, .ref ao, .ref ar, .ref ak, .ref aw, .ref att, .ref ass]))]) hF (c_X8_finding_N l D cI cJ cZ cS sa s.heap.size h0 qh qk qd qa qm qs qp ql qt qz qf 0 (fun _ => 0) ) kv_X8_80 ⟨rfl, rfl, Nat.le_of_ble_eq_true rfl, Nat.le_of_ble_eq_true rfl⟩ ⟨Nat.le_of_ble_eq_true rfl, Nat.le_of_ble_eq_true rfl⟩ hK hN hP hD hS hA [0, 2] [1] rfl rfl rfl rfl (by decide) 0 rfl rfl rfl rfl hl.1 rfl (Nat.le_of_ble_eq_true rfl) dX8_worst_15 (fun r_3 u_r_3 H locs hw_r_3 hP hD hS => ?_)
  have hP : va_P D vwCl [(qh, .inr (1, [.int 0, .ref ae, .ref al, .ref au, .ref ao, .ref ar, .ref ak, .ref aw, .ref att, .ref ass]))] H := hP
  have hD : va_D A [(qh, .inr (1, [.int 0, .ref ae, .ref al, .ref au, .ref ao, .ref ar, .ref ak, .ref aw, .ref att, .ref ass]))] := hD
  subst hw_r_3
  refine lv_goto (tgt := 22) hx hb dX8_worst_18 (by decide) ?_
  exact W.iret (v := (-1000000004)) hx hb hr (fun t ht hW => ⟨⟨(-1000000004), (), rfl, rfl, by rw [ht]; exact hP.sub [] rfl, hD.sub [] (by decide) rfl⟩, hS.F ht⟩) hS.2.2 dX8_worst_22 hlk
set_option maxHeartbeats 4000000 in
set_option maxRecDepth 100000 in
theorem c_X8_learn (l : Launch) (D : va_G) (cI cJ cZ cS : ClassId) (sa : Nat → Nat) (sz : Nat) (h0 : Nat) (qh : Nat) (qk : Nat) (qd : Nat) (qa : Nat) (qm : Nat) (qs : Nat) (qp : Nat) (ql : Nat) (qt : Nat) (qz : Nat) (qf : Nat) (ae : Nat) (al : Nat) (au : Nat) (ao : Nat) (ar : Nat) (ak : Nat) (aw : Nat) (att : Nat) (ass : Nat) (aWn : Nat) (aWp : Nat) : Met l yX8_learn (Cond.code yX8_learn cX8_learn 1 (some .int) :: wsU) ({ frames := 1, cells := 0, slots := 0, locals := 24 }) (va_Pc [.ref h0] (XW D (xT cI cJ cZ cS) sa [(h0, .inr (8, [.ref qh, .ref qk, .ref qd, .int 0, .ref qa, .ref qm, .ref qs, .ref qp, .ref ql, .ref qt, .ref qz, .ref qf])), (qh, .inr (1, [.int 0, .ref ae, .ref al, .ref au, .ref ao, .ref ar, .ref ak, .ref aw, .ref att, .ref ass])), (aw, .inr (3, [.int 0, .ref aWn, .ref aWp])), (ql, .inr (2, [.int 0, .int 0]))] sz)) (XQi (fun (r : Int32) (_ : Unit) => r = 0) D (fun _ : Unit => []) (va_A [(h0, .inr (8, [.ref qh, .ref qk, .ref qd, .int 0, .ref qa, .ref qm, .ref qs, .ref qp, .ref ql, .ref qt, .ref qz, .ref qf])), (qh, .inr (1, [.int 0, .ref ae, .ref al, .ref au, .ref ao, .ref ar, .ref ak, .ref aw, .ref att, .ref ass])), (aw, .inr (3, [.int 0, .ref aWn, .ref aWp])), (ql, .inr (2, [.int 0, .int 0]))] sz)) 0 0 (va_A [(h0, .inr (8, [.ref qh, .ref qk, .ref qd, .int 0, .ref qa, .ref qm, .ref qs, .ref qp, .ref ql, .ref qt, .ref qz, .ref qf])), (qh, .inr (1, [.int 0, .ref ae, .ref al, .ref au, .ref ao, .ref ar, .ref ak, .ref aw, .ref att, .ref ass])), (aw, .inr (3, [.int 0, .ref aWn, .ref aWp])), (ql, .inr (2, [.int 0, .int 0]))] sz) := by
  refine xhw (QA := fun A => XQi (fun (r : Int32) (_ : Unit) => r = 0) D (fun _ : Unit => []) A) (by decide) (Nat.le_of_ble_eq_true rfl) ?_
  intro p e s m below meth c ls A hF hr hlk hin hsz hP hK hD hN hA hS hl
  have hF : CallFix p m c cX8_learn 1 s _ _ RX8 := hF
  have hx := hF.1
  have hb := hF.2.1
  have hml := hF.2.2.1
  have hown := hF.2.2.2.1
  have hu : ∀ w ∈ wsU, w.before _ s = true := fun w h => hF.2.2.2.2 w (List.mem_cons_of_mem _ h)
  have hl : lv_has ls 1 [(0, .ref h0)] := hl
  refine lv_aload_n hx hb dX8_learn_0 rfl (lv_at hl 0 rfl) ?_
  refine xg hF kf_X8_53 hK hP 0 rfl rfl dX8_learn_1 ?_
  refine lv_aload_n hx hb dX8_learn_4 rfl (lv_at hl 0 rfl) ?_
  refine xg hF kf_X8_12 hK hP 0 rfl rfl dX8_learn_5 ?_
  refine xc_Vi (wr := [(h0, .inr (8, [.ref qh, .ref qk, .ref qd, .int 0, .ref qa, .ref qm, .ref qs, .ref qp, .ref ql, .ref qt, .ref qz, .ref qf]))]) hF (c_X2_learnIn l D cI cJ cZ cS sa s.heap.size ql qh ae al au ao ar ak aw att ass aWn aWp ) kv_X8_238 ⟨rfl, rfl, Nat.le_of_ble_eq_true rfl, Nat.le_of_ble_eq_true rfl⟩ ⟨Nat.le_of_ble_eq_true rfl, Nat.le_of_ble_eq_true rfl⟩ hK hN hP hD hS hA [3, 1, 2] [0] rfl rfl rfl rfl (by decide) 0 rfl rfl rfl rfl hl.1 rfl (Nat.le_of_ble_eq_true rfl) dX8_learn_8 (fun r_1 u_r_1 H locs hw_r_1 hP hD hS => ?_)
  have hP : va_P D vwCl [(h0, .inr (8, [.ref qh, .ref qk, .ref qd, .int 0, .ref qa, .ref qm, .ref qs, .ref qp, .ref ql, .ref qt, .ref qz, .ref qf])), (ql, .inr (2, [.int 0, .int 0])), (qh, .inr (1, [.int 0, .ref ae, .ref al, .ref au, .ref ao, .ref ar, .ref ak, .ref aw, .ref att, .ref ass])), (aw, .inr (3, [.int 0, .ref aWn, .ref aWp]))] H := hP
  have hD : va_D A [(h0, .inr (8, [.ref qh, .ref qk, .ref qd, .int 0, .ref qa, .ref qm, .ref qs, .ref qp, .ref ql, .ref qt, .ref qz, .ref qf])), (ql, .inr (2, [.int 0, .int 0])), (qh, .inr (1, [.int 0, .ref ae, .ref al, .ref au, .ref ao, .ref ar, .ref ak, .ref aw, .ref att, .ref ass])), (aw, .inr (3, [.int 0, .ref aWn, .ref aWp]))] := hD
  subst hw_r_1
  exact W.iret (v := 0) hx hb hr (fun t ht hW => ⟨⟨0, (), rfl, rfl, by rw [ht]; exact hP.sub [] rfl, hD.sub [] (by decide) rfl⟩, hS.F ht⟩) hS.2.2 dX8_learn_11 hlk
set_option maxHeartbeats 4000000 in
set_option maxRecDepth 100000 in
theorem c_X8_lies (l : Launch) (D : va_G) (cI cJ cZ cS : ClassId) (sa : Nat → Nat) (sz : Nat) (h0 : Nat) (qh : Nat) (qk : Nat) (qd : Nat) (qa : Nat) (qm : Nat) (qs : Nat) (qp : Nat) (ql : Nat) (qt : Nat) (qz : Nat) (qf : Nat) (ae : Nat) (al : Nat) (au : Nat) (ao : Nat) (ar : Nat) (ak : Nat) (aw : Nat) (att : Nat) (ass : Nat) (aRn : Nat) (aRp : Nat) (aWn : Nat) (aWp : Nat) (be : Nat) (bl : Nat) (bu : Nat) (bo : Nat) (br : Nat) (bk : Nat) (bw : Nat) (btt : Nat) (bss : Nat) (bRn : Nat) (bRp : Nat) (bWn : Nat) (bWp : Nat) : Met l yX8_lies (Cond.code yX8_lies cX8_lies 1 (some .int) :: wsU) ({ frames := 3, cells := 0, slots := 0, locals := 102 }) (va_Pc [.ref h0] (XW D (xT cI cJ cZ cS) sa [(h0, .inr (8, [.ref qh, .ref qk, .ref qd, .int 0, .ref qa, .ref qm, .ref qs, .ref qp, .ref ql, .ref qt, .ref qz, .ref qf])), (qh, .inr (1, [.int 0, .ref ae, .ref al, .ref au, .ref ao, .ref ar, .ref ak, .ref aw, .ref att, .ref ass])), (ae, .inl (cI, 10, .inl (fun _ => 0))), (al, .inl (cI, 100, .inl (fun _ => 0))), (au, .inl (cI, 100, .inl (fun _ => 0))), (ao, .inl (cI, 100, .inl (fun _ => 0))), (ar, .inr (3, [.int 0, .ref aRn, .ref aRp])), (aRn, .inl (cI, 8, .inl (fun _ => 0))), (aRp, .inl (cI, 48, .inl (fun _ => 0))), (ak, .inl (cI, 8, .inl (fun _ => 0))), (aw, .inr (3, [.int 0, .ref aWn, .ref aWp])), (aWn, .inl (cI, 8, .inl (fun _ => 0))), (aWp, .inl (cI, 48, .inl (fun _ => 0))), (att, .inl (cI, 8, .inl (fun _ => 0))), (ass, .inl (cI, 8, .inl (fun _ => 0))), (qd, .inr (1, [.int 0, .ref be, .ref bl, .ref bu, .ref bo, .ref br, .ref bk, .ref bw, .ref btt, .ref bss])), (be, .inl (cI, 10, .inl (fun _ => 0))), (bl, .inl (cI, 100, .inl (fun _ => 0))), (bu, .inl (cI, 100, .inl (fun _ => 0))), (bo, .inl (cI, 100, .inl (fun _ => 0))), (br, .inr (3, [.int 0, .ref bRn, .ref bRp])), (bRn, .inl (cI, 8, .inl (fun _ => 0))), (bRp, .inl (cI, 48, .inl (fun _ => 0))), (bk, .inl (cI, 8, .inl (fun _ => 0))), (bw, .inr (3, [.int 0, .ref bWn, .ref bWp])), (bWn, .inl (cI, 8, .inl (fun _ => 0))), (bWp, .inl (cI, 48, .inl (fun _ => 0))), (btt, .inl (cI, 8, .inl (fun _ => 0))), (bss, .inl (cI, 8, .inl (fun _ => 0))), (ql, .inr (2, [.int 0, .int 0]))] sz)) (XQi (fun (r : Int32) (_ : Unit) => r = 0) D (fun _ : Unit => []) (va_A [(h0, .inr (8, [.ref qh, .ref qk, .ref qd, .int 0, .ref qa, .ref qm, .ref qs, .ref qp, .ref ql, .ref qt, .ref qz, .ref qf])), (qh, .inr (1, [.int 0, .ref ae, .ref al, .ref au, .ref ao, .ref ar, .ref ak, .ref aw, .ref att, .ref ass])), (ae, .inl (cI, 10, .inl (fun _ => 0))), (al, .inl (cI, 100, .inl (fun _ => 0))), (au, .inl (cI, 100, .inl (fun _ => 0))), (ao, .inl (cI, 100, .inl (fun _ => 0))), (ar, .inr (3, [.int 0, .ref aRn, .ref aRp])), (aRn, .inl (cI, 8, .inl (fun _ => 0))), (aRp, .inl (cI, 48, .inl (fun _ => 0))), (ak, .inl (cI, 8, .inl (fun _ => 0))), (aw, .inr (3, [.int 0, .ref aWn, .ref aWp])), (aWn, .inl (cI, 8, .inl (fun _ => 0))), (aWp, .inl (cI, 48, .inl (fun _ => 0))), (att, .inl (cI, 8, .inl (fun _ => 0))), (ass, .inl (cI, 8, .inl (fun _ => 0))), (qd, .inr (1, [.int 0, .ref be, .ref bl, .ref bu, .ref bo, .ref br, .ref bk, .ref bw, .ref btt, .ref bss])), (be, .inl (cI, 10, .inl (fun _ => 0))), (bl, .inl (cI, 100, .inl (fun _ => 0))), (bu, .inl (cI, 100, .inl (fun _ => 0))), (bo, .inl (cI, 100, .inl (fun _ => 0))), (br, .inr (3, [.int 0, .ref bRn, .ref bRp])), (bRn, .inl (cI, 8, .inl (fun _ => 0))), (bRp, .inl (cI, 48, .inl (fun _ => 0))), (bk, .inl (cI, 8, .inl (fun _ => 0))), (bw, .inr (3, [.int 0, .ref bWn, .ref bWp])), (bWn, .inl (cI, 8, .inl (fun _ => 0))), (bWp, .inl (cI, 48, .inl (fun _ => 0))), (btt, .inl (cI, 8, .inl (fun _ => 0))), (bss, .inl (cI, 8, .inl (fun _ => 0))), (ql, .inr (2, [.int 0, .int 0]))] sz)) 0 0 (va_A [(h0, .inr (8, [.ref qh, .ref qk, .ref qd, .int 0, .ref qa, .ref qm, .ref qs, .ref qp, .ref ql, .ref qt, .ref qz, .ref qf])), (qh, .inr (1, [.int 0, .ref ae, .ref al, .ref au, .ref ao, .ref ar, .ref ak, .ref aw, .ref att, .ref ass])), (ae, .inl (cI, 10, .inl (fun _ => 0))), (al, .inl (cI, 100, .inl (fun _ => 0))), (au, .inl (cI, 100, .inl (fun _ => 0))), (ao, .inl (cI, 100, .inl (fun _ => 0))), (ar, .inr (3, [.int 0, .ref aRn, .ref aRp])), (aRn, .inl (cI, 8, .inl (fun _ => 0))), (aRp, .inl (cI, 48, .inl (fun _ => 0))), (ak, .inl (cI, 8, .inl (fun _ => 0))), (aw, .inr (3, [.int 0, .ref aWn, .ref aWp])), (aWn, .inl (cI, 8, .inl (fun _ => 0))), (aWp, .inl (cI, 48, .inl (fun _ => 0))), (att, .inl (cI, 8, .inl (fun _ => 0))), (ass, .inl (cI, 8, .inl (fun _ => 0))), (qd, .inr (1, [.int 0, .ref be, .ref bl, .ref bu, .ref bo, .ref br, .ref bk, .ref bw, .ref btt, .ref bss])), (be, .inl (cI, 10, .inl (fun _ => 0))), (bl, .inl (cI, 100, .inl (fun _ => 0))), (bu, .inl (cI, 100, .inl (fun _ => 0))), (bo, .inl (cI, 100, .inl (fun _ => 0))), (br, .inr (3, [.int 0, .ref bRn, .ref bRp])), (bRn, .inl (cI, 8, .inl (fun _ => 0))), (bRp, .inl (cI, 48, .inl (fun _ => 0))), (bk, .inl (cI, 8, .inl (fun _ => 0))), (bw, .inr (3, [.int 0, .ref bWn, .ref bWp])), (bWn, .inl (cI, 8, .inl (fun _ => 0))), (bWp, .inl (cI, 48, .inl (fun _ => 0))), (btt, .inl (cI, 8, .inl (fun _ => 0))), (bss, .inl (cI, 8, .inl (fun _ => 0))), (ql, .inr (2, [.int 0, .int 0]))] sz) := by
  refine xhw (QA := fun A => XQi (fun (r : Int32) (_ : Unit) => r = 0) D (fun _ : Unit => []) A) (by decide) (Nat.le_of_ble_eq_true rfl) ?_
  intro p e s m below meth c ls A hF hr hlk hin hsz hP hK hD hN hA hS hl
  have hF : CallFix p m c cX8_lies 1 s _ _ RX8 := hF
  have hx := hF.1
  have hb := hF.2.1
  have hml := hF.2.2.1
  have hown := hF.2.2.2.1
  have hu : ∀ w ∈ wsU, w.before _ s = true := fun w h => hF.2.2.2.2 w (List.mem_cons_of_mem _ h)
  have hl : lv_has ls 1 [(0, .ref h0)] := hl
  refine lv_aload_n hx hb dX8_lies_0 rfl (lv_at hl 0 rfl) ?_
  refine xg hF kf_X8_19 hK hP 0 rfl rfl dX8_lies_1 ?_
  refine lv_aload_n hx hb dX8_lies_4 rfl (lv_at hl 0 rfl) ?_
  refine xg hF kf_X8_12 hK hP 0 rfl rfl dX8_lies_5 ?_
  refine xc_Vv (wr := [(h0, .inr (8, [.ref qh, .ref qk, .ref qd, .int 0, .ref qa, .ref qm, .ref qs, .ref qp, .ref ql, .ref qt, .ref qz, .ref qf])), (ql, .inr (2, [.int 0, .int 0]))]) hF (c_X1_become l D cI cJ cZ cS sa s.heap.size qd be bl bu bo br bk bw btt bss bRn bRp bWn bWp qh ae al au ao ar ak aw att ass aRn aRp aWn aWp ) kv_X8_241 ⟨rfl, rfl, Nat.le_of_ble_eq_true rfl, Nat.le_of_ble_eq_true rfl⟩ ⟨Nat.le_of_ble_eq_true rfl, Nat.le_of_ble_eq_true rfl⟩ hK hN hP hD hS hA [15, 16, 17, 18, 19, 20, 21, 22, 23, 24, 25, 26, 27, 28, 1, 2, 3, 4, 5, 6, 7, 8, 9, 10, 11, 12, 13, 14] [0, 29] rfl rfl rfl rfl (by decide) 0 rfl rfl rfl rfl hl.1 rfl (Nat.le_of_ble_eq_true rfl) dX8_lies_8 (fun u_r_1 H locs hw_r_1 hP hD hS => ?_)
  have hP : va_P D vwCl [(h0, .inr (8, [.ref qh, .ref qk, .ref qd, .int 0, .ref qa, .ref qm, .ref qs, .ref qp, .ref ql, .ref qt, .ref qz, .ref qf])), (ql, .inr (2, [.int 0, .int 0])), (qd, .inr (1, [.int 0, .ref be, .ref bl, .ref bu, .ref bo, .ref br, .ref bk, .ref bw, .ref btt, .ref bss])), (be, .inl (cI, 10, .inl (fun _ => 0))), (bl, .inl (cI, 100, .inl (fun _ => 0))), (bu, .inl (cI, 100, .inl (fun _ => 0))), (bo, .inl (cI, 100, .inl (fun _ => 0))), (bk, .inl (cI, 8, .inl (fun _ => 0))), (btt, .inl (cI, 8, .inl (fun _ => 0))), (bss, .inl (cI, 8, .inl (fun _ => 0))), (qh, .inr (1, [.int 0, .ref ae, .ref al, .ref au, .ref ao, .ref ar, .ref ak, .ref aw, .ref att, .ref ass])), (ae, .inl (cI, 10, .inl (fun _ => 0))), (al, .inl (cI, 100, .inl (fun _ => 0))), (au, .inl (cI, 100, .inl (fun _ => 0))), (ao, .inl (cI, 100, .inl (fun _ => 0))), (ak, .inl (cI, 8, .inl (fun _ => 0))), (att, .inl (cI, 8, .inl (fun _ => 0))), (ass, .inl (cI, 8, .inl (fun _ => 0))), (br, .inr (3, [.int 0, .ref bRn, .ref bRp])), (bRn, .inl (cI, 8, .inl (fun _ => 0))), (bRp, .inl (cI, 48, .inl (fun _ => 0))), (ar, .inr (3, [.int 0, .ref aRn, .ref aRp])), (aRn, .inl (cI, 8, .inl (fun _ => 0))), (aRp, .inl (cI, 48, .inl (fun _ => 0))), (bw, .inr (3, [.int 0, .ref bWn, .ref bWp])), (bWn, .inl (cI, 8, .inl (fun _ => 0))), (bWp, .inl (cI, 48, .inl (fun _ => 0))), (aw, .inr (3, [.int 0, .ref aWn, .ref aWp])), (aWn, .inl (cI, 8, .inl (fun _ => 0))), (aWp, .inl (cI, 48, .inl (fun _ => 0)))] H := hP
  have hD : va_D A [(h0, .inr (8, [.ref qh, .ref qk, .ref qd, .int 0, .ref qa, .ref qm, .ref qs, .ref qp, .ref ql, .ref qt, .ref qz, .ref qf])), (ql, .inr (2, [.int 0, .int 0])), (qd, .inr (1, [.int 0, .ref be, .ref bl, .ref bu, .ref bo, .ref br, .ref bk, .ref bw, .ref btt, .ref bss])), (be, .inl (cI, 10, .inl (fun _ => 0))), (bl, .inl (cI, 100, .inl (fun _ => 0))), (bu, .inl (cI, 100, .inl (fun _ => 0))), (bo, .inl (cI, 100, .inl (fun _ => 0))), (bk, .inl (cI, 8, .inl (fun _ => 0))), (btt, .inl (cI, 8, .inl (fun _ => 0))), (bss, .inl (cI, 8, .inl (fun _ => 0))), (qh, .inr (1, [.int 0, .ref ae, .ref al, .ref au, .ref ao, .ref ar, .ref ak, .ref aw, .ref att, .ref ass])), (ae, .inl (cI, 10, .inl (fun _ => 0))), (al, .inl (cI, 100, .inl (fun _ => 0))), (au, .inl (cI, 100, .inl (fun _ => 0))), (ao, .inl (cI, 100, .inl (fun _ => 0))), (ak, .inl (cI, 8, .inl (fun _ => 0))), (att, .inl (cI, 8, .inl (fun _ => 0))), (ass, .inl (cI, 8, .inl (fun _ => 0))), (br, .inr (3, [.int 0, .ref bRn, .ref bRp])), (bRn, .inl (cI, 8, .inl (fun _ => 0))), (bRp, .inl (cI, 48, .inl (fun _ => 0))), (ar, .inr (3, [.int 0, .ref aRn, .ref aRp])), (aRn, .inl (cI, 8, .inl (fun _ => 0))), (aRp, .inl (cI, 48, .inl (fun _ => 0))), (bw, .inr (3, [.int 0, .ref bWn, .ref bWp])), (bWn, .inl (cI, 8, .inl (fun _ => 0))), (bWp, .inl (cI, 48, .inl (fun _ => 0))), (aw, .inr (3, [.int 0, .ref aWn, .ref aWp])), (aWn, .inl (cI, 8, .inl (fun _ => 0))), (aWp, .inl (cI, 48, .inl (fun _ => 0)))] := hD
  refine lv_aload_n hx hb dX8_lies_11 rfl (lv_at hl 0 rfl) ?_
  refine xg hF kf_X8_53 hK hP 0 rfl rfl dX8_lies_12 ?_
  refine lv_aload_n hx hb dX8_lies_15 rfl (lv_at hl 0 rfl) ?_
  refine xg hF kf_X8_19 hK hP 0 rfl rfl dX8_lies_16 ?_
  refine xc_Vi (wr := [(h0, .inr (8, [.ref qh, .ref qk, .ref qd, .int 0, .ref qa, .ref qm, .ref qs, .ref qp, .ref ql, .ref qt, .ref qz, .ref qf])), (be, .inl (cI, 10, .inl (fun _ => 0))), (bl, .inl (cI, 100, .inl (fun _ => 0))), (bu, .inl (cI, 100, .inl (fun _ => 0))), (bo, .inl (cI, 100, .inl (fun _ => 0))), (bk, .inl (cI, 8, .inl (fun _ => 0))), (btt, .inl (cI, 8, .inl (fun _ => 0))), (bss, .inl (cI, 8, .inl (fun _ => 0))), (qh, .inr (1, [.int 0, .ref ae, .ref al, .ref au, .ref ao, .ref ar, .ref ak, .ref aw, .ref att, .ref ass])), (ae, .inl (cI, 10, .inl (fun _ => 0))), (al, .inl (cI, 100, .inl (fun _ => 0))), (au, .inl (cI, 100, .inl (fun _ => 0))), (ao, .inl (cI, 100, .inl (fun _ => 0))), (ak, .inl (cI, 8, .inl (fun _ => 0))), (att, .inl (cI, 8, .inl (fun _ => 0))), (ass, .inl (cI, 8, .inl (fun _ => 0))), (br, .inr (3, [.int 0, .ref bRn, .ref bRp])), (bRn, .inl (cI, 8, .inl (fun _ => 0))), (bRp, .inl (cI, 48, .inl (fun _ => 0))), (ar, .inr (3, [.int 0, .ref aRn, .ref aRp])), (aRn, .inl (cI, 8, .inl (fun _ => 0))), (aRp, .inl (cI, 48, .inl (fun _ => 0))), (bWn, .inl (cI, 8, .inl (fun _ => 0))), (bWp, .inl (cI, 48, .inl (fun _ => 0))), (aw, .inr (3, [.int 0, .ref aWn, .ref aWp])), (aWn, .inl (cI, 8, .inl (fun _ => 0))), (aWp, .inl (cI, 48, .inl (fun _ => 0)))]) hF (c_X2_learnIn l D cI cJ cZ cS sa H.size ql qd be bl bu bo br bk bw btt bss bWn bWp ) kv_X8_238 ⟨rfl, rfl, Nat.le_of_ble_eq_true rfl, Nat.le_of_ble_eq_true rfl⟩ ⟨Nat.le_of_ble_eq_true rfl, Nat.le_of_ble_eq_true rfl⟩ hK hN hP hD hS hA [1, 2, 24] [0, 3, 4, 5, 6, 7, 8, 9, 10, 11, 12, 13, 14, 15, 16, 17, 18, 19, 20, 21, 22, 23, 25, 26, 27, 28, 29] rfl rfl rfl rfl (by decide) 0 rfl rfl rfl rfl hl.1 rfl (Nat.le_of_ble_eq_true rfl) dX8_lies_19 (fun r_2 u_r_2 H locs hw_r_2 hP hD hS => ?_)
  have hP : va_P D vwCl [(h0, .inr (8, [.ref qh, .ref qk, .ref qd, .int 0, .ref qa, .ref qm, .ref qs, .ref qp, .ref ql, .ref qt, .ref qz, .ref qf])), (be, .inl (cI, 10, .inl (fun _ => 0))), (bl, .inl (cI, 100, .inl (fun _ => 0))), (bu, .inl (cI, 100, .inl (fun _ => 0))), (bo, .inl (cI, 100, .inl (fun _ => 0))), (bk, .inl (cI, 8, .inl (fun _ => 0))), (btt, .inl (cI, 8, .inl (fun _ => 0))), (bss, .inl (cI, 8, .inl (fun _ => 0))), (qh, .inr (1, [.int 0, .ref ae, .ref al, .ref au, .ref ao, .ref ar, .ref ak, .ref aw, .ref att, .ref ass])), (ae, .inl (cI, 10, .inl (fun _ => 0))), (al, .inl (cI, 100, .inl (fun _ => 0))), (au, .inl (cI, 100, .inl (fun _ => 0))), (ao, .inl (cI, 100, .inl (fun _ => 0))), (ak, .inl (cI, 8, .inl (fun _ => 0))), (att, .inl (cI, 8, .inl (fun _ => 0))), (ass, .inl (cI, 8, .inl (fun _ => 0))), (br, .inr (3, [.int 0, .ref bRn, .ref bRp])), (bRn, .inl (cI, 8, .inl (fun _ => 0))), (bRp, .inl (cI, 48, .inl (fun _ => 0))), (ar, .inr (3, [.int 0, .ref aRn, .ref aRp])), (aRn, .inl (cI, 8, .inl (fun _ => 0))), (aRp, .inl (cI, 48, .inl (fun _ => 0))), (bWn, .inl (cI, 8, .inl (fun _ => 0))), (bWp, .inl (cI, 48, .inl (fun _ => 0))), (aw, .inr (3, [.int 0, .ref aWn, .ref aWp])), (aWn, .inl (cI, 8, .inl (fun _ => 0))), (aWp, .inl (cI, 48, .inl (fun _ => 0))), (ql, .inr (2, [.int 0, .int 0])), (qd, .inr (1, [.int 0, .ref be, .ref bl, .ref bu, .ref bo, .ref br, .ref bk, .ref bw, .ref btt, .ref bss])), (bw, .inr (3, [.int 0, .ref bWn, .ref bWp]))] H := hP
  have hD : va_D A [(h0, .inr (8, [.ref qh, .ref qk, .ref qd, .int 0, .ref qa, .ref qm, .ref qs, .ref qp, .ref ql, .ref qt, .ref qz, .ref qf])), (be, .inl (cI, 10, .inl (fun _ => 0))), (bl, .inl (cI, 100, .inl (fun _ => 0))), (bu, .inl (cI, 100, .inl (fun _ => 0))), (bo, .inl (cI, 100, .inl (fun _ => 0))), (bk, .inl (cI, 8, .inl (fun _ => 0))), (btt, .inl (cI, 8, .inl (fun _ => 0))), (bss, .inl (cI, 8, .inl (fun _ => 0))), (qh, .inr (1, [.int 0, .ref ae, .ref al, .ref au, .ref ao, .ref ar, .ref ak, .ref aw, .ref att, .ref ass])), (ae, .inl (cI, 10, .inl (fun _ => 0))), (al, .inl (cI, 100, .inl (fun _ => 0))), (au, .inl (cI, 100, .inl (fun _ => 0))), (ao, .inl (cI, 100, .inl (fun _ => 0))), (ak, .inl (cI, 8, .inl (fun _ => 0))), (att, .inl (cI, 8, .inl (fun _ => 0))), (ass, .inl (cI, 8, .inl (fun _ => 0))), (br, .inr (3, [.int 0, .ref bRn, .ref bRp])), (bRn, .inl (cI, 8, .inl (fun _ => 0))), (bRp, .inl (cI, 48, .inl (fun _ => 0))), (ar, .inr (3, [.int 0, .ref aRn, .ref aRp])), (aRn, .inl (cI, 8, .inl (fun _ => 0))), (aRp, .inl (cI, 48, .inl (fun _ => 0))), (bWn, .inl (cI, 8, .inl (fun _ => 0))), (bWp, .inl (cI, 48, .inl (fun _ => 0))), (aw, .inr (3, [.int 0, .ref aWn, .ref aWp])), (aWn, .inl (cI, 8, .inl (fun _ => 0))), (aWp, .inl (cI, 48, .inl (fun _ => 0))), (ql, .inr (2, [.int 0, .int 0])), (qd, .inr (1, [.int 0, .ref be, .ref bl, .ref bu, .ref bo, .ref br, .ref bk, .ref bw, .ref btt, .ref bss])), (bw, .inr (3, [.int 0, .ref bWn, .ref bWp]))] := hD
  subst hw_r_2
  refine lv_pop hx hb dX8_lies_22 rfl ?_
  refine lv_aload_n hx hb dX8_lies_23 rfl (lv_at hl 0 rfl) ?_
  refine xg hF kf_X8_53 hK hP 0 rfl rfl dX8_lies_24 ?_
  refine xg hF kf_X8_244 hK hP 27 rfl rfl dX8_lies_27 ?_
  exact W.iret (v := 0) hx hb hr (fun t ht hW => ⟨⟨0, (), rfl, rfl, by rw [ht]; exact hP.sub [] rfl, hD.sub [] (by decide) rfl⟩, hS.F ht⟩) hS.2.2 dX8_lies_30 hlk
set_option maxHeartbeats 4000000 in
set_option maxRecDepth 100000 in
theorem c_X8_ask (l : Launch) (D : va_G) (cI cJ cZ cS : ClassId) (sa : Nat → Nat) (sz : Nat) (h0 : Nat) (qh : Nat) (qk : Nat) (qd : Nat) (qa : Nat) (qm : Nat) (qs : Nat) (qp : Nat) (ql : Nat) (qt : Nat) (qz : Nat) (qf : Nat) (ae : Nat) (al : Nat) (au : Nat) (ao : Nat) (ar : Nat) (ak : Nat) (aw : Nat) (att : Nat) (ass : Nat) : Met l yX8_ask (Cond.code yX8_ask cX8_ask 2 (some .int) :: wsU) ({ frames := 1, cells := 0, slots := 0, locals := 23 }) (va_Pc [.ref h0] (XW D (xT cI cJ cZ cS) sa [(h0, .inr (8, [.ref qh, .ref qk, .ref qd, .int 0, .ref qa, .ref qm, .ref qs, .ref qp, .ref ql, .ref qt, .ref qz, .ref qf])), (qh, .inr (1, [.int 0, .ref ae, .ref al, .ref au, .ref ao, .ref ar, .ref ak, .ref aw, .ref att, .ref ass])), (al, .inl (cI, 100, .inl (fun _ => 0))), (au, .inl (cI, 100, .inl (fun _ => 0))), (ao, .inl (cI, 100, .inl (fun _ => 0))), (qf, .inl (cI, 7, .inl (fun _ => 0)))] sz)) (XQi (fun (r : Int32) (_ : Unit) => r = (-1000000004)) D (fun _ : Unit => []) (va_A [(h0, .inr (8, [.ref qh, .ref qk, .ref qd, .int 0, .ref qa, .ref qm, .ref qs, .ref qp, .ref ql, .ref qt, .ref qz, .ref qf])), (qh, .inr (1, [.int 0, .ref ae, .ref al, .ref au, .ref ao, .ref ar, .ref ak, .ref aw, .ref att, .ref ass])), (al, .inl (cI, 100, .inl (fun _ => 0))), (au, .inl (cI, 100, .inl (fun _ => 0))), (ao, .inl (cI, 100, .inl (fun _ => 0))), (qf, .inl (cI, 7, .inl (fun _ => 0)))] sz)) 0 0 (va_A [(h0, .inr (8, [.ref qh, .ref qk, .ref qd, .int 0, .ref qa, .ref qm, .ref qs, .ref qp, .ref ql, .ref qt, .ref qz, .ref qf])), (qh, .inr (1, [.int 0, .ref ae, .ref al, .ref au, .ref ao, .ref ar, .ref ak, .ref aw, .ref att, .ref ass])), (al, .inl (cI, 100, .inl (fun _ => 0))), (au, .inl (cI, 100, .inl (fun _ => 0))), (ao, .inl (cI, 100, .inl (fun _ => 0))), (qf, .inl (cI, 7, .inl (fun _ => 0)))] sz) := by
  refine xhw (QA := fun A => XQi (fun (r : Int32) (_ : Unit) => r = (-1000000004)) D (fun _ : Unit => []) A) (by decide) (Nat.le_of_ble_eq_true rfl) ?_
  intro p e s m below meth c ls A hF hr hlk hin hsz hP hK hD hN hA hS hl
  have hF : CallFix p m c cX8_ask 2 s _ _ RX8 := hF
  have hx := hF.1
  have hb := hF.2.1
  have hml := hF.2.2.1
  have hown := hF.2.2.2.1
  have hu : ∀ w ∈ wsU, w.before _ s = true := fun w h => hF.2.2.2.2 w (List.mem_cons_of_mem _ h)
  have hl : lv_has ls 2 [(0, .ref h0)] := hl
  refine lv_aload_n hx hb dX8_ask_0 rfl (lv_at hl 0 rfl) ?_
  refine xg hF kf_X8_12 hK hP 0 rfl rfl dX8_ask_1 ?_
  refine xc_Vr hF (c_X1_widestWay l D cI cJ cZ cS sa s.heap.size qh ae al au ao ar ak aw att ass ) kv_X8_256 ⟨rfl, rfl, Nat.le_of_ble_eq_true rfl, Nat.le_of_ble_eq_true rfl⟩ ⟨Nat.le_of_ble_eq_true rfl, Nat.le_of_ble_eq_true rfl⟩ hK hN hP hD [1, 2, 3, 4] rfl rfl 0 rfl rfl rfl rfl hl.1 rfl (Nat.le_of_ble_eq_true rfl) dX8_ask_4 (fun r_1 hw_r_1 => ?_)
  subst hw_r_1
  refine lv_istore_n (lv' := [(1, .int (-1)), (0, .ref h0)]) hx hb dX8_ask_7 rfl hl (by decide) rfl (fun ls hl => ?_)
  refine lv_iload_n hx hb dX8_ask_8 rfl (lv_at hl 0 rfl) ?_
  refine lv_if_ge (tgt := 21) hx hb dX8_ask_9 (by decide) (fun c_2 => absurd c_2 (by decide)) (fun c_2 => ?_)
  refine lv_aload_n hx hb dX8_ask_12 rfl (lv_at hl 1 rfl) ?_
  refine lv_ldc (v := (-1000000004)) hx hb hown (hu _ uw156) dX8_ask_13 ?_
  refine xc_Vi (wr := [(qh, .inr (1, [.int 0, .ref ae, .ref al, .ref au, .ref ao, .ref ar, .ref ak, .ref aw, .ref att, .ref ass])), (al, .inl (cI, 100, .inl (fun _ => 0))), (au, .inl (cI, 100, .inl (fun _ => 0))), (ao, .inl (cI, 100, .inl (fun _ => 0)))]) hF (c_X8_finding_N l D cI cJ cZ cS sa s.heap.size h0 qh qk qd qa qm qs qp ql qt qz qf 0 (fun _ => 0) ) kv_X8_80 ⟨rfl, rfl, Nat.le_of_ble_eq_true rfl, Nat.le_of_ble_eq_true rfl⟩ ⟨Nat.le_of_ble_eq_true rfl, Nat.le_of_ble_eq_true rfl⟩ hK hN hP hD hS hA [0, 5] [1, 2, 3, 4] rfl rfl rfl rfl (by decide) 0 rfl rfl rfl rfl hl.1 rfl (Nat.le_of_ble_eq_true rfl) dX8_ask_15 (fun r_3 u_r_3 H locs hw_r_3 hP hD hS => ?_)
  have hP : va_P D vwCl [(qh, .inr (1, [.int 0, .ref ae, .ref al, .ref au, .ref ao, .ref ar, .ref ak, .ref aw, .ref att, .ref ass])), (al, .inl (cI, 100, .inl (fun _ => 0))), (au, .inl (cI, 100, .inl (fun _ => 0))), (ao, .inl (cI, 100, .inl (fun _ => 0)))] H := hP
  have hD : va_D A [(qh, .inr (1, [.int 0, .ref ae, .ref al, .ref au, .ref ao, .ref ar, .ref ak, .ref aw, .ref att, .ref ass])), (al, .inl (cI, 100, .inl (fun _ => 0))), (au, .inl (cI, 100, .inl (fun _ => 0))), (ao, .inl (cI, 100, .inl (fun _ => 0)))] := hD
  subst hw_r_3
  refine lv_goto (tgt := 22) hx hb dX8_ask_18 (by decide) ?_
  exact W.iret (v := (-1000000004)) hx hb hr (fun t ht hW => ⟨⟨(-1000000004), (), rfl, rfl, by rw [ht]; exact hP.sub [] rfl, hD.sub [] (by decide) rfl⟩, hS.F ht⟩) hS.2.2 dX8_ask_22 hlk
set_option maxHeartbeats 4000000 in
set_option maxRecDepth 100000 in
theorem c_X8_hollow (l : Launch) (D : va_G) (cI cJ cZ cS : ClassId) (sa : Nat → Nat) (sz : Nat) (h0 : Nat) (qh : Nat) (qk : Nat) (qd : Nat) (qa : Nat) (qm : Nat) (qs : Nat) (qp : Nat) (ql : Nat) (qt : Nat) (qz : Nat) (qf : Nat) (ae : Nat) (al : Nat) (au : Nat) (ao : Nat) (ar : Nat) (ak : Nat) (aw : Nat) (att : Nat) (ass : Nat) : Met l yX8_hollow (Cond.code yX8_hollow cX8_hollow 1 (some .int) :: wsU) ({ frames := 1, cells := 0, slots := 0, locals := 24 }) (va_Pc [.ref h0] (XW D (xT cI cJ cZ cS) sa [(h0, .inr (8, [.ref qh, .ref qk, .ref qd, .int 0, .ref qa, .ref qm, .ref qs, .ref qp, .ref ql, .ref qt, .ref qz, .ref qf])), (qh, .inr (1, [.int 0, .ref ae, .ref al, .ref au, .ref ao, .ref ar, .ref ak, .ref aw, .ref att, .ref ass]))] sz)) (XQi (fun (r : Int32) (_ : Unit) => r = 0) D (fun _ : Unit => []) (va_A [(h0, .inr (8, [.ref qh, .ref qk, .ref qd, .int 0, .ref qa, .ref qm, .ref qs, .ref qp, .ref ql, .ref qt, .ref qz, .ref qf])), (qh, .inr (1, [.int 0, .ref ae, .ref al, .ref au, .ref ao, .ref ar, .ref ak, .ref aw, .ref att, .ref ass]))] sz)) 0 0 (va_A [(h0, .inr (8, [.ref qh, .ref qk, .ref qd, .int 0, .ref qa, .ref qm, .ref qs, .ref qp, .ref ql, .ref qt, .ref qz, .ref qf])), (qh, .inr (1, [.int 0, .ref ae, .ref al, .ref au, .ref ao, .ref ar, .ref ak, .ref aw, .ref att, .ref ass]))] sz) := by
  refine xhw (QA := fun A => XQi (fun (r : Int32) (_ : Unit) => r = 0) D (fun _ : Unit => []) A) (by decide) (Nat.le_of_ble_eq_true rfl) ?_
  intro p e s m below meth c ls A hF hr hlk hin hsz hP hK hD hN hA hS hl
  have hF : CallFix p m c cX8_hollow 1 s _ _ RX8 := hF
  have hx := hF.1
  have hb := hF.2.1
  have hml := hF.2.2.1
  have hown := hF.2.2.2.1
  have hu : ∀ w ∈ wsU, w.before _ s = true := fun w h => hF.2.2.2.2 w (List.mem_cons_of_mem _ h)
  have hl : lv_has ls 1 [(0, .ref h0)] := hl
  refine lv_aload_n hx hb dX8_hollow_0 rfl (lv_at hl 0 rfl) ?_
  refine xg hF kf_X8_12 hK hP 0 rfl rfl dX8_hollow_1 ?_
  refine xc_Vr hF (c_X1_hollowSet l D cI cJ cZ cS sa s.heap.size qh ae al au ao ar ak aw att ass ) kv_X8_272 ⟨rfl, rfl, Nat.le_of_ble_eq_true rfl, Nat.le_of_ble_eq_true rfl⟩ ⟨Nat.le_of_ble_eq_true rfl, Nat.le_of_ble_eq_true rfl⟩ hK hN hP hD [1] rfl rfl 0 rfl rfl rfl rfl hl.1 rfl (Nat.le_of_ble_eq_true rfl) dX8_hollow_4 (fun r_1 hw_r_1 => ?_)
  subst hw_r_1
  exact W.iret (v := 0) hx hb hr (fun t ht hW => ⟨⟨0, (), rfl, rfl, by rw [ht]; exact hP.sub [] rfl, hD.sub [] (by decide) rfl⟩, hS.F ht⟩) hS.2.2 dX8_hollow_7 hlk
set_option maxHeartbeats 4000000 in
set_option maxRecDepth 100000 in
theorem c_X8_wipe (l : Launch) (D : va_G) (cI cJ cZ cS : ClassId) (sa : Nat → Nat) (sz : Nat) (h0 : Nat) (qh : Nat) (qk : Nat) (qd : Nat) (qa : Nat) (qm : Nat) (qs : Nat) (qp : Nat) (ql : Nat) (qt : Nat) (qz : Nat) (qf : Nat) (tb : Nat) : Met l yX8_wipe (Cond.code yX8_wipe cX8_wipe 2 (some .int) :: wsU) ({ frames := 0, cells := 0, slots := 0, locals := 0 }) (va_Pc [.ref h0] (XW D (xT cI cJ cZ cS) sa [(h0, .inr (8, [.ref qh, .ref qk, .ref qd, .int 0, .ref qa, .ref qm, .ref qs, .ref qp, .ref ql, .ref qt, .ref qz, .ref qf])), (qt, .inr (7, [.int 0, .ref tb, .int 0, .int 0, .int 0, .int 0, .int 0]))] sz)) (XQi (fun (r : Int32) (_ : Unit) => r = 0) D (fun _ : Unit => []) (va_A [(h0, .inr (8, [.ref qh, .ref qk, .ref qd, .int 0, .ref qa, .ref qm, .ref qs, .ref qp, .ref ql, .ref qt, .ref qz, .ref qf])), (qt, .inr (7, [.int 0, .ref tb, .int 0, .int 0, .int 0, .int 0, .int 0]))] sz)) 0 0 (va_A [(h0, .inr (8, [.ref qh, .ref qk, .ref qd, .int 0, .ref qa, .ref qm, .ref qs, .ref qp, .ref ql, .ref qt, .ref qz, .ref qf])), (qt, .inr (7, [.int 0, .ref tb, .int 0, .int 0, .int 0, .int 0, .int 0]))] sz) := by
  refine xhw (QA := fun A => XQi (fun (r : Int32) (_ : Unit) => r = 0) D (fun _ : Unit => []) A) (by decide) (Nat.le_of_ble_eq_true rfl) ?_
  intro p e s m below meth c ls A hF hr hlk hin hsz hP hK hD hN hA hS hl
  have hF : CallFix p m c cX8_wipe 2 s _ _ RX8 := hF
  have hx := hF.1
  have hb := hF.2.1
  have hml := hF.2.2.1
  have hown := hF.2.2.2.1
  have hu : ∀ w ∈ wsU, w.before _ s = true := fun w h => hF.2.2.2.2 w (List.mem_cons_of_mem _ h)
  have hl : lv_has ls 2 [(0, .ref h0)] := hl
  refine lv_aload_n hx hb dX8_wipe_0 rfl (lv_at hl 0 rfl) ?_
  refine xg hF kf_X8_60 hK hP 0 rfl rfl dX8_wipe_1 ?_
  refine xg hF kf_X8_275 hK hP 1 rfl rfl dX8_wipe_4 ?_
  refine lv_istore_n (lv' := [(1, .int 0), (0, .ref h0)]) hx hb dX8_wipe_7 rfl hl (by decide) rfl (fun ls hl => ?_)
  refine lv_aload_n hx hb dX8_wipe_8 rfl (lv_at hl 1 rfl) ?_
  refine xg hF kf_X8_60 hK hP 0 rfl rfl dX8_wipe_9 ?_
  refine lv_iconst (v := 0) hx hb dX8_wipe_12 (by decide) ?_
  refine xp hF kf_X8_275 tyX7_ok nmX7 hK hP hD hS 1 rfl rfl rfl rfl (Nat.le_of_ble_eq_true rfl) dX8_wipe_13 (fun H locs hP hD hS => ?_)
  have hP : va_P D vwCl [(h0, .inr (8, [.ref qh, .ref qk, .ref qd, .int 0, .ref qa, .ref qm, .ref qs, .ref qp, .ref ql, .ref qt, .ref qz, .ref qf])), (qt, .inr (7, [.int 0, .ref tb, .int 0, .int 0, .int 0, .int 0, .int 0]))] H := hP
  have hD : va_D A [(h0, .inr (8, [.ref qh, .ref qk, .ref qd, .int 0, .ref qa, .ref qm, .ref qs, .ref qp, .ref ql, .ref qt, .ref qz, .ref qf])), (qt, .inr (7, [.int 0, .ref tb, .int 0, .int 0, .int 0, .int 0, .int 0]))] := hD
  refine lv_iload_n hx hb dX8_wipe_16 rfl (lv_at hl 0 rfl) ?_
  exact W.iret (v := 0) hx hb hr (fun t ht hW => ⟨⟨0, (), rfl, rfl, by rw [ht]; exact hP.sub [] rfl, hD.sub [] (by decide) rfl⟩, hS.F ht⟩) hS.2.2 dX8_wipe_17 hlk
set_option maxHeartbeats 4000000 in
set_option maxRecDepth 100000 in
theorem c_X8_land (l : Launch) (D : va_G) (cI cJ cZ cS : ClassId) (sa : Nat → Nat) (sz : Nat) (h0 : Nat) (qh : Nat) (qk : Nat) (qd : Nat) (qa : Nat) (qm : Nat) (qs : Nat) (qp : Nat) (ql : Nat) (qt : Nat) (qz : Nat) (qf : Nat) (ae : Nat) (al : Nat) (au : Nat) (ao : Nat) (ar : Nat) (ak : Nat) (aw : Nat) (att : Nat) (ass : Nat) (aRn : Nat) (aRp : Nat) (aWn : Nat) (aWp : Nat) (be : Nat) (bl : Nat) (bu : Nat) (bo : Nat) (br : Nat) (bk : Nat) (bw : Nat) (btt : Nat) (bss : Nat) (bRn : Nat) (bRp : Nat) (bWn : Nat) (bWp : Nat) (tb : Nat) : Met l yX8_land (Cond.code yX8_land cX8_land 2 (some .int) :: wsU) ({ frames := 3, cells := 0, slots := 0, locals := 102 }) (va_Pc [.ref h0] (XW D (xT cI cJ cZ cS) sa [(h0, .inr (8, [.ref qh, .ref qk, .ref qd, .int 0, .ref qa, .ref qm, .ref qs, .ref qp, .ref ql, .ref qt, .ref qz, .ref qf])), (qh, .inr (1, [.int 0, .ref ae, .ref al, .ref au, .ref ao, .ref ar, .ref ak, .ref aw, .ref att, .ref ass])), (ae, .inl (cI, 10, .inl (fun _ => 0))), (al, .inl (cI, 100, .inl (fun _ => 0))), (au, .inl (cI, 100, .inl (fun _ => 0))), (ao, .inl (cI, 100, .inl (fun _ => 0))), (ar, .inr (3, [.int 0, .ref aRn, .ref aRp])), (aRn, .inl (cI, 8, .inl (fun _ => 0))), (aRp, .inl (cI, 48, .inl (fun _ => 0))), (ak, .inl (cI, 8, .inl (fun _ => 0))), (aw, .inr (3, [.int 0, .ref aWn, .ref aWp])), (aWn, .inl (cI, 8, .inl (fun _ => 0))), (aWp, .inl (cI, 48, .inl (fun _ => 0))), (att, .inl (cI, 8, .inl (fun _ => 0))), (ass, .inl (cI, 8, .inl (fun _ => 0))), (qd, .inr (1, [.int 0, .ref be, .ref bl, .ref bu, .ref bo, .ref br, .ref bk, .ref bw, .ref btt, .ref bss])), (be, .inl (cI, 10, .inl (fun _ => 0))), (bl, .inl (cI, 100, .inl (fun _ => 0))), (bu, .inl (cI, 100, .inl (fun _ => 0))), (bo, .inl (cI, 100, .inl (fun _ => 0))), (br, .inr (3, [.int 0, .ref bRn, .ref bRp])), (bRn, .inl (cI, 8, .inl (fun _ => 0))), (bRp, .inl (cI, 48, .inl (fun _ => 0))), (bk, .inl (cI, 8, .inl (fun _ => 0))), (bw, .inr (3, [.int 0, .ref bWn, .ref bWp])), (bWn, .inl (cI, 8, .inl (fun _ => 0))), (bWp, .inl (cI, 48, .inl (fun _ => 0))), (btt, .inl (cI, 8, .inl (fun _ => 0))), (bss, .inl (cI, 8, .inl (fun _ => 0))), (qt, .inr (7, [.int 0, .ref tb, .int 0, .int 0, .int 0, .int 0, .int 0]))] sz)) (XQi (fun (r : Int32) (_ : Unit) => r = (-1)) D (fun _ : Unit => []) (va_A [(h0, .inr (8, [.ref qh, .ref qk, .ref qd, .int 0, .ref qa, .ref qm, .ref qs, .ref qp, .ref ql, .ref qt, .ref qz, .ref qf])), (qh, .inr (1, [.int 0, .ref ae, .ref al, .ref au, .ref ao, .ref ar, .ref ak, .ref aw, .ref att, .ref ass])), (ae, .inl (cI, 10, .inl (fun _ => 0))), (al, .inl (cI, 100, .inl (fun _ => 0))), (au, .inl (cI, 100, .inl (fun _ => 0))), (ao, .inl (cI, 100, .inl (fun _ => 0))), (ar, .inr (3, [.int 0, .ref aRn, .ref aRp])), (aRn, .inl (cI, 8, .inl (fun _ => 0))), (aRp, .inl (cI, 48, .inl (fun _ => 0))), (ak, .inl (cI, 8, .inl (fun _ => 0))), (aw, .inr (3, [.int 0, .ref aWn, .ref aWp])), (aWn, .inl (cI, 8, .inl (fun _ => 0))), (aWp, .inl (cI, 48, .inl (fun _ => 0))), (att, .inl (cI, 8, .inl (fun _ => 0))), (ass, .inl (cI, 8, .inl (fun _ => 0))), (qd, .inr (1, [.int 0, .ref be, .ref bl, .ref bu, .ref bo, .ref br, .ref bk, .ref bw, .ref btt, .ref bss])), (be, .inl (cI, 10, .inl (fun _ => 0))), (bl, .inl (cI, 100, .inl (fun _ => 0))), (bu, .inl (cI, 100, .inl (fun _ => 0))), (bo, .inl (cI, 100, .inl (fun _ => 0))), (br, .inr (3, [.int 0, .ref bRn, .ref bRp])), (bRn, .inl (cI, 8, .inl (fun _ => 0))), (bRp, .inl (cI, 48, .inl (fun _ => 0))), (bk, .inl (cI, 8, .inl (fun _ => 0))), (bw, .inr (3, [.int 0, .ref bWn, .ref bWp])), (bWn, .inl (cI, 8, .inl (fun _ => 0))), (bWp, .inl (cI, 48, .inl (fun _ => 0))), (btt, .inl (cI, 8, .inl (fun _ => 0))), (bss, .inl (cI, 8, .inl (fun _ => 0))), (qt, .inr (7, [.int 0, .ref tb, .int 0, .int 0, .int 0, .int 0, .int 0]))] sz)) 0 0 (va_A [(h0, .inr (8, [.ref qh, .ref qk, .ref qd, .int 0, .ref qa, .ref qm, .ref qs, .ref qp, .ref ql, .ref qt, .ref qz, .ref qf])), (qh, .inr (1, [.int 0, .ref ae, .ref al, .ref au, .ref ao, .ref ar, .ref ak, .ref aw, .ref att, .ref ass])), (ae, .inl (cI, 10, .inl (fun _ => 0))), (al, .inl (cI, 100, .inl (fun _ => 0))), (au, .inl (cI, 100, .inl (fun _ => 0))), (ao, .inl (cI, 100, .inl (fun _ => 0))), (ar, .inr (3, [.int 0, .ref aRn, .ref aRp])), (aRn, .inl (cI, 8, .inl (fun _ => 0))), (aRp, .inl (cI, 48, .inl (fun _ => 0))), (ak, .inl (cI, 8, .inl (fun _ => 0))), (aw, .inr (3, [.int 0, .ref aWn, .ref aWp])), (aWn, .inl (cI, 8, .inl (fun _ => 0))), (aWp, .inl (cI, 48, .inl (fun _ => 0))), (att, .inl (cI, 8, .inl (fun _ => 0))), (ass, .inl (cI, 8, .inl (fun _ => 0))), (qd, .inr (1, [.int 0, .ref be, .ref bl, .ref bu, .ref bo, .ref br, .ref bk, .ref bw, .ref btt, .ref bss])), (be, .inl (cI, 10, .inl (fun _ => 0))), (bl, .inl (cI, 100, .inl (fun _ => 0))), (bu, .inl (cI, 100, .inl (fun _ => 0))), (bo, .inl (cI, 100, .inl (fun _ => 0))), (br, .inr (3, [.int 0, .ref bRn, .ref bRp])), (bRn, .inl (cI, 8, .inl (fun _ => 0))), (bRp, .inl (cI, 48, .inl (fun _ => 0))), (bk, .inl (cI, 8, .inl (fun _ => 0))), (bw, .inr (3, [.int 0, .ref bWn, .ref bWp])), (bWn, .inl (cI, 8, .inl (fun _ => 0))), (bWp, .inl (cI, 48, .inl (fun _ => 0))), (btt, .inl (cI, 8, .inl (fun _ => 0))), (bss, .inl (cI, 8, .inl (fun _ => 0))), (qt, .inr (7, [.int 0, .ref tb, .int 0, .int 0, .int 0, .int 0, .int 0]))] sz) := by
  refine xhw (QA := fun A => XQi (fun (r : Int32) (_ : Unit) => r = (-1)) D (fun _ : Unit => []) A) (by decide) (Nat.le_of_ble_eq_true rfl) ?_
  intro p e s m below meth c ls A hF hr hlk hin hsz hP hK hD hN hA hS hl
  have hF : CallFix p m c cX8_land 2 s _ _ RX8 := hF
  have hx := hF.1
  have hb := hF.2.1
  have hml := hF.2.2.1
  have hown := hF.2.2.2.1
  have hu : ∀ w ∈ wsU, w.before _ s = true := fun w h => hF.2.2.2.2 w (List.mem_cons_of_mem _ h)
  have hl : lv_has ls 2 [(0, .ref h0)] := hl
  refine lv_aload_n hx hb dX8_land_0 rfl (lv_at hl 0 rfl) ?_
  refine xg hF kf_X8_19 hK hP 0 rfl rfl dX8_land_1 ?_
  refine lv_aload_n hx hb dX8_land_4 rfl (lv_at hl 0 rfl) ?_
  refine xg hF kf_X8_12 hK hP 0 rfl rfl dX8_land_5 ?_
  refine xc_Vv (wr := [(h0, .inr (8, [.ref qh, .ref qk, .ref qd, .int 0, .ref qa, .ref qm, .ref qs, .ref qp, .ref ql, .ref qt, .ref qz, .ref qf])), (qt, .inr (7, [.int 0, .ref tb, .int 0, .int 0, .int 0, .int 0, .int 0]))]) hF (c_X1_become l D cI cJ cZ cS sa s.heap.size qd be bl bu bo br bk bw btt bss bRn bRp bWn bWp qh ae al au ao ar ak aw att ass aRn aRp aWn aWp ) kv_X8_241 ⟨rfl, rfl, Nat.le_of_ble_eq_true rfl, Nat.le_of_ble_eq_true rfl⟩ ⟨Nat.le_of_ble_eq_true rfl, Nat.le_of_ble_eq_true rfl⟩ hK hN hP hD hS hA [15, 16, 17, 18, 19, 20, 21, 22, 23, 24, 25, 26, 27, 28, 1, 2, 3, 4, 5, 6, 7, 8, 9, 10, 11, 12, 13, 14] [0, 29] rfl rfl rfl rfl (by decide) 0 rfl rfl rfl rfl hl.1 rfl (Nat.le_of_ble_eq_true rfl) dX8_land_8 (fun u_r_1 H locs hw_r_1 hP hD hS => ?_)
  have hP : va_P D vwCl [(h0, .inr (8, [.ref qh, .ref qk, .ref qd, .int 0, .ref qa, .ref qm, .ref qs, .ref qp, .ref ql, .ref qt, .ref qz, .ref qf])), (qt, .inr (7, [.int 0, .ref tb, .int 0, .int 0, .int 0, .int 0, .int 0])), (qd, .inr (1, [.int 0, .ref be, .ref bl, .ref bu, .ref bo, .ref br, .ref bk, .ref bw, .ref btt, .ref bss])), (be, .inl (cI, 10, .inl (fun _ => 0))), (bl, .inl (cI, 100, .inl (fun _ => 0))), (bu, .inl (cI, 100, .inl (fun _ => 0))), (bo, .inl (cI, 100, .inl (fun _ => 0))), (bk, .inl (cI, 8, .inl (fun _ => 0))), (btt, .inl (cI, 8, .inl (fun _ => 0))), (bss, .inl (cI, 8, .inl (fun _ => 0))), (qh, .inr (1, [.int 0, .ref ae, .ref al, .ref au, .ref ao, .ref ar, .ref ak, .ref aw, .ref att, .ref ass])), (ae, .inl (cI, 10, .inl (fun _ => 0))), (al, .inl (cI, 100, .inl (fun _ => 0))), (au, .inl (cI, 100, .inl (fun _ => 0))), (ao, .inl (cI, 100, .inl (fun _ => 0))), (ak, .inl (cI, 8, .inl (fun _ => 0))), (att, .inl (cI, 8, .inl (fun _ => 0))), (ass, .inl (cI, 8, .inl (fun _ => 0))), (br, .inr (3, [.int 0, .ref bRn, .ref bRp])), (bRn, .inl (cI, 8, .inl (fun _ => 0))), (bRp, .inl (cI, 48, .inl (fun _ => 0))), (ar, .inr (3, [.int 0, .ref aRn, .ref aRp])), (aRn, .inl (cI, 8, .inl (fun _ => 0))), (aRp, .inl (cI, 48, .inl (fun _ => 0))), (bw, .inr (3, [.int 0, .ref bWn, .ref bWp])), (bWn, .inl (cI, 8, .inl (fun _ => 0))), (bWp, .inl (cI, 48, .inl (fun _ => 0))), (aw, .inr (3, [.int 0, .ref aWn, .ref aWp])), (aWn, .inl (cI, 8, .inl (fun _ => 0))), (aWp, .inl (cI, 48, .inl (fun _ => 0)))] H := hP
  have hD : va_D A [(h0, .inr (8, [.ref qh, .ref qk, .ref qd, .int 0, .ref qa, .ref qm, .ref qs, .ref qp, .ref ql, .ref qt, .ref qz, .ref qf])), (qt, .inr (7, [.int 0, .ref tb, .int 0, .int 0, .int 0, .int 0, .int 0])), (qd, .inr (1, [.int 0, .ref be, .ref bl, .ref bu, .ref bo, .ref br, .ref bk, .ref bw, .ref btt, .ref bss])), (be, .inl (cI, 10, .inl (fun _ => 0))), (bl, .inl (cI, 100, .inl (fun _ => 0))), (bu, .inl (cI, 100, .inl (fun _ => 0))), (bo, .inl (cI, 100, .inl (fun _ => 0))), (bk, .inl (cI, 8, .inl (fun _ => 0))), (btt, .inl (cI, 8, .inl (fun _ => 0))), (bss, .inl (cI, 8, .inl (fun _ => 0))), (qh, .inr (1, [.int 0, .ref ae, .ref al, .ref au, .ref ao, .ref ar, .ref ak, .ref aw, .ref att, .ref ass])), (ae, .inl (cI, 10, .inl (fun _ => 0))), (al, .inl (cI, 100, .inl (fun _ => 0))), (au, .inl (cI, 100, .inl (fun _ => 0))), (ao, .inl (cI, 100, .inl (fun _ => 0))), (ak, .inl (cI, 8, .inl (fun _ => 0))), (att, .inl (cI, 8, .inl (fun _ => 0))), (ass, .inl (cI, 8, .inl (fun _ => 0))), (br, .inr (3, [.int 0, .ref bRn, .ref bRp])), (bRn, .inl (cI, 8, .inl (fun _ => 0))), (bRp, .inl (cI, 48, .inl (fun _ => 0))), (ar, .inr (3, [.int 0, .ref aRn, .ref aRp])), (aRn, .inl (cI, 8, .inl (fun _ => 0))), (aRp, .inl (cI, 48, .inl (fun _ => 0))), (bw, .inr (3, [.int 0, .ref bWn, .ref bWp])), (bWn, .inl (cI, 8, .inl (fun _ => 0))), (bWp, .inl (cI, 48, .inl (fun _ => 0))), (aw, .inr (3, [.int 0, .ref aWn, .ref aWp])), (aWn, .inl (cI, 8, .inl (fun _ => 0))), (aWp, .inl (cI, 48, .inl (fun _ => 0)))] := hD
  refine lv_aload_n hx hb dX8_land_11 rfl (lv_at hl 0 rfl) ?_
  refine xg hF kf_X8_60 hK hP 0 rfl rfl dX8_land_12 ?_
  refine lv_aload_n hx hb dX8_land_15 rfl (lv_at hl 0 rfl) ?_
  refine xg hF kf_X8_19 hK hP 0 rfl rfl dX8_land_16 ?_
  refine xc_Vi (wr := [(h0, .inr (8, [.ref qh, .ref qk, .ref qd, .int 0, .ref qa, .ref qm, .ref qs, .ref qp, .ref ql, .ref qt, .ref qz, .ref qf])), (qd, .inr (1, [.int 0, .ref be, .ref bl, .ref bu, .ref bo, .ref br, .ref bk, .ref bw, .ref btt, .ref bss])), (be, .inl (cI, 10, .inl (fun _ => 0))), (bl, .inl (cI, 100, .inl (fun _ => 0))), (bu, .inl (cI, 100, .inl (fun _ => 0))), (bo, .inl (cI, 100, .inl (fun _ => 0))), (bk, .inl (cI, 8, .inl (fun _ => 0))), (btt, .inl (cI, 8, .inl (fun _ => 0))), (bss, .inl (cI, 8, .inl (fun _ => 0))), (qh, .inr (1, [.int 0, .ref ae, .ref al, .ref au, .ref ao, .ref ar, .ref ak, .ref aw, .ref att, .ref ass])), (ae, .inl (cI, 10, .inl (fun _ => 0))), (al, .inl (cI, 100, .inl (fun _ => 0))), (au, .inl (cI, 100, .inl (fun _ => 0))), (ao, .inl (cI, 100, .inl (fun _ => 0))), (ak, .inl (cI, 8, .inl (fun _ => 0))), (att, .inl (cI, 8, .inl (fun _ => 0))), (ass, .inl (cI, 8, .inl (fun _ => 0))), (br, .inr (3, [.int 0, .ref bRn, .ref bRp])), (bRn, .inl (cI, 8, .inl (fun _ => 0))), (bRp, .inl (cI, 48, .inl (fun _ => 0))), (ar, .inr (3, [.int 0, .ref aRn, .ref aRp])), (aRn, .inl (cI, 8, .inl (fun _ => 0))), (aRp, .inl (cI, 48, .inl (fun _ => 0))), (bw, .inr (3, [.int 0, .ref bWn, .ref bWp])), (bWn, .inl (cI, 8, .inl (fun _ => 0))), (bWp, .inl (cI, 48, .inl (fun _ => 0))), (aw, .inr (3, [.int 0, .ref aWn, .ref aWp])), (aWn, .inl (cI, 8, .inl (fun _ => 0))), (aWp, .inl (cI, 48, .inl (fun _ => 0)))]) hF (c_X7_tellTo l D cI cJ cZ cS sa H.size qt tb qd ) kv_X8_282 ⟨rfl, rfl, Nat.le_of_ble_eq_true rfl, Nat.le_of_ble_eq_true rfl⟩ ⟨Nat.le_of_ble_eq_true rfl, Nat.le_of_ble_eq_true rfl⟩ hK hN hP hD hS hA [1] [0, 2, 3, 4, 5, 6, 7, 8, 9, 10, 11, 12, 13, 14, 15, 16, 17, 18, 19, 20, 21, 22, 23, 24, 25, 26, 27, 28, 29] rfl rfl rfl rfl (by decide) 0 rfl rfl rfl rfl hl.1 rfl (Nat.le_of_ble_eq_true rfl) dX8_land_19 (fun r_2 u_r_2 H locs hw_r_2 hP hD hS => ?_)
  have hP : va_P D vwCl [(h0, .inr (8, [.ref qh, .ref qk, .ref qd, .int 0, .ref qa, .ref qm, .ref qs, .ref qp, .ref ql, .ref qt, .ref qz, .ref qf])), (qd, .inr (1, [.int 0, .ref be, .ref bl, .ref bu, .ref bo, .ref br, .ref bk, .ref bw, .ref btt, .ref bss])), (be, .inl (cI, 10, .inl (fun _ => 0))), (bl, .inl (cI, 100, .inl (fun _ => 0))), (bu, .inl (cI, 100, .inl (fun _ => 0))), (bo, .inl (cI, 100, .inl (fun _ => 0))), (bk, .inl (cI, 8, .inl (fun _ => 0))), (btt, .inl (cI, 8, .inl (fun _ => 0))), (bss, .inl (cI, 8, .inl (fun _ => 0))), (qh, .inr (1, [.int 0, .ref ae, .ref al, .ref au, .ref ao, .ref ar, .ref ak, .ref aw, .ref att, .ref ass])), (ae, .inl (cI, 10, .inl (fun _ => 0))), (al, .inl (cI, 100, .inl (fun _ => 0))), (au, .inl (cI, 100, .inl (fun _ => 0))), (ao, .inl (cI, 100, .inl (fun _ => 0))), (ak, .inl (cI, 8, .inl (fun _ => 0))), (att, .inl (cI, 8, .inl (fun _ => 0))), (ass, .inl (cI, 8, .inl (fun _ => 0))), (br, .inr (3, [.int 0, .ref bRn, .ref bRp])), (bRn, .inl (cI, 8, .inl (fun _ => 0))), (bRp, .inl (cI, 48, .inl (fun _ => 0))), (ar, .inr (3, [.int 0, .ref aRn, .ref aRp])), (aRn, .inl (cI, 8, .inl (fun _ => 0))), (aRp, .inl (cI, 48, .inl (fun _ => 0))), (bw, .inr (3, [.int 0, .ref bWn, .ref bWp])), (bWn, .inl (cI, 8, .inl (fun _ => 0))), (bWp, .inl (cI, 48, .inl (fun _ => 0))), (aw, .inr (3, [.int 0, .ref aWn, .ref aWp])), (aWn, .inl (cI, 8, .inl (fun _ => 0))), (aWp, .inl (cI, 48, .inl (fun _ => 0))), (qt, .inr (7, [.int 0, .ref tb, .int 0, .int 0, .int 0, .int 0, .int 0]))] H := hP
  have hD : va_D A [(h0, .inr (8, [.ref qh, .ref qk, .ref qd, .int 0, .ref qa, .ref qm, .ref qs, .ref qp, .ref ql, .ref qt, .ref qz, .ref qf])), (qd, .inr (1, [.int 0, .ref be, .ref bl, .ref bu, .ref bo, .ref br, .ref bk, .ref bw, .ref btt, .ref bss])), (be, .inl (cI, 10, .inl (fun _ => 0))), (bl, .inl (cI, 100, .inl (fun _ => 0))), (bu, .inl (cI, 100, .inl (fun _ => 0))), (bo, .inl (cI, 100, .inl (fun _ => 0))), (bk, .inl (cI, 8, .inl (fun _ => 0))), (btt, .inl (cI, 8, .inl (fun _ => 0))), (bss, .inl (cI, 8, .inl (fun _ => 0))), (qh, .inr (1, [.int 0, .ref ae, .ref al, .ref au, .ref ao, .ref ar, .ref ak, .ref aw, .ref att, .ref ass])), (ae, .inl (cI, 10, .inl (fun _ => 0))), (al, .inl (cI, 100, .inl (fun _ => 0))), (au, .inl (cI, 100, .inl (fun _ => 0))), (ao, .inl (cI, 100, .inl (fun _ => 0))), (ak, .inl (cI, 8, .inl (fun _ => 0))), (att, .inl (cI, 8, .inl (fun _ => 0))), (ass, .inl (cI, 8, .inl (fun _ => 0))), (br, .inr (3, [.int 0, .ref bRn, .ref bRp])), (bRn, .inl (cI, 8, .inl (fun _ => 0))), (bRp, .inl (cI, 48, .inl (fun _ => 0))), (ar, .inr (3, [.int 0, .ref aRn, .ref aRp])), (aRn, .inl (cI, 8, .inl (fun _ => 0))), (aRp, .inl (cI, 48, .inl (fun _ => 0))), (bw, .inr (3, [.int 0, .ref bWn, .ref bWp])), (bWn, .inl (cI, 8, .inl (fun _ => 0))), (bWp, .inl (cI, 48, .inl (fun _ => 0))), (aw, .inr (3, [.int 0, .ref aWn, .ref aWp])), (aWn, .inl (cI, 8, .inl (fun _ => 0))), (aWp, .inl (cI, 48, .inl (fun _ => 0))), (qt, .inr (7, [.int 0, .ref tb, .int 0, .int 0, .int 0, .int 0, .int 0]))] := hD
  subst hw_r_2
  refine lv_istore_n (lv' := [(1, .int (-1)), (0, .ref h0)]) hx hb dX8_land_22 rfl hl (by decide) rfl (fun ls hl => ?_)
  refine lv_iload_n hx hb dX8_land_23 rfl (lv_at hl 0 rfl) ?_
  refine lv_if_lt (tgt := 38) hx hb dX8_land_24 (by decide) (fun c_3 => ?_) (fun c_3 => absurd (by decide) c_3)
  refine lv_aload_n hx hb dX8_land_38 rfl (lv_at hl 1 rfl) ?_
  refine xg hF kf_X8_60 hK hP 0 rfl rfl dX8_land_39 ?_
  refine lv_iconst (v := 0) hx hb dX8_land_42 (by decide) ?_
  refine xp hF kf_X8_275 tyX7_ok nmX7 hK hP hD hS 29 rfl rfl rfl rfl (Nat.le_of_ble_eq_true rfl) dX8_land_43 (fun H locs hP hD hS => ?_)
  have hP : va_P D vwCl [(h0, .inr (8, [.ref qh, .ref qk, .ref qd, .int 0, .ref qa, .ref qm, .ref qs, .ref qp, .ref ql, .ref qt, .ref qz, .ref qf])), (qd, .inr (1, [.int 0, .ref be, .ref bl, .ref bu, .ref bo, .ref br, .ref bk, .ref bw, .ref btt, .ref bss])), (be, .inl (cI, 10, .inl (fun _ => 0))), (bl, .inl (cI, 100, .inl (fun _ => 0))), (bu, .inl (cI, 100, .inl (fun _ => 0))), (bo, .inl (cI, 100, .inl (fun _ => 0))), (bk, .inl (cI, 8, .inl (fun _ => 0))), (btt, .inl (cI, 8, .inl (fun _ => 0))), (bss, .inl (cI, 8, .inl (fun _ => 0))), (qh, .inr (1, [.int 0, .ref ae, .ref al, .ref au, .ref ao, .ref ar, .ref ak, .ref aw, .ref att, .ref ass])), (ae, .inl (cI, 10, .inl (fun _ => 0))), (al, .inl (cI, 100, .inl (fun _ => 0))), (au, .inl (cI, 100, .inl (fun _ => 0))), (ao, .inl (cI, 100, .inl (fun _ => 0))), (ak, .inl (cI, 8, .inl (fun _ => 0))), (att, .inl (cI, 8, .inl (fun _ => 0))), (ass, .inl (cI, 8, .inl (fun _ => 0))), (br, .inr (3, [.int 0, .ref bRn, .ref bRp])), (bRn, .inl (cI, 8, .inl (fun _ => 0))), (bRp, .inl (cI, 48, .inl (fun _ => 0))), (ar, .inr (3, [.int 0, .ref aRn, .ref aRp])), (aRn, .inl (cI, 8, .inl (fun _ => 0))), (aRp, .inl (cI, 48, .inl (fun _ => 0))), (bw, .inr (3, [.int 0, .ref bWn, .ref bWp])), (bWn, .inl (cI, 8, .inl (fun _ => 0))), (bWp, .inl (cI, 48, .inl (fun _ => 0))), (aw, .inr (3, [.int 0, .ref aWn, .ref aWp])), (aWn, .inl (cI, 8, .inl (fun _ => 0))), (aWp, .inl (cI, 48, .inl (fun _ => 0))), (qt, .inr (7, [.int 0, .ref tb, .int 0, .int 0, .int 0, .int 0, .int 0]))] H := hP
  have hD : va_D A [(h0, .inr (8, [.ref qh, .ref qk, .ref qd, .int 0, .ref qa, .ref qm, .ref qs, .ref qp, .ref ql, .ref qt, .ref qz, .ref qf])), (qd, .inr (1, [.int 0, .ref be, .ref bl, .ref bu, .ref bo, .ref br, .ref bk, .ref bw, .ref btt, .ref bss])), (be, .inl (cI, 10, .inl (fun _ => 0))), (bl, .inl (cI, 100, .inl (fun _ => 0))), (bu, .inl (cI, 100, .inl (fun _ => 0))), (bo, .inl (cI, 100, .inl (fun _ => 0))), (bk, .inl (cI, 8, .inl (fun _ => 0))), (btt, .inl (cI, 8, .inl (fun _ => 0))), (bss, .inl (cI, 8, .inl (fun _ => 0))), (qh, .inr (1, [.int 0, .ref ae, .ref al, .ref au, .ref ao, .ref ar, .ref ak, .ref aw, .ref att, .ref ass])), (ae, .inl (cI, 10, .inl (fun _ => 0))), (al, .inl (cI, 100, .inl (fun _ => 0))), (au, .inl (cI, 100, .inl (fun _ => 0))), (ao, .inl (cI, 100, .inl (fun _ => 0))), (ak, .inl (cI, 8, .inl (fun _ => 0))), (att, .inl (cI, 8, .inl (fun _ => 0))), (ass, .inl (cI, 8, .inl (fun _ => 0))), (br, .inr (3, [.int 0, .ref bRn, .ref bRp])), (bRn, .inl (cI, 8, .inl (fun _ => 0))), (bRp, .inl (cI, 48, .inl (fun _ => 0))), (ar, .inr (3, [.int 0, .ref aRn, .ref aRp])), (aRn, .inl (cI, 8, .inl (fun _ => 0))), (aRp, .inl (cI, 48, .inl (fun _ => 0))), (bw, .inr (3, [.int 0, .ref bWn, .ref bWp])), (bWn, .inl (cI, 8, .inl (fun _ => 0))), (bWp, .inl (cI, 48, .inl (fun _ => 0))), (aw, .inr (3, [.int 0, .ref aWn, .ref aWp])), (aWn, .inl (cI, 8, .inl (fun _ => 0))), (aWp, .inl (cI, 48, .inl (fun _ => 0))), (qt, .inr (7, [.int 0, .ref tb, .int 0, .int 0, .int 0, .int 0, .int 0]))] := hD
  refine lv_iload_n hx hb dX8_land_46 rfl (lv_at hl 0 rfl) ?_
  exact W.iret (v := (-1)) hx hb hr (fun t ht hW => ⟨⟨(-1), (), rfl, rfl, by rw [ht]; exact hP.sub [] rfl, hD.sub [] (by decide) rfl⟩, hS.F ht⟩) hS.2.2 dX8_land_47 hlk
set_option maxHeartbeats 4000000 in
set_option maxRecDepth 100000 in
theorem c_X8_image (l : Launch) (D : va_G) (cI cJ cZ cS : ClassId) (sa : Nat → Nat) (sz : Nat) (h0 : Nat) (qh : Nat) (qk : Nat) (qd : Nat) (qa : Nat) (qm : Nat) (qs : Nat) (qp : Nat) (ql : Nat) (qt : Nat) (qz : Nat) (qf : Nat) (ae : Nat) (al : Nat) (au : Nat) (ao : Nat) (ar : Nat) (ak : Nat) (aw : Nat) (att : Nat) (ass : Nat) (aRn : Nat) (aRp : Nat) (aWn : Nat) (aWp : Nat) (be : Nat) (bl : Nat) (bu : Nat) (bo : Nat) (br : Nat) (bk : Nat) (bw : Nat) (btt : Nat) (bss : Nat) (bRn : Nat) (bRp : Nat) (bWn : Nat) (bWp : Nat) : Met l yX8_image (Cond.code yX8_image cX8_image 1 (some .int) :: wsU) ({ frames := 3, cells := 0, slots := 0, locals := 102 }) (va_Pc [.ref h0] (XW D (xT cI cJ cZ cS) sa [(h0, .inr (8, [.ref qh, .ref qk, .ref qd, .int 0, .ref qa, .ref qm, .ref qs, .ref qp, .ref ql, .ref qt, .ref qz, .ref qf])), (qh, .inr (1, [.int 0, .ref ae, .ref al, .ref au, .ref ao, .ref ar, .ref ak, .ref aw, .ref att, .ref ass])), (ae, .inl (cI, 10, .inl (fun _ => 0))), (al, .inl (cI, 100, .inl (fun _ => 0))), (au, .inl (cI, 100, .inl (fun _ => 0))), (ao, .inl (cI, 100, .inl (fun _ => 0))), (ar, .inr (3, [.int 0, .ref aRn, .ref aRp])), (aRn, .inl (cI, 8, .inl (fun _ => 0))), (aRp, .inl (cI, 48, .inl (fun _ => 0))), (ak, .inl (cI, 8, .inl (fun _ => 0))), (aw, .inr (3, [.int 0, .ref aWn, .ref aWp])), (aWn, .inl (cI, 8, .inl (fun _ => 0))), (aWp, .inl (cI, 48, .inl (fun _ => 0))), (att, .inl (cI, 8, .inl (fun _ => 0))), (ass, .inl (cI, 8, .inl (fun _ => 0))), (qk, .inr (1, [.int 0, .ref be, .ref bl, .ref bu, .ref bo, .ref br, .ref bk, .ref bw, .ref btt, .ref bss])), (be, .inl (cI, 10, .inl (fun _ => 0))), (bl, .inl (cI, 100, .inl (fun _ => 0))), (bu, .inl (cI, 100, .inl (fun _ => 0))), (bo, .inl (cI, 100, .inl (fun _ => 0))), (br, .inr (3, [.int 0, .ref bRn, .ref bRp])), (bRn, .inl (cI, 8, .inl (fun _ => 0))), (bRp, .inl (cI, 48, .inl (fun _ => 0))), (bk, .inl (cI, 8, .inl (fun _ => 0))), (bw, .inr (3, [.int 0, .ref bWn, .ref bWp])), (bWn, .inl (cI, 8, .inl (fun _ => 0))), (bWp, .inl (cI, 48, .inl (fun _ => 0))), (btt, .inl (cI, 8, .inl (fun _ => 0))), (bss, .inl (cI, 8, .inl (fun _ => 0)))] sz)) (XQi (fun (r : Int32) (_ : Unit) => r = 1) D (fun _ : Unit => []) (va_A [(h0, .inr (8, [.ref qh, .ref qk, .ref qd, .int 0, .ref qa, .ref qm, .ref qs, .ref qp, .ref ql, .ref qt, .ref qz, .ref qf])), (qh, .inr (1, [.int 0, .ref ae, .ref al, .ref au, .ref ao, .ref ar, .ref ak, .ref aw, .ref att, .ref ass])), (ae, .inl (cI, 10, .inl (fun _ => 0))), (al, .inl (cI, 100, .inl (fun _ => 0))), (au, .inl (cI, 100, .inl (fun _ => 0))), (ao, .inl (cI, 100, .inl (fun _ => 0))), (ar, .inr (3, [.int 0, .ref aRn, .ref aRp])), (aRn, .inl (cI, 8, .inl (fun _ => 0))), (aRp, .inl (cI, 48, .inl (fun _ => 0))), (ak, .inl (cI, 8, .inl (fun _ => 0))), (aw, .inr (3, [.int 0, .ref aWn, .ref aWp])), (aWn, .inl (cI, 8, .inl (fun _ => 0))), (aWp, .inl (cI, 48, .inl (fun _ => 0))), (att, .inl (cI, 8, .inl (fun _ => 0))), (ass, .inl (cI, 8, .inl (fun _ => 0))), (qk, .inr (1, [.int 0, .ref be, .ref bl, .ref bu, .ref bo, .ref br, .ref bk, .ref bw, .ref btt, .ref bss])), (be, .inl (cI, 10, .inl (fun _ => 0))), (bl, .inl (cI, 100, .inl (fun _ => 0))), (bu, .inl (cI, 100, .inl (fun _ => 0))), (bo, .inl (cI, 100, .inl (fun _ => 0))), (br, .inr (3, [.int 0, .ref bRn, .ref bRp])), (bRn, .inl (cI, 8, .inl (fun _ => 0))), (bRp, .inl (cI, 48, .inl (fun _ => 0))), (bk, .inl (cI, 8, .inl (fun _ => 0))), (bw, .inr (3, [.int 0, .ref bWn, .ref bWp])), (bWn, .inl (cI, 8, .inl (fun _ => 0))), (bWp, .inl (cI, 48, .inl (fun _ => 0))), (btt, .inl (cI, 8, .inl (fun _ => 0))), (bss, .inl (cI, 8, .inl (fun _ => 0)))] sz)) 0 0 (va_A [(h0, .inr (8, [.ref qh, .ref qk, .ref qd, .int 0, .ref qa, .ref qm, .ref qs, .ref qp, .ref ql, .ref qt, .ref qz, .ref qf])), (qh, .inr (1, [.int 0, .ref ae, .ref al, .ref au, .ref ao, .ref ar, .ref ak, .ref aw, .ref att, .ref ass])), (ae, .inl (cI, 10, .inl (fun _ => 0))), (al, .inl (cI, 100, .inl (fun _ => 0))), (au, .inl (cI, 100, .inl (fun _ => 0))), (ao, .inl (cI, 100, .inl (fun _ => 0))), (ar, .inr (3, [.int 0, .ref aRn, .ref aRp])), (aRn, .inl (cI, 8, .inl (fun _ => 0))), (aRp, .inl (cI, 48, .inl (fun _ => 0))), (ak, .inl (cI, 8, .inl (fun _ => 0))), (aw, .inr (3, [.int 0, .ref aWn, .ref aWp])), (aWn, .inl (cI, 8, .inl (fun _ => 0))), (aWp, .inl (cI, 48, .inl (fun _ => 0))), (att, .inl (cI, 8, .inl (fun _ => 0))), (ass, .inl (cI, 8, .inl (fun _ => 0))), (qk, .inr (1, [.int 0, .ref be, .ref bl, .ref bu, .ref bo, .ref br, .ref bk, .ref bw, .ref btt, .ref bss])), (be, .inl (cI, 10, .inl (fun _ => 0))), (bl, .inl (cI, 100, .inl (fun _ => 0))), (bu, .inl (cI, 100, .inl (fun _ => 0))), (bo, .inl (cI, 100, .inl (fun _ => 0))), (br, .inr (3, [.int 0, .ref bRn, .ref bRp])), (bRn, .inl (cI, 8, .inl (fun _ => 0))), (bRp, .inl (cI, 48, .inl (fun _ => 0))), (bk, .inl (cI, 8, .inl (fun _ => 0))), (bw, .inr (3, [.int 0, .ref bWn, .ref bWp])), (bWn, .inl (cI, 8, .inl (fun _ => 0))), (bWp, .inl (cI, 48, .inl (fun _ => 0))), (btt, .inl (cI, 8, .inl (fun _ => 0))), (bss, .inl (cI, 8, .inl (fun _ => 0)))] sz) := by
  refine xhw (QA := fun A => XQi (fun (r : Int32) (_ : Unit) => r = 1) D (fun _ : Unit => []) A) (by decide) (Nat.le_of_ble_eq_true rfl) ?_
  intro p e s m below meth c ls A hF hr hlk hin hsz hP hK hD hN hA hS hl
  have hF : CallFix p m c cX8_image 1 s _ _ RX8 := hF
  have hx := hF.1
  have hb := hF.2.1
  have hml := hF.2.2.1
  have hown := hF.2.2.2.1
  have hu : ∀ w ∈ wsU, w.before _ s = true := fun w h => hF.2.2.2.2 w (List.mem_cons_of_mem _ h)
  have hl : lv_has ls 1 [(0, .ref h0)] := hl
  refine lv_aload_n hx hb dX8_image_0 rfl (lv_at hl 0 rfl) ?_
  refine xg hF kf_X8_16 hK hP 0 rfl rfl dX8_image_1 ?_
  refine lv_aload_n hx hb dX8_image_4 rfl (lv_at hl 0 rfl) ?_
  refine xg hF kf_X8_12 hK hP 0 rfl rfl dX8_image_5 ?_
  refine xc_Vv (wr := [(h0, .inr (8, [.ref qh, .ref qk, .ref qd, .int 0, .ref qa, .ref qm, .ref qs, .ref qp, .ref ql, .ref qt, .ref qz, .ref qf]))]) hF (c_X1_become l D cI cJ cZ cS sa s.heap.size qk be bl bu bo br bk bw btt bss bRn bRp bWn bWp qh ae al au ao ar ak aw att ass aRn aRp aWn aWp ) kv_X8_241 ⟨rfl, rfl, Nat.le_of_ble_eq_true rfl, Nat.le_of_ble_eq_true rfl⟩ ⟨Nat.le_of_ble_eq_true rfl, Nat.le_of_ble_eq_true rfl⟩ hK hN hP hD hS hA [15, 16, 17, 18, 19, 20, 21, 22, 23, 24, 25, 26, 27, 28, 1, 2, 3, 4, 5, 6, 7, 8, 9, 10, 11, 12, 13, 14] [0] rfl rfl rfl rfl (by decide) 0 rfl rfl rfl rfl hl.1 rfl (Nat.le_of_ble_eq_true rfl) dX8_image_8 (fun u_r_1 H locs hw_r_1 hP hD hS => ?_)
  have hP : va_P D vwCl [(h0, .inr (8, [.ref qh, .ref qk, .ref qd, .int 0, .ref qa, .ref qm, .ref qs, .ref qp, .ref ql, .ref qt, .ref qz, .ref qf])), (qk, .inr (1, [.int 0, .ref be, .ref bl, .ref bu, .ref bo, .ref br, .ref bk, .ref bw, .ref btt, .ref bss])), (be, .inl (cI, 10, .inl (fun _ => 0))), (bl, .inl (cI, 100, .inl (fun _ => 0))), (bu, .inl (cI, 100, .inl (fun _ => 0))), (bo, .inl (cI, 100, .inl (fun _ => 0))), (bk, .inl (cI, 8, .inl (fun _ => 0))), (btt, .inl (cI, 8, .inl (fun _ => 0))), (bss, .inl (cI, 8, .inl (fun _ => 0))), (qh, .inr (1, [.int 0, .ref ae, .ref al, .ref au, .ref ao, .ref ar, .ref ak, .ref aw, .ref att, .ref ass])), (ae, .inl (cI, 10, .inl (fun _ => 0))), (al, .inl (cI, 100, .inl (fun _ => 0))), (au, .inl (cI, 100, .inl (fun _ => 0))), (ao, .inl (cI, 100, .inl (fun _ => 0))), (ak, .inl (cI, 8, .inl (fun _ => 0))), (att, .inl (cI, 8, .inl (fun _ => 0))), (ass, .inl (cI, 8, .inl (fun _ => 0))), (br, .inr (3, [.int 0, .ref bRn, .ref bRp])), (bRn, .inl (cI, 8, .inl (fun _ => 0))), (bRp, .inl (cI, 48, .inl (fun _ => 0))), (ar, .inr (3, [.int 0, .ref aRn, .ref aRp])), (aRn, .inl (cI, 8, .inl (fun _ => 0))), (aRp, .inl (cI, 48, .inl (fun _ => 0))), (bw, .inr (3, [.int 0, .ref bWn, .ref bWp])), (bWn, .inl (cI, 8, .inl (fun _ => 0))), (bWp, .inl (cI, 48, .inl (fun _ => 0))), (aw, .inr (3, [.int 0, .ref aWn, .ref aWp])), (aWn, .inl (cI, 8, .inl (fun _ => 0))), (aWp, .inl (cI, 48, .inl (fun _ => 0)))] H := hP
  have hD : va_D A [(h0, .inr (8, [.ref qh, .ref qk, .ref qd, .int 0, .ref qa, .ref qm, .ref qs, .ref qp, .ref ql, .ref qt, .ref qz, .ref qf])), (qk, .inr (1, [.int 0, .ref be, .ref bl, .ref bu, .ref bo, .ref br, .ref bk, .ref bw, .ref btt, .ref bss])), (be, .inl (cI, 10, .inl (fun _ => 0))), (bl, .inl (cI, 100, .inl (fun _ => 0))), (bu, .inl (cI, 100, .inl (fun _ => 0))), (bo, .inl (cI, 100, .inl (fun _ => 0))), (bk, .inl (cI, 8, .inl (fun _ => 0))), (btt, .inl (cI, 8, .inl (fun _ => 0))), (bss, .inl (cI, 8, .inl (fun _ => 0))), (qh, .inr (1, [.int 0, .ref ae, .ref al, .ref au, .ref ao, .ref ar, .ref ak, .ref aw, .ref att, .ref ass])), (ae, .inl (cI, 10, .inl (fun _ => 0))), (al, .inl (cI, 100, .inl (fun _ => 0))), (au, .inl (cI, 100, .inl (fun _ => 0))), (ao, .inl (cI, 100, .inl (fun _ => 0))), (ak, .inl (cI, 8, .inl (fun _ => 0))), (att, .inl (cI, 8, .inl (fun _ => 0))), (ass, .inl (cI, 8, .inl (fun _ => 0))), (br, .inr (3, [.int 0, .ref bRn, .ref bRp])), (bRn, .inl (cI, 8, .inl (fun _ => 0))), (bRp, .inl (cI, 48, .inl (fun _ => 0))), (ar, .inr (3, [.int 0, .ref aRn, .ref aRp])), (aRn, .inl (cI, 8, .inl (fun _ => 0))), (aRp, .inl (cI, 48, .inl (fun _ => 0))), (bw, .inr (3, [.int 0, .ref bWn, .ref bWp])), (bWn, .inl (cI, 8, .inl (fun _ => 0))), (bWp, .inl (cI, 48, .inl (fun _ => 0))), (aw, .inr (3, [.int 0, .ref aWn, .ref aWp])), (aWn, .inl (cI, 8, .inl (fun _ => 0))), (aWp, .inl (cI, 48, .inl (fun _ => 0)))] := hD
  refine lv_aload_n hx hb dX8_image_11 rfl (lv_at hl 0 rfl) ?_
  refine lv_iconst (v := 1) hx hb dX8_image_12 (by decide) ?_
  refine xp hF kf_X8_22 tyX8_ok nmX8 hK hP hD hS 0 rfl rfl rfl rfl (Nat.le_of_ble_eq_true rfl) dX8_image_13 (fun H locs hP hD hS => ?_)
  have hP : va_P D vwCl [(h0, .inr (8, [.ref qh, .ref qk, .ref qd, .int 1, .ref qa, .ref qm, .ref qs, .ref qp, .ref ql, .ref qt, .ref qz, .ref qf])), (qk, .inr (1, [.int 0, .ref be, .ref bl, .ref bu, .ref bo, .ref br, .ref bk, .ref bw, .ref btt, .ref bss])), (be, .inl (cI, 10, .inl (fun _ => 0))), (bl, .inl (cI, 100, .inl (fun _ => 0))), (bu, .inl (cI, 100, .inl (fun _ => 0))), (bo, .inl (cI, 100, .inl (fun _ => 0))), (bk, .inl (cI, 8, .inl (fun _ => 0))), (btt, .inl (cI, 8, .inl (fun _ => 0))), (bss, .inl (cI, 8, .inl (fun _ => 0))), (qh, .inr (1, [.int 0, .ref ae, .ref al, .ref au, .ref ao, .ref ar, .ref ak, .ref aw, .ref att, .ref ass])), (ae, .inl (cI, 10, .inl (fun _ => 0))), (al, .inl (cI, 100, .inl (fun _ => 0))), (au, .inl (cI, 100, .inl (fun _ => 0))), (ao, .inl (cI, 100, .inl (fun _ => 0))), (ak, .inl (cI, 8, .inl (fun _ => 0))), (att, .inl (cI, 8, .inl (fun _ => 0))), (ass, .inl (cI, 8, .inl (fun _ => 0))), (br, .inr (3, [.int 0, .ref bRn, .ref bRp])), (bRn, .inl (cI, 8, .inl (fun _ => 0))), (bRp, .inl (cI, 48, .inl (fun _ => 0))), (ar, .inr (3, [.int 0, .ref aRn, .ref aRp])), (aRn, .inl (cI, 8, .inl (fun _ => 0))), (aRp, .inl (cI, 48, .inl (fun _ => 0))), (bw, .inr (3, [.int 0, .ref bWn, .ref bWp])), (bWn, .inl (cI, 8, .inl (fun _ => 0))), (bWp, .inl (cI, 48, .inl (fun _ => 0))), (aw, .inr (3, [.int 0, .ref aWn, .ref aWp])), (aWn, .inl (cI, 8, .inl (fun _ => 0))), (aWp, .inl (cI, 48, .inl (fun _ => 0)))] H := hP
  have hD : va_D A [(h0, .inr (8, [.ref qh, .ref qk, .ref qd, .int 1, .ref qa, .ref qm, .ref qs, .ref qp, .ref ql, .ref qt, .ref qz, .ref qf])), (qk, .inr (1, [.int 0, .ref be, .ref bl, .ref bu, .ref bo, .ref br, .ref bk, .ref bw, .ref btt, .ref bss])), (be, .inl (cI, 10, .inl (fun _ => 0))), (bl, .inl (cI, 100, .inl (fun _ => 0))), (bu, .inl (cI, 100, .inl (fun _ => 0))), (bo, .inl (cI, 100, .inl (fun _ => 0))), (bk, .inl (cI, 8, .inl (fun _ => 0))), (btt, .inl (cI, 8, .inl (fun _ => 0))), (bss, .inl (cI, 8, .inl (fun _ => 0))), (qh, .inr (1, [.int 0, .ref ae, .ref al, .ref au, .ref ao, .ref ar, .ref ak, .ref aw, .ref att, .ref ass])), (ae, .inl (cI, 10, .inl (fun _ => 0))), (al, .inl (cI, 100, .inl (fun _ => 0))), (au, .inl (cI, 100, .inl (fun _ => 0))), (ao, .inl (cI, 100, .inl (fun _ => 0))), (ak, .inl (cI, 8, .inl (fun _ => 0))), (att, .inl (cI, 8, .inl (fun _ => 0))), (ass, .inl (cI, 8, .inl (fun _ => 0))), (br, .inr (3, [.int 0, .ref bRn, .ref bRp])), (bRn, .inl (cI, 8, .inl (fun _ => 0))), (bRp, .inl (cI, 48, .inl (fun _ => 0))), (ar, .inr (3, [.int 0, .ref aRn, .ref aRp])), (aRn, .inl (cI, 8, .inl (fun _ => 0))), (aRp, .inl (cI, 48, .inl (fun _ => 0))), (bw, .inr (3, [.int 0, .ref bWn, .ref bWp])), (bWn, .inl (cI, 8, .inl (fun _ => 0))), (bWp, .inl (cI, 48, .inl (fun _ => 0))), (aw, .inr (3, [.int 0, .ref aWn, .ref aWp])), (aWn, .inl (cI, 8, .inl (fun _ => 0))), (aWp, .inl (cI, 48, .inl (fun _ => 0)))] := hD
  refine lv_iconst (v := 1) hx hb dX8_image_16 (by decide) ?_
  exact W.iret (v := 1) hx hb hr (fun t ht hW => ⟨⟨1, (), rfl, rfl, by rw [ht]; exact hP.sub [] rfl, hD.sub [] (by decide) rfl⟩, hS.F ht⟩) hS.2.2 dX8_image_17 hlk
set_option maxHeartbeats 4000000 in
set_option maxRecDepth 100000 in
theorem c_X8_undo (l : Launch) (D : va_G) (cI cJ cZ cS : ClassId) (sa : Nat → Nat) (sz : Nat) (h0 : Nat) (qh : Nat) (qk : Nat) (qd : Nat) (qa : Nat) (qm : Nat) (qs : Nat) (qp : Nat) (ql : Nat) (qt : Nat) (qz : Nat) (qf : Nat) : Met l yX8_undo (Cond.code yX8_undo cX8_undo 1 (some .int) :: wsU) ({ frames := 1, cells := 0, slots := 0, locals := 22 }) (va_Pc [.ref h0] (XW D (xT cI cJ cZ cS) sa [(h0, .inr (8, [.ref qh, .ref qk, .ref qd, .int 0, .ref qa, .ref qm, .ref qs, .ref qp, .ref ql, .ref qt, .ref qz, .ref qf])), (qf, .inl (cI, 7, .inl (fun _ => 0)))] sz)) (XQi (fun (r : Int32) (_ : Unit) => r = (-1000000004)) D (fun _ : Unit => []) (va_A [(h0, .inr (8, [.ref qh, .ref qk, .ref qd, .int 0, .ref qa, .ref qm, .ref qs, .ref qp, .ref ql, .ref qt, .ref qz, .ref qf])), (qf, .inl (cI, 7, .inl (fun _ => 0)))] sz)) 0 0 (va_A [(h0, .inr (8, [.ref qh, .ref qk, .ref qd, .int 0, .ref qa, .ref qm, .ref qs, .ref qp, .ref ql, .ref qt, .ref qz, .ref qf])), (qf, .inl (cI, 7, .inl (fun _ => 0)))] sz) := by
  refine xhw (QA := fun A => XQi (fun (r : Int32) (_ : Unit) => r = (-1000000004)) D (fun _ : Unit => []) A) (by decide) (Nat.le_of_ble_eq_true rfl) ?_
  intro p e s m below meth c ls A hF hr hlk hin hsz hP hK hD hN hA hS hl
  have hF : CallFix p m c cX8_undo 1 s _ _ RX8 := hF
  have hx := hF.1
  have hb := hF.2.1
  have hml := hF.2.2.1
  have hown := hF.2.2.2.1
  have hu : ∀ w ∈ wsU, w.before _ s = true := fun w h => hF.2.2.2.2 w (List.mem_cons_of_mem _ h)
  have hl : lv_has ls 1 [(0, .ref h0)] := hl
  refine lv_aload_n hx hb dX8_undo_0 rfl (lv_at hl 0 rfl) ?_
  refine xg hF kf_X8_22 hK hP 0 rfl rfl dX8_undo_1 ?_
  refine lv_if_ne (tgt := 14) hx hb dX8_undo_4 (by decide) (fun c_1 => absurd (by decide) c_1) (fun c_1 => ?_)
  refine lv_aload_n hx hb dX8_undo_7 rfl (lv_at hl 0 rfl) ?_
  refine lv_ldc (v := (-1000000004)) hx hb hown (hu _ uw156) dX8_undo_8 ?_
  refine xc_Vi (wr := []) hF (c_X8_finding_N l D cI cJ cZ cS sa s.heap.size h0 qh qk qd qa qm qs qp ql qt qz qf 0 (fun _ => 0) ) kv_X8_80 ⟨rfl, rfl, Nat.le_of_ble_eq_true rfl, Nat.le_of_ble_eq_true rfl⟩ ⟨Nat.le_of_ble_eq_true rfl, Nat.le_of_ble_eq_true rfl⟩ hK hN hP hD hS hA [0, 1] [] rfl rfl rfl rfl (by decide) 0 rfl rfl rfl rfl hl.1 rfl (Nat.le_of_ble_eq_true rfl) dX8_undo_10 (fun r_2 u_r_2 H locs hw_r_2 hP hD hS => ?_)
  have hP : va_P D vwCl [] H := hP
  have hD : va_D A [] := hD
  subst hw_r_2
  exact W.iret (v := (-1000000004)) hx hb hr (fun t ht hW => ⟨⟨(-1000000004), (), rfl, rfl, by rw [ht]; exact hP.sub [] rfl, hD.sub [] (by decide) rfl⟩, hS.F ht⟩) hS.2.2 dX8_undo_13 hlk
set_option maxHeartbeats 4000000 in
set_option maxRecDepth 100000 in
theorem c_X8_tear (l : Launch) (D : va_G) (cI cJ cZ cS : ClassId) (sa : Nat → Nat) (sz : Nat) (h0 : Nat) (qh : Nat) (qk : Nat) (qd : Nat) (qa : Nat) (qm : Nat) (qs : Nat) (qp : Nat) (ql : Nat) (qt : Nat) (qz : Nat) (qf : Nat) : Met l yX8_tear (Cond.code yX8_tear cX8_tear 2 (some .int) :: wsU) ({ frames := 0, cells := 0, slots := 0, locals := 0 }) (va_Pc [.ref h0] (XW D (xT cI cJ cZ cS) sa [(h0, .inr (8, [.ref qh, .ref qk, .ref qd, .int 0, .ref qa, .ref qm, .ref qs, .ref qp, .ref ql, .ref qt, .ref qz, .ref qf]))] sz)) (XQi (fun (r : Int32) (_ : Unit) => r = 0) D (fun _ : Unit => []) (va_A [(h0, .inr (8, [.ref qh, .ref qk, .ref qd, .int 0, .ref qa, .ref qm, .ref qs, .ref qp, .ref ql, .ref qt, .ref qz, .ref qf]))] sz)) 0 0 (va_A [(h0, .inr (8, [.ref qh, .ref qk, .ref qd, .int 0, .ref qa, .ref qm, .ref qs, .ref qp, .ref ql, .ref qt, .ref qz, .ref qf]))] sz) := by
  refine xhw (QA := fun A => XQi (fun (r : Int32) (_ : Unit) => r = 0) D (fun _ : Unit => []) A) (by decide) (Nat.le_of_ble_eq_true rfl) ?_
  intro p e s m below meth c ls A hF hr hlk hin hsz hP hK hD hN hA hS hl
  have hF : CallFix p m c cX8_tear 2 s _ _ RX8 := hF
  have hx := hF.1
  have hb := hF.2.1
  have hml := hF.2.2.1
  have hown := hF.2.2.2.1
  have hu : ∀ w ∈ wsU, w.before _ s = true := fun w h => hF.2.2.2.2 w (List.mem_cons_of_mem _ h)
  have hl : lv_has ls 2 [(0, .ref h0)] := hl
  refine lv_aload_n hx hb dX8_tear_0 rfl (lv_at hl 0 rfl) ?_
  refine xg hF kf_X8_22 hK hP 0 rfl rfl dX8_tear_1 ?_
  refine lv_if_eq (tgt := 11) hx hb dX8_tear_4 (by decide) (fun c_1 => ?_) (fun c_1 => absurd (by decide) c_1)
  refine lv_iconst (v := 0) hx hb dX8_tear_11 (by decide) ?_
  refine lv_istore_n (lv' := [(1, .int 0), (0, .ref h0)]) hx hb dX8_tear_12 rfl hl (by decide) rfl (fun ls hl => ?_)
  refine lv_aload_n hx hb dX8_tear_13 rfl (lv_at hl 1 rfl) ?_
  refine lv_iconst (v := 0) hx hb dX8_tear_14 (by decide) ?_
  refine xp hF kf_X8_22 tyX8_ok nmX8 hK hP hD hS 0 rfl rfl rfl rfl (Nat.le_of_ble_eq_true rfl) dX8_tear_15 (fun H locs hP hD hS => ?_)
  have hP : va_P D vwCl [(h0, .inr (8, [.ref qh, .ref qk, .ref qd, .int 0, .ref qa, .ref qm, .ref qs, .ref qp, .ref ql, .ref qt, .ref qz, .ref qf]))] H := hP
  have hD : va_D A [(h0, .inr (8, [.ref qh, .ref qk, .ref qd, .int 0, .ref qa, .ref qm, .ref qs, .ref qp, .ref ql, .ref qt, .ref qz, .ref qf]))] := hD
  refine lv_iload_n hx hb dX8_tear_18 rfl (lv_at hl 0 rfl) ?_
  exact W.iret (v := 0) hx hb hr (fun t ht hW => ⟨⟨0, (), rfl, rfl, by rw [ht]; exact hP.sub [] rfl, hD.sub [] (by decide) rfl⟩, hS.F ht⟩) hS.2.2 dX8_tear_19 hlk
end
