section
-- ===== PART A: goes FIRST, ahead of the names: the tables' words, and 'selects' of the private methods out of them =====
/-- a private method of a class that the tables say can be made, by its rows of tables_1 -/
def lw_okq (q : MethodName × Nat) : Prop := (q.1.cls ≠ "java/lang/invoke/MethodHandle" ∧ q.1.cls ≠ "java/lang/invoke/VarHandle") ∧ Cond.instantiable q.1.cls q.2 ∈ tables_1 ∧ Cond.privateMethod q.1 ∈ tables_1 ∧ Cond.instanceMethod q.1 ∈ tables_1
theorem lw_p0 : lw_okq (⟨"java/lang/Throwable", "fillInStackTrace", "(I)Ljava/lang/Throwable;"⟩, 6) := ⟨⟨by decide +kernel, by decide +kernel⟩, List.mem_of_getElem? (i := 359) (by decide +kernel), List.mem_of_getElem? (i := 357) (by decide +kernel), List.mem_of_getElem? (i := 358) (by decide +kernel)⟩
theorem lw_p1 : lw_okq (⟨"TutorLines$Reader", "readSide", "(I)Z"⟩, 8) := ⟨⟨by decide +kernel, by decide +kernel⟩, List.mem_of_getElem? (i := 37) (by decide +kernel), List.mem_of_getElem? (i := 397) (by decide +kernel), List.mem_of_getElem? (i := 398) (by decide +kernel)⟩
theorem lw_p2 : lw_okq (⟨"TutorLines$Reader", "next", "()I"⟩, 8) := ⟨⟨by decide +kernel, by decide +kernel⟩, List.mem_of_getElem? (i := 37) (by decide +kernel), List.mem_of_getElem? (i := 401) (by decide +kernel), List.mem_of_getElem? (i := 402) (by decide +kernel)⟩
theorem lw_p3 : lw_okq (⟨"TutorLines$Reader", "readTerm", "(I)Z"⟩, 8) := ⟨⟨by decide +kernel, by decide +kernel⟩, List.mem_of_getElem? (i := 37) (by decide +kernel), List.mem_of_getElem? (i := 405) (by decide +kernel), List.mem_of_getElem? (i := 406) (by decide +kernel)⟩
theorem lw_p4 : lw_okq (⟨"TutorLines$Reader", "readFactor", "(I)Z"⟩, 8) := ⟨⟨by decide +kernel, by decide +kernel⟩, List.mem_of_getElem? (i := 37) (by decide +kernel), List.mem_of_getElem? (i := 409) (by decide +kernel), List.mem_of_getElem? (i := 410) (by decide +kernel)⟩
theorem lw_p5 : lw_okq (⟨"TutorLines$Reader", "readParentheses", "(I)Z"⟩, 8) := ⟨⟨by decide +kernel, by decide +kernel⟩, List.mem_of_getElem? (i := 37) (by decide +kernel), List.mem_of_getElem? (i := 421) (by decide +kernel), List.mem_of_getElem? (i := 422) (by decide +kernel)⟩
theorem lw_p6 : lw_okq (⟨"TutorLines$Reader", "failAt", "(I)Z"⟩, 8) := ⟨⟨by decide +kernel, by decide +kernel⟩, List.mem_of_getElem? (i := 37) (by decide +kernel), List.mem_of_getElem? (i := 425) (by decide +kernel), List.mem_of_getElem? (i := 426) (by decide +kernel)⟩
theorem lw_p7 : lw_okq (⟨"TutorLines$Reader", "readNumber", "(LTutorLines$Side;)Z"⟩, 8) := ⟨⟨by decide +kernel, by decide +kernel⟩, List.mem_of_getElem? (i := 37) (by decide +kernel), List.mem_of_getElem? (i := 437) (by decide +kernel), List.mem_of_getElem? (i := 438) (by decide +kernel)⟩
theorem lw_p8 : lw_okq (⟨"TutorLines$Reader", "multiply", "(II)Z"⟩, 8) := ⟨⟨by decide +kernel, by decide +kernel⟩, List.mem_of_getElem? (i := 37) (by decide +kernel), List.mem_of_getElem? (i := 444) (by decide +kernel), List.mem_of_getElem? (i := 445) (by decide +kernel)⟩
theorem lw_p9 : lw_okq (⟨"TutorLines$Reader", "divide", "(I)Z"⟩, 8) := ⟨⟨by decide +kernel, by decide +kernel⟩, List.mem_of_getElem? (i := 37) (by decide +kernel), List.mem_of_getElem? (i := 466) (by decide +kernel), List.mem_of_getElem? (i := 467) (by decide +kernel)⟩
theorem lw_p10 : lw_okq (⟨"TutorLines$Reader", "readRelation", "(LTutorLines$Line;)Z"⟩, 8) := ⟨⟨by decide +kernel, by decide +kernel⟩, List.mem_of_getElem? (i := 37) (by decide +kernel), List.mem_of_getElem? (i := 512) (by decide +kernel), List.mem_of_getElem? (i := 513) (by decide +kernel)⟩
theorem lw_p11 : lw_okq (⟨"TutorLines", "append", "(LTutorLines$Line;)V"⟩, 14) := ⟨⟨by decide +kernel, by decide +kernel⟩, List.mem_of_getElem? (i := 29) (by decide +kernel), List.mem_of_getElem? (i := 516) (by decide +kernel), List.mem_of_getElem? (i := 517) (by decide +kernel)⟩
theorem lw_p12 : lw_okq (⟨"TutorLines", "requireTask", "()V"⟩, 14) := ⟨⟨by decide +kernel, by decide +kernel⟩, List.mem_of_getElem? (i := 29) (by decide +kernel), List.mem_of_getElem? (i := 533) (by decide +kernel), List.mem_of_getElem? (i := 534) (by decide +kernel)⟩
theorem lw_p13 : lw_okq (⟨"TutorLines", "requireRoom", "()V"⟩, 14) := ⟨⟨by decide +kernel, by decide +kernel⟩, List.mem_of_getElem? (i := 29) (by decide +kernel), List.mem_of_getElem? (i := 552) (by decide +kernel), List.mem_of_getElem? (i := 553) (by decide +kernel)⟩
theorem lw_p14 : lw_okq (⟨"TutorLines", "present", "()LTutorLines$Line;"⟩, 14) := ⟨⟨by decide +kernel, by decide +kernel⟩, List.mem_of_getElem? (i := 29) (by decide +kernel), List.mem_of_getElem? (i := 556) (by decide +kernel), List.mem_of_getElem? (i := 557) (by decide +kernel)⟩
theorem lw_p15 : lw_okq (⟨"TutorLines$SolutionSet", "isPartOf", "(LTutorLines$SolutionSet;)Z"⟩, 3) := ⟨⟨by decide +kernel, by decide +kernel⟩, List.mem_of_getElem? (i := 150) (by decide +kernel), List.mem_of_getElem? (i := 575) (by decide +kernel), List.mem_of_getElem? (i := 576) (by decide +kernel)⟩
def lw_privs_1 : List (MethodName × Nat) := [(⟨"java/lang/Throwable", "fillInStackTrace", "(I)Ljava/lang/Throwable;"⟩, 6), (⟨"TutorLines$Reader", "readSide", "(I)Z"⟩, 8), (⟨"TutorLines$Reader", "next", "()I"⟩, 8), (⟨"TutorLines$Reader", "readTerm", "(I)Z"⟩, 8), (⟨"TutorLines$Reader", "readFactor", "(I)Z"⟩, 8), (⟨"TutorLines$Reader", "readParentheses", "(I)Z"⟩, 8), (⟨"TutorLines$Reader", "failAt", "(I)Z"⟩, 8), (⟨"TutorLines$Reader", "readNumber", "(LTutorLines$Side;)Z"⟩, 8), (⟨"TutorLines$Reader", "multiply", "(II)Z"⟩, 8), (⟨"TutorLines$Reader", "divide", "(I)Z"⟩, 8), (⟨"TutorLines$Reader", "readRelation", "(LTutorLines$Line;)Z"⟩, 8), (⟨"TutorLines", "append", "(LTutorLines$Line;)V"⟩, 14), (⟨"TutorLines", "requireTask", "()V"⟩, 14), (⟨"TutorLines", "requireRoom", "()V"⟩, 14), (⟨"TutorLines", "present", "()LTutorLines$Line;"⟩, 14), (⟨"TutorLines$SolutionSet", "isPartOf", "(LTutorLines$SolutionSet;)Z"⟩, 3)]
theorem lw_r1 : ∀ q ∈ lw_privs_1, lw_okq q := List.forall_mem_cons.mpr ⟨lw_p0, List.forall_mem_cons.mpr ⟨lw_p1, List.forall_mem_cons.mpr ⟨lw_p2, List.forall_mem_cons.mpr ⟨lw_p3, List.forall_mem_cons.mpr ⟨lw_p4, List.forall_mem_cons.mpr ⟨lw_p5, List.forall_mem_cons.mpr ⟨lw_p6, List.forall_mem_cons.mpr ⟨lw_p7, List.forall_mem_cons.mpr ⟨lw_p8, List.forall_mem_cons.mpr ⟨lw_p9, List.forall_mem_cons.mpr ⟨lw_p10, List.forall_mem_cons.mpr ⟨lw_p11, List.forall_mem_cons.mpr ⟨lw_p12, List.forall_mem_cons.mpr ⟨lw_p13, List.forall_mem_cons.mpr ⟨lw_p14, List.forall_mem_cons.mpr ⟨lw_p15, fun _ h => absurd h List.not_mem_nil⟩⟩⟩⟩⟩⟩⟩⟩⟩⟩⟩⟩⟩⟩⟩⟩
theorem lw_p16 : lw_okq (⟨"TutorLines", "accept", "()V"⟩, 14) := ⟨⟨by decide +kernel, by decide +kernel⟩, List.mem_of_getElem? (i := 29) (by decide +kernel), List.mem_of_getElem? (i := 597) (by decide +kernel), List.mem_of_getElem? (i := 598) (by decide +kernel)⟩
theorem lw_p17 : lw_okq (⟨"TutorLines", "refuse", "()V"⟩, 14) := ⟨⟨by decide +kernel, by decide +kernel⟩, List.mem_of_getElem? (i := 29) (by decide +kernel), List.mem_of_getElem? (i := 638) (by decide +kernel), List.mem_of_getElem? (i := 639) (by decide +kernel)⟩
theorem lw_p18 : lw_okq (⟨"TutorLines", "findWitness", "()V"⟩, 14) := ⟨⟨by decide +kernel, by decide +kernel⟩, List.mem_of_getElem? (i := 29) (by decide +kernel), List.mem_of_getElem? (i := 671) (by decide +kernel), List.mem_of_getElem? (i := 672) (by decide +kernel)⟩
theorem lw_p19 : lw_okq (⟨"TutorLines", "tellsApart", "(LTutorLines$SolutionSet;I)Z"⟩, 14) := ⟨⟨by decide +kernel, by decide +kernel⟩, List.mem_of_getElem? (i := 29) (by decide +kernel), List.mem_of_getElem? (i := 677) (by decide +kernel), List.mem_of_getElem? (i := 678) (by decide +kernel)⟩
theorem lw_p20 : lw_okq (⟨"TutorLines$Paper", "writeSide", "(LTutorLines$Side;)V"⟩, 1) := ⟨⟨by decide +kernel, by decide +kernel⟩, List.mem_of_getElem? (i := 172) (by decide +kernel), List.mem_of_getElem? (i := 957) (by decide +kernel), List.mem_of_getElem? (i := 958) (by decide +kernel)⟩
theorem lw_p21 : lw_okq (⟨"TutorLines$Paper", "writeSize", "(LTutorLines$Fraction;)V"⟩, 1) := ⟨⟨by decide +kernel, by decide +kernel⟩, List.mem_of_getElem? (i := 172) (by decide +kernel), List.mem_of_getElem? (i := 979) (by decide +kernel), List.mem_of_getElem? (i := 980) (by decide +kernel)⟩
theorem lw_p22 : lw_okq (⟨"TutorLines$Paper", "writeTimesX", "(LTutorLines$Fraction;)V"⟩, 1) := ⟨⟨by decide +kernel, by decide +kernel⟩, List.mem_of_getElem? (i := 172) (by decide +kernel), List.mem_of_getElem? (i := 984) (by decide +kernel), List.mem_of_getElem? (i := 985) (by decide +kernel)⟩
theorem lw_p23 : lw_okq (⟨"TutorLinesModel", "isLength", "(I)Z"⟩, 29) := ⟨⟨by decide +kernel, by decide +kernel⟩, List.mem_of_getElem? (i := 1007) (by decide +kernel), List.mem_of_getElem? (i := 1119) (by decide +kernel), List.mem_of_getElem? (i := 1120) (by decide +kernel)⟩
theorem lw_p24 : lw_okq (⟨"TutorLinesModel", "read", "(I)Z"⟩, 29) := ⟨⟨by decide +kernel, by decide +kernel⟩, List.mem_of_getElem? (i := 1007) (by decide +kernel), List.mem_of_getElem? (i := 1124) (by decide +kernel), List.mem_of_getElem? (i := 1125) (by decide +kernel)⟩
theorem lw_p25 : lw_okq (⟨"TutorLinesModel", "open", "(I)V"⟩, 29) := ⟨⟨by decide +kernel, by decide +kernel⟩, List.mem_of_getElem? (i := 1007) (by decide +kernel), List.mem_of_getElem? (i := 1128) (by decide +kernel), List.mem_of_getElem? (i := 1129) (by decide +kernel)⟩
theorem lw_p26 : lw_okq (⟨"TutorLinesModel", "here", "()I"⟩, 29) := ⟨⟨by decide +kernel, by decide +kernel⟩, List.mem_of_getElem? (i := 1007) (by decide +kernel), List.mem_of_getElem? (i := 1132) (by decide +kernel), List.mem_of_getElem? (i := 1133) (by decide +kernel)⟩
theorem lw_p27 : lw_okq (⟨"TutorLinesModel", "fails", "(I)Z"⟩, 29) := ⟨⟨by decide +kernel, by decide +kernel⟩, List.mem_of_getElem? (i := 1007) (by decide +kernel), List.mem_of_getElem? (i := 1136) (by decide +kernel), List.mem_of_getElem? (i := 1137) (by decide +kernel)⟩
theorem lw_p28 : lw_okq (⟨"TutorLinesModel", "digits", "()V"⟩, 29) := ⟨⟨by decide +kernel, by decide +kernel⟩, List.mem_of_getElem? (i := 1007) (by decide +kernel), List.mem_of_getElem? (i := 1145) (by decide +kernel), List.mem_of_getElem? (i := 1146) (by decide +kernel)⟩
theorem lw_p29 : lw_okq (⟨"TutorLinesModel", "simple", "(JJ)Z"⟩, 29) := ⟨⟨by decide +kernel, by decide +kernel⟩, List.mem_of_getElem? (i := 1007) (by decide +kernel), List.mem_of_getElem? (i := 1149) (by decide +kernel), List.mem_of_getElem? (i := 1150) (by decide +kernel)⟩
theorem lw_p30 : lw_okq (⟨"TutorLinesModel", "factor", "([JI)Z"⟩, 29) := ⟨⟨by decide +kernel, by decide +kernel⟩, List.mem_of_getElem? (i := 1007) (by decide +kernel), List.mem_of_getElem? (i := 1153) (by decide +kernel), List.mem_of_getElem? (i := 1154) (by decide +kernel)⟩
theorem lw_p31 : lw_okq (⟨"TutorLinesModel", "make", "(JJ)V"⟩, 29) := ⟨⟨by decide +kernel, by decide +kernel⟩, List.mem_of_getElem? (i := 1007) (by decide +kernel), List.mem_of_getElem? (i := 1157) (by decide +kernel), List.mem_of_getElem? (i := 1158) (by decide +kernel)⟩
def lw_privs_2 : List (MethodName × Nat) := [(⟨"TutorLines", "accept", "()V"⟩, 14), (⟨"TutorLines", "refuse", "()V"⟩, 14), (⟨"TutorLines", "findWitness", "()V"⟩, 14), (⟨"TutorLines", "tellsApart", "(LTutorLines$SolutionSet;I)Z"⟩, 14), (⟨"TutorLines$Paper", "writeSide", "(LTutorLines$Side;)V"⟩, 1), (⟨"TutorLines$Paper", "writeSize", "(LTutorLines$Fraction;)V"⟩, 1), (⟨"TutorLines$Paper", "writeTimesX", "(LTutorLines$Fraction;)V"⟩, 1), (⟨"TutorLinesModel", "isLength", "(I)Z"⟩, 29), (⟨"TutorLinesModel", "read", "(I)Z"⟩, 29), (⟨"TutorLinesModel", "open", "(I)V"⟩, 29), (⟨"TutorLinesModel", "here", "()I"⟩, 29), (⟨"TutorLinesModel", "fails", "(I)Z"⟩, 29), (⟨"TutorLinesModel", "digits", "()V"⟩, 29), (⟨"TutorLinesModel", "simple", "(JJ)Z"⟩, 29), (⟨"TutorLinesModel", "factor", "([JI)Z"⟩, 29), (⟨"TutorLinesModel", "make", "(JJ)V"⟩, 29)]
theorem lw_r2 : ∀ q ∈ lw_privs_2, lw_okq q := List.forall_mem_cons.mpr ⟨lw_p16, List.forall_mem_cons.mpr ⟨lw_p17, List.forall_mem_cons.mpr ⟨lw_p18, List.forall_mem_cons.mpr ⟨lw_p19, List.forall_mem_cons.mpr ⟨lw_p20, List.forall_mem_cons.mpr ⟨lw_p21, List.forall_mem_cons.mpr ⟨lw_p22, List.forall_mem_cons.mpr ⟨lw_p23, List.forall_mem_cons.mpr ⟨lw_p24, List.forall_mem_cons.mpr ⟨lw_p25, List.forall_mem_cons.mpr ⟨lw_p26, List.forall_mem_cons.mpr ⟨lw_p27, List.forall_mem_cons.mpr ⟨lw_p28, List.forall_mem_cons.mpr ⟨lw_p29, List.forall_mem_cons.mpr ⟨lw_p30, List.forall_mem_cons.mpr ⟨lw_p31, fun _ h => absurd h List.not_mem_nil⟩⟩⟩⟩⟩⟩⟩⟩⟩⟩⟩⟩⟩⟩⟩⟩
theorem lw_p32 : lw_okq (⟨"TutorLinesModel", "isGreat", "()Z"⟩, 29) := ⟨⟨by decide +kernel, by decide +kernel⟩, List.mem_of_getElem? (i := 1007) (by decide +kernel), List.mem_of_getElem? (i := 1164) (by decide +kernel), List.mem_of_getElem? (i := 1165) (by decide +kernel)⟩
theorem lw_p33 : lw_okq (⟨"TutorLinesModel", "divide", "(I)Z"⟩, 29) := ⟨⟨by decide +kernel, by decide +kernel⟩, List.mem_of_getElem? (i := 1007) (by decide +kernel), List.mem_of_getElem? (i := 1170) (by decide +kernel), List.mem_of_getElem? (i := 1171) (by decide +kernel)⟩
theorem lw_p34 : lw_okq (⟨"TutorLinesModel", "term", "()Z"⟩, 29) := ⟨⟨by decide +kernel, by decide +kernel⟩, List.mem_of_getElem? (i := 1007) (by decide +kernel), List.mem_of_getElem? (i := 1174) (by decide +kernel), List.mem_of_getElem? (i := 1175) (by decide +kernel)⟩
theorem lw_p35 : lw_okq (⟨"TutorLinesModel", "copyLine", "(II)V"⟩, 29) := ⟨⟨by decide +kernel, by decide +kernel⟩, List.mem_of_getElem? (i := 1007) (by decide +kernel), List.mem_of_getElem? (i := 1179) (by decide +kernel), List.mem_of_getElem? (i := 1180) (by decide +kernel)⟩
theorem lw_p36 : lw_okq (⟨"TutorLinesModel", "last", "()I"⟩, 29) := ⟨⟨by decide +kernel, by decide +kernel⟩, List.mem_of_getElem? (i := 1007) (by decide +kernel), List.mem_of_getElem? (i := 1187) (by decide +kernel), List.mem_of_getElem? (i := 1188) (by decide +kernel)⟩
theorem lw_p37 : lw_okq (⟨"TutorLinesModel", "isPart", "(II)Z"⟩, 29) := ⟨⟨by decide +kernel, by decide +kernel⟩, List.mem_of_getElem? (i := 1007) (by decide +kernel), List.mem_of_getElem? (i := 1191) (by decide +kernel), List.mem_of_getElem? (i := 1192) (by decide +kernel)⟩
theorem lw_p38 : lw_okq (⟨"TutorLinesModel", "solve", "(I)V"⟩, 29) := ⟨⟨by decide +kernel, by decide +kernel⟩, List.mem_of_getElem? (i := 1007) (by decide +kernel), List.mem_of_getElem? (i := 1195) (by decide +kernel), List.mem_of_getElem? (i := 1196) (by decide +kernel)⟩
theorem lw_p39 : lw_okq (⟨"TutorLinesModel", "solves", "(JJ)Z"⟩, 29) := ⟨⟨by decide +kernel, by decide +kernel⟩, List.mem_of_getElem? (i := 1007) (by decide +kernel), List.mem_of_getElem? (i := 1199) (by decide +kernel), List.mem_of_getElem? (i := 1200) (by decide +kernel)⟩
theorem lw_p40 : lw_okq (⟨"TutorLinesModel", "order", "(JJ)I"⟩, 29) := ⟨⟨by decide +kernel, by decide +kernel⟩, List.mem_of_getElem? (i := 1007) (by decide +kernel), List.mem_of_getElem? (i := 1203) (by decide +kernel), List.mem_of_getElem? (i := 1204) (by decide +kernel)⟩
theorem lw_p41 : lw_okq (⟨"TutorLinesModel", "plan", "()I"⟩, 29) := ⟨⟨by decide +kernel, by decide +kernel⟩, List.mem_of_getElem? (i := 1007) (by decide +kernel), List.mem_of_getElem? (i := 1210) (by decide +kernel), List.mem_of_getElem? (i := 1211) (by decide +kernel)⟩
theorem lw_p42 : lw_okq (⟨"TutorLinesModel", "above", "(I)J"⟩, 29) := ⟨⟨by decide +kernel, by decide +kernel⟩, List.mem_of_getElem? (i := 1007) (by decide +kernel), List.mem_of_getElem? (i := 1214) (by decide +kernel), List.mem_of_getElem? (i := 1215) (by decide +kernel)⟩
theorem lw_p43 : lw_okq (⟨"TutorLinesModel", "join", "(IIIIZ)V"⟩, 29) := ⟨⟨by decide +kernel, by decide +kernel⟩, List.mem_of_getElem? (i := 1007) (by decide +kernel), List.mem_of_getElem? (i := 1218) (by decide +kernel), List.mem_of_getElem? (i := 1219) (by decide +kernel)⟩
theorem lw_p44 : lw_okq (⟨"TutorLinesModel", "below", "(I)J"⟩, 29) := ⟨⟨by decide +kernel, by decide +kernel⟩, List.mem_of_getElem? (i := 1007) (by decide +kernel), List.mem_of_getElem? (i := 1222) (by decide +kernel), List.mem_of_getElem? (i := 1223) (by decide +kernel)⟩
theorem lw_p45 : lw_okq (⟨"TutorLinesModel", "write", "(IIJJ)V"⟩, 29) := ⟨⟨by decide +kernel, by decide +kernel⟩, List.mem_of_getElem? (i := 1007) (by decide +kernel), List.mem_of_getElem? (i := 1226) (by decide +kernel), List.mem_of_getElem? (i := 1227) (by decide +kernel)⟩
theorem lw_p46 : lw_okq (⟨"TutorLinesModel", "isOne", "(I)Z"⟩, 29) := ⟨⟨by decide +kernel, by decide +kernel⟩, List.mem_of_getElem? (i := 1007) (by decide +kernel), List.mem_of_getElem? (i := 1230) (by decide +kernel), List.mem_of_getElem? (i := 1231) (by decide +kernel)⟩
theorem lw_p47 : lw_okq (⟨"TutorLinesModel", "isSame", "(II)Z"⟩, 29) := ⟨⟨by decide +kernel, by decide +kernel⟩, List.mem_of_getElem? (i := 1007) (by decide +kernel), List.mem_of_getElem? (i := 1235) (by decide +kernel), List.mem_of_getElem? (i := 1236) (by decide +kernel)⟩
def lw_privs_3 : List (MethodName × Nat) := [(⟨"TutorLinesModel", "isGreat", "()Z"⟩, 29), (⟨"TutorLinesModel", "divide", "(I)Z"⟩, 29), (⟨"TutorLinesModel", "term", "()Z"⟩, 29), (⟨"TutorLinesModel", "copyLine", "(II)V"⟩, 29), (⟨"TutorLinesModel", "last", "()I"⟩, 29), (⟨"TutorLinesModel", "isPart", "(II)Z"⟩, 29), (⟨"TutorLinesModel", "solve", "(I)V"⟩, 29), (⟨"TutorLinesModel", "solves", "(JJ)Z"⟩, 29), (⟨"TutorLinesModel", "order", "(JJ)I"⟩, 29), (⟨"TutorLinesModel", "plan", "()I"⟩, 29), (⟨"TutorLinesModel", "above", "(I)J"⟩, 29), (⟨"TutorLinesModel", "join", "(IIIIZ)V"⟩, 29), (⟨"TutorLinesModel", "below", "(I)J"⟩, 29), (⟨"TutorLinesModel", "write", "(IIJJ)V"⟩, 29), (⟨"TutorLinesModel", "isOne", "(I)Z"⟩, 29), (⟨"TutorLinesModel", "isSame", "(II)Z"⟩, 29)]
theorem lw_r3 : ∀ q ∈ lw_privs_3, lw_okq q := List.forall_mem_cons.mpr ⟨lw_p32, List.forall_mem_cons.mpr ⟨lw_p33, List.forall_mem_cons.mpr ⟨lw_p34, List.forall_mem_cons.mpr ⟨lw_p35, List.forall_mem_cons.mpr ⟨lw_p36, List.forall_mem_cons.mpr ⟨lw_p37, List.forall_mem_cons.mpr ⟨lw_p38, List.forall_mem_cons.mpr ⟨lw_p39, List.forall_mem_cons.mpr ⟨lw_p40, List.forall_mem_cons.mpr ⟨lw_p41, List.forall_mem_cons.mpr ⟨lw_p42, List.forall_mem_cons.mpr ⟨lw_p43, List.forall_mem_cons.mpr ⟨lw_p44, List.forall_mem_cons.mpr ⟨lw_p45, List.forall_mem_cons.mpr ⟨lw_p46, List.forall_mem_cons.mpr ⟨lw_p47, fun _ h => absurd h List.not_mem_nil⟩⟩⟩⟩⟩⟩⟩⟩⟩⟩⟩⟩⟩⟩⟩⟩
theorem lw_p48 : lw_okq (⟨"TutorLinesModel", "explained", "()I"⟩, 29) := ⟨⟨by decide +kernel, by decide +kernel⟩, List.mem_of_getElem? (i := 1007) (by decide +kernel), List.mem_of_getElem? (i := 1239) (by decide +kernel), List.mem_of_getElem? (i := 1240) (by decide +kernel)⟩
theorem lw_p49 : lw_okq (⟨"TutorLinesModel", "slips", "(I)Z"⟩, 29) := ⟨⟨by decide +kernel, by decide +kernel⟩, List.mem_of_getElem? (i := 1007) (by decide +kernel), List.mem_of_getElem? (i := 1243) (by decide +kernel), List.mem_of_getElem? (i := 1244) (by decide +kernel)⟩
theorem lw_p50 : lw_okq (⟨"TutorLinesModel", "scaled", "(I)V"⟩, 29) := ⟨⟨by decide +kernel, by decide +kernel⟩, List.mem_of_getElem? (i := 1007) (by decide +kernel), List.mem_of_getElem? (i := 1247) (by decide +kernel), List.mem_of_getElem? (i := 1248) (by decide +kernel)⟩
theorem lw_p51 : lw_okq (⟨"TutorLinesModel", "parts", "(JJ)Z"⟩, 29) := ⟨⟨by decide +kernel, by decide +kernel⟩, List.mem_of_getElem? (i := 1007) (by decide +kernel), List.mem_of_getElem? (i := 1260) (by decide +kernel), List.mem_of_getElem? (i := 1261) (by decide +kernel)⟩
theorem lw_p52 : lw_okq (⟨"TutorLinesModel", "isTask", "()Z"⟩, 29) := ⟨⟨by decide +kernel, by decide +kernel⟩, List.mem_of_getElem? (i := 1007) (by decide +kernel), List.mem_of_getElem? (i := 1268) (by decide +kernel), List.mem_of_getElem? (i := 1269) (by decide +kernel)⟩
theorem lw_p53 : lw_okq (⟨"TutorLinesModel", "side", "(I)V"⟩, 29) := ⟨⟨by decide +kernel, by decide +kernel⟩, List.mem_of_getElem? (i := 1007) (by decide +kernel), List.mem_of_getElem? (i := 1293) (by decide +kernel), List.mem_of_getElem? (i := 1294) (by decide +kernel)⟩
theorem lw_p54 : lw_okq (⟨"TutorLinesModel", "give", "(I)V"⟩, 29) := ⟨⟨by decide +kernel, by decide +kernel⟩, List.mem_of_getElem? (i := 1007) (by decide +kernel), List.mem_of_getElem? (i := 1297) (by decide +kernel), List.mem_of_getElem? (i := 1298) (by decide +kernel)⟩
theorem lw_p55 : lw_okq (⟨"TutorLinesModel", "size", "(JJ)V"⟩, 29) := ⟨⟨by decide +kernel, by decide +kernel⟩, List.mem_of_getElem? (i := 1007) (by decide +kernel), List.mem_of_getElem? (i := 1301) (by decide +kernel), List.mem_of_getElem? (i := 1302) (by decide +kernel)⟩
theorem lw_p56 : lw_okq (⟨"TutorLinesModel", "decimal", "(J)V"⟩, 29) := ⟨⟨by decide +kernel, by decide +kernel⟩, List.mem_of_getElem? (i := 1007) (by decide +kernel), List.mem_of_getElem? (i := 1305) (by decide +kernel), List.mem_of_getElem? (i := 1306) (by decide +kernel)⟩
def lw_privs_4 : List (MethodName × Nat) := [(⟨"TutorLinesModel", "explained", "()I"⟩, 29), (⟨"TutorLinesModel", "slips", "(I)Z"⟩, 29), (⟨"TutorLinesModel", "scaled", "(I)V"⟩, 29), (⟨"TutorLinesModel", "parts", "(JJ)Z"⟩, 29), (⟨"TutorLinesModel", "isTask", "()Z"⟩, 29), (⟨"TutorLinesModel", "side", "(I)V"⟩, 29), (⟨"TutorLinesModel", "give", "(I)V"⟩, 29), (⟨"TutorLinesModel", "size", "(JJ)V"⟩, 29), (⟨"TutorLinesModel", "decimal", "(J)V"⟩, 29)]
theorem lw_r4 : ∀ q ∈ lw_privs_4, lw_okq q := List.forall_mem_cons.mpr ⟨lw_p48, List.forall_mem_cons.mpr ⟨lw_p49, List.forall_mem_cons.mpr ⟨lw_p50, List.forall_mem_cons.mpr ⟨lw_p51, List.forall_mem_cons.mpr ⟨lw_p52, List.forall_mem_cons.mpr ⟨lw_p53, List.forall_mem_cons.mpr ⟨lw_p54, List.forall_mem_cons.mpr ⟨lw_p55, List.forall_mem_cons.mpr ⟨lw_p56, fun _ h => absurd h List.not_mem_nil⟩⟩⟩⟩⟩⟩⟩⟩⟩
def lw_privs : List (MethodName × Nat) := lw_privs_1 ++ (lw_privs_2 ++ (lw_privs_3 ++ (lw_privs_4)))
def lw_tbl : List Cond := k2_sels lw_privs ++ tables_1
theorem lw_privs_ok : ∀ q ∈ lw_privs, lw_okq q := by
  show ∀ q ∈ lw_privs_1 ++ (lw_privs_2 ++ (lw_privs_3 ++ (lw_privs_4))), lw_okq q
  exact List.forall_mem_append.mpr ⟨lw_r1, List.forall_mem_append.mpr ⟨lw_r2, List.forall_mem_append.mpr ⟨lw_r3, lw_r4⟩⟩⟩
-- ===== end of PART A; then your names; then what follows =====
/-! THE CLAIM OUT OF ONE WALK OF THE LAW'S BODY. Your part is whole_start (and what it stands on); all else here is the same for every law, but numbers. -/
def R_law : String := "TutorLinesLaw"
def lw_P (b : Addr) (xs : List Int32) (args : Array Value) (s : State) : Prop := args = #[.ref b] ∧ s.IntsAt b xs ∧ xs.length ≤ 1536 ∧ (Jvm.Cond.and given_1 narrow_1).before args s = true
def lw_Q (_ : Array Value) (s : State) (o : Outcome) (t : State) : Prop := o = .returned (some (.int 1)) ∧ Framed s o t [] 678900 7059405
def lw_Z (below : List Frame) (a : Array Value) (s : State) : State → Prop := fun t => ∃ o, t.status = .running ∧ Ended t below o ∧ lw_Q a s o t
/-- the law's own end, with 1 on the stack, nothing written that was there before, its room as the claim has it -/
theorem lw_ret {p : Program} {l : Launch} {e : Env} {s : State} {m : MethodId} {below : List Frame} {meth : Method} {c : Code} {b : Nat} (hx : p.tables.exec = Jvm.exec) (hb : c.code = code) (hr : meth.sig.returnType = ret) (hlocks : meth.locks = false) {pc : Nat} {H : Heap} {ls : Array Slot} (hdg : decode code pc = .ok (.ireturn, 1)) : W p l e room_1 s m #[Value.ref b] below meth c H [] 678900 7059405 (lw_Z below #[Value.ref b] s) (F0 m pc ls [.int 1]) := by
  intro T hT X
  obtain ⟨fs, hret, hrun, hended, hW, hframe⟩ := X.leave (v := some (.int 1)) (hlocks := hlocks) (fun h => by rw [hr] at h; cases h)
  have hmeth' : T.vm.method? m = some meth := X.method'
  refine ⟨T.setFrames fs, ?_, .returned (some (.int 1)), hrun, hended, rfl, ⟨_, rfl⟩, hW, hframe⟩
  jvm_step X.here [X.here.top, hx, hb, hdg, hmeth', hr, ret, narrow_b1]
  (try refine ⟨rfl, ?_⟩); (try refine ⟨rfl, ?_⟩)
  first | (intro acts; rw [hret _ acts rfl rfl rfl]) | rw [hret _ _ rfl rfl rfl]
  exact Steps.refl _
/-- what holds at the law's entry: the machine, the code, the tables' words (any of lw_tbl by 'hts w (by decide +kernel)'), the script of L ints xs at the cell b, what the Statement gives of the start (any of its parts by flat_of_before) -/
def lw_At (p : Program) (s : State) (m : MethodId) (meth : Method) (c : Code) (b L : Nat) (xs : Nat → Int32) : Prop :=
  p.tables.exec = Jvm.exec ∧ c.code = code ∧ meth.sig.returnType = ret ∧ c.maxLocals = 8 ∧ s.vm.findClass R_law = some m.cls ∧ (∀ w ∈ lw_tbl, w.before #[Value.ref b] s = true) ∧ va_X b L xs s s.heap ∧ b < s.heap.size ∧ meth.locks = false ∧ (Jvm.Cond.and given_1 narrow_1).before #[Value.ref b] s = true
end
section
/-! ===== BEGIN words of one list among another's, by their places ===== -/
theorem goodIn_r {big : List Cond} (ws : List Cond) (ps : List Nat) (hp : ws = ps.filterMap (fun i => big[i]?)) (h : ws.all goodWord = true) : GoodIn big ws := by
  intro w hw
  have h1 := List.all_eq_true.mp h w hw
  rw [hp] at hw
  obtain ⟨i, -, hi⟩ := List.mem_filterMap.mp hw
  have hm : w ∈ big := by first | exact List.mem_of_getElem? hi | exact List.getElem?_mem hi
  exact ⟨hm, good_of_word h1⟩
theorem goodIn_app {big a b : List Cond} (ha : GoodIn big a) (hb : GoodIn big b) : GoodIn big (a ++ b) := fun w h => (List.mem_append.mp h).elim (ha w) (hb w)
theorem goodIn_ca {big a b : List Cond} {c : Cond} (ha : GoodIn big (c :: a)) (hb : GoodIn big b) : GoodIn big (c :: (a ++ b)) := fun w h => (List.mem_cons.mp h).elim (fun e => ha w (List.mem_cons.mpr (Or.inl e))) (fun h => (List.mem_append.mp h).elim (fun h => ha w (List.mem_cons.mpr (Or.inr h))) (hb w))
theorem goodIn_sub {big ws : List Cond} (hm : ∀ w ∈ ws, w ∈ big) (h : ws.all goodWord = true) : GoodIn big ws := fun w hw => ⟨hm w hw, good_of_word (List.all_eq_true.mp h w hw)⟩
/-! ===== END ===== -/

/-! ===== BEGIN exceptions that leave a method, and their catching by the caller (launches without stack traces) ===== -/
section VXA
/-! The laws vx_back, vx_callV, vx_callS, vx_callSW, vx_throw0, vx_throwS follow proofs of the library, with one case more: JvmDerived/Free/Laws.lean (Back.of_free), Shelf42/LK1.lean (callV, callS), Shelf/KitTraced.lean (throwNew0V, throwNewS). -/
/-- where a method has thrown q: the class by its name, the cell, what was written, the world -/
def vx_T (XC : String → State → State → Prop) (st : State) (q : Addr) (t : State) (mc ms : Nat) (free : Addr → Prop) : Prop :=
  ∃ (E : String) (ce : Cell) (L : List Loc), XC E st t ∧ t.heap[q]? = some ce ∧ ce.vm = .none ∧ st.vm.findClass E = some ce.cls ∧ st.WarmedH t.vm ∧ st.sameButNew ({ t with vm := st.vm } : State) L mc ms ∧ ∀ z ∈ L, free z.base
def vx_Q (Qc : Array Value → State → Outcome → State → Prop) (XC : String → State → State → Prop) (mc ms : Nat) (free : Addr → Prop) : Array Value → State → Outcome → State → Prop := fun a st o t =>
  (Qc a st o t ∧ ∃ L, FrameEnd st o t L mc ms ∧ ∀ q ∈ L, free q.base) ∨ ∃ q, o = .threw q ∧ vx_T XC st q t mc ms free
/-- a callee that returns or throws -/
def vx_Met (l : Launch) (y : MethodName) (ws : List Cond) (rm : Room) (Pc : Array Value → State → Prop) (Qc : Array Value → State → Outcome → State → Prop) (XC : String → State → State → Prop) (mc ms : Nat) (free : Addr → Prop) : Prop :=
  MetFree l y (headSpec ws rm) Pc (fun _ _ _ _ _ => True) (vx_Q Qc XC mc ms free)
def vx_Post (XC : String → State → State → Prop) (mc ms : Nat) (free : Addr → Prop) : Pt → Array Value → Addr → Pt → Prop := fun A a q B =>
  ∃ (g : JFrame) (mk : MethodId) (t : State) (L : List Loc) (E : String) (ce : Cell), B.U.heap = t.heap ∧ B.U.vm = t.vm ∧ XC E (A.U.calling g mk a) t ∧ t.heap[q]? = some ce ∧ ce.vm = .none ∧ A.U.vm.findClass E = some ce.cls ∧ B.locs = A.locs ++ L ∧ (∀ z ∈ L, free z.base) ∧ B.cells = A.cells + mc ∧ B.slots = A.slots + ms
def vx_Back (l : Launch) (R : Room) (p : Program) (e : Env) (below : List Frame) (s : State) (sargs : Array Value) (y : MethodName) (len W9 : Nat)
    (Pre : Pt → Array Value → Prop) (Post : Pt → Array Value → Option Value → Pt → Prop) (PostX : Pt → Array Value → Addr → Pt → Prop) : Prop :=
  ∀ (m : MethodId) (meth : Method) (c : Code) (A : Pt) (g : JFrame) (ig : Instr) (mk : MethodId) (a : Array Value),
    Stand p l e R s m sargs below meth c A.U A.locs A.cells A.slots → g.method = m → g.locals.size = c.maxLocals → decode c.code g.pc = .ok (ig, len) →
    2 * g.monitorRoom + (g.stack.map fun v => v.category).sum ≤ W9 → A.U.methodNamed? y = some mk → Pre A a →
    (∃ (v : Option Value) (B : Pt), Stand p l e R s m sargs below meth c B.U B.locs B.cells B.slots ∧ Post A a v B ∧
      Steps p.tables e below (doInvoke e (A.U.setTop g) [] mk a).1 (B.U.setTop { g with pc := g.pc + len, stack := v.toList ++ g.stack })) ∨
    (∃ (q : Addr) (B : Pt), Stand p l e R s m sargs below meth c B.U B.locs B.cells B.slots ∧ PostX A a q B ∧
      Steps p.tables e below (doInvoke e (A.U.setTop g) [] mk a).1 ((B.U.setTop g).pushFrame (.throwing q)))
section Payer
variable {l : Launch} {R : Room} {p : Program} {e : Env} {below : List Frame} {s : State} {sargs : Array Value} {y : MethodName} {len W9 : Nat}
theorem vx_back {ws : List Cond} {rm : Room} {Pc : Array Value → State → Prop} {Qc : Array Value → State → Outcome → State → Prop} {XC : String → State → State → Prop} {mc ms : Nat} {free : Addr → Prop} {bytes : ByteArray} {maxL : Nat} {ret : Option FieldType}
    (hM : vx_Met l y ws rm Pc Qc XC mc ms free) (hblind : FrameBlind Pc) (hrc : rm.cells = mc) (hrs : rm.slots = ms)
    (hframes : rm.frames + 1 ≤ R.frames) (hlocals : W9 + (maxL + 11) + rm.locals ≤ R.locals)
    (hws : ∀ w ∈ ws, ∀ a' U, s.WarmedH U.vm → w.before a' U = true) (hcode : Cond.code y bytes maxL ret ∈ ws) (hinit : ∀ a' U, s.WarmedH U.vm → (Cond.initialized y.cls).before a' U = true) :
    vx_Back l R p e below s sargs y len W9 (PreOf R mc ms Pc) (PostOf Qc mc ms free) (vx_Post XC mc ms free) := by
  intro m meth c A g ig mk a X hg hsize hdg hW hn hp
  have h1 : (headSpec ws rm).pre.before a A.U = true := atoms_intro fun w hw => hws w hw _ _ X.warmed
  have h2 : (Cond.code y bytes maxL ret).before a A.U = true := hws _ hcode _ _ X.warmed
  have h3 : (Cond.initialized y.cls).before a A.U = true := hinit _ _ X.warmed
  have h4 : A.cells + (headSpec ws rm).room.cells ≤ R.cells := by rw [show (headSpec ws rm).room.cells = mc from hrc]; exact hp.1
  have h5 : A.slots + (headSpec ws rm).room.slots ≤ R.slots := by rw [show (headSpec ws rm).room.slots = ms from hrs]; exact hp.2.1
  have hPc : Pc a (A.U.calling g mk a) := hblind _ _ _ _ hp.2.2
  obtain ⟨U, Ls, c0, s0⟩ := A
  dsimp only [Pt.U, Pt.locs, Pt.cells, Pt.slots] at h1 h2 h3 h4 h5 X hn hPc ⊢
  obtain ⟨methY, cY, hmY, hcY, -, hlY, -, -, -, -⟩ := Cond.code_spec hn h2
  obtain ⟨kY, hkY, -⟩ := className_of_methodNamed hn
  have hinitY : kY.init = .initialized := Cond.initialized_spec (findClass_of_methodNamed hn) hkY h3
  have h : At U g.method c below := by rw [hg]; exact X.here
  have hlocals9 : W9 + (maxL + 11) + (headSpec ws rm).room.locals ≤ R.locals := hlocals
  have happ : (headSpec ws rm).appliesLoose y e.platform (U.calling g mk a) = true :=
    Spec.appliesLoose_calling (g := g) h hdg hn hkY hinitY
      (X.room_calling (g := g) (R' := (headSpec ws rm).room) hsize hmY hcY hframes (by rw [hlY]; omega) h4 h5) h1
  obtain ⟨mid, hmid⟩ := h.above
  have hfr : (U.setTop g).frames = (.java g :: mid) ++ below := by rw [State.frames_setTop' g h.top, hmid]; rfl
  obtain ⟨o, s₂, hsteps, -, hend, hq⟩ := Steps.callFree hM p X.admits X.cas X.clock (acts := []) hfr happ hPc trivial
  have hq' : vx_Q Qc XC mc ms free a (U.calling g mk a) o s₂ := hq
  rw [State.frames_setTop' g h.top] at hend
  obtain ⟨g₀, hg0⟩ := Option.isSome_iff_exists.mp h.top
  obtain ⟨r, hr⟩ := State.topJava?_eq_some.mp hg0
  have hr' : (({ U with heap := s₂.heap, slotsUsed := s₂.slotsUsed } : State).setVm s₂.vm).frames = .java g₀ :: r := hr
  rcases hq' with ⟨hqc, L, hfe, hL⟩ | ⟨q, rfl, E, ce, L, hx, hce, hcv, hcl, hW₂, hsm, hL⟩
  · obtain ⟨⟨v, rfl⟩, hW₂, e2, q2, q3, q4, q5, q6⟩ := id hfe
    have e3 : s₂ = ({ (U.calling g mk a).setFrames s₂.frames with heap := s₂.heap, slotsUsed := s₂.slotsUsed } : State).setVm s₂.vm := by
      have : s₂ = ({ s₂ with vm := (U.calling g mk a).vm } : State).setVm s₂.vm := rfl
      rw [e2] at this
      exact this
    obtain ⟨c₂, i₂, len₂, hc₂, hd₂, hf₂⟩ := hend
    have hW' : U.WarmedH s₂.vm := hW₂
    have hcc : c₂ = c := by
      have h1 : s₂.code? g.method = U.code? g.method := by
        rw [State.code?_eq, State.code?_eq, hW'.alike.method?]
      exact Option.some.inj (hc₂.symm.trans (h1.trans h.code))
    subst hcc
    have hlen : len₂ = len := by rw [hdg] at hd₂; cases hd₂; rfl
    subst hlen
    have hs₂ : s₂ = (({ U with heap := s₂.heap, slotsUsed := s₂.slotsUsed } : State).setVm s₂.vm).setTop { g with pc := g.pc + len₂, stack := v.toList ++ g.stack } := by
      refine e3.trans ?_
      rw [hf₂, State.calling_eq h.top, State.setFrames_setFrames, State.setTop_of_frames _ hr', hr]
      rfl
    have hsame : U.sameButNew ({ U with heap := s₂.heap, slotsUsed := s₂.slotsUsed } : State) L mc ms := by
      refine ⟨?_, q2, q3, q4, q5, q6⟩
      obtain ⟨t, ht, -⟩ := State.frames_cons hr
      show ({ U with heap := s₂.heap, slotsUsed := s₂.slotsUsed } : State) = { U.setFrames U.frames with heap := s₂.heap, slotsUsed := s₂.slotsUsed }
      rw [State.setFrames_self ht]
    subst hg
    refine Or.inl ⟨v, ⟨(({ U with heap := s₂.heap, slotsUsed := s₂.slotsUsed } : State).setVm s₂.vm), Ls ++ L, c0 + mc, s0 + ms⟩,
      ⟨X.admits, X.cas, X.clock, X.frames, X.room, X.hears, X.method, X.code, (X.here.setHeapUsed s₂.heap s₂.slotsUsed).setVm hW'.alike, X.tail, State.WarmedH.trans X.warmed hW', X.limits, X.bytes, X.same.trans (hsame.setVm s.vm)⟩,
      ⟨g, mk, s₂, L, rfl, rfl, hqc, rfl, hL, rfl, rfl⟩, ?_⟩
    show Steps p.tables e below _ ((({ U with heap := s₂.heap, slotsUsed := s₂.slotsUsed } : State).setVm s₂.vm).setTop { g with pc := g.pc + len₂, stack := v.toList ++ g.stack })
    rw [← hs₂]
    exact hsteps
  · obtain ⟨e2, q2, q3, q4, q5, q6⟩ := id hsm
    have e3 : s₂ = ({ (U.calling g mk a).setFrames s₂.frames with heap := s₂.heap, slotsUsed := s₂.slotsUsed } : State).setVm s₂.vm := by
      have : s₂ = ({ s₂ with vm := (U.calling g mk a).vm } : State).setVm s₂.vm := rfl
      rw [e2] at this
      exact this
    have hf₂ : s₂.frames = .throwing q :: .java g :: U.frames.tail := hend
    have hW' : U.WarmedH s₂.vm := hW₂
    have hs₂ : s₂ = ((({ U with heap := s₂.heap, slotsUsed := s₂.slotsUsed } : State).setVm s₂.vm).setTop g).pushFrame (.throwing q) := by
      refine e3.trans ?_
      rw [hf₂, State.calling_eq h.top, State.setFrames_setFrames, State.pushFrame, State.frames_setTop _ hr', State.setTop_of_frames _ hr', State.setFrames_setFrames, hr]
      rfl
    have hsame : U.sameButNew ({ U with heap := s₂.heap, slotsUsed := s₂.slotsUsed } : State) L mc ms := by
      refine ⟨?_, q2, q3, q4, q5, q6⟩
      obtain ⟨t, ht, -⟩ := State.frames_cons hr
      show ({ U with heap := s₂.heap, slotsUsed := s₂.slotsUsed } : State) = { U.setFrames U.frames with heap := s₂.heap, slotsUsed := s₂.slotsUsed }
      rw [State.setFrames_self ht]
    subst hg
    refine Or.inr ⟨q, ⟨(({ U with heap := s₂.heap, slotsUsed := s₂.slotsUsed } : State).setVm s₂.vm), Ls ++ L, c0 + mc, s0 + ms⟩,
      ⟨X.admits, X.cas, X.clock, X.frames, X.room, X.hears, X.method, X.code, (X.here.setHeapUsed s₂.heap s₂.slotsUsed).setVm hW'.alike, X.tail, State.WarmedH.trans X.warmed hW', X.limits, X.bytes, X.same.trans (hsame.setVm s.vm)⟩,
      ⟨g, mk, s₂, L, E, ce, rfl, rfl, hx, hce, hcv, hcl, rfl, hL, rfl, rfl⟩, ?_⟩
    show Steps p.tables e below _ (((({ U with heap := s₂.heap, slotsUsed := s₂.slotsUsed } : State).setVm s₂.vm).setTop g).pushFrame (.throwing q))
    rw [← hs₂]
    exact hsteps
end Payer
section Calls
variable {p : Program} {l : Launch} {e : Env} {R : Room} {s : State} {m : MethodId} {args : Array Value} {below : List Frame} {meth : Method} {c : Code} {T : State} {locs : List Loc} {cells slots : Nat}
theorem vx_callV (X : Stand p l e R s m args below meth c T locs cells slots) (hexec : p.tables.exec = Jvm.exec) {own C : String} {index : Nat} {y : MethodName} {bytes : ByteArray} {maxL : Nat} {ret : Option FieldType}
    (hown : s.vm.findClass own = some m.cls) (hlink : (Cond.methodLink own index y).before args s = true) (hinst : (Cond.instanceMethod y).before args s = true) (hsel : (Cond.selects C y y).before args s = true)
    (hcode : (Cond.code y bytes maxL ret).before args s = true) (hy : y.cls ≠ "java/lang/invoke/MethodHandle" ∧ y.cls ≠ "java/lang/invoke/VarHandle")
    {W9 : Nat} {Pre : Pt → Array Value → Prop} {Post : Pt → Array Value → Option Value → Pt → Prop} {PostX : Pt → Array Value → Addr → Pt → Prop} (hK : vx_Back l R p e below s args y 3 W9 Pre Post PostX)
    {b : Addr} {cellB : Cell} (hcell : T.heap[b]? = some cellB) (hobj : cellB.vm.isStatics = false) (hcls : s.vm.findClass C = some cellB.cls)
    {g : JFrame} (hg : g.method = m) (hsize : g.locals.size = c.maxLocals) {argsL rest : List Value} (hlen : ∀ sig, parseMethodDescriptor y.desc = some sig → argsL.length = sig.parameters.length)
    (hstack : g.stack = argsL.reverse ++ .ref b :: rest) (hW : 2 * g.monitorRoom + (rest.map fun v => v.category).sum ≤ W9) (hdg : decode c.code g.pc = .ok (.invokevirtual index, 3))
    (hpre : ∀ vm₁, s.WarmedH vm₁ → Pre ⟨T.setVm vm₁, locs, cells, slots⟩ (Value.ref b :: argsL).toArray) :
    (∃ (v : Option Value) (vm₁ : Vm) (B : Pt), s.WarmedH vm₁ ∧ Stand p l e R s m args below meth c B.U B.locs B.cells B.slots ∧ Post ⟨T.setVm vm₁, locs, cells, slots⟩ (Value.ref b :: argsL).toArray v B ∧
      ∀ target, Steps p.tables e below (B.U.setTop { g with pc := g.pc + 3, stack := v.toList ++ rest }) target → Steps p.tables e below (T.setTop g) target) ∨
    (∃ (q : Addr) (vm₁ : Vm) (B : Pt), s.WarmedH vm₁ ∧ Stand p l e R s m args below meth c B.U B.locs B.cells B.slots ∧ PostX ⟨T.setVm vm₁, locs, cells, slots⟩ (Value.ref b :: argsL).toArray q B ∧
      Steps p.tables e below (T.setTop g) ((B.U.setTop { g with stack := rest }).pushFrame (.throwing q))) := by
  obtain ⟨mk, methM, hnamed, hmethM, hstM, habM⟩ := Cond.instanceMethod_spec hinst
  obtain ⟨methM', cM, hmethM', -, -, -, -, -, -, hsigM⟩ := Cond.code_spec hnamed hcode
  cases hmethM.symm.trans hmethM'
  obtain ⟨c2, r2, m2, q1, q2, q3, q4, kP, hkP, hkPi⟩ := Cond.selects_spec hsel
  cases hcls.symm.trans q1
  cases (State.methodFound?_of_named hnamed hy).symm.trans q2
  cases hnamed.symm.trans q3
  have hselP : selectMethod e.platform s.vm cellB.cls mk = .method mk := by rw [Launch.admits_selectMethod X.admits]; exact q4
  obtain ⟨vm₁, X₁, hstep₁⟩ := X.invokevirtual hexec hown hlink hnamed hmethM hstM hkP hkPi hy (a := b) (cell := cellB) hcell
    (fun z h => by rw [h] at hobj; cases hobj) hselP hmethM habM hkP hkPi (g := g) hg (argsL := argsL) (rest := rest) (hlen _ hsigM) hstack hdg
  rcases hK m meth c ⟨T.setVm vm₁, locs, cells, slots⟩ { g with stack := rest } (.invokevirtual index) mk (Value.ref b :: argsL).toArray X₁ hg hsize hdg hW (X₁.named hnamed) (hpre vm₁ X₁.warmed) with ⟨v, B, X', hpost, hsteps⟩ | ⟨q, B, X', hpost, hsteps⟩
  · exact Or.inl ⟨v, vm₁, B, X₁.warmed, X', hpost, fun target h => hstep₁ _ fun acts => by rw [doInvoke_state]; exact hsteps.trans h⟩
  · exact Or.inr ⟨q, vm₁, B, X₁.warmed, X', hpost, hstep₁ _ fun acts => by rw [doInvoke_state]; exact hsteps⟩
theorem vx_callS (X : Stand p l e R s m args below meth c T locs cells slots) (hexec : p.tables.exec = Jvm.exec) {own : String} {index : Nat} {y : MethodName} {bytes : ByteArray} {maxL : Nat} {ret : Option FieldType}
    (hown : s.vm.findClass own = some m.cls) (hlink : (Cond.methodLink own index y).before args s = true) (hstat : (Cond.static y).before args s = true) (hinit : (Cond.initialized y.cls).before args s = true)
    (hcode : (Cond.code y bytes maxL ret).before args s = true) (hy : y.cls ≠ "java/lang/invoke/MethodHandle" ∧ y.cls ≠ "java/lang/invoke/VarHandle")
    {W9 : Nat} {Pre : Pt → Array Value → Prop} {Post : Pt → Array Value → Option Value → Pt → Prop} {PostX : Pt → Array Value → Addr → Pt → Prop} (hK : vx_Back l R p e below s args y 3 W9 Pre Post PostX)
    {g : JFrame} (hg : g.method = m) (hsize : g.locals.size = c.maxLocals) {argsL rest : List Value} (hlen : ∀ sig, parseMethodDescriptor y.desc = some sig → argsL.length = sig.parameters.length)
    (hstack : g.stack = argsL.reverse ++ rest) (hW : 2 * g.monitorRoom + (rest.map fun v => v.category).sum ≤ W9) (hdg : decode c.code g.pc = .ok (.invokestatic index, 3))
    (hpre : ∀ vm₁, s.WarmedH vm₁ → Pre ⟨T.setVm vm₁, locs, cells, slots⟩ argsL.toArray) :
    (∃ (v : Option Value) (vm₁ : Vm) (B : Pt), s.WarmedH vm₁ ∧ Stand p l e R s m args below meth c B.U B.locs B.cells B.slots ∧ Post ⟨T.setVm vm₁, locs, cells, slots⟩ argsL.toArray v B ∧
      ∀ target, Steps p.tables e below (B.U.setTop { g with pc := g.pc + 3, stack := v.toList ++ rest }) target → Steps p.tables e below (T.setTop g) target) ∨
    (∃ (q : Addr) (vm₁ : Vm) (B : Pt), s.WarmedH vm₁ ∧ Stand p l e R s m args below meth c B.U B.locs B.cells B.slots ∧ PostX ⟨T.setVm vm₁, locs, cells, slots⟩ argsL.toArray q B ∧
      Steps p.tables e below (T.setTop g) ((B.U.setTop { g with stack := rest }).pushFrame (.throwing q))) := by
  obtain ⟨mk, hnamed⟩ := Cond.code_named hcode
  obtain ⟨methM, cM, hmethM, -, -, -, -, -, -, hsigM⟩ := Cond.code_spec hnamed hcode
  have hstatic : methM.isStatic = true := Cond.static_spec hnamed hmethM hstat
  obtain ⟨kP, hkP, -⟩ := className_of_methodNamed hnamed
  have hinitP : kP.init = .initialized := Cond.initialized_spec (findClass_of_methodNamed hnamed) hkP hinit
  obtain ⟨vm₁, X₁, hstep₁⟩ := X.invokestatic hexec hown hlink hnamed hmethM hstatic hkP hinitP hy (g := g) hg (argsL := argsL) (rest := rest) (hlen _ hsigM) hstack hdg
  rcases hK m meth c ⟨T.setVm vm₁, locs, cells, slots⟩ { g with stack := rest } (.invokestatic index) mk argsL.toArray X₁ hg hsize hdg hW (X₁.named hnamed) (hpre vm₁ X₁.warmed) with ⟨v, B, X', hpost, hsteps⟩ | ⟨q, B, X', hpost, hsteps⟩
  · exact Or.inl ⟨v, vm₁, B, X₁.warmed, X', hpost, fun target h => hstep₁ _ fun acts => by rw [doInvoke_state]; exact hsteps.trans h⟩
  · exact Or.inr ⟨q, vm₁, B, X₁.warmed, X', hpost, hstep₁ _ fun acts => by rw [doInvoke_state]; exact hsteps⟩
end Calls
theorem vx_cls {s : State} {T : State} {vm₁ : Vm} {E : String} {k : ClassId} (hW : s.WarmedH vm₁) (h : (T.setVm vm₁).vm.findClass E = some k) : s.vm.findClass E = some k := by
  have h1 : vm₁.findClass E = some k := h
  rw [hW.alike.findClass] at h1
  exact h1
/-- the method's frame g, with q thrown over it -/
def vx_W (p : Program) (l : Launch) (e : Env) (R : Room) (s : State) (m : MethodId) (args : Array Value) (below : List Frame) (meth : Method) (c : Code) (H : Heap) (locs : List Loc) (cells slots : Nat) (Q : State → Prop) (g : JFrame) (q : Addr) : Prop :=
  ∀ T : State, T.heap = H → Stand p l e R s m args below meth c T locs cells slots → ∃ t, Steps p.tables e below ((T.setTop g).pushFrame (.throwing q)) t ∧ Q t
def vx_Run (p : Program) (l : Launch) (e : Env) (R : Room) (s : State) (m : MethodId) (args : Array Value) (below : List Frame) (meth : Method) (c : Code) (H : Heap) (locs : List Loc) (cells slots mc ms : Nat) (g : JFrame) (rest : List Value) (Qa : State → Outcome → State → Prop) (XC : String → State → State → Prop) (free : Addr → Prop) : Prop :=
  ∀ T : State, T.heap = H → Stand p l e R s m args below meth c T locs cells slots →
    (∃ (v : Option Value) (st₀ t T' : State) (L : List Loc), st₀.heap = H ∧ Stand p l e R s m args below meth c T' (locs ++ L) (cells + mc) (slots + ms) ∧ (∀ q ∈ L, free q.base) ∧ T'.heap = t.heap ∧ T'.vm = t.vm ∧ Qa st₀ (.returned v) t ∧
      Goes p e below T g T' { g with pc := g.pc + 3, stack := v.toList ++ rest }) ∨
    (∃ (q : Addr) (st₀ t T' : State) (L : List Loc) (E : String) (ce : Cell), st₀.heap = H ∧ Stand p l e R s m args below meth c T' (locs ++ L) (cells + mc) (slots + ms) ∧ (∀ z ∈ L, free z.base) ∧ T'.heap = t.heap ∧ T'.vm = t.vm ∧ XC E st₀ t ∧ t.heap[q]? = some ce ∧ ce.vm = .none ∧ s.vm.findClass E = some ce.cls ∧
      Steps p.tables e below (T.setTop g) ((T'.setTop { g with stack := rest }).pushFrame (.throwing q)))
def vx_X {S : Type} (px : S → Prop) (B : String → S → State → Prop) (A : Nat → Prop) : String → State → State → Prop := fun E st t => ∃ u : S, px u ∧ B E u t ∧ va_F A st t
section Runs
variable {p : Program} {l : Launch} {e : Env} {R : Room} {s : State} {m : MethodId} {args : Array Value} {below : List Frame} {meth : Method} {c : Code} {H : Heap} {locs : List Loc} {cells slots : Nat}
variable {y : MethodName} {bytes cc : ByteArray} {maxL nL mc ms n index : Nat} {ret : Option FieldType} {ws : List Cond} {rm : Room} {Pc : Array Value → State → Prop} {Qc : Array Value → State → Outcome → State → Prop} {XC : String → State → State → Prop} {free : Addr → Prop} {Ts : List Cond} {own C : String} {b : Addr} {As rest : List Value} {g : JFrame}
theorem vx_callBack (cb : CallB R s args own index y bytes maxL ret ws rm mc ms n) (hM : vx_Met l y ws rm Pc Qc XC mc ms free) (hbl : FrameBlind Pc) : vx_Back l R p e below s args y 3 8 (PreOf R mc ms Pc) (PostOf Qc mc ms free) (vx_Post XC mc ms free) := by
  obtain ⟨hrc, hrs, hfr, hlo, hws, hcw, -, hini, -⟩ := cb
  exact vx_back (bytes := bytes) (maxL := maxL) (ret := ret) hM hbl hrc hrs hfr hlo hws hcw (fun a' U hW => word_at hW (Or.inl (by first | rfl | simp [Cond.onTables, Cond.keeps, Cond.steady])) hini)
theorem vx_runV (S : CallFix p m c cc nL s args Ts own) (hM : vx_Met l y ws rm Pc Qc XC mc ms free) (cw : CallW R s args own C index y bytes maxL ret ws rm mc ms n) (hp : PreV s H C b Pc As)
    (hg : g.method = m) (hn : As.length = n) (hsize : g.locals.size = nL) (hstack : g.stack = As.reverse ++ .ref b :: rest) (hW : 2 * g.monitorRoom + (rest.map fun v => v.category).sum ≤ 8) (hdg : decode cc g.pc = .ok (.invokevirtual index, 3)) (hf : cells + mc ≤ R.cells ∧ slots + ms ≤ R.slots) :
    vx_Run p l e R s m args below meth c H locs cells slots mc ms g rest (Qc (Value.ref b :: As).toArray) XC free := by
  have hK : vx_Back l R p e below s args y 3 8 (PreOf R mc ms Pc) (PostOf Qc mc ms free) (vx_Post XC mc ms free) := vx_callBack cw.1 hM hp.1
  obtain ⟨⟨-, -, -, -, -, -, hcode, -, hy, hlen, hl⟩, hin, hse⟩ := cw
  obtain ⟨hx, hb, hml, ho, -⟩ := S
  obtain ⟨-, ⟨cellB, hcB, hoB, hclB⟩, hPc⟩ := hp
  intro T hT X
  rcases vx_callV X hx (C := C) (bytes := bytes) (maxL := maxL) (ret := ret) ho hl hin hse hcode hy hK (by rw [hT]; exact hcB) hoB hclB hg (hsize.trans hml.symm) (argsL := As) (rest := rest) (fun sig h => hn.trans (hlen sig h)) hstack hW (by rw [hb]; exact hdg)
    (fun vm₁ hW₁ => ⟨hf.1, hf.2, hPc (T.setVm vm₁) hT hW₁⟩) with ⟨v, vm₁, ⟨U', l2, c2, s2⟩, hW₁, X', ⟨g', mk, t, L, e1, e2, hq, h1, hL, h2, h3⟩, st⟩ | ⟨q, vm₁, ⟨U', l2, c2, s2⟩, hW₁, X', ⟨g', mk, t, L, E, ce, e1, e2, hq, hce, hcv, hcl, h1, hL, h2, h3⟩, st⟩
  · dsimp only [Pt.U, Pt.locs, Pt.cells, Pt.slots] at X' e1 e2 h1 h2 h3 st
    subst h1; subst h2; subst h3
    exact Or.inl ⟨v, (T.setVm vm₁).calling g' mk (Value.ref b :: As).toArray, t, U', L, hT, X', hL, e1, e2, hq, st⟩
  · dsimp only [Pt.U, Pt.locs, Pt.cells, Pt.slots] at X' e1 e2 h1 h2 h3 st hcl
    subst h1; subst h2; subst h3
    exact Or.inr ⟨q, (T.setVm vm₁).calling g' mk (Value.ref b :: As).toArray, t, U', L, E, ce, hT, X', hL, e1, e2, hq, hce, hcv, vx_cls hW₁ hcl, st⟩
theorem vx_runS (S : CallFix p m c cc nL s args Ts own) (hM : vx_Met l y ws rm Pc Qc XC mc ms free) (cw : CallB R s args own index y bytes maxL ret ws rm mc ms n ∧ (Cond.static y).before args s = true) (hp : PreS s H Pc As)
    (hg : g.method = m) (hn : As.length = n) (hsize : g.locals.size = nL) (hstack : g.stack = As.reverse ++ rest) (hW : 2 * g.monitorRoom + (rest.map fun v => v.category).sum ≤ 8) (hdg : decode cc g.pc = .ok (.invokestatic index, 3)) (hf : cells + mc ≤ R.cells ∧ slots + ms ≤ R.slots) :
    vx_Run p l e R s m args below meth c H locs cells slots mc ms g rest (Qc As.toArray) XC free := by
  have hK : vx_Back l R p e below s args y 3 8 (PreOf R mc ms Pc) (PostOf Qc mc ms free) (vx_Post XC mc ms free) := vx_callBack cw.1 hM hp.1
  obtain ⟨⟨-, -, -, -, -, -, hcode, hini, hy, hlen, hl⟩, hstt⟩ := cw
  obtain ⟨hx, hb, hml, ho, -⟩ := S
  intro T hT X
  rcases vx_callS X hx (bytes := bytes) (maxL := maxL) (ret := ret) ho hl hstt hini hcode hy hK hg (hsize.trans hml.symm) (argsL := As) (rest := rest) (fun sig h => hn.trans (hlen sig h)) hstack hW (by rw [hb]; exact hdg)
    (fun vm₁ hW₁ => ⟨hf.1, hf.2, hp.2 (T.setVm vm₁) hT hW₁⟩) with ⟨v, vm₁, ⟨U', l2, c2, s2⟩, hW₁, X', ⟨g', mk, t, L, e1, e2, hq, h1, hL, h2, h3⟩, st⟩ | ⟨q, vm₁, ⟨U', l2, c2, s2⟩, hW₁, X', ⟨g', mk, t, L, E, ce, e1, e2, hq, hce, hcv, hcl, h1, hL, h2, h3⟩, st⟩
  · dsimp only [Pt.U, Pt.locs, Pt.cells, Pt.slots] at X' e1 e2 h1 h2 h3 st
    subst h1; subst h2; subst h3
    exact Or.inl ⟨v, (T.setVm vm₁).calling g' mk As.toArray, t, U', L, hT, X', hL, e1, e2, hq, st⟩
  · dsimp only [Pt.U, Pt.locs, Pt.cells, Pt.slots] at X' e1 e2 h1 h2 h3 st hcl
    subst h1; subst h2; subst h3
    exact Or.inr ⟨q, (T.setVm vm₁).calling g' mk As.toArray, t, U', L, E, ce, hT, X', hL, e1, e2, hq, hce, hcv, vx_cls hW₁ hcl, st⟩
end Runs
section Rows
variable {p : Program} {l : Launch} {e : Env} {R : Room} {s : State} {m : MethodId} {args : Array Value} {below : List Frame} {meth : Method} {c : Code} {H : Heap} {locs : List Loc} {cells slots : Nat} {Q : State → Prop}
variable {mc ms : Nat} {free : Addr → Prop} {A0 A1 : Nat → Prop} {H0 : Heap} {a : Array Value} {pc : Nat} {ls : Array Slot} {st0 rest : List Value}
theorem vx_keep {st₀ t T' : State} {L : List Loc} (h0 : st₀.heap = H) (e1 : T'.heap = t.heap) (hS : va_S A0 H0 H locs) (hA : ∀ q, q < H.size → A1 q → A0 q) (hf : ∀ q, free q → A0 q) (hL : ∀ q ∈ L, free q.base) (hF : va_F A1 st₀ t) :
    H.size ≤ T'.heap.size ∧ (∀ q : Nat, q < H.size → ¬ A1 q → T'.heap[q]? = H[q]?) ∧ va_S A0 H0 T'.heap (locs ++ L) := by
  obtain ⟨hz, hk⟩ := hF
  rw [h0] at hz hk
  exact ⟨by rw [e1]; exact hz, fun q h1 h2 => by rw [e1]; exact hk q h1 h2,
    ⟨Nat.le_trans hS.1 (by rw [e1]; exact hz), fun q h1 h2 => by rw [e1, hk q (Nat.lt_of_lt_of_le h1 hS.1) (fun z => h2 (hA q (Nat.lt_of_lt_of_le h1 hS.1) z))]; exact hS.2.1 q h1 h2, fun q hq => by
      rcases List.mem_append.mp hq with h | h
      · exact hS.2.2 q h
      · exact hf _ (hL q h)⟩⟩
theorem vx_calli {S SX : Type} {post : Int32 → S → Prop} {px : SX → Prop} {B : S → State → Prop} {BX : String → SX → State → Prop} {AX : Nat → Prop} (hr : vx_Run p l e R s m args below meth c H locs cells slots mc ms (F0 m pc ls st0) rest (va_Qi post B A1 a) (vx_X px BX AX) free) (hS : va_S A0 H0 H locs) (hA : ∀ q, q < H.size → A1 q → A0 q) (hf : ∀ q, free q → A0 q) (hAX : ∀ q, q < H.size → AX q → A0 q)
    (kx : ∀ (E : String) (ce : Cell) (q9 : Addr) (u : SX) (t : State) (H1 : Heap) (locs1 : List Loc), t.heap = H1 → s.vm.Alike t.vm → px u → BX E u t → H.size ≤ H1.size → (∀ q : Nat, q < H.size → ¬ AX q → H1[q]? = H[q]?) → va_S A0 H0 H1 locs1 → H1[q9]? = some ce → ce.vm = .none → s.vm.findClass E = some ce.cls → vx_W p l e R s m args below meth c H1 locs1 (cells + mc) (slots + ms) Q (F0 m pc ls rest) q9)
    (kk : ∀ (r : Int32) (u : S) (t : State) (H1 : Heap) (locs1 : List Loc), t.heap = H1 → s.vm.Alike t.vm → post r u → B u t → H.size ≤ H1.size → (∀ q : Nat, q < H.size → ¬ A1 q → H1[q]? = H[q]?) → va_S A0 H0 H1 locs1 → W p l e R s m args below meth c H1 locs1 (cells + mc) (slots + ms) Q (F0 m (pc + 3) ls (.int r :: rest))) : W p l e R s m args below meth c H locs cells slots Q (F0 m pc ls st0) := by
  intro T hT X
  rcases hr T hT X with ⟨v, st₀, t, T', L, h0, X', hL, e1, e2, ⟨⟨r, u, hv, hp, hb⟩, hF⟩, st⟩ | ⟨q, st₀, t, T', L, E, ce, h0, X', hL, e1, e2, ⟨u, hp, hb, hF⟩, hce, hcv, hcl, st⟩
  · cases hv
    obtain ⟨k1, k2, k3⟩ := vx_keep h0 e1 hS hA hf hL hF
    obtain ⟨t2, a1, b1⟩ := kk r u t T'.heap (locs ++ L) e1.symm (by rw [← e2]; exact X'.warmed.alike) hp hb k1 k2 k3 T' rfl X'
    exact ⟨t2, st t2 a1, b1⟩
  · obtain ⟨k1, k2, k3⟩ := vx_keep h0 e1 hS hAX hf hL hF
    obtain ⟨t2, a1, b1⟩ := kx E ce q u t T'.heap (locs ++ L) e1.symm (by rw [← e2]; exact X'.warmed.alike) hp hb k1 k2 k3 (by rw [e1]; exact hce) hcv hcl T' rfl X'
    exact ⟨t2, st.trans a1, b1⟩
theorem vx_calll {S SX : Type} {post : Int64 → S → Prop} {px : SX → Prop} {B : S → State → Prop} {BX : String → SX → State → Prop} {AX : Nat → Prop} (hr : vx_Run p l e R s m args below meth c H locs cells slots mc ms (F0 m pc ls st0) rest (va_Ql post B A1 a) (vx_X px BX AX) free) (hS : va_S A0 H0 H locs) (hA : ∀ q, q < H.size → A1 q → A0 q) (hf : ∀ q, free q → A0 q) (hAX : ∀ q, q < H.size → AX q → A0 q)
    (kx : ∀ (E : String) (ce : Cell) (q9 : Addr) (u : SX) (t : State) (H1 : Heap) (locs1 : List Loc), t.heap = H1 → s.vm.Alike t.vm → px u → BX E u t → H.size ≤ H1.size → (∀ q : Nat, q < H.size → ¬ AX q → H1[q]? = H[q]?) → va_S A0 H0 H1 locs1 → H1[q9]? = some ce → ce.vm = .none → s.vm.findClass E = some ce.cls → vx_W p l e R s m args below meth c H1 locs1 (cells + mc) (slots + ms) Q (F0 m pc ls rest) q9)
    (kk : ∀ (r : Int64) (u : S) (t : State) (H1 : Heap) (locs1 : List Loc), t.heap = H1 → s.vm.Alike t.vm → post r u → B u t → H.size ≤ H1.size → (∀ q : Nat, q < H.size → ¬ A1 q → H1[q]? = H[q]?) → va_S A0 H0 H1 locs1 → W p l e R s m args below meth c H1 locs1 (cells + mc) (slots + ms) Q (F0 m (pc + 3) ls (.long r :: rest))) : W p l e R s m args below meth c H locs cells slots Q (F0 m pc ls st0) := by
  intro T hT X
  rcases hr T hT X with ⟨v, st₀, t, T', L, h0, X', hL, e1, e2, ⟨⟨r, u, hv, hp, hb⟩, hF⟩, st⟩ | ⟨q, st₀, t, T', L, E, ce, h0, X', hL, e1, e2, ⟨u, hp, hb, hF⟩, hce, hcv, hcl, st⟩
  · cases hv
    obtain ⟨k1, k2, k3⟩ := vx_keep h0 e1 hS hA hf hL hF
    obtain ⟨t2, a1, b1⟩ := kk r u t T'.heap (locs ++ L) e1.symm (by rw [← e2]; exact X'.warmed.alike) hp hb k1 k2 k3 T' rfl X'
    exact ⟨t2, st t2 a1, b1⟩
  · obtain ⟨k1, k2, k3⟩ := vx_keep h0 e1 hS hAX hf hL hF
    obtain ⟨t2, a1, b1⟩ := kx E ce q u t T'.heap (locs ++ L) e1.symm (by rw [← e2]; exact X'.warmed.alike) hp hb k1 k2 k3 (by rw [e1]; exact hce) hcv hcl T' rfl X'
    exact ⟨t2, st.trans a1, b1⟩
theorem vx_callf {S SX : Type} {post : UInt32 → S → Prop} {px : SX → Prop} {B : S → State → Prop} {BX : String → SX → State → Prop} {AX : Nat → Prop} (hr : vx_Run p l e R s m args below meth c H locs cells slots mc ms (F0 m pc ls st0) rest (va_Qf post B A1 a) (vx_X px BX AX) free) (hS : va_S A0 H0 H locs) (hA : ∀ q, q < H.size → A1 q → A0 q) (hf : ∀ q, free q → A0 q) (hAX : ∀ q, q < H.size → AX q → A0 q)
    (kx : ∀ (E : String) (ce : Cell) (q9 : Addr) (u : SX) (t : State) (H1 : Heap) (locs1 : List Loc), t.heap = H1 → s.vm.Alike t.vm → px u → BX E u t → H.size ≤ H1.size → (∀ q : Nat, q < H.size → ¬ AX q → H1[q]? = H[q]?) → va_S A0 H0 H1 locs1 → H1[q9]? = some ce → ce.vm = .none → s.vm.findClass E = some ce.cls → vx_W p l e R s m args below meth c H1 locs1 (cells + mc) (slots + ms) Q (F0 m pc ls rest) q9)
    (kk : ∀ (r : UInt32) (u : S) (t : State) (H1 : Heap) (locs1 : List Loc), t.heap = H1 → s.vm.Alike t.vm → post r u → B u t → H.size ≤ H1.size → (∀ q : Nat, q < H.size → ¬ A1 q → H1[q]? = H[q]?) → va_S A0 H0 H1 locs1 → W p l e R s m args below meth c H1 locs1 (cells + mc) (slots + ms) Q (F0 m (pc + 3) ls (.float r :: rest))) : W p l e R s m args below meth c H locs cells slots Q (F0 m pc ls st0) := by
  intro T hT X
  rcases hr T hT X with ⟨v, st₀, t, T', L, h0, X', hL, e1, e2, ⟨⟨r, u, hv, hp, hb⟩, hF⟩, st⟩ | ⟨q, st₀, t, T', L, E, ce, h0, X', hL, e1, e2, ⟨u, hp, hb, hF⟩, hce, hcv, hcl, st⟩
  · cases hv
    obtain ⟨k1, k2, k3⟩ := vx_keep h0 e1 hS hA hf hL hF
    obtain ⟨t2, a1, b1⟩ := kk r u t T'.heap (locs ++ L) e1.symm (by rw [← e2]; exact X'.warmed.alike) hp hb k1 k2 k3 T' rfl X'
    exact ⟨t2, st t2 a1, b1⟩
  · obtain ⟨k1, k2, k3⟩ := vx_keep h0 e1 hS hAX hf hL hF
    obtain ⟨t2, a1, b1⟩ := kx E ce q u t T'.heap (locs ++ L) e1.symm (by rw [← e2]; exact X'.warmed.alike) hp hb k1 k2 k3 (by rw [e1]; exact hce) hcv hcl T' rfl X'
    exact ⟨t2, st.trans a1, b1⟩
theorem vx_calld {S SX : Type} {post : UInt64 → S → Prop} {px : SX → Prop} {B : S → State → Prop} {BX : String → SX → State → Prop} {AX : Nat → Prop} (hr : vx_Run p l e R s m args below meth c H locs cells slots mc ms (F0 m pc ls st0) rest (va_Qd post B A1 a) (vx_X px BX AX) free) (hS : va_S A0 H0 H locs) (hA : ∀ q, q < H.size → A1 q → A0 q) (hf : ∀ q, free q → A0 q) (hAX : ∀ q, q < H.size → AX q → A0 q)
    (kx : ∀ (E : String) (ce : Cell) (q9 : Addr) (u : SX) (t : State) (H1 : Heap) (locs1 : List Loc), t.heap = H1 → s.vm.Alike t.vm → px u → BX E u t → H.size ≤ H1.size → (∀ q : Nat, q < H.size → ¬ AX q → H1[q]? = H[q]?) → va_S A0 H0 H1 locs1 → H1[q9]? = some ce → ce.vm = .none → s.vm.findClass E = some ce.cls → vx_W p l e R s m args below meth c H1 locs1 (cells + mc) (slots + ms) Q (F0 m pc ls rest) q9)
    (kk : ∀ (r : UInt64) (u : S) (t : State) (H1 : Heap) (locs1 : List Loc), t.heap = H1 → s.vm.Alike t.vm → post r u → B u t → H.size ≤ H1.size → (∀ q : Nat, q < H.size → ¬ A1 q → H1[q]? = H[q]?) → va_S A0 H0 H1 locs1 → W p l e R s m args below meth c H1 locs1 (cells + mc) (slots + ms) Q (F0 m (pc + 3) ls (.double r :: rest))) : W p l e R s m args below meth c H locs cells slots Q (F0 m pc ls st0) := by
  intro T hT X
  rcases hr T hT X with ⟨v, st₀, t, T', L, h0, X', hL, e1, e2, ⟨⟨r, u, hv, hp, hb⟩, hF⟩, st⟩ | ⟨q, st₀, t, T', L, E, ce, h0, X', hL, e1, e2, ⟨u, hp, hb, hF⟩, hce, hcv, hcl, st⟩
  · cases hv
    obtain ⟨k1, k2, k3⟩ := vx_keep h0 e1 hS hA hf hL hF
    obtain ⟨t2, a1, b1⟩ := kk r u t T'.heap (locs ++ L) e1.symm (by rw [← e2]; exact X'.warmed.alike) hp hb k1 k2 k3 T' rfl X'
    exact ⟨t2, st t2 a1, b1⟩
  · obtain ⟨k1, k2, k3⟩ := vx_keep h0 e1 hS hAX hf hL hF
    obtain ⟨t2, a1, b1⟩ := kx E ce q u t T'.heap (locs ++ L) e1.symm (by rw [← e2]; exact X'.warmed.alike) hp hb k1 k2 k3 (by rw [e1]; exact hce) hcv hcl T' rfl X'
    exact ⟨t2, st.trans a1, b1⟩
theorem vx_callv {S SX : Type} {post : S → Prop} {px : SX → Prop} {B : S → State → Prop} {BX : String → SX → State → Prop} {AX : Nat → Prop} (hr : vx_Run p l e R s m args below meth c H locs cells slots mc ms (F0 m pc ls st0) rest (va_Qv post B A1 a) (vx_X px BX AX) free) (hS : va_S A0 H0 H locs) (hA : ∀ q, q < H.size → A1 q → A0 q) (hf : ∀ q, free q → A0 q) (hAX : ∀ q, q < H.size → AX q → A0 q)
    (kx : ∀ (E : String) (ce : Cell) (q9 : Addr) (u : SX) (t : State) (H1 : Heap) (locs1 : List Loc), t.heap = H1 → s.vm.Alike t.vm → px u → BX E u t → H.size ≤ H1.size → (∀ q : Nat, q < H.size → ¬ AX q → H1[q]? = H[q]?) → va_S A0 H0 H1 locs1 → H1[q9]? = some ce → ce.vm = .none → s.vm.findClass E = some ce.cls → vx_W p l e R s m args below meth c H1 locs1 (cells + mc) (slots + ms) Q (F0 m pc ls rest) q9)
    (kk : ∀ (u : S) (t : State) (H1 : Heap) (locs1 : List Loc), t.heap = H1 → s.vm.Alike t.vm → post u → B u t → H.size ≤ H1.size → (∀ q : Nat, q < H.size → ¬ A1 q → H1[q]? = H[q]?) → va_S A0 H0 H1 locs1 → W p l e R s m args below meth c H1 locs1 (cells + mc) (slots + ms) Q (F0 m (pc + 3) ls (rest))) : W p l e R s m args below meth c H locs cells slots Q (F0 m pc ls st0) := by
  intro T hT X
  rcases hr T hT X with ⟨v, st₀, t, T', L, h0, X', hL, e1, e2, ⟨⟨u, hv, hp, hb⟩, hF⟩, st⟩ | ⟨q, st₀, t, T', L, E, ce, h0, X', hL, e1, e2, ⟨u, hp, hb, hF⟩, hce, hcv, hcl, st⟩
  · cases hv
    obtain ⟨k1, k2, k3⟩ := vx_keep h0 e1 hS hA hf hL hF
    obtain ⟨t2, a1, b1⟩ := kk u t T'.heap (locs ++ L) e1.symm (by rw [← e2]; exact X'.warmed.alike) hp hb k1 k2 k3 T' rfl X'
    exact ⟨t2, st t2 a1, b1⟩
  · obtain ⟨k1, k2, k3⟩ := vx_keep h0 e1 hS hAX hf hL hF
    obtain ⟨t2, a1, b1⟩ := kx E ce q u t T'.heap (locs ++ L) e1.symm (by rw [← e2]; exact X'.warmed.alike) hp hb k1 k2 k3 (by rw [e1]; exact hce) hcv hcl T' rfl X'
    exact ⟨t2, st.trans a1, b1⟩
end Rows
section Ends
variable {p : Program} {l : Launch} {e : Env} {R : Room} {s : State} {m : MethodId} {args : Array Value} {below : List Frame} {meth : Method} {c : Code} {H : Heap} {locs : List Loc} {cells slots : Nat} {Q : State → Prop}
variable {mc ms : Nat} {free : Addr → Prop} {A0 A1 : Nat → Prop} {H0 : Heap} {a : Array Value} {ls : Array Slot} {st0 rest : List Value}
variable {Qc : Array Value → State → Outcome → State → Prop} {XC : String → State → State → Prop}
/-- what a body that may throw owes at its end -/
def vx_MQ (below : List Frame) (Qc : Array Value → State → Outcome → State → Prop) (XC : String → State → State → Prop) (a : Array Value) (s : State) (mc ms : Nat) (free : Addr → Prop) : State → Prop := fun t =>
  ∃ o, t.status = .running ∧ Ended t below o ∧ vx_Q Qc XC mc ms free a s o t
theorem vx_ret {g : JFrame} {mc ms : Nat} (k : W p l e R s m args below meth c H locs cells slots (MQ below Qc args s mc ms free) g) : W p l e R s m args below meth c H locs cells slots (vx_MQ below Qc XC args s mc ms free) g := by
  intro T hT X
  obtain ⟨t, a1, o, b1, b2, b3, b4⟩ := k T hT X
  exact ⟨t, a1, o, b1, b2, Or.inl ⟨b3, b4⟩⟩
/-- not caught here: it goes on to the caller -/
theorem vx_widen {g : JFrame} {q : Addr} {k n : Nat} (h1 : cells ≤ k) (h2 : slots ≤ n) (kk : vx_W p l e R s m args below meth c H locs k n Q g q) : vx_W p l e R s m args below meth c H locs cells slots Q g q := fun T hT X => kk T hT (stand_widen X h1 h2)
theorem vx_out {pc : Nat} {E : String} {ce : Cell} {q : Addr} {mc ms : Nat} (hout : ∀ x ∈ c.exceptionTable.toList, covers x pc = false) (hlocks : meth.locks = false) (hcell : H[q]? = some ce) (hv : ce.vm = .none) (hcl : s.vm.findClass E = some ce.cls)
    (hx : ∀ t : State, t.heap = H → s.vm.Alike t.vm → XC E s t) (hf : ∀ z ∈ locs, free z.base) (hc : cells ≤ mc) (hs : slots ≤ ms) :
    vx_W p l e R s m args below meth c H locs cells slots (vx_MQ below Qc XC args s mc ms free) (F0 m pc ls rest) q := by
  intro T hT X
  obtain ⟨st1, hrun, hend, hW, hsm⟩ := X.leaveThrown q (g := F0 m pc ls rest) rfl rfl rfl hout hlocks
  have hcell9 : (T.setFrames (.throwing q :: below)).heap[q]? = some ce := by
    show T.heap[q]? = some ce
    rw [hT]; exact hcell
  exact ⟨_, st1, .threw q, hrun, hend, Or.inr ⟨q, rfl, E, ce, locs, hx _ hT hW.alike, hcell9, hv, hcl, hW, hsm.mono hc hs, hf⟩⟩
theorem vx_frame {U : State} {k n : Nat} (h : s.sameButNew ({ U with vm := s.vm } : State) locs k n) : s.heap.size ≤ U.heap.size ∧ ∀ q : Nat, q < s.heap.size → (∀ z ∈ locs, z.base ≠ q) → U.heap[q]? = s.heap[q]? := by
  obtain ⟨-, h2, -, -, -, h6⟩ := h
  refine ⟨h2, fun q hq hz => ?_⟩
  obtain ⟨c9, e1, e2, e3, e4⟩ := h6 q _ (Array.getElem?_eq_getElem hq)
  have hs : c9.slots = (s.heap[q]).slots := Array.ext_getElem? fun i => e4 i fun hm => hz _ hm rfl
  have h9 : c9 = s.heap[q] := by
    rw [hs] at e2
    exact e2
  have e5 : U.heap[q]? = some c9 := e1
  rw [e5, h9, Array.getElem?_eq_getElem hq]
/-- the words of a throw but the four that speak of the heap -/
def vx_no (w : Cond) : Bool := decide (w ≠ .isRef (.static Bundle.tN "UNASSIGNED_STACK" Bundle.steD)) && decide (w ≠ .isRef (.static Bundle.tN "SUPPRESSED_SENTINEL" Bundle.listD)) && decide (w ≠ .laysStatic Bundle.tN "UNASSIGNED_STACK" Bundle.steD) && decide (w ≠ .laysStatic Bundle.tN "SUPPRESSED_SENTINEL" Bundle.listD)
def vx_at0 (own : String) (ic : Nat) (X : String) (names : List String) : List Cond := (Bundle.ownAtoms0 own ic X names).filter vx_no
def vx_atS (own : String) (ic : Nat) (X : String) (names : List String) : List Cond := (Bundle.ownAtoms own ic X names).filter vx_no
/-- a word that the tables alone decide, or a good one -/
def vx_ot (w : Cond) : Bool := w.onTables || goodWord w
theorem vx_ot_at {args a' : Array Value} {s U : State} {w : Cond} (hW : s.WarmedH U.vm) (hvm : s.vm = U.vm) (hg : vx_ot w = true) (h : w.before args s = true) : w.before a' U = true := by
  simp only [vx_ot, Bool.or_eq_true] at hg
  rcases hg with hg | hg
  · exact va_tabs hg hvm h
  · exact word_at hW (good_of_word hg) h
/-- a list's words: the good ones out of the method's own list, the others by premises of their own -/
theorem vx_hat {args : Array Value} {s : State} {L B : List Cond} (h1 : ∀ w ∈ L.filter goodWord, w.before args s = true) (h2 : ∀ w ∈ L.filter (fun w => !goodWord w), w ∈ B) (h3 : ∀ w ∈ B, w.before args s = true) : ∀ w ∈ L, w.before args s = true := by
  intro w hw
  by_cases g : goodWord w = true
  · exact h1 w (List.mem_filter.mpr ⟨hw, g⟩)
  · refine h3 w (h2 w (List.mem_filter.mpr ⟨hw, ?_⟩))
    show (!goodWord w) = true
    cases hgw : goodWord w
    · rfl
    · exact absurd hgw g
theorem vx_c {args : Array Value} {s : State} {w : Cond} {B : List Cond} (h : w.before args s = true) (t : ∀ w ∈ B, w.before args s = true) : ∀ w' ∈ w :: B, w'.before args s = true := fun w' h' => (List.mem_cons.mp h').elim (fun e => by rw [e]; exact h) (t w')
theorem vx_n {args : Array Value} {s : State} : ∀ w ∈ ([] : List Cond), w.before args s = true := fun _ h => nomatch h
theorem vx_own {args : Array Value} {s : State} {L : List Cond} (h1 : ∀ w ∈ L.filter vx_no, w.before args s = true)
    (hU : (Cond.isRef (.static Bundle.tN "UNASSIGNED_STACK" Bundle.steD)).before args s = true) (hN : (Cond.isRef (.static Bundle.tN "SUPPRESSED_SENTINEL" Bundle.listD)).before args s = true)
    (lU : (Cond.laysStatic Bundle.tN "UNASSIGNED_STACK" Bundle.steD).before args s = true) (lN : (Cond.laysStatic Bundle.tN "SUPPRESSED_SENTINEL" Bundle.listD).before args s = true) : ∀ w ∈ L, w.before args s = true := by
  intro w hw
  by_cases e1 : w = .isRef (.static Bundle.tN "UNASSIGNED_STACK" Bundle.steD)
  · rw [e1]; exact hU
  · by_cases e2 : w = .isRef (.static Bundle.tN "SUPPRESSED_SENTINEL" Bundle.listD)
    · rw [e2]; exact hN
    · by_cases e3 : w = .laysStatic Bundle.tN "UNASSIGNED_STACK" Bundle.steD
      · rw [e3]; exact lU
      · by_cases e4 : w = .laysStatic Bundle.tN "SUPPRESSED_SENTINEL" Bundle.listD
        · rw [e4]; exact lN
        · exact h1 w (List.mem_filter.mpr ⟨hw, by unfold vx_no; rw [decide_eq_true e1, decide_eq_true e2, decide_eq_true e3, decide_eq_true e4]; rfl⟩)
/-- where a static field lies, its class's statics cell in H -/
def vx_L (C n d : String) (A : Nat → Prop) (U : State) (H : Heap) : Prop := ∃ (c : ClassId) (k : Class) (i : Nat) (f : Field) (a : Nat) (cell : Cell), U.vm.findClass C = some c ∧ U.fieldFound? C n d = some (c, k, i, f) ∧ f.isStatic = true ∧ k.statics = some a ∧ H[a]? = some cell ∧ cell.vm.isStatics = true ∧ cell.cls = c ∧ f.slot < cell.slots.size ∧ k.staticTypes[f.slot]? = some f.type ∧ ¬ A a
theorem vx_L.moved {C n d : String} {A : Nat → Prop} {u U : State} {H : Heap} (hvm : u.vm.Alike U.vm) (h : vx_L C n d A u H) : vx_L C n d A U H := by
  obtain ⟨c, k, i, f, a, cell, h1, h2, h3, h4, h5, h6, h7, h8, h9, h10⟩ := h
  obtain ⟨k', hi', he⟩ := State.fieldFound?_setVm hvm h2
  exact ⟨c, k', i, f, a, cell, by rw [hvm.findClass]; exact h1, hi', h3, by rw [he]; exact h4, h5, h6, h7, h8, by rw [he]; exact h9, h10⟩
theorem vx_L.kept {C n d : String} {A : Nat → Prop} {U : State} {H H1 : Heap} (h : vx_L C n d A U H) (hq : ∀ a : Nat, a < H.size → ¬ A a → H1[a]? = H[a]?) : vx_L C n d A U H1 := by
  obtain ⟨c, k, i, f, a, cell, h1, h2, h3, h4, h5, h6, h7, h8, h9, h10⟩ := h
  exact ⟨c, k, i, f, a, cell, h1, h2, h3, h4, by rw [hq a (Array.getElem?_eq_some_iff.mp h5).1 h10]; exact h5, h6, h7, h8, h9, h10⟩
theorem vx_L.narrow {C n d : String} {A B : Nat → Prop} {U : State} {H : Heap} (h : vx_L C n d A U H) (hAB : ∀ q, B q → A q) : vx_L C n d B U H := by
  obtain ⟨c, k, i, f, a, cell, h1, h2, h3, h4, h5, h6, h7, h8, h9, h10⟩ := h
  exact ⟨c, k, i, f, a, cell, h1, h2, h3, h4, h5, h6, h7, h8, h9, fun z => h10 (hAB _ z)⟩
theorem vx_L.word {C n d : String} {A : Nat → Prop} {s : State} {args : Array Value} (h : vx_L C n d A s s.heap) : (Cond.laysStatic C n d).before args s = true := by
  obtain ⟨c, k, i, f, a, cell, h1, h2, h3, h4, h5, h6, h7, h8, h9, -⟩ := h
  show (Cond.laysStatic C n d).holds args s none s [] = true
  exact Cond.laysStatic_of h1 h2 h3 h4 h5 h6 h7 h8 h9
/-- .. and what it holds: null or some reference -/
def vx_Zq (C n d : String) (A : Nat → Prop) (U : State) (H : Heap) : Prop := va_Zq C n d A U H ∧ vx_L C n d A U H
theorem vx_Zq.moved {C n d : String} {A : Nat → Prop} {u U : State} {H : Heap} (hvm : u.vm.Alike U.vm) (h : vx_Zq C n d A u H) : vx_Zq C n d A U H := ⟨va_Zq.moved hvm h.1, vx_L.moved hvm h.2⟩
theorem vx_Zq.kept {C n d : String} {A : Nat → Prop} {U : State} {H H1 : Heap} (h : vx_Zq C n d A U H) (hq : ∀ a : Nat, a < H.size → ¬ A a → H1[a]? = H[a]?) : vx_Zq C n d A U H1 := ⟨va_Zq.kept h.1 hq, vx_L.kept h.2 hq⟩
theorem vx_Zq.narrow {C n d : String} {A B : Nat → Prop} {U : State} {H : Heap} (h : vx_Zq C n d A U H) (hAB : ∀ q, B q → A q) : vx_Zq C n d B U H := ⟨va_Zq.narrow h.1 hAB, vx_L.narrow h.2 hAB⟩
theorem vx_Zqof {args : Array Value} {s : State} {C n d : String} {A : Nat → Prop} (hl : (Cond.laysStatic C n d).before args s = true) (hini : (Cond.initialized C).before args s = true) (h : (Cond.isRef (.static C n d)).before args s = true) (hA : ∀ a : Nat, a < s.heap.size → ¬ A a) : vx_Zq C n d A s s.heap := by
  refine ⟨va_Zqof hl hini h hA, ?_⟩
  obtain ⟨c, k, i, f, a, cell, h1, h2, h3, h4, h5, h6, h7, h8, h9⟩ := Cond.laysStatic_spec hl
  exact ⟨c, k, i, f, a, cell, h1, h2, h3, h4, h5, h6, h7, h8, h9, hA a (Array.getElem?_eq_some_iff.mp h5).1⟩
theorem vx_isRef {C n d : String} {v : Value} {A : Nat → Prop} {s : State} {args : Array Value} (h : va_Z C n d v A s s.heap) (hv : v.isRef = true) : (Cond.isRef (.static C n d)).before args s = true := by
  obtain ⟨cf, kf, fi, f, a, cell, h1, h2, h3, h4, h5, h6, h7, -⟩ := h
  have he : (Term.static C n d).eval args s none [] s = some v := by
    simp [Term.eval, State.fieldNamed?, h1, h2, h4, h5, h6, h7]
  simp only [Cond.before, Cond.holds, Cond.value, he]
  cases v <;> simp_all [Value.isRef]
theorem vx_isRefq {C n d : String} {A : Nat → Prop} {s : State} {args : Array Value} (h : va_Zq C n d A s s.heap) : (Cond.isRef (.static C n d)).before args s = true := by
  rcases h with h | ⟨t, h⟩
  · exact vx_isRef h rfl
  · exact vx_isRef h rfl
/-- the same frame, seen from here: as if the method were called anew in this heap -/
theorem vx_rebase {T : State} (X : Stand p l e R s m args below meth c T locs cells slots) {R' : Room} (hf : R'.frames ≤ R.frames) (hl : R'.locals ≤ R.locals) (hc : cells + R'.cells ≤ R.cells) (hs : slots + R'.slots ≤ R.slots) :
    Stand p l e R' ((T.setVm s.vm).setFrames (.invoking m args :: below)) m args below meth c T [] 0 0 := by
  have htop : (T.setVm s.vm).topJava?.isSome := X.here.top
  have hF : ((T.setVm s.vm).setFrames (.invoking m args :: below)).frames = .invoking m args :: below := State.frames_setFrames _ (State.cur_lt_of_top htop)
  obtain ⟨g₀, hg0⟩ := Option.isSome_iff_exists.mp htop
  obtain ⟨r, hr⟩ := State.topJava?_eq_some.mp hg0
  have hl9 : e.platform.stackLimits (T.setVm s.vm).me = e.platform.stackLimits s.me := X.limits
  have hb9 : (T.setVm s.vm).me.stackBytes = s.me.stackBytes := X.bytes
  refine ⟨X.admits, X.cas, X.clock, hF, ?_, X.hears, X.method, X.code, X.here, X.tail, X.warmed, ?_, ?_, ?_⟩
  · have h := X.room
    have hU : ((T.setVm s.vm).setFrames (.invoking m args :: below)).localsInUse = s.localsInUse := by
      rw [State.localsInUse_invoking hF (meth := meth) (c := c) X.method X.code, State.localsInUse_invoking X.frames X.method X.code]
    simp only [State.hasRoom, Bool.and_eq_true, decide_eq_true_eq] at h ⊢
    obtain ⟨⟨⟨⟨h1, h2, h3, h4, h5, h6⟩, h7⟩, h8⟩, h9⟩ := h
    rw [X.frames, List.length_cons] at h2 h3
    have q1 := X.heapSize
    have q2 := X.used
    simp only [hF, hU, List.length_cons, State.stackLimits_setFrames, State.stackBytes_setFrames, hl9, hb9]
    refine ⟨⟨⟨⟨by omega, by omega, by omega, by omega, by omega, h6⟩, ?_⟩, ?_⟩, X.book⟩
    · show T.heap.size + R'.cells ≤ e.platform.maxCells
      omega
    · show T.slotsUsed + R'.slots ≤ e.platform.maxSlots
      omega
  · rw [State.stackLimits_setFrames]; rfl
  · rw [State.stackBytes_setFrames]; rfl
  · refine ⟨?_, Nat.le_refl _, Nat.le_refl _, ?_, ?_, fun a c9 h9 => ⟨c9, h9, rfl, rfl, fun _ _ => rfl⟩⟩
    · obtain ⟨t, ht, -⟩ := State.frames_cons hr
      show T.setVm s.vm = { ((T.setVm s.vm).setFrames (.invoking m args :: below)).setFrames (T.setVm s.vm).frames with heap := T.heap, slotsUsed := T.slotsUsed }
      rw [State.setFrames_setFrames, State.setFrames_self ht]
      rfl
    · show T.slotsUsed = T.slotsUsed + ((T.heap.toList.drop T.heap.size).map (·.slots.size)).sum
      rw [List.drop_eq_nil_of_le (Nat.le_of_eq Array.length_toList)]
      rfl
    · show ((T.heap.toList.drop T.heap.size).map (·.slots.size)).sum ≤ 0
      rw [List.drop_eq_nil_of_le (Nat.le_of_eq Array.length_toList)]
      exact Nat.le_refl _
/-- 'throw new E()': new; dup; invokespecial; athrow -/
theorem vx_throw0 {cc : ByteArray} {pc : Nat} (hexec : p.tables.exec = Jvm.exec) (hb : c.code = cc) (hl : l.stackTraces = false) {own cls : String} {names : List String} {ik ic mc ms : Nat} {A : Nat → Prop}
    (hown : s.vm.findClass own = some m.cls) (hcls : Bundle.fit cls = true) (hnames : ∀ n ∈ names, Bundle.fit n = true)
    (hk : (Cond.classLink own ik cls).before args s = true) (hini : (Cond.initialized cls).before args s = true) (hat : ∀ w ∈ vx_at0 own ic cls names, w.before args s = true)
    (hgood : ∀ w ∈ Cond.classLink own ik cls :: Cond.initialized cls :: vx_at0 own ic cls names, vx_ot w = true)
    (hU : vx_Zq Bundle.tN "UNASSIGNED_STACK" Bundle.steD A s s.heap) (hN : vx_Zq Bundle.tN "SUPPRESSED_SENTINEL" Bundle.listD A s s.heap) (hS : va_S A s.heap H locs) (hsize : ls.size = c.maxLocals)
    (d0 : decode cc pc = .ok (.new ik, 3)) (d3 : decode cc (pc + 3) = .ok (.dup, 1)) (d4 : decode cc (pc + 4) = .ok (.invokespecial ic, 3)) (d7 : decode cc (pc + 7) = .ok (.athrow, 1))
    (hout : ∀ x ∈ c.exceptionTable.toList, covers x (pc + 7) = false)
    (hRframes : names.length + 3 < R.frames) (hRlocals : (rest.map fun v => v.category).sum + (13 * (names.length + 1) + 42) ≤ R.locals) (hRcells : cells + 1 ≤ R.cells) (hRslots : slots + 6 ≤ R.slots) (hlocks : meth.locks = false)
    (hx : ∀ t : State, s.vm.Alike t.vm → H.size ≤ t.heap.size → (∀ q : Nat, q < H.size → t.heap[q]? = H[q]?) → XC cls s t)
    (hf : ∀ z ∈ locs, free z.base) (hc : cells + 1 ≤ mc) (hs : slots + 6 ≤ ms) :
    W p l e R s m args below meth c H locs cells slots (vx_MQ below Qc XC args s mc ms free) (F0 m pc ls rest) := by
  intro T hT X
  have htr : e.platform.stackTraces = false := (show e.platform.stackTraces = l.stackTraces by rw [X.admits.platform]).trans hl
  have Y := vx_rebase X (R' := { frames := R.frames, locals := R.locals, cells := 1, slots := 6 }) (Nat.le_refl _) (Nat.le_refl _) hRcells hRslots
  obtain ⟨s', hA⟩ : ∃ z, z = (T.setVm s.vm).setFrames (.invoking m args :: below) := ⟨_, rfl⟩
  rw [← hA] at Y
  have hvm : s'.vm = s.vm := by rw [hA]; rfl
  have hhp : s'.heap = H := by rw [hA]; exact hT
  have hW0 : s.WarmedH s'.vm := by rw [hvm]; exact State.WarmedH.refl s
  have hat' : ∀ w ∈ vx_at0 own ic cls names, w.before args s' = true := fun w hw => vx_ot_at hW0 hvm.symm (hgood w (List.mem_cons_of_mem _ (List.mem_cons_of_mem _ hw))) (hat w hw)
  have hk' : (Cond.classLink own ik cls).before args s' = true := vx_ot_at hW0 hvm.symm (hgood _ List.mem_cons_self) hk
  have hini' : (Cond.initialized cls).before args s' = true := vx_ot_at hW0 hvm.symm (hgood _ (List.mem_cons_of_mem _ List.mem_cons_self)) hini
  have hU' : vx_Zq Bundle.tN "UNASSIGNED_STACK" Bundle.steD A s' s'.heap := by rw [hhp]; exact vx_Zq.moved hW0.alike (hU.kept hS.2.1)
  have hN' : vx_Zq Bundle.tN "SUPPRESSED_SENTINEL" Bundle.listD A s' s'.heap := by rw [hhp]; exact vx_Zq.moved hW0.alike (hN.kept hS.2.1)
  have h : ∀ w ∈ Bundle.ownAtoms0 own ic cls names, w.before args s' = true := vx_own hat' (vx_isRefq hU'.1) (vx_isRefq hN'.1) hU'.2.word hN'.2.word
  have hown' : s'.vm.findClass own = some m.cls := by rw [hvm]; exact hown
  have hins : (Cond.instantiable cls 6).before args s' = true := h _ (by simp [Bundle.ownAtoms0])
  obtain ⟨vm₁, cX, kX, hfX, hkX, -, -, X₁, st1⟩ := Y.newCold hexec (own := own) (C := cls) (index := ik) (n := 6) hown' hk' hins hini'
    (g := F0 m pc ls rest) rfl (by rw [hb]; exact d0) (Nat.le_refl _) (Nat.le_refl _)
  generalize hT1 : (T.setVm vm₁).pushCell { cls := cX, slots := kX.instanceTypes.map defaultValue, vm := .none } = T1 at X₁ st1
  have hcat : (Value.ref T.heap.size).category = 1 := rfl
  have hcellA : T1.heap[T.heap.size]? = some (freshCell cX kX) := by rw [← hT1]; exact State.heap_pushCell_size _ _
  have d3' : decode c.code (pc + 3) = .ok (.dup, 1) := by rw [hb]; exact d3
  obtain ⟨U, hsteps, hrun, hend, hW, hsame, ce, hce, hO⟩ := X₁.ctorThrow0 hexec htr (own := own) (cls := cls) (names := names) (ic := ic) hown' hcls hnames h (fun x hx => nomatch hx) hfX hkX hcellA (by rw [hhp, hT]; exact Nat.le_refl _)
    (g := { method := m, pc := pc + 4, locals := ls, stack := .ref T.heap.size :: .ref T.heap.size :: rest, locked := none }) rfl hsize rfl rfl (rest := rest) rfl
    (by rw [hb]; exact d4) (by rw [hb]; exact d7) hout hRframes (by simp only [List.map_cons, List.sum_cons, hcat]; omega) hlocks
  obtain ⟨f1, f2⟩ := vx_frame hsame
  rw [hhp] at f1 f2
  have hWs : s.WarmedH U.vm := State.WarmedH.trans hW0 hW
  have hcl : s.vm.findClass cls = some ce.cls := by
    have h9 := hO.cls
    rw [hvm] at h9
    exact h9
  have hall : s.sameButNew ({ U with vm := s.vm } : State) locs mc ms := by
    subst hA
    obtain ⟨e1, e2⟩ := hsame
    rw [State.setFrames_setFrames] at e1
    have h2 : (T.setVm s.vm).sameButNew ({ U with vm := s.vm } : State) [] (0 + 1) (0 + 6) := ⟨e1, e2⟩
    have h3 := X.same.trans h2
    rw [List.append_nil] at h3
    exact h3.mono hc hs
  refine ⟨U, ?_, .threw T.heap.size, hrun, hend, Or.inr ⟨T.heap.size, rfl, cls, ce, locs, hx U hWs.alike f1 (fun q hq => f2 q hq (fun z hz => nomatch hz)), hce, hO.vm, hcl, hWs, hall, hf⟩⟩
  refine st1 _ ?_
  show Steps p.tables e below (T1.setTop { method := m, pc := pc + 3, locals := ls, stack := .ref T.heap.size :: rest, locked := none }) _
  jvm_step X₁.here [X₁.here.top, hexec, d3', Value.category]
  exact hsteps
/-- 'throw new E("text")': new; dup; ldc; invokespecial; athrow -/
theorem vx_throwS {cc : ByteArray} {pc : Nat} (hexec : p.tables.exec = Jvm.exec) (hb : c.code = cc) (hl : l.stackTraces = false) {own cls text : String} {names : List String} {ik is ic mc ms sa : Nat} {A : Nat → Prop}
    (hown : s.vm.findClass own = some m.cls) (hcls : Bundle.fit cls = true) (hnames : ∀ n ∈ names, Bundle.fit n = true)
    (hk : (Cond.classLink own ik cls).before args s = true) (hini : (Cond.initialized cls).before args s = true) (hstr : vk_R own is text sa s) (hat : ∀ w ∈ vx_atS own ic cls names, w.before args s = true)
    (hgood : ∀ w ∈ Cond.classLink own ik cls :: Cond.initialized cls :: vx_atS own ic cls names, vx_ot w = true)
    (hU : vx_Zq Bundle.tN "UNASSIGNED_STACK" Bundle.steD A s s.heap) (hN : vx_Zq Bundle.tN "SUPPRESSED_SENTINEL" Bundle.listD A s s.heap) (hS : va_S A s.heap H locs) (hsize : ls.size = c.maxLocals)
    (d0 : decode cc pc = .ok (.new ik, 3)) (d3 : decode cc (pc + 3) = .ok (.dup, 1)) (d4 : decode cc (pc + 4) = .ok (.ldc is, 2)) (d6 : decode cc (pc + 6) = .ok (.invokespecial ic, 3)) (d9 : decode cc (pc + 9) = .ok (.athrow, 1))
    (hout : ∀ x ∈ c.exceptionTable.toList, covers x (pc + 9) = false)
    (hRframes : names.length + 3 < R.frames) (hRlocals : (rest.map fun v => v.category).sum + (13 * (names.length + 1) + 43) ≤ R.locals) (hRcells : cells + 1 ≤ R.cells) (hRslots : slots + 6 ≤ R.slots) (hlocks : meth.locks = false)
    (hx : ∀ t : State, s.vm.Alike t.vm → H.size ≤ t.heap.size → (∀ q : Nat, q < H.size → t.heap[q]? = H[q]?) → XC cls s t)
    (hf : ∀ z ∈ locs, free z.base) (hc : cells + 1 ≤ mc) (hs : slots + 6 ≤ ms) :
    W p l e R s m args below meth c H locs cells slots (vx_MQ below Qc XC args s mc ms free) (F0 m pc ls rest) := by
  intro T hT X
  have htr : e.platform.stackTraces = false := (show e.platform.stackTraces = l.stackTraces by rw [X.admits.platform]).trans hl
  have Y := vx_rebase X (R' := { frames := R.frames, locals := R.locals, cells := 1, slots := 6 }) (Nat.le_refl _) (Nat.le_refl _) hRcells hRslots
  obtain ⟨s', hA⟩ : ∃ z, z = (T.setVm s.vm).setFrames (.invoking m args :: below) := ⟨_, rfl⟩
  rw [← hA] at Y
  have hvm : s'.vm = s.vm := by rw [hA]; rfl
  have hhp : s'.heap = H := by rw [hA]; exact hT
  have hW0 : s.WarmedH s'.vm := by rw [hvm]; exact State.WarmedH.refl s
  have hat' : ∀ w ∈ vx_atS own ic cls names, w.before args s' = true := fun w hw => vx_ot_at hW0 hvm.symm (hgood w (List.mem_cons_of_mem _ (List.mem_cons_of_mem _ hw))) (hat w hw)
  have hk' : (Cond.classLink own ik cls).before args s' = true := vx_ot_at hW0 hvm.symm (hgood _ List.mem_cons_self) hk
  have hini' : (Cond.initialized cls).before args s' = true := vx_ot_at hW0 hvm.symm (hgood _ (List.mem_cons_of_mem _ List.mem_cons_self)) hini
  have hU' : vx_Zq Bundle.tN "UNASSIGNED_STACK" Bundle.steD A s' s'.heap := by rw [hhp]; exact vx_Zq.moved hW0.alike (hU.kept hS.2.1)
  have hN' : vx_Zq Bundle.tN "SUPPRESSED_SENTINEL" Bundle.listD A s' s'.heap := by rw [hhp]; exact vx_Zq.moved hW0.alike (hN.kept hS.2.1)
  have h : ∀ w ∈ Bundle.ownAtoms own ic cls names, w.before args s' = true := vx_own hat' (vx_isRefq hU'.1) (vx_isRefq hN'.1) hU'.2.word hN'.2.word
  have hown' : s'.vm.findClass own = some m.cls := by rw [hvm]; exact hown
  have hins : (Cond.instantiable cls 6).before args s' = true := h _ (by simp [Bundle.ownAtoms])
  obtain ⟨vm₁, cX, kX, hfX, hkX, -, -, X₁, st1⟩ := Y.newCold hexec (own := own) (C := cls) (index := ik) (n := 6) hown' hk' hins hini'
    (g := F0 m pc ls rest) rfl (by rw [hb]; exact d0) (Nat.le_refl _) (Nat.le_refl _)
  generalize hT1 : (T.setVm vm₁).pushCell { cls := cX, slots := kX.instanceTypes.map defaultValue, vm := .none } = T1 at X₁ st1
  have hcat : (Value.ref T.heap.size).category = 1 := rfl
  have hcellA : T1.heap[T.heap.size]? = some (freshCell cX kX) := by rw [← hT1]; exact State.heap_pushCell_size _ _
  have d3' : decode c.code (pc + 3) = .ok (.dup, 1) := by rw [hb]; exact d3
  have d4' : decode c.code (pc + 4) = .ok (.ldc is, 2) := by rw [hb]; exact d4
  have hstr' : vk_R own is text sa s' := vk_R.warm hW0 hstr
  obtain ⟨U, hsteps, hrun, hend, hW, hsame, ce, hce, hO⟩ := X₁.ctorThrowS hexec htr (own := own) (cls := cls) (names := names) (ic := ic) hown' hcls hnames h (fun x hx => nomatch hx) hfX hkX hcellA (by rw [hhp, hT]; exact Nat.le_refl _) (msg := .ref sa) rfl
    (g := { method := m, pc := pc + 6, locals := ls, stack := .ref sa :: .ref T.heap.size :: .ref T.heap.size :: rest, locked := none }) rfl hsize rfl rfl (rest := rest) rfl
    (by rw [hb]; exact d6) (by rw [hb]; exact d9) hout hRframes (by simp only [List.map_cons, List.sum_cons, hcat]; omega) hlocks
  obtain ⟨f1, f2⟩ := vx_frame hsame
  rw [hhp] at f1 f2
  have hWs : s.WarmedH U.vm := State.WarmedH.trans hW0 hW
  have hcl : s.vm.findClass cls = some ce.cls := by
    have h9 := hO.cls
    rw [hvm] at h9
    exact h9
  have hall : s.sameButNew ({ U with vm := s.vm } : State) locs mc ms := by
    subst hA
    obtain ⟨e1, e2⟩ := hsame
    rw [State.setFrames_setFrames] at e1
    have h2 : (T.setVm s.vm).sameButNew ({ U with vm := s.vm } : State) [] (0 + 1) (0 + 6) := ⟨e1, e2⟩
    have h3 := X.same.trans h2
    rw [List.append_nil] at h3
    exact h3.mono hc hs
  refine ⟨U, ?_, .threw T.heap.size, hrun, hend, Or.inr ⟨T.heap.size, rfl, cls, ce, locs, hx U hWs.alike f1 (fun q hq => f2 q hq (fun z hz => nomatch hz)), hce, hO.vm, hcl, hWs, hall, hf⟩⟩
  refine st1 _ ?_
  show Steps p.tables e below (T1.setTop { method := m, pc := pc + 3, locals := ls, stack := .ref T.heap.size :: rest, locked := none }) _
  jvm_step X₁.here [X₁.here.top, hexec, d3', Value.category]
  exact X₁.ldcString hexec (own := own) (text := text) (index := is) (a := sa) hown' hstr'.1 hstr'.2
    (g := { method := m, pc := pc + 4, locals := ls, stack := .ref T.heap.size :: .ref T.heap.size :: rest, locked := none }) rfl d4' _ hsteps
/-- 'throw new E("text")', the text by a wide index -/
theorem vx_throwSW {cc : ByteArray} {pc : Nat} (hexec : p.tables.exec = Jvm.exec) (hb : c.code = cc) (hl : l.stackTraces = false) {own cls text : String} {names : List String} {ik is ic mc ms sa : Nat} {A : Nat → Prop}
    (hown : s.vm.findClass own = some m.cls) (hcls : Bundle.fit cls = true) (hnames : ∀ n ∈ names, Bundle.fit n = true)
    (hk : (Cond.classLink own ik cls).before args s = true) (hini : (Cond.initialized cls).before args s = true) (hstr : vk_R own is text sa s) (hat : ∀ w ∈ vx_atS own ic cls names, w.before args s = true)
    (hgood : ∀ w ∈ Cond.classLink own ik cls :: Cond.initialized cls :: vx_atS own ic cls names, vx_ot w = true)
    (hU : vx_Zq Bundle.tN "UNASSIGNED_STACK" Bundle.steD A s s.heap) (hN : vx_Zq Bundle.tN "SUPPRESSED_SENTINEL" Bundle.listD A s s.heap) (hS : va_S A s.heap H locs) (hsize : ls.size = c.maxLocals)
    (d0 : decode cc pc = .ok (.new ik, 3)) (d3 : decode cc (pc + 3) = .ok (.dup, 1)) (d4 : decode cc (pc + 4) = .ok (.ldc_w is, 3)) (d7 : decode cc (pc + 7) = .ok (.invokespecial ic, 3)) (d10 : decode cc (pc + 10) = .ok (.athrow, 1))
    (hout : ∀ x ∈ c.exceptionTable.toList, covers x (pc + 10) = false)
    (hRframes : names.length + 3 < R.frames) (hRlocals : (rest.map fun v => v.category).sum + (13 * (names.length + 1) + 43) ≤ R.locals) (hRcells : cells + 1 ≤ R.cells) (hRslots : slots + 6 ≤ R.slots) (hlocks : meth.locks = false)
    (hx : ∀ t : State, s.vm.Alike t.vm → H.size ≤ t.heap.size → (∀ q : Nat, q < H.size → t.heap[q]? = H[q]?) → XC cls s t)
    (hf : ∀ z ∈ locs, free z.base) (hc : cells + 1 ≤ mc) (hs : slots + 6 ≤ ms) :
    W p l e R s m args below meth c H locs cells slots (vx_MQ below Qc XC args s mc ms free) (F0 m pc ls rest) := by
  intro T hT X
  have htr : e.platform.stackTraces = false := (show e.platform.stackTraces = l.stackTraces by rw [X.admits.platform]).trans hl
  have Y := vx_rebase X (R' := { frames := R.frames, locals := R.locals, cells := 1, slots := 6 }) (Nat.le_refl _) (Nat.le_refl _) hRcells hRslots
  obtain ⟨s', hA⟩ : ∃ z, z = (T.setVm s.vm).setFrames (.invoking m args :: below) := ⟨_, rfl⟩
  rw [← hA] at Y
  have hvm : s'.vm = s.vm := by rw [hA]; rfl
  have hhp : s'.heap = H := by rw [hA]; exact hT
  have hW0 : s.WarmedH s'.vm := by rw [hvm]; exact State.WarmedH.refl s
  have hat' : ∀ w ∈ vx_atS own ic cls names, w.before args s' = true := fun w hw => vx_ot_at hW0 hvm.symm (hgood w (List.mem_cons_of_mem _ (List.mem_cons_of_mem _ hw))) (hat w hw)
  have hk' : (Cond.classLink own ik cls).before args s' = true := vx_ot_at hW0 hvm.symm (hgood _ List.mem_cons_self) hk
  have hini' : (Cond.initialized cls).before args s' = true := vx_ot_at hW0 hvm.symm (hgood _ (List.mem_cons_of_mem _ List.mem_cons_self)) hini
  have hU' : vx_Zq Bundle.tN "UNASSIGNED_STACK" Bundle.steD A s' s'.heap := by rw [hhp]; exact vx_Zq.moved hW0.alike (hU.kept hS.2.1)
  have hN' : vx_Zq Bundle.tN "SUPPRESSED_SENTINEL" Bundle.listD A s' s'.heap := by rw [hhp]; exact vx_Zq.moved hW0.alike (hN.kept hS.2.1)
  have h : ∀ w ∈ Bundle.ownAtoms own ic cls names, w.before args s' = true := vx_own hat' (vx_isRefq hU'.1) (vx_isRefq hN'.1) hU'.2.word hN'.2.word
  have hown' : s'.vm.findClass own = some m.cls := by rw [hvm]; exact hown
  have hins : (Cond.instantiable cls 6).before args s' = true := h _ (by simp [Bundle.ownAtoms])
  obtain ⟨vm₁, cX, kX, hfX, hkX, -, -, X₁, st1⟩ := Y.newCold hexec (own := own) (C := cls) (index := ik) (n := 6) hown' hk' hins hini'
    (g := F0 m pc ls rest) rfl (by rw [hb]; exact d0) (Nat.le_refl _) (Nat.le_refl _)
  generalize hT1 : (T.setVm vm₁).pushCell { cls := cX, slots := kX.instanceTypes.map defaultValue, vm := .none } = T1 at X₁ st1
  have hcat : (Value.ref T.heap.size).category = 1 := rfl
  have hcellA : T1.heap[T.heap.size]? = some (freshCell cX kX) := by rw [← hT1]; exact State.heap_pushCell_size _ _
  have d3' : decode c.code (pc + 3) = .ok (.dup, 1) := by rw [hb]; exact d3
  have d4' : decode c.code (pc + 4) = .ok (.ldc_w is, 3) := by rw [hb]; exact d4
  have hstr' : vk_R own is text sa s' := vk_R.warm hW0 hstr
  obtain ⟨U, hsteps, hrun, hend, hW, hsame, ce, hce, hO⟩ := X₁.ctorThrowS hexec htr (own := own) (cls := cls) (names := names) (ic := ic) hown' hcls hnames h (fun x hx => nomatch hx) hfX hkX hcellA (by rw [hhp, hT]; exact Nat.le_refl _) (msg := .ref sa) rfl
    (g := { method := m, pc := pc + 7, locals := ls, stack := .ref sa :: .ref T.heap.size :: .ref T.heap.size :: rest, locked := none }) rfl hsize rfl rfl (rest := rest) rfl
    (by rw [hb]; exact d7) (by rw [hb]; exact d10) hout hRframes (by simp only [List.map_cons, List.sum_cons, hcat]; omega) hlocks
  obtain ⟨f1, f2⟩ := vx_frame hsame
  rw [hhp] at f1 f2
  have hWs : s.WarmedH U.vm := State.WarmedH.trans hW0 hW
  have hcl : s.vm.findClass cls = some ce.cls := by
    have h9 := hO.cls
    rw [hvm] at h9
    exact h9
  have hall : s.sameButNew ({ U with vm := s.vm } : State) locs mc ms := by
    subst hA
    obtain ⟨e1, e2⟩ := hsame
    rw [State.setFrames_setFrames] at e1
    have h2 : (T.setVm s.vm).sameButNew ({ U with vm := s.vm } : State) [] (0 + 1) (0 + 6) := ⟨e1, e2⟩
    have h3 := X.same.trans h2
    rw [List.append_nil] at h3
    exact h3.mono hc hs
  refine ⟨U, ?_, .threw T.heap.size, hrun, hend, Or.inr ⟨T.heap.size, rfl, cls, ce, locs, hx U hWs.alike f1 (fun q hq => f2 q hq (fun z hz => nomatch hz)), hce, hO.vm, hcl, hWs, hall, hf⟩⟩
  refine st1 _ ?_
  show Steps p.tables e below (T1.setTop { method := m, pc := pc + 3, locals := ls, stack := .ref T.heap.size :: rest, locked := none }) _
  jvm_step X₁.here [X₁.here.top, hexec, d3', Value.category]
  exact X₁.ldcStringW hexec (own := own) (text := text) (index := is) (a := sa) hown' hstr'.1 hstr'.2
    (g := { method := m, pc := pc + 4, locals := ls, stack := .ref T.heap.size :: .ref T.heap.size :: rest, locked := none }) rfl d4' _ hsteps
end Ends
section Bodies
variable {l : Launch}
theorem vx_ofW {y : MethodName} {ws ws' : List Cond} {rm : Room} {Pc : Array Value → State → Prop} {Qc : Array Value → State → Outcome → State → Prop} {XC : String → State → State → Prop} {mc ms : Nat} {free : Addr → Prop} {cc : ByteArray} {maxL : Nat} {ret : Option FieldType}
    (hy : plainName y.cls = true) (hw : ws = Cond.code y cc maxL ret :: ws')
    (body : ∀ p e s m args below meth c s₁, BodyLoose p l y (headSpec ws rm) cc maxL ret e s m args below meth c s₁ → c.maxLocals = maxL → (∀ x ∈ c.exceptionTable.toList, False) → Pc args s →
      W p l e (headSpec ws rm).room s m args below meth c s.heap [] 0 0 (vx_MQ below Qc XC args s mc ms free) (entryFrame m args maxL)) : vx_Met l y ws rm Pc Qc XC mc ms free := by
  refine MetFree.of_bodyS (code := cc) (maxLocals := maxL) (ret := ret) hy ?_ ?_
  · intro args s m h hn
    obtain ⟨meth, c, h1, h2, h3, h4, h5, h6, -, -⟩ := Cond.code_spec hn (atoms_spec (ws := ws) h _ (by rw [hw]; exact List.mem_cons_self))
    exact ⟨meth, c, h1, h2, h3, h4, h5, h6⟩
  · intro p e s m args below meth c s₁ B hml hP _
    have hh0 : s₁.heap = s.heap := by rw [B.state]; rfl
    have ht : ∀ x ∈ c.exceptionTable.toList, False := by
      obtain ⟨meth9, c9, h1, h2, -, -, -, -, h7, -⟩ := Cond.code_spec B.named (atoms_spec (ws := ws) B.pre _ (by rw [hw]; exact List.mem_cons_self))
      cases Option.some.inj (h1.symm.trans B.method)
      cases Option.some.inj (h2.symm.trans (Stand.of_body B).code)
      intro x hx
      rw [Array.isEmpty_iff.mp h7] at hx
      cases hx
    obtain ⟨t, a1, o, b1, b2, b3⟩ := body p e s m args below meth c s₁ B hml ht hP s₁ hh0 (Stand.of_body B)
    exact ⟨t, o, a1, b1, b2, b3⟩
/-- the table of a body with handlers -/
theorem vx_table {p : Program} {x y : MethodName} {S : Spec} {cc bytes : ByteArray} {maxL maxL' : Nat} {ret ret' : Option FieldType} {e : Env} {s s₁ : State} {m : MethodId} {args : Array Value} {below : List Frame} {meth : Method} {c : Code} {hh : List (Nat × Nat × Nat × Nat)}
    (B : BodyLoose p l y S cc maxL ret e s m args below meth c s₁) (h : (Cond.codeWith y bytes maxL' ret' hh).before args s = true) : c.exceptionTable.toList = tableOf hh := by
  obtain ⟨m9, meth9, c9, hn9, h1, h2, -, -, h6, -⟩ := Cond.codeWith_spec h
  cases Option.some.inj (hn9.symm.trans B.named)
  cases Option.some.inj (h1.symm.trans B.method)
  cases Option.some.inj (h2.symm.trans (Stand.of_body B).code)
  rw [← h6, table_eq]
end Bodies
end VXA
/-! ===== END ===== -/
/-! ===== BEGIN a static call of a method with an exception table ===== -/
section VXS
variable {p : Program} {l : Launch} {e : Env} {R : Room} {s : State} {m : MethodId} {args : Array Value} {below : List Frame} {meth : Method} {c : Code} {T : State} {H : Heap} {locs : List Loc} {cells slots : Nat}
abbrev vx_CSW (R : Room) (s : State) (args : Array Value) (own : String) (index : Nat) (y : MethodName) (bytes : ByteArray) (maxL : Nat) (ret : Option FieldType) (hh : List (Nat × Nat × Nat × Nat)) (ws : List Cond) (rm : Room) (mc ms n : Nat) : Prop :=
  (rm.cells = mc ∧ rm.slots = ms ∧ rm.frames + 1 ≤ R.frames ∧ 8 + (maxL + 11) + rm.locals ≤ R.locals ∧ (∀ w ∈ ws, ∀ (a' : Array Value) (U : State), s.WarmedH U.vm → w.before a' U = true) ∧ Cond.codeWith y bytes maxL ret hh ∈ ws) ∧
  (Cond.codeWith y bytes maxL ret hh).before args s = true ∧ (Cond.initialized y.cls).before args s = true ∧ (y.cls ≠ "java/lang/invoke/MethodHandle" ∧ y.cls ≠ "java/lang/invoke/VarHandle") ∧
  (∀ sig, parseMethodDescriptor y.desc = some sig → n = sig.parameters.length) ∧ (Cond.methodLink own index y).before args s = true ∧ (Cond.static y).before args s = true
theorem vx_cwSW {own : String} {index maxL mc ms : Nat} {y : MethodName} {bytes : ByteArray} {ret : Option FieldType} {hh : List (Nat × Nat × Nat × Nat)} {Ts ws ws' : List Cond} {rm : Room} (n : Nat) (ht : ∀ w ∈ Ts, w.before args s = true) (hT : GoodIn Ts (va_wsS own index y ws)) (hw : ws = Cond.codeWith y bytes maxL ret hh :: ws') (hrc : rm.cells = mc) (hrs : rm.slots = ms)
    (hd : y.cls ≠ "java/lang/invoke/MethodHandle" ∧ y.cls ≠ "java/lang/invoke/VarHandle" ∧ (parseMethodDescriptor y.desc).map (fun d => d.parameters.length) = some n) (hR : rm.frames + 1 ≤ R.frames ∧ 8 + (maxL + 11) + rm.locals ≤ R.locals) :
    vx_CSW R s args own index y bytes maxL ret hh ws rm mc ms n := by
  have ok : ∀ w ∈ va_wsS own index y ws, w.before args s = true := fun w h => ht w (hT w h).1
  have hG : GoodIn Ts ws := fun w h => hT w (by unfold va_wsS; exact List.mem_append_right _ h)
  have hc : Cond.codeWith y bytes maxL ret hh ∈ ws := by rw [hw]; exact List.mem_cons_self
  refine ⟨⟨hrc, hrs, hR.1, hR.2, pay_in ht hG, hc⟩, ht _ (hG _ hc).1, ok _ (by simp [va_wsS]), ⟨hd.1, hd.2.1⟩, fun sig h => ?_, ok _ (by simp [va_wsS]), ok _ (by simp [va_wsS])⟩
  have h2 := hd.2.2
  rw [h] at h2
  exact (Option.some.inj h2).symm
theorem vx_callSW (X : Stand p l e R s m args below meth c T locs cells slots) (hexec : p.tables.exec = Jvm.exec) {own : String} {index : Nat} {y : MethodName} {bytes : ByteArray} {maxL : Nat} {ret : Option FieldType} {hh : List (Nat × Nat × Nat × Nat)}
    (hown : s.vm.findClass own = some m.cls) (hlink : (Cond.methodLink own index y).before args s = true) (hstat : (Cond.static y).before args s = true) (hinit : (Cond.initialized y.cls).before args s = true)
    (hcode : (Cond.codeWith y bytes maxL ret hh).before args s = true) (hy : y.cls ≠ "java/lang/invoke/MethodHandle" ∧ y.cls ≠ "java/lang/invoke/VarHandle")
    {W9 : Nat} {Pre : Pt → Array Value → Prop} {Post : Pt → Array Value → Option Value → Pt → Prop} (hK : Back l R p e below s args y 3 W9 Pre Post)
    {g : JFrame} (hg : g.method = m) (hsize : g.locals.size = c.maxLocals) {argsL rest : List Value} (hlen : ∀ sig, parseMethodDescriptor y.desc = some sig → argsL.length = sig.parameters.length)
    (hstack : g.stack = argsL.reverse ++ rest) (hW : 2 * g.monitorRoom + (rest.map fun v => v.category).sum ≤ W9) (hdg : decode c.code g.pc = .ok (.invokestatic index, 3))
    (hpre : ∀ vm₁, s.WarmedH vm₁ → Pre ⟨T.setVm vm₁, locs, cells, slots⟩ argsL.toArray) :
    ∃ (v : Option Value) (vm₁ : Vm) (B : Pt), s.WarmedH vm₁ ∧ Stand p l e R s m args below meth c B.U B.locs B.cells B.slots ∧ Post ⟨T.setVm vm₁, locs, cells, slots⟩ argsL.toArray v B ∧
      ∀ target, Steps p.tables e below (B.U.setTop { g with pc := g.pc + 3, stack := v.toList ++ rest }) target → Steps p.tables e below (T.setTop g) target := by
  obtain ⟨mk, methM, cM, hnamed, hmethM, -, -, -, -, -, -, hsigM⟩ := Cond.codeWith_spec hcode
  have hstatic : methM.isStatic = true := Cond.static_spec hnamed hmethM hstat
  obtain ⟨kP, hkP, -⟩ := className_of_methodNamed hnamed
  have hinitP : kP.init = .initialized := Cond.initialized_spec (findClass_of_methodNamed hnamed) hkP hinit
  obtain ⟨vm₁, X₁, hstep₁⟩ := X.invokestatic hexec hown hlink hnamed hmethM hstatic hkP hinitP hy (g := g) hg (argsL := argsL) (rest := rest) (hlen _ hsigM) hstack hdg
  obtain ⟨v, B, X', hpost, hsteps⟩ := hK m meth c ⟨T.setVm vm₁, locs, cells, slots⟩ { g with stack := rest } (.invokestatic index) mk argsL.toArray X₁ hg hsize hdg hW (X₁.named hnamed) (hpre vm₁ X₁.warmed)
  exact ⟨v, vm₁, B, X₁.warmed, X', hpost, fun target h => hstep₁ _ fun acts => by rw [doInvoke_state]; exact hsteps.trans h⟩
theorem vx_runSW {y : MethodName} {bytes cc : ByteArray} {maxL nL mc ms n index : Nat} {ret : Option FieldType} {hh : List (Nat × Nat × Nat × Nat)} {ws : List Cond} {rm : Room} {Pc : Array Value → State → Prop} {Qc : Array Value → State → Outcome → State → Prop} {free : Addr → Prop} {Ts : List Cond} {own : String} {As rest : List Value} {g : JFrame}
    (S : CallFix p m c cc nL s args Ts own) (hM : Met l y ws rm Pc Qc mc ms free) (cw : vx_CSW R s args own index y bytes maxL ret hh ws rm mc ms n) (hp : PreS s H Pc As)
    (hg : g.method = m) (hn : As.length = n) (hsize : g.locals.size = nL) (hstack : g.stack = As.reverse ++ rest) (hW : 2 * g.monitorRoom + (rest.map fun v => v.category).sum ≤ 8) (hdg : decode cc g.pc = .ok (.invokestatic index, 3)) (hf : cells + mc ≤ R.cells ∧ slots + ms ≤ R.slots) :
    va_Run p l e R s m args below meth c H locs cells slots mc ms g rest (Qc As.toArray) (free) := by
  obtain ⟨⟨hrc, hrs, hfr, hlo, hws, hcw⟩, hcode, hini, hy, hlen, hl, hstt⟩ := cw
  have hK : Back l R p e below s args y 3 8 (PreOf R mc ms Pc) (PostOf Qc mc ms free) := va_backW (hh := hh) (bytes := bytes) (maxL := maxL) (ret := ret) hM hp.1 hrc hrs hfr hlo hws hcw (fun a' U hW => word_at hW (Or.inl (by first | rfl | simp [Cond.onTables, Cond.keeps, Cond.steady])) hini)
  obtain ⟨hx, hb, hml, ho, -⟩ := S
  intro T hT X
  obtain ⟨v, vm₁, ⟨U', l2, c2, s2⟩, hW₁, X', ⟨g', mk, t, L, e1, e2, hq, h1, hL, h2, h3⟩, st⟩ := vx_callSW X hx (hh := hh) (bytes := bytes) (maxL := maxL) (ret := ret) ho hl hstt hini hcode hy hK hg (hsize.trans hml.symm) (argsL := As) (rest := rest) (fun sig h => hn.trans (hlen sig h)) hstack hW (by rw [hb]; exact hdg)
    (fun vm₁ hW₁ => ⟨hf.1, hf.2, hp.2 (T.setVm vm₁) hT hW₁⟩)
  dsimp only [Pt.U, Pt.locs, Pt.cells, Pt.slots] at X' e1 e2 h1 h2 h3 st
  subst h1; subst h2; subst h3
  exact ⟨v, (T.setVm vm₁).calling g' mk As.toArray, t, U', L, hT, X', hL, e1, e2, hq, st⟩
/-- a thing of a world lies in the heap -/
theorem vx_lt {D : va_G} {cl : List vw_C} {ws : va_W} {H1 : Heap} (h : va_P D cl ws H1) {k : Nat} {q : Nat × va_E} (hk : ws[k]? = some q) : q.1 < H1.size := (h k q hk).lt
end VXS
/-! ===== END ===== -/
/-! ===== BEGIN methods with a table of their own: called by a name, returning or throwing ===== -/
section VXH
/-! vx_backW, vx_callVX, vx_callSX, vx_callVW, vx_runVW, vx_runVX, vx_runSX, vx_ofWH follow the same proofs as their sisters above (Free/Laws.lean, Shelf42/LK1.lean); vx_outP calls Shelf42/NT130.lean (outThrough). -/
section
variable {l : Launch} {R : Room} {p : Program} {e : Env} {below : List Frame} {s : State} {sargs : Array Value} {y : MethodName} {len W9 : Nat}
theorem vx_backW {ws : List Cond} {rm : Room} {Pc : Array Value → State → Prop} {Qc : Array Value → State → Outcome → State → Prop} {XC : String → State → State → Prop} {mc ms : Nat} {free : Addr → Prop} {bytes : ByteArray} {maxL : Nat} {ret : Option FieldType} {hh : List (Nat × Nat × Nat × Nat)}
    (hM : vx_Met l y ws rm Pc Qc XC mc ms free) (hblind : FrameBlind Pc) (hrc : rm.cells = mc) (hrs : rm.slots = ms)
    (hframes : rm.frames + 1 ≤ R.frames) (hlocals : W9 + (maxL + 11) + rm.locals ≤ R.locals)
    (hws : ∀ w ∈ ws, ∀ a' U, s.WarmedH U.vm → w.before a' U = true) (hcode : Cond.codeWith y bytes maxL ret hh ∈ ws) (hinit : ∀ a' U, s.WarmedH U.vm → (Cond.initialized y.cls).before a' U = true) :
    vx_Back l R p e below s sargs y len W9 (PreOf R mc ms Pc) (PostOf Qc mc ms free) (vx_Post XC mc ms free) := by
  intro m meth c A g ig mk a X hg hsize hdg hW hn hp
  have h1 : (headSpec ws rm).pre.before a A.U = true := atoms_intro fun w hw => hws w hw _ _ X.warmed
  have h2 : (Cond.codeWith y bytes maxL ret hh).before a A.U = true := hws _ hcode _ _ X.warmed
  have h3 : (Cond.initialized y.cls).before a A.U = true := hinit _ _ X.warmed
  have h4 : A.cells + (headSpec ws rm).room.cells ≤ R.cells := by rw [show (headSpec ws rm).room.cells = mc from hrc]; exact hp.1
  have h5 : A.slots + (headSpec ws rm).room.slots ≤ R.slots := by rw [show (headSpec ws rm).room.slots = ms from hrs]; exact hp.2.1
  have hPc : Pc a (A.U.calling g mk a) := hblind _ _ _ _ hp.2.2
  obtain ⟨U, Ls, c0, s0⟩ := A
  dsimp only [Pt.U, Pt.locs, Pt.cells, Pt.slots] at h1 h2 h3 h4 h5 X hn hPc ⊢
  obtain ⟨m9, methY, cY, hn9, hmY, hcY, -, hlY, -⟩ := Cond.codeWith_spec h2
  cases Option.some.inj (hn9.symm.trans hn)
  obtain ⟨kY, hkY, -⟩ := className_of_methodNamed hn
  have hinitY : kY.init = .initialized := Cond.initialized_spec (findClass_of_methodNamed hn) hkY h3
  have h : At U g.method c below := by rw [hg]; exact X.here
  have hlocals9 : W9 + (maxL + 11) + (headSpec ws rm).room.locals ≤ R.locals := hlocals
  have happ : (headSpec ws rm).appliesLoose y e.platform (U.calling g mk a) = true :=
    Spec.appliesLoose_calling (g := g) h hdg hn hkY hinitY
      (X.room_calling (g := g) (R' := (headSpec ws rm).room) hsize hmY hcY hframes (by rw [hlY]; omega) h4 h5) h1
  obtain ⟨mid, hmid⟩ := h.above
  have hfr : (U.setTop g).frames = (.java g :: mid) ++ below := by rw [State.frames_setTop' g h.top, hmid]; rfl
  obtain ⟨o, s₂, hsteps, -, hend, hq⟩ := Steps.callFree hM p X.admits X.cas X.clock (acts := []) hfr happ hPc trivial
  have hq' : vx_Q Qc XC mc ms free a (U.calling g mk a) o s₂ := hq
  rw [State.frames_setTop' g h.top] at hend
  obtain ⟨g₀, hg0⟩ := Option.isSome_iff_exists.mp h.top
  obtain ⟨r, hr⟩ := State.topJava?_eq_some.mp hg0
  have hr' : (({ U with heap := s₂.heap, slotsUsed := s₂.slotsUsed } : State).setVm s₂.vm).frames = .java g₀ :: r := hr
  rcases hq' with ⟨hqc, L, hfe, hL⟩ | ⟨q, rfl, E, ce, L, hx, hce, hcv, hcl, hW₂, hsm, hL⟩
  · obtain ⟨⟨v, rfl⟩, hW₂, e2, q2, q3, q4, q5, q6⟩ := id hfe
    have e3 : s₂ = ({ (U.calling g mk a).setFrames s₂.frames with heap := s₂.heap, slotsUsed := s₂.slotsUsed } : State).setVm s₂.vm := by
      have : s₂ = ({ s₂ with vm := (U.calling g mk a).vm } : State).setVm s₂.vm := rfl
      rw [e2] at this
      exact this
    obtain ⟨c₂, i₂, len₂, hc₂, hd₂, hf₂⟩ := hend
    have hW' : U.WarmedH s₂.vm := hW₂
    have hcc : c₂ = c := by
      have h1 : s₂.code? g.method = U.code? g.method := by
        rw [State.code?_eq, State.code?_eq, hW'.alike.method?]
      exact Option.some.inj (hc₂.symm.trans (h1.trans h.code))
    subst hcc
    have hlen : len₂ = len := by rw [hdg] at hd₂; cases hd₂; rfl
    subst hlen
    have hs₂ : s₂ = (({ U with heap := s₂.heap, slotsUsed := s₂.slotsUsed } : State).setVm s₂.vm).setTop { g with pc := g.pc + len₂, stack := v.toList ++ g.stack } := by
      refine e3.trans ?_
      rw [hf₂, State.calling_eq h.top, State.setFrames_setFrames, State.setTop_of_frames _ hr', hr]
      rfl
    have hsame : U.sameButNew ({ U with heap := s₂.heap, slotsUsed := s₂.slotsUsed } : State) L mc ms := by
      refine ⟨?_, q2, q3, q4, q5, q6⟩
      obtain ⟨t, ht, -⟩ := State.frames_cons hr
      show ({ U with heap := s₂.heap, slotsUsed := s₂.slotsUsed } : State) = { U.setFrames U.frames with heap := s₂.heap, slotsUsed := s₂.slotsUsed }
      rw [State.setFrames_self ht]
    subst hg
    refine Or.inl ⟨v, ⟨(({ U with heap := s₂.heap, slotsUsed := s₂.slotsUsed } : State).setVm s₂.vm), Ls ++ L, c0 + mc, s0 + ms⟩,
      ⟨X.admits, X.cas, X.clock, X.frames, X.room, X.hears, X.method, X.code, (X.here.setHeapUsed s₂.heap s₂.slotsUsed).setVm hW'.alike, X.tail, State.WarmedH.trans X.warmed hW', X.limits, X.bytes, X.same.trans (hsame.setVm s.vm)⟩,
      ⟨g, mk, s₂, L, rfl, rfl, hqc, rfl, hL, rfl, rfl⟩, ?_⟩
    show Steps p.tables e below _ ((({ U with heap := s₂.heap, slotsUsed := s₂.slotsUsed } : State).setVm s₂.vm).setTop { g with pc := g.pc + len₂, stack := v.toList ++ g.stack })
    rw [← hs₂]
    exact hsteps
  · obtain ⟨e2, q2, q3, q4, q5, q6⟩ := id hsm
    have e3 : s₂ = ({ (U.calling g mk a).setFrames s₂.frames with heap := s₂.heap, slotsUsed := s₂.slotsUsed } : State).setVm s₂.vm := by
      have : s₂ = ({ s₂ with vm := (U.calling g mk a).vm } : State).setVm s₂.vm := rfl
      rw [e2] at this
      exact this
    have hf₂ : s₂.frames = .throwing q :: .java g :: U.frames.tail := hend
    have hW' : U.WarmedH s₂.vm := hW₂
    have hs₂ : s₂ = ((({ U with heap := s₂.heap, slotsUsed := s₂.slotsUsed } : State).setVm s₂.vm).setTop g).pushFrame (.throwing q) := by
      refine e3.trans ?_
      rw [hf₂, State.calling_eq h.top, State.setFrames_setFrames, State.pushFrame, State.frames_setTop _ hr', State.setTop_of_frames _ hr', State.setFrames_setFrames, hr]
      rfl
    have hsame : U.sameButNew ({ U with heap := s₂.heap, slotsUsed := s₂.slotsUsed } : State) L mc ms := by
      refine ⟨?_, q2, q3, q4, q5, q6⟩
      obtain ⟨t, ht, -⟩ := State.frames_cons hr
      show ({ U with heap := s₂.heap, slotsUsed := s₂.slotsUsed } : State) = { U.setFrames U.frames with heap := s₂.heap, slotsUsed := s₂.slotsUsed }
      rw [State.setFrames_self ht]
    subst hg
    refine Or.inr ⟨q, ⟨(({ U with heap := s₂.heap, slotsUsed := s₂.slotsUsed } : State).setVm s₂.vm), Ls ++ L, c0 + mc, s0 + ms⟩,
      ⟨X.admits, X.cas, X.clock, X.frames, X.room, X.hears, X.method, X.code, (X.here.setHeapUsed s₂.heap s₂.slotsUsed).setVm hW'.alike, X.tail, State.WarmedH.trans X.warmed hW', X.limits, X.bytes, X.same.trans (hsame.setVm s.vm)⟩,
      ⟨g, mk, s₂, L, E, ce, rfl, rfl, hx, hce, hcv, hcl, rfl, hL, rfl, rfl⟩, ?_⟩
    show Steps p.tables e below _ (((({ U with heap := s₂.heap, slotsUsed := s₂.slotsUsed } : State).setVm s₂.vm).setTop g).pushFrame (.throwing q))
    rw [← hs₂]
    exact hsteps
end
variable {p : Program} {l : Launch} {e : Env} {R : Room} {s : State} {m : MethodId} {args : Array Value} {below : List Frame} {meth : Method} {c : Code} {T : State} {H : Heap} {locs : List Loc} {cells slots : Nat}
theorem vx_callVX (X : Stand p l e R s m args below meth c T locs cells slots) (hexec : p.tables.exec = Jvm.exec) {own C : String} {index : Nat} {y : MethodName} {bytes : ByteArray} {maxL : Nat} {ret : Option FieldType} {hh : List (Nat × Nat × Nat × Nat)}
    (hown : s.vm.findClass own = some m.cls) (hlink : (Cond.methodLink own index y).before args s = true) (hinst : (Cond.instanceMethod y).before args s = true) (hsel : (Cond.selects C y y).before args s = true)
    (hcode : (Cond.codeWith y bytes maxL ret hh).before args s = true) (hy : y.cls ≠ "java/lang/invoke/MethodHandle" ∧ y.cls ≠ "java/lang/invoke/VarHandle")
    {W9 : Nat} {Pre : Pt → Array Value → Prop} {Post : Pt → Array Value → Option Value → Pt → Prop} {PostX : Pt → Array Value → Addr → Pt → Prop} (hK : vx_Back l R p e below s args y 3 W9 Pre Post PostX)
    {b : Addr} {cellB : Cell} (hcell : T.heap[b]? = some cellB) (hobj : cellB.vm.isStatics = false) (hcls : s.vm.findClass C = some cellB.cls)
    {g : JFrame} (hg : g.method = m) (hsize : g.locals.size = c.maxLocals) {argsL rest : List Value} (hlen : ∀ sig, parseMethodDescriptor y.desc = some sig → argsL.length = sig.parameters.length)
    (hstack : g.stack = argsL.reverse ++ .ref b :: rest) (hW : 2 * g.monitorRoom + (rest.map fun v => v.category).sum ≤ W9) (hdg : decode c.code g.pc = .ok (.invokevirtual index, 3))
    (hpre : ∀ vm₁, s.WarmedH vm₁ → Pre ⟨T.setVm vm₁, locs, cells, slots⟩ (Value.ref b :: argsL).toArray) :
    (∃ (v : Option Value) (vm₁ : Vm) (B : Pt), s.WarmedH vm₁ ∧ Stand p l e R s m args below meth c B.U B.locs B.cells B.slots ∧ Post ⟨T.setVm vm₁, locs, cells, slots⟩ (Value.ref b :: argsL).toArray v B ∧
      ∀ target, Steps p.tables e below (B.U.setTop { g with pc := g.pc + 3, stack := v.toList ++ rest }) target → Steps p.tables e below (T.setTop g) target) ∨
    (∃ (q : Addr) (vm₁ : Vm) (B : Pt), s.WarmedH vm₁ ∧ Stand p l e R s m args below meth c B.U B.locs B.cells B.slots ∧ PostX ⟨T.setVm vm₁, locs, cells, slots⟩ (Value.ref b :: argsL).toArray q B ∧
      Steps p.tables e below (T.setTop g) ((B.U.setTop { g with stack := rest }).pushFrame (.throwing q))) := by
  obtain ⟨mk, methM, hnamed, hmethM, hstM, habM⟩ := Cond.instanceMethod_spec hinst
  obtain ⟨m8, methM', cM, hn8, hmethM', -, -, -, -, -, -, hsigM⟩ := Cond.codeWith_spec hcode
  cases Option.some.inj (hn8.symm.trans hnamed)
  cases hmethM.symm.trans hmethM'
  obtain ⟨c2, r2, m2, q1, q2, q3, q4, kP, hkP, hkPi⟩ := Cond.selects_spec hsel
  cases hcls.symm.trans q1
  cases (State.methodFound?_of_named hnamed hy).symm.trans q2
  cases hnamed.symm.trans q3
  have hselP : selectMethod e.platform s.vm cellB.cls mk = .method mk := by rw [Launch.admits_selectMethod X.admits]; exact q4
  obtain ⟨vm₁, X₁, hstep₁⟩ := X.invokevirtual hexec hown hlink hnamed hmethM hstM hkP hkPi hy (a := b) (cell := cellB) hcell
    (fun z h => by rw [h] at hobj; cases hobj) hselP hmethM habM hkP hkPi (g := g) hg (argsL := argsL) (rest := rest) (hlen _ hsigM) hstack hdg
  rcases hK m meth c ⟨T.setVm vm₁, locs, cells, slots⟩ { g with stack := rest } (.invokevirtual index) mk (Value.ref b :: argsL).toArray X₁ hg hsize hdg hW (X₁.named hnamed) (hpre vm₁ X₁.warmed) with ⟨v, B, X', hpost, hsteps⟩ | ⟨q, B, X', hpost, hsteps⟩
  · exact Or.inl ⟨v, vm₁, B, X₁.warmed, X', hpost, fun target h => hstep₁ _ fun acts => by rw [doInvoke_state]; exact hsteps.trans h⟩
  · exact Or.inr ⟨q, vm₁, B, X₁.warmed, X', hpost, hstep₁ _ fun acts => by rw [doInvoke_state]; exact hsteps⟩
theorem vx_callSX (X : Stand p l e R s m args below meth c T locs cells slots) (hexec : p.tables.exec = Jvm.exec) {own : String} {index : Nat} {y : MethodName} {bytes : ByteArray} {maxL : Nat} {ret : Option FieldType} {hh : List (Nat × Nat × Nat × Nat)}
    (hown : s.vm.findClass own = some m.cls) (hlink : (Cond.methodLink own index y).before args s = true) (hstat : (Cond.static y).before args s = true) (hinit : (Cond.initialized y.cls).before args s = true)
    (hcode : (Cond.codeWith y bytes maxL ret hh).before args s = true) (hy : y.cls ≠ "java/lang/invoke/MethodHandle" ∧ y.cls ≠ "java/lang/invoke/VarHandle")
    {W9 : Nat} {Pre : Pt → Array Value → Prop} {Post : Pt → Array Value → Option Value → Pt → Prop} {PostX : Pt → Array Value → Addr → Pt → Prop} (hK : vx_Back l R p e below s args y 3 W9 Pre Post PostX)
    {g : JFrame} (hg : g.method = m) (hsize : g.locals.size = c.maxLocals) {argsL rest : List Value} (hlen : ∀ sig, parseMethodDescriptor y.desc = some sig → argsL.length = sig.parameters.length)
    (hstack : g.stack = argsL.reverse ++ rest) (hW : 2 * g.monitorRoom + (rest.map fun v => v.category).sum ≤ W9) (hdg : decode c.code g.pc = .ok (.invokestatic index, 3))
    (hpre : ∀ vm₁, s.WarmedH vm₁ → Pre ⟨T.setVm vm₁, locs, cells, slots⟩ argsL.toArray) :
    (∃ (v : Option Value) (vm₁ : Vm) (B : Pt), s.WarmedH vm₁ ∧ Stand p l e R s m args below meth c B.U B.locs B.cells B.slots ∧ Post ⟨T.setVm vm₁, locs, cells, slots⟩ argsL.toArray v B ∧
      ∀ target, Steps p.tables e below (B.U.setTop { g with pc := g.pc + 3, stack := v.toList ++ rest }) target → Steps p.tables e below (T.setTop g) target) ∨
    (∃ (q : Addr) (vm₁ : Vm) (B : Pt), s.WarmedH vm₁ ∧ Stand p l e R s m args below meth c B.U B.locs B.cells B.slots ∧ PostX ⟨T.setVm vm₁, locs, cells, slots⟩ argsL.toArray q B ∧
      Steps p.tables e below (T.setTop g) ((B.U.setTop { g with stack := rest }).pushFrame (.throwing q))) := by
  obtain ⟨mk, methM, cM, hnamed, hmethM, -, -, -, -, -, -, hsigM⟩ := Cond.codeWith_spec hcode
  have hstatic : methM.isStatic = true := Cond.static_spec hnamed hmethM hstat
  obtain ⟨kP, hkP, -⟩ := className_of_methodNamed hnamed
  have hinitP : kP.init = .initialized := Cond.initialized_spec (findClass_of_methodNamed hnamed) hkP hinit
  obtain ⟨vm₁, X₁, hstep₁⟩ := X.invokestatic hexec hown hlink hnamed hmethM hstatic hkP hinitP hy (g := g) hg (argsL := argsL) (rest := rest) (hlen _ hsigM) hstack hdg
  rcases hK m meth c ⟨T.setVm vm₁, locs, cells, slots⟩ { g with stack := rest } (.invokestatic index) mk argsL.toArray X₁ hg hsize hdg hW (X₁.named hnamed) (hpre vm₁ X₁.warmed) with ⟨v, B, X', hpost, hsteps⟩ | ⟨q, B, X', hpost, hsteps⟩
  · exact Or.inl ⟨v, vm₁, B, X₁.warmed, X', hpost, fun target h => hstep₁ _ fun acts => by rw [doInvoke_state]; exact hsteps.trans h⟩
  · exact Or.inr ⟨q, vm₁, B, X₁.warmed, X', hpost, hstep₁ _ fun acts => by rw [doInvoke_state]; exact hsteps⟩
theorem vx_callVW (X : Stand p l e R s m args below meth c T locs cells slots) (hexec : p.tables.exec = Jvm.exec) {own C : String} {index : Nat} {y : MethodName} {bytes : ByteArray} {maxL : Nat} {ret : Option FieldType} {hh : List (Nat × Nat × Nat × Nat)}
    (hown : s.vm.findClass own = some m.cls) (hlink : (Cond.methodLink own index y).before args s = true) (hinst : (Cond.instanceMethod y).before args s = true) (hsel : (Cond.selects C y y).before args s = true)
    (hcode : (Cond.codeWith y bytes maxL ret hh).before args s = true) (hy : y.cls ≠ "java/lang/invoke/MethodHandle" ∧ y.cls ≠ "java/lang/invoke/VarHandle")
    {W9 : Nat} {Pre : Pt → Array Value → Prop} {Post : Pt → Array Value → Option Value → Pt → Prop} (hK : Back l R p e below s args y 3 W9 Pre Post)
    {b : Addr} {cellB : Cell} (hcell : T.heap[b]? = some cellB) (hobj : cellB.vm.isStatics = false) (hcls : s.vm.findClass C = some cellB.cls)
    {g : JFrame} (hg : g.method = m) (hsize : g.locals.size = c.maxLocals) {argsL rest : List Value} (hlen : ∀ sig, parseMethodDescriptor y.desc = some sig → argsL.length = sig.parameters.length)
    (hstack : g.stack = argsL.reverse ++ .ref b :: rest) (hW : 2 * g.monitorRoom + (rest.map fun v => v.category).sum ≤ W9) (hdg : decode c.code g.pc = .ok (.invokevirtual index, 3))
    (hpre : ∀ vm₁, s.WarmedH vm₁ → Pre ⟨T.setVm vm₁, locs, cells, slots⟩ (Value.ref b :: argsL).toArray) :
    ∃ (v : Option Value) (vm₁ : Vm) (B : Pt), s.WarmedH vm₁ ∧ Stand p l e R s m args below meth c B.U B.locs B.cells B.slots ∧ Post ⟨T.setVm vm₁, locs, cells, slots⟩ (Value.ref b :: argsL).toArray v B ∧
      ∀ target, Steps p.tables e below (B.U.setTop { g with pc := g.pc + 3, stack := v.toList ++ rest }) target → Steps p.tables e below (T.setTop g) target := by
  obtain ⟨mk, methM, hnamed, hmethM, hstM, habM⟩ := Cond.instanceMethod_spec hinst
  obtain ⟨m8, methM', cM, hn8, hmethM', -, -, -, -, -, -, hsigM⟩ := Cond.codeWith_spec hcode
  cases Option.some.inj (hn8.symm.trans hnamed)
  cases hmethM.symm.trans hmethM'
  obtain ⟨c2, r2, m2, q1, q2, q3, q4, kP, hkP, hkPi⟩ := Cond.selects_spec hsel
  cases hcls.symm.trans q1
  cases (State.methodFound?_of_named hnamed hy).symm.trans q2
  cases hnamed.symm.trans q3
  have hselP : selectMethod e.platform s.vm cellB.cls mk = .method mk := by rw [Launch.admits_selectMethod X.admits]; exact q4
  obtain ⟨vm₁, X₁, hstep₁⟩ := X.invokevirtual hexec hown hlink hnamed hmethM hstM hkP hkPi hy (a := b) (cell := cellB) hcell
    (fun z h => by rw [h] at hobj; cases hobj) hselP hmethM habM hkP hkPi (g := g) hg (argsL := argsL) (rest := rest) (hlen _ hsigM) hstack hdg
  obtain ⟨v, B, X', hpost, hsteps⟩ := hK m meth c ⟨T.setVm vm₁, locs, cells, slots⟩ { g with stack := rest } (.invokevirtual index) mk (Value.ref b :: argsL).toArray X₁ hg hsize hdg hW (X₁.named hnamed) (hpre vm₁ X₁.warmed)
  exact ⟨v, vm₁, B, X₁.warmed, X', hpost, fun target h => hstep₁ _ fun acts => by rw [doInvoke_state]; exact hsteps.trans h⟩
abbrev vx_CVW (R : Room) (s : State) (args : Array Value) (own C : String) (index : Nat) (y : MethodName) (bytes : ByteArray) (maxL : Nat) (ret : Option FieldType) (hh : List (Nat × Nat × Nat × Nat)) (ws : List Cond) (rm : Room) (mc ms n : Nat) : Prop :=
  (rm.cells = mc ∧ rm.slots = ms ∧ rm.frames + 1 ≤ R.frames ∧ 8 + (maxL + 11) + rm.locals ≤ R.locals ∧ (∀ w ∈ ws, ∀ (a' : Array Value) (U : State), s.WarmedH U.vm → w.before a' U = true) ∧ Cond.codeWith y bytes maxL ret hh ∈ ws) ∧
  (Cond.codeWith y bytes maxL ret hh).before args s = true ∧ (Cond.initialized y.cls).before args s = true ∧ (y.cls ≠ "java/lang/invoke/MethodHandle" ∧ y.cls ≠ "java/lang/invoke/VarHandle") ∧
  (∀ sig, parseMethodDescriptor y.desc = some sig → n = sig.parameters.length) ∧ (Cond.methodLink own index y).before args s = true ∧ (Cond.instanceMethod y).before args s = true ∧ (Cond.selects C y y).before args s = true
theorem vx_cwVW {own C : String} {index maxL mc ms : Nat} {y : MethodName} {bytes : ByteArray} {ret : Option FieldType} {hh : List (Nat × Nat × Nat × Nat)} {Ts ws ws' : List Cond} {rm : Room} (n : Nat) (ht : ∀ w ∈ Ts, w.before args s = true) (hT : GoodIn Ts (wsV own index C y ws)) (hw : ws = Cond.codeWith y bytes maxL ret hh :: ws') (hrc : rm.cells = mc) (hrs : rm.slots = ms)
    (hd : y.cls = C ∧ y.cls ≠ "java/lang/invoke/MethodHandle" ∧ y.cls ≠ "java/lang/invoke/VarHandle" ∧ (parseMethodDescriptor y.desc).map (fun d => d.parameters.length) = some n) (hR : rm.frames + 1 ≤ R.frames ∧ 8 + (maxL + 11) + rm.locals ≤ R.locals) :
    vx_CVW R s args own C index y bytes maxL ret hh ws rm mc ms n := by
  obtain ⟨hC, hd⟩ := hd
  subst hC
  have ok : ∀ w ∈ wsV own index y.cls y ws, w.before args s = true := fun w h => ht w (hT w h).1
  have hG : GoodIn Ts ws := fun w h => hT w (by unfold wsV; exact List.mem_append_right _ h)
  have hc : Cond.codeWith y bytes maxL ret hh ∈ ws := by rw [hw]; exact List.mem_cons_self
  refine ⟨⟨hrc, hrs, hR.1, hR.2, pay_in ht hG, hc⟩, ht _ (hG _ hc).1, ok _ (by simp [wsV]), ⟨hd.1, hd.2.1⟩, fun sig h => ?_, ok _ (by simp [wsV]), ok _ (by simp [wsV]), ok _ (by simp [wsV])⟩
  have h2 := hd.2.2
  rw [h] at h2
  exact (Option.some.inj h2).symm
theorem vx_runVW {y : MethodName} {bytes cc : ByteArray} {maxL nL mc ms n index : Nat} {ret : Option FieldType} {hh : List (Nat × Nat × Nat × Nat)} {ws : List Cond} {rm : Room} {Pc : Array Value → State → Prop} {Qc : Array Value → State → Outcome → State → Prop} {free : Addr → Prop} {Ts : List Cond} {own C : String} {b : Addr} {As rest : List Value} {g : JFrame}
    (S : CallFix p m c cc nL s args Ts own) (hM : Met l y ws rm Pc Qc mc ms free) (cw : vx_CVW R s args own C index y bytes maxL ret hh ws rm mc ms n) (hp : PreV s H C b Pc As)
    (hg : g.method = m) (hn : As.length = n) (hsize : g.locals.size = nL) (hstack : g.stack = As.reverse ++ .ref b :: rest) (hW : 2 * g.monitorRoom + (rest.map fun v => v.category).sum ≤ 8) (hdg : decode cc g.pc = .ok (.invokevirtual index, 3)) (hf : cells + mc ≤ R.cells ∧ slots + ms ≤ R.slots) :
    va_Run p l e R s m args below meth c H locs cells slots mc ms g rest (Qc (Value.ref b :: As).toArray) free := by
  obtain ⟨⟨hrc, hrs, hfr, hlo, hws, hcw⟩, hcode, hini, hy, hlen, hl, hin, hse⟩ := cw
  have hK : Back l R p e below s args y 3 8 (PreOf R mc ms Pc) (PostOf Qc mc ms free) := va_backW (hh := hh) (bytes := bytes) (maxL := maxL) (ret := ret) hM hp.1 hrc hrs hfr hlo hws hcw (fun a' U hW => word_at hW (Or.inl (by first | rfl | simp [Cond.onTables, Cond.keeps, Cond.steady])) hini)
  obtain ⟨hx, hb, hml, ho, -⟩ := S
  obtain ⟨-, ⟨cellB, hcB, hoB, hclB⟩, hPc⟩ := hp
  intro T hT X
  obtain ⟨v, vm₁, ⟨U', l2, c2, s2⟩, hW₁, X', ⟨g', mk, t, L, e1, e2, hq, h1, hL, h2, h3⟩, st⟩ := vx_callVW X hx (C := C) (hh := hh) (bytes := bytes) (maxL := maxL) (ret := ret) ho hl hin hse hcode hy hK (by rw [hT]; exact hcB) hoB hclB hg (hsize.trans hml.symm) (argsL := As) (rest := rest) (fun sig h => hn.trans (hlen sig h)) hstack hW (by rw [hb]; exact hdg)
    (fun vm₁ hW₁ => ⟨hf.1, hf.2, hPc (T.setVm vm₁) hT hW₁⟩)
  dsimp only [Pt.U, Pt.locs, Pt.cells, Pt.slots] at X' e1 e2 h1 h2 h3 st
  subst h1; subst h2; subst h3
  exact ⟨v, (T.setVm vm₁).calling g' mk (Value.ref b :: As).toArray, t, U', L, hT, X', hL, e1, e2, hq, st⟩
section
variable {y : MethodName} {bytes cc : ByteArray} {maxL nL mc ms n index : Nat} {ret : Option FieldType} {ws : List Cond} {rm : Room} {Pc : Array Value → State → Prop} {Qc : Array Value → State → Outcome → State → Prop} {XC : String → State → State → Prop} {free : Addr → Prop} {Ts : List Cond} {own C : String} {b : Addr} {As rest : List Value} {g : JFrame}
theorem vx_runVX {hh : List (Nat × Nat × Nat × Nat)} (S : CallFix p m c cc nL s args Ts own) (hM : vx_Met l y ws rm Pc Qc XC mc ms free) (cw : vx_CVW R s args own C index y bytes maxL ret hh ws rm mc ms n) (hp : PreV s H C b Pc As)
    (hg : g.method = m) (hn : As.length = n) (hsize : g.locals.size = nL) (hstack : g.stack = As.reverse ++ .ref b :: rest) (hW : 2 * g.monitorRoom + (rest.map fun v => v.category).sum ≤ 8) (hdg : decode cc g.pc = .ok (.invokevirtual index, 3)) (hf : cells + mc ≤ R.cells ∧ slots + ms ≤ R.slots) :
    vx_Run p l e R s m args below meth c H locs cells slots mc ms g rest (Qc (Value.ref b :: As).toArray) XC free := by
  obtain ⟨⟨hrc, hrs, hfr, hlo, hws, hcw⟩, hcode, hini, hy, hlen, hl, hin, hse⟩ := cw
  have hK : vx_Back l R p e below s args y 3 8 (PreOf R mc ms Pc) (PostOf Qc mc ms free) (vx_Post XC mc ms free) := vx_backW (hh := hh) (bytes := bytes) (maxL := maxL) (ret := ret) hM hp.1 hrc hrs hfr hlo hws hcw (fun a' U hW => word_at hW (Or.inl (by first | rfl | simp [Cond.onTables, Cond.keeps, Cond.steady])) hini)
  obtain ⟨hx, hb, hml, ho, -⟩ := S
  obtain ⟨-, ⟨cellB, hcB, hoB, hclB⟩, hPc⟩ := hp
  intro T hT X
  rcases vx_callVX X hx (C := C) (hh := hh) (bytes := bytes) (maxL := maxL) (ret := ret) ho hl hin hse hcode hy hK (by rw [hT]; exact hcB) hoB hclB hg (hsize.trans hml.symm) (argsL := As) (rest := rest) (fun sig h => hn.trans (hlen sig h)) hstack hW (by rw [hb]; exact hdg)
    (fun vm₁ hW₁ => ⟨hf.1, hf.2, hPc (T.setVm vm₁) hT hW₁⟩) with ⟨v, vm₁, ⟨U', l2, c2, s2⟩, hW₁, X', ⟨g', mk, t, L, e1, e2, hq, h1, hL, h2, h3⟩, st⟩ | ⟨q, vm₁, ⟨U', l2, c2, s2⟩, hW₁, X', ⟨g', mk, t, L, E, ce, e1, e2, hq, hce, hcv, hcl, h1, hL, h2, h3⟩, st⟩
  · dsimp only [Pt.U, Pt.locs, Pt.cells, Pt.slots] at X' e1 e2 h1 h2 h3 st
    subst h1; subst h2; subst h3
    exact Or.inl ⟨v, (T.setVm vm₁).calling g' mk (Value.ref b :: As).toArray, t, U', L, hT, X', hL, e1, e2, hq, st⟩
  · dsimp only [Pt.U, Pt.locs, Pt.cells, Pt.slots] at X' e1 e2 h1 h2 h3 st hcl
    subst h1; subst h2; subst h3
    exact Or.inr ⟨q, (T.setVm vm₁).calling g' mk (Value.ref b :: As).toArray, t, U', L, E, ce, hT, X', hL, e1, e2, hq, hce, hcv, vx_cls hW₁ hcl, st⟩
theorem vx_runSX {hh : List (Nat × Nat × Nat × Nat)} (S : CallFix p m c cc nL s args Ts own) (hM : vx_Met l y ws rm Pc Qc XC mc ms free) (cw : vx_CSW R s args own index y bytes maxL ret hh ws rm mc ms n) (hp : PreS s H Pc As)
    (hg : g.method = m) (hn : As.length = n) (hsize : g.locals.size = nL) (hstack : g.stack = As.reverse ++ rest) (hW : 2 * g.monitorRoom + (rest.map fun v => v.category).sum ≤ 8) (hdg : decode cc g.pc = .ok (.invokestatic index, 3)) (hf : cells + mc ≤ R.cells ∧ slots + ms ≤ R.slots) :
    vx_Run p l e R s m args below meth c H locs cells slots mc ms g rest (Qc As.toArray) XC free := by
  obtain ⟨⟨hrc, hrs, hfr, hlo, hws, hcw⟩, hcode, hini, hy, hlen, hl, hstt⟩ := cw
  have hK : vx_Back l R p e below s args y 3 8 (PreOf R mc ms Pc) (PostOf Qc mc ms free) (vx_Post XC mc ms free) := vx_backW (hh := hh) (bytes := bytes) (maxL := maxL) (ret := ret) hM hp.1 hrc hrs hfr hlo hws hcw (fun a' U hW => word_at hW (Or.inl (by first | rfl | simp [Cond.onTables, Cond.keeps, Cond.steady])) hini)
  obtain ⟨hx, hb, hml, ho, -⟩ := S
  intro T hT X
  rcases vx_callSX X hx (hh := hh) (bytes := bytes) (maxL := maxL) (ret := ret) ho hl hstt hini hcode hy hK hg (hsize.trans hml.symm) (argsL := As) (rest := rest) (fun sig h => hn.trans (hlen sig h)) hstack hW (by rw [hb]; exact hdg)
    (fun vm₁ hW₁ => ⟨hf.1, hf.2, hp.2 (T.setVm vm₁) hT hW₁⟩) with ⟨v, vm₁, ⟨U', l2, c2, s2⟩, hW₁, X', ⟨g', mk, t, L, e1, e2, hq, h1, hL, h2, h3⟩, st⟩ | ⟨q, vm₁, ⟨U', l2, c2, s2⟩, hW₁, X', ⟨g', mk, t, L, E, ce, e1, e2, hq, hce, hcv, hcl, h1, hL, h2, h3⟩, st⟩
  · dsimp only [Pt.U, Pt.locs, Pt.cells, Pt.slots] at X' e1 e2 h1 h2 h3 st
    subst h1; subst h2; subst h3
    exact Or.inl ⟨v, (T.setVm vm₁).calling g' mk As.toArray, t, U', L, hT, X', hL, e1, e2, hq, st⟩
  · dsimp only [Pt.U, Pt.locs, Pt.cells, Pt.slots] at X' e1 e2 h1 h2 h3 st hcl
    subst h1; subst h2; subst h3
    exact Or.inr ⟨q, (T.setVm vm₁).calling g' mk As.toArray, t, U', L, E, ce, hT, X', hL, e1, e2, hq, hce, hcv, vx_cls hW₁ hcl, st⟩
end
end VXH
theorem vx_ofWH {l : Launch} {y : MethodName} {ws ws' : List Cond} {rm : Room} {Pc : Array Value → State → Prop} {Qc : Array Value → State → Outcome → State → Prop} {XC : String → State → State → Prop} {mc ms : Nat} {free : Addr → Prop} {cc : ByteArray} {maxL : Nat} {ret : Option FieldType} {hh : List (Nat × Nat × Nat × Nat)}
    (hy : plainName y.cls = true) (hw : ws = Cond.codeWith y cc maxL ret hh :: ws')
    (body : ∀ p e s m args below meth c s₁, BodyLoose p l y (headSpec ws rm) cc maxL ret e s m args below meth c s₁ → c.maxLocals = maxL → Pc args s →
      W p l e (headSpec ws rm).room s m args below meth c s.heap [] 0 0 (vx_MQ below Qc XC args s mc ms free) (entryFrame m args maxL)) : vx_Met l y ws rm Pc Qc XC mc ms free := by
  refine MetFree.of_bodyS (code := cc) (maxLocals := maxL) (ret := ret) hy ?_ ?_
  · intro args s m h hn
    obtain ⟨m9, meth, c, hn9, h1, h2, h3, h4, -, h5, h6, -⟩ := Cond.codeWith_spec (atoms_spec (ws := ws) h _ (by rw [hw]; exact List.mem_cons_self))
    cases hn.symm.trans hn9
    exact ⟨meth, c, h1, h2, h3, h4, h5, h6⟩
  · intro p e s m args below meth c s₁ B hml hP _
    have hh0 : s₁.heap = s.heap := by rw [B.state]; rfl
    obtain ⟨t, a1, o, b1, b2, b3⟩ := body p e s m args below meth c s₁ B hml hP s₁ hh0 (Stand.of_body B)
    exact ⟨t, o, a1, b1, b2, b3⟩
/-! ===== END ===== -/
end
section
/-! ===== BEGIN printed: names, fields, word lists, decode rows ===== -/
def RX0 : String := "TutorLines$Fraction"
def TX0 : u_T := fun k => match k with
  | 0 => ("TutorLines$Fraction", "above", "J", false)
  | _ => ("TutorLines$Fraction", "below", "J", false)
def tyX0 : Nat → FieldType := fun k => match k with
  | 0 => .long
  | _ => .long
abbrev wsX00 : List Cond := u_ws RX0 TX0 2
theorem nmX0 : ∀ a, a < 2 → ∀ b, b < 2 → a ≠ b → (TX0 a).2.1 ≠ (TX0 b).2.1 := by decide +kernel
theorem tyX0_ok : ∀ k, k < 2 → parseFieldDescriptor (TX0 k).2.2.1 = some (tyX0 k) := by decide +kernel
abbrev cX0_init : ByteArray := prog_2_method_1_code
def yX0_init : MethodName := ⟨RX0, "<init>", "()V"⟩
abbrev cX0_set : ByteArray := prog_2_method_2_code
def yX0_set : MethodName := ⟨RX0, "set", "(JJ)V"⟩
abbrev cX0_setWhole : ByteArray := prog_2_method_3_code
def yX0_setWhole : MethodName := ⟨RX0, "setWhole", "(J)V"⟩
abbrev cX0_copy : ByteArray := prog_2_method_4_code
def yX0_copy : MethodName := ⟨RX0, "copy", "(LTutorLines$Fraction;)V"⟩
abbrev cX0_setShifted : ByteArray := prog_2_method_5_code
def yX0_setShifted : MethodName := ⟨RX0, "setShifted", "(LTutorLines$Fraction;I)V"⟩
abbrev cX0_setOpposite : ByteArray := prog_2_method_6_code
def yX0_setOpposite : MethodName := ⟨RX0, "setOpposite", "(LTutorLines$Fraction;)V"⟩
abbrev cX0_setSum : ByteArray := prog_2_method_7_code
def yX0_setSum : MethodName := ⟨RX0, "setSum", "(LTutorLines$Fraction;LTutorLines$Fraction;)V"⟩
abbrev cX0_setDifference : ByteArray := prog_2_method_8_code
def yX0_setDifference : MethodName := ⟨RX0, "setDifference", "(LTutorLines$Fraction;LTutorLines$Fraction;)V"⟩
abbrev cX0_setProduct : ByteArray := prog_2_method_9_code
def yX0_setProduct : MethodName := ⟨RX0, "setProduct", "(LTutorLines$Fraction;LTutorLines$Fraction;)V"⟩
abbrev cX0_setQuotient : ByteArray := prog_2_method_10_code
def yX0_setQuotient : MethodName := ⟨RX0, "setQuotient", "(LTutorLines$Fraction;LTutorLines$Fraction;)V"⟩
abbrev cX0_isWhole : ByteArray := prog_2_method_11_code
def yX0_isWhole : MethodName := ⟨RX0, "isWhole", "(J)Z"⟩
abbrev cX0_isZero : ByteArray := prog_2_method_12_code
def yX0_isZero : MethodName := ⟨RX0, "isZero", "()Z"⟩
abbrev cX0_sameAs : ByteArray := prog_2_method_13_code
def yX0_sameAs : MethodName := ⟨RX0, "sameAs", "(LTutorLines$Fraction;)Z"⟩
abbrev cX0_fits : ByteArray := prog_2_method_14_code
def yX0_fits : MethodName := ⟨RX0, "fits", "()Z"⟩
abbrev cX0_compareWith : ByteArray := prog_2_method_15_code
def yX0_compareWith : MethodName := ⟨RX0, "compareWith", "(LTutorLines$Fraction;)I"⟩
def RX1 : String := "TutorLines$Line"
def TX1 : u_T := fun k => match k with
  | 0 => ("TutorLines$Line", "left", "LTutorLines$Side;", true)
  | 1 => ("TutorLines$Line", "right", "LTutorLines$Side;", true)
  | _ => ("TutorLines$Line", "relation", "I", false)
def tyX1 : Nat → FieldType := fun k => match k with
  | 0 => .object "TutorLines$Side"
  | 1 => .object "TutorLines$Side"
  | _ => .int
abbrev wsX10 : List Cond := u_ws RX1 TX1 3
theorem nmX1 : ∀ a, a < 3 → ∀ b, b < 3 → a ≠ b → (TX1 a).2.1 ≠ (TX1 b).2.1 := by decide +kernel
theorem tyX1_ok : ∀ k, k < 3 → parseFieldDescriptor (TX1 k).2.2.1 = some (tyX1 k) := by decide +kernel
abbrev cX1_init : ByteArray := prog_3_method_1_code
def yX1_init : MethodName := ⟨RX1, "<init>", "()V"⟩
abbrev cX1_copy : ByteArray := prog_3_method_2_code
def yX1_copy : MethodName := ⟨RX1, "copy", "(LTutorLines$Line;)V"⟩
abbrev cX1_turnRelation : ByteArray := prog_3_method_3_code
def yX1_turnRelation : MethodName := ⟨RX1, "turnRelation", "()V"⟩
abbrev cX1_sameAs : ByteArray := prog_3_method_4_code
def yX1_sameAs : MethodName := ⟨RX1, "sameAs", "(LTutorLines$Line;)Z"⟩
abbrev cX1_fits : ByteArray := prog_3_method_5_code
def yX1_fits : MethodName := ⟨RX1, "fits", "()Z"⟩
def RX2 : String := "TutorLines$Paper"
def TX2 : u_T := fun k => match k with
  | _ => ("TutorLines$Paper", "bytes", "Ljava/lang/StringBuilder;", true)
def tyX2 : Nat → FieldType := fun k => match k with
  | _ => .object "java/lang/StringBuilder"
abbrev wsX20 : List Cond := u_ws RX2 TX2 1
theorem nmX2 : ∀ a, a < 1 → ∀ b, b < 1 → a ≠ b → (TX2 a).2.1 ≠ (TX2 b).2.1 := by decide +kernel
theorem tyX2_ok : ∀ k, k < 1 → parseFieldDescriptor (TX2 k).2.2.1 = some (tyX2 k) := by decide +kernel
abbrev cX2_init : ByteArray := prog_4_method_1_code
def yX2_init : MethodName := ⟨RX2, "<init>", "()V"⟩
abbrev cX2_size : ByteArray := prog_4_method_2_code
def yX2_size : MethodName := ⟨RX2, "size", "()I"⟩
abbrev cX2_byteAt : ByteArray := prog_4_method_3_code
def yX2_byteAt : MethodName := ⟨RX2, "byteAt", "(I)I"⟩
abbrev cX2_write : ByteArray := prog_4_method_4_code
def yX2_write : MethodName := ⟨RX2, "write", "(LTutorLines$Line;)V"⟩
abbrev cX2_writeSide : ByteArray := prog_4_method_5_code
def yX2_writeSide : MethodName := ⟨RX2, "writeSide", "(LTutorLines$Side;)V"⟩
abbrev cX2_writeTimesX : ByteArray := prog_4_method_6_code
def yX2_writeTimesX : MethodName := ⟨RX2, "writeTimesX", "(LTutorLines$Fraction;)V"⟩
abbrev cX2_writeSize : ByteArray := prog_4_method_7_code
def yX2_writeSize : MethodName := ⟨RX2, "writeSize", "(LTutorLines$Fraction;)V"⟩
def RX3 : String := "TutorLines$Plan"
def TX3 : u_T := fun k => match k with
  | _ => ("", "", "", false)
def tyX3 : Nat → FieldType := fun k => match k with
  | _ => .int
abbrev wsX30 : List Cond := u_ws RX3 TX3 0
theorem nmX3 : ∀ a, a < 0 → ∀ b, b < 0 → a ≠ b → (TX3 a).2.1 ≠ (TX3 b).2.1 := by decide +kernel
theorem tyX3_ok : ∀ k, k < 0 → parseFieldDescriptor (TX3 k).2.2.1 = some (tyX3 k) := by decide +kernel
abbrev cX3_write : ByteArray := prog_5_method_2_code
def yX3_write : MethodName := ⟨RX3, "write", "(LTutorLines$Line;LTutorLines$Line;)I"⟩
abbrev cX3_kindFor : ByteArray := prog_5_method_3_code
def yX3_kindFor : MethodName := ⟨RX3, "kindFor", "(LTutorLines$Line;)I"⟩
abbrev cX3_divide : ByteArray := prog_5_method_4_code
def yX3_divide : MethodName := ⟨RX3, "divide", "(LTutorLines$Line;LTutorLines$Line;)V"⟩
def RX4 : String := "TutorLines$Reader"
def TX4 : u_T := fun k => match k with
  | 0 => ("TutorLines$Reader", "text", "[B", false)
  | 1 => ("TutorLines$Reader", "length", "I", false)
  | 2 => ("TutorLines$Reader", "position", "I", false)
  | 3 => ("TutorLines$Reader", "fault", "I", false)
  | 4 => ("TutorLines$Reader", "lastDigit", "I", false)
  | 5 => ("TutorLines$Reader", "sums", "[LTutorLines$Side;", true)
  | 6 => ("TutorLines$Reader", "terms", "[LTutorLines$Side;", true)
  | _ => ("TutorLines$Reader", "factors", "[LTutorLines$Side;", true)
def tyX4 : Nat → FieldType := fun k => match k with
  | 0 => .array .byte
  | 1 => .int
  | 2 => .int
  | 3 => .int
  | 4 => .int
  | 5 => .array (.object "TutorLines$Side")
  | 6 => .array (.object "TutorLines$Side")
  | _ => .array (.object "TutorLines$Side")
abbrev wsX40 : List Cond := u_ws RX4 TX4 8
theorem nmX4 : ∀ a, a < 8 → ∀ b, b < 8 → a ≠ b → (TX4 a).2.1 ≠ (TX4 b).2.1 := by decide +kernel
theorem tyX4_ok : ∀ k, k < 8 → parseFieldDescriptor (TX4 k).2.2.1 = some (tyX4 k) := by decide +kernel
abbrev cX4_init : ByteArray := prog_6_method_1_code
def yX4_init : MethodName := ⟨RX4, "<init>", "()V"⟩
abbrev cX4_read : ByteArray := prog_6_method_2_code
def yX4_read : MethodName := ⟨RX4, "read", "([BILTutorLines$Line;)I"⟩
abbrev cX4_readRelation : ByteArray := prog_6_method_3_code
def yX4_readRelation : MethodName := ⟨RX4, "readRelation", "(LTutorLines$Line;)Z"⟩
abbrev cX4_readSide : ByteArray := prog_6_method_4_code
def yX4_readSide : MethodName := ⟨RX4, "readSide", "(I)Z"⟩
abbrev cX4_readTerm : ByteArray := prog_6_method_5_code
def yX4_readTerm : MethodName := ⟨RX4, "readTerm", "(I)Z"⟩
abbrev cX4_multiply : ByteArray := prog_6_method_6_code
def yX4_multiply : MethodName := ⟨RX4, "multiply", "(II)Z"⟩
abbrev cX4_divide : ByteArray := prog_6_method_7_code
def yX4_divide : MethodName := ⟨RX4, "divide", "(I)Z"⟩
abbrev cX4_readFactor : ByteArray := prog_6_method_8_code
def yX4_readFactor : MethodName := ⟨RX4, "readFactor", "(I)Z"⟩
abbrev cX4_readParentheses : ByteArray := prog_6_method_9_code
def yX4_readParentheses : MethodName := ⟨RX4, "readParentheses", "(I)Z"⟩
abbrev cX4_readNumber : ByteArray := prog_6_method_10_code
def yX4_readNumber : MethodName := ⟨RX4, "readNumber", "(LTutorLines$Side;)Z"⟩
abbrev cX4_isDigit : ByteArray := prog_6_method_11_code
def yX4_isDigit : MethodName := ⟨RX4, "isDigit", "(I)Z"⟩
abbrev cX4_next : ByteArray := prog_6_method_12_code
def yX4_next : MethodName := ⟨RX4, "next", "()I"⟩
abbrev cX4_failAt : ByteArray := prog_6_method_13_code
def yX4_failAt : MethodName := ⟨RX4, "failAt", "(I)Z"⟩
def RX5 : String := "TutorLines$Side"
def TX5 : u_T := fun k => match k with
  | 0 => ("TutorLines$Side", "a", "LTutorLines$Fraction;", true)
  | _ => ("TutorLines$Side", "b", "LTutorLines$Fraction;", true)
def tyX5 : Nat → FieldType := fun k => match k with
  | 0 => .object "TutorLines$Fraction"
  | _ => .object "TutorLines$Fraction"
abbrev wsX50 : List Cond := u_ws RX5 TX5 2
theorem nmX5 : ∀ a, a < 2 → ∀ b, b < 2 → a ≠ b → (TX5 a).2.1 ≠ (TX5 b).2.1 := by decide +kernel
theorem tyX5_ok : ∀ k, k < 2 → parseFieldDescriptor (TX5 k).2.2.1 = some (tyX5 k) := by decide +kernel
abbrev cX5_init : ByteArray := prog_7_method_1_code
def yX5_init : MethodName := ⟨RX5, "<init>", "()V"⟩
abbrev cX5_setWhole : ByteArray := prog_7_method_2_code
def yX5_setWhole : MethodName := ⟨RX5, "setWhole", "(II)V"⟩
abbrev cX5_copy : ByteArray := prog_7_method_3_code
def yX5_copy : MethodName := ⟨RX5, "copy", "(LTutorLines$Side;)V"⟩
abbrev cX5_turnToOpposite : ByteArray := prog_7_method_4_code
def yX5_turnToOpposite : MethodName := ⟨RX5, "turnToOpposite", "()V"⟩
abbrev cX5_add : ByteArray := prog_7_method_5_code
def yX5_add : MethodName := ⟨RX5, "add", "(LTutorLines$Side;)V"⟩
abbrev cX5_subtract : ByteArray := prog_7_method_6_code
def yX5_subtract : MethodName := ⟨RX5, "subtract", "(LTutorLines$Side;)V"⟩
abbrev cX5_multiply : ByteArray := prog_7_method_7_code
def yX5_multiply : MethodName := ⟨RX5, "multiply", "(LTutorLines$Side;)V"⟩
abbrev cX5_divide : ByteArray := prog_7_method_8_code
def yX5_divide : MethodName := ⟨RX5, "divide", "(LTutorLines$Fraction;)V"⟩
abbrev cX5_sameAs : ByteArray := prog_7_method_9_code
def yX5_sameAs : MethodName := ⟨RX5, "sameAs", "(LTutorLines$Side;)Z"⟩
abbrev cX5_fits : ByteArray := prog_7_method_10_code
def yX5_fits : MethodName := ⟨RX5, "fits", "()Z"⟩
def RX6 : String := "TutorLines$Slips"
def TX6 : u_T := fun k => match k with
  | _ => ("", "", "", false)
def tyX6 : Nat → FieldType := fun k => match k with
  | _ => .int
abbrev wsX60 : List Cond := u_ws RX6 TX6 0
theorem nmX6 : ∀ a, a < 0 → ∀ b, b < 0 → a ≠ b → (TX6 a).2.1 ≠ (TX6 b).2.1 := by decide +kernel
theorem tyX6_ok : ∀ k, k < 0 → parseFieldDescriptor (TX6 k).2.2.1 = some (tyX6 k) := by decide +kernel
abbrev cX6_explain : ByteArray := prog_8_method_2_code
def yX6_explain : MethodName := ⟨RX6, "explain", "(LTutorLines$Line;LTutorLines$Line;LTutorLines$Line;)I"⟩
abbrev cX6_isPossible : ByteArray := prog_8_method_3_code
def yX6_isPossible : MethodName := ⟨RX6, "isPossible", "(ILTutorLines$Line;)Z"⟩
abbrev cX6_write : ByteArray := prog_8_method_4_code
def yX6_write : MethodName := ⟨RX6, "write", "(ILTutorLines$Line;LTutorLines$Line;)V"⟩
def RX7 : String := "TutorLines$SolutionSet"
def TX7 : u_T := fun k => match k with
  | 0 => ("TutorLines$SolutionSet", "kind", "I", false)
  | 1 => ("TutorLines$SolutionSet", "place", "LTutorLines$Fraction;", true)
  | _ => ("TutorLines$SolutionSet", "slope", "LTutorLines$Fraction;", true)
def tyX7 : Nat → FieldType := fun k => match k with
  | 0 => .int
  | 1 => .object "TutorLines$Fraction"
  | _ => .object "TutorLines$Fraction"
abbrev wsX70 : List Cond := u_ws RX7 TX7 3
theorem nmX7 : ∀ a, a < 3 → ∀ b, b < 3 → a ≠ b → (TX7 a).2.1 ≠ (TX7 b).2.1 := by decide +kernel
theorem tyX7_ok : ∀ k, k < 3 → parseFieldDescriptor (TX7 k).2.2.1 = some (tyX7 k) := by decide +kernel
abbrev cX7_init : ByteArray := prog_9_method_1_code
def yX7_init : MethodName := ⟨RX7, "<init>", "()V"⟩
abbrev cX7_find : ByteArray := prog_9_method_2_code
def yX7_find : MethodName := ⟨RX7, "find", "(LTutorLines$Line;)V"⟩
abbrev cX7_isTrueOfZero : ByteArray := prog_9_method_3_code
def yX7_isTrueOfZero : MethodName := ⟨RX7, "isTrueOfZero", "(ILTutorLines$Fraction;)Z"⟩
abbrev cX7_hasPlace : ByteArray := prog_9_method_4_code
def yX7_hasPlace : MethodName := ⟨RX7, "hasPlace", "()Z"⟩
abbrev cX7_holds : ByteArray := prog_9_method_5_code
def yX7_holds : MethodName := ⟨RX7, "holds", "(LTutorLines$Fraction;)Z"⟩
abbrev cX7_judge : ByteArray := prog_9_method_6_code
def yX7_judge : MethodName := ⟨RX7, "judge", "(LTutorLines$SolutionSet;)I"⟩
abbrev cX7_isPartOf : ByteArray := prog_9_method_7_code
def yX7_isPartOf : MethodName := ⟨RX7, "isPartOf", "(LTutorLines$SolutionSet;)Z"⟩
def RX8 : String := "TutorLines"
def TX8 : u_T := fun k => match k with
  | 0 => ("TutorLines", "text", "[B", true)
  | 1 => ("TutorLines", "reader", "LTutorLines$Reader;", true)
  | 2 => ("TutorLines", "lines", "[LTutorLines$Line;", true)
  | 3 => ("TutorLines", "lineCount", "I", false)
  | 4 => ("TutorLines", "written", "LTutorLines$Line;", true)
  | 5 => ("TutorLines", "scratch", "LTutorLines$Line;", true)
  | 6 => ("TutorLines", "presentSet", "LTutorLines$SolutionSet;", true)
  | 7 => ("TutorLines", "writtenSet", "LTutorLines$SolutionSet;", true)
  | 8 => ("TutorLines", "refused", "Z", false)
  | 9 => ("TutorLines", "slipFound", "I", false)
  | 10 => ("TutorLines", "candidate", "LTutorLines$Fraction;", true)
  | 11 => ("TutorLines", "paper", "LTutorLines$Paper;", true)
  | 12 => ("TutorLines", "skillPoints", "[I", true)
  | _ => ("TutorLines", "answers", "[I", true)
def tyX8 : Nat → FieldType := fun k => match k with
  | 0 => .array .byte
  | 1 => .object "TutorLines$Reader"
  | 2 => .array (.object "TutorLines$Line")
  | 3 => .int
  | 4 => .object "TutorLines$Line"
  | 5 => .object "TutorLines$Line"
  | 6 => .object "TutorLines$SolutionSet"
  | 7 => .object "TutorLines$SolutionSet"
  | 8 => .boolean
  | 9 => .int
  | 10 => .object "TutorLines$Fraction"
  | 11 => .object "TutorLines$Paper"
  | 12 => .array .int
  | _ => .array .int
abbrev wsX80 : List Cond := u_ws RX8 TX8 14
theorem nmX8 : ∀ a, a < 14 → ∀ b, b < 14 → a ≠ b → (TX8 a).2.1 ≠ (TX8 b).2.1 := by decide +kernel
theorem tyX8_ok : ∀ k, k < 14 → parseFieldDescriptor (TX8 k).2.2.1 = some (tyX8 k) := by decide +kernel
abbrev cX8_init : ByteArray := prog_1_method_1_code
def yX8_init : MethodName := ⟨RX8, "<init>", "()V"⟩
abbrev cX8_put : ByteArray := prog_1_method_2_code
def yX8_put : MethodName := ⟨RX8, "put", "(II)V"⟩
abbrev cX8_begin : ByteArray := prog_1_method_3_code
def yX8_begin : MethodName := ⟨RX8, "begin", "(I)I"⟩
abbrev cX8_step : ByteArray := prog_1_method_4_code
def yX8_step : MethodName := ⟨RX8, "step", "(I)I"⟩
abbrev cX8_slip : ByteArray := prog_1_method_5_code
def yX8_slip : MethodName := ⟨RX8, "slip", "()I"⟩
abbrev cX8_witness : ByteArray := prog_1_method_6_code
def yX8_witness : MethodName := ⟨RX8, "witness", "(I)J"⟩
abbrev cX8_hint : ByteArray := prog_1_method_7_code
def yX8_hint : MethodName := ⟨RX8, "hint", "()I"⟩
abbrev cX8_take : ByteArray := prog_1_method_8_code
def yX8_take : MethodName := ⟨RX8, "take", "()Z"⟩
abbrev cX8_undo : ByteArray := prog_1_method_9_code
def yX8_undo : MethodName := ⟨RX8, "undo", "()Z"⟩
abbrev cX8_line : ByteArray := prog_1_method_10_code
def yX8_line : MethodName := ⟨RX8, "line", "(I)I"⟩
abbrev cX8_solutions : ByteArray := prog_1_method_11_code
def yX8_solutions : MethodName := ⟨RX8, "solutions", "(I)J"⟩
abbrev cX8_print : ByteArray := prog_1_method_12_code
def yX8_print : MethodName := ⟨RX8, "print", "()I"⟩
abbrev cX8_printed : ByteArray := prog_1_method_13_code
def yX8_printed : MethodName := ⟨RX8, "printed", "(I)I"⟩
abbrev cX8_points : ByteArray := prog_1_method_14_code
def yX8_points : MethodName := ⟨RX8, "points", "(I)I"⟩
abbrev cX8_count : ByteArray := prog_1_method_15_code
def yX8_count : MethodName := ⟨RX8, "count", "(I)I"⟩
abbrev cX8_requireNumber : ByteArray := prog_1_method_16_code
def yX8_requireNumber : MethodName := ⟨RX8, "requireNumber", "(III)V"⟩
abbrev cX8_requireTask : ByteArray := prog_1_method_17_code
def yX8_requireTask : MethodName := ⟨RX8, "requireTask", "()V"⟩
abbrev cX8_requireRoom : ByteArray := prog_1_method_18_code
def yX8_requireRoom : MethodName := ⟨RX8, "requireRoom", "()V"⟩
abbrev cX8_present : ByteArray := prog_1_method_19_code
def yX8_present : MethodName := ⟨RX8, "present", "()LTutorLines$Line;"⟩
abbrev cX8_append : ByteArray := prog_1_method_20_code
def yX8_append : MethodName := ⟨RX8, "append", "(LTutorLines$Line;)V"⟩
abbrev cX8_accept : ByteArray := prog_1_method_21_code
def yX8_accept : MethodName := ⟨RX8, "accept", "()V"⟩
abbrev cX8_refuse : ByteArray := prog_1_method_22_code
def yX8_refuse : MethodName := ⟨RX8, "refuse", "()V"⟩
abbrev cX8_findWitness : ByteArray := prog_1_method_23_code
def yX8_findWitness : MethodName := ⟨RX8, "findWitness", "()V"⟩
abbrev cX8_tellsApart : ByteArray := prog_1_method_24_code
def yX8_tellsApart : MethodName := ⟨RX8, "tellsApart", "(LTutorLines$SolutionSet;I)Z"⟩
def RX9 : String := "TutorLinesModel"
def TX9 : u_T := fun k => match k with
  | 0 => ("TutorLinesModel", "code", "I", false)
  | 1 => ("TutorLinesModel", "text", "[I", true)
  | 2 => ("TutorLinesModel", "row", "[J", true)
  | 3 => ("TutorLinesModel", "lines", "I", false)
  | 4 => ("TutorLinesModel", "refused", "Z", false)
  | 5 => ("TutorLinesModel", "its", "I", false)
  | 6 => ("TutorLinesModel", "counts", "[I", true)
  | 7 => ("TutorLinesModel", "points", "[I", true)
  | 8 => ("TutorLinesModel", "many", "I", false)
  | 9 => ("TutorLinesModel", "output", "[I", true)
  | 10 => ("TutorLinesModel", "up", "J", false)
  | 11 => ("TutorLinesModel", "low", "J", false)
  | 12 => ("TutorLinesModel", "sums", "[J", true)
  | 13 => ("TutorLinesModel", "terms", "[J", true)
  | 14 => ("TutorLinesModel", "has", "[Z", true)
  | 15 => ("TutorLinesModel", "sign", "[I", true)
  | 16 => ("TutorLinesModel", "signAt", "[I", true)
  | 17 => ("TutorLinesModel", "starAt", "[I", true)
  | 18 => ("TutorLinesModel", "level", "I", false)
  | 19 => ("TutorLinesModel", "at", "I", false)
  | 20 => ("TutorLinesModel", "end", "I", false)
  | 21 => ("TutorLinesModel", "fault", "I", false)
  | 22 => ("TutorLinesModel", "number", "I", false)
  | 23 => ("TutorLinesModel", "lastDigit", "I", false)
  | 24 => ("TutorLinesModel", "one", "[J", true)
  | 25 => ("TutorLinesModel", "kind", "I", false)
  | 26 => ("TutorLinesModel", "boundUp", "J", false)
  | 27 => ("TutorLinesModel", "boundLow", "J", false)
  | _ => ("TutorLinesModel", "fits", "Z", false)
def tyX9 : Nat → FieldType := fun k => match k with
  | 0 => .int
  | 1 => .array .int
  | 2 => .array .long
  | 3 => .int
  | 4 => .boolean
  | 5 => .int
  | 6 => .array .int
  | 7 => .array .int
  | 8 => .int
  | 9 => .array .int
  | 10 => .long
  | 11 => .long
  | 12 => .array .long
  | 13 => .array .long
  | 14 => .array .boolean
  | 15 => .array .int
  | 16 => .array .int
  | 17 => .array .int
  | 18 => .int
  | 19 => .int
  | 20 => .int
  | 21 => .int
  | 22 => .int
  | 23 => .int
  | 24 => .array .long
  | 25 => .int
  | 26 => .long
  | 27 => .long
  | _ => .boolean
abbrev wsX90 : List Cond := u_ws RX9 TX9 29
theorem nmX9 : ∀ a, a < 29 → ∀ b, b < 29 → a ≠ b → (TX9 a).2.1 ≠ (TX9 b).2.1 := by decide +kernel
theorem tyX9_ok : ∀ k, k < 29 → parseFieldDescriptor (TX9 k).2.2.1 = some (tyX9 k) := by decide +kernel
abbrev cX9_init : ByteArray := prog_11_method_1_code
def yX9_init : MethodName := ⟨RX9, "<init>", "()V"⟩
abbrev cX9_thrown : ByteArray := prog_11_method_2_code
def yX9_thrown : MethodName := ⟨RX9, "thrown", "()I"⟩
abbrev cX9_in : ByteArray := prog_11_method_3_code
def yX9_in : MethodName := ⟨RX9, "in", "(JJJ)Z"⟩
abbrev cX9_gcd : ByteArray := prog_11_method_4_code
def yX9_gcd : MethodName := ⟨RX9, "gcd", "(JJ)J"⟩
abbrev cX9_make : ByteArray := prog_11_method_5_code
def yX9_make : MethodName := ⟨RX9, "make", "(JJ)V"⟩
abbrev cX9_isGreat : ByteArray := prog_11_method_6_code
def yX9_isGreat : MethodName := ⟨RX9, "isGreat", "()Z"⟩
abbrev cX9_put : ByteArray := prog_11_method_7_code
def yX9_put : MethodName := ⟨RX9, "put", "(II)V"⟩
abbrev cX9_fails : ByteArray := prog_11_method_8_code
def yX9_fails : MethodName := ⟨RX9, "fails", "(I)Z"⟩
abbrev cX9_here : ByteArray := prog_11_method_9_code
def yX9_here : MethodName := ⟨RX9, "here", "()I"⟩
abbrev cX9_isDigit : ByteArray := prog_11_method_10_code
def yX9_isDigit : MethodName := ⟨RX9, "isDigit", "(I)Z"⟩
abbrev cX9_digits : ByteArray := prog_11_method_11_code
def yX9_digits : MethodName := ⟨RX9, "digits", "()V"⟩
abbrev cX9_open : ByteArray := prog_11_method_12_code
def yX9_open : MethodName := ⟨RX9, "open", "(I)V"⟩
abbrev cX9_factor : ByteArray := prog_11_method_13_code
def yX9_factor : MethodName := ⟨RX9, "factor", "([JI)Z"⟩
abbrev cX9_simple : ByteArray := prog_11_method_14_code
def yX9_simple : MethodName := ⟨RX9, "simple", "(JJ)Z"⟩
abbrev cX9_term : ByteArray := prog_11_method_15_code
def yX9_term : MethodName := ⟨RX9, "term", "()Z"⟩
abbrev cX9_divide : ByteArray := prog_11_method_16_code
def yX9_divide : MethodName := ⟨RX9, "divide", "(I)Z"⟩
abbrev cX9_read : ByteArray := prog_11_method_17_code
def yX9_read : MethodName := ⟨RX9, "read", "(I)Z"⟩
abbrev cX9_solve : ByteArray := prog_11_method_18_code
def yX9_solve : MethodName := ⟨RX9, "solve", "(I)V"⟩
abbrev cX9_down : ByteArray := prog_11_method_19_code
def yX9_down : MethodName := ⟨RX9, "down", "(JJ)J"⟩
abbrev cX9_order : ByteArray := prog_11_method_20_code
def yX9_order : MethodName := ⟨RX9, "order", "(JJ)I"⟩
abbrev cX9_solves : ByteArray := prog_11_method_21_code
def yX9_solves : MethodName := ⟨RX9, "solves", "(JJ)Z"⟩
abbrev cX9_isPart : ByteArray := prog_11_method_22_code
def yX9_isPart : MethodName := ⟨RX9, "isPart", "(II)Z"⟩
abbrev cX9_last : ByteArray := prog_11_method_23_code
def yX9_last : MethodName := ⟨RX9, "last", "()I"⟩
abbrev cX9_copyLine : ByteArray := prog_11_method_24_code
def yX9_copyLine : MethodName := ⟨RX9, "copyLine", "(II)V"⟩
abbrev cX9_isSame : ByteArray := prog_11_method_25_code
def yX9_isSame : MethodName := ⟨RX9, "isSame", "(II)Z"⟩
abbrev cX9_write : ByteArray := prog_11_method_26_code
def yX9_write : MethodName := ⟨RX9, "write", "(IIJJ)V"⟩
abbrev cX9_above : ByteArray := prog_11_method_27_code
def yX9_above : MethodName := ⟨RX9, "above", "(I)J"⟩
abbrev cX9_below : ByteArray := prog_11_method_28_code
def yX9_below : MethodName := ⟨RX9, "below", "(I)J"⟩
abbrev cX9_isOne : ByteArray := prog_11_method_29_code
def yX9_isOne : MethodName := ⟨RX9, "isOne", "(I)Z"⟩
abbrev cX9_join : ByteArray := prog_11_method_30_code
def yX9_join : MethodName := ⟨RX9, "join", "(IIIIZ)V"⟩
abbrev cX9_plan : ByteArray := prog_11_method_31_code
def yX9_plan : MethodName := ⟨RX9, "plan", "()I"⟩
abbrev cX9_slips : ByteArray := prog_11_method_32_code
def yX9_slips : MethodName := ⟨RX9, "slips", "(I)Z"⟩
abbrev cX9_scaled : ByteArray := prog_11_method_33_code
def yX9_scaled : MethodName := ⟨RX9, "scaled", "(I)V"⟩
abbrev cX9_explained : ByteArray := prog_11_method_34_code
def yX9_explained : MethodName := ⟨RX9, "explained", "()I"⟩
abbrev cX9_isLength : ByteArray := prog_11_method_35_code
def yX9_isLength : MethodName := ⟨RX9, "isLength", "(I)Z"⟩
abbrev cX9_begin : ByteArray := prog_11_method_36_code
def yX9_begin : MethodName := ⟨RX9, "begin", "(I)I"⟩
abbrev cX9_step : ByteArray := prog_11_method_37_code
def yX9_step : MethodName := ⟨RX9, "step", "(I)I"⟩
abbrev cX9_slip : ByteArray := prog_11_method_38_code
def yX9_slip : MethodName := ⟨RX9, "slip", "()I"⟩
abbrev cX9_parts : ByteArray := prog_11_method_39_code
def yX9_parts : MethodName := ⟨RX9, "parts", "(JJ)Z"⟩
abbrev cX9_witness : ByteArray := prog_11_method_40_code
def yX9_witness : MethodName := ⟨RX9, "witness", "(I)J"⟩
abbrev cX9_isTask : ByteArray := prog_11_method_41_code
def yX9_isTask : MethodName := ⟨RX9, "isTask", "()Z"⟩
abbrev cX9_hint : ByteArray := prog_11_method_42_code
def yX9_hint : MethodName := ⟨RX9, "hint", "()I"⟩
abbrev cX9_take : ByteArray := prog_11_method_43_code
def yX9_take : MethodName := ⟨RX9, "take", "()Z"⟩
abbrev cX9_undo : ByteArray := prog_11_method_44_code
def yX9_undo : MethodName := ⟨RX9, "undo", "()Z"⟩
abbrev cX9_line : ByteArray := prog_11_method_45_code
def yX9_line : MethodName := ⟨RX9, "line", "(I)I"⟩
abbrev cX9_solutions : ByteArray := prog_11_method_46_code
def yX9_solutions : MethodName := ⟨RX9, "solutions", "(I)J"⟩
abbrev cX9_give : ByteArray := prog_11_method_47_code
def yX9_give : MethodName := ⟨RX9, "give", "(I)V"⟩
abbrev cX9_decimal : ByteArray := prog_11_method_48_code
def yX9_decimal : MethodName := ⟨RX9, "decimal", "(J)V"⟩
abbrev cX9_size : ByteArray := prog_11_method_49_code
def yX9_size : MethodName := ⟨RX9, "size", "(JJ)V"⟩
abbrev cX9_side : ByteArray := prog_11_method_50_code
def yX9_side : MethodName := ⟨RX9, "side", "(I)V"⟩
abbrev cX9_print : ByteArray := prog_11_method_51_code
def yX9_print : MethodName := ⟨RX9, "print", "()I"⟩
abbrev cX9_printed : ByteArray := prog_11_method_52_code
def yX9_printed : MethodName := ⟨RX9, "printed", "(I)I"⟩
abbrev cX9_points : ByteArray := prog_11_method_53_code
def yX9_points : MethodName := ⟨RX9, "points", "(I)I"⟩
abbrev cX9_count : ByteArray := prog_11_method_54_code
def yX9_count : MethodName := ⟨RX9, "count", "(I)I"⟩
def RJ5 : String := "java/lang/AbstractStringBuilder"
def TJ5 : u_T := fun k => match k with
  | _ => ("", "", "", false)
def tyJ5 : Nat → FieldType := fun k => match k with
  | _ => .int
abbrev wsJ50 : List Cond := u_ws RJ5 TJ5 0
theorem nmJ5 : ∀ a, a < 0 → ∀ b, b < 0 → a ≠ b → (TJ5 a).2.1 ≠ (TJ5 b).2.1 := by decide +kernel
theorem tyJ5_ok : ∀ k, k < 0 → parseFieldDescriptor (TJ5 k).2.2.1 = some (tyJ5 k) := by decide +kernel
abbrev cJ5_init_d00df : ByteArray := prog_12_method_2_code
def yJ5_init_d00df : MethodName := ⟨RJ5, "<init>", "(I)V"⟩
abbrev cJ5_length_8abf5 : ByteArray := prog_12_method_6_code
def yJ5_length_8abf5 : MethodName := ⟨RJ5, "length", "()I"⟩
abbrev cJ5_ensureCapacityInternal_d00df : ByteArray := prog_12_method_9_code
def yJ5_ensureCapacityInternal_d00df : MethodName := ⟨RJ5, "ensureCapacityInternal", "(I)V"⟩
abbrev cJ5_newCapacity_0f7a4 : ByteArray := prog_12_method_10_code
def yJ5_newCapacity_0f7a4 : MethodName := ⟨RJ5, "newCapacity", "(I)I"⟩
abbrev cJ5_inflate_da8c8 : ByteArray := prog_12_method_11_code
def yJ5_inflate_da8c8 : MethodName := ⟨RJ5, "inflate", "()V"⟩
abbrev cJ5_setLength_d00df : ByteArray := prog_12_method_13_code
def yJ5_setLength_d00df : MethodName := ⟨RJ5, "setLength", "(I)V"⟩
abbrev cJ5_charAt_5068e : ByteArray := prog_12_method_14_code
def yJ5_charAt_5068e : MethodName := ⟨RJ5, "charAt", "(I)C"⟩
abbrev cJ5_append_cf1ce : ByteArray := prog_12_method_22_code
def yJ5_append_cf1ce : MethodName := ⟨RJ5, "append", "(Ljava/lang/String;)Ljava/lang/AbstractStringBuilder;"⟩
abbrev cJ5_appendNull_278bc : ByteArray := prog_12_method_26_code
def yJ5_appendNull_278bc : MethodName := ⟨RJ5, "appendNull", "()Ljava/lang/AbstractStringBuilder;"⟩
abbrev cJ5_append_3fe6f : ByteArray := prog_12_method_31_code
def yJ5_append_3fe6f : MethodName := ⟨RJ5, "append", "(C)Ljava/lang/AbstractStringBuilder;"⟩
abbrev cJ5_append_c97b9 : ByteArray := prog_12_method_32_code
def yJ5_append_c97b9 : MethodName := ⟨RJ5, "append", "(I)Ljava/lang/AbstractStringBuilder;"⟩
abbrev cJ5_getValue_6d5f1 : ByteArray := prog_12_method_64_code
def yJ5_getValue_6d5f1 : MethodName := ⟨RJ5, "getValue", "()[B"⟩
abbrev cJ5_isLatin1_aae02 : ByteArray := prog_12_method_68_code
def yJ5_isLatin1_aae02 : MethodName := ⟨RJ5, "isLatin1", "()Z"⟩
abbrev cJ5_inflateIfNeededFor_a7421 : ByteArray := prog_12_method_71_code
def yJ5_inflateIfNeededFor_a7421 : MethodName := ⟨RJ5, "inflateIfNeededFor", "(Ljava/lang/String;)V"⟩
abbrev cJ5_putStringAt_47b60 : ByteArray := prog_12_method_73_code
def yJ5_putStringAt_47b60 : MethodName := ⟨RJ5, "putStringAt", "(ILjava/lang/String;)V"⟩
def RJx8e188 : String := "java/lang/Cloneable"
def TJx8e188 : u_T := fun k => match k with
  | _ => ("", "", "", false)
def tyJx8e188 : Nat → FieldType := fun k => match k with
  | _ => .int
abbrev wsJx8e1880 : List Cond := u_ws RJx8e188 TJx8e188 0
theorem nmJx8e188 : ∀ a, a < 0 → ∀ b, b < 0 → a ≠ b → (TJx8e188 a).2.1 ≠ (TJx8e188 b).2.1 := by decide +kernel
theorem tyJx8e188_ok : ∀ k, k < 0 → parseFieldDescriptor (TJx8e188 k).2.2.1 = some (tyJx8e188 k) := by decide +kernel
def RJ6 : String := "java/lang/Integer"
def TJ6 : u_T := fun k => match k with
  | _ => ("", "", "", false)
def tyJ6 : Nat → FieldType := fun k => match k with
  | _ => .int
abbrev wsJ60 : List Cond := u_ws RJ6 TJ6 0
theorem nmJ6 : ∀ a, a < 0 → ∀ b, b < 0 → a ≠ b → (TJ6 a).2.1 ≠ (TJ6 b).2.1 := by decide +kernel
theorem tyJ6_ok : ∀ k, k < 0 → parseFieldDescriptor (TJ6 k).2.2.1 = some (tyJ6 k) := by decide +kernel
abbrev cJ6_getChars_ba4f3 : ByteArray := prog_17_method_12_code
def yJ6_getChars_ba4f3 : MethodName := ⟨RJ6, "getChars", "(II[B)I"⟩
abbrev cJ6_stringSize_0f7a4 : ByteArray := prog_17_method_13_code
def yJ6_stringSize_0f7a4 : MethodName := ⟨RJ6, "stringSize", "(I)I"⟩
def RJ13 : String := "java/lang/Long"
def TJ13 : u_T := fun k => match k with
  | _ => ("", "", "", false)
def tyJ13 : Nat → FieldType := fun k => match k with
  | _ => .int
abbrev wsJ130 : List Cond := u_ws RJ13 TJ13 0
theorem nmJ13 : ∀ a, a < 0 → ∀ b, b < 0 → a ≠ b → (TJ13 a).2.1 ≠ (TJ13 b).2.1 := by decide +kernel
theorem tyJ13_ok : ∀ k, k < 0 → parseFieldDescriptor (TJ13 k).2.2.1 = some (tyJ13 k) := by decide +kernel
abbrev cJ13_compare_74951 : ByteArray := prog_18_method_42_code
def yJ13_compare_74951 : MethodName := ⟨RJ13, "compare", "(JJ)I"⟩
def RJ9 : String := "java/lang/Math"
def TJ9 : u_T := fun k => match k with
  | _ => ("", "", "", false)
def tyJ9 : Nat → FieldType := fun k => match k with
  | _ => .int
abbrev wsJ90 : List Cond := u_ws RJ9 TJ9 0
theorem nmJ9 : ∀ a, a < 0 → ∀ b, b < 0 → a ≠ b → (TJ9 a).2.1 ≠ (TJ9 b).2.1 := by decide +kernel
theorem tyJ9_ok : ∀ k, k < 0 → parseFieldDescriptor (TJ9 k).2.2.1 = some (tyJ9 k) := by decide +kernel
abbrev cJ9_floorDiv_f86c9 : ByteArray := prog_19_method_49_code
def yJ9_floorDiv_f86c9 : MethodName := ⟨RJ9, "floorDiv", "(JJ)J"⟩
abbrev cJ9_max_7cf53 : ByteArray := prog_19_method_65_code
def yJ9_max_7cf53 : MethodName := ⟨RJ9, "max", "(II)I"⟩
abbrev cJ9_min_7cf53 : ByteArray := prog_19_method_69_code
def yJ9_min_7cf53 : MethodName := ⟨RJ9, "min", "(II)I"⟩
def RJ0 : String := "java/lang/String"
def TJ0 : u_T := fun k => match k with
  | 0 => ("java/lang/String", "value", "[B", true)
  | 1 => ("java/lang/String", "coder", "B", true)
  | 2 => ("java/lang/String", "hash", "I", false)
  | _ => ("java/lang/String", "hashIsZero", "Z", false)
def tyJ0 : Nat → FieldType := fun k => match k with
  | 0 => .array .byte
  | 1 => .byte
  | 2 => .int
  | _ => .boolean
abbrev wsJ00 : List Cond := u_ws RJ0 TJ0 4
theorem nmJ0 : ∀ a, a < 4 → ∀ b, b < 4 → a ≠ b → (TJ0 a).2.1 ≠ (TJ0 b).2.1 := by decide +kernel
theorem tyJ0_ok : ∀ k, k < 4 → parseFieldDescriptor (TJ0 k).2.2.1 = some (tyJ0 k) := by decide +kernel
abbrev cJ0_init_81219 : ByteArray := prog_21_method_53_code
def yJ0_init_81219 : MethodName := ⟨RJ0, "<init>", "(Ljava/lang/StringBuilder;)V"⟩
abbrev cJ0_length_8abf5 : ByteArray := prog_21_method_54_code
def yJ0_length_8abf5 : MethodName := ⟨RJ0, "length", "()I"⟩
abbrev cJ0_getBytes_840e7 : ByteArray := prog_21_method_147_code
def yJ0_getBytes_840e7 : MethodName := ⟨RJ0, "getBytes", "([BIB)V"⟩
abbrev cJ0_init_db425 : ByteArray := prog_21_method_150_code
def yJ0_init_db425 : MethodName := ⟨RJ0, "<init>", "(Ljava/lang/AbstractStringBuilder;Ljava/lang/Void;)V"⟩
abbrev cJ0_coder_7d493 : ByteArray := prog_21_method_152_code
def yJ0_coder_7d493 : MethodName := ⟨RJ0, "coder", "()B"⟩
abbrev cJ0_checkIndex_df160 : ByteArray := prog_21_method_155_code
def yJ0_checkIndex_df160 : MethodName := ⟨RJ0, "checkIndex", "(II)V"⟩
abbrev cJ0_checkBoundsOffCount_cabcc : ByteArray := prog_21_method_157_code
def yJ0_checkBoundsOffCount_cabcc : MethodName := ⟨RJ0, "checkBoundsOffCount", "(III)I"⟩
abbrev cJ0_checkBoundsBeginEnd_23922 : ByteArray := prog_21_method_158_code
def yJ0_checkBoundsBeginEnd_23922 : MethodName := ⟨RJ0, "checkBoundsBeginEnd", "(III)V"⟩
def RJ4 : String := "java/lang/StringBuilder"
def TJ4 : u_T := fun k => match k with
  | 0 => ("java/lang/AbstractStringBuilder", "value", "[B", false)
  | 1 => ("java/lang/AbstractStringBuilder", "coder", "B", false)
  | 2 => ("java/lang/AbstractStringBuilder", "maybeLatin1", "Z", false)
  | _ => ("java/lang/AbstractStringBuilder", "count", "I", false)
def tyJ4 : Nat → FieldType := fun k => match k with
  | 0 => .array .byte
  | 1 => .byte
  | 2 => .boolean
  | _ => .int
abbrev wsJ40 : List Cond := u_ws RJ4 TJ4 4
theorem nmJ4 : ∀ a, a < 4 → ∀ b, b < 4 → a ≠ b → (TJ4 a).2.1 ≠ (TJ4 b).2.1 := by decide +kernel
theorem tyJ4_ok : ∀ k, k < 4 → parseFieldDescriptor (TJ4 k).2.2.1 = some (tyJ4 k) := by decide +kernel
abbrev cJ4_init_da8c8 : ByteArray := prog_22_method_1_code
def yJ4_init_da8c8 : MethodName := ⟨RJ4, "<init>", "()V"⟩
abbrev cJ4_append_15ec4 : ByteArray := prog_22_method_7_code
def yJ4_append_15ec4 : MethodName := ⟨RJ4, "append", "(Ljava/lang/String;)Ljava/lang/StringBuilder;"⟩
abbrev cJ4_append_cf468 : ByteArray := prog_22_method_14_code
def yJ4_append_cf468 : MethodName := ⟨RJ4, "append", "(C)Ljava/lang/StringBuilder;"⟩
abbrev cJ4_append_bf812 : ByteArray := prog_22_method_15_code
def yJ4_append_bf812 : MethodName := ⟨RJ4, "append", "(I)Ljava/lang/StringBuilder;"⟩
abbrev cJ4_toString_0e30d : ByteArray := prog_22_method_42_code
def yJ4_toString_0e30d : MethodName := ⟨RJ4, "toString", "()Ljava/lang/String;"⟩
abbrev cJ4_charAt_5068e : ByteArray := prog_22_method_88_code
def yJ4_charAt_5068e : MethodName := ⟨RJ4, "charAt", "(I)C"⟩
abbrev cJ4_setLength_d00df : ByteArray := prog_22_method_89_code
def yJ4_setLength_d00df : MethodName := ⟨RJ4, "setLength", "(I)V"⟩
abbrev cJ4_length_8abf5 : ByteArray := prog_22_method_93_code
def yJ4_length_8abf5 : MethodName := ⟨RJ4, "length", "()I"⟩
def RJ1 : String := "java/lang/StringLatin1"
def TJ1 : u_T := fun k => match k with
  | _ => ("", "", "", false)
def tyJ1 : Nat → FieldType := fun k => match k with
  | _ => .int
abbrev wsJ10 : List Cond := u_ws RJ1 TJ1 0
theorem nmJ1 : ∀ a, a < 0 → ∀ b, b < 0 → a ≠ b → (TJ1 a).2.1 ≠ (TJ1 b).2.1 := by decide +kernel
theorem tyJ1_ok : ∀ k, k < 0 → parseFieldDescriptor (TJ1 k).2.2.1 = some (tyJ1 k) := by decide +kernel
abbrev cJ1_canEncode_fc78d : ByteArray := prog_23_method_3_code
def yJ1_canEncode_fc78d : MethodName := ⟨RJ1, "canEncode", "(C)Z"⟩
abbrev cJ1_fillNull_b72d1 : ByteArray := prog_23_method_48_code
def yJ1_fillNull_b72d1 : MethodName := ⟨RJ1, "fillNull", "([BII)V"⟩
abbrev cJ1_inflate_0e8fd : ByteArray := prog_23_method_50_code
def yJ1_inflate_0e8fd : MethodName := ⟨RJ1, "inflate", "([BI[BII)V"⟩
def RJ2 : String := "java/lang/StringUTF16"
def TJ2 : u_T := fun k => match k with
  | _ => ("", "", "", false)
def tyJ2 : Nat → FieldType := fun k => match k with
  | _ => .int
abbrev wsJ20 : List Cond := u_ws RJ2 TJ2 0
theorem nmJ2 : ∀ a, a < 0 → ∀ b, b < 0 → a ≠ b → (TJ2 a).2.1 ≠ (TJ2 b).2.1 := by decide +kernel
theorem tyJ2_ok : ∀ k, k < 0 → parseFieldDescriptor (TJ2 k).2.2.1 = some (tyJ2 k) := by decide +kernel
abbrev cJ2_newBytesFor_77867 : ByteArray := prog_24_method_2_code
def yJ2_newBytesFor_77867 : MethodName := ⟨RJ2, "newBytesFor", "(I)[B"⟩
abbrev cJ2_newBytesLength_0f7a4 : ByteArray := prog_24_method_3_code
def yJ2_newBytesLength_0f7a4 : MethodName := ⟨RJ2, "newBytesLength", "(I)I"⟩
abbrev cJ2_putChar_b72d1 : ByteArray := prog_24_method_4_code
def yJ2_putChar_b72d1 : MethodName := ⟨RJ2, "putChar", "([BII)V"⟩
abbrev cJ2_getChar_3b067 : ByteArray := prog_24_method_5_code
def yJ2_getChar_3b067 : MethodName := ⟨RJ2, "getChar", "([BI)C"⟩
abbrev cJ2_length_9d52b : ByteArray := prog_24_method_6_code
def yJ2_length_9d52b : MethodName := ⟨RJ2, "length", "([B)I"⟩
abbrev cJ2_coderFromArrayLen_85cad : ByteArray := prog_24_method_15_code
def yJ2_coderFromArrayLen_85cad : MethodName := ⟨RJ2, "coderFromArrayLen", "([BI)B"⟩
abbrev cJ2_compress_39247 : ByteArray := prog_24_method_17_code
def yJ2_compress_39247 : MethodName := ⟨RJ2, "compress", "([BII)[B"⟩
abbrev cJ2_compress_5af95 : ByteArray := prog_24_method_22_code
def yJ2_compress_5af95 : MethodName := ⟨RJ2, "compress", "([BI[BII)I"⟩
abbrev cJ2_fillNull_b72d1 : ByteArray := prog_24_method_70_code
def yJ2_fillNull_b72d1 : MethodName := ⟨RJ2, "fillNull", "([BII)V"⟩
abbrev cJ2_putCharSB_b72d1 : ByteArray := prog_24_method_71_code
def yJ2_putCharSB_b72d1 : MethodName := ⟨RJ2, "putCharSB", "([BII)V"⟩
abbrev cJ2_getChars_46870 : ByteArray := prog_24_method_77_code
def yJ2_getChars_46870 : MethodName := ⟨RJ2, "getChars", "(III[B)I"⟩
abbrev cJ2_putCharsAt_cd4e5 : ByteArray := prog_24_method_81_code
def yJ2_putCharsAt_cd4e5 : MethodName := ⟨RJ2, "putCharsAt", "([BICCCC)I"⟩
abbrev cJ2_inflate_0e8fd : ByteArray := prog_24_method_86_code
def yJ2_inflate_0e8fd : MethodName := ⟨RJ2, "inflate", "([BI[BII)V"⟩
abbrev cJ2_getChars_ba4f3 : ByteArray := prog_24_method_89_code
def yJ2_getChars_ba4f3 : MethodName := ⟨RJ2, "getChars", "(II[B)I"⟩
abbrev cJ2_checkIndex_2214a : ByteArray := prog_24_method_91_code
def yJ2_checkIndex_2214a : MethodName := ⟨RJ2, "checkIndex", "(I[B)V"⟩
abbrev cJ2_checkBoundsBeginEnd_d044e : ByteArray := prog_24_method_93_code
def yJ2_checkBoundsBeginEnd_d044e : MethodName := ⟨RJ2, "checkBoundsBeginEnd", "(II[B)V"⟩
abbrev cJ2_checkBoundsOffCount_d044e : ByteArray := prog_24_method_94_code
def yJ2_checkBoundsOffCount_d044e : MethodName := ⟨RJ2, "checkBoundsOffCount", "(II[B)V"⟩
def RJ10 : String := "java/lang/System"
def TJ10 : u_T := fun k => match k with
  | _ => ("", "", "", false)
def tyJ10 : Nat → FieldType := fun k => match k with
  | _ => .int
abbrev wsJ100 : List Cond := u_ws RJ10 TJ10 0
theorem nmJ10 : ∀ a, a < 0 → ∀ b, b < 0 → a ≠ b → (TJ10 a).2.1 ≠ (TJ10 b).2.1 := by decide +kernel
theorem tyJ10_ok : ∀ k, k < 0 → parseFieldDescriptor (TJ10 k).2.2.1 = some (tyJ10 k) := by decide +kernel
def RJ7 : String := "java/util/Arrays"
def TJ7 : u_T := fun k => match k with
  | _ => ("", "", "", false)
def tyJ7 : Nat → FieldType := fun k => match k with
  | _ => .int
abbrev wsJ70 : List Cond := u_ws RJ7 TJ7 0
theorem nmJ7 : ∀ a, a < 0 → ∀ b, b < 0 → a ≠ b → (TJ7 a).2.1 ≠ (TJ7 b).2.1 := by decide +kernel
theorem tyJ7_ok : ∀ k, k < 0 → parseFieldDescriptor (TJ7 k).2.2.1 = some (tyJ7 k) := by decide +kernel
abbrev cJ7_rangeCheck_23922 : ByteArray := prog_27_method_30_code
def yJ7_rangeCheck_23922 : MethodName := ⟨RJ7, "rangeCheck", "(III)V"⟩
abbrev cJ7_fill_eb02e : ByteArray := prog_27_method_110_code
def yJ7_fill_eb02e : MethodName := ⟨RJ7, "fill", "([BIIB)V"⟩
abbrev cJ7_copyOf_9075b : ByteArray := prog_27_method_121_code
def yJ7_copyOf_9075b : MethodName := ⟨RJ7, "copyOf", "([BI)[B"⟩
abbrev cJ7_checkLength_df160 : ByteArray := prog_27_method_131_code
def yJ7_checkLength_df160 : MethodName := ⟨RJ7, "checkLength", "(II)V"⟩
abbrev cJ7_copyOfRange_39247 : ByteArray := prog_27_method_132_code
def yJ7_copyOfRange_39247 : MethodName := ⟨RJ7, "copyOfRange", "([BII)[B"⟩
abbrev cJ7_copyOfRangeByte_39247 : ByteArray := prog_27_method_133_code
def yJ7_copyOfRangeByte_39247 : MethodName := ⟨RJ7, "copyOfRangeByte", "([BII)[B"⟩
def RJ8 : String := "jdk/internal/util/ArraysSupport"
def TJ8 : u_T := fun k => match k with
  | _ => ("", "", "", false)
def tyJ8 : Nat → FieldType := fun k => match k with
  | _ => .int
abbrev wsJ80 : List Cond := u_ws RJ8 TJ8 0
theorem nmJ8 : ∀ a, a < 0 → ∀ b, b < 0 → a ≠ b → (TJ8 a).2.1 ≠ (TJ8 b).2.1 := by decide +kernel
theorem tyJ8_ok : ∀ k, k < 0 → parseFieldDescriptor (TJ8 k).2.2.1 = some (tyJ8 k) := by decide +kernel
abbrev cJ8_newLength_cabcc : ByteArray := prog_28_method_27_code
def yJ8_newLength_cabcc : MethodName := ⟨RJ8, "newLength", "(III)I"⟩
abbrev cJ8_hugeLength_7cf53 : ByteArray := prog_28_method_28_code
def yJ8_hugeLength_7cf53 : MethodName := ⟨RJ8, "hugeLength", "(II)I"⟩
def RJ3 : String := "jdk/internal/util/Preconditions"
def TJ3 : u_T := fun k => match k with
  | _ => ("", "", "", false)
def tyJ3 : Nat → FieldType := fun k => match k with
  | _ => .int
abbrev wsJ30 : List Cond := u_ws RJ3 TJ3 0
theorem nmJ3 : ∀ a, a < 0 → ∀ b, b < 0 → a ≠ b → (TJ3 a).2.1 ≠ (TJ3 b).2.1 := by decide +kernel
theorem tyJ3_ok : ∀ k, k < 0 → parseFieldDescriptor (TJ3 k).2.2.1 = some (tyJ3 k) := by decide +kernel
abbrev cJ3_checkIndex_8e157 : ByteArray := prog_29_method_11_code
def yJ3_checkIndex_8e157 : MethodName := ⟨RJ3, "checkIndex", "(IILjava/util/function/BiFunction;)I"⟩
abbrev cJ3_checkFromToIndex_8c36e : ByteArray := prog_29_method_12_code
def yJ3_checkFromToIndex_8c36e : MethodName := ⟨RJ3, "checkFromToIndex", "(IIILjava/util/function/BiFunction;)I"⟩
abbrev cJ3_checkFromIndexSize_8c36e : ByteArray := prog_29_method_13_code
def yJ3_checkFromIndexSize_8c36e : MethodName := ⟨RJ3, "checkFromIndexSize", "(IIILjava/util/function/BiFunction;)I"⟩
def RL : String := "TutorLinesLaw"
abbrev cL_put : ByteArray := method_3_code
def yL_put : MethodName := ⟨RL, "put", "(LTutorLines;II)I"⟩
abbrev cL_begin : ByteArray := method_4_code
def yL_begin : MethodName := ⟨RL, "begin", "(LTutorLines;I[J)I"⟩
abbrev cL_step : ByteArray := method_5_code
def yL_step : MethodName := ⟨RL, "step", "(LTutorLines;I[J)I"⟩
abbrev cL_witness : ByteArray := method_6_code
def yL_witness : MethodName := ⟨RL, "witness", "(LTutorLines;I[J)I"⟩
abbrev cL_hint : ByteArray := method_7_code
def yL_hint : MethodName := ⟨RL, "hint", "(LTutorLines;[J)I"⟩
abbrev cL_take : ByteArray := method_8_code
def yL_take : MethodName := ⟨RL, "take", "(LTutorLines;[J)I"⟩
abbrev cL_undo : ByteArray := method_9_code
def yL_undo : MethodName := ⟨RL, "undo", "(LTutorLines;[J)I"⟩
abbrev cL_line : ByteArray := method_10_code
def yL_line : MethodName := ⟨RL, "line", "(LTutorLines;I[J)I"⟩
abbrev cL_solutions : ByteArray := method_11_code
def yL_solutions : MethodName := ⟨RL, "solutions", "(LTutorLines;I[J)I"⟩
abbrev cL_print : ByteArray := method_12_code
def yL_print : MethodName := ⟨RL, "print", "(LTutorLines;[J)I"⟩
abbrev cL_points : ByteArray := method_13_code
def yL_points : MethodName := ⟨RL, "points", "(LTutorLines;I[J)I"⟩
abbrev cL_law : ByteArray := code
def yL_law : MethodName := ⟨RL, "law", "([I)Z"⟩
abbrev vwCl : List vw_C := [(RJ0, TJ0, 4), (RJ4, TJ4, 4), (RX0, TX0, 2), (RX1, TX1, 3), (RX2, TX2, 1), (RX4, TX4, 8), (RX5, TX5, 2), (RX7, TX7, 3), (RX8, TX8, 14), (RX9, TX9, 29)]
end
section
/-! pure rows: fractions in lowest terms over Int, Euclid's steps, comparing two fractions -/
def tl_norm (a b : Int) : Int × Int := if b < 0 then (-a / (Int.gcd a b : Int), -b / (Int.gcd a b : Int)) else (a / (Int.gcd a b : Int), b / (Int.gcd a b : Int))
theorem tl_gcd_pos {a b : Int} (hb : b ≠ 0) : (0 : Int) < (Int.gcd a b : Int) := by
  have h : 0 < Int.gcd a b := Int.gcd_pos_of_ne_zero_right a hb
  omega
theorem tl_norm_pos {a b : Int} (hb : b ≠ 0) : 0 < (tl_norm a b).2 := by
  have hg := tl_gcd_pos (a := a) hb
  have hd : (Int.gcd a b : Int) ∣ b := Int.gcd_dvd_right a b
  unfold tl_norm
  split
  · rename_i h
    obtain ⟨k, hk⟩ := hd
    have e : -b = (Int.gcd a b : Int) * (-k) := by rw [Int.mul_neg, ← hk]
    show 0 < -b / (Int.gcd a b : Int)
    rw [e, Int.mul_ediv_cancel_left _ (by omega)]
    rcases Int.lt_or_le 0 (-k) with z | z
    · exact z
    · have := Int.mul_le_mul_of_nonneg_left z (Int.le_of_lt hg)
      rw [Int.mul_zero] at this
      omega
  · rename_i h
    obtain ⟨k, hk⟩ := hd
    show 0 < b / (Int.gcd a b : Int)
    have e : b / (Int.gcd a b : Int) = k := by
      conv => lhs; lhs; rw [hk]
      exact Int.mul_ediv_cancel_left _ (by omega)
    rw [e]
    rcases Int.lt_or_le 0 k with z | z
    · exact z
    · have := Int.mul_le_mul_of_nonneg_left z (Int.le_of_lt hg)
      rw [Int.mul_zero, ← hk] at this
      omega
/-- the normal form's parts times the divisor are the parts, or their opposites -/
theorem tl_norm_mul {a b : Int} (hb : b ≠ 0) : (b < 0 → (tl_norm a b).1 * (Int.gcd a b : Int) = -a ∧ (tl_norm a b).2 * (Int.gcd a b : Int) = -b) ∧ (0 < b → (tl_norm a b).1 * (Int.gcd a b : Int) = a ∧ (tl_norm a b).2 * (Int.gcd a b : Int) = b) := by
  have h1 : (Int.gcd a b : Int) ∣ a := Int.gcd_dvd_left a b
  have h2 : (Int.gcd a b : Int) ∣ b := Int.gcd_dvd_right a b
  refine ⟨fun h => ?_, fun h => ?_⟩
  · unfold tl_norm
    rw [if_pos h]
    exact ⟨Int.ediv_mul_cancel (Int.dvd_neg.mpr h1), Int.ediv_mul_cancel (Int.dvd_neg.mpr h2)⟩
  · unfold tl_norm
    rw [if_neg (by omega)]
    exact ⟨Int.ediv_mul_cancel h1, Int.ediv_mul_cancel h2⟩
theorem tl_norm_self {a b : Int} (hb : 0 < b) (h : Int.gcd a b = 1) : tl_norm a b = (a, b) := by
  unfold tl_norm
  rw [if_neg (by omega), h]
  simp
theorem tl_norm_gcd {a b : Int} (hb : b ≠ 0) : Int.gcd (tl_norm a b).1 (tl_norm a b).2 = 1 := by
  have hg : 0 < Int.gcd a b := Int.gcd_pos_of_ne_zero_right a hb
  unfold tl_norm
  split
  · show Int.gcd (-a / (Int.gcd a b : Int)) (-b / (Int.gcd a b : Int)) = 1
    have e : Int.gcd a b = Int.gcd (-a) (-b) := by rw [Int.gcd_neg, Int.neg_gcd]
    rw [e] at hg ⊢
    exact Int.gcd_ediv_gcd_ediv_gcd hg
  · exact Int.gcd_ediv_gcd_ediv_gcd hg
theorem tl_abs_le {x g y : Int} (hg : 0 < g) (h : x * g = y) : x.natAbs ≤ y.natAbs := by
  rw [← h, Int.natAbs_mul]
  exact Nat.le_mul_of_pos_right _ (by omega)
theorem tl_norm_le {a b : Int} (hb : b ≠ 0) : (tl_norm a b).1.natAbs ≤ a.natAbs ∧ (tl_norm a b).2.natAbs ≤ b.natAbs := by
  have hg := tl_gcd_pos (a := a) hb
  obtain ⟨h1, h2⟩ := tl_norm_mul (a := a) hb
  rcases Int.lt_or_le b 0 with h | h
  · have h3 := tl_abs_le hg (h1 h).1
    have h4 := tl_abs_le hg (h1 h).2
    exact ⟨by omega, by omega⟩
  · have h3 := tl_abs_le hg (h2 (by omega)).1
    have h4 := tl_abs_le hg (h2 (by omega)).2
    exact ⟨h3, h4⟩
theorem tl_norm_zero {a b : Int} (hb : b ≠ 0) : (tl_norm a b).1 = 0 ↔ a = 0 := by
  have hg := tl_gcd_pos (a := a) hb
  obtain ⟨h1, h2⟩ := tl_norm_mul (a := a) hb
  have key : (tl_norm a b).1 * (Int.gcd a b : Int) = -a ∨ (tl_norm a b).1 * (Int.gcd a b : Int) = a := by
    rcases Int.lt_or_le b 0 with h | h
    · exact Or.inl (h1 h).1
    · exact Or.inr (h2 (by omega)).1
  refine ⟨fun h => ?_, fun h => ?_⟩
  · rw [h, Int.zero_mul] at key
    omega
  · rw [h] at key
    have k2 : (tl_norm a b).1 * (Int.gcd a b : Int) = 0 := by rw [h]; rcases key with k | k <;> omega
    rcases Int.mul_eq_zero.mp k2 with z | z
    · exact z
    · omega
/-- Euclid's step: the product of the two falls to less than a half -/
theorem tl_half {x y k : Nat} (hy : 0 < y) (h : y ≤ x) (hk : x * y < 2 ^ (k + 1)) : y * (x % y) < 2 ^ k := by
  have h1 : x % y < y := Nat.mod_lt _ hy
  have h2 : y * (x / y) + x % y = x := Nat.div_add_mod x y
  have h3 : 0 < x / y := Nat.div_pos h hy
  have h4 : y * 1 ≤ y * (x / y) := Nat.mul_le_mul_left y h3
  have h5 : 2 * (x % y) < x := by omega
  have h6 : y * (2 * (x % y)) < y * x := Nat.mul_lt_mul_of_pos_left h5 hy
  have h7 : y * (2 * (x % y)) = 2 * (y * (x % y)) := by rw [Nat.mul_left_comm]
  rw [h7, Nat.mul_comm y x] at h6
  rw [Nat.pow_succ] at hk
  omega
/-- which of two fractions is the less: -1, 0, 1 (the parts below are above 0) -/
def tl_cmp (a b c d : Int) : Int := if a * d < c * b then -1 else if a * d = c * b then 0 else 1
theorem tl_cmp_lt {a b c d : Int} (hb : 0 < b) (hd : 0 < d) (h : a / b < c / d) : tl_cmp a b c d = -1 := by
  unfold tl_cmp
  rw [if_pos]
  have h1 : a < (a / b + 1) * b := Int.lt_ediv_add_one_mul_self a hb
  have h2 : c / d * d ≤ c := Int.ediv_mul_le c (by omega)
  have h3 : (a / b + 1) * b ≤ c / d * b := Int.mul_le_mul_of_nonneg_right (by omega) (by omega)
  have h4 : a * d < c / d * b * d := Int.mul_lt_mul_of_pos_right (by omega) hd
  have h5 : c / d * d * b ≤ c * b := Int.mul_le_mul_of_nonneg_right h2 (by omega)
  have h6 : c / d * b * d = c / d * d * b := by rw [Int.mul_assoc, Int.mul_comm b d, ← Int.mul_assoc]
  omega
theorem tl_cmp_neg (a b c d : Int) : tl_cmp c d a b = - tl_cmp a b c d := by
  unfold tl_cmp
  rcases Int.lt_trichotomy (a * d) (c * b) with h | h | h
  · rw [if_pos h, if_neg (by omega), if_neg (by omega)]; rfl
  · rw [if_neg (by omega), if_pos h.symm, if_neg (by omega), if_pos h]; rfl
  · rw [if_pos h, if_neg (by omega), if_neg (by omega)]
theorem tl_cmp_gt {a b c d : Int} (hb : 0 < b) (hd : 0 < d) (h : c / d < a / b) : tl_cmp a b c d = 1 := by
  have := tl_cmp_lt hd hb h
  rw [tl_cmp_neg] at this
  omega
theorem tl_cmp_mod {a b c d : Int} (h : a / b = c / d) : tl_cmp a b c d = tl_cmp (a % b) b (c % d) d := by
  have h1 : b * (a / b) + a % b = a := Int.mul_ediv_add_emod a b
  have h2 : d * (c / d) + c % d = c := Int.mul_ediv_add_emod c d
  have e1 : a * d = b * (a / b) * d + a % b * d := by rw [← Int.add_mul, h1]
  have e2 : c * b = b * (a / b) * d + c % d * b := by
    rw [h, Int.mul_assoc, Int.mul_comm b, Int.mul_comm (c / d) d, ← Int.add_mul, h2]
  unfold tl_cmp
  rw [e1, e2]
  by_cases q : a % b * d < c % d * b
  · rw [if_pos q, if_pos (by omega)]
  · rw [if_neg q, if_neg (by omega)]
    by_cases q2 : a % b * d = c % d * b
    · rw [if_pos q2, if_pos (by omega)]
    · rw [if_neg q2, if_neg (by omega)]
/-- turned upside down -/
theorem tl_cmp_inv (a b c d : Int) : tl_cmp a b c d = tl_cmp d c b a := by
  unfold tl_cmp
  rw [Int.mul_comm d a, Int.mul_comm b c]
theorem tl_cmp_00 (b d : Int) : tl_cmp 0 b 0 d = 0 := by
  unfold tl_cmp
  simp
theorem tl_cmp_0p {b c d : Int} (hb : 0 < b) (hc : 0 < c) : tl_cmp 0 b c d = -1 := by
  unfold tl_cmp
  rw [Int.zero_mul, if_pos (Int.mul_pos hc hb)]
theorem tl_cmp_p0 {a b d : Int} (hd : 0 < d) (ha : 0 < a) : tl_cmp a b 0 d = 1 := by
  rw [tl_cmp_neg, tl_cmp_0p hd ha]; rfl
theorem tl_cop {a b d : Int} (h : b ∣ a * d) (hg : Int.gcd a b = 1) : b ∣ d := by
  have h1 : b.natAbs ∣ a.natAbs * d.natAbs := by
    rw [← Int.natAbs_mul]
    exact Int.natAbs_dvd_natAbs.mpr h
  have h2 : Nat.Coprime b.natAbs a.natAbs := by
    rw [Nat.coprime_comm]
    exact hg
  exact Int.natAbs_dvd_natAbs.mp (h2.dvd_of_dvd_mul_left h1)
theorem tl_cmp_same {a b c d : Int} (hb : 0 < b) (hd : 0 < d) (h1 : Int.gcd a b = 1) (h2 : Int.gcd c d = 1) : tl_cmp a b c d = 0 ↔ (a = c ∧ b = d) := by
  have h0 : tl_cmp a b c d = 0 ↔ a * d = c * b := by
    unfold tl_cmp
    by_cases q : a * d < c * b
    · rw [if_pos q]; omega
    · rw [if_neg q]
      by_cases q2 : a * d = c * b
      · rw [if_pos q2]; omega
      · rw [if_neg q2]; omega
  rw [h0]
  refine ⟨fun h => ?_, fun h => by rw [h.1, h.2]⟩
  have d1 : b ∣ d := by
    have : b ∣ a * d := ⟨c, by rw [h, Int.mul_comm]⟩
    exact tl_cop this h1
  have d2 : d ∣ b := by
    have : d ∣ c * b := ⟨a, by rw [← h, Int.mul_comm]⟩
    exact tl_cop this h2
  have e : b = d := Int.dvd_antisymm (by omega) (by omega) d1 d2
  refine ⟨?_, e⟩
  subst e
  exact Int.eq_of_mul_eq_mul_right (by omega) h
end
section
/-! MY MEMORY: every cell that the law's run makes, by its address and slot: references, ints, longs as functions; sh says what lies at an address: (kind, length): kinds under 20 are places in vwCl, 20 int[], 21 long[], 22 byte[], 23 boolean[], 24 Side[], 25 Line[] -/
abbrev ji (x : Int) : Value := Value.int (Int32.ofInt x)
abbrev jl (x : Int) : Value := Value.long (Int64.ofInt x)
abbrev tm_M : Type := (Nat → Nat → Option Nat) × (Nat → Nat → Int) × (Nat → Nat → Int)
abbrev mR (M : tm_M) : Nat → Nat → Option Nat := M.1
abbrev mI (M : tm_M) : Nat → Nat → Int := M.2.1
abbrev mL (M : tm_M) : Nat → Nat → Int := M.2.2
def tm_up {α : Type} (f : Nat → Nat → α) (q k : Nat) (v : α) : Nat → Nat → α := fun a b => if a = q ∧ b = k then v else f a b
theorem tm_up_s {α : Type} (f : Nat → Nat → α) (q k : Nat) (v : α) : tm_up f q k v q k = v := by simp [tm_up]
theorem tm_up_a {α : Type} (f : Nat → Nat → α) {q k a b : Nat} (v : α) (h : a ≠ q) : tm_up f q k v a b = f a b := by simp [tm_up, h]
theorem tm_up_k {α : Type} (f : Nat → Nat → α) {q k a b : Nat} (v : α) (h : b ≠ k) : tm_up f q k v a b = f a b := by simp [tm_up, h]
abbrev sR (M : tm_M) (q k : Nat) (v : Option Nat) : tm_M := (tm_up M.1 q k v, M.2.1, M.2.2)
abbrev sI (M : tm_M) (q k : Nat) (v : Int) : tm_M := (M.1, tm_up M.2.1 q k v, M.2.2)
abbrev sL (M : tm_M) (q k : Nat) (v : Int) : tm_M := (M.1, M.2.1, tm_up M.2.2 q k v)
/-- what a slot holds: 0 an int (boolean, byte), 1 a long, 2 a reference -/
def tm_ty (kd k : Nat) : Nat := match kd with
  | 0 => if k = 0 then 2 else 0
  | 1 => if k = 0 then 2 else 0
  | 2 => 1
  | 3 => if k < 2 then 2 else 0
  | 4 => 2
  | 5 => if k = 0 ∨ 5 ≤ k then 2 else 0
  | 6 => 2
  | 7 => if k = 0 then 0 else 2
  | 8 => if k = 3 ∨ k = 8 ∨ k = 9 then 0 else 2
  | 9 => if k = 10 ∨ k = 11 ∨ k = 26 ∨ k = 27 then 1 else if k = 1 ∨ k = 2 ∨ k = 6 ∨ k = 7 ∨ k = 9 ∨ (12 ≤ k ∧ k ≤ 17) ∨ k = 24 then 2 else 0
  | 21 => 1
  | 24 => 2
  | 25 => 2
  | _ => 0
def tm_V (kd : Nat) (M : tm_M) (q k : Nat) : Value := match tm_ty kd k with
  | 0 => ji (mI M q k)
  | 1 => jl (mL M q k)
  | _ => va_rf (mR M q k)
theorem tm_V0 {kd k : Nat} (h : tm_ty kd k = 0) (M : tm_M) (q : Nat) : tm_V kd M q k = ji (mI M q k) := by simp [tm_V, h]
theorem tm_V1 {kd k : Nat} (h : tm_ty kd k = 1) (M : tm_M) (q : Nat) : tm_V kd M q k = jl (mL M q k) := by simp [tm_V, h]
theorem tm_V2 {kd k : Nat} (h : tm_ty kd k = 2) (M : tm_M) (q : Nat) : tm_V kd M q k = va_rf (mR M q k) := by simp [tm_V, h]
theorem tm_V_sI {kd a k q j : Nat} {M : tm_M} {v : Int} (h : q ≠ a ∨ j ≠ k) : tm_V kd (sI M a k v) q j = tm_V kd M q j := by
  have e : mI (sI M a k v) q j = mI M q j := by
    rcases h with h | h
    · exact tm_up_a _ _ h
    · exact tm_up_k _ _ h
  simp only [tm_V]
  split <;> first | rw [e] | rfl
theorem tm_V_sL {kd a k q j : Nat} {M : tm_M} {v : Int} (h : q ≠ a ∨ j ≠ k) : tm_V kd (sL M a k v) q j = tm_V kd M q j := by
  have e : mL (sL M a k v) q j = mL M q j := by
    rcases h with h | h
    · exact tm_up_a _ _ h
    · exact tm_up_k _ _ h
  simp only [tm_V]
  split <;> first | rw [e] | rfl
theorem tm_V_sR {kd a k q j : Nat} {M : tm_M} {v : Option Nat} (h : q ≠ a ∨ j ≠ k) : tm_V kd (sR M a k v) q j = tm_V kd M q j := by
  have e : mR (sR M a k v) q j = mR M q j := by
    rcases h with h | h
    · exact tm_up_a _ _ h
    · exact tm_up_k _ _ h
  simp only [tm_V]
  split <;> first | rw [e] | rfl
abbrev tm_G : Type := va_G × (Nat → ClassId)
abbrev tm_sh : Type := Nat → Option (Nat × Nat)
def tm_at (G : tm_G) (kd n q : Nat) (V : Nat → Value) (H : Heap) : Prop := (kd < 20 → ∃ r : vw_C, vwCl[kd]? = some r ∧ t_OB q (G.1.1 kd) r.2.2 (G.1.2 kd) H V) ∧ (20 ≤ kd → H[q]? = some (arrV (G.2 kd) n V))
theorem tm_at.kept {G : tm_G} {kd n q : Nat} {V : Nat → Value} {H H1 : Heap} (h : tm_at G kd n q V H) (hq : H1[q]? = H[q]?) : tm_at G kd n q V H1 :=
  ⟨fun hk => by obtain ⟨r, h1, h2⟩ := h.1 hk; exact ⟨r, h1, h2.kept hq⟩, fun hk => hq.trans (h.2 hk)⟩
theorem tm_at.lt {G : tm_G} {kd n q : Nat} {V : Nat → Value} {H : Heap} (h : tm_at G kd n q V H) : q < H.size := by
  rcases Nat.lt_or_ge kd 20 with z | z
  · obtain ⟨r, -, cell, h2, -⟩ := h.1 z
    exact (Array.getElem?_eq_some_iff.mp h2).1
  · exact (Array.getElem?_eq_some_iff.mp (h.2 z)).1
theorem tm_at.to {G : tm_G} {kd n q : Nat} {V V' : Nat → Value} {H : Heap} (h : tm_at G kd n q V H) (e : ∀ k, V k = V' k) : tm_at G kd n q V' H := by
  have : V = V' := funext e
  rw [← this]
  exact h
/-- the world: the cells that were there before the law began are as they were; the others as sh and M say -/
def tm_W (G : tm_G) (Hb : Heap) (sh : tm_sh) (M : tm_M) (H : Heap) : Prop := (∀ q kd n, sh q = some (kd, n) → Hb.size ≤ q ∧ tm_at G kd n q (tm_V kd M q) H) ∧ ∀ q, q < Hb.size → H[q]? = Hb[q]?
abbrev tm_A (Hb : Heap) : Nat → Prop := fun q => Hb.size ≤ q
def tm_tys (G : tm_G) : List (ClassId × FieldType) := [(G.2 20, .int), (G.2 21, .long), (G.2 22, .byte), (G.2 23, .boolean), (G.2 24, .object "TutorLines$Side"), (G.2 25, .object "TutorLines$Line")]
theorem tm_W.set {G : tm_G} {Hb : Heap} {sh : tm_sh} {M M' : tm_M} {H H1 : Heap} {a kd n : Nat} (h : tm_W G Hb sh M H) (ha : sh a = some (kd, n)) (hnew : tm_at G kd n a (tm_V kd M' a) H1) (oq : ∀ q : Nat, q ≠ a → H1[q]? = H[q]?) (hM : ∀ kd q k, q ≠ a → tm_V kd M' q k = tm_V kd M q k) : tm_W G Hb sh M' H1 := by
  refine ⟨fun q kq nq hq => ?_, fun q hq => ?_⟩
  · obtain ⟨h1, h2⟩ := h.1 q kq nq hq
    refine ⟨h1, ?_⟩
    by_cases e : q = a
    · subst e
      cases ha.symm.trans hq
      exact hnew
    · exact (h2.to (fun k => (hM kq q k e).symm)).kept (oq q e)
  · have h3 := (h.1 a kd n ha).1
    rw [oq q (by omega)]
    exact h.2 q hq
section TMR
variable {p : Program} {l : Launch} {e : Env} {R : Room} {s : State} {m : MethodId} {args : Array Value} {below : List Frame} {meth : Method} {c : Code} {H : Heap} {locs : List Loc} {cells slots : Nat} {Q : State → Prop}
variable {cc : ByteArray} {pc : Nat} {ls : Array Slot} {rest : List Value} {G : tm_G} {Hb H0 : Heap} {sh : tm_sh} {M : tm_M} {a kd n : Nat} {tys : List (ClassId × FieldType)}
theorem tm_get (hexec : p.tables.exec = Jvm.exec) (hb : c.code = cc) {own ref C : String} {T : u_T} {N index : Nat} {Ts : List Cond} (hts : ∀ w ∈ Ts, w.before args s = true) (hin : ∀ w ∈ u_ws C T N, w ∈ Ts) (hown : s.vm.findClass own = some m.cls) (hK : va_K G.1 vwCl tys s) (hW : tm_W G Hb sh M H) (hq : sh a = some (kd, n)) (hkd : kd < 20) (hc : vwCl[kd]? = some (C, T, N)) (k : Nat) (hk : k < N) (hlink : (Cond.fieldLink own index ref (T k).2.1 (T k).2.2.1).before args s = true) (hsame : ∀ x, s.fieldFound? (T k).1 (T k).2.1 (T k).2.2.1 = some x → s.fieldFound? ref (T k).2.1 (T k).2.2.1 = some x) (hdg : decode cc pc = .ok (.getfield index, 3))
    (kk : W p l e R s m args below meth c H locs cells slots Q (F0 m (pc + 3) ls (tm_V kd M a k :: rest))) : W p l e R s m args below meth c H locs cells slots Q (F0 m pc ls (.ref a :: rest)) := by
  obtain ⟨r, h1, cell, q1, q2, q3, q4⟩ := (hW.1 a kd n hq).2.1 hkd
  have hr : r = (C, T, N) := Option.some.inj (h1.symm.trans hc)
  subst hr
  obtain ⟨hS, hfc, kC, hkC, hkind⟩ := hK.1 kd _ hc
  obtain ⟨cf, kf, fi, f, hi, hsl⟩ := hS k hk
  refine W.getf hexec hb hown hlink (hsame _ hi) (u_facts hfc hkC (u_lays hts hin hk) hi).1 q1 (by rw [q3]; exact fun h => by cases h) (v := tm_V kd M a k) ?_ rfl rfl hdg kk
  rw [hsl, q4 k hk]
theorem tm_put (hexec : p.tables.exec = Jvm.exec) (hb : c.code = cc) {own ref C : String} {T : u_T} {N index : Nat} {Ts : List Cond} (hts : ∀ w ∈ Ts, w.before args s = true) (hin : ∀ w ∈ u_ws C T N, w ∈ Ts) (ty0 : Nat → FieldType) (hty : ∀ k, k < N → parseFieldDescriptor (T k).2.2.1 = some (ty0 k)) (hnm : ∀ a, a < N → ∀ b, b < N → a ≠ b → (T a).2.1 ≠ (T b).2.1) (hown : s.vm.findClass own = some m.cls) (hK : va_K G.1 vwCl tys s) (hW : tm_W G Hb sh M H) (hS0 : va_S (tm_A Hb) H0 H locs) (hq : sh a = some (kd, n)) (hkd : kd < 20) (hc : vwCl[kd]? = some (C, T, N)) (k : Nat) (hk : k < N) (hlink : (Cond.fieldLink own index ref (T k).2.1 (T k).2.2.1).before args s = true) (hsame : ∀ x, s.fieldFound? (T k).1 (T k).2.1 (T k).2.2.1 = some x → s.fieldFound? ref (T k).2.1 (T k).2.2.1 = some x) (hfin : (T k).2.2.2 = false) {ty : FieldType} {v : Value} (hd : parseFieldDescriptor (T k).2.2.1 = some ty) (hn : narrow ty v = v) (hfit : fits ty v = true) {M' : tm_M} (hv : tm_V kd M' a k = v) (ho : ∀ kd q j, (q ≠ a ∨ j ≠ k) → tm_V kd M' q j = tm_V kd M q j)
    (hdg : decode cc pc = .ok (.putfield index, 3)) (kk : ∀ (H1 : Heap) (locs1 : List Loc), tm_W G Hb sh M' H1 → va_S (tm_A Hb) H0 H1 locs1 → W p l e R s m args below meth c H1 locs1 cells slots Q (F0 m (pc + 3) ls rest)) : W p l e R s m args below meth c H locs cells slots Q (F0 m pc ls (v :: .ref a :: rest)) := by
  have hap := va_apart (own := own) hts hin ty0 hty hnm hK hc
  obtain ⟨hlo, hat, -⟩ := hW.1 a kd n hq
  obtain ⟨r, h1, cell, q1, q2, q3, q4⟩ := hat hkd
  have hr : r = (C, T, N) := Option.some.inj (h1.symm.trans hc)
  subst hr
  obtain ⟨hS, hfc, kC, hkC, hkind⟩ := hK.1 kd _ hc
  obtain ⟨cf, kf, fi, f, hi, hsl⟩ := hS k hk
  have hlay := hts _ (hin _ (u_in_lay hk))
  unfold u_lay at hlay
  rw [if_neg (by rw [hfin]; decide)] at hlay
  have hst := (u_facts hfc hkC (u_lays hts hin hk) hi).1
  have h6 := u_store hfc hkC hkind hlay hi hd hn hfit
  refine W.putK hexec hb (f := f) ⟨hown, hlink, ⟨_, _, _, hsame _ hi⟩, hst⟩ (by rw [q2]; exact h6) q1 q3 (by rw [hsl]; exact k2_hasslot (q4 k hk)) rfl rfl hdg fun H' e1 e2 e3 => ?_
  rw [hsl] at e1 ⊢
  refine kk H' _ (hW.set hq ⟨fun _ => ⟨_, hc, t_OB.to (V := updV (tm_V kd M a) k v) ⟨_, e1, q2, q3, t_set q4 hap hk v⟩ (fun j _ => ?_)⟩, fun z => absurd z (by omega)⟩ e3 (fun kd q j hne => ho kd q j (Or.inl hne))) (hS0.put e2 e3 hlo)
  by_cases hj : j = k
  · subst hj
    rw [hv]
    simp [updV]
  · rw [ho kd a j (Or.inr hj)]
    simp [updV, hj]
theorem tm_putF (hexec : p.tables.exec = Jvm.exec) (hb : c.code = cc) {own ref C : String} {T : u_T} {N index : Nat} {Ts : List Cond} (hts : ∀ w ∈ Ts, w.before args s = true) (hin : ∀ w ∈ u_ws C T N, w ∈ Ts) (ty0 : Nat → FieldType) (hty : ∀ k, k < N → parseFieldDescriptor (T k).2.2.1 = some (ty0 k)) (hnm : ∀ a, a < N → ∀ b, b < N → a ≠ b → (T a).2.1 ≠ (T b).2.1) (hown : s.vm.findClass own = some m.cls) (hK : va_K G.1 vwCl tys s) (hW : tm_W G Hb sh M H) (hS0 : va_S (tm_A Hb) H0 H locs) (hq : sh a = some (kd, n)) (hkd : kd < 20) (hc : vwCl[kd]? = some (C, T, N)) (k : Nat) (hk : k < N) (hlink : (Cond.fieldLink own index ref (T k).2.1 (T k).2.2.1).before args s = true) (hsame : ∀ x, s.fieldFound? (T k).1 (T k).2.1 (T k).2.2.1 = some x → s.fieldFound? ref (T k).2.1 (T k).2.2.1 = some x) (hfin : (T k).2.2.2 = true) (hin2 : meth.name = "<init>") (hdecl : (T k).1 = own) {ty : FieldType} {v : Value} (hd : parseFieldDescriptor (T k).2.2.1 = some ty) (hn : narrow ty v = v) (hfit : fits ty v = true) {M' : tm_M} (hv : tm_V kd M' a k = v) (ho : ∀ kd q j, (q ≠ a ∨ j ≠ k) → tm_V kd M' q j = tm_V kd M q j)
    (hdg : decode cc pc = .ok (.putfield index, 3)) (kk : ∀ (H1 : Heap) (locs1 : List Loc), tm_W G Hb sh M' H1 → va_S (tm_A Hb) H0 H1 locs1 → W p l e R s m args below meth c H1 locs1 cells slots Q (F0 m (pc + 3) ls rest)) : W p l e R s m args below meth c H locs cells slots Q (F0 m pc ls (v :: .ref a :: rest)) := by
  have hap := va_apart (own := own) hts hin ty0 hty hnm hK hc
  obtain ⟨hlo, hat, -⟩ := hW.1 a kd n hq
  obtain ⟨r, h1, cell, q1, q2, q3, q4⟩ := hat hkd
  have hr : r = (C, T, N) := Option.some.inj (h1.symm.trans hc)
  subst hr
  obtain ⟨hS, hfc, kC, hkC, hkind⟩ := hK.1 kd _ hc
  obtain ⟨cf, kf, fi, f, hi, hsl⟩ := hS k hk
  have hlay := hts _ (hin _ (u_in_lay hk))
  unfold u_lay at hlay
  rw [if_pos hfin] at hlay
  have hst := (u_facts hfc hkC (u_lays hts hin hk) hi).1
  have hcf : m.cls = cf := by
    obtain ⟨_, _, c', _, _, _, -, -, hf', -, -, -, hown2, -⟩ := Cond.laysFinal_spec hlay
    have e1 : c' = cf := by have := hi.symm.trans hf'; simp at this; exact this.1.symm
    rw [hdecl] at hown2
    rw [← e1]; exact Option.some.inj (hown.symm.trans hown2)
  have h6 := u_fits hfc hkC hkind (Or.inr hlay) hi hd hn hfit
  refine W.putFinK hexec hb hown hlink (hsame _ hi) hst hcf hin2 (by rw [q2]; exact h6) q1 q3 (by rw [hsl]; exact k2_hasslot (q4 k hk)) rfl rfl hdg fun H' e1 e2 e3 => ?_
  rw [hsl] at e1 ⊢
  refine kk H' _ (hW.set hq ⟨fun _ => ⟨_, hc, t_OB.to (V := updV (tm_V kd M a) k v) ⟨_, e1, q2, q3, t_set q4 hap hk v⟩ (fun j _ => ?_)⟩, fun z => absurd z (by omega)⟩ e3 (fun kd q j hne => ho kd q j (Or.inl hne))) (hS0.put e2 e3 hlo)
  by_cases hj : j = k
  · subst hj
    rw [hv]
    simp [updV]
  · rw [ho kd a j (Or.inr hj)]
    simp [updV, hj]
end TMR
theorem tm_nb {v : Int} (h : -128 ≤ v ∧ v < 128) : narrow .byte (.int (Int32.ofInt v)) = .int (Int32.ofInt v) := by
  have e : (Int32.ofInt v).toInt8.toInt32 = Int32.ofInt v := by
    apply Int32.toInt_inj.mp
    rw [Int8.toInt_toInt32, Int32.toInt_toInt8, Int32.toInt_ofInt_of_le (by omega) (by omega)]
    exact Int.bmod_eq_of_le (by omega) (by omega)
  have h2 := pk_nb (Int32.ofInt v)
  rw [e] at h2
  exact h2
theorem tm_nz {v : Int} (h : v = 0 ∨ v = 1) : narrow .boolean (.int (Int32.ofInt v)) = .int (Int32.ofInt v) := by
  rcases h with rfl | rfl <;> decide
theorem tm_nn {e : Int} (h0 : 0 ≤ e) (h1 : e < 2147483648) : ¬ Int32.ofInt e < 0 ∧ (Int32.ofInt e).toNatClampNeg = e.toNat := by
  have e1 : (Int32.ofInt e).toInt = e := Int32.toInt_ofInt_of_le (by omega) (by omega)
  refine ⟨fun h => ?_, ?_⟩
  · have h2 := Int32.lt_iff_toInt_lt.mp h
    rw [e1, Int32.toInt_zero] at h2
    omega
  · show (Int32.ofInt e).toInt.toNat = e.toNat
    rw [e1]
theorem tm_ix {e : Int} {n : Nat} (h0 : 0 ≤ e) (h1 : e < n) (hn : n < 2147483648) : vp_in (Int32.ofInt e) n ∧ (Int32.ofInt e).toNatClampNeg = e.toNat := by
  obtain ⟨h2, h3⟩ := tm_nn h0 (by omega)
  refine ⟨fun h => ?_, h3⟩
  rcases h with h | h
  · exact h2 h
  · rw [h3] at h
    omega
theorem tm_arr {G : tm_G} {Hb H : Heap} {sh : tm_sh} {M : tm_M} {a kd n : Nat} (hW : tm_W G Hb sh M H) (hq : sh a = some (kd, n)) (hk : 20 ≤ kd) : H[a]? = some (arrV (G.2 kd) n (tm_V kd M a)) := (hW.1 a kd n hq).2.2 hk
theorem tm_W.setA {G : tm_G} {Hb : Heap} {sh : tm_sh} {M M' : tm_M} {H H1 : Heap} {a kd n k : Nat} {v : Value} (h : tm_W G Hb sh M H) (ha : sh a = some (kd, n)) (hk : 20 ≤ kd) (e1 : H1[a]? = some ((arrV (G.2 kd) n (tm_V kd M a)).setSlot k v)) (oq : ∀ q : Nat, q ≠ a → H1[q]? = H[q]?) (hv : tm_V kd M' a k = v) (ho : ∀ kd q j, (q ≠ a ∨ j ≠ k) → tm_V kd M' q j = tm_V kd M q j) : tm_W G Hb sh M' H1 := by
  refine h.set ha ⟨fun z => absurd z (by omega), fun _ => ?_⟩ oq (fun kd q j hne => ho kd q j (Or.inl hne))
  rw [e1, arrV_store]
  congr 2
  funext j
  by_cases hj : j = k
  · subst hj
    rw [hv]
    simp [updV]
  · rw [ho kd a j (Or.inr hj)]
    simp [updV, hj]
section TMS
variable {p : Program} {l : Launch} {e : Env} {R : Room} {s : State} {m : MethodId} {args : Array Value} {below : List Frame} {meth : Method} {c : Code} {H : Heap} {locs : List Loc} {cells slots : Nat} {Q : State → Prop}
variable {cc : ByteArray} {pc : Nat} {ls : Array Slot} {rest : List Value} {G : tm_G} {Hb H0 : Heap} {sh : tm_sh} {M : tm_M} {a kd n : Nat} {tys : List (ClassId × FieldType)}
theorem tm_iald (hexec : p.tables.exec = Jvm.exec) (hb : c.code = cc) (hK : va_K G.1 vwCl (tm_tys G) s) (hW : tm_W G Hb sh M H) (hq : sh a = some (20, n)) {x : Int} (h0 : 0 ≤ x) (h1 : x < n) (hn : n < 2147483648) (hdg : decode cc pc = .ok (.iaload, 1))
    (kk : W p l e R s m args below meth c H locs cells slots Q (F0 m (pc + 1) ls (ji (mI M a x.toNat) :: rest))) : W p l e R s m args below meth c H locs cells slots Q (F0 m pc ls (ji x :: .ref a :: rest)) := by
  obtain ⟨hin, hcl⟩ := tm_ix h0 h1 hn
  have hlt : x.toNat < n := by omega
  exact W.iald (v := ji (mI M a x.toNat)) hexec hb (tm_arr hW hq (by decide)) ((hK.2 0 _ rfl).1 n (tm_V 20 M a)) (fun q => by cases q) (by rw [arrV_size]; exact hin) (by rw [hcl, arrV_read _ _ hlt]; exact congrArg some (tm_V0 rfl M a)) rfl rfl hdg kk
theorem tm_lald (hexec : p.tables.exec = Jvm.exec) (hb : c.code = cc) (hK : va_K G.1 vwCl (tm_tys G) s) (hW : tm_W G Hb sh M H) (hq : sh a = some (21, n)) {x : Int} (h0 : 0 ≤ x) (h1 : x < n) (hn : n < 2147483648) (hdg : decode cc pc = .ok (.laload, 1))
    (kk : W p l e R s m args below meth c H locs cells slots Q (F0 m (pc + 1) ls (jl (mL M a x.toNat) :: rest))) : W p l e R s m args below meth c H locs cells slots Q (F0 m pc ls (ji x :: .ref a :: rest)) := by
  obtain ⟨hin, hcl⟩ := tm_ix h0 h1 hn
  have hlt : x.toNat < n := by omega
  exact W.lald (v := jl (mL M a x.toNat)) hexec hb (tm_arr hW hq (by decide)) ((hK.2 1 _ rfl).1 n (tm_V 21 M a)) (fun q => by cases q) (by rw [arrV_size]; exact hin) (by rw [hcl, arrV_read _ _ hlt]; exact congrArg some (tm_V1 rfl M a)) rfl rfl hdg kk
theorem tm_bald (hexec : p.tables.exec = Jvm.exec) (hb : c.code = cc) (hK : va_K G.1 vwCl (tm_tys G) s) (hW : tm_W G Hb sh M H) (hq : sh a = some (22, n)) {x : Int} (h0 : 0 ≤ x) (h1 : x < n) (hn : n < 2147483648) (hdg : decode cc pc = .ok (.baload, 1))
    (kk : W p l e R s m args below meth c H locs cells slots Q (F0 m (pc + 1) ls (ji (mI M a x.toNat) :: rest))) : W p l e R s m args below meth c H locs cells slots Q (F0 m pc ls (ji x :: .ref a :: rest)) := by
  obtain ⟨hin, hcl⟩ := tm_ix h0 h1 hn
  have hlt : x.toNat < n := by omega
  exact W.bald (v := ji (mI M a x.toNat)) hexec hb (tm_arr hW hq (by decide)) ((hK.2 2 _ rfl).1 n (tm_V 22 M a)) (fun q => by cases q) (by rw [arrV_size]; exact hin) (by rw [hcl, arrV_read _ _ hlt]; exact congrArg some (tm_V0 rfl M a)) rfl rfl hdg kk
theorem tm_zald (hexec : p.tables.exec = Jvm.exec) (hb : c.code = cc) (hK : va_K G.1 vwCl (tm_tys G) s) (hW : tm_W G Hb sh M H) (hq : sh a = some (23, n)) {x : Int} (h0 : 0 ≤ x) (h1 : x < n) (hn : n < 2147483648) (hdg : decode cc pc = .ok (.baload, 1))
    (kk : W p l e R s m args below meth c H locs cells slots Q (F0 m (pc + 1) ls (ji (mI M a x.toNat) :: rest))) : W p l e R s m args below meth c H locs cells slots Q (F0 m pc ls (ji x :: .ref a :: rest)) := by
  obtain ⟨hin, hcl⟩ := tm_ix h0 h1 hn
  have hlt : x.toNat < n := by omega
  exact W.zald (v := ji (mI M a x.toNat)) hexec hb (tm_arr hW hq (by decide)) ((hK.2 3 _ rfl).1 n (tm_V 23 M a)) (fun q => by cases q) (by rw [arrV_size]; exact hin) (by rw [hcl, arrV_read _ _ hlt]; exact congrArg some (tm_V0 rfl M a)) rfl rfl hdg kk
theorem tm_aaldS (hexec : p.tables.exec = Jvm.exec) (hb : c.code = cc) (hK : va_K G.1 vwCl (tm_tys G) s) (hW : tm_W G Hb sh M H) (hq : sh a = some (24, n)) {x : Int} (h0 : 0 ≤ x) (h1 : x < n) (hn : n < 2147483648) {b : Nat} (hr : mR M a x.toNat = some b) (hdg : decode cc pc = .ok (.aaload, 1))
    (kk : W p l e R s m args below meth c H locs cells slots Q (F0 m (pc + 1) ls (.ref b :: rest))) : W p l e R s m args below meth c H locs cells slots Q (F0 m pc ls (ji x :: .ref a :: rest)) := by
  obtain ⟨hin, hcl⟩ := tm_ix h0 h1 hn
  have hlt : x.toNat < n := by omega
  exact W.aald (v := .ref b) (ty := .object "TutorLines$Side") hexec hb (tm_arr hW hq (by decide)) ((hK.2 4 _ rfl).1 n (tm_V 24 M a)) rfl (fun q => by cases q) (by rw [arrV_size]; exact hin) (by rw [hcl, arrV_read _ _ hlt]; exact congrArg some ((tm_V2 rfl M a).trans (by rw [hr]; rfl))) rfl rfl hdg kk
theorem tm_aaldL (hexec : p.tables.exec = Jvm.exec) (hb : c.code = cc) (hK : va_K G.1 vwCl (tm_tys G) s) (hW : tm_W G Hb sh M H) (hq : sh a = some (25, n)) {x : Int} (h0 : 0 ≤ x) (h1 : x < n) (hn : n < 2147483648) {b : Nat} (hr : mR M a x.toNat = some b) (hdg : decode cc pc = .ok (.aaload, 1))
    (kk : W p l e R s m args below meth c H locs cells slots Q (F0 m (pc + 1) ls (.ref b :: rest))) : W p l e R s m args below meth c H locs cells slots Q (F0 m pc ls (ji x :: .ref a :: rest)) := by
  obtain ⟨hin, hcl⟩ := tm_ix h0 h1 hn
  have hlt : x.toNat < n := by omega
  exact W.aald (v := .ref b) (ty := .object "TutorLines$Line") hexec hb (tm_arr hW hq (by decide)) ((hK.2 5 _ rfl).1 n (tm_V 25 M a)) rfl (fun q => by cases q) (by rw [arrV_size]; exact hin) (by rw [hcl, arrV_read _ _ hlt]; exact congrArg some ((tm_V2 rfl M a).trans (by rw [hr]; rfl))) rfl rfl hdg kk
theorem tm_iast (hexec : p.tables.exec = Jvm.exec) (hb : c.code = cc) (hK : va_K G.1 vwCl (tm_tys G) s) (hW : tm_W G Hb sh M H) (hS : va_S (tm_A Hb) H0 H locs) (hq : sh a = some (20, n)) {x v : Int} (h0 : 0 ≤ x) (h1 : x < n) (hn : n < 2147483648) (hdg : decode cc pc = .ok (.iastore, 1))
    (kk : ∀ (H1 : Heap) (locs1 : List Loc), tm_W G Hb sh (sI M a x.toNat v) H1 → va_S (tm_A Hb) H0 H1 locs1 → W p l e R s m args below meth c H1 locs1 cells slots Q (F0 m (pc + 1) ls (rest))) : W p l e R s m args below meth c H locs cells slots Q (F0 m pc ls (ji v :: ji x :: .ref a :: rest)) := by
  obtain ⟨hin, hcl⟩ := tm_ix h0 h1 hn
  refine W.iast hexec hb (tm_arr hW hq (by decide)) ((hK.2 0 _ rfl).1 n (tm_V 20 M a)) (fun q => by cases q) (by rw [arrV_size]; exact hin) rfl rfl hdg fun H1 e1 z oq => ?_
  exact kk H1 _ (hW.setA hq (by decide) e1 oq (by rw [hcl]; exact (tm_V0 rfl _ a).trans (by rw [show mI (sI M a x.toNat v) a x.toNat = v from tm_up_s _ _ _ _])) (fun kd q j h => tm_V_sI (by rw [← hcl]; exact h))) (hS.put z oq (hW.1 a _ _ hq).1)
theorem tm_last (hexec : p.tables.exec = Jvm.exec) (hb : c.code = cc) (hK : va_K G.1 vwCl (tm_tys G) s) (hW : tm_W G Hb sh M H) (hS : va_S (tm_A Hb) H0 H locs) (hq : sh a = some (21, n)) {x v : Int} (h0 : 0 ≤ x) (h1 : x < n) (hn : n < 2147483648) (hdg : decode cc pc = .ok (.lastore, 1))
    (kk : ∀ (H1 : Heap) (locs1 : List Loc), tm_W G Hb sh (sL M a x.toNat v) H1 → va_S (tm_A Hb) H0 H1 locs1 → W p l e R s m args below meth c H1 locs1 cells slots Q (F0 m (pc + 1) ls (rest))) : W p l e R s m args below meth c H locs cells slots Q (F0 m pc ls (jl v :: ji x :: .ref a :: rest)) := by
  obtain ⟨hin, hcl⟩ := tm_ix h0 h1 hn
  refine W.last hexec hb (tm_arr hW hq (by decide)) ((hK.2 1 _ rfl).1 n (tm_V 21 M a)) (fun q => by cases q) (by rw [arrV_size]; exact hin) rfl rfl hdg fun H1 e1 z oq => ?_
  exact kk H1 _ (hW.setA hq (by decide) e1 oq (by rw [hcl]; exact (tm_V1 rfl _ a).trans (by rw [show mL (sL M a x.toNat v) a x.toNat = v from tm_up_s _ _ _ _])) (fun kd q j h => tm_V_sL (by rw [← hcl]; exact h))) (hS.put z oq (hW.1 a _ _ hq).1)
theorem tm_bast (hexec : p.tables.exec = Jvm.exec) (hb : c.code = cc) (hK : va_K G.1 vwCl (tm_tys G) s) (hW : tm_W G Hb sh M H) (hS : va_S (tm_A Hb) H0 H locs) (hq : sh a = some (22, n)) {x v : Int} (h0 : 0 ≤ x) (h1 : x < n) (hn : n < 2147483648) (hv : -128 ≤ v ∧ v < 128) (hdg : decode cc pc = .ok (.bastore, 1))
    (kk : ∀ (H1 : Heap) (locs1 : List Loc), tm_W G Hb sh (sI M a x.toNat v) H1 → va_S (tm_A Hb) H0 H1 locs1 → W p l e R s m args below meth c H1 locs1 cells slots Q (F0 m (pc + 1) ls (rest))) : W p l e R s m args below meth c H locs cells slots Q (F0 m pc ls (ji v :: ji x :: .ref a :: rest)) := by
  obtain ⟨hin, hcl⟩ := tm_ix h0 h1 hn
  have hnar : narrow .byte (.int (Int32.ofInt v)) = .int (Int32.ofInt v) := tm_nb hv
  refine W.bast hexec hb (tm_arr hW hq (by decide)) ((hK.2 2 _ rfl).1 n (tm_V 22 M a)) (fun q => by cases q) (by rw [arrV_size]; exact hin) rfl rfl hdg fun H1 e1 z oq => ?_
  exact kk H1 _ (hW.setA hq (by decide) e1 oq (by rw [hcl]; refine (tm_V0 rfl _ a).trans ?_; rw [show mI (sI M a x.toNat v) a x.toNat = v from tm_up_s _ _ _ _]; exact hnar.symm) (fun kd q j h => tm_V_sI (by rw [← hcl]; exact h))) (hS.put z oq (hW.1 a _ _ hq).1)
theorem tm_zast (hexec : p.tables.exec = Jvm.exec) (hb : c.code = cc) (hK : va_K G.1 vwCl (tm_tys G) s) (hW : tm_W G Hb sh M H) (hS : va_S (tm_A Hb) H0 H locs) (hq : sh a = some (23, n)) {x v : Int} (h0 : 0 ≤ x) (h1 : x < n) (hn : n < 2147483648) (hv : v = 0 ∨ v = 1) (hdg : decode cc pc = .ok (.bastore, 1))
    (kk : ∀ (H1 : Heap) (locs1 : List Loc), tm_W G Hb sh (sI M a x.toNat v) H1 → va_S (tm_A Hb) H0 H1 locs1 → W p l e R s m args below meth c H1 locs1 cells slots Q (F0 m (pc + 1) ls (rest))) : W p l e R s m args below meth c H locs cells slots Q (F0 m pc ls (ji v :: ji x :: .ref a :: rest)) := by
  obtain ⟨hin, hcl⟩ := tm_ix h0 h1 hn
  have hnar : narrow .boolean (.int (Int32.ofInt v)) = .int (Int32.ofInt v) := tm_nz hv
  refine W.zast hexec hb (tm_arr hW hq (by decide)) ((hK.2 3 _ rfl).1 n (tm_V 23 M a)) (fun q => by cases q) (by rw [arrV_size]; exact hin) rfl rfl hdg fun H1 e1 z oq => ?_
  exact kk H1 _ (hW.setA hq (by decide) e1 oq (by rw [hcl]; refine (tm_V0 rfl _ a).trans ?_; rw [show mI (sI M a x.toNat v) a x.toNat = v from tm_up_s _ _ _ _]; exact hnar.symm) (fun kd q j h => tm_V_sI (by rw [← hcl]; exact h))) (hS.put z oq (hW.1 a _ _ hq).1)
end TMS
end
section
/-! the instructions on whole numbers, said over Int: an int is Int32.ofInt of a number, a long Int64.ofInt -/
abbrev inI (x : Int) : Prop := -2147483648 ≤ x ∧ x < 2147483648
abbrev inL (x : Int) : Prop := -9223372036854775808 ≤ x ∧ x < 9223372036854775808
theorem tn_i {x : Int} (h : inI x) : (Int32.ofInt x).toInt = x := Int32.toInt_ofInt_of_le (by have := h.1; omega) (by have := h.2; omega)
theorem tn_l {x : Int} (h : inL x) : (Int64.ofInt x).toInt = x := Int64.toInt_ofInt_of_le (by have := h.1; omega) (by have := h.2; omega)
theorem tn_ieq {x y : Int} (hx : inI x) (hy : inI y) : Int32.ofInt x = Int32.ofInt y ↔ x = y := by rw [← Int32.toInt_inj, tn_i hx, tn_i hy]
theorem tn_ile {x y : Int} (hx : inI x) (hy : inI y) : Int32.ofInt x ≤ Int32.ofInt y ↔ x ≤ y := by rw [Int32.le_iff_toInt_le, tn_i hx, tn_i hy]
theorem tn_ilt {x y : Int} (hx : inI x) (hy : inI y) : Int32.ofInt x < Int32.ofInt y ↔ x < y := by rw [Int32.lt_iff_toInt_lt, tn_i hx, tn_i hy]
theorem tn_leq {x y : Int} (hx : inL x) (hy : inL y) : Int64.ofInt x = Int64.ofInt y ↔ x = y := by rw [← Int64.toInt_inj, tn_l hx, tn_l hy]
theorem tn_lle {x y : Int} (hx : inL x) (hy : inL y) : Int64.ofInt x ≤ Int64.ofInt y ↔ x ≤ y := by rw [Int64.le_iff_toInt_le, tn_l hx, tn_l hy]
theorem tn_llt {x y : Int} (hx : inL x) (hy : inL y) : Int64.ofInt x < Int64.ofInt y ↔ x < y := by rw [Int64.lt_iff_toInt_lt, tn_l hx, tn_l hy]
theorem tn_i0 : (0 : Int32) = Int32.ofInt 0 := rfl
theorem tn_ldiv {x y : Int} (hx : inL x) (hy : inL y) : Int64.ofInt x / Int64.ofInt y = Int64.ofInt (x.tdiv y) := by
  have e1 : Int64.minValue.toInt = -9223372036854775808 := by decide
  have e2 : Int64.maxValue.toInt = 9223372036854775807 := by decide
  exact (Int64.ofInt_tdiv (by rw [e1]; exact hx.1) (by rw [e2]; have := hx.2; omega) (by rw [e1]; exact hy.1) (by rw [e2]; have := hy.2; omega)).symm
theorem tn_idiv {x y : Int} (hx : inI x) (hy : inI y) : Int32.ofInt x / Int32.ofInt y = Int32.ofInt (x.tdiv y) := by
  have e1 : Int32.minValue.toInt = -2147483648 := by decide
  have e2 : Int32.maxValue.toInt = 2147483647 := by decide
  exact (Int32.ofInt_tdiv (by rw [e1]; exact hx.1) (by rw [e2]; have := hx.2; omega) (by rw [e1]; exact hy.1) (by rw [e2]; have := hy.2; omega)).symm
theorem tn_lrem {x y : Int} (hx : inL x) (hy : inL y) : Int64.ofInt x - Int64.ofInt x / Int64.ofInt y * Int64.ofInt y = Int64.ofInt (x.tmod y) := by
  rw [tn_ldiv hx hy, ← Int64.ofInt_mul, ← Int64.ofInt_sub]
  congr 1
  have := Int.mul_tdiv_add_tmod x y
  rw [Int.mul_comm] at this
  omega
theorem tn_irem {x y : Int} (hx : inI x) (hy : inI y) : Int32.ofInt x - Int32.ofInt x / Int32.ofInt y * Int32.ofInt y = Int32.ofInt (x.tmod y) := by
  rw [tn_idiv hx hy, ← Int32.ofInt_mul, ← Int32.ofInt_sub]
  congr 1
  have := Int.mul_tdiv_add_tmod x y
  rw [Int.mul_comm] at this
  omega
theorem tn_i2l {x : Int} (hx : inI x) : (Int32.ofInt x).toInt64 = Int64.ofInt x := by
  rw [← Int64.ofInt_int32ToInt, tn_i hx]
theorem tn_l2i {x : Int} (hx : inI x) : (Int64.ofInt x).toInt32 = Int32.ofInt x := by
  apply Int32.toInt_inj.mp
  rw [Int64.toInt_toInt32, tn_l ⟨by have := hx.1; omega, by have := hx.2; omega⟩, tn_i hx]
  exact Int.bmod_eq_of_le (by have := hx.1; omega) (by have := hx.2; omega)
section TMI
variable {p : Program} {l : Launch} {e : Env} {R : Room} {s : State} {m : MethodId} {args : Array Value} {below : List Frame} {meth : Method} {c : Code} {H : Heap} {locs : List Loc} {cells slots : Nat} {Q : State → Prop}
variable {cc : ByteArray} {pc : Nat} {ls : Array Slot} {rest : List Value}
theorem ti_iconst (hexec : p.tables.exec = Jvm.exec) (hb : c.code = cc) {n : Int} (hdg : decode cc pc = .ok (.iconst n, 1)) (k : W p l e R s m args below meth c H locs cells slots Q (F0 m (pc + 1) ls (ji n :: rest))) : W p l e R s m args below meth c H locs cells slots Q (F0 m pc ls (rest)) := lv_iconst hexec hb hdg rfl k
theorem ti_bipush (hexec : p.tables.exec = Jvm.exec) (hb : c.code = cc) {n : Int} (hdg : decode cc pc = .ok (.bipush n, 2)) (hv : (Int8.ofInt n).toInt32 = Int32.ofInt n) (k : W p l e R s m args below meth c H locs cells slots Q (F0 m (pc + 2) ls (ji n :: rest))) : W p l e R s m args below meth c H locs cells slots Q (F0 m pc ls (rest)) := lv_bipush hexec hb hdg hv k
theorem ti_sipush (hexec : p.tables.exec = Jvm.exec) (hb : c.code = cc) {n : Int} (hdg : decode cc pc = .ok (.sipush n, 3)) (hv : (Int16.ofInt n).toInt32 = Int32.ofInt n) (k : W p l e R s m args below meth c H locs cells slots Q (F0 m (pc + 3) ls (ji n :: rest))) : W p l e R s m args below meth c H locs cells slots Q (F0 m pc ls (rest)) := lv_sipush hexec hb hdg hv k
theorem ti_lconst0 (hexec : p.tables.exec = Jvm.exec) (hb : c.code = cc) (hdg : decode cc pc = .ok (.lconst 0, 1)) (k : W p l e R s m args below meth c H locs cells slots Q (F0 m (pc + 1) ls (jl 0 :: rest))) : W p l e R s m args below meth c H locs cells slots Q (F0 m pc ls (rest)) := lv_lconst hexec hb hdg rfl k
theorem ti_lconst1 (hexec : p.tables.exec = Jvm.exec) (hb : c.code = cc) (hdg : decode cc pc = .ok (.lconst 1, 1)) (k : W p l e R s m args below meth c H locs cells slots Q (F0 m (pc + 1) ls (jl 1 :: rest))) : W p l e R s m args below meth c H locs cells slots Q (F0 m pc ls (rest)) := lv_lconst hexec hb hdg rfl k
theorem ti_iadd (hexec : p.tables.exec = Jvm.exec) (hb : c.code = cc) {x y : Int} (hdg : decode cc pc = .ok (.iadd, 1)) (k : W p l e R s m args below meth c H locs cells slots Q (F0 m (pc + 1) ls (ji (x + y) :: rest))) : W p l e R s m args below meth c H locs cells slots Q (F0 m pc ls (ji y :: ji x :: rest)) := lv_iadd hexec hb hdg (by rw [← Int32.ofInt_add]; exact k)
theorem ti_ladd (hexec : p.tables.exec = Jvm.exec) (hb : c.code = cc) {x y : Int} (hdg : decode cc pc = .ok (.ladd, 1)) (k : W p l e R s m args below meth c H locs cells slots Q (F0 m (pc + 1) ls (jl (x + y) :: rest))) : W p l e R s m args below meth c H locs cells slots Q (F0 m pc ls (jl y :: jl x :: rest)) := lv_ladd hexec hb hdg (by rw [← Int64.ofInt_add]; exact k)
theorem ti_isub (hexec : p.tables.exec = Jvm.exec) (hb : c.code = cc) {x y : Int} (hdg : decode cc pc = .ok (.isub, 1)) (k : W p l e R s m args below meth c H locs cells slots Q (F0 m (pc + 1) ls (ji (x - y) :: rest))) : W p l e R s m args below meth c H locs cells slots Q (F0 m pc ls (ji y :: ji x :: rest)) := lv_isub hexec hb hdg (by rw [← Int32.ofInt_sub]; exact k)
theorem ti_lsub (hexec : p.tables.exec = Jvm.exec) (hb : c.code = cc) {x y : Int} (hdg : decode cc pc = .ok (.lsub, 1)) (k : W p l e R s m args below meth c H locs cells slots Q (F0 m (pc + 1) ls (jl (x - y) :: rest))) : W p l e R s m args below meth c H locs cells slots Q (F0 m pc ls (jl y :: jl x :: rest)) := lv_lsub hexec hb hdg (by rw [← Int64.ofInt_sub]; exact k)
theorem ti_imul (hexec : p.tables.exec = Jvm.exec) (hb : c.code = cc) {x y : Int} (hdg : decode cc pc = .ok (.imul, 1)) (k : W p l e R s m args below meth c H locs cells slots Q (F0 m (pc + 1) ls (ji (x * y) :: rest))) : W p l e R s m args below meth c H locs cells slots Q (F0 m pc ls (ji y :: ji x :: rest)) := lv_imul hexec hb hdg (by rw [← Int32.ofInt_mul]; exact k)
theorem ti_lmul (hexec : p.tables.exec = Jvm.exec) (hb : c.code = cc) {x y : Int} (hdg : decode cc pc = .ok (.lmul, 1)) (k : W p l e R s m args below meth c H locs cells slots Q (F0 m (pc + 1) ls (jl (x * y) :: rest))) : W p l e R s m args below meth c H locs cells slots Q (F0 m pc ls (jl y :: jl x :: rest)) := lv_lmul hexec hb hdg (by rw [← Int64.ofInt_mul]; exact k)
theorem ti_ineg (hexec : p.tables.exec = Jvm.exec) (hb : c.code = cc) {x : Int} (hdg : decode cc pc = .ok (.ineg, 1)) (k : W p l e R s m args below meth c H locs cells slots Q (F0 m (pc + 1) ls (ji (-x) :: rest))) : W p l e R s m args below meth c H locs cells slots Q (F0 m pc ls (ji x :: rest)) := lv_ineg hexec hb hdg (by rw [← Int32.ofInt_neg]; exact k)
theorem ti_idiv (hexec : p.tables.exec = Jvm.exec) (hb : c.code = cc) {x y : Int} (hdg : decode cc pc = .ok (.idiv, 1)) (hx : inI x) (hy : inI y) (h0 : y ≠ 0) (k : W p l e R s m args below meth c H locs cells slots Q (F0 m (pc + 1) ls (ji (x.tdiv y) :: rest))) : W p l e R s m args below meth c H locs cells slots Q (F0 m pc ls (ji y :: ji x :: rest)) := lv_idiv hexec hb hdg (fun h => h0 ((tn_ieq hy (by decide)).mp (h.trans rfl))) (by rw [tn_idiv hx hy]; exact k)
theorem ti_irem (hexec : p.tables.exec = Jvm.exec) (hb : c.code = cc) {x y : Int} (hdg : decode cc pc = .ok (.irem, 1)) (hx : inI x) (hy : inI y) (h0 : y ≠ 0) (k : W p l e R s m args below meth c H locs cells slots Q (F0 m (pc + 1) ls (ji (x.tmod y) :: rest))) : W p l e R s m args below meth c H locs cells slots Q (F0 m pc ls (ji y :: ji x :: rest)) := lv_irem hexec hb hdg (fun h => h0 ((tn_ieq hy (by decide)).mp (h.trans rfl))) (by rw [tn_irem hx hy]; exact k)
theorem ti_lneg (hexec : p.tables.exec = Jvm.exec) (hb : c.code = cc) {x : Int} (hdg : decode cc pc = .ok (.lneg, 1)) (k : W p l e R s m args below meth c H locs cells slots Q (F0 m (pc + 1) ls (jl (-x) :: rest))) : W p l e R s m args below meth c H locs cells slots Q (F0 m pc ls (jl x :: rest)) := lv_lneg hexec hb hdg (by rw [← Int64.ofInt_neg]; exact k)
theorem ti_ldiv (hexec : p.tables.exec = Jvm.exec) (hb : c.code = cc) {x y : Int} (hdg : decode cc pc = .ok (.ldiv, 1)) (hx : inL x) (hy : inL y) (h0 : y ≠ 0) (k : W p l e R s m args below meth c H locs cells slots Q (F0 m (pc + 1) ls (jl (x.tdiv y) :: rest))) : W p l e R s m args below meth c H locs cells slots Q (F0 m pc ls (jl y :: jl x :: rest)) := lv_ldiv hexec hb hdg (fun h => h0 ((tn_leq hy (by decide)).mp (h.trans rfl))) (by rw [tn_ldiv hx hy]; exact k)
theorem ti_lrem (hexec : p.tables.exec = Jvm.exec) (hb : c.code = cc) {x y : Int} (hdg : decode cc pc = .ok (.lrem, 1)) (hx : inL x) (hy : inL y) (h0 : y ≠ 0) (k : W p l e R s m args below meth c H locs cells slots Q (F0 m (pc + 1) ls (jl (x.tmod y) :: rest))) : W p l e R s m args below meth c H locs cells slots Q (F0 m pc ls (jl y :: jl x :: rest)) := lv_lrem hexec hb hdg (fun h => h0 ((tn_leq hy (by decide)).mp (h.trans rfl))) (by rw [tn_lrem hx hy]; exact k)
theorem ti_i2l (hexec : p.tables.exec = Jvm.exec) (hb : c.code = cc) {x : Int} (hdg : decode cc pc = .ok (.i2l, 1)) (hx : inI x) (k : W p l e R s m args below meth c H locs cells slots Q (F0 m (pc + 1) ls (jl x :: rest))) : W p l e R s m args below meth c H locs cells slots Q (F0 m pc ls (ji x :: rest)) := lv_i2l hexec hb hdg (tn_i2l hx) k
theorem ti_l2i (hexec : p.tables.exec = Jvm.exec) (hb : c.code = cc) {x : Int} (hdg : decode cc pc = .ok (.l2i, 1)) (hx : inI x) (k : W p l e R s m args below meth c H locs cells slots Q (F0 m (pc + 1) ls (ji x :: rest))) : W p l e R s m args below meth c H locs cells slots Q (F0 m pc ls (jl x :: rest)) := lv_l2i hexec hb hdg (tn_l2i hx) k
theorem ti_icmp_eq (hexec : p.tables.exec = Jvm.exec) (hb : c.code = cc) {x y : Int} {off : Int} {tgt : Nat} (hdg : decode cc pc = .ok (.if_icmp .eq off, 3)) (ht : (pc : Int) + off = (tgt : Int)) (hx : inI x) (hy : inI y) (kt : x = y → W p l e R s m args below meth c H locs cells slots Q (F0 m tgt ls (rest))) (kf : ¬ x = y → W p l e R s m args below meth c H locs cells slots Q (F0 m (pc + 3) ls (rest))) : W p l e R s m args below meth c H locs cells slots Q (F0 m pc ls (ji y :: ji x :: rest)) := lv_icmp_eq hexec hb hdg ht (fun h => kt ((tn_ieq hx hy).mp h)) (fun h => kf (fun z => h ((tn_ieq hx hy).mpr z)))
theorem ti_if_eq (hexec : p.tables.exec = Jvm.exec) (hb : c.code = cc) {x : Int} {off : Int} {tgt : Nat} (hdg : decode cc pc = .ok (.ifCond .eq off, 3)) (ht : (pc : Int) + off = (tgt : Int)) (hx : inI x) (kt : x = 0 → W p l e R s m args below meth c H locs cells slots Q (F0 m tgt ls (rest))) (kf : ¬ x = 0 → W p l e R s m args below meth c H locs cells slots Q (F0 m (pc + 3) ls (rest))) : W p l e R s m args below meth c H locs cells slots Q (F0 m pc ls (ji x :: rest)) := lv_if_eq hexec hb hdg ht (fun h => kt ((tn_ieq hx (by decide)).mp h)) (fun h => kf (fun z => h ((tn_ieq hx (by decide)).mpr z)))
theorem ti_icmp_ne (hexec : p.tables.exec = Jvm.exec) (hb : c.code = cc) {x y : Int} {off : Int} {tgt : Nat} (hdg : decode cc pc = .ok (.if_icmp .ne off, 3)) (ht : (pc : Int) + off = (tgt : Int)) (hx : inI x) (hy : inI y) (kt : ¬ x = y → W p l e R s m args below meth c H locs cells slots Q (F0 m tgt ls (rest))) (kf : x = y → W p l e R s m args below meth c H locs cells slots Q (F0 m (pc + 3) ls (rest))) : W p l e R s m args below meth c H locs cells slots Q (F0 m pc ls (ji y :: ji x :: rest)) := lv_icmp_ne hexec hb hdg ht (fun h => kt (fun z => h ((tn_ieq hx hy).mpr z))) (fun h => kf ((tn_ieq hx hy).mp h))
theorem ti_if_ne (hexec : p.tables.exec = Jvm.exec) (hb : c.code = cc) {x : Int} {off : Int} {tgt : Nat} (hdg : decode cc pc = .ok (.ifCond .ne off, 3)) (ht : (pc : Int) + off = (tgt : Int)) (hx : inI x) (kt : ¬ x = 0 → W p l e R s m args below meth c H locs cells slots Q (F0 m tgt ls (rest))) (kf : x = 0 → W p l e R s m args below meth c H locs cells slots Q (F0 m (pc + 3) ls (rest))) : W p l e R s m args below meth c H locs cells slots Q (F0 m pc ls (ji x :: rest)) := lv_if_ne hexec hb hdg ht (fun h => kt (fun z => h ((tn_ieq hx (by decide)).mpr z))) (fun h => kf ((tn_ieq hx (by decide)).mp h))
theorem ti_icmp_lt (hexec : p.tables.exec = Jvm.exec) (hb : c.code = cc) {x y : Int} {off : Int} {tgt : Nat} (hdg : decode cc pc = .ok (.if_icmp .lt off, 3)) (ht : (pc : Int) + off = (tgt : Int)) (hx : inI x) (hy : inI y) (kt : x < y → W p l e R s m args below meth c H locs cells slots Q (F0 m tgt ls (rest))) (kf : ¬ x < y → W p l e R s m args below meth c H locs cells slots Q (F0 m (pc + 3) ls (rest))) : W p l e R s m args below meth c H locs cells slots Q (F0 m pc ls (ji y :: ji x :: rest)) := lv_icmp_lt hexec hb hdg ht (fun h => kt ((tn_ilt hx hy).mp h)) (fun h => kf (fun z => h ((tn_ilt hx hy).mpr z)))
theorem ti_if_lt (hexec : p.tables.exec = Jvm.exec) (hb : c.code = cc) {x : Int} {off : Int} {tgt : Nat} (hdg : decode cc pc = .ok (.ifCond .lt off, 3)) (ht : (pc : Int) + off = (tgt : Int)) (hx : inI x) (kt : x < 0 → W p l e R s m args below meth c H locs cells slots Q (F0 m tgt ls (rest))) (kf : ¬ x < 0 → W p l e R s m args below meth c H locs cells slots Q (F0 m (pc + 3) ls (rest))) : W p l e R s m args below meth c H locs cells slots Q (F0 m pc ls (ji x :: rest)) := lv_if_lt hexec hb hdg ht (fun h => kt ((tn_ilt hx (by decide)).mp h)) (fun h => kf (fun z => h ((tn_ilt hx (by decide)).mpr z)))
theorem ti_icmp_ge (hexec : p.tables.exec = Jvm.exec) (hb : c.code = cc) {x y : Int} {off : Int} {tgt : Nat} (hdg : decode cc pc = .ok (.if_icmp .ge off, 3)) (ht : (pc : Int) + off = (tgt : Int)) (hx : inI x) (hy : inI y) (kt : y ≤ x → W p l e R s m args below meth c H locs cells slots Q (F0 m tgt ls (rest))) (kf : ¬ y ≤ x → W p l e R s m args below meth c H locs cells slots Q (F0 m (pc + 3) ls (rest))) : W p l e R s m args below meth c H locs cells slots Q (F0 m pc ls (ji y :: ji x :: rest)) := lv_icmp_ge hexec hb hdg ht (fun h => kt ((tn_ile hy hx).mp h)) (fun h => kf (fun z => h ((tn_ile hy hx).mpr z)))
theorem ti_if_ge (hexec : p.tables.exec = Jvm.exec) (hb : c.code = cc) {x : Int} {off : Int} {tgt : Nat} (hdg : decode cc pc = .ok (.ifCond .ge off, 3)) (ht : (pc : Int) + off = (tgt : Int)) (hx : inI x) (kt : 0 ≤ x → W p l e R s m args below meth c H locs cells slots Q (F0 m tgt ls (rest))) (kf : ¬ 0 ≤ x → W p l e R s m args below meth c H locs cells slots Q (F0 m (pc + 3) ls (rest))) : W p l e R s m args below meth c H locs cells slots Q (F0 m pc ls (ji x :: rest)) := lv_if_ge hexec hb hdg ht (fun h => kt ((tn_ile (by decide) hx).mp h)) (fun h => kf (fun z => h ((tn_ile (by decide) hx).mpr z)))
theorem ti_icmp_gt (hexec : p.tables.exec = Jvm.exec) (hb : c.code = cc) {x y : Int} {off : Int} {tgt : Nat} (hdg : decode cc pc = .ok (.if_icmp .gt off, 3)) (ht : (pc : Int) + off = (tgt : Int)) (hx : inI x) (hy : inI y) (kt : y < x → W p l e R s m args below meth c H locs cells slots Q (F0 m tgt ls (rest))) (kf : ¬ y < x → W p l e R s m args below meth c H locs cells slots Q (F0 m (pc + 3) ls (rest))) : W p l e R s m args below meth c H locs cells slots Q (F0 m pc ls (ji y :: ji x :: rest)) := lv_icmp_gt hexec hb hdg ht (fun h => kt ((tn_ilt hy hx).mp h)) (fun h => kf (fun z => h ((tn_ilt hy hx).mpr z)))
theorem ti_if_gt (hexec : p.tables.exec = Jvm.exec) (hb : c.code = cc) {x : Int} {off : Int} {tgt : Nat} (hdg : decode cc pc = .ok (.ifCond .gt off, 3)) (ht : (pc : Int) + off = (tgt : Int)) (hx : inI x) (kt : 0 < x → W p l e R s m args below meth c H locs cells slots Q (F0 m tgt ls (rest))) (kf : ¬ 0 < x → W p l e R s m args below meth c H locs cells slots Q (F0 m (pc + 3) ls (rest))) : W p l e R s m args below meth c H locs cells slots Q (F0 m pc ls (ji x :: rest)) := lv_if_gt hexec hb hdg ht (fun h => kt ((tn_ilt (by decide) hx).mp h)) (fun h => kf (fun z => h ((tn_ilt (by decide) hx).mpr z)))
theorem ti_icmp_le (hexec : p.tables.exec = Jvm.exec) (hb : c.code = cc) {x y : Int} {off : Int} {tgt : Nat} (hdg : decode cc pc = .ok (.if_icmp .le off, 3)) (ht : (pc : Int) + off = (tgt : Int)) (hx : inI x) (hy : inI y) (kt : x ≤ y → W p l e R s m args below meth c H locs cells slots Q (F0 m tgt ls (rest))) (kf : ¬ x ≤ y → W p l e R s m args below meth c H locs cells slots Q (F0 m (pc + 3) ls (rest))) : W p l e R s m args below meth c H locs cells slots Q (F0 m pc ls (ji y :: ji x :: rest)) := lv_icmp_le hexec hb hdg ht (fun h => kt ((tn_ile hx hy).mp h)) (fun h => kf (fun z => h ((tn_ile hx hy).mpr z)))
theorem ti_if_le (hexec : p.tables.exec = Jvm.exec) (hb : c.code = cc) {x : Int} {off : Int} {tgt : Nat} (hdg : decode cc pc = .ok (.ifCond .le off, 3)) (ht : (pc : Int) + off = (tgt : Int)) (hx : inI x) (kt : x ≤ 0 → W p l e R s m args below meth c H locs cells slots Q (F0 m tgt ls (rest))) (kf : ¬ x ≤ 0 → W p l e R s m args below meth c H locs cells slots Q (F0 m (pc + 3) ls (rest))) : W p l e R s m args below meth c H locs cells slots Q (F0 m pc ls (ji x :: rest)) := lv_if_le hexec hb hdg ht (fun h => kt ((tn_ile hx (by decide)).mp h)) (fun h => kf (fun z => h ((tn_ile hx (by decide)).mpr z)))
end TMI
theorem ti_c0 (x y : Int64) : lg_cmp x y = 0 ↔ x = y := by
  unfold lg_cmp
  by_cases h1 : x > y
  · rw [if_pos h1]
    refine ⟨fun h => absurd h (by decide), fun h => ?_⟩
    subst h
    exact absurd h1 (Int64.lt_irrefl)
  · rw [if_neg h1]
    by_cases h2 : x = y
    · rw [if_pos h2]; exact ⟨fun _ => h2, fun _ => rfl⟩
    · rw [if_neg h2]; exact ⟨fun h => absurd h (by decide), fun h => absurd h h2⟩
theorem ti_cge (x y : Int64) : 0 ≤ lg_cmp x y ↔ y ≤ x := lg_cmp_ge x y
theorem ti_cle (x y : Int64) : lg_cmp x y ≤ 0 ↔ x ≤ y := lg_cmp_le x y
theorem ti_clt (x y : Int64) : lg_cmp x y < 0 ↔ x < y := by
  rw [← Int32.not_le, ← Int64.not_le, lg_cmp_ge]
theorem ti_cgt (x y : Int64) : 0 < lg_cmp x y ↔ y < x := by
  rw [← Int32.not_le, ← Int64.not_le, lg_cmp_le]
section TMJ
variable {p : Program} {l : Launch} {e : Env} {R : Room} {s : State} {m : MethodId} {args : Array Value} {below : List Frame} {meth : Method} {c : Code} {H : Heap} {locs : List Loc} {cells slots : Nat} {Q : State → Prop}
variable {cc : ByteArray} {pc : Nat} {ls : Array Slot} {rest : List Value}
theorem ti_lcmp_eq (hexec : p.tables.exec = Jvm.exec) (hb : c.code = cc) {x y : Int} {off : Int} {tgt : Nat} (hd1 : decode cc pc = .ok (.lcmp, 1)) (hd2 : decode cc (pc + 1) = .ok (.ifCond .eq off, 3)) (ht : ((pc + 1 : Nat) : Int) + off = (tgt : Int)) (hx : inL x) (hy : inL y) (kt : x = y → W p l e R s m args below meth c H locs cells slots Q (F0 m tgt ls (rest))) (kf : ¬ x = y → W p l e R s m args below meth c H locs cells slots Q (F0 m (pc + 1 + 3) ls (rest))) : W p l e R s m args below meth c H locs cells slots Q (F0 m pc ls (jl y :: jl x :: rest)) := W.lcmp hexec hb hd1 (lv_if_eq hexec hb hd2 ht (fun h => kt (((ti_c0 _ _).trans (tn_leq hx hy)).mp h)) (fun h => kf (fun z => h (((ti_c0 _ _).trans (tn_leq hx hy)).mpr z))))
theorem ti_lcmp_ne (hexec : p.tables.exec = Jvm.exec) (hb : c.code = cc) {x y : Int} {off : Int} {tgt : Nat} (hd1 : decode cc pc = .ok (.lcmp, 1)) (hd2 : decode cc (pc + 1) = .ok (.ifCond .ne off, 3)) (ht : ((pc + 1 : Nat) : Int) + off = (tgt : Int)) (hx : inL x) (hy : inL y) (kt : ¬ x = y → W p l e R s m args below meth c H locs cells slots Q (F0 m tgt ls (rest))) (kf : x = y → W p l e R s m args below meth c H locs cells slots Q (F0 m (pc + 1 + 3) ls (rest))) : W p l e R s m args below meth c H locs cells slots Q (F0 m pc ls (jl y :: jl x :: rest)) := W.lcmp hexec hb hd1 (lv_if_ne hexec hb hd2 ht (fun h => kt (fun z => h (((ti_c0 _ _).trans (tn_leq hx hy)).mpr z))) (fun h => kf (((ti_c0 _ _).trans (tn_leq hx hy)).mp h)))
theorem ti_lcmp_lt (hexec : p.tables.exec = Jvm.exec) (hb : c.code = cc) {x y : Int} {off : Int} {tgt : Nat} (hd1 : decode cc pc = .ok (.lcmp, 1)) (hd2 : decode cc (pc + 1) = .ok (.ifCond .lt off, 3)) (ht : ((pc + 1 : Nat) : Int) + off = (tgt : Int)) (hx : inL x) (hy : inL y) (kt : x < y → W p l e R s m args below meth c H locs cells slots Q (F0 m tgt ls (rest))) (kf : ¬ x < y → W p l e R s m args below meth c H locs cells slots Q (F0 m (pc + 1 + 3) ls (rest))) : W p l e R s m args below meth c H locs cells slots Q (F0 m pc ls (jl y :: jl x :: rest)) := W.lcmp hexec hb hd1 (lv_if_lt hexec hb hd2 ht (fun h => kt (((ti_clt _ _).trans (tn_llt hx hy)).mp h)) (fun h => kf (fun z => h (((ti_clt _ _).trans (tn_llt hx hy)).mpr z))))
theorem ti_lcmp_ge (hexec : p.tables.exec = Jvm.exec) (hb : c.code = cc) {x y : Int} {off : Int} {tgt : Nat} (hd1 : decode cc pc = .ok (.lcmp, 1)) (hd2 : decode cc (pc + 1) = .ok (.ifCond .ge off, 3)) (ht : ((pc + 1 : Nat) : Int) + off = (tgt : Int)) (hx : inL x) (hy : inL y) (kt : y ≤ x → W p l e R s m args below meth c H locs cells slots Q (F0 m tgt ls (rest))) (kf : ¬ y ≤ x → W p l e R s m args below meth c H locs cells slots Q (F0 m (pc + 1 + 3) ls (rest))) : W p l e R s m args below meth c H locs cells slots Q (F0 m pc ls (jl y :: jl x :: rest)) := W.lcmp hexec hb hd1 (lv_if_ge hexec hb hd2 ht (fun h => kt (((ti_cge _ _).trans (tn_lle hy hx)).mp h)) (fun h => kf (fun z => h (((ti_cge _ _).trans (tn_lle hy hx)).mpr z))))
theorem ti_lcmp_gt (hexec : p.tables.exec = Jvm.exec) (hb : c.code = cc) {x y : Int} {off : Int} {tgt : Nat} (hd1 : decode cc pc = .ok (.lcmp, 1)) (hd2 : decode cc (pc + 1) = .ok (.ifCond .gt off, 3)) (ht : ((pc + 1 : Nat) : Int) + off = (tgt : Int)) (hx : inL x) (hy : inL y) (kt : y < x → W p l e R s m args below meth c H locs cells slots Q (F0 m tgt ls (rest))) (kf : ¬ y < x → W p l e R s m args below meth c H locs cells slots Q (F0 m (pc + 1 + 3) ls (rest))) : W p l e R s m args below meth c H locs cells slots Q (F0 m pc ls (jl y :: jl x :: rest)) := W.lcmp hexec hb hd1 (lv_if_gt hexec hb hd2 ht (fun h => kt (((ti_cgt _ _).trans (tn_llt hy hx)).mp h)) (fun h => kf (fun z => h (((ti_cgt _ _).trans (tn_llt hy hx)).mpr z))))
theorem ti_lcmp_le (hexec : p.tables.exec = Jvm.exec) (hb : c.code = cc) {x y : Int} {off : Int} {tgt : Nat} (hd1 : decode cc pc = .ok (.lcmp, 1)) (hd2 : decode cc (pc + 1) = .ok (.ifCond .le off, 3)) (ht : ((pc + 1 : Nat) : Int) + off = (tgt : Int)) (hx : inL x) (hy : inL y) (kt : x ≤ y → W p l e R s m args below meth c H locs cells slots Q (F0 m tgt ls (rest))) (kf : ¬ x ≤ y → W p l e R s m args below meth c H locs cells slots Q (F0 m (pc + 1 + 3) ls (rest))) : W p l e R s m args below meth c H locs cells slots Q (F0 m pc ls (jl y :: jl x :: rest)) := W.lcmp hexec hb hd1 (lv_if_le hexec hb hd2 ht (fun h => kt (((ti_cle _ _).trans (tn_lle hx hy)).mp h)) (fun h => kf (fun z => h (((ti_cle _ _).trans (tn_lle hx hy)).mpr z))))
end TMJ
end
section
/-! contracts over my memory: one list of words for all methods; a method's begin, its ends, its calls -/
def tw : List Cond := lw_tbl.filter goodWord
abbrev tws (y : MethodName) (b : ByteArray) (n : Nat) (r : Option FieldType) : List Cond := Cond.code y b n r :: tw
theorem tw_in {w : Cond} (i : Nat) (h : tables_1[i]? = some w) (hg : goodWord w = true) : w ∈ tw := List.mem_filter.mpr ⟨List.mem_append_right _ (List.mem_of_getElem? h), hg⟩
theorem tw_pv {w : Cond} (i : Nat) (h : (k2_sels lw_privs)[i]? = some w) (hg : goodWord w = true) : w ∈ tw := List.mem_filter.mpr ⟨List.mem_append_left _ (List.mem_of_getElem? h), hg⟩
theorem tw_gd {w : Cond} (h : w ∈ tw) : w ∈ tw ∧ ((w.onTables && w.keeps) = true ∨ ∃ ty, w = .arrayClass ty) := ⟨h, good_of_word (List.mem_filter.mp h).2⟩
theorem tw_cs {y : MethodName} {b : ByteArray} {n : Nat} {r : Option FieldType} (h : Cond.code y b n r ∈ tw) : ∀ w ∈ tws y b n r, w ∈ tw := fun w hw => by
  rcases List.mem_cons.mp hw with e | e
  · rw [e]; exact h
  · exact e
theorem tw_V {own C : String} {idx : Nat} {y : MethodName} {b : ByteArray} {n : Nat} {r : Option FieldType} (h1 : Cond.methodLink own idx y ∈ tw) (h2 : Cond.instanceMethod y ∈ tw) (h3 : Cond.selects C y y ∈ tw) (h4 : Cond.initialized C ∈ tw) (h5 : Cond.code y b n r ∈ tw) : GoodIn tw (wsV own idx C y (tws y b n r)) := fun w hw => by
  refine tw_gd ?_
  unfold wsV at hw
  rcases List.mem_append.mp hw with e | e
  · simp only [List.mem_cons, List.not_mem_nil, or_false] at e
    rcases e with e | e | e | e <;> rw [e] <;> assumption
  · exact tw_cs h5 w e
theorem tw_C {y : MethodName} {b : ByteArray} {n : Nat} {r : Option FieldType} (h5 : Cond.code y b n r ∈ tw) : GoodIn tw (tws y b n r) := fun w hw => tw_gd (tw_cs h5 w hw)
def tm_St (G : tm_G) (Hb : Heap) (sh : tm_sh) (M : tm_M) (U : State) : Prop := va_K G.1 vwCl (tm_tys G) U ∧ tm_W G Hb sh M U.heap
theorem tm_blind {G : tm_G} {Hb : Heap} {sh : tm_sh} {M : tm_M} {av : List Value} : FrameBlind (va_Pc av (tm_St G Hb sh M)) := fun a U g mk q => ⟨q.1, va_K.moved (u := U) (U := U.calling g mk a) (Vm.Alike.refl U.vm) q.2.1, q.2.2⟩
/-- what comes back: nothing, an int, a long, a reference; the memory behind it -/
abbrev tm_Qv (G : tm_G) (Hb : Heap) (sh : tm_sh) (P : tm_M → Prop) : Array Value → State → Outcome → State → Prop := va_Qv P (fun M t => tm_St G Hb sh M t) (tm_A Hb)
abbrev tm_Qi (G : tm_G) (Hb : Heap) (sh : tm_sh) (P : Int → tm_M → Prop) : Array Value → State → Outcome → State → Prop := va_Qi (fun r M => ∃ x : Int, r = Int32.ofInt x ∧ P x M) (fun M t => tm_St G Hb sh M t) (tm_A Hb)
abbrev tm_Ql (G : tm_G) (Hb : Heap) (sh : tm_sh) (P : Int → tm_M → Prop) : Array Value → State → Outcome → State → Prop := va_Ql (fun r M => ∃ x : Int, r = Int64.ofInt x ∧ P x M) (fun M t => tm_St G Hb sh M t) (tm_A Hb)
abbrev tm_Qa (G : tm_G) (Hb : Heap) (sh : tm_sh) (P : Nat → tm_M → Prop) : Array Value → State → Outcome → State → Prop := va_Qr (S := Nat × tm_M) (fun u => P u.1 u.2) (fun u a t => a = u.1 ∧ tm_St G Hb sh u.2 t) (tm_A Hb)
/-- a method's begin -/
theorem tm_begin {l : Launch} {y : MethodName} {cc : ByteArray} {maxL : Nat} {ret : Option FieldType} {rm : Room} {av : List Value} {G : tm_G} {Hb : Heap} {sh : tm_sh} {M : tm_M} {Qc : Array Value → State → Outcome → State → Prop} {mc ms : Nat} {free : Addr → Prop} (hy : plainName y.cls = true) (hlen : (lg_sl av).length ≤ maxL)
    (body : ∀ (p : Program) (e : Env) (s : State) (m : MethodId) (below : List Frame) (meth : Method) (c : Code) (ls : Array Slot), p.tables.exec = Jvm.exec → c.code = cc → meth.sig.returnType = ret → c.maxLocals = maxL → s.vm.findClass y.cls = some m.cls → (∀ w ∈ tw, w.before av.toArray s = true) → meth.locks = false → meth.name = y.name → va_K G.1 vwCl (tm_tys G) s → tm_W G Hb sh M s.heap → lv_has ls maxL (lv_args 0 av) →
      W p l e rm s m av.toArray below meth c s.heap [] 0 0 (MQ below Qc av.toArray s mc ms free) (F0 m 0 ls [])) : Met l y (tws y cc maxL ret) rm (va_Pc av (tm_St G Hb sh M)) Qc mc ms free := by
  refine Met.ofW (cc := cc) (maxL := maxL) (ret := ret) hy rfl ?_
  intro p e s m args below meth c s₁ B hml hv
  obtain ⟨rfl, hK, hW⟩ := hv
  have hts := atoms_spec (ws := tws y cc maxL ret) B.pre
  have hl := lv_entry av (n := maxL) hlen
  rw [lg_entry_eq]
  exact body p e s m below meth c _ B.exec B.bytes B.returns hml (findClass_of_methodNamed B.named) (fun w hw => hts w (List.mem_cons_of_mem _ hw)) B.notSynchronized (name_of_methodNamed B.named B.method).1 hK hW hl
section TMC
variable {p : Program} {l : Launch} {e : Env} {R : Room} {s : State} {m : MethodId} {args : Array Value} {below : List Frame} {meth : Method} {c : Code} {H : Heap} {locs : List Loc} {cells slots : Nat} {Q : State → Prop}
variable {cc : ByteArray} {pc : Nat} {ls : Array Slot} {rest st0 : List Value} {G : tm_G} {Hb H0 : Heap} {sh : tm_sh} {M : tm_M} {b kd n0 : Nat} {tys : List (ClassId × FieldType)} {mc ms : Nat} {a : Array Value}
theorem tm_vret (hexec : p.tables.exec = Jvm.exec) (hb : c.code = cc) (hr : meth.sig.returnType = none) (hlocks : meth.locks = false) {P : tm_M → Prop} (hK : va_K G.1 vwCl (tm_tys G) s) (hW : tm_W G Hb sh M H) (hS : va_S (tm_A Hb) s.heap H locs) (hP : P M) (hdg : decode cc pc = .ok (.return_, 1)) : W p l e R s m args below meth c H locs cells slots (MQ below (tm_Qv G Hb sh P) args s cells slots (tm_A Hb)) (F0 m pc ls []) :=
  W.vret hexec hb hr (fun t ht hw => ⟨⟨M, rfl, hP, va_K.moved hw.alike hK, by rw [ht]; exact hW⟩, hS.F ht⟩) hS.2.2 hdg hlocks
theorem tm_iret (hexec : p.tables.exec = Jvm.exec) (hb : c.code = cc) (hr : meth.sig.returnType = some .int) (hlocks : meth.locks = false) {x : Int} {P : Int → tm_M → Prop} (hK : va_K G.1 vwCl (tm_tys G) s) (hW : tm_W G Hb sh M H) (hS : va_S (tm_A Hb) s.heap H locs) (hP : P x M) (hdg : decode cc pc = .ok (.ireturn, 1)) : W p l e R s m args below meth c H locs cells slots (MQ below (tm_Qi G Hb sh P) args s cells slots (tm_A Hb)) (F0 m pc ls [ji x]) :=
  W.iret hexec hb hr (fun t ht hw => ⟨⟨_, M, rfl, ⟨x, rfl, hP⟩, va_K.moved hw.alike hK, by rw [ht]; exact hW⟩, hS.F ht⟩) hS.2.2 hdg hlocks
theorem tm_zret (hexec : p.tables.exec = Jvm.exec) (hb : c.code = cc) (hr : meth.sig.returnType = some .boolean) (hlocks : meth.locks = false) {x : Int} (hx : x = 0 ∨ x = 1) {P : Int → tm_M → Prop} (hK : va_K G.1 vwCl (tm_tys G) s) (hW : tm_W G Hb sh M H) (hS : va_S (tm_A Hb) s.heap H locs) (hP : P x M) (hdg : decode cc pc = .ok (.ireturn, 1)) : W p l e R s m args below meth c H locs cells slots (MQ below (tm_Qi G Hb sh P) args s cells slots (tm_A Hb)) (F0 m pc ls [ji x]) :=
  W.zret hexec hb hr (tm_nz hx) (fun t ht hw => ⟨⟨_, M, rfl, ⟨x, rfl, hP⟩, va_K.moved hw.alike hK, by rw [ht]; exact hW⟩, hS.F ht⟩) hS.2.2 hdg hlocks
theorem tm_lret (hexec : p.tables.exec = Jvm.exec) (hb : c.code = cc) (hr : meth.sig.returnType = some .long) (hlocks : meth.locks = false) {x : Int} {P : Int → tm_M → Prop} (hK : va_K G.1 vwCl (tm_tys G) s) (hW : tm_W G Hb sh M H) (hS : va_S (tm_A Hb) s.heap H locs) (hP : P x M) (hdg : decode cc pc = .ok (.lreturn, 1)) : W p l e R s m args below meth c H locs cells slots (MQ below (tm_Ql G Hb sh P) args s cells slots (tm_A Hb)) (F0 m pc ls [jl x]) :=
  W.lret hexec hb hr (fun t ht hw => ⟨⟨_, M, rfl, ⟨x, rfl, hP⟩, va_K.moved hw.alike hK, by rw [ht]; exact hW⟩, hS.F ht⟩) hS.2.2 hdg hlocks
theorem tm_aret (hexec : p.tables.exec = Jvm.exec) (hb : c.code = cc) {nm : String} (hr : meth.sig.returnType = some (.object nm)) (hlocks : meth.locks = false) {x : Nat} {P : Nat → tm_M → Prop} (hK : va_K G.1 vwCl (tm_tys G) s) (hW : tm_W G Hb sh M H) (hS : va_S (tm_A Hb) s.heap H locs) (hP : P x M) (hdg : decode cc pc = .ok (.areturn, 1)) : W p l e R s m args below meth c H locs cells slots (MQ below (tm_Qa G Hb sh P) args s cells slots (tm_A Hb)) (F0 m pc ls [.ref x]) :=
  W.aret hexec hb hr (Or.inl ⟨nm, rfl⟩) (Or.inr ⟨x, rfl⟩) (fun t ht hw => ⟨⟨(x, M), x, rfl, hP, rfl, va_K.moved hw.alike hK, by rw [ht]; exact hW⟩, hS.F ht⟩) hS.2.2 hdg hlocks
/-- the receiver and the world, as a call wants them -/
theorem tm_preV {C : String} {T : u_T} {N : Nat} {As : List Value} (hK : va_K G.1 vwCl (tm_tys G) s) (hW : tm_W G Hb sh M H) (hq : sh b = some (kd, n0)) (hkd : kd < 20) (hc : vwCl[kd]? = some (C, T, N)) : PreV s H C b (va_Pc (.ref b :: As) (tm_St G Hb sh M)) As := by
  refine ⟨tm_blind, ?_, fun U hU hw => ⟨rfl, va_K.moved hw.alike hK, by rw [hU]; exact hW⟩⟩
  obtain ⟨r, h1, cell, q1, q2, q3, q4⟩ := (hW.1 b kd n0 hq).2.1 hkd
  exact ⟨cell, q1, by rw [q3]; rfl, by rw [q2]; exact (hK.1 kd _ hc).2.1⟩
theorem tm_preS {As : List Value} (hK : va_K G.1 vwCl (tm_tys G) s) (hW : tm_W G Hb sh M H) : PreS s H (va_Pc As (tm_St G Hb sh M)) As := ⟨tm_blind, fun U hU hw => ⟨rfl, va_K.moved hw.alike hK, by rw [hU]; exact hW⟩⟩
theorem tm_runV {own C : String} {T : u_T} {N index : Nat} {y : MethodName} {bytes : ByteArray} {maxL nL n : Nat} {ret : Option FieldType} {rm : Room} {Qc : Array Value → State → Outcome → State → Prop} {As : List Value} (hexec : p.tables.exec = Jvm.exec) (hb : c.code = cc) (hml : c.maxLocals = nL) (hown : s.vm.findClass own = some m.cls) (htw : ∀ w ∈ tw, w.before args s = true) (hK : va_K G.1 vwCl (tm_tys G) s) (hW : tm_W G Hb sh M H) (hq : sh b = some (kd, n0)) (hkd : kd < 20) (hc : vwCl[kd]? = some (C, T, N))
    (h1 : Cond.methodLink own index y ∈ tw) (h2 : Cond.instanceMethod y ∈ tw) (h3 : Cond.selects C y y ∈ tw) (h4 : Cond.initialized C ∈ tw) (h5 : Cond.code y bytes maxL ret ∈ tw) (hd : y.cls = C ∧ y.cls ≠ "java/lang/invoke/MethodHandle" ∧ y.cls ≠ "java/lang/invoke/VarHandle" ∧ (parseMethodDescriptor y.desc).map (fun d => d.parameters.length) = some n)
    (hM : Met l y (tws y bytes maxL ret) rm (va_Pc (.ref b :: As) (tm_St G Hb sh M)) Qc mc ms (tm_A Hb)) (hrm : rm.cells = mc ∧ rm.slots = ms ∧ rm.frames + 1 ≤ R.frames ∧ 8 + (maxL + 11) + rm.locals ≤ R.locals) (hn : As.length = n) (hsize : ls.size = nL) (hst : st0 = As.reverse ++ .ref b :: rest) (hrest : (rest.map fun v => v.category).sum ≤ 8) (hdg : decode cc pc = .ok (.invokevirtual index, 3)) (hf : cells + mc ≤ R.cells ∧ slots + ms ≤ R.slots) :
    va_Run p l e R s m args below meth c H locs cells slots mc ms (F0 m pc ls st0) rest (Qc (Value.ref b :: As).toArray) (tm_A Hb) :=
  va_runV ⟨hexec, hb, hml, hown, htw⟩ hM (cwV n htw (tw_V h1 h2 h3 h4 h5) rfl hrm.1 hrm.2.1 hd hrm.2.2) (tm_preV hK hW hq hkd hc) rfl hn hsize hst (lv_room hrest) hdg hf
theorem tm_runS {own : String} {index : Nat} {y : MethodName} {bytes : ByteArray} {maxL nL n : Nat} {ret : Option FieldType} {rm : Room} {Qc : Array Value → State → Outcome → State → Prop} {As : List Value} (hexec : p.tables.exec = Jvm.exec) (hb : c.code = cc) (hml : c.maxLocals = nL) (hown : s.vm.findClass own = some m.cls) (htw : ∀ w ∈ tw, w.before args s = true) (hK : va_K G.1 vwCl (tm_tys G) s) (hW : tm_W G Hb sh M H)
    (h1 : Cond.methodLink own index y ∈ tw) (h2 : Cond.static y ∈ tw) (h4 : Cond.initialized y.cls ∈ tw) (h5 : Cond.code y bytes maxL ret ∈ tw) (hd : y.cls ≠ "java/lang/invoke/MethodHandle" ∧ y.cls ≠ "java/lang/invoke/VarHandle" ∧ (parseMethodDescriptor y.desc).map (fun d => d.parameters.length) = some n)
    (hM : Met l y (tws y bytes maxL ret) rm (va_Pc As (tm_St G Hb sh M)) Qc mc ms (tm_A Hb)) (hrm : rm.cells = mc ∧ rm.slots = ms ∧ rm.frames + 1 ≤ R.frames ∧ 8 + (maxL + 11) + rm.locals ≤ R.locals) (hn : As.length = n) (hsize : ls.size = nL) (hst : st0 = As.reverse ++ rest) (hrest : (rest.map fun v => v.category).sum ≤ 8) (hdg : decode cc pc = .ok (.invokestatic index, 3)) (hf : cells + mc ≤ R.cells ∧ slots + ms ≤ R.slots) :
    va_Run p l e R s m args below meth c H locs cells slots mc ms (F0 m pc ls st0) rest (Qc As.toArray) (tm_A Hb) :=
  va_runS ⟨hexec, hb, hml, hown, htw⟩ hM ⟨callB_of n htw (tw_C h5) rfl hrm.1 hrm.2.1 (htw _ h4) (htw _ h1) hd hrm.2.2, htw _ h2⟩ (tm_preS hK hW) rfl hn hsize hst (lv_room hrest) hdg hf
theorem tm_callv {P : tm_M → Prop} (hr : va_Run p l e R s m args below meth c H locs cells slots mc ms (F0 m pc ls st0) rest (tm_Qv G Hb sh P a) (tm_A Hb)) (hS : va_S (tm_A Hb) H0 H locs)
    (kk : ∀ (M1 : tm_M) (H1 : Heap) (locs1 : List Loc), P M1 → tm_W G Hb sh M1 H1 → va_S (tm_A Hb) H0 H1 locs1 → W p l e R s m args below meth c H1 locs1 (cells + mc) (slots + ms) Q (F0 m (pc + 3) ls rest)) : W p l e R s m args below meth c H locs cells slots Q (F0 m pc ls st0) :=
  va_callv hr hS (fun _ _ h => h) (fun _ h => h) (fun u t H1 locs1 ht hvm hp hB hz hk hS1 => kk u H1 locs1 hp (by rw [← ht]; exact hB.2) hS1)
theorem tm_calli {P : Int → tm_M → Prop} (hr : va_Run p l e R s m args below meth c H locs cells slots mc ms (F0 m pc ls st0) rest (tm_Qi G Hb sh P a) (tm_A Hb)) (hS : va_S (tm_A Hb) H0 H locs)
    (kk : ∀ (x : Int) (M1 : tm_M) (H1 : Heap) (locs1 : List Loc), P x M1 → tm_W G Hb sh M1 H1 → va_S (tm_A Hb) H0 H1 locs1 → W p l e R s m args below meth c H1 locs1 (cells + mc) (slots + ms) Q (F0 m (pc + 3) ls (ji x :: rest))) : W p l e R s m args below meth c H locs cells slots Q (F0 m pc ls st0) :=
  va_calli hr hS (fun _ _ h => h) (fun _ h => h) (fun r u t H1 locs1 ht hvm hp hB hz hk hS1 => by
    obtain ⟨x, rfl, hp⟩ := hp
    exact kk x u H1 locs1 hp (by rw [← ht]; exact hB.2) hS1)
theorem tm_calll {P : Int → tm_M → Prop} (hr : va_Run p l e R s m args below meth c H locs cells slots mc ms (F0 m pc ls st0) rest (tm_Ql G Hb sh P a) (tm_A Hb)) (hS : va_S (tm_A Hb) H0 H locs)
    (kk : ∀ (x : Int) (M1 : tm_M) (H1 : Heap) (locs1 : List Loc), P x M1 → tm_W G Hb sh M1 H1 → va_S (tm_A Hb) H0 H1 locs1 → W p l e R s m args below meth c H1 locs1 (cells + mc) (slots + ms) Q (F0 m (pc + 3) ls (jl x :: rest))) : W p l e R s m args below meth c H locs cells slots Q (F0 m pc ls st0) :=
  va_calll hr hS (fun _ _ h => h) (fun _ h => h) (fun r u t H1 locs1 ht hvm hp hB hz hk hS1 => by
    obtain ⟨x, rfl, hp⟩ := hp
    exact kk x u H1 locs1 hp (by rw [← ht]; exact hB.2) hS1)
theorem tm_calla {P : Nat → tm_M → Prop} (hr : va_Run p l e R s m args below meth c H locs cells slots mc ms (F0 m pc ls st0) rest (tm_Qa G Hb sh P a) (tm_A Hb)) (hS : va_S (tm_A Hb) H0 H locs)
    (kk : ∀ (x : Nat) (M1 : tm_M) (H1 : Heap) (locs1 : List Loc), P x M1 → tm_W G Hb sh M1 H1 → va_S (tm_A Hb) H0 H1 locs1 → W p l e R s m args below meth c H1 locs1 (cells + mc) (slots + ms) Q (F0 m (pc + 3) ls (.ref x :: rest))) : W p l e R s m args below meth c H locs cells slots Q (F0 m pc ls st0) :=
  va_callr hr hS (fun _ _ h => h) (fun _ h => h) (fun u ra t H1 locs1 ht hvm hp hB hz hk hS1 => by
    obtain ⟨rfl, hB⟩ := hB
    exact kk u.1 u.2 H1 locs1 hp (by rw [← ht]; exact hB.2) hS1)
end TMC
end
section
/-! words of the tables that my methods use, each by its place; then a row a field, a row a call (by program: wip/whole/gen/links.py) -/
theorem in_X0 : Cond.initialized RX0 ∈ tw := tw_in 4 (by decide +kernel) rfl
theorem is_X0 : Cond.instantiable RX0 2 ∈ tw := tw_in 50 (by decide +kernel) rfl
theorem ly_X0 : ∀ w ∈ u_ws RX0 TX0 2, w ∈ tw := by
  intro w hw
  obtain ⟨k, hk, rfl⟩ := List.mem_map.mp hw
  have hk := List.mem_range.mp hk
  match k, hk with
  | 0, _ => exact tw_in 63 (by decide +kernel) rfl
  | 1, _ => exact tw_in 65 (by decide +kernel) rfl
  | k + 2, hk => exact absurd hk (by omega)
theorem in_X1 : Cond.initialized RX1 ∈ tw := tw_in 5 (by decide +kernel) rfl
theorem is_X1 : Cond.instantiable RX1 3 ∈ tw := tw_in 115 (by decide +kernel) rfl
theorem ly_X1 : ∀ w ∈ u_ws RX1 TX1 3, w ∈ tw := by
  intro w hw
  obtain ⟨k, hk, rfl⟩ := List.mem_map.mp hw
  have hk := List.mem_range.mp hk
  match k, hk with
  | 0, _ => exact tw_in 142 (by decide +kernel) rfl
  | 1, _ => exact tw_in 144 (by decide +kernel) rfl
  | 2, _ => exact tw_in 146 (by decide +kernel) rfl
  | k + 3, hk => exact absurd hk (by omega)
theorem in_X2 : Cond.initialized RX2 ∈ tw := tw_in 7 (by decide +kernel) rfl
theorem is_X2 : Cond.instantiable RX2 1 ∈ tw := tw_in 172 (by decide +kernel) rfl
theorem ly_X2 : ∀ w ∈ u_ws RX2 TX2 1, w ∈ tw := by
  intro w hw
  obtain ⟨k, hk, rfl⟩ := List.mem_map.mp hw
  have hk := List.mem_range.mp hk
  match k, hk with
  | 0, _ => exact tw_in 210 (by decide +kernel) rfl
  | k + 1, hk => exact absurd hk (by omega)
theorem in_X3 : Cond.initialized RX3 ∈ tw := tw_in 20 (by decide +kernel) rfl
theorem in_X4 : Cond.initialized RX4 ∈ tw := tw_in 2 (by decide +kernel) rfl
theorem is_X4 : Cond.instantiable RX4 8 ∈ tw := tw_in 37 (by decide +kernel) rfl
theorem ly_X4 : ∀ w ∈ u_ws RX4 TX4 8, w ∈ tw := by
  intro w hw
  obtain ⟨k, hk, rfl⟩ := List.mem_map.mp hw
  have hk := List.mem_range.mp hk
  match k, hk with
  | 0, _ => exact tw_in 96 (by decide +kernel) rfl
  | 1, _ => exact tw_in 98 (by decide +kernel) rfl
  | 2, _ => exact tw_in 100 (by decide +kernel) rfl
  | 3, _ => exact tw_in 102 (by decide +kernel) rfl
  | 4, _ => exact tw_in 104 (by decide +kernel) rfl
  | 5, _ => exact tw_in 106 (by decide +kernel) rfl
  | 6, _ => exact tw_in 108 (by decide +kernel) rfl
  | 7, _ => exact tw_in 110 (by decide +kernel) rfl
  | k + 8, hk => exact absurd hk (by omega)
theorem in_X5 : Cond.initialized RX5 ∈ tw := tw_in 3 (by decide +kernel) rfl
theorem is_X5 : Cond.instantiable RX5 2 ∈ tw := tw_in 44 (by decide +kernel) rfl
theorem ly_X5 : ∀ w ∈ u_ws RX5 TX5 2, w ∈ tw := by
  intro w hw
  obtain ⟨k, hk, rfl⟩ := List.mem_map.mp hw
  have hk := List.mem_range.mp hk
  match k, hk with
  | 0, _ => exact tw_in 83 (by decide +kernel) rfl
  | 1, _ => exact tw_in 85 (by decide +kernel) rfl
  | k + 2, hk => exact absurd hk (by omega)
theorem in_X6 : Cond.initialized RX6 ∈ tw := tw_in 21 (by decide +kernel) rfl
theorem in_X7 : Cond.initialized RX7 ∈ tw := tw_in 6 (by decide +kernel) rfl
theorem is_X7 : Cond.instantiable RX7 3 ∈ tw := tw_in 150 (by decide +kernel) rfl
theorem ly_X7 : ∀ w ∈ u_ws RX7 TX7 3, w ∈ tw := by
  intro w hw
  obtain ⟨k, hk, rfl⟩ := List.mem_map.mp hw
  have hk := List.mem_range.mp hk
  match k, hk with
  | 0, _ => exact tw_in 162 (by decide +kernel) rfl
  | 1, _ => exact tw_in 164 (by decide +kernel) rfl
  | 2, _ => exact tw_in 166 (by decide +kernel) rfl
  | k + 3, hk => exact absurd hk (by omega)
theorem in_X8 : Cond.initialized RX8 ∈ tw := tw_in 1 (by decide +kernel) rfl
theorem is_X8 : Cond.instantiable RX8 14 ∈ tw := tw_in 29 (by decide +kernel) rfl
theorem ly_X8 : ∀ w ∈ u_ws RX8 TX8 14, w ∈ tw := by
  intro w hw
  obtain ⟨k, hk, rfl⟩ := List.mem_map.mp hw
  have hk := List.mem_range.mp hk
  match k, hk with
  | 0, _ => exact tw_in 227 (by decide +kernel) rfl
  | 1, _ => exact tw_in 229 (by decide +kernel) rfl
  | 2, _ => exact tw_in 231 (by decide +kernel) rfl
  | 3, _ => exact tw_in 233 (by decide +kernel) rfl
  | 4, _ => exact tw_in 235 (by decide +kernel) rfl
  | 5, _ => exact tw_in 237 (by decide +kernel) rfl
  | 6, _ => exact tw_in 239 (by decide +kernel) rfl
  | 7, _ => exact tw_in 241 (by decide +kernel) rfl
  | 8, _ => exact tw_in 243 (by decide +kernel) rfl
  | 9, _ => exact tw_in 245 (by decide +kernel) rfl
  | 10, _ => exact tw_in 247 (by decide +kernel) rfl
  | 11, _ => exact tw_in 249 (by decide +kernel) rfl
  | 12, _ => exact tw_in 251 (by decide +kernel) rfl
  | 13, _ => exact tw_in 253 (by decide +kernel) rfl
  | k + 14, hk => exact absurd hk (by omega)
theorem in_X9 : Cond.initialized RX9 ∈ tw := tw_in 12 (by decide +kernel) rfl
theorem is_X9 : Cond.instantiable RX9 29 ∈ tw := tw_in 1007 (by decide +kernel) rfl
theorem ly_X9 : ∀ w ∈ u_ws RX9 TX9 29, w ∈ tw := by
  intro w hw
  obtain ⟨k, hk, rfl⟩ := List.mem_map.mp hw
  have hk := List.mem_range.mp hk
  match k, hk with
  | 0, _ => exact tw_in 1041 (by decide +kernel) rfl
  | 1, _ => exact tw_in 1043 (by decide +kernel) rfl
  | 2, _ => exact tw_in 1045 (by decide +kernel) rfl
  | 3, _ => exact tw_in 1047 (by decide +kernel) rfl
  | 4, _ => exact tw_in 1049 (by decide +kernel) rfl
  | 5, _ => exact tw_in 1051 (by decide +kernel) rfl
  | 6, _ => exact tw_in 1053 (by decide +kernel) rfl
  | 7, _ => exact tw_in 1055 (by decide +kernel) rfl
  | 8, _ => exact tw_in 1057 (by decide +kernel) rfl
  | 9, _ => exact tw_in 1059 (by decide +kernel) rfl
  | 10, _ => exact tw_in 1061 (by decide +kernel) rfl
  | 11, _ => exact tw_in 1063 (by decide +kernel) rfl
  | 12, _ => exact tw_in 1065 (by decide +kernel) rfl
  | 13, _ => exact tw_in 1067 (by decide +kernel) rfl
  | 14, _ => exact tw_in 1069 (by decide +kernel) rfl
  | 15, _ => exact tw_in 1071 (by decide +kernel) rfl
  | 16, _ => exact tw_in 1073 (by decide +kernel) rfl
  | 17, _ => exact tw_in 1075 (by decide +kernel) rfl
  | 18, _ => exact tw_in 1077 (by decide +kernel) rfl
  | 19, _ => exact tw_in 1079 (by decide +kernel) rfl
  | 20, _ => exact tw_in 1081 (by decide +kernel) rfl
  | 21, _ => exact tw_in 1083 (by decide +kernel) rfl
  | 22, _ => exact tw_in 1085 (by decide +kernel) rfl
  | 23, _ => exact tw_in 1087 (by decide +kernel) rfl
  | 24, _ => exact tw_in 1089 (by decide +kernel) rfl
  | 25, _ => exact tw_in 1091 (by decide +kernel) rfl
  | 26, _ => exact tw_in 1093 (by decide +kernel) rfl
  | 27, _ => exact tw_in 1095 (by decide +kernel) rfl
  | 28, _ => exact tw_in 1097 (by decide +kernel) rfl
  | k + 29, hk => exact absurd hk (by omega)
theorem co_X4_init : Cond.code yX4_init cX4_init 2 none ∈ tw := tw_in 40 (by decide +kernel) rfl
theorem im_X4_init : Cond.instanceMethod yX4_init ∈ tw := tw_in 39 (by decide +kernel) rfl
theorem ml_X8_15 : Cond.methodLink RX8 15 yX4_init ∈ tw := tw_in 38 (by decide +kernel) rfl
theorem fl_X0_17 : Cond.fieldLink RX0 17 "TutorLines$Fraction" "above" "J" ∈ tw := tw_in 55 (by decide +kernel) rfl
theorem fl_X7_62 : Cond.fieldLink RX7 62 "TutorLines$Fraction" "above" "J" ∈ tw := tw_in 56 (by decide +kernel) rfl
theorem fl_X3_63 : Cond.fieldLink RX3 63 "TutorLines$Fraction" "above" "J" ∈ tw := tw_in 57 (by decide +kernel) rfl
theorem fl_X2_70 : Cond.fieldLink RX2 70 "TutorLines$Fraction" "above" "J" ∈ tw := tw_in 58 (by decide +kernel) rfl
theorem fl_X8_117 : Cond.fieldLink RX8 117 "TutorLines$Fraction" "above" "J" ∈ tw := tw_in 59 (by decide +kernel) rfl
theorem fl_X0_7 : Cond.fieldLink RX0 7 "TutorLines$Fraction" "below" "J" ∈ tw := tw_in 60 (by decide +kernel) rfl
theorem fl_X8_121 : Cond.fieldLink RX8 121 "TutorLines$Fraction" "below" "J" ∈ tw := tw_in 61 (by decide +kernel) rfl
theorem fl_X2_97 : Cond.fieldLink RX2 97 "TutorLines$Fraction" "below" "J" ∈ tw := tw_in 62 (by decide +kernel) rfl
theorem fl_X5_10 : Cond.fieldLink RX5 10 "TutorLines$Side" "a" "LTutorLines$Fraction;" ∈ tw := tw_in 69 (by decide +kernel) rfl
theorem fl_X7_25 : Cond.fieldLink RX7 25 "TutorLines$Side" "a" "LTutorLines$Fraction;" ∈ tw := tw_in 70 (by decide +kernel) rfl
theorem fl_X3_23 : Cond.fieldLink RX3 23 "TutorLines$Side" "a" "LTutorLines$Fraction;" ∈ tw := tw_in 71 (by decide +kernel) rfl
theorem fl_X6_27 : Cond.fieldLink RX6 27 "TutorLines$Side" "a" "LTutorLines$Fraction;" ∈ tw := tw_in 72 (by decide +kernel) rfl
theorem fl_X2_55 : Cond.fieldLink RX2 55 "TutorLines$Side" "a" "LTutorLines$Fraction;" ∈ tw := tw_in 73 (by decide +kernel) rfl
theorem fl_X4_101 : Cond.fieldLink RX4 101 "TutorLines$Side" "a" "LTutorLines$Fraction;" ∈ tw := tw_in 74 (by decide +kernel) rfl
theorem fl_X8_140 : Cond.fieldLink RX8 140 "TutorLines$Side" "a" "LTutorLines$Fraction;" ∈ tw := tw_in 75 (by decide +kernel) rfl
theorem fl_X5_16 : Cond.fieldLink RX5 16 "TutorLines$Side" "b" "LTutorLines$Fraction;" ∈ tw := tw_in 76 (by decide +kernel) rfl
theorem fl_X7_37 : Cond.fieldLink RX7 37 "TutorLines$Side" "b" "LTutorLines$Fraction;" ∈ tw := tw_in 77 (by decide +kernel) rfl
theorem fl_X3_42 : Cond.fieldLink RX3 42 "TutorLines$Side" "b" "LTutorLines$Fraction;" ∈ tw := tw_in 78 (by decide +kernel) rfl
theorem fl_X6_46 : Cond.fieldLink RX6 46 "TutorLines$Side" "b" "LTutorLines$Fraction;" ∈ tw := tw_in 79 (by decide +kernel) rfl
theorem fl_X2_67 : Cond.fieldLink RX2 67 "TutorLines$Side" "b" "LTutorLines$Fraction;" ∈ tw := tw_in 80 (by decide +kernel) rfl
theorem fl_X4_116 : Cond.fieldLink RX4 116 "TutorLines$Side" "b" "LTutorLines$Fraction;" ∈ tw := tw_in 81 (by decide +kernel) rfl
theorem fl_X8_145 : Cond.fieldLink RX8 145 "TutorLines$Side" "b" "LTutorLines$Fraction;" ∈ tw := tw_in 82 (by decide +kernel) rfl
theorem fl_X4_9 : Cond.fieldLink RX4 9 "TutorLines$Reader" "text" "[B" ∈ tw := tw_in 88 (by decide +kernel) rfl
theorem fl_X4_34 : Cond.fieldLink RX4 34 "TutorLines$Reader" "length" "I" ∈ tw := tw_in 89 (by decide +kernel) rfl
theorem fl_X4_38 : Cond.fieldLink RX4 38 "TutorLines$Reader" "position" "I" ∈ tw := tw_in 90 (by decide +kernel) rfl
theorem fl_X4_41 : Cond.fieldLink RX4 41 "TutorLines$Reader" "fault" "I" ∈ tw := tw_in 91 (by decide +kernel) rfl
theorem fl_X4_119 : Cond.fieldLink RX4 119 "TutorLines$Reader" "lastDigit" "I" ∈ tw := tw_in 92 (by decide +kernel) rfl
theorem fl_X4_17 : Cond.fieldLink RX4 17 "TutorLines$Reader" "sums" "[LTutorLines$Side;" ∈ tw := tw_in 93 (by decide +kernel) rfl
theorem fl_X4_21 : Cond.fieldLink RX4 21 "TutorLines$Reader" "terms" "[LTutorLines$Side;" ∈ tw := tw_in 94 (by decide +kernel) rfl
theorem fl_X4_24 : Cond.fieldLink RX4 24 "TutorLines$Reader" "factors" "[LTutorLines$Side;" ∈ tw := tw_in 95 (by decide +kernel) rfl
theorem fl_X1_10 : Cond.fieldLink RX1 10 "TutorLines$Line" "left" "LTutorLines$Side;" ∈ tw := tw_in 122 (by decide +kernel) rfl
theorem fl_X7_19 : Cond.fieldLink RX7 19 "TutorLines$Line" "left" "LTutorLines$Side;" ∈ tw := tw_in 123 (by decide +kernel) rfl
theorem fl_X4_48 : Cond.fieldLink RX4 48 "TutorLines$Line" "left" "LTutorLines$Side;" ∈ tw := tw_in 124 (by decide +kernel) rfl
theorem fl_X3_19 : Cond.fieldLink RX3 19 "TutorLines$Line" "left" "LTutorLines$Side;" ∈ tw := tw_in 125 (by decide +kernel) rfl
theorem fl_X6_23 : Cond.fieldLink RX6 23 "TutorLines$Line" "left" "LTutorLines$Side;" ∈ tw := tw_in 126 (by decide +kernel) rfl
theorem fl_X2_28 : Cond.fieldLink RX2 28 "TutorLines$Line" "left" "LTutorLines$Side;" ∈ tw := tw_in 127 (by decide +kernel) rfl
theorem fl_X8_133 : Cond.fieldLink RX8 133 "TutorLines$Line" "left" "LTutorLines$Side;" ∈ tw := tw_in 128 (by decide +kernel) rfl
theorem fl_X1_16 : Cond.fieldLink RX1 16 "TutorLines$Line" "right" "LTutorLines$Side;" ∈ tw := tw_in 129 (by decide +kernel) rfl
theorem fl_X7_30 : Cond.fieldLink RX7 30 "TutorLines$Line" "right" "LTutorLines$Side;" ∈ tw := tw_in 130 (by decide +kernel) rfl
theorem fl_X3_29 : Cond.fieldLink RX3 29 "TutorLines$Line" "right" "LTutorLines$Side;" ∈ tw := tw_in 131 (by decide +kernel) rfl
theorem fl_X4_62 : Cond.fieldLink RX4 62 "TutorLines$Line" "right" "LTutorLines$Side;" ∈ tw := tw_in 132 (by decide +kernel) rfl
theorem fl_X6_43 : Cond.fieldLink RX6 43 "TutorLines$Line" "right" "LTutorLines$Side;" ∈ tw := tw_in 133 (by decide +kernel) rfl
theorem fl_X2_52 : Cond.fieldLink RX2 52 "TutorLines$Line" "right" "LTutorLines$Side;" ∈ tw := tw_in 134 (by decide +kernel) rfl
theorem fl_X8_137 : Cond.fieldLink RX8 137 "TutorLines$Line" "right" "LTutorLines$Side;" ∈ tw := tw_in 135 (by decide +kernel) rfl
theorem fl_X1_23 : Cond.fieldLink RX1 23 "TutorLines$Line" "relation" "I" ∈ tw := tw_in 136 (by decide +kernel) rfl
theorem fl_X7_44 : Cond.fieldLink RX7 44 "TutorLines$Line" "relation" "I" ∈ tw := tw_in 137 (by decide +kernel) rfl
theorem fl_X4_72 : Cond.fieldLink RX4 72 "TutorLines$Line" "relation" "I" ∈ tw := tw_in 138 (by decide +kernel) rfl
theorem fl_X6_49 : Cond.fieldLink RX6 49 "TutorLines$Line" "relation" "I" ∈ tw := tw_in 139 (by decide +kernel) rfl
theorem fl_X2_38 : Cond.fieldLink RX2 38 "TutorLines$Line" "relation" "I" ∈ tw := tw_in 140 (by decide +kernel) rfl
theorem fl_X8_130 : Cond.fieldLink RX8 130 "TutorLines$Line" "relation" "I" ∈ tw := tw_in 141 (by decide +kernel) rfl
theorem fl_X7_52 : Cond.fieldLink RX7 52 "TutorLines$SolutionSet" "kind" "I" ∈ tw := tw_in 157 (by decide +kernel) rfl
theorem fl_X8_148 : Cond.fieldLink RX8 148 "TutorLines$SolutionSet" "kind" "I" ∈ tw := tw_in 158 (by decide +kernel) rfl
theorem fl_X7_10 : Cond.fieldLink RX7 10 "TutorLines$SolutionSet" "place" "LTutorLines$Fraction;" ∈ tw := tw_in 159 (by decide +kernel) rfl
theorem fl_X8_151 : Cond.fieldLink RX8 151 "TutorLines$SolutionSet" "place" "LTutorLines$Fraction;" ∈ tw := tw_in 160 (by decide +kernel) rfl
theorem fl_X7_16 : Cond.fieldLink RX7 16 "TutorLines$SolutionSet" "slope" "LTutorLines$Fraction;" ∈ tw := tw_in 161 (by decide +kernel) rfl
theorem fl_X2_10 : Cond.fieldLink RX2 10 "TutorLines$Paper" "bytes" "Ljava/lang/StringBuilder;" ∈ tw := tw_in 209 (by decide +kernel) rfl
theorem fl_X8_9 : Cond.fieldLink RX8 9 "TutorLines" "text" "[B" ∈ tw := tw_in 213 (by decide +kernel) rfl
theorem fl_X8_16 : Cond.fieldLink RX8 16 "TutorLines" "reader" "LTutorLines$Reader;" ∈ tw := tw_in 214 (by decide +kernel) rfl
theorem fl_X8_22 : Cond.fieldLink RX8 22 "TutorLines" "lines" "[LTutorLines$Line;" ∈ tw := tw_in 215 (by decide +kernel) rfl
theorem fl_X8_73 : Cond.fieldLink RX8 73 "TutorLines" "lineCount" "I" ∈ tw := tw_in 216 (by decide +kernel) rfl
theorem fl_X8_27 : Cond.fieldLink RX8 27 "TutorLines" "written" "LTutorLines$Line;" ∈ tw := tw_in 217 (by decide +kernel) rfl
theorem fl_X8_31 : Cond.fieldLink RX8 31 "TutorLines" "scratch" "LTutorLines$Line;" ∈ tw := tw_in 218 (by decide +kernel) rfl
theorem fl_X8_37 : Cond.fieldLink RX8 37 "TutorLines" "presentSet" "LTutorLines$SolutionSet;" ∈ tw := tw_in 219 (by decide +kernel) rfl
theorem fl_X8_41 : Cond.fieldLink RX8 41 "TutorLines" "writtenSet" "LTutorLines$SolutionSet;" ∈ tw := tw_in 220 (by decide +kernel) rfl
theorem fl_X8_104 : Cond.fieldLink RX8 104 "TutorLines" "refused" "Z" ∈ tw := tw_in 221 (by decide +kernel) rfl
theorem fl_X8_108 : Cond.fieldLink RX8 108 "TutorLines" "slipFound" "I" ∈ tw := tw_in 222 (by decide +kernel) rfl
theorem fl_X8_47 : Cond.fieldLink RX8 47 "TutorLines" "candidate" "LTutorLines$Fraction;" ∈ tw := tw_in 223 (by decide +kernel) rfl
theorem fl_X8_54 : Cond.fieldLink RX8 54 "TutorLines" "paper" "LTutorLines$Paper;" ∈ tw := tw_in 224 (by decide +kernel) rfl
theorem fl_X8_58 : Cond.fieldLink RX8 58 "TutorLines" "skillPoints" "[I" ∈ tw := tw_in 225 (by decide +kernel) rfl
theorem fl_X8_62 : Cond.fieldLink RX8 62 "TutorLines" "answers" "[I" ∈ tw := tw_in 226 (by decide +kernel) rfl
theorem co_X2_byteAt : Cond.code yX2_byteAt cX2_byteAt 2 (some .int) ∈ tw := tw_in 268 (by decide +kernel) rfl
theorem im_X2_byteAt : Cond.instanceMethod yX2_byteAt ∈ tw := tw_in 266 (by decide +kernel) rfl
theorem se_X2_byteAt : Cond.selects RX2 yX2_byteAt yX2_byteAt ∈ tw := tw_in 267 (by decide +kernel) rfl
theorem ml_X8_160 : Cond.methodLink RX8 160 yX2_byteAt ∈ tw := tw_in 265 (by decide +kernel) rfl
theorem co_X8_requireNumber : Cond.code yX8_requireNumber cX8_requireNumber 3 none ∈ tw := tw_in 320 (by decide +kernel) rfl
theorem st_X8_requireNumber : Cond.static yX8_requireNumber ∈ tw := tw_in 319 (by decide +kernel) rfl
theorem ml_X8_65 : Cond.methodLink RX8 65 yX8_requireNumber ∈ tw := tw_in 318 (by decide +kernel) rfl
theorem co_X4_read : Cond.code yX4_read cX4_read 4 (some .int) ∈ tw := tw_in 394 (by decide +kernel) rfl
theorem im_X4_read : Cond.instanceMethod yX4_read ∈ tw := tw_in 392 (by decide +kernel) rfl
theorem se_X4_read : Cond.selects RX4 yX4_read yX4_read ∈ tw := tw_in 393 (by decide +kernel) rfl
theorem ml_X8_69 : Cond.methodLink RX8 69 yX4_read ∈ tw := tw_in 391 (by decide +kernel) rfl
theorem co_X4_readSide : Cond.code yX4_readSide cX4_readSide 7 (some .boolean) ∈ tw := tw_in 399 (by decide +kernel) rfl
theorem im_X4_readSide : Cond.instanceMethod yX4_readSide ∈ tw := tw_in 398 (by decide +kernel) rfl
theorem se_X4_readSide : Cond.selects RX4 yX4_readSide yX4_readSide ∈ tw := tw_pv 1 (by decide +kernel) rfl
theorem ml_X4_44 : Cond.methodLink RX4 44 yX4_readSide ∈ tw := tw_in 396 (by decide +kernel) rfl
theorem co_X4_next : Cond.code yX4_next cX4_next 1 (some .int) ∈ tw := tw_in 403 (by decide +kernel) rfl
theorem im_X4_next : Cond.instanceMethod yX4_next ∈ tw := tw_in 402 (by decide +kernel) rfl
theorem se_X4_next : Cond.selects RX4 yX4_next yX4_next ∈ tw := tw_pv 2 (by decide +kernel) rfl
theorem ml_X4_65 : Cond.methodLink RX4 65 yX4_next ∈ tw := tw_in 400 (by decide +kernel) rfl
theorem co_X4_readTerm : Cond.code yX4_readTerm cX4_readTerm 7 (some .boolean) ∈ tw := tw_in 407 (by decide +kernel) rfl
theorem im_X4_readTerm : Cond.instanceMethod yX4_readTerm ∈ tw := tw_in 406 (by decide +kernel) rfl
theorem se_X4_readTerm : Cond.selects RX4 yX4_readTerm yX4_readTerm ∈ tw := tw_pv 3 (by decide +kernel) rfl
theorem ml_X4_75 : Cond.methodLink RX4 75 yX4_readTerm ∈ tw := tw_in 404 (by decide +kernel) rfl
theorem co_X4_readFactor : Cond.code yX4_readFactor cX4_readFactor 2 (some .boolean) ∈ tw := tw_in 411 (by decide +kernel) rfl
theorem im_X4_readFactor : Cond.instanceMethod yX4_readFactor ∈ tw := tw_in 410 (by decide +kernel) rfl
theorem se_X4_readFactor : Cond.selects RX4 yX4_readFactor yX4_readFactor ∈ tw := tw_pv 4 (by decide +kernel) rfl
theorem ml_X4_91 : Cond.methodLink RX4 91 yX4_readFactor ∈ tw := tw_in 408 (by decide +kernel) rfl
theorem co_X5_setWhole : Cond.code yX5_setWhole cX5_setWhole 3 none ∈ tw := tw_in 415 (by decide +kernel) rfl
theorem im_X5_setWhole : Cond.instanceMethod yX5_setWhole ∈ tw := tw_in 413 (by decide +kernel) rfl
theorem se_X5_setWhole : Cond.selects RX5 yX5_setWhole yX5_setWhole ∈ tw := tw_in 414 (by decide +kernel) rfl
theorem ml_X4_125 : Cond.methodLink RX4 125 yX5_setWhole ∈ tw := tw_in 412 (by decide +kernel) rfl
theorem co_X0_setWhole : Cond.code yX0_setWhole cX0_setWhole 3 none ∈ tw := tw_in 419 (by decide +kernel) rfl
theorem im_X0_setWhole : Cond.instanceMethod yX0_setWhole ∈ tw := tw_in 417 (by decide +kernel) rfl
theorem se_X0_setWhole : Cond.selects RX0 yX0_setWhole yX0_setWhole ∈ tw := tw_in 418 (by decide +kernel) rfl
theorem ml_X5_19 : Cond.methodLink RX5 19 yX0_setWhole ∈ tw := tw_in 416 (by decide +kernel) rfl
theorem co_X4_readParentheses : Cond.code yX4_readParentheses cX4_readParentheses 2 (some .boolean) ∈ tw := tw_in 423 (by decide +kernel) rfl
theorem im_X4_readParentheses : Cond.instanceMethod yX4_readParentheses ∈ tw := tw_in 422 (by decide +kernel) rfl
theorem se_X4_readParentheses : Cond.selects RX4 yX4_readParentheses yX4_readParentheses ∈ tw := tw_pv 5 (by decide +kernel) rfl
theorem ml_X4_129 : Cond.methodLink RX4 129 yX4_readParentheses ∈ tw := tw_in 420 (by decide +kernel) rfl
theorem co_X4_failAt : Cond.code yX4_failAt cX4_failAt 2 (some .boolean) ∈ tw := tw_in 427 (by decide +kernel) rfl
theorem im_X4_failAt : Cond.instanceMethod yX4_failAt ∈ tw := tw_in 426 (by decide +kernel) rfl
theorem se_X4_failAt : Cond.selects RX4 yX4_failAt yX4_failAt ∈ tw := tw_pv 6 (by decide +kernel) rfl
theorem ml_X4_69 : Cond.methodLink RX4 69 yX4_failAt ∈ tw := tw_in 424 (by decide +kernel) rfl
theorem co_X5_copy : Cond.code yX5_copy cX5_copy 2 none ∈ tw := tw_in 431 (by decide +kernel) rfl
theorem im_X5_copy : Cond.instanceMethod yX5_copy ∈ tw := tw_in 429 (by decide +kernel) rfl
theorem se_X5_copy : Cond.selects RX5 yX5_copy yX5_copy ∈ tw := tw_in 430 (by decide +kernel) rfl
theorem ml_X4_54 : Cond.methodLink RX4 54 yX5_copy ∈ tw := tw_in 428 (by decide +kernel) rfl
theorem co_X0_copy : Cond.code yX0_copy cX0_copy 2 none ∈ tw := tw_in 435 (by decide +kernel) rfl
theorem im_X0_copy : Cond.instanceMethod yX0_copy ∈ tw := tw_in 433 (by decide +kernel) rfl
theorem se_X0_copy : Cond.selects RX0 yX0_copy yX0_copy ∈ tw := tw_in 434 (by decide +kernel) rfl
theorem ml_X5_23 : Cond.methodLink RX5 23 yX0_copy ∈ tw := tw_in 432 (by decide +kernel) rfl
theorem co_X4_readNumber : Cond.code yX4_readNumber cX4_readNumber 4 (some .boolean) ∈ tw := tw_in 439 (by decide +kernel) rfl
theorem im_X4_readNumber : Cond.instanceMethod yX4_readNumber ∈ tw := tw_in 438 (by decide +kernel) rfl
theorem se_X4_readNumber : Cond.selects RX4 yX4_readNumber yX4_readNumber ∈ tw := tw_pv 7 (by decide +kernel) rfl
theorem ml_X4_112 : Cond.methodLink RX4 112 yX4_readNumber ∈ tw := tw_in 436 (by decide +kernel) rfl
theorem co_X4_isDigit : Cond.code yX4_isDigit cX4_isDigit 1 (some .boolean) ∈ tw := tw_in 442 (by decide +kernel) rfl
theorem st_X4_isDigit : Cond.static yX4_isDigit ∈ tw := tw_in 441 (by decide +kernel) rfl
theorem ml_X4_132 : Cond.methodLink RX4 132 yX4_isDigit ∈ tw := tw_in 440 (by decide +kernel) rfl
theorem co_X4_multiply : Cond.code yX4_multiply cX4_multiply 3 (some .boolean) ∈ tw := tw_in 446 (by decide +kernel) rfl
theorem im_X4_multiply : Cond.instanceMethod yX4_multiply ∈ tw := tw_in 445 (by decide +kernel) rfl
theorem se_X4_multiply : Cond.selects RX4 yX4_multiply yX4_multiply ∈ tw := tw_pv 8 (by decide +kernel) rfl
theorem ml_X4_94 : Cond.methodLink RX4 94 yX4_multiply ∈ tw := tw_in 443 (by decide +kernel) rfl
theorem co_X0_isZero : Cond.code yX0_isZero cX0_isZero 1 (some .boolean) ∈ tw := tw_in 450 (by decide +kernel) rfl
theorem im_X0_isZero : Cond.instanceMethod yX0_isZero ∈ tw := tw_in 448 (by decide +kernel) rfl
theorem se_X0_isZero : Cond.selects RX0 yX0_isZero yX0_isZero ∈ tw := tw_in 449 (by decide +kernel) rfl
theorem ml_X4_105 : Cond.methodLink RX4 105 yX0_isZero ∈ tw := tw_in 447 (by decide +kernel) rfl
theorem co_X5_multiply : Cond.code yX5_multiply cX5_multiply 2 none ∈ tw := tw_in 454 (by decide +kernel) rfl
theorem im_X5_multiply : Cond.instanceMethod yX5_multiply ∈ tw := tw_in 452 (by decide +kernel) rfl
theorem se_X5_multiply : Cond.selects RX5 yX5_multiply yX5_multiply ∈ tw := tw_in 453 (by decide +kernel) rfl
theorem ml_X4_110 : Cond.methodLink RX4 110 yX5_multiply ∈ tw := tw_in 451 (by decide +kernel) rfl
theorem ml_X5_37 : Cond.methodLink RX5 37 yX0_isZero ∈ tw := tw_in 455 (by decide +kernel) rfl
theorem co_X0_setProduct : Cond.code yX0_setProduct cX0_setProduct 3 none ∈ tw := tw_in 459 (by decide +kernel) rfl
theorem im_X0_setProduct : Cond.instanceMethod yX0_setProduct ∈ tw := tw_in 457 (by decide +kernel) rfl
theorem se_X0_setProduct : Cond.selects RX0 yX0_setProduct yX0_setProduct ∈ tw := tw_in 458 (by decide +kernel) rfl
theorem ml_X5_41 : Cond.methodLink RX5 41 yX0_setProduct ∈ tw := tw_in 456 (by decide +kernel) rfl
theorem co_X0_set : Cond.code yX0_set cX0_set 12 none ∈ tw := tw_in 463 (by decide +kernel) rfl
theorem im_X0_set : Cond.instanceMethod yX0_set ∈ tw := tw_in 461 (by decide +kernel) rfl
theorem se_X0_set : Cond.selects RX0 yX0_set yX0_set ∈ tw := tw_in 462 (by decide +kernel) rfl
theorem ml_X0_20 : Cond.methodLink RX0 20 yX0_set ∈ tw := tw_in 460 (by decide +kernel) rfl
theorem ml_X0_13 : Cond.methodLink RX0 13 yX0_setWhole ∈ tw := tw_in 464 (by decide +kernel) rfl
theorem co_X4_divide : Cond.code yX4_divide cX4_divide 3 (some .boolean) ∈ tw := tw_in 468 (by decide +kernel) rfl
theorem im_X4_divide : Cond.instanceMethod yX4_divide ∈ tw := tw_in 467 (by decide +kernel) rfl
theorem se_X4_divide : Cond.selects RX4 yX4_divide yX4_divide ∈ tw := tw_pv 9 (by decide +kernel) rfl
theorem ml_X4_98 : Cond.methodLink RX4 98 yX4_divide ∈ tw := tw_in 465 (by decide +kernel) rfl
theorem co_X5_divide : Cond.code yX5_divide cX5_divide 2 none ∈ tw := tw_in 472 (by decide +kernel) rfl
theorem im_X5_divide : Cond.instanceMethod yX5_divide ∈ tw := tw_in 470 (by decide +kernel) rfl
theorem se_X5_divide : Cond.selects RX5 yX5_divide yX5_divide ∈ tw := tw_in 471 (by decide +kernel) rfl
theorem ml_X4_122 : Cond.methodLink RX4 122 yX5_divide ∈ tw := tw_in 469 (by decide +kernel) rfl
theorem co_X0_setQuotient : Cond.code yX0_setQuotient cX0_setQuotient 3 none ∈ tw := tw_in 476 (by decide +kernel) rfl
theorem im_X0_setQuotient : Cond.instanceMethod yX0_setQuotient ∈ tw := tw_in 474 (by decide +kernel) rfl
theorem se_X0_setQuotient : Cond.selects RX0 yX0_setQuotient yX0_setQuotient ∈ tw := tw_in 475 (by decide +kernel) rfl
theorem ml_X5_44 : Cond.methodLink RX5 44 yX0_setQuotient ∈ tw := tw_in 473 (by decide +kernel) rfl
theorem co_X5_fits : Cond.code yX5_fits cX5_fits 1 (some .boolean) ∈ tw := tw_in 480 (by decide +kernel) rfl
theorem im_X5_fits : Cond.instanceMethod yX5_fits ∈ tw := tw_in 478 (by decide +kernel) rfl
theorem se_X5_fits : Cond.selects RX5 yX5_fits yX5_fits ∈ tw := tw_in 479 (by decide +kernel) rfl
theorem ml_X4_87 : Cond.methodLink RX4 87 yX5_fits ∈ tw := tw_in 477 (by decide +kernel) rfl
theorem co_X0_fits : Cond.code yX0_fits cX0_fits 1 (some .boolean) ∈ tw := tw_in 484 (by decide +kernel) rfl
theorem im_X0_fits : Cond.instanceMethod yX0_fits ∈ tw := tw_in 482 (by decide +kernel) rfl
theorem se_X0_fits : Cond.selects RX0 yX0_fits yX0_fits ∈ tw := tw_in 483 (by decide +kernel) rfl
theorem ml_X5_51 : Cond.methodLink RX5 51 yX0_fits ∈ tw := tw_in 481 (by decide +kernel) rfl
theorem cl_X0_24 : Cond.constantLong RX0 24 (Int64.ofInt (-9999)) ∈ tw := tw_in 485 (by decide +kernel) rfl
theorem cl_X0_26 : Cond.constantLong RX0 26 (Int64.ofInt (9999)) ∈ tw := tw_in 486 (by decide +kernel) rfl
theorem co_X5_turnToOpposite : Cond.code yX5_turnToOpposite cX5_turnToOpposite 1 none ∈ tw := tw_in 490 (by decide +kernel) rfl
theorem im_X5_turnToOpposite : Cond.instanceMethod yX5_turnToOpposite ∈ tw := tw_in 488 (by decide +kernel) rfl
theorem se_X5_turnToOpposite : Cond.selects RX5 yX5_turnToOpposite yX5_turnToOpposite ∈ tw := tw_in 489 (by decide +kernel) rfl
theorem ml_X4_78 : Cond.methodLink RX4 78 yX5_turnToOpposite ∈ tw := tw_in 487 (by decide +kernel) rfl
theorem co_X0_setOpposite : Cond.code yX0_setOpposite cX0_setOpposite 2 none ∈ tw := tw_in 494 (by decide +kernel) rfl
theorem im_X0_setOpposite : Cond.instanceMethod yX0_setOpposite ∈ tw := tw_in 492 (by decide +kernel) rfl
theorem se_X0_setOpposite : Cond.selects RX0 yX0_setOpposite yX0_setOpposite ∈ tw := tw_in 493 (by decide +kernel) rfl
theorem ml_X5_27 : Cond.methodLink RX5 27 yX0_setOpposite ∈ tw := tw_in 491 (by decide +kernel) rfl
theorem co_X5_add : Cond.code yX5_add cX5_add 2 none ∈ tw := tw_in 498 (by decide +kernel) rfl
theorem im_X5_add : Cond.instanceMethod yX5_add ∈ tw := tw_in 496 (by decide +kernel) rfl
theorem se_X5_add : Cond.selects RX5 yX5_add yX5_add ∈ tw := tw_in 497 (by decide +kernel) rfl
theorem ml_X4_81 : Cond.methodLink RX4 81 yX5_add ∈ tw := tw_in 495 (by decide +kernel) rfl
theorem co_X0_setSum : Cond.code yX0_setSum cX0_setSum 3 none ∈ tw := tw_in 502 (by decide +kernel) rfl
theorem im_X0_setSum : Cond.instanceMethod yX0_setSum ∈ tw := tw_in 500 (by decide +kernel) rfl
theorem se_X0_setSum : Cond.selects RX0 yX0_setSum yX0_setSum ∈ tw := tw_in 501 (by decide +kernel) rfl
theorem ml_X5_30 : Cond.methodLink RX5 30 yX0_setSum ∈ tw := tw_in 499 (by decide +kernel) rfl
theorem co_X5_subtract : Cond.code yX5_subtract cX5_subtract 2 none ∈ tw := tw_in 506 (by decide +kernel) rfl
theorem im_X5_subtract : Cond.instanceMethod yX5_subtract ∈ tw := tw_in 504 (by decide +kernel) rfl
theorem se_X5_subtract : Cond.selects RX5 yX5_subtract yX5_subtract ∈ tw := tw_in 505 (by decide +kernel) rfl
theorem ml_X4_84 : Cond.methodLink RX4 84 yX5_subtract ∈ tw := tw_in 503 (by decide +kernel) rfl
theorem co_X0_setDifference : Cond.code yX0_setDifference cX0_setDifference 3 none ∈ tw := tw_in 510 (by decide +kernel) rfl
theorem im_X0_setDifference : Cond.instanceMethod yX0_setDifference ∈ tw := tw_in 508 (by decide +kernel) rfl
theorem se_X0_setDifference : Cond.selects RX0 yX0_setDifference yX0_setDifference ∈ tw := tw_in 509 (by decide +kernel) rfl
theorem ml_X5_34 : Cond.methodLink RX5 34 yX0_setDifference ∈ tw := tw_in 507 (by decide +kernel) rfl
theorem co_X4_readRelation : Cond.code yX4_readRelation cX4_readRelation 2 (some .boolean) ∈ tw := tw_in 514 (by decide +kernel) rfl
theorem im_X4_readRelation : Cond.instanceMethod yX4_readRelation ∈ tw := tw_in 513 (by decide +kernel) rfl
theorem se_X4_readRelation : Cond.selects RX4 yX4_readRelation yX4_readRelation ∈ tw := tw_pv 10 (by decide +kernel) rfl
theorem ml_X4_58 : Cond.methodLink RX4 58 yX4_readRelation ∈ tw := tw_in 511 (by decide +kernel) rfl
theorem co_X8_append : Cond.code yX8_append cX8_append 2 none ∈ tw := tw_in 518 (by decide +kernel) rfl
theorem im_X8_append : Cond.instanceMethod yX8_append ∈ tw := tw_in 517 (by decide +kernel) rfl
theorem se_X8_append : Cond.selects RX8 yX8_append yX8_append ∈ tw := tw_pv 11 (by decide +kernel) rfl
theorem ml_X8_77 : Cond.methodLink RX8 77 yX8_append ∈ tw := tw_in 515 (by decide +kernel) rfl
theorem co_X1_copy : Cond.code yX1_copy cX1_copy 2 none ∈ tw := tw_in 522 (by decide +kernel) rfl
theorem im_X1_copy : Cond.instanceMethod yX1_copy ∈ tw := tw_in 520 (by decide +kernel) rfl
theorem se_X1_copy : Cond.selects RX1 yX1_copy yX1_copy ∈ tw := tw_in 521 (by decide +kernel) rfl
theorem ml_X8_167 : Cond.methodLink RX8 167 yX1_copy ∈ tw := tw_in 519 (by decide +kernel) rfl
theorem ml_X1_19 : Cond.methodLink RX1 19 yX5_copy ∈ tw := tw_in 523 (by decide +kernel) rfl
theorem co_X8_requireTask : Cond.code yX8_requireTask cX8_requireTask 1 none ∈ tw := tw_in 535 (by decide +kernel) rfl
theorem im_X8_requireTask : Cond.instanceMethod yX8_requireTask ∈ tw := tw_in 534 (by decide +kernel) rfl
theorem se_X8_requireTask : Cond.selects RX8 yX8_requireTask yX8_requireTask ∈ tw := tw_pv 12 (by decide +kernel) rfl
theorem ml_X8_81 : Cond.methodLink RX8 81 yX8_requireTask ∈ tw := tw_in 532 (by decide +kernel) rfl
theorem co_X8_requireRoom : Cond.code yX8_requireRoom cX8_requireRoom 1 none ∈ tw := tw_in 554 (by decide +kernel) rfl
theorem im_X8_requireRoom : Cond.instanceMethod yX8_requireRoom ∈ tw := tw_in 553 (by decide +kernel) rfl
theorem se_X8_requireRoom : Cond.selects RX8 yX8_requireRoom yX8_requireRoom ∈ tw := tw_pv 13 (by decide +kernel) rfl
theorem ml_X8_84 : Cond.methodLink RX8 84 yX8_requireRoom ∈ tw := tw_in 551 (by decide +kernel) rfl
theorem co_X8_present : Cond.code yX8_present cX8_present 1 (some (.object "TutorLines$Line")) ∈ tw := tw_in 558 (by decide +kernel) rfl
theorem im_X8_present : Cond.instanceMethod yX8_present ∈ tw := tw_in 557 (by decide +kernel) rfl
theorem se_X8_present : Cond.selects RX8 yX8_present yX8_present ∈ tw := tw_pv 14 (by decide +kernel) rfl
theorem ml_X8_87 : Cond.methodLink RX8 87 yX8_present ∈ tw := tw_in 555 (by decide +kernel) rfl
theorem co_X7_find : Cond.code yX7_find cX7_find 2 none ∈ tw := tw_in 562 (by decide +kernel) rfl
theorem im_X7_find : Cond.instanceMethod yX7_find ∈ tw := tw_in 560 (by decide +kernel) rfl
theorem se_X7_find : Cond.selects RX7 yX7_find yX7_find ∈ tw := tw_in 561 (by decide +kernel) rfl
theorem ml_X8_91 : Cond.methodLink RX8 91 yX7_find ∈ tw := tw_in 559 (by decide +kernel) rfl
theorem ml_X7_33 : Cond.methodLink RX7 33 yX0_setDifference ∈ tw := tw_in 563 (by decide +kernel) rfl
theorem ml_X7_40 : Cond.methodLink RX7 40 yX0_isZero ∈ tw := tw_in 564 (by decide +kernel) rfl
theorem co_X7_isTrueOfZero : Cond.code yX7_isTrueOfZero cX7_isTrueOfZero 2 (some .boolean) ∈ tw := tw_in 567 (by decide +kernel) rfl
theorem st_X7_isTrueOfZero : Cond.static yX7_isTrueOfZero ∈ tw := tw_in 566 (by decide +kernel) rfl
theorem ml_X7_48 : Cond.methodLink RX7 48 yX7_isTrueOfZero ∈ tw := tw_in 565 (by decide +kernel) rfl
theorem ml_X7_55 : Cond.methodLink RX7 55 yX0_setWhole ∈ tw := tw_in 568 (by decide +kernel) rfl
theorem ml_X7_59 : Cond.methodLink RX7 59 yX0_setQuotient ∈ tw := tw_in 569 (by decide +kernel) rfl
theorem co_X7_judge : Cond.code yX7_judge cX7_judge 2 (some .int) ∈ tw := tw_in 573 (by decide +kernel) rfl
theorem im_X7_judge : Cond.instanceMethod yX7_judge ∈ tw := tw_in 571 (by decide +kernel) rfl
theorem se_X7_judge : Cond.selects RX7 yX7_judge yX7_judge ∈ tw := tw_in 572 (by decide +kernel) rfl
theorem ml_X8_94 : Cond.methodLink RX8 94 yX7_judge ∈ tw := tw_in 570 (by decide +kernel) rfl
theorem co_X7_isPartOf : Cond.code yX7_isPartOf cX7_isPartOf 3 (some .boolean) ∈ tw := tw_in 577 (by decide +kernel) rfl
theorem im_X7_isPartOf : Cond.instanceMethod yX7_isPartOf ∈ tw := tw_in 576 (by decide +kernel) rfl
theorem se_X7_isPartOf : Cond.selects RX7 yX7_isPartOf yX7_isPartOf ∈ tw := tw_pv 15 (by decide +kernel) rfl
theorem ml_X7_74 : Cond.methodLink RX7 74 yX7_isPartOf ∈ tw := tw_in 574 (by decide +kernel) rfl
theorem co_X7_holds : Cond.code yX7_holds cX7_holds 2 (some .boolean) ∈ tw := tw_in 581 (by decide +kernel) rfl
theorem im_X7_holds : Cond.instanceMethod yX7_holds ∈ tw := tw_in 579 (by decide +kernel) rfl
theorem se_X7_holds : Cond.selects RX7 yX7_holds yX7_holds ∈ tw := tw_in 580 (by decide +kernel) rfl
theorem ml_X7_78 : Cond.methodLink RX7 78 yX7_holds ∈ tw := tw_in 578 (by decide +kernel) rfl
theorem co_X0_sameAs : Cond.code yX0_sameAs cX0_sameAs 2 (some .boolean) ∈ tw := tw_in 585 (by decide +kernel) rfl
theorem im_X0_sameAs : Cond.instanceMethod yX0_sameAs ∈ tw := tw_in 583 (by decide +kernel) rfl
theorem se_X0_sameAs : Cond.selects RX0 yX0_sameAs yX0_sameAs ∈ tw := tw_in 584 (by decide +kernel) rfl
theorem ml_X7_66 : Cond.methodLink RX7 66 yX0_sameAs ∈ tw := tw_in 582 (by decide +kernel) rfl
theorem co_X0_compareWith : Cond.code yX0_compareWith cX0_compareWith 20 (some .int) ∈ tw := tw_in 589 (by decide +kernel) rfl
theorem im_X0_compareWith : Cond.instanceMethod yX0_compareWith ∈ tw := tw_in 587 (by decide +kernel) rfl
theorem se_X0_compareWith : Cond.selects RX0 yX0_compareWith yX0_compareWith ∈ tw := tw_in 588 (by decide +kernel) rfl
theorem ml_X7_70 : Cond.methodLink RX7 70 yX0_compareWith ∈ tw := tw_in 586 (by decide +kernel) rfl
theorem co_J9_floorDiv_f86c9 : Cond.code yJ9_floorDiv_f86c9 cJ9_floorDiv_f86c9 6 (some .long) ∈ tw := tw_in 592 (by decide +kernel) rfl
theorem st_J9_floorDiv_f86c9 : Cond.static yJ9_floorDiv_f86c9 ∈ tw := tw_in 591 (by decide +kernel) rfl
theorem ml_X0_28 : Cond.methodLink RX0 28 yJ9_floorDiv_f86c9 ∈ tw := tw_in 590 (by decide +kernel) rfl
theorem co_J13_compare_74951 : Cond.code yJ13_compare_74951 cJ13_compare_74951 4 (some .int) ∈ tw := tw_in 595 (by decide +kernel) rfl
theorem st_J13_compare_74951 : Cond.static yJ13_compare_74951 ∈ tw := tw_in 594 (by decide +kernel) rfl
theorem ml_X0_34 : Cond.methodLink RX0 34 yJ13_compare_74951 ∈ tw := tw_in 593 (by decide +kernel) rfl
theorem co_X8_accept : Cond.code yX8_accept cX8_accept 2 none ∈ tw := tw_in 599 (by decide +kernel) rfl
theorem im_X8_accept : Cond.instanceMethod yX8_accept ∈ tw := tw_in 598 (by decide +kernel) rfl
theorem se_X8_accept : Cond.selects RX8 yX8_accept yX8_accept ∈ tw := tw_pv 16 (by decide +kernel) rfl
theorem ml_X8_98 : Cond.methodLink RX8 98 yX8_accept ∈ tw := tw_in 596 (by decide +kernel) rfl
theorem co_X3_write : Cond.code yX3_write cX3_write 3 (some .int) ∈ tw := tw_in 602 (by decide +kernel) rfl
theorem st_X3_write : Cond.static yX3_write ∈ tw := tw_in 601 (by decide +kernel) rfl
theorem ml_X8_124 : Cond.methodLink RX8 124 yX3_write ∈ tw := tw_in 600 (by decide +kernel) rfl
theorem co_X3_kindFor : Cond.code yX3_kindFor cX3_kindFor 1 (some .int) ∈ tw := tw_in 605 (by decide +kernel) rfl
theorem st_X3_kindFor : Cond.static yX3_kindFor ∈ tw := tw_in 604 (by decide +kernel) rfl
theorem ml_X3_7 : Cond.methodLink RX3 7 yX3_kindFor ∈ tw := tw_in 603 (by decide +kernel) rfl
theorem ml_X3_53 : Cond.methodLink RX3 53 yX0_isZero ∈ tw := tw_in 606 (by decide +kernel) rfl
theorem co_X0_isWhole : Cond.code yX0_isWhole cX0_isWhole 3 (some .boolean) ∈ tw := tw_in 610 (by decide +kernel) rfl
theorem im_X0_isWhole : Cond.instanceMethod yX0_isWhole ∈ tw := tw_in 608 (by decide +kernel) rfl
theorem se_X0_isWhole : Cond.selects RX0 yX0_isWhole yX0_isWhole ∈ tw := tw_in 609 (by decide +kernel) rfl
theorem ml_X3_56 : Cond.methodLink RX3 56 yX0_isWhole ∈ tw := tw_in 607 (by decide +kernel) rfl
theorem ml_X3_13 : Cond.methodLink RX3 13 yX1_copy ∈ tw := tw_in 611 (by decide +kernel) rfl
theorem ml_X3_32 : Cond.methodLink RX3 32 yX0_setDifference ∈ tw := tw_in 612 (by decide +kernel) rfl
theorem ml_X3_38 : Cond.methodLink RX3 38 yX0_setWhole ∈ tw := tw_in 613 (by decide +kernel) rfl
theorem co_X3_divide : Cond.code yX3_divide cX3_divide 2 none ∈ tw := tw_in 616 (by decide +kernel) rfl
theorem st_X3_divide : Cond.static yX3_divide ∈ tw := tw_in 615 (by decide +kernel) rfl
theorem ml_X3_45 : Cond.methodLink RX3 45 yX3_divide ∈ tw := tw_in 614 (by decide +kernel) rfl
theorem ml_X3_60 : Cond.methodLink RX3 60 yX0_setQuotient ∈ tw := tw_in 617 (by decide +kernel) rfl
theorem co_X1_turnRelation : Cond.code yX1_turnRelation cX1_turnRelation 1 none ∈ tw := tw_in 621 (by decide +kernel) rfl
theorem im_X1_turnRelation : Cond.instanceMethod yX1_turnRelation ∈ tw := tw_in 619 (by decide +kernel) rfl
theorem se_X1_turnRelation : Cond.selects RX1 yX1_turnRelation yX1_turnRelation ∈ tw := tw_in 620 (by decide +kernel) rfl
theorem ml_X3_67 : Cond.methodLink RX3 67 yX1_turnRelation ∈ tw := tw_in 618 (by decide +kernel) rfl
theorem co_X1_fits : Cond.code yX1_fits cX1_fits 1 (some .boolean) ∈ tw := tw_in 625 (by decide +kernel) rfl
theorem im_X1_fits : Cond.instanceMethod yX1_fits ∈ tw := tw_in 623 (by decide +kernel) rfl
theorem se_X1_fits : Cond.selects RX1 yX1_fits yX1_fits ∈ tw := tw_in 624 (by decide +kernel) rfl
theorem ml_X3_49 : Cond.methodLink RX3 49 yX1_fits ∈ tw := tw_in 622 (by decide +kernel) rfl
theorem ml_X1_31 : Cond.methodLink RX1 31 yX5_fits ∈ tw := tw_in 626 (by decide +kernel) rfl
theorem co_X1_sameAs : Cond.code yX1_sameAs cX1_sameAs 2 (some .boolean) ∈ tw := tw_in 630 (by decide +kernel) rfl
theorem im_X1_sameAs : Cond.instanceMethod yX1_sameAs ∈ tw := tw_in 628 (by decide +kernel) rfl
theorem se_X1_sameAs : Cond.selects RX1 yX1_sameAs yX1_sameAs ∈ tw := tw_in 629 (by decide +kernel) rfl
theorem ml_X8_170 : Cond.methodLink RX8 170 yX1_sameAs ∈ tw := tw_in 627 (by decide +kernel) rfl
theorem co_X5_sameAs : Cond.code yX5_sameAs cX5_sameAs 2 (some .boolean) ∈ tw := tw_in 634 (by decide +kernel) rfl
theorem im_X5_sameAs : Cond.instanceMethod yX5_sameAs ∈ tw := tw_in 632 (by decide +kernel) rfl
theorem se_X5_sameAs : Cond.selects RX5 yX5_sameAs yX5_sameAs ∈ tw := tw_in 633 (by decide +kernel) rfl
theorem ml_X1_27 : Cond.methodLink RX1 27 yX5_sameAs ∈ tw := tw_in 631 (by decide +kernel) rfl
theorem ml_X5_47 : Cond.methodLink RX5 47 yX0_sameAs ∈ tw := tw_in 635 (by decide +kernel) rfl
theorem co_X8_refuse : Cond.code yX8_refuse cX8_refuse 2 none ∈ tw := tw_in 640 (by decide +kernel) rfl
theorem im_X8_refuse : Cond.instanceMethod yX8_refuse ∈ tw := tw_in 639 (by decide +kernel) rfl
theorem se_X8_refuse : Cond.selects RX8 yX8_refuse yX8_refuse ∈ tw := tw_pv 17 (by decide +kernel) rfl
theorem ml_X8_101 : Cond.methodLink RX8 101 yX8_refuse ∈ tw := tw_in 637 (by decide +kernel) rfl
theorem co_X6_explain : Cond.code yX6_explain cX6_explain 4 (some .int) ∈ tw := tw_in 643 (by decide +kernel) rfl
theorem st_X6_explain : Cond.static yX6_explain ∈ tw := tw_in 642 (by decide +kernel) rfl
theorem ml_X8_180 : Cond.methodLink RX8 180 yX6_explain ∈ tw := tw_in 641 (by decide +kernel) rfl
theorem co_X6_isPossible : Cond.code yX6_isPossible cX6_isPossible 4 (some .boolean) ∈ tw := tw_in 646 (by decide +kernel) rfl
theorem st_X6_isPossible : Cond.static yX6_isPossible ∈ tw := tw_in 645 (by decide +kernel) rfl
theorem ml_X6_9 : Cond.methodLink RX6 9 yX6_isPossible ∈ tw := tw_in 644 (by decide +kernel) rfl
theorem ml_X6_33 : Cond.methodLink RX6 33 yX0_isZero ∈ tw := tw_in 647 (by decide +kernel) rfl
theorem ml_X6_39 : Cond.methodLink RX6 39 yX0_isWhole ∈ tw := tw_in 648 (by decide +kernel) rfl
theorem co_X6_write : Cond.code yX6_write cX6_write 5 none ∈ tw := tw_in 651 (by decide +kernel) rfl
theorem st_X6_write : Cond.static yX6_write ∈ tw := tw_in 650 (by decide +kernel) rfl
theorem ml_X6_13 : Cond.methodLink RX6 13 yX6_write ∈ tw := tw_in 649 (by decide +kernel) rfl
theorem ml_X6_53 : Cond.methodLink RX6 53 yX1_copy ∈ tw := tw_in 652 (by decide +kernel) rfl
theorem ml_X6_57 : Cond.methodLink RX6 57 yX0_setSum ∈ tw := tw_in 653 (by decide +kernel) rfl
theorem ml_X6_61 : Cond.methodLink RX6 61 yX0_setWhole ∈ tw := tw_in 654 (by decide +kernel) rfl
theorem ml_X6_65 : Cond.methodLink RX6 65 yX0_setQuotient ∈ tw := tw_in 655 (by decide +kernel) rfl
theorem ml_X6_68 : Cond.methodLink RX6 68 yX5_divide ∈ tw := tw_in 656 (by decide +kernel) rfl
theorem ml_X6_72 : Cond.methodLink RX6 72 yX5_turnToOpposite ∈ tw := tw_in 657 (by decide +kernel) rfl
theorem ml_X6_75 : Cond.methodLink RX6 75 yX0_setDifference ∈ tw := tw_in 658 (by decide +kernel) rfl
theorem ml_X6_17 : Cond.methodLink RX6 17 yX1_sameAs ∈ tw := tw_in 659 (by decide +kernel) rfl
theorem co_X8_findWitness : Cond.code yX8_findWitness cX8_findWitness 5 none ∈ tw := tw_in 673 (by decide +kernel) rfl
theorem im_X8_findWitness : Cond.instanceMethod yX8_findWitness ∈ tw := tw_in 672 (by decide +kernel) rfl
theorem se_X8_findWitness : Cond.selects RX8 yX8_findWitness yX8_findWitness ∈ tw := tw_pv 18 (by decide +kernel) rfl
theorem ml_X8_114 : Cond.methodLink RX8 114 yX8_findWitness ∈ tw := tw_in 670 (by decide +kernel) rfl
theorem fl_X8_189 : Cond.fieldLink RX8 189 "TutorLines" "WITNESS_SHIFTS" "[I" ∈ tw := tw_in 674 (by decide +kernel) rfl
theorem co_X8_tellsApart : Cond.code yX8_tellsApart cX8_tellsApart 3 (some .boolean) ∈ tw := tw_in 679 (by decide +kernel) rfl
theorem im_X8_tellsApart : Cond.instanceMethod yX8_tellsApart ∈ tw := tw_in 678 (by decide +kernel) rfl
theorem se_X8_tellsApart : Cond.selects RX8 yX8_tellsApart yX8_tellsApart ∈ tw := tw_pv 19 (by decide +kernel) rfl
theorem ml_X8_192 : Cond.methodLink RX8 192 yX8_tellsApart ∈ tw := tw_in 676 (by decide +kernel) rfl
theorem co_X7_hasPlace : Cond.code yX7_hasPlace cX7_hasPlace 1 (some .boolean) ∈ tw := tw_in 683 (by decide +kernel) rfl
theorem im_X7_hasPlace : Cond.instanceMethod yX7_hasPlace ∈ tw := tw_in 681 (by decide +kernel) rfl
theorem se_X7_hasPlace : Cond.selects RX7 yX7_hasPlace yX7_hasPlace ∈ tw := tw_in 682 (by decide +kernel) rfl
theorem ml_X8_200 : Cond.methodLink RX8 200 yX7_hasPlace ∈ tw := tw_in 680 (by decide +kernel) rfl
theorem co_X0_setShifted : Cond.code yX0_setShifted cX0_setShifted 3 none ∈ tw := tw_in 687 (by decide +kernel) rfl
theorem im_X0_setShifted : Cond.instanceMethod yX0_setShifted ∈ tw := tw_in 685 (by decide +kernel) rfl
theorem se_X0_setShifted : Cond.selects RX0 yX0_setShifted yX0_setShifted ∈ tw := tw_in 686 (by decide +kernel) rfl
theorem ml_X8_204 : Cond.methodLink RX8 204 yX0_setShifted ∈ tw := tw_in 684 (by decide +kernel) rfl
theorem ml_X8_208 : Cond.methodLink RX8 208 yX7_holds ∈ tw := tw_in 688 (by decide +kernel) rfl
theorem ml_X8_196 : Cond.methodLink RX8 196 yX0_setWhole ∈ tw := tw_in 689 (by decide +kernel) rfl
theorem co_X2_write : Cond.code yX2_write cX2_write 2 none ∈ tw := tw_in 735 (by decide +kernel) rfl
theorem im_X2_write : Cond.instanceMethod yX2_write ∈ tw := tw_in 733 (by decide +kernel) rfl
theorem se_X2_write : Cond.selects RX2 yX2_write yX2_write ∈ tw := tw_in 734 (by decide +kernel) rfl
theorem ml_X8_154 : Cond.methodLink RX8 154 yX2_write ∈ tw := tw_in 732 (by decide +kernel) rfl
theorem co_X2_writeSide : Cond.code yX2_writeSide cX2_writeSide 2 none ∈ tw := tw_in 959 (by decide +kernel) rfl
theorem im_X2_writeSide : Cond.instanceMethod yX2_writeSide ∈ tw := tw_in 958 (by decide +kernel) rfl
theorem se_X2_writeSide : Cond.selects RX2 yX2_writeSide yX2_writeSide ∈ tw := tw_pv 20 (by decide +kernel) rfl
theorem ml_X2_34 : Cond.methodLink RX2 34 yX2_writeSide ∈ tw := tw_in 956 (by decide +kernel) rfl
theorem ml_X2_61 : Cond.methodLink RX2 61 yX0_isZero ∈ tw := tw_in 960 (by decide +kernel) rfl
theorem co_X2_writeSize : Cond.code yX2_writeSize cX2_writeSize 2 none ∈ tw := tw_in 981 (by decide +kernel) rfl
theorem im_X2_writeSize : Cond.instanceMethod yX2_writeSize ∈ tw := tw_in 980 (by decide +kernel) rfl
theorem se_X2_writeSize : Cond.selects RX2 yX2_writeSize yX2_writeSize ∈ tw := tw_pv 21 (by decide +kernel) rfl
theorem ml_X2_77 : Cond.methodLink RX2 77 yX2_writeSize ∈ tw := tw_in 978 (by decide +kernel) rfl
theorem co_X2_writeTimesX : Cond.code yX2_writeTimesX cX2_writeTimesX 2 none ∈ tw := tw_in 986 (by decide +kernel) rfl
theorem im_X2_writeTimesX : Cond.instanceMethod yX2_writeTimesX ∈ tw := tw_in 985 (by decide +kernel) rfl
theorem se_X2_writeTimesX : Cond.selects RX2 yX2_writeTimesX yX2_writeTimesX ∈ tw := tw_pv 22 (by decide +kernel) rfl
theorem ml_X2_81 : Cond.methodLink RX2 81 yX2_writeTimesX ∈ tw := tw_in 983 (by decide +kernel) rfl
theorem ml_X2_88 : Cond.methodLink RX2 88 yX0_isWhole ∈ tw := tw_in 987 (by decide +kernel) rfl
theorem cl_X2_92 : Cond.constantLong RX2 92 (Int64.ofInt (-1)) ∈ tw := tw_in 988 (by decide +kernel) rfl
theorem co_X2_size : Cond.code yX2_size cX2_size 1 (some .int) ∈ tw := tw_in 998 (by decide +kernel) rfl
theorem im_X2_size : Cond.instanceMethod yX2_size ∈ tw := tw_in 996 (by decide +kernel) rfl
theorem se_X2_size : Cond.selects RX2 yX2_size yX2_size ∈ tw := tw_in 997 (by decide +kernel) rfl
theorem ml_X8_156 : Cond.methodLink RX8 156 yX2_size ∈ tw := tw_in 995 (by decide +kernel) rfl
theorem fl_X9_48 : Cond.fieldLink RX9 48 "TutorLinesModel" "code" "I" ∈ tw := tw_in 1012 (by decide +kernel) rfl
theorem fl_X9_7 : Cond.fieldLink RX9 7 "TutorLinesModel" "text" "[I" ∈ tw := tw_in 1013 (by decide +kernel) rfl
theorem fl_X9_13 : Cond.fieldLink RX9 13 "TutorLinesModel" "row" "[J" ∈ tw := tw_in 1014 (by decide +kernel) rfl
theorem fl_X9_159 : Cond.fieldLink RX9 159 "TutorLinesModel" "lines" "I" ∈ tw := tw_in 1015 (by decide +kernel) rfl
theorem fl_X9_211 : Cond.fieldLink RX9 211 "TutorLinesModel" "refused" "Z" ∈ tw := tw_in 1016 (by decide +kernel) rfl
theorem fl_X9_223 : Cond.fieldLink RX9 223 "TutorLinesModel" "its" "I" ∈ tw := tw_in 1017 (by decide +kernel) rfl
theorem fl_X9_17 : Cond.fieldLink RX9 17 "TutorLinesModel" "counts" "[I" ∈ tw := tw_in 1018 (by decide +kernel) rfl
theorem fl_X9_20 : Cond.fieldLink RX9 20 "TutorLinesModel" "points" "[I" ∈ tw := tw_in 1019 (by decide +kernel) rfl
theorem fl_X9_236 : Cond.fieldLink RX9 236 "TutorLinesModel" "many" "I" ∈ tw := tw_in 1020 (by decide +kernel) rfl
theorem fl_X9_23 : Cond.fieldLink RX9 23 "TutorLinesModel" "output" "[I" ∈ tw := tw_in 1021 (by decide +kernel) rfl
theorem fl_X9_56 : Cond.fieldLink RX9 56 "TutorLinesModel" "up" "J" ∈ tw := tw_in 1022 (by decide +kernel) rfl
theorem fl_X9_60 : Cond.fieldLink RX9 60 "TutorLinesModel" "low" "J" ∈ tw := tw_in 1023 (by decide +kernel) rfl
theorem fl_X9_26 : Cond.fieldLink RX9 26 "TutorLinesModel" "sums" "[J" ∈ tw := tw_in 1024 (by decide +kernel) rfl
theorem fl_X9_29 : Cond.fieldLink RX9 29 "TutorLinesModel" "terms" "[J" ∈ tw := tw_in 1025 (by decide +kernel) rfl
theorem fl_X9_32 : Cond.fieldLink RX9 32 "TutorLinesModel" "has" "[Z" ∈ tw := tw_in 1026 (by decide +kernel) rfl
theorem fl_X9_36 : Cond.fieldLink RX9 36 "TutorLinesModel" "sign" "[I" ∈ tw := tw_in 1027 (by decide +kernel) rfl
theorem fl_X9_39 : Cond.fieldLink RX9 39 "TutorLinesModel" "signAt" "[I" ∈ tw := tw_in 1028 (by decide +kernel) rfl
theorem fl_X9_42 : Cond.fieldLink RX9 42 "TutorLinesModel" "starAt" "[I" ∈ tw := tw_in 1029 (by decide +kernel) rfl
theorem fl_X9_100 : Cond.fieldLink RX9 100 "TutorLinesModel" "level" "I" ∈ tw := tw_in 1030 (by decide +kernel) rfl
theorem fl_X9_76 : Cond.fieldLink RX9 76 "TutorLinesModel" "at" "I" ∈ tw := tw_in 1031 (by decide +kernel) rfl
theorem fl_X9_79 : Cond.fieldLink RX9 79 "TutorLinesModel" "end" "I" ∈ tw := tw_in 1032 (by decide +kernel) rfl
theorem fl_X9_73 : Cond.fieldLink RX9 73 "TutorLinesModel" "fault" "I" ∈ tw := tw_in 1033 (by decide +kernel) rfl
theorem fl_X9_86 : Cond.fieldLink RX9 86 "TutorLinesModel" "number" "I" ∈ tw := tw_in 1034 (by decide +kernel) rfl
theorem fl_X9_97 : Cond.fieldLink RX9 97 "TutorLinesModel" "lastDigit" "I" ∈ tw := tw_in 1035 (by decide +kernel) rfl
theorem fl_X9_45 : Cond.fieldLink RX9 45 "TutorLinesModel" "one" "[J" ∈ tw := tw_in 1036 (by decide +kernel) rfl
theorem fl_X9_143 : Cond.fieldLink RX9 143 "TutorLinesModel" "kind" "I" ∈ tw := tw_in 1037 (by decide +kernel) rfl
theorem fl_X9_137 : Cond.fieldLink RX9 137 "TutorLinesModel" "boundUp" "J" ∈ tw := tw_in 1038 (by decide +kernel) rfl
theorem fl_X9_140 : Cond.fieldLink RX9 140 "TutorLinesModel" "boundLow" "J" ∈ tw := tw_in 1039 (by decide +kernel) rfl
theorem fl_X9_162 : Cond.fieldLink RX9 162 "TutorLinesModel" "fits" "Z" ∈ tw := tw_in 1040 (by decide +kernel) rfl
theorem cl_X9_71 : Cond.constantLong RX9 71 (Int64.ofInt (79)) ∈ tw := tw_in 1110 (by decide +kernel) rfl
theorem co_X9_in : Cond.code yX9_in cX9_in 6 (some .boolean) ∈ tw := tw_in 1113 (by decide +kernel) rfl
theorem st_X9_in : Cond.static yX9_in ∈ tw := tw_in 1112 (by decide +kernel) rfl
theorem ml_X9_67 : Cond.methodLink RX9 67 yX9_in ∈ tw := tw_in 1111 (by decide +kernel) rfl
theorem co_X9_isLength : Cond.code yX9_isLength cX9_isLength 2 (some .boolean) ∈ tw := tw_in 1121 (by decide +kernel) rfl
theorem im_X9_isLength : Cond.instanceMethod yX9_isLength ∈ tw := tw_in 1120 (by decide +kernel) rfl
theorem se_X9_isLength : Cond.selects RX9 yX9_isLength yX9_isLength ∈ tw := tw_pv 23 (by decide +kernel) rfl
theorem ml_X9_205 : Cond.methodLink RX9 205 yX9_isLength ∈ tw := tw_in 1118 (by decide +kernel) rfl
theorem cl_X9_203 : Cond.constantLong RX9 203 (Int64.ofInt (80)) ∈ tw := tw_in 1122 (by decide +kernel) rfl
theorem co_X9_read : Cond.code yX9_read cX9_read 10 (some .boolean) ∈ tw := tw_in 1126 (by decide +kernel) rfl
theorem im_X9_read : Cond.instanceMethod yX9_read ∈ tw := tw_in 1125 (by decide +kernel) rfl
theorem se_X9_read : Cond.selects RX9 yX9_read yX9_read ∈ tw := tw_pv 24 (by decide +kernel) rfl
theorem ml_X9_208 : Cond.methodLink RX9 208 yX9_read ∈ tw := tw_in 1123 (by decide +kernel) rfl
theorem co_X9_open : Cond.code yX9_open cX9_open 2 none ∈ tw := tw_in 1130 (by decide +kernel) rfl
theorem im_X9_open : Cond.instanceMethod yX9_open ∈ tw := tw_in 1129 (by decide +kernel) rfl
theorem se_X9_open : Cond.selects RX9 yX9_open yX9_open ∈ tw := tw_pv 25 (by decide +kernel) rfl
theorem ml_X9_121 : Cond.methodLink RX9 121 yX9_open ∈ tw := tw_in 1127 (by decide +kernel) rfl
theorem co_X9_here : Cond.code yX9_here cX9_here 1 (some .int) ∈ tw := tw_in 1134 (by decide +kernel) rfl
theorem im_X9_here : Cond.instanceMethod yX9_here ∈ tw := tw_in 1133 (by decide +kernel) rfl
theorem se_X9_here : Cond.selects RX9 yX9_here yX9_here ∈ tw := tw_pv 26 (by decide +kernel) rfl
theorem ml_X9_89 : Cond.methodLink RX9 89 yX9_here ∈ tw := tw_in 1131 (by decide +kernel) rfl
theorem co_X9_fails : Cond.code yX9_fails cX9_fails 2 (some .boolean) ∈ tw := tw_in 1138 (by decide +kernel) rfl
theorem im_X9_fails : Cond.instanceMethod yX9_fails ∈ tw := tw_in 1137 (by decide +kernel) rfl
theorem se_X9_fails : Cond.selects RX9 yX9_fails yX9_fails ∈ tw := tw_pv 27 (by decide +kernel) rfl
theorem ml_X9_103 : Cond.methodLink RX9 103 yX9_fails ∈ tw := tw_in 1135 (by decide +kernel) rfl
theorem co_X9_isDigit : Cond.code yX9_isDigit cX9_isDigit 1 (some .boolean) ∈ tw := tw_in 1141 (by decide +kernel) rfl
theorem st_X9_isDigit : Cond.static yX9_isDigit ∈ tw := tw_in 1140 (by decide +kernel) rfl
theorem ml_X9_93 : Cond.methodLink RX9 93 yX9_isDigit ∈ tw := tw_in 1139 (by decide +kernel) rfl
theorem cl_X9_82 : Cond.constantLong RX9 82 (Int64.ofInt (48)) ∈ tw := tw_in 1142 (by decide +kernel) rfl
theorem cl_X9_84 : Cond.constantLong RX9 84 (Int64.ofInt (57)) ∈ tw := tw_in 1143 (by decide +kernel) rfl
theorem co_X9_digits : Cond.code yX9_digits cX9_digits 2 none ∈ tw := tw_in 1147 (by decide +kernel) rfl
theorem im_X9_digits : Cond.instanceMethod yX9_digits ∈ tw := tw_in 1146 (by decide +kernel) rfl
theorem se_X9_digits : Cond.selects RX9 yX9_digits yX9_digits ∈ tw := tw_pv 28 (by decide +kernel) rfl
theorem ml_X9_118 : Cond.methodLink RX9 118 yX9_digits ∈ tw := tw_in 1144 (by decide +kernel) rfl
theorem co_X9_simple : Cond.code yX9_simple cX9_simple 5 (some .boolean) ∈ tw := tw_in 1151 (by decide +kernel) rfl
theorem im_X9_simple : Cond.instanceMethod yX9_simple ∈ tw := tw_in 1150 (by decide +kernel) rfl
theorem se_X9_simple : Cond.selects RX9 yX9_simple yX9_simple ∈ tw := tw_pv 29 (by decide +kernel) rfl
theorem ml_X9_125 : Cond.methodLink RX9 125 yX9_simple ∈ tw := tw_in 1148 (by decide +kernel) rfl
theorem co_X9_factor : Cond.code yX9_factor cX9_factor 15 (some .boolean) ∈ tw := tw_in 1155 (by decide +kernel) rfl
theorem im_X9_factor : Cond.instanceMethod yX9_factor ∈ tw := tw_in 1154 (by decide +kernel) rfl
theorem se_X9_factor : Cond.selects RX9 yX9_factor yX9_factor ∈ tw := tw_pv 30 (by decide +kernel) rfl
theorem ml_X9_114 : Cond.methodLink RX9 114 yX9_factor ∈ tw := tw_in 1152 (by decide +kernel) rfl
theorem co_X9_make : Cond.code yX9_make cX9_make 7 none ∈ tw := tw_in 1159 (by decide +kernel) rfl
theorem im_X9_make : Cond.instanceMethod yX9_make ∈ tw := tw_in 1158 (by decide +kernel) rfl
theorem se_X9_make : Cond.selects RX9 yX9_make yX9_make ∈ tw := tw_pv 31 (by decide +kernel) rfl
theorem ml_X9_106 : Cond.methodLink RX9 106 yX9_make ∈ tw := tw_in 1156 (by decide +kernel) rfl
theorem co_X9_gcd : Cond.code yX9_gcd cX9_gcd 10 (some .long) ∈ tw := tw_in 1162 (by decide +kernel) rfl
theorem st_X9_gcd : Cond.static yX9_gcd ∈ tw := tw_in 1161 (by decide +kernel) rfl
theorem ml_X9_52 : Cond.methodLink RX9 52 yX9_gcd ∈ tw := tw_in 1160 (by decide +kernel) rfl
theorem co_X9_isGreat : Cond.code yX9_isGreat cX9_isGreat 1 (some .boolean) ∈ tw := tw_in 1166 (by decide +kernel) rfl
theorem im_X9_isGreat : Cond.instanceMethod yX9_isGreat ∈ tw := tw_in 1165 (by decide +kernel) rfl
theorem se_X9_isGreat : Cond.selects RX9 yX9_isGreat yX9_isGreat ∈ tw := tw_pv 32 (by decide +kernel) rfl
theorem ml_X9_110 : Cond.methodLink RX9 110 yX9_isGreat ∈ tw := tw_in 1163 (by decide +kernel) rfl
theorem cl_X9_63 : Cond.constantLong RX9 63 (Int64.ofInt (-9999)) ∈ tw := tw_in 1167 (by decide +kernel) rfl
theorem cl_X9_65 : Cond.constantLong RX9 65 (Int64.ofInt (9999)) ∈ tw := tw_in 1168 (by decide +kernel) rfl
theorem co_X9_divide : Cond.code yX9_divide cX9_divide 4 (some .boolean) ∈ tw := tw_in 1172 (by decide +kernel) rfl
theorem im_X9_divide : Cond.instanceMethod yX9_divide ∈ tw := tw_in 1171 (by decide +kernel) rfl
theorem se_X9_divide : Cond.selects RX9 yX9_divide yX9_divide ∈ tw := tw_pv 33 (by decide +kernel) rfl
theorem ml_X9_129 : Cond.methodLink RX9 129 yX9_divide ∈ tw := tw_in 1169 (by decide +kernel) rfl
theorem co_X9_term : Cond.code yX9_term cX9_term 8 (some .boolean) ∈ tw := tw_in 1176 (by decide +kernel) rfl
theorem im_X9_term : Cond.instanceMethod yX9_term ∈ tw := tw_in 1175 (by decide +kernel) rfl
theorem se_X9_term : Cond.selects RX9 yX9_term yX9_term ∈ tw := tw_pv 34 (by decide +kernel) rfl
theorem ml_X9_132 : Cond.methodLink RX9 132 yX9_term ∈ tw := tw_in 1173 (by decide +kernel) rfl
theorem cl_X9_135 : Cond.constantLong RX9 135 (Int64.ofInt (2)) ∈ tw := tw_in 1177 (by decide +kernel) rfl
theorem co_X9_copyLine : Cond.code yX9_copyLine cX9_copyLine 4 none ∈ tw := tw_in 1181 (by decide +kernel) rfl
theorem im_X9_copyLine : Cond.instanceMethod yX9_copyLine ∈ tw := tw_in 1180 (by decide +kernel) rfl
theorem se_X9_copyLine : Cond.selects RX9 yX9_copyLine yX9_copyLine ∈ tw := tw_pv 35 (by decide +kernel) rfl
theorem ml_X9_180 : Cond.methodLink RX9 180 yX9_copyLine ∈ tw := tw_in 1178 (by decide +kernel) rfl
theorem co_X9_last : Cond.code yX9_last cX9_last 1 (some .int) ∈ tw := tw_in 1189 (by decide +kernel) rfl
theorem im_X9_last : Cond.instanceMethod yX9_last ∈ tw := tw_in 1188 (by decide +kernel) rfl
theorem se_X9_last : Cond.selects RX9 yX9_last yX9_last ∈ tw := tw_pv 36 (by decide +kernel) rfl
theorem ml_X9_166 : Cond.methodLink RX9 166 yX9_last ∈ tw := tw_in 1186 (by decide +kernel) rfl
theorem co_X9_isPart : Cond.code yX9_isPart cX9_isPart 8 (some .boolean) ∈ tw := tw_in 1193 (by decide +kernel) rfl
theorem im_X9_isPart : Cond.instanceMethod yX9_isPart ∈ tw := tw_in 1192 (by decide +kernel) rfl
theorem se_X9_isPart : Cond.selects RX9 yX9_isPart yX9_isPart ∈ tw := tw_pv 37 (by decide +kernel) rfl
theorem ml_X9_214 : Cond.methodLink RX9 214 yX9_isPart ∈ tw := tw_in 1190 (by decide +kernel) rfl
theorem co_X9_solve : Cond.code yX9_solve cX9_solve 10 none ∈ tw := tw_in 1197 (by decide +kernel) rfl
theorem im_X9_solve : Cond.instanceMethod yX9_solve ∈ tw := tw_in 1196 (by decide +kernel) rfl
theorem se_X9_solve : Cond.selects RX9 yX9_solve yX9_solve ∈ tw := tw_pv 38 (by decide +kernel) rfl
theorem ml_X9_153 : Cond.methodLink RX9 153 yX9_solve ∈ tw := tw_in 1194 (by decide +kernel) rfl
theorem co_X9_solves : Cond.code yX9_solves cX9_solves 6 (some .boolean) ∈ tw := tw_in 1201 (by decide +kernel) rfl
theorem im_X9_solves : Cond.instanceMethod yX9_solves ∈ tw := tw_in 1200 (by decide +kernel) rfl
theorem se_X9_solves : Cond.selects RX9 yX9_solves yX9_solves ∈ tw := tw_pv 39 (by decide +kernel) rfl
theorem ml_X9_156 : Cond.methodLink RX9 156 yX9_solves ∈ tw := tw_in 1198 (by decide +kernel) rfl
theorem co_X9_order : Cond.code yX9_order cX9_order 21 (some .int) ∈ tw := tw_in 1205 (by decide +kernel) rfl
theorem im_X9_order : Cond.instanceMethod yX9_order ∈ tw := tw_in 1204 (by decide +kernel) rfl
theorem se_X9_order : Cond.selects RX9 yX9_order yX9_order ∈ tw := tw_pv 40 (by decide +kernel) rfl
theorem ml_X9_149 : Cond.methodLink RX9 149 yX9_order ∈ tw := tw_in 1202 (by decide +kernel) rfl
theorem co_X9_down : Cond.code yX9_down cX9_down 4 (some .long) ∈ tw := tw_in 1208 (by decide +kernel) rfl
theorem st_X9_down : Cond.static yX9_down ∈ tw := tw_in 1207 (by decide +kernel) rfl
theorem ml_X9_146 : Cond.methodLink RX9 146 yX9_down ∈ tw := tw_in 1206 (by decide +kernel) rfl
theorem co_X9_plan : Cond.code yX9_plan cX9_plan 3 (some .int) ∈ tw := tw_in 1212 (by decide +kernel) rfl
theorem im_X9_plan : Cond.instanceMethod yX9_plan ∈ tw := tw_in 1211 (by decide +kernel) rfl
theorem se_X9_plan : Cond.selects RX9 yX9_plan yX9_plan ∈ tw := tw_pv 41 (by decide +kernel) rfl
theorem ml_X9_217 : Cond.methodLink RX9 217 yX9_plan ∈ tw := tw_in 1209 (by decide +kernel) rfl
theorem co_X9_above : Cond.code yX9_above cX9_above 2 (some .long) ∈ tw := tw_in 1216 (by decide +kernel) rfl
theorem im_X9_above : Cond.instanceMethod yX9_above ∈ tw := tw_in 1215 (by decide +kernel) rfl
theorem se_X9_above : Cond.selects RX9 yX9_above yX9_above ∈ tw := tw_pv 42 (by decide +kernel) rfl
theorem ml_X9_169 : Cond.methodLink RX9 169 yX9_above ∈ tw := tw_in 1213 (by decide +kernel) rfl
theorem co_X9_join : Cond.code yX9_join cX9_join 8 none ∈ tw := tw_in 1220 (by decide +kernel) rfl
theorem im_X9_join : Cond.instanceMethod yX9_join ∈ tw := tw_in 1219 (by decide +kernel) rfl
theorem se_X9_join : Cond.selects RX9 yX9_join yX9_join ∈ tw := tw_pv 43 (by decide +kernel) rfl
theorem ml_X9_184 : Cond.methodLink RX9 184 yX9_join ∈ tw := tw_in 1217 (by decide +kernel) rfl
theorem co_X9_below : Cond.code yX9_below cX9_below 2 (some .long) ∈ tw := tw_in 1224 (by decide +kernel) rfl
theorem im_X9_below : Cond.instanceMethod yX9_below ∈ tw := tw_in 1223 (by decide +kernel) rfl
theorem se_X9_below : Cond.selects RX9 yX9_below yX9_below ∈ tw := tw_pv 44 (by decide +kernel) rfl
theorem ml_X9_173 : Cond.methodLink RX9 173 yX9_below ∈ tw := tw_in 1221 (by decide +kernel) rfl
theorem co_X9_write : Cond.code yX9_write cX9_write 7 none ∈ tw := tw_in 1228 (by decide +kernel) rfl
theorem im_X9_write : Cond.instanceMethod yX9_write ∈ tw := tw_in 1227 (by decide +kernel) rfl
theorem se_X9_write : Cond.selects RX9 yX9_write yX9_write ∈ tw := tw_pv 45 (by decide +kernel) rfl
theorem ml_X9_176 : Cond.methodLink RX9 176 yX9_write ∈ tw := tw_in 1225 (by decide +kernel) rfl
theorem co_X9_isOne : Cond.code yX9_isOne cX9_isOne 2 (some .boolean) ∈ tw := tw_in 1232 (by decide +kernel) rfl
theorem im_X9_isOne : Cond.instanceMethod yX9_isOne ∈ tw := tw_in 1231 (by decide +kernel) rfl
theorem se_X9_isOne : Cond.selects RX9 yX9_isOne yX9_isOne ∈ tw := tw_pv 46 (by decide +kernel) rfl
theorem ml_X9_188 : Cond.methodLink RX9 188 yX9_isOne ∈ tw := tw_in 1229 (by decide +kernel) rfl
theorem cl_X9_191 : Cond.constantLong RX9 191 (Int64.ofInt (3)) ∈ tw := tw_in 1233 (by decide +kernel) rfl
theorem co_X9_isSame : Cond.code yX9_isSame cX9_isSame 5 (some .boolean) ∈ tw := tw_in 1237 (by decide +kernel) rfl
theorem im_X9_isSame : Cond.instanceMethod yX9_isSame ∈ tw := tw_in 1236 (by decide +kernel) rfl
theorem se_X9_isSame : Cond.selects RX9 yX9_isSame yX9_isSame ∈ tw := tw_pv 47 (by decide +kernel) rfl
theorem ml_X9_196 : Cond.methodLink RX9 196 yX9_isSame ∈ tw := tw_in 1234 (by decide +kernel) rfl
theorem co_X9_explained : Cond.code yX9_explained cX9_explained 2 (some .int) ∈ tw := tw_in 1241 (by decide +kernel) rfl
theorem im_X9_explained : Cond.instanceMethod yX9_explained ∈ tw := tw_in 1240 (by decide +kernel) rfl
theorem se_X9_explained : Cond.selects RX9 yX9_explained yX9_explained ∈ tw := tw_pv 48 (by decide +kernel) rfl
theorem ml_X9_220 : Cond.methodLink RX9 220 yX9_explained ∈ tw := tw_in 1238 (by decide +kernel) rfl
theorem co_X9_slips : Cond.code yX9_slips cX9_slips 5 (some .boolean) ∈ tw := tw_in 1245 (by decide +kernel) rfl
theorem im_X9_slips : Cond.instanceMethod yX9_slips ∈ tw := tw_in 1244 (by decide +kernel) rfl
theorem se_X9_slips : Cond.selects RX9 yX9_slips yX9_slips ∈ tw := tw_pv 49 (by decide +kernel) rfl
theorem ml_X9_200 : Cond.methodLink RX9 200 yX9_slips ∈ tw := tw_in 1242 (by decide +kernel) rfl
theorem co_X9_scaled : Cond.code yX9_scaled cX9_scaled 3 none ∈ tw := tw_in 1249 (by decide +kernel) rfl
theorem im_X9_scaled : Cond.instanceMethod yX9_scaled ∈ tw := tw_in 1248 (by decide +kernel) rfl
theorem se_X9_scaled : Cond.selects RX9 yX9_scaled yX9_scaled ∈ tw := tw_pv 50 (by decide +kernel) rfl
theorem ml_X9_193 : Cond.methodLink RX9 193 yX9_scaled ∈ tw := tw_in 1246 (by decide +kernel) rfl
theorem cl_X9_226 : Cond.constantLong RX9 226 (Int64.ofInt (-1)) ∈ tw := tw_in 1258 (by decide +kernel) rfl
theorem co_X9_parts : Cond.code yX9_parts cX9_parts 11 (some .boolean) ∈ tw := tw_in 1262 (by decide +kernel) rfl
theorem im_X9_parts : Cond.instanceMethod yX9_parts ∈ tw := tw_in 1261 (by decide +kernel) rfl
theorem se_X9_parts : Cond.selects RX9 yX9_parts yX9_parts ∈ tw := tw_pv 51 (by decide +kernel) rfl
theorem ml_X9_228 : Cond.methodLink RX9 228 yX9_parts ∈ tw := tw_in 1259 (by decide +kernel) rfl
theorem co_X9_isTask : Cond.code yX9_isTask cX9_isTask 1 (some .boolean) ∈ tw := tw_in 1270 (by decide +kernel) rfl
theorem im_X9_isTask : Cond.instanceMethod yX9_isTask ∈ tw := tw_in 1269 (by decide +kernel) rfl
theorem se_X9_isTask : Cond.selects RX9 yX9_isTask yX9_isTask ∈ tw := tw_pv 52 (by decide +kernel) rfl
theorem ml_X9_231 : Cond.methodLink RX9 231 yX9_isTask ∈ tw := tw_in 1267 (by decide +kernel) rfl
theorem cl_X9_234 : Cond.constantLong RX9 234 (Int64.ofInt (8)) ∈ tw := tw_in 1283 (by decide +kernel) rfl
theorem co_X9_side : Cond.code yX9_side cX9_side 3 none ∈ tw := tw_in 1295 (by decide +kernel) rfl
theorem im_X9_side : Cond.instanceMethod yX9_side ∈ tw := tw_in 1294 (by decide +kernel) rfl
theorem se_X9_side : Cond.selects RX9 yX9_side yX9_side ∈ tw := tw_pv 53 (by decide +kernel) rfl
theorem ml_X9_253 : Cond.methodLink RX9 253 yX9_side ∈ tw := tw_in 1292 (by decide +kernel) rfl
theorem co_X9_give : Cond.code yX9_give cX9_give 2 none ∈ tw := tw_in 1299 (by decide +kernel) rfl
theorem im_X9_give : Cond.instanceMethod yX9_give ∈ tw := tw_in 1298 (by decide +kernel) rfl
theorem se_X9_give : Cond.selects RX9 yX9_give yX9_give ∈ tw := tw_pv 54 (by decide +kernel) rfl
theorem ml_X9_243 : Cond.methodLink RX9 243 yX9_give ∈ tw := tw_in 1296 (by decide +kernel) rfl
theorem co_X9_size : Cond.code yX9_size cX9_size 5 none ∈ tw := tw_in 1303 (by decide +kernel) rfl
theorem im_X9_size : Cond.instanceMethod yX9_size ∈ tw := tw_in 1302 (by decide +kernel) rfl
theorem se_X9_size : Cond.selects RX9 yX9_size yX9_size ∈ tw := tw_pv 55 (by decide +kernel) rfl
theorem ml_X9_250 : Cond.methodLink RX9 250 yX9_size ∈ tw := tw_in 1300 (by decide +kernel) rfl
theorem co_X9_decimal : Cond.code yX9_decimal cX9_decimal 4 none ∈ tw := tw_in 1307 (by decide +kernel) rfl
theorem im_X9_decimal : Cond.instanceMethod yX9_decimal ∈ tw := tw_in 1306 (by decide +kernel) rfl
theorem se_X9_decimal : Cond.selects RX9 yX9_decimal yX9_decimal ∈ tw := tw_pv 56 (by decide +kernel) rfl
theorem ml_X9_246 : Cond.methodLink RX9 246 yX9_decimal ∈ tw := tw_in 1304 (by decide +kernel) rfl
theorem cl_X9_239 : Cond.constantLong RX9 239 (Int64.ofInt (9)) ∈ tw := tw_in 1308 (by decide +kernel) rfl
theorem cl_X9_241 : Cond.constantLong RX9 241 (Int64.ofInt (10)) ∈ tw := tw_in 1309 (by decide +kernel) rfl
theorem in_J9 : Cond.initialized RJ9 ∈ tw := tw_in 17 (by decide +kernel) rfl
theorem in_J13 : Cond.initialized RJ13 ∈ tw := tw_in 19 (by decide +kernel) rfl
end
section
/-! a row a field (gf read, pf written), a row a call (cs), by program: wip/whole/gen/links.py -/
section TLK
variable {p : Program} {l : Launch} {e : Env} {R : Room} {s : State} {m : MethodId} {args : Array Value} {below : List Frame} {meth : Method} {c : Code} {H : Heap} {locs : List Loc} {cells slots : Nat} {Q : State → Prop}
variable {cc : ByteArray} {pc : Nat} {ls : Array Slot} {rest : List Value} {G : tm_G} {Hb H0 : Heap} {sh : tm_sh} {M : tm_M} {a b nL : Nat} {mc ms : Nat} {rm : Room} {Qc : Array Value → State → Outcome → State → Prop} {a1 a2 a3 a4 a5 : Value}
theorem gf_X0_17 (hexec : p.tables.exec = Jvm.exec) (hb : c.code = cc) (htw : ∀ w ∈ tw, w.before args s = true) (hown : s.vm.findClass RX0 = some m.cls) (hK : va_K G.1 vwCl (tm_tys G) s) (hW : tm_W G Hb sh M H) (hq : sh a = some (2, 0)) (hdg : decode cc pc = .ok (.getfield 17, 3)) (kk : W p l e R s m args below meth c H locs cells slots Q (F0 m (pc + 3) ls (jl (mL M a 0) :: rest))) : W p l e R s m args below meth c H locs cells slots Q (F0 m pc ls (.ref a :: rest)) := tm_get hexec hb htw ly_X0 hown hK hW hq (by decide) rfl 0 (by decide) (htw _ fl_X0_17) (fun _ h => h) hdg kk
theorem pf_X0_17 (hexec : p.tables.exec = Jvm.exec) (hb : c.code = cc) (htw : ∀ w ∈ tw, w.before args s = true) (hown : s.vm.findClass RX0 = some m.cls) (hK : va_K G.1 vwCl (tm_tys G) s) (hW : tm_W G Hb sh M H) (hq : sh a = some (2, 0)) (hS : va_S (tm_A Hb) H0 H locs) {v : Int} (hdg : decode cc pc = .ok (.putfield 17, 3)) (kk : ∀ (H1 : Heap) (locs1 : List Loc), tm_W G Hb sh (sL M a 0 v) H1 → va_S (tm_A Hb) H0 H1 locs1 → W p l e R s m args below meth c H1 locs1 cells slots Q (F0 m (pc + 3) ls (rest))) : W p l e R s m args below meth c H locs cells slots Q (F0 m pc ls (jl v :: .ref a :: rest)) := tm_put hexec hb htw ly_X0 tyX0 tyX0_ok nmX0 hown hK hW hS hq (by decide) rfl 0 (by decide) (htw _ fl_X0_17) (fun _ h => h) rfl (tyX0_ok 0 (by decide)) rfl rfl (M' := sL M a 0 v) ((tm_V1 rfl _ a).trans (by rw [show mL (sL M a 0 v) a 0 = v from tm_up_s _ _ _ _])) (fun kd q j h => tm_V_sL h) hdg kk
theorem gf_X7_62 (hexec : p.tables.exec = Jvm.exec) (hb : c.code = cc) (htw : ∀ w ∈ tw, w.before args s = true) (hown : s.vm.findClass RX7 = some m.cls) (hK : va_K G.1 vwCl (tm_tys G) s) (hW : tm_W G Hb sh M H) (hq : sh a = some (2, 0)) (hdg : decode cc pc = .ok (.getfield 62, 3)) (kk : W p l e R s m args below meth c H locs cells slots Q (F0 m (pc + 3) ls (jl (mL M a 0) :: rest))) : W p l e R s m args below meth c H locs cells slots Q (F0 m pc ls (.ref a :: rest)) := tm_get hexec hb htw ly_X0 hown hK hW hq (by decide) rfl 0 (by decide) (htw _ fl_X7_62) (fun _ h => h) hdg kk
theorem pf_X7_62 (hexec : p.tables.exec = Jvm.exec) (hb : c.code = cc) (htw : ∀ w ∈ tw, w.before args s = true) (hown : s.vm.findClass RX7 = some m.cls) (hK : va_K G.1 vwCl (tm_tys G) s) (hW : tm_W G Hb sh M H) (hq : sh a = some (2, 0)) (hS : va_S (tm_A Hb) H0 H locs) {v : Int} (hdg : decode cc pc = .ok (.putfield 62, 3)) (kk : ∀ (H1 : Heap) (locs1 : List Loc), tm_W G Hb sh (sL M a 0 v) H1 → va_S (tm_A Hb) H0 H1 locs1 → W p l e R s m args below meth c H1 locs1 cells slots Q (F0 m (pc + 3) ls (rest))) : W p l e R s m args below meth c H locs cells slots Q (F0 m pc ls (jl v :: .ref a :: rest)) := tm_put hexec hb htw ly_X0 tyX0 tyX0_ok nmX0 hown hK hW hS hq (by decide) rfl 0 (by decide) (htw _ fl_X7_62) (fun _ h => h) rfl (tyX0_ok 0 (by decide)) rfl rfl (M' := sL M a 0 v) ((tm_V1 rfl _ a).trans (by rw [show mL (sL M a 0 v) a 0 = v from tm_up_s _ _ _ _])) (fun kd q j h => tm_V_sL h) hdg kk
theorem gf_X3_63 (hexec : p.tables.exec = Jvm.exec) (hb : c.code = cc) (htw : ∀ w ∈ tw, w.before args s = true) (hown : s.vm.findClass RX3 = some m.cls) (hK : va_K G.1 vwCl (tm_tys G) s) (hW : tm_W G Hb sh M H) (hq : sh a = some (2, 0)) (hdg : decode cc pc = .ok (.getfield 63, 3)) (kk : W p l e R s m args below meth c H locs cells slots Q (F0 m (pc + 3) ls (jl (mL M a 0) :: rest))) : W p l e R s m args below meth c H locs cells slots Q (F0 m pc ls (.ref a :: rest)) := tm_get hexec hb htw ly_X0 hown hK hW hq (by decide) rfl 0 (by decide) (htw _ fl_X3_63) (fun _ h => h) hdg kk
theorem pf_X3_63 (hexec : p.tables.exec = Jvm.exec) (hb : c.code = cc) (htw : ∀ w ∈ tw, w.before args s = true) (hown : s.vm.findClass RX3 = some m.cls) (hK : va_K G.1 vwCl (tm_tys G) s) (hW : tm_W G Hb sh M H) (hq : sh a = some (2, 0)) (hS : va_S (tm_A Hb) H0 H locs) {v : Int} (hdg : decode cc pc = .ok (.putfield 63, 3)) (kk : ∀ (H1 : Heap) (locs1 : List Loc), tm_W G Hb sh (sL M a 0 v) H1 → va_S (tm_A Hb) H0 H1 locs1 → W p l e R s m args below meth c H1 locs1 cells slots Q (F0 m (pc + 3) ls (rest))) : W p l e R s m args below meth c H locs cells slots Q (F0 m pc ls (jl v :: .ref a :: rest)) := tm_put hexec hb htw ly_X0 tyX0 tyX0_ok nmX0 hown hK hW hS hq (by decide) rfl 0 (by decide) (htw _ fl_X3_63) (fun _ h => h) rfl (tyX0_ok 0 (by decide)) rfl rfl (M' := sL M a 0 v) ((tm_V1 rfl _ a).trans (by rw [show mL (sL M a 0 v) a 0 = v from tm_up_s _ _ _ _])) (fun kd q j h => tm_V_sL h) hdg kk
theorem gf_X2_70 (hexec : p.tables.exec = Jvm.exec) (hb : c.code = cc) (htw : ∀ w ∈ tw, w.before args s = true) (hown : s.vm.findClass RX2 = some m.cls) (hK : va_K G.1 vwCl (tm_tys G) s) (hW : tm_W G Hb sh M H) (hq : sh a = some (2, 0)) (hdg : decode cc pc = .ok (.getfield 70, 3)) (kk : W p l e R s m args below meth c H locs cells slots Q (F0 m (pc + 3) ls (jl (mL M a 0) :: rest))) : W p l e R s m args below meth c H locs cells slots Q (F0 m pc ls (.ref a :: rest)) := tm_get hexec hb htw ly_X0 hown hK hW hq (by decide) rfl 0 (by decide) (htw _ fl_X2_70) (fun _ h => h) hdg kk
theorem pf_X2_70 (hexec : p.tables.exec = Jvm.exec) (hb : c.code = cc) (htw : ∀ w ∈ tw, w.before args s = true) (hown : s.vm.findClass RX2 = some m.cls) (hK : va_K G.1 vwCl (tm_tys G) s) (hW : tm_W G Hb sh M H) (hq : sh a = some (2, 0)) (hS : va_S (tm_A Hb) H0 H locs) {v : Int} (hdg : decode cc pc = .ok (.putfield 70, 3)) (kk : ∀ (H1 : Heap) (locs1 : List Loc), tm_W G Hb sh (sL M a 0 v) H1 → va_S (tm_A Hb) H0 H1 locs1 → W p l e R s m args below meth c H1 locs1 cells slots Q (F0 m (pc + 3) ls (rest))) : W p l e R s m args below meth c H locs cells slots Q (F0 m pc ls (jl v :: .ref a :: rest)) := tm_put hexec hb htw ly_X0 tyX0 tyX0_ok nmX0 hown hK hW hS hq (by decide) rfl 0 (by decide) (htw _ fl_X2_70) (fun _ h => h) rfl (tyX0_ok 0 (by decide)) rfl rfl (M' := sL M a 0 v) ((tm_V1 rfl _ a).trans (by rw [show mL (sL M a 0 v) a 0 = v from tm_up_s _ _ _ _])) (fun kd q j h => tm_V_sL h) hdg kk
theorem gf_X8_117 (hexec : p.tables.exec = Jvm.exec) (hb : c.code = cc) (htw : ∀ w ∈ tw, w.before args s = true) (hown : s.vm.findClass RX8 = some m.cls) (hK : va_K G.1 vwCl (tm_tys G) s) (hW : tm_W G Hb sh M H) (hq : sh a = some (2, 0)) (hdg : decode cc pc = .ok (.getfield 117, 3)) (kk : W p l e R s m args below meth c H locs cells slots Q (F0 m (pc + 3) ls (jl (mL M a 0) :: rest))) : W p l e R s m args below meth c H locs cells slots Q (F0 m pc ls (.ref a :: rest)) := tm_get hexec hb htw ly_X0 hown hK hW hq (by decide) rfl 0 (by decide) (htw _ fl_X8_117) (fun _ h => h) hdg kk
theorem pf_X8_117 (hexec : p.tables.exec = Jvm.exec) (hb : c.code = cc) (htw : ∀ w ∈ tw, w.before args s = true) (hown : s.vm.findClass RX8 = some m.cls) (hK : va_K G.1 vwCl (tm_tys G) s) (hW : tm_W G Hb sh M H) (hq : sh a = some (2, 0)) (hS : va_S (tm_A Hb) H0 H locs) {v : Int} (hdg : decode cc pc = .ok (.putfield 117, 3)) (kk : ∀ (H1 : Heap) (locs1 : List Loc), tm_W G Hb sh (sL M a 0 v) H1 → va_S (tm_A Hb) H0 H1 locs1 → W p l e R s m args below meth c H1 locs1 cells slots Q (F0 m (pc + 3) ls (rest))) : W p l e R s m args below meth c H locs cells slots Q (F0 m pc ls (jl v :: .ref a :: rest)) := tm_put hexec hb htw ly_X0 tyX0 tyX0_ok nmX0 hown hK hW hS hq (by decide) rfl 0 (by decide) (htw _ fl_X8_117) (fun _ h => h) rfl (tyX0_ok 0 (by decide)) rfl rfl (M' := sL M a 0 v) ((tm_V1 rfl _ a).trans (by rw [show mL (sL M a 0 v) a 0 = v from tm_up_s _ _ _ _])) (fun kd q j h => tm_V_sL h) hdg kk
theorem gf_X0_7 (hexec : p.tables.exec = Jvm.exec) (hb : c.code = cc) (htw : ∀ w ∈ tw, w.before args s = true) (hown : s.vm.findClass RX0 = some m.cls) (hK : va_K G.1 vwCl (tm_tys G) s) (hW : tm_W G Hb sh M H) (hq : sh a = some (2, 0)) (hdg : decode cc pc = .ok (.getfield 7, 3)) (kk : W p l e R s m args below meth c H locs cells slots Q (F0 m (pc + 3) ls (jl (mL M a 1) :: rest))) : W p l e R s m args below meth c H locs cells slots Q (F0 m pc ls (.ref a :: rest)) := tm_get hexec hb htw ly_X0 hown hK hW hq (by decide) rfl 1 (by decide) (htw _ fl_X0_7) (fun _ h => h) hdg kk
theorem pf_X0_7 (hexec : p.tables.exec = Jvm.exec) (hb : c.code = cc) (htw : ∀ w ∈ tw, w.before args s = true) (hown : s.vm.findClass RX0 = some m.cls) (hK : va_K G.1 vwCl (tm_tys G) s) (hW : tm_W G Hb sh M H) (hq : sh a = some (2, 0)) (hS : va_S (tm_A Hb) H0 H locs) {v : Int} (hdg : decode cc pc = .ok (.putfield 7, 3)) (kk : ∀ (H1 : Heap) (locs1 : List Loc), tm_W G Hb sh (sL M a 1 v) H1 → va_S (tm_A Hb) H0 H1 locs1 → W p l e R s m args below meth c H1 locs1 cells slots Q (F0 m (pc + 3) ls (rest))) : W p l e R s m args below meth c H locs cells slots Q (F0 m pc ls (jl v :: .ref a :: rest)) := tm_put hexec hb htw ly_X0 tyX0 tyX0_ok nmX0 hown hK hW hS hq (by decide) rfl 1 (by decide) (htw _ fl_X0_7) (fun _ h => h) rfl (tyX0_ok 1 (by decide)) rfl rfl (M' := sL M a 1 v) ((tm_V1 rfl _ a).trans (by rw [show mL (sL M a 1 v) a 1 = v from tm_up_s _ _ _ _])) (fun kd q j h => tm_V_sL h) hdg kk
theorem gf_X8_121 (hexec : p.tables.exec = Jvm.exec) (hb : c.code = cc) (htw : ∀ w ∈ tw, w.before args s = true) (hown : s.vm.findClass RX8 = some m.cls) (hK : va_K G.1 vwCl (tm_tys G) s) (hW : tm_W G Hb sh M H) (hq : sh a = some (2, 0)) (hdg : decode cc pc = .ok (.getfield 121, 3)) (kk : W p l e R s m args below meth c H locs cells slots Q (F0 m (pc + 3) ls (jl (mL M a 1) :: rest))) : W p l e R s m args below meth c H locs cells slots Q (F0 m pc ls (.ref a :: rest)) := tm_get hexec hb htw ly_X0 hown hK hW hq (by decide) rfl 1 (by decide) (htw _ fl_X8_121) (fun _ h => h) hdg kk
theorem pf_X8_121 (hexec : p.tables.exec = Jvm.exec) (hb : c.code = cc) (htw : ∀ w ∈ tw, w.before args s = true) (hown : s.vm.findClass RX8 = some m.cls) (hK : va_K G.1 vwCl (tm_tys G) s) (hW : tm_W G Hb sh M H) (hq : sh a = some (2, 0)) (hS : va_S (tm_A Hb) H0 H locs) {v : Int} (hdg : decode cc pc = .ok (.putfield 121, 3)) (kk : ∀ (H1 : Heap) (locs1 : List Loc), tm_W G Hb sh (sL M a 1 v) H1 → va_S (tm_A Hb) H0 H1 locs1 → W p l e R s m args below meth c H1 locs1 cells slots Q (F0 m (pc + 3) ls (rest))) : W p l e R s m args below meth c H locs cells slots Q (F0 m pc ls (jl v :: .ref a :: rest)) := tm_put hexec hb htw ly_X0 tyX0 tyX0_ok nmX0 hown hK hW hS hq (by decide) rfl 1 (by decide) (htw _ fl_X8_121) (fun _ h => h) rfl (tyX0_ok 1 (by decide)) rfl rfl (M' := sL M a 1 v) ((tm_V1 rfl _ a).trans (by rw [show mL (sL M a 1 v) a 1 = v from tm_up_s _ _ _ _])) (fun kd q j h => tm_V_sL h) hdg kk
theorem gf_X2_97 (hexec : p.tables.exec = Jvm.exec) (hb : c.code = cc) (htw : ∀ w ∈ tw, w.before args s = true) (hown : s.vm.findClass RX2 = some m.cls) (hK : va_K G.1 vwCl (tm_tys G) s) (hW : tm_W G Hb sh M H) (hq : sh a = some (2, 0)) (hdg : decode cc pc = .ok (.getfield 97, 3)) (kk : W p l e R s m args below meth c H locs cells slots Q (F0 m (pc + 3) ls (jl (mL M a 1) :: rest))) : W p l e R s m args below meth c H locs cells slots Q (F0 m pc ls (.ref a :: rest)) := tm_get hexec hb htw ly_X0 hown hK hW hq (by decide) rfl 1 (by decide) (htw _ fl_X2_97) (fun _ h => h) hdg kk
theorem pf_X2_97 (hexec : p.tables.exec = Jvm.exec) (hb : c.code = cc) (htw : ∀ w ∈ tw, w.before args s = true) (hown : s.vm.findClass RX2 = some m.cls) (hK : va_K G.1 vwCl (tm_tys G) s) (hW : tm_W G Hb sh M H) (hq : sh a = some (2, 0)) (hS : va_S (tm_A Hb) H0 H locs) {v : Int} (hdg : decode cc pc = .ok (.putfield 97, 3)) (kk : ∀ (H1 : Heap) (locs1 : List Loc), tm_W G Hb sh (sL M a 1 v) H1 → va_S (tm_A Hb) H0 H1 locs1 → W p l e R s m args below meth c H1 locs1 cells slots Q (F0 m (pc + 3) ls (rest))) : W p l e R s m args below meth c H locs cells slots Q (F0 m pc ls (jl v :: .ref a :: rest)) := tm_put hexec hb htw ly_X0 tyX0 tyX0_ok nmX0 hown hK hW hS hq (by decide) rfl 1 (by decide) (htw _ fl_X2_97) (fun _ h => h) rfl (tyX0_ok 1 (by decide)) rfl rfl (M' := sL M a 1 v) ((tm_V1 rfl _ a).trans (by rw [show mL (sL M a 1 v) a 1 = v from tm_up_s _ _ _ _])) (fun kd q j h => tm_V_sL h) hdg kk
theorem gf_X5_10 (hexec : p.tables.exec = Jvm.exec) (hb : c.code = cc) (htw : ∀ w ∈ tw, w.before args s = true) (hown : s.vm.findClass RX5 = some m.cls) (hK : va_K G.1 vwCl (tm_tys G) s) (hW : tm_W G Hb sh M H) (hq : sh a = some (6, 0)) (hr : mR M a 0 = some b) (hdg : decode cc pc = .ok (.getfield 10, 3)) (kk : W p l e R s m args below meth c H locs cells slots Q (F0 m (pc + 3) ls (.ref b :: rest))) : W p l e R s m args below meth c H locs cells slots Q (F0 m pc ls (.ref a :: rest)) := tm_get hexec hb htw ly_X5 hown hK hW hq (by decide) rfl 0 (by decide) (htw _ fl_X5_10) (fun _ h => h) hdg (by rw [tm_V2 rfl M a, hr]; exact kk)
theorem pf_X5_10 (hexec : p.tables.exec = Jvm.exec) (hb : c.code = cc) (htw : ∀ w ∈ tw, w.before args s = true) (hown : s.vm.findClass RX5 = some m.cls) (hK : va_K G.1 vwCl (tm_tys G) s) (hW : tm_W G Hb sh M H) (hq : sh a = some (6, 0)) (hS : va_S (tm_A Hb) H0 H locs) (hin : meth.name = "<init>") {v : Nat} (hdg : decode cc pc = .ok (.putfield 10, 3)) (kk : ∀ (H1 : Heap) (locs1 : List Loc), tm_W G Hb sh (sR M a 0 (some v)) H1 → va_S (tm_A Hb) H0 H1 locs1 → W p l e R s m args below meth c H1 locs1 cells slots Q (F0 m (pc + 3) ls (rest))) : W p l e R s m args below meth c H locs cells slots Q (F0 m pc ls (.ref v :: .ref a :: rest)) := tm_putF hexec hb htw ly_X5 tyX5 tyX5_ok nmX5 hown hK hW hS hq (by decide) rfl 0 (by decide) (htw _ fl_X5_10) (fun _ h => h) rfl hin rfl (tyX5_ok 0 (by decide)) rfl rfl (M' := sR M a 0 (some v)) ((tm_V2 rfl _ a).trans (by rw [show mR (sR M a 0 (some v)) a 0 = _ from tm_up_s _ _ _ _]; rfl)) (fun kd q j h => tm_V_sR h) hdg kk
theorem gf_X7_25 (hexec : p.tables.exec = Jvm.exec) (hb : c.code = cc) (htw : ∀ w ∈ tw, w.before args s = true) (hown : s.vm.findClass RX7 = some m.cls) (hK : va_K G.1 vwCl (tm_tys G) s) (hW : tm_W G Hb sh M H) (hq : sh a = some (6, 0)) (hr : mR M a 0 = some b) (hdg : decode cc pc = .ok (.getfield 25, 3)) (kk : W p l e R s m args below meth c H locs cells slots Q (F0 m (pc + 3) ls (.ref b :: rest))) : W p l e R s m args below meth c H locs cells slots Q (F0 m pc ls (.ref a :: rest)) := tm_get hexec hb htw ly_X5 hown hK hW hq (by decide) rfl 0 (by decide) (htw _ fl_X7_25) (fun _ h => h) hdg (by rw [tm_V2 rfl M a, hr]; exact kk)
theorem gf_X3_23 (hexec : p.tables.exec = Jvm.exec) (hb : c.code = cc) (htw : ∀ w ∈ tw, w.before args s = true) (hown : s.vm.findClass RX3 = some m.cls) (hK : va_K G.1 vwCl (tm_tys G) s) (hW : tm_W G Hb sh M H) (hq : sh a = some (6, 0)) (hr : mR M a 0 = some b) (hdg : decode cc pc = .ok (.getfield 23, 3)) (kk : W p l e R s m args below meth c H locs cells slots Q (F0 m (pc + 3) ls (.ref b :: rest))) : W p l e R s m args below meth c H locs cells slots Q (F0 m pc ls (.ref a :: rest)) := tm_get hexec hb htw ly_X5 hown hK hW hq (by decide) rfl 0 (by decide) (htw _ fl_X3_23) (fun _ h => h) hdg (by rw [tm_V2 rfl M a, hr]; exact kk)
theorem gf_X6_27 (hexec : p.tables.exec = Jvm.exec) (hb : c.code = cc) (htw : ∀ w ∈ tw, w.before args s = true) (hown : s.vm.findClass RX6 = some m.cls) (hK : va_K G.1 vwCl (tm_tys G) s) (hW : tm_W G Hb sh M H) (hq : sh a = some (6, 0)) (hr : mR M a 0 = some b) (hdg : decode cc pc = .ok (.getfield 27, 3)) (kk : W p l e R s m args below meth c H locs cells slots Q (F0 m (pc + 3) ls (.ref b :: rest))) : W p l e R s m args below meth c H locs cells slots Q (F0 m pc ls (.ref a :: rest)) := tm_get hexec hb htw ly_X5 hown hK hW hq (by decide) rfl 0 (by decide) (htw _ fl_X6_27) (fun _ h => h) hdg (by rw [tm_V2 rfl M a, hr]; exact kk)
theorem gf_X2_55 (hexec : p.tables.exec = Jvm.exec) (hb : c.code = cc) (htw : ∀ w ∈ tw, w.before args s = true) (hown : s.vm.findClass RX2 = some m.cls) (hK : va_K G.1 vwCl (tm_tys G) s) (hW : tm_W G Hb sh M H) (hq : sh a = some (6, 0)) (hr : mR M a 0 = some b) (hdg : decode cc pc = .ok (.getfield 55, 3)) (kk : W p l e R s m args below meth c H locs cells slots Q (F0 m (pc + 3) ls (.ref b :: rest))) : W p l e R s m args below meth c H locs cells slots Q (F0 m pc ls (.ref a :: rest)) := tm_get hexec hb htw ly_X5 hown hK hW hq (by decide) rfl 0 (by decide) (htw _ fl_X2_55) (fun _ h => h) hdg (by rw [tm_V2 rfl M a, hr]; exact kk)
theorem gf_X4_101 (hexec : p.tables.exec = Jvm.exec) (hb : c.code = cc) (htw : ∀ w ∈ tw, w.before args s = true) (hown : s.vm.findClass RX4 = some m.cls) (hK : va_K G.1 vwCl (tm_tys G) s) (hW : tm_W G Hb sh M H) (hq : sh a = some (6, 0)) (hr : mR M a 0 = some b) (hdg : decode cc pc = .ok (.getfield 101, 3)) (kk : W p l e R s m args below meth c H locs cells slots Q (F0 m (pc + 3) ls (.ref b :: rest))) : W p l e R s m args below meth c H locs cells slots Q (F0 m pc ls (.ref a :: rest)) := tm_get hexec hb htw ly_X5 hown hK hW hq (by decide) rfl 0 (by decide) (htw _ fl_X4_101) (fun _ h => h) hdg (by rw [tm_V2 rfl M a, hr]; exact kk)
theorem gf_X8_140 (hexec : p.tables.exec = Jvm.exec) (hb : c.code = cc) (htw : ∀ w ∈ tw, w.before args s = true) (hown : s.vm.findClass RX8 = some m.cls) (hK : va_K G.1 vwCl (tm_tys G) s) (hW : tm_W G Hb sh M H) (hq : sh a = some (6, 0)) (hr : mR M a 0 = some b) (hdg : decode cc pc = .ok (.getfield 140, 3)) (kk : W p l e R s m args below meth c H locs cells slots Q (F0 m (pc + 3) ls (.ref b :: rest))) : W p l e R s m args below meth c H locs cells slots Q (F0 m pc ls (.ref a :: rest)) := tm_get hexec hb htw ly_X5 hown hK hW hq (by decide) rfl 0 (by decide) (htw _ fl_X8_140) (fun _ h => h) hdg (by rw [tm_V2 rfl M a, hr]; exact kk)
theorem gf_X5_16 (hexec : p.tables.exec = Jvm.exec) (hb : c.code = cc) (htw : ∀ w ∈ tw, w.before args s = true) (hown : s.vm.findClass RX5 = some m.cls) (hK : va_K G.1 vwCl (tm_tys G) s) (hW : tm_W G Hb sh M H) (hq : sh a = some (6, 0)) (hr : mR M a 1 = some b) (hdg : decode cc pc = .ok (.getfield 16, 3)) (kk : W p l e R s m args below meth c H locs cells slots Q (F0 m (pc + 3) ls (.ref b :: rest))) : W p l e R s m args below meth c H locs cells slots Q (F0 m pc ls (.ref a :: rest)) := tm_get hexec hb htw ly_X5 hown hK hW hq (by decide) rfl 1 (by decide) (htw _ fl_X5_16) (fun _ h => h) hdg (by rw [tm_V2 rfl M a, hr]; exact kk)
theorem pf_X5_16 (hexec : p.tables.exec = Jvm.exec) (hb : c.code = cc) (htw : ∀ w ∈ tw, w.before args s = true) (hown : s.vm.findClass RX5 = some m.cls) (hK : va_K G.1 vwCl (tm_tys G) s) (hW : tm_W G Hb sh M H) (hq : sh a = some (6, 0)) (hS : va_S (tm_A Hb) H0 H locs) (hin : meth.name = "<init>") {v : Nat} (hdg : decode cc pc = .ok (.putfield 16, 3)) (kk : ∀ (H1 : Heap) (locs1 : List Loc), tm_W G Hb sh (sR M a 1 (some v)) H1 → va_S (tm_A Hb) H0 H1 locs1 → W p l e R s m args below meth c H1 locs1 cells slots Q (F0 m (pc + 3) ls (rest))) : W p l e R s m args below meth c H locs cells slots Q (F0 m pc ls (.ref v :: .ref a :: rest)) := tm_putF hexec hb htw ly_X5 tyX5 tyX5_ok nmX5 hown hK hW hS hq (by decide) rfl 1 (by decide) (htw _ fl_X5_16) (fun _ h => h) rfl hin rfl (tyX5_ok 1 (by decide)) rfl rfl (M' := sR M a 1 (some v)) ((tm_V2 rfl _ a).trans (by rw [show mR (sR M a 1 (some v)) a 1 = _ from tm_up_s _ _ _ _]; rfl)) (fun kd q j h => tm_V_sR h) hdg kk
theorem gf_X7_37 (hexec : p.tables.exec = Jvm.exec) (hb : c.code = cc) (htw : ∀ w ∈ tw, w.before args s = true) (hown : s.vm.findClass RX7 = some m.cls) (hK : va_K G.1 vwCl (tm_tys G) s) (hW : tm_W G Hb sh M H) (hq : sh a = some (6, 0)) (hr : mR M a 1 = some b) (hdg : decode cc pc = .ok (.getfield 37, 3)) (kk : W p l e R s m args below meth c H locs cells slots Q (F0 m (pc + 3) ls (.ref b :: rest))) : W p l e R s m args below meth c H locs cells slots Q (F0 m pc ls (.ref a :: rest)) := tm_get hexec hb htw ly_X5 hown hK hW hq (by decide) rfl 1 (by decide) (htw _ fl_X7_37) (fun _ h => h) hdg (by rw [tm_V2 rfl M a, hr]; exact kk)
theorem gf_X3_42 (hexec : p.tables.exec = Jvm.exec) (hb : c.code = cc) (htw : ∀ w ∈ tw, w.before args s = true) (hown : s.vm.findClass RX3 = some m.cls) (hK : va_K G.1 vwCl (tm_tys G) s) (hW : tm_W G Hb sh M H) (hq : sh a = some (6, 0)) (hr : mR M a 1 = some b) (hdg : decode cc pc = .ok (.getfield 42, 3)) (kk : W p l e R s m args below meth c H locs cells slots Q (F0 m (pc + 3) ls (.ref b :: rest))) : W p l e R s m args below meth c H locs cells slots Q (F0 m pc ls (.ref a :: rest)) := tm_get hexec hb htw ly_X5 hown hK hW hq (by decide) rfl 1 (by decide) (htw _ fl_X3_42) (fun _ h => h) hdg (by rw [tm_V2 rfl M a, hr]; exact kk)
theorem gf_X6_46 (hexec : p.tables.exec = Jvm.exec) (hb : c.code = cc) (htw : ∀ w ∈ tw, w.before args s = true) (hown : s.vm.findClass RX6 = some m.cls) (hK : va_K G.1 vwCl (tm_tys G) s) (hW : tm_W G Hb sh M H) (hq : sh a = some (6, 0)) (hr : mR M a 1 = some b) (hdg : decode cc pc = .ok (.getfield 46, 3)) (kk : W p l e R s m args below meth c H locs cells slots Q (F0 m (pc + 3) ls (.ref b :: rest))) : W p l e R s m args below meth c H locs cells slots Q (F0 m pc ls (.ref a :: rest)) := tm_get hexec hb htw ly_X5 hown hK hW hq (by decide) rfl 1 (by decide) (htw _ fl_X6_46) (fun _ h => h) hdg (by rw [tm_V2 rfl M a, hr]; exact kk)
theorem gf_X2_67 (hexec : p.tables.exec = Jvm.exec) (hb : c.code = cc) (htw : ∀ w ∈ tw, w.before args s = true) (hown : s.vm.findClass RX2 = some m.cls) (hK : va_K G.1 vwCl (tm_tys G) s) (hW : tm_W G Hb sh M H) (hq : sh a = some (6, 0)) (hr : mR M a 1 = some b) (hdg : decode cc pc = .ok (.getfield 67, 3)) (kk : W p l e R s m args below meth c H locs cells slots Q (F0 m (pc + 3) ls (.ref b :: rest))) : W p l e R s m args below meth c H locs cells slots Q (F0 m pc ls (.ref a :: rest)) := tm_get hexec hb htw ly_X5 hown hK hW hq (by decide) rfl 1 (by decide) (htw _ fl_X2_67) (fun _ h => h) hdg (by rw [tm_V2 rfl M a, hr]; exact kk)
theorem gf_X4_116 (hexec : p.tables.exec = Jvm.exec) (hb : c.code = cc) (htw : ∀ w ∈ tw, w.before args s = true) (hown : s.vm.findClass RX4 = some m.cls) (hK : va_K G.1 vwCl (tm_tys G) s) (hW : tm_W G Hb sh M H) (hq : sh a = some (6, 0)) (hr : mR M a 1 = some b) (hdg : decode cc pc = .ok (.getfield 116, 3)) (kk : W p l e R s m args below meth c H locs cells slots Q (F0 m (pc + 3) ls (.ref b :: rest))) : W p l e R s m args below meth c H locs cells slots Q (F0 m pc ls (.ref a :: rest)) := tm_get hexec hb htw ly_X5 hown hK hW hq (by decide) rfl 1 (by decide) (htw _ fl_X4_116) (fun _ h => h) hdg (by rw [tm_V2 rfl M a, hr]; exact kk)
theorem gf_X8_145 (hexec : p.tables.exec = Jvm.exec) (hb : c.code = cc) (htw : ∀ w ∈ tw, w.before args s = true) (hown : s.vm.findClass RX8 = some m.cls) (hK : va_K G.1 vwCl (tm_tys G) s) (hW : tm_W G Hb sh M H) (hq : sh a = some (6, 0)) (hr : mR M a 1 = some b) (hdg : decode cc pc = .ok (.getfield 145, 3)) (kk : W p l e R s m args below meth c H locs cells slots Q (F0 m (pc + 3) ls (.ref b :: rest))) : W p l e R s m args below meth c H locs cells slots Q (F0 m pc ls (.ref a :: rest)) := tm_get hexec hb htw ly_X5 hown hK hW hq (by decide) rfl 1 (by decide) (htw _ fl_X8_145) (fun _ h => h) hdg (by rw [tm_V2 rfl M a, hr]; exact kk)
theorem gf_X4_9 (hexec : p.tables.exec = Jvm.exec) (hb : c.code = cc) (htw : ∀ w ∈ tw, w.before args s = true) (hown : s.vm.findClass RX4 = some m.cls) (hK : va_K G.1 vwCl (tm_tys G) s) (hW : tm_W G Hb sh M H) (hq : sh a = some (5, 0)) (hr : mR M a 0 = some b) (hdg : decode cc pc = .ok (.getfield 9, 3)) (kk : W p l e R s m args below meth c H locs cells slots Q (F0 m (pc + 3) ls (.ref b :: rest))) : W p l e R s m args below meth c H locs cells slots Q (F0 m pc ls (.ref a :: rest)) := tm_get hexec hb htw ly_X4 hown hK hW hq (by decide) rfl 0 (by decide) (htw _ fl_X4_9) (fun _ h => h) hdg (by rw [tm_V2 rfl M a, hr]; exact kk)
theorem pf_X4_9 (hexec : p.tables.exec = Jvm.exec) (hb : c.code = cc) (htw : ∀ w ∈ tw, w.before args s = true) (hown : s.vm.findClass RX4 = some m.cls) (hK : va_K G.1 vwCl (tm_tys G) s) (hW : tm_W G Hb sh M H) (hq : sh a = some (5, 0)) (hS : va_S (tm_A Hb) H0 H locs) {v : Nat} (hdg : decode cc pc = .ok (.putfield 9, 3)) (kk : ∀ (H1 : Heap) (locs1 : List Loc), tm_W G Hb sh (sR M a 0 (some v)) H1 → va_S (tm_A Hb) H0 H1 locs1 → W p l e R s m args below meth c H1 locs1 cells slots Q (F0 m (pc + 3) ls (rest))) : W p l e R s m args below meth c H locs cells slots Q (F0 m pc ls (.ref v :: .ref a :: rest)) := tm_put hexec hb htw ly_X4 tyX4 tyX4_ok nmX4 hown hK hW hS hq (by decide) rfl 0 (by decide) (htw _ fl_X4_9) (fun _ h => h) rfl (tyX4_ok 0 (by decide)) rfl rfl (M' := sR M a 0 (some v)) ((tm_V2 rfl _ a).trans (by rw [show mR (sR M a 0 (some v)) a 0 = _ from tm_up_s _ _ _ _]; rfl)) (fun kd q j h => tm_V_sR h) hdg kk
theorem gf_X4_34 (hexec : p.tables.exec = Jvm.exec) (hb : c.code = cc) (htw : ∀ w ∈ tw, w.before args s = true) (hown : s.vm.findClass RX4 = some m.cls) (hK : va_K G.1 vwCl (tm_tys G) s) (hW : tm_W G Hb sh M H) (hq : sh a = some (5, 0)) (hdg : decode cc pc = .ok (.getfield 34, 3)) (kk : W p l e R s m args below meth c H locs cells slots Q (F0 m (pc + 3) ls (ji (mI M a 1) :: rest))) : W p l e R s m args below meth c H locs cells slots Q (F0 m pc ls (.ref a :: rest)) := tm_get hexec hb htw ly_X4 hown hK hW hq (by decide) rfl 1 (by decide) (htw _ fl_X4_34) (fun _ h => h) hdg kk
theorem pf_X4_34 (hexec : p.tables.exec = Jvm.exec) (hb : c.code = cc) (htw : ∀ w ∈ tw, w.before args s = true) (hown : s.vm.findClass RX4 = some m.cls) (hK : va_K G.1 vwCl (tm_tys G) s) (hW : tm_W G Hb sh M H) (hq : sh a = some (5, 0)) (hS : va_S (tm_A Hb) H0 H locs) {v : Int} (hdg : decode cc pc = .ok (.putfield 34, 3)) (kk : ∀ (H1 : Heap) (locs1 : List Loc), tm_W G Hb sh (sI M a 1 v) H1 → va_S (tm_A Hb) H0 H1 locs1 → W p l e R s m args below meth c H1 locs1 cells slots Q (F0 m (pc + 3) ls (rest))) : W p l e R s m args below meth c H locs cells slots Q (F0 m pc ls (ji v :: .ref a :: rest)) := tm_put hexec hb htw ly_X4 tyX4 tyX4_ok nmX4 hown hK hW hS hq (by decide) rfl 1 (by decide) (htw _ fl_X4_34) (fun _ h => h) rfl (tyX4_ok 1 (by decide)) rfl rfl (M' := sI M a 1 v) ((tm_V0 rfl _ a).trans (by rw [show mI (sI M a 1 v) a 1 = v from tm_up_s _ _ _ _])) (fun kd q j h => tm_V_sI h) hdg kk
theorem gf_X4_38 (hexec : p.tables.exec = Jvm.exec) (hb : c.code = cc) (htw : ∀ w ∈ tw, w.before args s = true) (hown : s.vm.findClass RX4 = some m.cls) (hK : va_K G.1 vwCl (tm_tys G) s) (hW : tm_W G Hb sh M H) (hq : sh a = some (5, 0)) (hdg : decode cc pc = .ok (.getfield 38, 3)) (kk : W p l e R s m args below meth c H locs cells slots Q (F0 m (pc + 3) ls (ji (mI M a 2) :: rest))) : W p l e R s m args below meth c H locs cells slots Q (F0 m pc ls (.ref a :: rest)) := tm_get hexec hb htw ly_X4 hown hK hW hq (by decide) rfl 2 (by decide) (htw _ fl_X4_38) (fun _ h => h) hdg kk
theorem pf_X4_38 (hexec : p.tables.exec = Jvm.exec) (hb : c.code = cc) (htw : ∀ w ∈ tw, w.before args s = true) (hown : s.vm.findClass RX4 = some m.cls) (hK : va_K G.1 vwCl (tm_tys G) s) (hW : tm_W G Hb sh M H) (hq : sh a = some (5, 0)) (hS : va_S (tm_A Hb) H0 H locs) {v : Int} (hdg : decode cc pc = .ok (.putfield 38, 3)) (kk : ∀ (H1 : Heap) (locs1 : List Loc), tm_W G Hb sh (sI M a 2 v) H1 → va_S (tm_A Hb) H0 H1 locs1 → W p l e R s m args below meth c H1 locs1 cells slots Q (F0 m (pc + 3) ls (rest))) : W p l e R s m args below meth c H locs cells slots Q (F0 m pc ls (ji v :: .ref a :: rest)) := tm_put hexec hb htw ly_X4 tyX4 tyX4_ok nmX4 hown hK hW hS hq (by decide) rfl 2 (by decide) (htw _ fl_X4_38) (fun _ h => h) rfl (tyX4_ok 2 (by decide)) rfl rfl (M' := sI M a 2 v) ((tm_V0 rfl _ a).trans (by rw [show mI (sI M a 2 v) a 2 = v from tm_up_s _ _ _ _])) (fun kd q j h => tm_V_sI h) hdg kk
theorem gf_X4_41 (hexec : p.tables.exec = Jvm.exec) (hb : c.code = cc) (htw : ∀ w ∈ tw, w.before args s = true) (hown : s.vm.findClass RX4 = some m.cls) (hK : va_K G.1 vwCl (tm_tys G) s) (hW : tm_W G Hb sh M H) (hq : sh a = some (5, 0)) (hdg : decode cc pc = .ok (.getfield 41, 3)) (kk : W p l e R s m args below meth c H locs cells slots Q (F0 m (pc + 3) ls (ji (mI M a 3) :: rest))) : W p l e R s m args below meth c H locs cells slots Q (F0 m pc ls (.ref a :: rest)) := tm_get hexec hb htw ly_X4 hown hK hW hq (by decide) rfl 3 (by decide) (htw _ fl_X4_41) (fun _ h => h) hdg kk
theorem pf_X4_41 (hexec : p.tables.exec = Jvm.exec) (hb : c.code = cc) (htw : ∀ w ∈ tw, w.before args s = true) (hown : s.vm.findClass RX4 = some m.cls) (hK : va_K G.1 vwCl (tm_tys G) s) (hW : tm_W G Hb sh M H) (hq : sh a = some (5, 0)) (hS : va_S (tm_A Hb) H0 H locs) {v : Int} (hdg : decode cc pc = .ok (.putfield 41, 3)) (kk : ∀ (H1 : Heap) (locs1 : List Loc), tm_W G Hb sh (sI M a 3 v) H1 → va_S (tm_A Hb) H0 H1 locs1 → W p l e R s m args below meth c H1 locs1 cells slots Q (F0 m (pc + 3) ls (rest))) : W p l e R s m args below meth c H locs cells slots Q (F0 m pc ls (ji v :: .ref a :: rest)) := tm_put hexec hb htw ly_X4 tyX4 tyX4_ok nmX4 hown hK hW hS hq (by decide) rfl 3 (by decide) (htw _ fl_X4_41) (fun _ h => h) rfl (tyX4_ok 3 (by decide)) rfl rfl (M' := sI M a 3 v) ((tm_V0 rfl _ a).trans (by rw [show mI (sI M a 3 v) a 3 = v from tm_up_s _ _ _ _])) (fun kd q j h => tm_V_sI h) hdg kk
theorem gf_X4_119 (hexec : p.tables.exec = Jvm.exec) (hb : c.code = cc) (htw : ∀ w ∈ tw, w.before args s = true) (hown : s.vm.findClass RX4 = some m.cls) (hK : va_K G.1 vwCl (tm_tys G) s) (hW : tm_W G Hb sh M H) (hq : sh a = some (5, 0)) (hdg : decode cc pc = .ok (.getfield 119, 3)) (kk : W p l e R s m args below meth c H locs cells slots Q (F0 m (pc + 3) ls (ji (mI M a 4) :: rest))) : W p l e R s m args below meth c H locs cells slots Q (F0 m pc ls (.ref a :: rest)) := tm_get hexec hb htw ly_X4 hown hK hW hq (by decide) rfl 4 (by decide) (htw _ fl_X4_119) (fun _ h => h) hdg kk
theorem pf_X4_119 (hexec : p.tables.exec = Jvm.exec) (hb : c.code = cc) (htw : ∀ w ∈ tw, w.before args s = true) (hown : s.vm.findClass RX4 = some m.cls) (hK : va_K G.1 vwCl (tm_tys G) s) (hW : tm_W G Hb sh M H) (hq : sh a = some (5, 0)) (hS : va_S (tm_A Hb) H0 H locs) {v : Int} (hdg : decode cc pc = .ok (.putfield 119, 3)) (kk : ∀ (H1 : Heap) (locs1 : List Loc), tm_W G Hb sh (sI M a 4 v) H1 → va_S (tm_A Hb) H0 H1 locs1 → W p l e R s m args below meth c H1 locs1 cells slots Q (F0 m (pc + 3) ls (rest))) : W p l e R s m args below meth c H locs cells slots Q (F0 m pc ls (ji v :: .ref a :: rest)) := tm_put hexec hb htw ly_X4 tyX4 tyX4_ok nmX4 hown hK hW hS hq (by decide) rfl 4 (by decide) (htw _ fl_X4_119) (fun _ h => h) rfl (tyX4_ok 4 (by decide)) rfl rfl (M' := sI M a 4 v) ((tm_V0 rfl _ a).trans (by rw [show mI (sI M a 4 v) a 4 = v from tm_up_s _ _ _ _])) (fun kd q j h => tm_V_sI h) hdg kk
theorem gf_X4_17 (hexec : p.tables.exec = Jvm.exec) (hb : c.code = cc) (htw : ∀ w ∈ tw, w.before args s = true) (hown : s.vm.findClass RX4 = some m.cls) (hK : va_K G.1 vwCl (tm_tys G) s) (hW : tm_W G Hb sh M H) (hq : sh a = some (5, 0)) (hr : mR M a 5 = some b) (hdg : decode cc pc = .ok (.getfield 17, 3)) (kk : W p l e R s m args below meth c H locs cells slots Q (F0 m (pc + 3) ls (.ref b :: rest))) : W p l e R s m args below meth c H locs cells slots Q (F0 m pc ls (.ref a :: rest)) := tm_get hexec hb htw ly_X4 hown hK hW hq (by decide) rfl 5 (by decide) (htw _ fl_X4_17) (fun _ h => h) hdg (by rw [tm_V2 rfl M a, hr]; exact kk)
theorem pf_X4_17 (hexec : p.tables.exec = Jvm.exec) (hb : c.code = cc) (htw : ∀ w ∈ tw, w.before args s = true) (hown : s.vm.findClass RX4 = some m.cls) (hK : va_K G.1 vwCl (tm_tys G) s) (hW : tm_W G Hb sh M H) (hq : sh a = some (5, 0)) (hS : va_S (tm_A Hb) H0 H locs) (hin : meth.name = "<init>") {v : Nat} (hdg : decode cc pc = .ok (.putfield 17, 3)) (kk : ∀ (H1 : Heap) (locs1 : List Loc), tm_W G Hb sh (sR M a 5 (some v)) H1 → va_S (tm_A Hb) H0 H1 locs1 → W p l e R s m args below meth c H1 locs1 cells slots Q (F0 m (pc + 3) ls (rest))) : W p l e R s m args below meth c H locs cells slots Q (F0 m pc ls (.ref v :: .ref a :: rest)) := tm_putF hexec hb htw ly_X4 tyX4 tyX4_ok nmX4 hown hK hW hS hq (by decide) rfl 5 (by decide) (htw _ fl_X4_17) (fun _ h => h) rfl hin rfl (tyX4_ok 5 (by decide)) rfl rfl (M' := sR M a 5 (some v)) ((tm_V2 rfl _ a).trans (by rw [show mR (sR M a 5 (some v)) a 5 = _ from tm_up_s _ _ _ _]; rfl)) (fun kd q j h => tm_V_sR h) hdg kk
theorem gf_X4_21 (hexec : p.tables.exec = Jvm.exec) (hb : c.code = cc) (htw : ∀ w ∈ tw, w.before args s = true) (hown : s.vm.findClass RX4 = some m.cls) (hK : va_K G.1 vwCl (tm_tys G) s) (hW : tm_W G Hb sh M H) (hq : sh a = some (5, 0)) (hr : mR M a 6 = some b) (hdg : decode cc pc = .ok (.getfield 21, 3)) (kk : W p l e R s m args below meth c H locs cells slots Q (F0 m (pc + 3) ls (.ref b :: rest))) : W p l e R s m args below meth c H locs cells slots Q (F0 m pc ls (.ref a :: rest)) := tm_get hexec hb htw ly_X4 hown hK hW hq (by decide) rfl 6 (by decide) (htw _ fl_X4_21) (fun _ h => h) hdg (by rw [tm_V2 rfl M a, hr]; exact kk)
theorem pf_X4_21 (hexec : p.tables.exec = Jvm.exec) (hb : c.code = cc) (htw : ∀ w ∈ tw, w.before args s = true) (hown : s.vm.findClass RX4 = some m.cls) (hK : va_K G.1 vwCl (tm_tys G) s) (hW : tm_W G Hb sh M H) (hq : sh a = some (5, 0)) (hS : va_S (tm_A Hb) H0 H locs) (hin : meth.name = "<init>") {v : Nat} (hdg : decode cc pc = .ok (.putfield 21, 3)) (kk : ∀ (H1 : Heap) (locs1 : List Loc), tm_W G Hb sh (sR M a 6 (some v)) H1 → va_S (tm_A Hb) H0 H1 locs1 → W p l e R s m args below meth c H1 locs1 cells slots Q (F0 m (pc + 3) ls (rest))) : W p l e R s m args below meth c H locs cells slots Q (F0 m pc ls (.ref v :: .ref a :: rest)) := tm_putF hexec hb htw ly_X4 tyX4 tyX4_ok nmX4 hown hK hW hS hq (by decide) rfl 6 (by decide) (htw _ fl_X4_21) (fun _ h => h) rfl hin rfl (tyX4_ok 6 (by decide)) rfl rfl (M' := sR M a 6 (some v)) ((tm_V2 rfl _ a).trans (by rw [show mR (sR M a 6 (some v)) a 6 = _ from tm_up_s _ _ _ _]; rfl)) (fun kd q j h => tm_V_sR h) hdg kk
theorem gf_X4_24 (hexec : p.tables.exec = Jvm.exec) (hb : c.code = cc) (htw : ∀ w ∈ tw, w.before args s = true) (hown : s.vm.findClass RX4 = some m.cls) (hK : va_K G.1 vwCl (tm_tys G) s) (hW : tm_W G Hb sh M H) (hq : sh a = some (5, 0)) (hr : mR M a 7 = some b) (hdg : decode cc pc = .ok (.getfield 24, 3)) (kk : W p l e R s m args below meth c H locs cells slots Q (F0 m (pc + 3) ls (.ref b :: rest))) : W p l e R s m args below meth c H locs cells slots Q (F0 m pc ls (.ref a :: rest)) := tm_get hexec hb htw ly_X4 hown hK hW hq (by decide) rfl 7 (by decide) (htw _ fl_X4_24) (fun _ h => h) hdg (by rw [tm_V2 rfl M a, hr]; exact kk)
theorem pf_X4_24 (hexec : p.tables.exec = Jvm.exec) (hb : c.code = cc) (htw : ∀ w ∈ tw, w.before args s = true) (hown : s.vm.findClass RX4 = some m.cls) (hK : va_K G.1 vwCl (tm_tys G) s) (hW : tm_W G Hb sh M H) (hq : sh a = some (5, 0)) (hS : va_S (tm_A Hb) H0 H locs) (hin : meth.name = "<init>") {v : Nat} (hdg : decode cc pc = .ok (.putfield 24, 3)) (kk : ∀ (H1 : Heap) (locs1 : List Loc), tm_W G Hb sh (sR M a 7 (some v)) H1 → va_S (tm_A Hb) H0 H1 locs1 → W p l e R s m args below meth c H1 locs1 cells slots Q (F0 m (pc + 3) ls (rest))) : W p l e R s m args below meth c H locs cells slots Q (F0 m pc ls (.ref v :: .ref a :: rest)) := tm_putF hexec hb htw ly_X4 tyX4 tyX4_ok nmX4 hown hK hW hS hq (by decide) rfl 7 (by decide) (htw _ fl_X4_24) (fun _ h => h) rfl hin rfl (tyX4_ok 7 (by decide)) rfl rfl (M' := sR M a 7 (some v)) ((tm_V2 rfl _ a).trans (by rw [show mR (sR M a 7 (some v)) a 7 = _ from tm_up_s _ _ _ _]; rfl)) (fun kd q j h => tm_V_sR h) hdg kk
theorem gf_X1_10 (hexec : p.tables.exec = Jvm.exec) (hb : c.code = cc) (htw : ∀ w ∈ tw, w.before args s = true) (hown : s.vm.findClass RX1 = some m.cls) (hK : va_K G.1 vwCl (tm_tys G) s) (hW : tm_W G Hb sh M H) (hq : sh a = some (3, 0)) (hr : mR M a 0 = some b) (hdg : decode cc pc = .ok (.getfield 10, 3)) (kk : W p l e R s m args below meth c H locs cells slots Q (F0 m (pc + 3) ls (.ref b :: rest))) : W p l e R s m args below meth c H locs cells slots Q (F0 m pc ls (.ref a :: rest)) := tm_get hexec hb htw ly_X1 hown hK hW hq (by decide) rfl 0 (by decide) (htw _ fl_X1_10) (fun _ h => h) hdg (by rw [tm_V2 rfl M a, hr]; exact kk)
theorem pf_X1_10 (hexec : p.tables.exec = Jvm.exec) (hb : c.code = cc) (htw : ∀ w ∈ tw, w.before args s = true) (hown : s.vm.findClass RX1 = some m.cls) (hK : va_K G.1 vwCl (tm_tys G) s) (hW : tm_W G Hb sh M H) (hq : sh a = some (3, 0)) (hS : va_S (tm_A Hb) H0 H locs) (hin : meth.name = "<init>") {v : Nat} (hdg : decode cc pc = .ok (.putfield 10, 3)) (kk : ∀ (H1 : Heap) (locs1 : List Loc), tm_W G Hb sh (sR M a 0 (some v)) H1 → va_S (tm_A Hb) H0 H1 locs1 → W p l e R s m args below meth c H1 locs1 cells slots Q (F0 m (pc + 3) ls (rest))) : W p l e R s m args below meth c H locs cells slots Q (F0 m pc ls (.ref v :: .ref a :: rest)) := tm_putF hexec hb htw ly_X1 tyX1 tyX1_ok nmX1 hown hK hW hS hq (by decide) rfl 0 (by decide) (htw _ fl_X1_10) (fun _ h => h) rfl hin rfl (tyX1_ok 0 (by decide)) rfl rfl (M' := sR M a 0 (some v)) ((tm_V2 rfl _ a).trans (by rw [show mR (sR M a 0 (some v)) a 0 = _ from tm_up_s _ _ _ _]; rfl)) (fun kd q j h => tm_V_sR h) hdg kk
theorem gf_X7_19 (hexec : p.tables.exec = Jvm.exec) (hb : c.code = cc) (htw : ∀ w ∈ tw, w.before args s = true) (hown : s.vm.findClass RX7 = some m.cls) (hK : va_K G.1 vwCl (tm_tys G) s) (hW : tm_W G Hb sh M H) (hq : sh a = some (3, 0)) (hr : mR M a 0 = some b) (hdg : decode cc pc = .ok (.getfield 19, 3)) (kk : W p l e R s m args below meth c H locs cells slots Q (F0 m (pc + 3) ls (.ref b :: rest))) : W p l e R s m args below meth c H locs cells slots Q (F0 m pc ls (.ref a :: rest)) := tm_get hexec hb htw ly_X1 hown hK hW hq (by decide) rfl 0 (by decide) (htw _ fl_X7_19) (fun _ h => h) hdg (by rw [tm_V2 rfl M a, hr]; exact kk)
theorem gf_X4_48 (hexec : p.tables.exec = Jvm.exec) (hb : c.code = cc) (htw : ∀ w ∈ tw, w.before args s = true) (hown : s.vm.findClass RX4 = some m.cls) (hK : va_K G.1 vwCl (tm_tys G) s) (hW : tm_W G Hb sh M H) (hq : sh a = some (3, 0)) (hr : mR M a 0 = some b) (hdg : decode cc pc = .ok (.getfield 48, 3)) (kk : W p l e R s m args below meth c H locs cells slots Q (F0 m (pc + 3) ls (.ref b :: rest))) : W p l e R s m args below meth c H locs cells slots Q (F0 m pc ls (.ref a :: rest)) := tm_get hexec hb htw ly_X1 hown hK hW hq (by decide) rfl 0 (by decide) (htw _ fl_X4_48) (fun _ h => h) hdg (by rw [tm_V2 rfl M a, hr]; exact kk)
theorem gf_X3_19 (hexec : p.tables.exec = Jvm.exec) (hb : c.code = cc) (htw : ∀ w ∈ tw, w.before args s = true) (hown : s.vm.findClass RX3 = some m.cls) (hK : va_K G.1 vwCl (tm_tys G) s) (hW : tm_W G Hb sh M H) (hq : sh a = some (3, 0)) (hr : mR M a 0 = some b) (hdg : decode cc pc = .ok (.getfield 19, 3)) (kk : W p l e R s m args below meth c H locs cells slots Q (F0 m (pc + 3) ls (.ref b :: rest))) : W p l e R s m args below meth c H locs cells slots Q (F0 m pc ls (.ref a :: rest)) := tm_get hexec hb htw ly_X1 hown hK hW hq (by decide) rfl 0 (by decide) (htw _ fl_X3_19) (fun _ h => h) hdg (by rw [tm_V2 rfl M a, hr]; exact kk)
theorem gf_X6_23 (hexec : p.tables.exec = Jvm.exec) (hb : c.code = cc) (htw : ∀ w ∈ tw, w.before args s = true) (hown : s.vm.findClass RX6 = some m.cls) (hK : va_K G.1 vwCl (tm_tys G) s) (hW : tm_W G Hb sh M H) (hq : sh a = some (3, 0)) (hr : mR M a 0 = some b) (hdg : decode cc pc = .ok (.getfield 23, 3)) (kk : W p l e R s m args below meth c H locs cells slots Q (F0 m (pc + 3) ls (.ref b :: rest))) : W p l e R s m args below meth c H locs cells slots Q (F0 m pc ls (.ref a :: rest)) := tm_get hexec hb htw ly_X1 hown hK hW hq (by decide) rfl 0 (by decide) (htw _ fl_X6_23) (fun _ h => h) hdg (by rw [tm_V2 rfl M a, hr]; exact kk)
theorem gf_X2_28 (hexec : p.tables.exec = Jvm.exec) (hb : c.code = cc) (htw : ∀ w ∈ tw, w.before args s = true) (hown : s.vm.findClass RX2 = some m.cls) (hK : va_K G.1 vwCl (tm_tys G) s) (hW : tm_W G Hb sh M H) (hq : sh a = some (3, 0)) (hr : mR M a 0 = some b) (hdg : decode cc pc = .ok (.getfield 28, 3)) (kk : W p l e R s m args below meth c H locs cells slots Q (F0 m (pc + 3) ls (.ref b :: rest))) : W p l e R s m args below meth c H locs cells slots Q (F0 m pc ls (.ref a :: rest)) := tm_get hexec hb htw ly_X1 hown hK hW hq (by decide) rfl 0 (by decide) (htw _ fl_X2_28) (fun _ h => h) hdg (by rw [tm_V2 rfl M a, hr]; exact kk)
theorem gf_X8_133 (hexec : p.tables.exec = Jvm.exec) (hb : c.code = cc) (htw : ∀ w ∈ tw, w.before args s = true) (hown : s.vm.findClass RX8 = some m.cls) (hK : va_K G.1 vwCl (tm_tys G) s) (hW : tm_W G Hb sh M H) (hq : sh a = some (3, 0)) (hr : mR M a 0 = some b) (hdg : decode cc pc = .ok (.getfield 133, 3)) (kk : W p l e R s m args below meth c H locs cells slots Q (F0 m (pc + 3) ls (.ref b :: rest))) : W p l e R s m args below meth c H locs cells slots Q (F0 m pc ls (.ref a :: rest)) := tm_get hexec hb htw ly_X1 hown hK hW hq (by decide) rfl 0 (by decide) (htw _ fl_X8_133) (fun _ h => h) hdg (by rw [tm_V2 rfl M a, hr]; exact kk)
theorem gf_X1_16 (hexec : p.tables.exec = Jvm.exec) (hb : c.code = cc) (htw : ∀ w ∈ tw, w.before args s = true) (hown : s.vm.findClass RX1 = some m.cls) (hK : va_K G.1 vwCl (tm_tys G) s) (hW : tm_W G Hb sh M H) (hq : sh a = some (3, 0)) (hr : mR M a 1 = some b) (hdg : decode cc pc = .ok (.getfield 16, 3)) (kk : W p l e R s m args below meth c H locs cells slots Q (F0 m (pc + 3) ls (.ref b :: rest))) : W p l e R s m args below meth c H locs cells slots Q (F0 m pc ls (.ref a :: rest)) := tm_get hexec hb htw ly_X1 hown hK hW hq (by decide) rfl 1 (by decide) (htw _ fl_X1_16) (fun _ h => h) hdg (by rw [tm_V2 rfl M a, hr]; exact kk)
theorem pf_X1_16 (hexec : p.tables.exec = Jvm.exec) (hb : c.code = cc) (htw : ∀ w ∈ tw, w.before args s = true) (hown : s.vm.findClass RX1 = some m.cls) (hK : va_K G.1 vwCl (tm_tys G) s) (hW : tm_W G Hb sh M H) (hq : sh a = some (3, 0)) (hS : va_S (tm_A Hb) H0 H locs) (hin : meth.name = "<init>") {v : Nat} (hdg : decode cc pc = .ok (.putfield 16, 3)) (kk : ∀ (H1 : Heap) (locs1 : List Loc), tm_W G Hb sh (sR M a 1 (some v)) H1 → va_S (tm_A Hb) H0 H1 locs1 → W p l e R s m args below meth c H1 locs1 cells slots Q (F0 m (pc + 3) ls (rest))) : W p l e R s m args below meth c H locs cells slots Q (F0 m pc ls (.ref v :: .ref a :: rest)) := tm_putF hexec hb htw ly_X1 tyX1 tyX1_ok nmX1 hown hK hW hS hq (by decide) rfl 1 (by decide) (htw _ fl_X1_16) (fun _ h => h) rfl hin rfl (tyX1_ok 1 (by decide)) rfl rfl (M' := sR M a 1 (some v)) ((tm_V2 rfl _ a).trans (by rw [show mR (sR M a 1 (some v)) a 1 = _ from tm_up_s _ _ _ _]; rfl)) (fun kd q j h => tm_V_sR h) hdg kk
theorem gf_X7_30 (hexec : p.tables.exec = Jvm.exec) (hb : c.code = cc) (htw : ∀ w ∈ tw, w.before args s = true) (hown : s.vm.findClass RX7 = some m.cls) (hK : va_K G.1 vwCl (tm_tys G) s) (hW : tm_W G Hb sh M H) (hq : sh a = some (3, 0)) (hr : mR M a 1 = some b) (hdg : decode cc pc = .ok (.getfield 30, 3)) (kk : W p l e R s m args below meth c H locs cells slots Q (F0 m (pc + 3) ls (.ref b :: rest))) : W p l e R s m args below meth c H locs cells slots Q (F0 m pc ls (.ref a :: rest)) := tm_get hexec hb htw ly_X1 hown hK hW hq (by decide) rfl 1 (by decide) (htw _ fl_X7_30) (fun _ h => h) hdg (by rw [tm_V2 rfl M a, hr]; exact kk)
theorem gf_X3_29 (hexec : p.tables.exec = Jvm.exec) (hb : c.code = cc) (htw : ∀ w ∈ tw, w.before args s = true) (hown : s.vm.findClass RX3 = some m.cls) (hK : va_K G.1 vwCl (tm_tys G) s) (hW : tm_W G Hb sh M H) (hq : sh a = some (3, 0)) (hr : mR M a 1 = some b) (hdg : decode cc pc = .ok (.getfield 29, 3)) (kk : W p l e R s m args below meth c H locs cells slots Q (F0 m (pc + 3) ls (.ref b :: rest))) : W p l e R s m args below meth c H locs cells slots Q (F0 m pc ls (.ref a :: rest)) := tm_get hexec hb htw ly_X1 hown hK hW hq (by decide) rfl 1 (by decide) (htw _ fl_X3_29) (fun _ h => h) hdg (by rw [tm_V2 rfl M a, hr]; exact kk)
theorem gf_X4_62 (hexec : p.tables.exec = Jvm.exec) (hb : c.code = cc) (htw : ∀ w ∈ tw, w.before args s = true) (hown : s.vm.findClass RX4 = some m.cls) (hK : va_K G.1 vwCl (tm_tys G) s) (hW : tm_W G Hb sh M H) (hq : sh a = some (3, 0)) (hr : mR M a 1 = some b) (hdg : decode cc pc = .ok (.getfield 62, 3)) (kk : W p l e R s m args below meth c H locs cells slots Q (F0 m (pc + 3) ls (.ref b :: rest))) : W p l e R s m args below meth c H locs cells slots Q (F0 m pc ls (.ref a :: rest)) := tm_get hexec hb htw ly_X1 hown hK hW hq (by decide) rfl 1 (by decide) (htw _ fl_X4_62) (fun _ h => h) hdg (by rw [tm_V2 rfl M a, hr]; exact kk)
theorem gf_X6_43 (hexec : p.tables.exec = Jvm.exec) (hb : c.code = cc) (htw : ∀ w ∈ tw, w.before args s = true) (hown : s.vm.findClass RX6 = some m.cls) (hK : va_K G.1 vwCl (tm_tys G) s) (hW : tm_W G Hb sh M H) (hq : sh a = some (3, 0)) (hr : mR M a 1 = some b) (hdg : decode cc pc = .ok (.getfield 43, 3)) (kk : W p l e R s m args below meth c H locs cells slots Q (F0 m (pc + 3) ls (.ref b :: rest))) : W p l e R s m args below meth c H locs cells slots Q (F0 m pc ls (.ref a :: rest)) := tm_get hexec hb htw ly_X1 hown hK hW hq (by decide) rfl 1 (by decide) (htw _ fl_X6_43) (fun _ h => h) hdg (by rw [tm_V2 rfl M a, hr]; exact kk)
theorem gf_X2_52 (hexec : p.tables.exec = Jvm.exec) (hb : c.code = cc) (htw : ∀ w ∈ tw, w.before args s = true) (hown : s.vm.findClass RX2 = some m.cls) (hK : va_K G.1 vwCl (tm_tys G) s) (hW : tm_W G Hb sh M H) (hq : sh a = some (3, 0)) (hr : mR M a 1 = some b) (hdg : decode cc pc = .ok (.getfield 52, 3)) (kk : W p l e R s m args below meth c H locs cells slots Q (F0 m (pc + 3) ls (.ref b :: rest))) : W p l e R s m args below meth c H locs cells slots Q (F0 m pc ls (.ref a :: rest)) := tm_get hexec hb htw ly_X1 hown hK hW hq (by decide) rfl 1 (by decide) (htw _ fl_X2_52) (fun _ h => h) hdg (by rw [tm_V2 rfl M a, hr]; exact kk)
theorem gf_X8_137 (hexec : p.tables.exec = Jvm.exec) (hb : c.code = cc) (htw : ∀ w ∈ tw, w.before args s = true) (hown : s.vm.findClass RX8 = some m.cls) (hK : va_K G.1 vwCl (tm_tys G) s) (hW : tm_W G Hb sh M H) (hq : sh a = some (3, 0)) (hr : mR M a 1 = some b) (hdg : decode cc pc = .ok (.getfield 137, 3)) (kk : W p l e R s m args below meth c H locs cells slots Q (F0 m (pc + 3) ls (.ref b :: rest))) : W p l e R s m args below meth c H locs cells slots Q (F0 m pc ls (.ref a :: rest)) := tm_get hexec hb htw ly_X1 hown hK hW hq (by decide) rfl 1 (by decide) (htw _ fl_X8_137) (fun _ h => h) hdg (by rw [tm_V2 rfl M a, hr]; exact kk)
theorem gf_X1_23 (hexec : p.tables.exec = Jvm.exec) (hb : c.code = cc) (htw : ∀ w ∈ tw, w.before args s = true) (hown : s.vm.findClass RX1 = some m.cls) (hK : va_K G.1 vwCl (tm_tys G) s) (hW : tm_W G Hb sh M H) (hq : sh a = some (3, 0)) (hdg : decode cc pc = .ok (.getfield 23, 3)) (kk : W p l e R s m args below meth c H locs cells slots Q (F0 m (pc + 3) ls (ji (mI M a 2) :: rest))) : W p l e R s m args below meth c H locs cells slots Q (F0 m pc ls (.ref a :: rest)) := tm_get hexec hb htw ly_X1 hown hK hW hq (by decide) rfl 2 (by decide) (htw _ fl_X1_23) (fun _ h => h) hdg kk
theorem pf_X1_23 (hexec : p.tables.exec = Jvm.exec) (hb : c.code = cc) (htw : ∀ w ∈ tw, w.before args s = true) (hown : s.vm.findClass RX1 = some m.cls) (hK : va_K G.1 vwCl (tm_tys G) s) (hW : tm_W G Hb sh M H) (hq : sh a = some (3, 0)) (hS : va_S (tm_A Hb) H0 H locs) {v : Int} (hdg : decode cc pc = .ok (.putfield 23, 3)) (kk : ∀ (H1 : Heap) (locs1 : List Loc), tm_W G Hb sh (sI M a 2 v) H1 → va_S (tm_A Hb) H0 H1 locs1 → W p l e R s m args below meth c H1 locs1 cells slots Q (F0 m (pc + 3) ls (rest))) : W p l e R s m args below meth c H locs cells slots Q (F0 m pc ls (ji v :: .ref a :: rest)) := tm_put hexec hb htw ly_X1 tyX1 tyX1_ok nmX1 hown hK hW hS hq (by decide) rfl 2 (by decide) (htw _ fl_X1_23) (fun _ h => h) rfl (tyX1_ok 2 (by decide)) rfl rfl (M' := sI M a 2 v) ((tm_V0 rfl _ a).trans (by rw [show mI (sI M a 2 v) a 2 = v from tm_up_s _ _ _ _])) (fun kd q j h => tm_V_sI h) hdg kk
theorem gf_X7_44 (hexec : p.tables.exec = Jvm.exec) (hb : c.code = cc) (htw : ∀ w ∈ tw, w.before args s = true) (hown : s.vm.findClass RX7 = some m.cls) (hK : va_K G.1 vwCl (tm_tys G) s) (hW : tm_W G Hb sh M H) (hq : sh a = some (3, 0)) (hdg : decode cc pc = .ok (.getfield 44, 3)) (kk : W p l e R s m args below meth c H locs cells slots Q (F0 m (pc + 3) ls (ji (mI M a 2) :: rest))) : W p l e R s m args below meth c H locs cells slots Q (F0 m pc ls (.ref a :: rest)) := tm_get hexec hb htw ly_X1 hown hK hW hq (by decide) rfl 2 (by decide) (htw _ fl_X7_44) (fun _ h => h) hdg kk
theorem pf_X7_44 (hexec : p.tables.exec = Jvm.exec) (hb : c.code = cc) (htw : ∀ w ∈ tw, w.before args s = true) (hown : s.vm.findClass RX7 = some m.cls) (hK : va_K G.1 vwCl (tm_tys G) s) (hW : tm_W G Hb sh M H) (hq : sh a = some (3, 0)) (hS : va_S (tm_A Hb) H0 H locs) {v : Int} (hdg : decode cc pc = .ok (.putfield 44, 3)) (kk : ∀ (H1 : Heap) (locs1 : List Loc), tm_W G Hb sh (sI M a 2 v) H1 → va_S (tm_A Hb) H0 H1 locs1 → W p l e R s m args below meth c H1 locs1 cells slots Q (F0 m (pc + 3) ls (rest))) : W p l e R s m args below meth c H locs cells slots Q (F0 m pc ls (ji v :: .ref a :: rest)) := tm_put hexec hb htw ly_X1 tyX1 tyX1_ok nmX1 hown hK hW hS hq (by decide) rfl 2 (by decide) (htw _ fl_X7_44) (fun _ h => h) rfl (tyX1_ok 2 (by decide)) rfl rfl (M' := sI M a 2 v) ((tm_V0 rfl _ a).trans (by rw [show mI (sI M a 2 v) a 2 = v from tm_up_s _ _ _ _])) (fun kd q j h => tm_V_sI h) hdg kk
theorem gf_X4_72 (hexec : p.tables.exec = Jvm.exec) (hb : c.code = cc) (htw : ∀ w ∈ tw, w.before args s = true) (hown : s.vm.findClass RX4 = some m.cls) (hK : va_K G.1 vwCl (tm_tys G) s) (hW : tm_W G Hb sh M H) (hq : sh a = some (3, 0)) (hdg : decode cc pc = .ok (.getfield 72, 3)) (kk : W p l e R s m args below meth c H locs cells slots Q (F0 m (pc + 3) ls (ji (mI M a 2) :: rest))) : W p l e R s m args below meth c H locs cells slots Q (F0 m pc ls (.ref a :: rest)) := tm_get hexec hb htw ly_X1 hown hK hW hq (by decide) rfl 2 (by decide) (htw _ fl_X4_72) (fun _ h => h) hdg kk
theorem pf_X4_72 (hexec : p.tables.exec = Jvm.exec) (hb : c.code = cc) (htw : ∀ w ∈ tw, w.before args s = true) (hown : s.vm.findClass RX4 = some m.cls) (hK : va_K G.1 vwCl (tm_tys G) s) (hW : tm_W G Hb sh M H) (hq : sh a = some (3, 0)) (hS : va_S (tm_A Hb) H0 H locs) {v : Int} (hdg : decode cc pc = .ok (.putfield 72, 3)) (kk : ∀ (H1 : Heap) (locs1 : List Loc), tm_W G Hb sh (sI M a 2 v) H1 → va_S (tm_A Hb) H0 H1 locs1 → W p l e R s m args below meth c H1 locs1 cells slots Q (F0 m (pc + 3) ls (rest))) : W p l e R s m args below meth c H locs cells slots Q (F0 m pc ls (ji v :: .ref a :: rest)) := tm_put hexec hb htw ly_X1 tyX1 tyX1_ok nmX1 hown hK hW hS hq (by decide) rfl 2 (by decide) (htw _ fl_X4_72) (fun _ h => h) rfl (tyX1_ok 2 (by decide)) rfl rfl (M' := sI M a 2 v) ((tm_V0 rfl _ a).trans (by rw [show mI (sI M a 2 v) a 2 = v from tm_up_s _ _ _ _])) (fun kd q j h => tm_V_sI h) hdg kk
theorem gf_X6_49 (hexec : p.tables.exec = Jvm.exec) (hb : c.code = cc) (htw : ∀ w ∈ tw, w.before args s = true) (hown : s.vm.findClass RX6 = some m.cls) (hK : va_K G.1 vwCl (tm_tys G) s) (hW : tm_W G Hb sh M H) (hq : sh a = some (3, 0)) (hdg : decode cc pc = .ok (.getfield 49, 3)) (kk : W p l e R s m args below meth c H locs cells slots Q (F0 m (pc + 3) ls (ji (mI M a 2) :: rest))) : W p l e R s m args below meth c H locs cells slots Q (F0 m pc ls (.ref a :: rest)) := tm_get hexec hb htw ly_X1 hown hK hW hq (by decide) rfl 2 (by decide) (htw _ fl_X6_49) (fun _ h => h) hdg kk
theorem pf_X6_49 (hexec : p.tables.exec = Jvm.exec) (hb : c.code = cc) (htw : ∀ w ∈ tw, w.before args s = true) (hown : s.vm.findClass RX6 = some m.cls) (hK : va_K G.1 vwCl (tm_tys G) s) (hW : tm_W G Hb sh M H) (hq : sh a = some (3, 0)) (hS : va_S (tm_A Hb) H0 H locs) {v : Int} (hdg : decode cc pc = .ok (.putfield 49, 3)) (kk : ∀ (H1 : Heap) (locs1 : List Loc), tm_W G Hb sh (sI M a 2 v) H1 → va_S (tm_A Hb) H0 H1 locs1 → W p l e R s m args below meth c H1 locs1 cells slots Q (F0 m (pc + 3) ls (rest))) : W p l e R s m args below meth c H locs cells slots Q (F0 m pc ls (ji v :: .ref a :: rest)) := tm_put hexec hb htw ly_X1 tyX1 tyX1_ok nmX1 hown hK hW hS hq (by decide) rfl 2 (by decide) (htw _ fl_X6_49) (fun _ h => h) rfl (tyX1_ok 2 (by decide)) rfl rfl (M' := sI M a 2 v) ((tm_V0 rfl _ a).trans (by rw [show mI (sI M a 2 v) a 2 = v from tm_up_s _ _ _ _])) (fun kd q j h => tm_V_sI h) hdg kk
theorem gf_X2_38 (hexec : p.tables.exec = Jvm.exec) (hb : c.code = cc) (htw : ∀ w ∈ tw, w.before args s = true) (hown : s.vm.findClass RX2 = some m.cls) (hK : va_K G.1 vwCl (tm_tys G) s) (hW : tm_W G Hb sh M H) (hq : sh a = some (3, 0)) (hdg : decode cc pc = .ok (.getfield 38, 3)) (kk : W p l e R s m args below meth c H locs cells slots Q (F0 m (pc + 3) ls (ji (mI M a 2) :: rest))) : W p l e R s m args below meth c H locs cells slots Q (F0 m pc ls (.ref a :: rest)) := tm_get hexec hb htw ly_X1 hown hK hW hq (by decide) rfl 2 (by decide) (htw _ fl_X2_38) (fun _ h => h) hdg kk
theorem pf_X2_38 (hexec : p.tables.exec = Jvm.exec) (hb : c.code = cc) (htw : ∀ w ∈ tw, w.before args s = true) (hown : s.vm.findClass RX2 = some m.cls) (hK : va_K G.1 vwCl (tm_tys G) s) (hW : tm_W G Hb sh M H) (hq : sh a = some (3, 0)) (hS : va_S (tm_A Hb) H0 H locs) {v : Int} (hdg : decode cc pc = .ok (.putfield 38, 3)) (kk : ∀ (H1 : Heap) (locs1 : List Loc), tm_W G Hb sh (sI M a 2 v) H1 → va_S (tm_A Hb) H0 H1 locs1 → W p l e R s m args below meth c H1 locs1 cells slots Q (F0 m (pc + 3) ls (rest))) : W p l e R s m args below meth c H locs cells slots Q (F0 m pc ls (ji v :: .ref a :: rest)) := tm_put hexec hb htw ly_X1 tyX1 tyX1_ok nmX1 hown hK hW hS hq (by decide) rfl 2 (by decide) (htw _ fl_X2_38) (fun _ h => h) rfl (tyX1_ok 2 (by decide)) rfl rfl (M' := sI M a 2 v) ((tm_V0 rfl _ a).trans (by rw [show mI (sI M a 2 v) a 2 = v from tm_up_s _ _ _ _])) (fun kd q j h => tm_V_sI h) hdg kk
theorem gf_X8_130 (hexec : p.tables.exec = Jvm.exec) (hb : c.code = cc) (htw : ∀ w ∈ tw, w.before args s = true) (hown : s.vm.findClass RX8 = some m.cls) (hK : va_K G.1 vwCl (tm_tys G) s) (hW : tm_W G Hb sh M H) (hq : sh a = some (3, 0)) (hdg : decode cc pc = .ok (.getfield 130, 3)) (kk : W p l e R s m args below meth c H locs cells slots Q (F0 m (pc + 3) ls (ji (mI M a 2) :: rest))) : W p l e R s m args below meth c H locs cells slots Q (F0 m pc ls (.ref a :: rest)) := tm_get hexec hb htw ly_X1 hown hK hW hq (by decide) rfl 2 (by decide) (htw _ fl_X8_130) (fun _ h => h) hdg kk
theorem pf_X8_130 (hexec : p.tables.exec = Jvm.exec) (hb : c.code = cc) (htw : ∀ w ∈ tw, w.before args s = true) (hown : s.vm.findClass RX8 = some m.cls) (hK : va_K G.1 vwCl (tm_tys G) s) (hW : tm_W G Hb sh M H) (hq : sh a = some (3, 0)) (hS : va_S (tm_A Hb) H0 H locs) {v : Int} (hdg : decode cc pc = .ok (.putfield 130, 3)) (kk : ∀ (H1 : Heap) (locs1 : List Loc), tm_W G Hb sh (sI M a 2 v) H1 → va_S (tm_A Hb) H0 H1 locs1 → W p l e R s m args below meth c H1 locs1 cells slots Q (F0 m (pc + 3) ls (rest))) : W p l e R s m args below meth c H locs cells slots Q (F0 m pc ls (ji v :: .ref a :: rest)) := tm_put hexec hb htw ly_X1 tyX1 tyX1_ok nmX1 hown hK hW hS hq (by decide) rfl 2 (by decide) (htw _ fl_X8_130) (fun _ h => h) rfl (tyX1_ok 2 (by decide)) rfl rfl (M' := sI M a 2 v) ((tm_V0 rfl _ a).trans (by rw [show mI (sI M a 2 v) a 2 = v from tm_up_s _ _ _ _])) (fun kd q j h => tm_V_sI h) hdg kk
theorem gf_X7_52 (hexec : p.tables.exec = Jvm.exec) (hb : c.code = cc) (htw : ∀ w ∈ tw, w.before args s = true) (hown : s.vm.findClass RX7 = some m.cls) (hK : va_K G.1 vwCl (tm_tys G) s) (hW : tm_W G Hb sh M H) (hq : sh a = some (7, 0)) (hdg : decode cc pc = .ok (.getfield 52, 3)) (kk : W p l e R s m args below meth c H locs cells slots Q (F0 m (pc + 3) ls (ji (mI M a 0) :: rest))) : W p l e R s m args below meth c H locs cells slots Q (F0 m pc ls (.ref a :: rest)) := tm_get hexec hb htw ly_X7 hown hK hW hq (by decide) rfl 0 (by decide) (htw _ fl_X7_52) (fun _ h => h) hdg kk
theorem pf_X7_52 (hexec : p.tables.exec = Jvm.exec) (hb : c.code = cc) (htw : ∀ w ∈ tw, w.before args s = true) (hown : s.vm.findClass RX7 = some m.cls) (hK : va_K G.1 vwCl (tm_tys G) s) (hW : tm_W G Hb sh M H) (hq : sh a = some (7, 0)) (hS : va_S (tm_A Hb) H0 H locs) {v : Int} (hdg : decode cc pc = .ok (.putfield 52, 3)) (kk : ∀ (H1 : Heap) (locs1 : List Loc), tm_W G Hb sh (sI M a 0 v) H1 → va_S (tm_A Hb) H0 H1 locs1 → W p l e R s m args below meth c H1 locs1 cells slots Q (F0 m (pc + 3) ls (rest))) : W p l e R s m args below meth c H locs cells slots Q (F0 m pc ls (ji v :: .ref a :: rest)) := tm_put hexec hb htw ly_X7 tyX7 tyX7_ok nmX7 hown hK hW hS hq (by decide) rfl 0 (by decide) (htw _ fl_X7_52) (fun _ h => h) rfl (tyX7_ok 0 (by decide)) rfl rfl (M' := sI M a 0 v) ((tm_V0 rfl _ a).trans (by rw [show mI (sI M a 0 v) a 0 = v from tm_up_s _ _ _ _])) (fun kd q j h => tm_V_sI h) hdg kk
theorem gf_X8_148 (hexec : p.tables.exec = Jvm.exec) (hb : c.code = cc) (htw : ∀ w ∈ tw, w.before args s = true) (hown : s.vm.findClass RX8 = some m.cls) (hK : va_K G.1 vwCl (tm_tys G) s) (hW : tm_W G Hb sh M H) (hq : sh a = some (7, 0)) (hdg : decode cc pc = .ok (.getfield 148, 3)) (kk : W p l e R s m args below meth c H locs cells slots Q (F0 m (pc + 3) ls (ji (mI M a 0) :: rest))) : W p l e R s m args below meth c H locs cells slots Q (F0 m pc ls (.ref a :: rest)) := tm_get hexec hb htw ly_X7 hown hK hW hq (by decide) rfl 0 (by decide) (htw _ fl_X8_148) (fun _ h => h) hdg kk
theorem pf_X8_148 (hexec : p.tables.exec = Jvm.exec) (hb : c.code = cc) (htw : ∀ w ∈ tw, w.before args s = true) (hown : s.vm.findClass RX8 = some m.cls) (hK : va_K G.1 vwCl (tm_tys G) s) (hW : tm_W G Hb sh M H) (hq : sh a = some (7, 0)) (hS : va_S (tm_A Hb) H0 H locs) {v : Int} (hdg : decode cc pc = .ok (.putfield 148, 3)) (kk : ∀ (H1 : Heap) (locs1 : List Loc), tm_W G Hb sh (sI M a 0 v) H1 → va_S (tm_A Hb) H0 H1 locs1 → W p l e R s m args below meth c H1 locs1 cells slots Q (F0 m (pc + 3) ls (rest))) : W p l e R s m args below meth c H locs cells slots Q (F0 m pc ls (ji v :: .ref a :: rest)) := tm_put hexec hb htw ly_X7 tyX7 tyX7_ok nmX7 hown hK hW hS hq (by decide) rfl 0 (by decide) (htw _ fl_X8_148) (fun _ h => h) rfl (tyX7_ok 0 (by decide)) rfl rfl (M' := sI M a 0 v) ((tm_V0 rfl _ a).trans (by rw [show mI (sI M a 0 v) a 0 = v from tm_up_s _ _ _ _])) (fun kd q j h => tm_V_sI h) hdg kk
theorem gf_X7_10 (hexec : p.tables.exec = Jvm.exec) (hb : c.code = cc) (htw : ∀ w ∈ tw, w.before args s = true) (hown : s.vm.findClass RX7 = some m.cls) (hK : va_K G.1 vwCl (tm_tys G) s) (hW : tm_W G Hb sh M H) (hq : sh a = some (7, 0)) (hr : mR M a 1 = some b) (hdg : decode cc pc = .ok (.getfield 10, 3)) (kk : W p l e R s m args below meth c H locs cells slots Q (F0 m (pc + 3) ls (.ref b :: rest))) : W p l e R s m args below meth c H locs cells slots Q (F0 m pc ls (.ref a :: rest)) := tm_get hexec hb htw ly_X7 hown hK hW hq (by decide) rfl 1 (by decide) (htw _ fl_X7_10) (fun _ h => h) hdg (by rw [tm_V2 rfl M a, hr]; exact kk)
theorem pf_X7_10 (hexec : p.tables.exec = Jvm.exec) (hb : c.code = cc) (htw : ∀ w ∈ tw, w.before args s = true) (hown : s.vm.findClass RX7 = some m.cls) (hK : va_K G.1 vwCl (tm_tys G) s) (hW : tm_W G Hb sh M H) (hq : sh a = some (7, 0)) (hS : va_S (tm_A Hb) H0 H locs) (hin : meth.name = "<init>") {v : Nat} (hdg : decode cc pc = .ok (.putfield 10, 3)) (kk : ∀ (H1 : Heap) (locs1 : List Loc), tm_W G Hb sh (sR M a 1 (some v)) H1 → va_S (tm_A Hb) H0 H1 locs1 → W p l e R s m args below meth c H1 locs1 cells slots Q (F0 m (pc + 3) ls (rest))) : W p l e R s m args below meth c H locs cells slots Q (F0 m pc ls (.ref v :: .ref a :: rest)) := tm_putF hexec hb htw ly_X7 tyX7 tyX7_ok nmX7 hown hK hW hS hq (by decide) rfl 1 (by decide) (htw _ fl_X7_10) (fun _ h => h) rfl hin rfl (tyX7_ok 1 (by decide)) rfl rfl (M' := sR M a 1 (some v)) ((tm_V2 rfl _ a).trans (by rw [show mR (sR M a 1 (some v)) a 1 = _ from tm_up_s _ _ _ _]; rfl)) (fun kd q j h => tm_V_sR h) hdg kk
theorem gf_X8_151 (hexec : p.tables.exec = Jvm.exec) (hb : c.code = cc) (htw : ∀ w ∈ tw, w.before args s = true) (hown : s.vm.findClass RX8 = some m.cls) (hK : va_K G.1 vwCl (tm_tys G) s) (hW : tm_W G Hb sh M H) (hq : sh a = some (7, 0)) (hr : mR M a 1 = some b) (hdg : decode cc pc = .ok (.getfield 151, 3)) (kk : W p l e R s m args below meth c H locs cells slots Q (F0 m (pc + 3) ls (.ref b :: rest))) : W p l e R s m args below meth c H locs cells slots Q (F0 m pc ls (.ref a :: rest)) := tm_get hexec hb htw ly_X7 hown hK hW hq (by decide) rfl 1 (by decide) (htw _ fl_X8_151) (fun _ h => h) hdg (by rw [tm_V2 rfl M a, hr]; exact kk)
theorem gf_X7_16 (hexec : p.tables.exec = Jvm.exec) (hb : c.code = cc) (htw : ∀ w ∈ tw, w.before args s = true) (hown : s.vm.findClass RX7 = some m.cls) (hK : va_K G.1 vwCl (tm_tys G) s) (hW : tm_W G Hb sh M H) (hq : sh a = some (7, 0)) (hr : mR M a 2 = some b) (hdg : decode cc pc = .ok (.getfield 16, 3)) (kk : W p l e R s m args below meth c H locs cells slots Q (F0 m (pc + 3) ls (.ref b :: rest))) : W p l e R s m args below meth c H locs cells slots Q (F0 m pc ls (.ref a :: rest)) := tm_get hexec hb htw ly_X7 hown hK hW hq (by decide) rfl 2 (by decide) (htw _ fl_X7_16) (fun _ h => h) hdg (by rw [tm_V2 rfl M a, hr]; exact kk)
theorem pf_X7_16 (hexec : p.tables.exec = Jvm.exec) (hb : c.code = cc) (htw : ∀ w ∈ tw, w.before args s = true) (hown : s.vm.findClass RX7 = some m.cls) (hK : va_K G.1 vwCl (tm_tys G) s) (hW : tm_W G Hb sh M H) (hq : sh a = some (7, 0)) (hS : va_S (tm_A Hb) H0 H locs) (hin : meth.name = "<init>") {v : Nat} (hdg : decode cc pc = .ok (.putfield 16, 3)) (kk : ∀ (H1 : Heap) (locs1 : List Loc), tm_W G Hb sh (sR M a 2 (some v)) H1 → va_S (tm_A Hb) H0 H1 locs1 → W p l e R s m args below meth c H1 locs1 cells slots Q (F0 m (pc + 3) ls (rest))) : W p l e R s m args below meth c H locs cells slots Q (F0 m pc ls (.ref v :: .ref a :: rest)) := tm_putF hexec hb htw ly_X7 tyX7 tyX7_ok nmX7 hown hK hW hS hq (by decide) rfl 2 (by decide) (htw _ fl_X7_16) (fun _ h => h) rfl hin rfl (tyX7_ok 2 (by decide)) rfl rfl (M' := sR M a 2 (some v)) ((tm_V2 rfl _ a).trans (by rw [show mR (sR M a 2 (some v)) a 2 = _ from tm_up_s _ _ _ _]; rfl)) (fun kd q j h => tm_V_sR h) hdg kk
theorem gf_X2_10 (hexec : p.tables.exec = Jvm.exec) (hb : c.code = cc) (htw : ∀ w ∈ tw, w.before args s = true) (hown : s.vm.findClass RX2 = some m.cls) (hK : va_K G.1 vwCl (tm_tys G) s) (hW : tm_W G Hb sh M H) (hq : sh a = some (4, 0)) (hr : mR M a 0 = some b) (hdg : decode cc pc = .ok (.getfield 10, 3)) (kk : W p l e R s m args below meth c H locs cells slots Q (F0 m (pc + 3) ls (.ref b :: rest))) : W p l e R s m args below meth c H locs cells slots Q (F0 m pc ls (.ref a :: rest)) := tm_get hexec hb htw ly_X2 hown hK hW hq (by decide) rfl 0 (by decide) (htw _ fl_X2_10) (fun _ h => h) hdg (by rw [tm_V2 rfl M a, hr]; exact kk)
theorem pf_X2_10 (hexec : p.tables.exec = Jvm.exec) (hb : c.code = cc) (htw : ∀ w ∈ tw, w.before args s = true) (hown : s.vm.findClass RX2 = some m.cls) (hK : va_K G.1 vwCl (tm_tys G) s) (hW : tm_W G Hb sh M H) (hq : sh a = some (4, 0)) (hS : va_S (tm_A Hb) H0 H locs) (hin : meth.name = "<init>") {v : Nat} (hdg : decode cc pc = .ok (.putfield 10, 3)) (kk : ∀ (H1 : Heap) (locs1 : List Loc), tm_W G Hb sh (sR M a 0 (some v)) H1 → va_S (tm_A Hb) H0 H1 locs1 → W p l e R s m args below meth c H1 locs1 cells slots Q (F0 m (pc + 3) ls (rest))) : W p l e R s m args below meth c H locs cells slots Q (F0 m pc ls (.ref v :: .ref a :: rest)) := tm_putF hexec hb htw ly_X2 tyX2 tyX2_ok nmX2 hown hK hW hS hq (by decide) rfl 0 (by decide) (htw _ fl_X2_10) (fun _ h => h) rfl hin rfl (tyX2_ok 0 (by decide)) rfl rfl (M' := sR M a 0 (some v)) ((tm_V2 rfl _ a).trans (by rw [show mR (sR M a 0 (some v)) a 0 = _ from tm_up_s _ _ _ _]; rfl)) (fun kd q j h => tm_V_sR h) hdg kk
theorem gf_X8_9 (hexec : p.tables.exec = Jvm.exec) (hb : c.code = cc) (htw : ∀ w ∈ tw, w.before args s = true) (hown : s.vm.findClass RX8 = some m.cls) (hK : va_K G.1 vwCl (tm_tys G) s) (hW : tm_W G Hb sh M H) (hq : sh a = some (8, 0)) (hr : mR M a 0 = some b) (hdg : decode cc pc = .ok (.getfield 9, 3)) (kk : W p l e R s m args below meth c H locs cells slots Q (F0 m (pc + 3) ls (.ref b :: rest))) : W p l e R s m args below meth c H locs cells slots Q (F0 m pc ls (.ref a :: rest)) := tm_get hexec hb htw ly_X8 hown hK hW hq (by decide) rfl 0 (by decide) (htw _ fl_X8_9) (fun _ h => h) hdg (by rw [tm_V2 rfl M a, hr]; exact kk)
theorem pf_X8_9 (hexec : p.tables.exec = Jvm.exec) (hb : c.code = cc) (htw : ∀ w ∈ tw, w.before args s = true) (hown : s.vm.findClass RX8 = some m.cls) (hK : va_K G.1 vwCl (tm_tys G) s) (hW : tm_W G Hb sh M H) (hq : sh a = some (8, 0)) (hS : va_S (tm_A Hb) H0 H locs) (hin : meth.name = "<init>") {v : Nat} (hdg : decode cc pc = .ok (.putfield 9, 3)) (kk : ∀ (H1 : Heap) (locs1 : List Loc), tm_W G Hb sh (sR M a 0 (some v)) H1 → va_S (tm_A Hb) H0 H1 locs1 → W p l e R s m args below meth c H1 locs1 cells slots Q (F0 m (pc + 3) ls (rest))) : W p l e R s m args below meth c H locs cells slots Q (F0 m pc ls (.ref v :: .ref a :: rest)) := tm_putF hexec hb htw ly_X8 tyX8 tyX8_ok nmX8 hown hK hW hS hq (by decide) rfl 0 (by decide) (htw _ fl_X8_9) (fun _ h => h) rfl hin rfl (tyX8_ok 0 (by decide)) rfl rfl (M' := sR M a 0 (some v)) ((tm_V2 rfl _ a).trans (by rw [show mR (sR M a 0 (some v)) a 0 = _ from tm_up_s _ _ _ _]; rfl)) (fun kd q j h => tm_V_sR h) hdg kk
theorem gf_X8_16 (hexec : p.tables.exec = Jvm.exec) (hb : c.code = cc) (htw : ∀ w ∈ tw, w.before args s = true) (hown : s.vm.findClass RX8 = some m.cls) (hK : va_K G.1 vwCl (tm_tys G) s) (hW : tm_W G Hb sh M H) (hq : sh a = some (8, 0)) (hr : mR M a 1 = some b) (hdg : decode cc pc = .ok (.getfield 16, 3)) (kk : W p l e R s m args below meth c H locs cells slots Q (F0 m (pc + 3) ls (.ref b :: rest))) : W p l e R s m args below meth c H locs cells slots Q (F0 m pc ls (.ref a :: rest)) := tm_get hexec hb htw ly_X8 hown hK hW hq (by decide) rfl 1 (by decide) (htw _ fl_X8_16) (fun _ h => h) hdg (by rw [tm_V2 rfl M a, hr]; exact kk)
theorem pf_X8_16 (hexec : p.tables.exec = Jvm.exec) (hb : c.code = cc) (htw : ∀ w ∈ tw, w.before args s = true) (hown : s.vm.findClass RX8 = some m.cls) (hK : va_K G.1 vwCl (tm_tys G) s) (hW : tm_W G Hb sh M H) (hq : sh a = some (8, 0)) (hS : va_S (tm_A Hb) H0 H locs) (hin : meth.name = "<init>") {v : Nat} (hdg : decode cc pc = .ok (.putfield 16, 3)) (kk : ∀ (H1 : Heap) (locs1 : List Loc), tm_W G Hb sh (sR M a 1 (some v)) H1 → va_S (tm_A Hb) H0 H1 locs1 → W p l e R s m args below meth c H1 locs1 cells slots Q (F0 m (pc + 3) ls (rest))) : W p l e R s m args below meth c H locs cells slots Q (F0 m pc ls (.ref v :: .ref a :: rest)) := tm_putF hexec hb htw ly_X8 tyX8 tyX8_ok nmX8 hown hK hW hS hq (by decide) rfl 1 (by decide) (htw _ fl_X8_16) (fun _ h => h) rfl hin rfl (tyX8_ok 1 (by decide)) rfl rfl (M' := sR M a 1 (some v)) ((tm_V2 rfl _ a).trans (by rw [show mR (sR M a 1 (some v)) a 1 = _ from tm_up_s _ _ _ _]; rfl)) (fun kd q j h => tm_V_sR h) hdg kk
theorem gf_X8_22 (hexec : p.tables.exec = Jvm.exec) (hb : c.code = cc) (htw : ∀ w ∈ tw, w.before args s = true) (hown : s.vm.findClass RX8 = some m.cls) (hK : va_K G.1 vwCl (tm_tys G) s) (hW : tm_W G Hb sh M H) (hq : sh a = some (8, 0)) (hr : mR M a 2 = some b) (hdg : decode cc pc = .ok (.getfield 22, 3)) (kk : W p l e R s m args below meth c H locs cells slots Q (F0 m (pc + 3) ls (.ref b :: rest))) : W p l e R s m args below meth c H locs cells slots Q (F0 m pc ls (.ref a :: rest)) := tm_get hexec hb htw ly_X8 hown hK hW hq (by decide) rfl 2 (by decide) (htw _ fl_X8_22) (fun _ h => h) hdg (by rw [tm_V2 rfl M a, hr]; exact kk)
theorem pf_X8_22 (hexec : p.tables.exec = Jvm.exec) (hb : c.code = cc) (htw : ∀ w ∈ tw, w.before args s = true) (hown : s.vm.findClass RX8 = some m.cls) (hK : va_K G.1 vwCl (tm_tys G) s) (hW : tm_W G Hb sh M H) (hq : sh a = some (8, 0)) (hS : va_S (tm_A Hb) H0 H locs) (hin : meth.name = "<init>") {v : Nat} (hdg : decode cc pc = .ok (.putfield 22, 3)) (kk : ∀ (H1 : Heap) (locs1 : List Loc), tm_W G Hb sh (sR M a 2 (some v)) H1 → va_S (tm_A Hb) H0 H1 locs1 → W p l e R s m args below meth c H1 locs1 cells slots Q (F0 m (pc + 3) ls (rest))) : W p l e R s m args below meth c H locs cells slots Q (F0 m pc ls (.ref v :: .ref a :: rest)) := tm_putF hexec hb htw ly_X8 tyX8 tyX8_ok nmX8 hown hK hW hS hq (by decide) rfl 2 (by decide) (htw _ fl_X8_22) (fun _ h => h) rfl hin rfl (tyX8_ok 2 (by decide)) rfl rfl (M' := sR M a 2 (some v)) ((tm_V2 rfl _ a).trans (by rw [show mR (sR M a 2 (some v)) a 2 = _ from tm_up_s _ _ _ _]; rfl)) (fun kd q j h => tm_V_sR h) hdg kk
theorem gf_X8_73 (hexec : p.tables.exec = Jvm.exec) (hb : c.code = cc) (htw : ∀ w ∈ tw, w.before args s = true) (hown : s.vm.findClass RX8 = some m.cls) (hK : va_K G.1 vwCl (tm_tys G) s) (hW : tm_W G Hb sh M H) (hq : sh a = some (8, 0)) (hdg : decode cc pc = .ok (.getfield 73, 3)) (kk : W p l e R s m args below meth c H locs cells slots Q (F0 m (pc + 3) ls (ji (mI M a 3) :: rest))) : W p l e R s m args below meth c H locs cells slots Q (F0 m pc ls (.ref a :: rest)) := tm_get hexec hb htw ly_X8 hown hK hW hq (by decide) rfl 3 (by decide) (htw _ fl_X8_73) (fun _ h => h) hdg kk
theorem pf_X8_73 (hexec : p.tables.exec = Jvm.exec) (hb : c.code = cc) (htw : ∀ w ∈ tw, w.before args s = true) (hown : s.vm.findClass RX8 = some m.cls) (hK : va_K G.1 vwCl (tm_tys G) s) (hW : tm_W G Hb sh M H) (hq : sh a = some (8, 0)) (hS : va_S (tm_A Hb) H0 H locs) {v : Int} (hdg : decode cc pc = .ok (.putfield 73, 3)) (kk : ∀ (H1 : Heap) (locs1 : List Loc), tm_W G Hb sh (sI M a 3 v) H1 → va_S (tm_A Hb) H0 H1 locs1 → W p l e R s m args below meth c H1 locs1 cells slots Q (F0 m (pc + 3) ls (rest))) : W p l e R s m args below meth c H locs cells slots Q (F0 m pc ls (ji v :: .ref a :: rest)) := tm_put hexec hb htw ly_X8 tyX8 tyX8_ok nmX8 hown hK hW hS hq (by decide) rfl 3 (by decide) (htw _ fl_X8_73) (fun _ h => h) rfl (tyX8_ok 3 (by decide)) rfl rfl (M' := sI M a 3 v) ((tm_V0 rfl _ a).trans (by rw [show mI (sI M a 3 v) a 3 = v from tm_up_s _ _ _ _])) (fun kd q j h => tm_V_sI h) hdg kk
theorem gf_X8_27 (hexec : p.tables.exec = Jvm.exec) (hb : c.code = cc) (htw : ∀ w ∈ tw, w.before args s = true) (hown : s.vm.findClass RX8 = some m.cls) (hK : va_K G.1 vwCl (tm_tys G) s) (hW : tm_W G Hb sh M H) (hq : sh a = some (8, 0)) (hr : mR M a 4 = some b) (hdg : decode cc pc = .ok (.getfield 27, 3)) (kk : W p l e R s m args below meth c H locs cells slots Q (F0 m (pc + 3) ls (.ref b :: rest))) : W p l e R s m args below meth c H locs cells slots Q (F0 m pc ls (.ref a :: rest)) := tm_get hexec hb htw ly_X8 hown hK hW hq (by decide) rfl 4 (by decide) (htw _ fl_X8_27) (fun _ h => h) hdg (by rw [tm_V2 rfl M a, hr]; exact kk)
theorem pf_X8_27 (hexec : p.tables.exec = Jvm.exec) (hb : c.code = cc) (htw : ∀ w ∈ tw, w.before args s = true) (hown : s.vm.findClass RX8 = some m.cls) (hK : va_K G.1 vwCl (tm_tys G) s) (hW : tm_W G Hb sh M H) (hq : sh a = some (8, 0)) (hS : va_S (tm_A Hb) H0 H locs) (hin : meth.name = "<init>") {v : Nat} (hdg : decode cc pc = .ok (.putfield 27, 3)) (kk : ∀ (H1 : Heap) (locs1 : List Loc), tm_W G Hb sh (sR M a 4 (some v)) H1 → va_S (tm_A Hb) H0 H1 locs1 → W p l e R s m args below meth c H1 locs1 cells slots Q (F0 m (pc + 3) ls (rest))) : W p l e R s m args below meth c H locs cells slots Q (F0 m pc ls (.ref v :: .ref a :: rest)) := tm_putF hexec hb htw ly_X8 tyX8 tyX8_ok nmX8 hown hK hW hS hq (by decide) rfl 4 (by decide) (htw _ fl_X8_27) (fun _ h => h) rfl hin rfl (tyX8_ok 4 (by decide)) rfl rfl (M' := sR M a 4 (some v)) ((tm_V2 rfl _ a).trans (by rw [show mR (sR M a 4 (some v)) a 4 = _ from tm_up_s _ _ _ _]; rfl)) (fun kd q j h => tm_V_sR h) hdg kk
theorem gf_X8_31 (hexec : p.tables.exec = Jvm.exec) (hb : c.code = cc) (htw : ∀ w ∈ tw, w.before args s = true) (hown : s.vm.findClass RX8 = some m.cls) (hK : va_K G.1 vwCl (tm_tys G) s) (hW : tm_W G Hb sh M H) (hq : sh a = some (8, 0)) (hr : mR M a 5 = some b) (hdg : decode cc pc = .ok (.getfield 31, 3)) (kk : W p l e R s m args below meth c H locs cells slots Q (F0 m (pc + 3) ls (.ref b :: rest))) : W p l e R s m args below meth c H locs cells slots Q (F0 m pc ls (.ref a :: rest)) := tm_get hexec hb htw ly_X8 hown hK hW hq (by decide) rfl 5 (by decide) (htw _ fl_X8_31) (fun _ h => h) hdg (by rw [tm_V2 rfl M a, hr]; exact kk)
theorem pf_X8_31 (hexec : p.tables.exec = Jvm.exec) (hb : c.code = cc) (htw : ∀ w ∈ tw, w.before args s = true) (hown : s.vm.findClass RX8 = some m.cls) (hK : va_K G.1 vwCl (tm_tys G) s) (hW : tm_W G Hb sh M H) (hq : sh a = some (8, 0)) (hS : va_S (tm_A Hb) H0 H locs) (hin : meth.name = "<init>") {v : Nat} (hdg : decode cc pc = .ok (.putfield 31, 3)) (kk : ∀ (H1 : Heap) (locs1 : List Loc), tm_W G Hb sh (sR M a 5 (some v)) H1 → va_S (tm_A Hb) H0 H1 locs1 → W p l e R s m args below meth c H1 locs1 cells slots Q (F0 m (pc + 3) ls (rest))) : W p l e R s m args below meth c H locs cells slots Q (F0 m pc ls (.ref v :: .ref a :: rest)) := tm_putF hexec hb htw ly_X8 tyX8 tyX8_ok nmX8 hown hK hW hS hq (by decide) rfl 5 (by decide) (htw _ fl_X8_31) (fun _ h => h) rfl hin rfl (tyX8_ok 5 (by decide)) rfl rfl (M' := sR M a 5 (some v)) ((tm_V2 rfl _ a).trans (by rw [show mR (sR M a 5 (some v)) a 5 = _ from tm_up_s _ _ _ _]; rfl)) (fun kd q j h => tm_V_sR h) hdg kk
theorem gf_X8_37 (hexec : p.tables.exec = Jvm.exec) (hb : c.code = cc) (htw : ∀ w ∈ tw, w.before args s = true) (hown : s.vm.findClass RX8 = some m.cls) (hK : va_K G.1 vwCl (tm_tys G) s) (hW : tm_W G Hb sh M H) (hq : sh a = some (8, 0)) (hr : mR M a 6 = some b) (hdg : decode cc pc = .ok (.getfield 37, 3)) (kk : W p l e R s m args below meth c H locs cells slots Q (F0 m (pc + 3) ls (.ref b :: rest))) : W p l e R s m args below meth c H locs cells slots Q (F0 m pc ls (.ref a :: rest)) := tm_get hexec hb htw ly_X8 hown hK hW hq (by decide) rfl 6 (by decide) (htw _ fl_X8_37) (fun _ h => h) hdg (by rw [tm_V2 rfl M a, hr]; exact kk)
theorem pf_X8_37 (hexec : p.tables.exec = Jvm.exec) (hb : c.code = cc) (htw : ∀ w ∈ tw, w.before args s = true) (hown : s.vm.findClass RX8 = some m.cls) (hK : va_K G.1 vwCl (tm_tys G) s) (hW : tm_W G Hb sh M H) (hq : sh a = some (8, 0)) (hS : va_S (tm_A Hb) H0 H locs) (hin : meth.name = "<init>") {v : Nat} (hdg : decode cc pc = .ok (.putfield 37, 3)) (kk : ∀ (H1 : Heap) (locs1 : List Loc), tm_W G Hb sh (sR M a 6 (some v)) H1 → va_S (tm_A Hb) H0 H1 locs1 → W p l e R s m args below meth c H1 locs1 cells slots Q (F0 m (pc + 3) ls (rest))) : W p l e R s m args below meth c H locs cells slots Q (F0 m pc ls (.ref v :: .ref a :: rest)) := tm_putF hexec hb htw ly_X8 tyX8 tyX8_ok nmX8 hown hK hW hS hq (by decide) rfl 6 (by decide) (htw _ fl_X8_37) (fun _ h => h) rfl hin rfl (tyX8_ok 6 (by decide)) rfl rfl (M' := sR M a 6 (some v)) ((tm_V2 rfl _ a).trans (by rw [show mR (sR M a 6 (some v)) a 6 = _ from tm_up_s _ _ _ _]; rfl)) (fun kd q j h => tm_V_sR h) hdg kk
theorem gf_X8_41 (hexec : p.tables.exec = Jvm.exec) (hb : c.code = cc) (htw : ∀ w ∈ tw, w.before args s = true) (hown : s.vm.findClass RX8 = some m.cls) (hK : va_K G.1 vwCl (tm_tys G) s) (hW : tm_W G Hb sh M H) (hq : sh a = some (8, 0)) (hr : mR M a 7 = some b) (hdg : decode cc pc = .ok (.getfield 41, 3)) (kk : W p l e R s m args below meth c H locs cells slots Q (F0 m (pc + 3) ls (.ref b :: rest))) : W p l e R s m args below meth c H locs cells slots Q (F0 m pc ls (.ref a :: rest)) := tm_get hexec hb htw ly_X8 hown hK hW hq (by decide) rfl 7 (by decide) (htw _ fl_X8_41) (fun _ h => h) hdg (by rw [tm_V2 rfl M a, hr]; exact kk)
theorem pf_X8_41 (hexec : p.tables.exec = Jvm.exec) (hb : c.code = cc) (htw : ∀ w ∈ tw, w.before args s = true) (hown : s.vm.findClass RX8 = some m.cls) (hK : va_K G.1 vwCl (tm_tys G) s) (hW : tm_W G Hb sh M H) (hq : sh a = some (8, 0)) (hS : va_S (tm_A Hb) H0 H locs) (hin : meth.name = "<init>") {v : Nat} (hdg : decode cc pc = .ok (.putfield 41, 3)) (kk : ∀ (H1 : Heap) (locs1 : List Loc), tm_W G Hb sh (sR M a 7 (some v)) H1 → va_S (tm_A Hb) H0 H1 locs1 → W p l e R s m args below meth c H1 locs1 cells slots Q (F0 m (pc + 3) ls (rest))) : W p l e R s m args below meth c H locs cells slots Q (F0 m pc ls (.ref v :: .ref a :: rest)) := tm_putF hexec hb htw ly_X8 tyX8 tyX8_ok nmX8 hown hK hW hS hq (by decide) rfl 7 (by decide) (htw _ fl_X8_41) (fun _ h => h) rfl hin rfl (tyX8_ok 7 (by decide)) rfl rfl (M' := sR M a 7 (some v)) ((tm_V2 rfl _ a).trans (by rw [show mR (sR M a 7 (some v)) a 7 = _ from tm_up_s _ _ _ _]; rfl)) (fun kd q j h => tm_V_sR h) hdg kk
theorem gf_X8_104 (hexec : p.tables.exec = Jvm.exec) (hb : c.code = cc) (htw : ∀ w ∈ tw, w.before args s = true) (hown : s.vm.findClass RX8 = some m.cls) (hK : va_K G.1 vwCl (tm_tys G) s) (hW : tm_W G Hb sh M H) (hq : sh a = some (8, 0)) (hdg : decode cc pc = .ok (.getfield 104, 3)) (kk : W p l e R s m args below meth c H locs cells slots Q (F0 m (pc + 3) ls (ji (mI M a 8) :: rest))) : W p l e R s m args below meth c H locs cells slots Q (F0 m pc ls (.ref a :: rest)) := tm_get hexec hb htw ly_X8 hown hK hW hq (by decide) rfl 8 (by decide) (htw _ fl_X8_104) (fun _ h => h) hdg kk
theorem pf_X8_104 (hexec : p.tables.exec = Jvm.exec) (hb : c.code = cc) (htw : ∀ w ∈ tw, w.before args s = true) (hown : s.vm.findClass RX8 = some m.cls) (hK : va_K G.1 vwCl (tm_tys G) s) (hW : tm_W G Hb sh M H) (hq : sh a = some (8, 0)) (hS : va_S (tm_A Hb) H0 H locs) {v : Int} (hv : v = 0 ∨ v = 1) (hdg : decode cc pc = .ok (.putfield 104, 3)) (kk : ∀ (H1 : Heap) (locs1 : List Loc), tm_W G Hb sh (sI M a 8 v) H1 → va_S (tm_A Hb) H0 H1 locs1 → W p l e R s m args below meth c H1 locs1 cells slots Q (F0 m (pc + 3) ls (rest))) : W p l e R s m args below meth c H locs cells slots Q (F0 m pc ls (ji v :: .ref a :: rest)) := tm_put hexec hb htw ly_X8 tyX8 tyX8_ok nmX8 hown hK hW hS hq (by decide) rfl 8 (by decide) (htw _ fl_X8_104) (fun _ h => h) rfl (tyX8_ok 8 (by decide)) (tm_nz hv) (by rcases hv with rfl | rfl <;> decide) (M' := sI M a 8 v) ((tm_V0 rfl _ a).trans (by rw [show mI (sI M a 8 v) a 8 = v from tm_up_s _ _ _ _])) (fun kd q j h => tm_V_sI h) hdg kk
theorem gf_X8_108 (hexec : p.tables.exec = Jvm.exec) (hb : c.code = cc) (htw : ∀ w ∈ tw, w.before args s = true) (hown : s.vm.findClass RX8 = some m.cls) (hK : va_K G.1 vwCl (tm_tys G) s) (hW : tm_W G Hb sh M H) (hq : sh a = some (8, 0)) (hdg : decode cc pc = .ok (.getfield 108, 3)) (kk : W p l e R s m args below meth c H locs cells slots Q (F0 m (pc + 3) ls (ji (mI M a 9) :: rest))) : W p l e R s m args below meth c H locs cells slots Q (F0 m pc ls (.ref a :: rest)) := tm_get hexec hb htw ly_X8 hown hK hW hq (by decide) rfl 9 (by decide) (htw _ fl_X8_108) (fun _ h => h) hdg kk
theorem pf_X8_108 (hexec : p.tables.exec = Jvm.exec) (hb : c.code = cc) (htw : ∀ w ∈ tw, w.before args s = true) (hown : s.vm.findClass RX8 = some m.cls) (hK : va_K G.1 vwCl (tm_tys G) s) (hW : tm_W G Hb sh M H) (hq : sh a = some (8, 0)) (hS : va_S (tm_A Hb) H0 H locs) {v : Int} (hdg : decode cc pc = .ok (.putfield 108, 3)) (kk : ∀ (H1 : Heap) (locs1 : List Loc), tm_W G Hb sh (sI M a 9 v) H1 → va_S (tm_A Hb) H0 H1 locs1 → W p l e R s m args below meth c H1 locs1 cells slots Q (F0 m (pc + 3) ls (rest))) : W p l e R s m args below meth c H locs cells slots Q (F0 m pc ls (ji v :: .ref a :: rest)) := tm_put hexec hb htw ly_X8 tyX8 tyX8_ok nmX8 hown hK hW hS hq (by decide) rfl 9 (by decide) (htw _ fl_X8_108) (fun _ h => h) rfl (tyX8_ok 9 (by decide)) rfl rfl (M' := sI M a 9 v) ((tm_V0 rfl _ a).trans (by rw [show mI (sI M a 9 v) a 9 = v from tm_up_s _ _ _ _])) (fun kd q j h => tm_V_sI h) hdg kk
theorem gf_X8_47 (hexec : p.tables.exec = Jvm.exec) (hb : c.code = cc) (htw : ∀ w ∈ tw, w.before args s = true) (hown : s.vm.findClass RX8 = some m.cls) (hK : va_K G.1 vwCl (tm_tys G) s) (hW : tm_W G Hb sh M H) (hq : sh a = some (8, 0)) (hr : mR M a 10 = some b) (hdg : decode cc pc = .ok (.getfield 47, 3)) (kk : W p l e R s m args below meth c H locs cells slots Q (F0 m (pc + 3) ls (.ref b :: rest))) : W p l e R s m args below meth c H locs cells slots Q (F0 m pc ls (.ref a :: rest)) := tm_get hexec hb htw ly_X8 hown hK hW hq (by decide) rfl 10 (by decide) (htw _ fl_X8_47) (fun _ h => h) hdg (by rw [tm_V2 rfl M a, hr]; exact kk)
theorem pf_X8_47 (hexec : p.tables.exec = Jvm.exec) (hb : c.code = cc) (htw : ∀ w ∈ tw, w.before args s = true) (hown : s.vm.findClass RX8 = some m.cls) (hK : va_K G.1 vwCl (tm_tys G) s) (hW : tm_W G Hb sh M H) (hq : sh a = some (8, 0)) (hS : va_S (tm_A Hb) H0 H locs) (hin : meth.name = "<init>") {v : Nat} (hdg : decode cc pc = .ok (.putfield 47, 3)) (kk : ∀ (H1 : Heap) (locs1 : List Loc), tm_W G Hb sh (sR M a 10 (some v)) H1 → va_S (tm_A Hb) H0 H1 locs1 → W p l e R s m args below meth c H1 locs1 cells slots Q (F0 m (pc + 3) ls (rest))) : W p l e R s m args below meth c H locs cells slots Q (F0 m pc ls (.ref v :: .ref a :: rest)) := tm_putF hexec hb htw ly_X8 tyX8 tyX8_ok nmX8 hown hK hW hS hq (by decide) rfl 10 (by decide) (htw _ fl_X8_47) (fun _ h => h) rfl hin rfl (tyX8_ok 10 (by decide)) rfl rfl (M' := sR M a 10 (some v)) ((tm_V2 rfl _ a).trans (by rw [show mR (sR M a 10 (some v)) a 10 = _ from tm_up_s _ _ _ _]; rfl)) (fun kd q j h => tm_V_sR h) hdg kk
theorem gf_X8_54 (hexec : p.tables.exec = Jvm.exec) (hb : c.code = cc) (htw : ∀ w ∈ tw, w.before args s = true) (hown : s.vm.findClass RX8 = some m.cls) (hK : va_K G.1 vwCl (tm_tys G) s) (hW : tm_W G Hb sh M H) (hq : sh a = some (8, 0)) (hr : mR M a 11 = some b) (hdg : decode cc pc = .ok (.getfield 54, 3)) (kk : W p l e R s m args below meth c H locs cells slots Q (F0 m (pc + 3) ls (.ref b :: rest))) : W p l e R s m args below meth c H locs cells slots Q (F0 m pc ls (.ref a :: rest)) := tm_get hexec hb htw ly_X8 hown hK hW hq (by decide) rfl 11 (by decide) (htw _ fl_X8_54) (fun _ h => h) hdg (by rw [tm_V2 rfl M a, hr]; exact kk)
theorem pf_X8_54 (hexec : p.tables.exec = Jvm.exec) (hb : c.code = cc) (htw : ∀ w ∈ tw, w.before args s = true) (hown : s.vm.findClass RX8 = some m.cls) (hK : va_K G.1 vwCl (tm_tys G) s) (hW : tm_W G Hb sh M H) (hq : sh a = some (8, 0)) (hS : va_S (tm_A Hb) H0 H locs) (hin : meth.name = "<init>") {v : Nat} (hdg : decode cc pc = .ok (.putfield 54, 3)) (kk : ∀ (H1 : Heap) (locs1 : List Loc), tm_W G Hb sh (sR M a 11 (some v)) H1 → va_S (tm_A Hb) H0 H1 locs1 → W p l e R s m args below meth c H1 locs1 cells slots Q (F0 m (pc + 3) ls (rest))) : W p l e R s m args below meth c H locs cells slots Q (F0 m pc ls (.ref v :: .ref a :: rest)) := tm_putF hexec hb htw ly_X8 tyX8 tyX8_ok nmX8 hown hK hW hS hq (by decide) rfl 11 (by decide) (htw _ fl_X8_54) (fun _ h => h) rfl hin rfl (tyX8_ok 11 (by decide)) rfl rfl (M' := sR M a 11 (some v)) ((tm_V2 rfl _ a).trans (by rw [show mR (sR M a 11 (some v)) a 11 = _ from tm_up_s _ _ _ _]; rfl)) (fun kd q j h => tm_V_sR h) hdg kk
theorem gf_X8_58 (hexec : p.tables.exec = Jvm.exec) (hb : c.code = cc) (htw : ∀ w ∈ tw, w.before args s = true) (hown : s.vm.findClass RX8 = some m.cls) (hK : va_K G.1 vwCl (tm_tys G) s) (hW : tm_W G Hb sh M H) (hq : sh a = some (8, 0)) (hr : mR M a 12 = some b) (hdg : decode cc pc = .ok (.getfield 58, 3)) (kk : W p l e R s m args below meth c H locs cells slots Q (F0 m (pc + 3) ls (.ref b :: rest))) : W p l e R s m args below meth c H locs cells slots Q (F0 m pc ls (.ref a :: rest)) := tm_get hexec hb htw ly_X8 hown hK hW hq (by decide) rfl 12 (by decide) (htw _ fl_X8_58) (fun _ h => h) hdg (by rw [tm_V2 rfl M a, hr]; exact kk)
theorem pf_X8_58 (hexec : p.tables.exec = Jvm.exec) (hb : c.code = cc) (htw : ∀ w ∈ tw, w.before args s = true) (hown : s.vm.findClass RX8 = some m.cls) (hK : va_K G.1 vwCl (tm_tys G) s) (hW : tm_W G Hb sh M H) (hq : sh a = some (8, 0)) (hS : va_S (tm_A Hb) H0 H locs) (hin : meth.name = "<init>") {v : Nat} (hdg : decode cc pc = .ok (.putfield 58, 3)) (kk : ∀ (H1 : Heap) (locs1 : List Loc), tm_W G Hb sh (sR M a 12 (some v)) H1 → va_S (tm_A Hb) H0 H1 locs1 → W p l e R s m args below meth c H1 locs1 cells slots Q (F0 m (pc + 3) ls (rest))) : W p l e R s m args below meth c H locs cells slots Q (F0 m pc ls (.ref v :: .ref a :: rest)) := tm_putF hexec hb htw ly_X8 tyX8 tyX8_ok nmX8 hown hK hW hS hq (by decide) rfl 12 (by decide) (htw _ fl_X8_58) (fun _ h => h) rfl hin rfl (tyX8_ok 12 (by decide)) rfl rfl (M' := sR M a 12 (some v)) ((tm_V2 rfl _ a).trans (by rw [show mR (sR M a 12 (some v)) a 12 = _ from tm_up_s _ _ _ _]; rfl)) (fun kd q j h => tm_V_sR h) hdg kk
theorem gf_X8_62 (hexec : p.tables.exec = Jvm.exec) (hb : c.code = cc) (htw : ∀ w ∈ tw, w.before args s = true) (hown : s.vm.findClass RX8 = some m.cls) (hK : va_K G.1 vwCl (tm_tys G) s) (hW : tm_W G Hb sh M H) (hq : sh a = some (8, 0)) (hr : mR M a 13 = some b) (hdg : decode cc pc = .ok (.getfield 62, 3)) (kk : W p l e R s m args below meth c H locs cells slots Q (F0 m (pc + 3) ls (.ref b :: rest))) : W p l e R s m args below meth c H locs cells slots Q (F0 m pc ls (.ref a :: rest)) := tm_get hexec hb htw ly_X8 hown hK hW hq (by decide) rfl 13 (by decide) (htw _ fl_X8_62) (fun _ h => h) hdg (by rw [tm_V2 rfl M a, hr]; exact kk)
theorem pf_X8_62 (hexec : p.tables.exec = Jvm.exec) (hb : c.code = cc) (htw : ∀ w ∈ tw, w.before args s = true) (hown : s.vm.findClass RX8 = some m.cls) (hK : va_K G.1 vwCl (tm_tys G) s) (hW : tm_W G Hb sh M H) (hq : sh a = some (8, 0)) (hS : va_S (tm_A Hb) H0 H locs) (hin : meth.name = "<init>") {v : Nat} (hdg : decode cc pc = .ok (.putfield 62, 3)) (kk : ∀ (H1 : Heap) (locs1 : List Loc), tm_W G Hb sh (sR M a 13 (some v)) H1 → va_S (tm_A Hb) H0 H1 locs1 → W p l e R s m args below meth c H1 locs1 cells slots Q (F0 m (pc + 3) ls (rest))) : W p l e R s m args below meth c H locs cells slots Q (F0 m pc ls (.ref v :: .ref a :: rest)) := tm_putF hexec hb htw ly_X8 tyX8 tyX8_ok nmX8 hown hK hW hS hq (by decide) rfl 13 (by decide) (htw _ fl_X8_62) (fun _ h => h) rfl hin rfl (tyX8_ok 13 (by decide)) rfl rfl (M' := sR M a 13 (some v)) ((tm_V2 rfl _ a).trans (by rw [show mR (sR M a 13 (some v)) a 13 = _ from tm_up_s _ _ _ _]; rfl)) (fun kd q j h => tm_V_sR h) hdg kk
theorem gf_X9_48 (hexec : p.tables.exec = Jvm.exec) (hb : c.code = cc) (htw : ∀ w ∈ tw, w.before args s = true) (hown : s.vm.findClass RX9 = some m.cls) (hK : va_K G.1 vwCl (tm_tys G) s) (hW : tm_W G Hb sh M H) (hq : sh a = some (9, 0)) (hdg : decode cc pc = .ok (.getfield 48, 3)) (kk : W p l e R s m args below meth c H locs cells slots Q (F0 m (pc + 3) ls (ji (mI M a 0) :: rest))) : W p l e R s m args below meth c H locs cells slots Q (F0 m pc ls (.ref a :: rest)) := tm_get hexec hb htw ly_X9 hown hK hW hq (by decide) rfl 0 (by decide) (htw _ fl_X9_48) (fun _ h => h) hdg kk
theorem pf_X9_48 (hexec : p.tables.exec = Jvm.exec) (hb : c.code = cc) (htw : ∀ w ∈ tw, w.before args s = true) (hown : s.vm.findClass RX9 = some m.cls) (hK : va_K G.1 vwCl (tm_tys G) s) (hW : tm_W G Hb sh M H) (hq : sh a = some (9, 0)) (hS : va_S (tm_A Hb) H0 H locs) {v : Int} (hdg : decode cc pc = .ok (.putfield 48, 3)) (kk : ∀ (H1 : Heap) (locs1 : List Loc), tm_W G Hb sh (sI M a 0 v) H1 → va_S (tm_A Hb) H0 H1 locs1 → W p l e R s m args below meth c H1 locs1 cells slots Q (F0 m (pc + 3) ls (rest))) : W p l e R s m args below meth c H locs cells slots Q (F0 m pc ls (ji v :: .ref a :: rest)) := tm_put hexec hb htw ly_X9 tyX9 tyX9_ok nmX9 hown hK hW hS hq (by decide) rfl 0 (by decide) (htw _ fl_X9_48) (fun _ h => h) rfl (tyX9_ok 0 (by decide)) rfl rfl (M' := sI M a 0 v) ((tm_V0 rfl _ a).trans (by rw [show mI (sI M a 0 v) a 0 = v from tm_up_s _ _ _ _])) (fun kd q j h => tm_V_sI h) hdg kk
theorem gf_X9_7 (hexec : p.tables.exec = Jvm.exec) (hb : c.code = cc) (htw : ∀ w ∈ tw, w.before args s = true) (hown : s.vm.findClass RX9 = some m.cls) (hK : va_K G.1 vwCl (tm_tys G) s) (hW : tm_W G Hb sh M H) (hq : sh a = some (9, 0)) (hr : mR M a 1 = some b) (hdg : decode cc pc = .ok (.getfield 7, 3)) (kk : W p l e R s m args below meth c H locs cells slots Q (F0 m (pc + 3) ls (.ref b :: rest))) : W p l e R s m args below meth c H locs cells slots Q (F0 m pc ls (.ref a :: rest)) := tm_get hexec hb htw ly_X9 hown hK hW hq (by decide) rfl 1 (by decide) (htw _ fl_X9_7) (fun _ h => h) hdg (by rw [tm_V2 rfl M a, hr]; exact kk)
theorem pf_X9_7 (hexec : p.tables.exec = Jvm.exec) (hb : c.code = cc) (htw : ∀ w ∈ tw, w.before args s = true) (hown : s.vm.findClass RX9 = some m.cls) (hK : va_K G.1 vwCl (tm_tys G) s) (hW : tm_W G Hb sh M H) (hq : sh a = some (9, 0)) (hS : va_S (tm_A Hb) H0 H locs) (hin : meth.name = "<init>") {v : Nat} (hdg : decode cc pc = .ok (.putfield 7, 3)) (kk : ∀ (H1 : Heap) (locs1 : List Loc), tm_W G Hb sh (sR M a 1 (some v)) H1 → va_S (tm_A Hb) H0 H1 locs1 → W p l e R s m args below meth c H1 locs1 cells slots Q (F0 m (pc + 3) ls (rest))) : W p l e R s m args below meth c H locs cells slots Q (F0 m pc ls (.ref v :: .ref a :: rest)) := tm_putF hexec hb htw ly_X9 tyX9 tyX9_ok nmX9 hown hK hW hS hq (by decide) rfl 1 (by decide) (htw _ fl_X9_7) (fun _ h => h) rfl hin rfl (tyX9_ok 1 (by decide)) rfl rfl (M' := sR M a 1 (some v)) ((tm_V2 rfl _ a).trans (by rw [show mR (sR M a 1 (some v)) a 1 = _ from tm_up_s _ _ _ _]; rfl)) (fun kd q j h => tm_V_sR h) hdg kk
theorem gf_X9_13 (hexec : p.tables.exec = Jvm.exec) (hb : c.code = cc) (htw : ∀ w ∈ tw, w.before args s = true) (hown : s.vm.findClass RX9 = some m.cls) (hK : va_K G.1 vwCl (tm_tys G) s) (hW : tm_W G Hb sh M H) (hq : sh a = some (9, 0)) (hr : mR M a 2 = some b) (hdg : decode cc pc = .ok (.getfield 13, 3)) (kk : W p l e R s m args below meth c H locs cells slots Q (F0 m (pc + 3) ls (.ref b :: rest))) : W p l e R s m args below meth c H locs cells slots Q (F0 m pc ls (.ref a :: rest)) := tm_get hexec hb htw ly_X9 hown hK hW hq (by decide) rfl 2 (by decide) (htw _ fl_X9_13) (fun _ h => h) hdg (by rw [tm_V2 rfl M a, hr]; exact kk)
theorem pf_X9_13 (hexec : p.tables.exec = Jvm.exec) (hb : c.code = cc) (htw : ∀ w ∈ tw, w.before args s = true) (hown : s.vm.findClass RX9 = some m.cls) (hK : va_K G.1 vwCl (tm_tys G) s) (hW : tm_W G Hb sh M H) (hq : sh a = some (9, 0)) (hS : va_S (tm_A Hb) H0 H locs) (hin : meth.name = "<init>") {v : Nat} (hdg : decode cc pc = .ok (.putfield 13, 3)) (kk : ∀ (H1 : Heap) (locs1 : List Loc), tm_W G Hb sh (sR M a 2 (some v)) H1 → va_S (tm_A Hb) H0 H1 locs1 → W p l e R s m args below meth c H1 locs1 cells slots Q (F0 m (pc + 3) ls (rest))) : W p l e R s m args below meth c H locs cells slots Q (F0 m pc ls (.ref v :: .ref a :: rest)) := tm_putF hexec hb htw ly_X9 tyX9 tyX9_ok nmX9 hown hK hW hS hq (by decide) rfl 2 (by decide) (htw _ fl_X9_13) (fun _ h => h) rfl hin rfl (tyX9_ok 2 (by decide)) rfl rfl (M' := sR M a 2 (some v)) ((tm_V2 rfl _ a).trans (by rw [show mR (sR M a 2 (some v)) a 2 = _ from tm_up_s _ _ _ _]; rfl)) (fun kd q j h => tm_V_sR h) hdg kk
theorem gf_X9_159 (hexec : p.tables.exec = Jvm.exec) (hb : c.code = cc) (htw : ∀ w ∈ tw, w.before args s = true) (hown : s.vm.findClass RX9 = some m.cls) (hK : va_K G.1 vwCl (tm_tys G) s) (hW : tm_W G Hb sh M H) (hq : sh a = some (9, 0)) (hdg : decode cc pc = .ok (.getfield 159, 3)) (kk : W p l e R s m args below meth c H locs cells slots Q (F0 m (pc + 3) ls (ji (mI M a 3) :: rest))) : W p l e R s m args below meth c H locs cells slots Q (F0 m pc ls (.ref a :: rest)) := tm_get hexec hb htw ly_X9 hown hK hW hq (by decide) rfl 3 (by decide) (htw _ fl_X9_159) (fun _ h => h) hdg kk
theorem pf_X9_159 (hexec : p.tables.exec = Jvm.exec) (hb : c.code = cc) (htw : ∀ w ∈ tw, w.before args s = true) (hown : s.vm.findClass RX9 = some m.cls) (hK : va_K G.1 vwCl (tm_tys G) s) (hW : tm_W G Hb sh M H) (hq : sh a = some (9, 0)) (hS : va_S (tm_A Hb) H0 H locs) {v : Int} (hdg : decode cc pc = .ok (.putfield 159, 3)) (kk : ∀ (H1 : Heap) (locs1 : List Loc), tm_W G Hb sh (sI M a 3 v) H1 → va_S (tm_A Hb) H0 H1 locs1 → W p l e R s m args below meth c H1 locs1 cells slots Q (F0 m (pc + 3) ls (rest))) : W p l e R s m args below meth c H locs cells slots Q (F0 m pc ls (ji v :: .ref a :: rest)) := tm_put hexec hb htw ly_X9 tyX9 tyX9_ok nmX9 hown hK hW hS hq (by decide) rfl 3 (by decide) (htw _ fl_X9_159) (fun _ h => h) rfl (tyX9_ok 3 (by decide)) rfl rfl (M' := sI M a 3 v) ((tm_V0 rfl _ a).trans (by rw [show mI (sI M a 3 v) a 3 = v from tm_up_s _ _ _ _])) (fun kd q j h => tm_V_sI h) hdg kk
theorem gf_X9_211 (hexec : p.tables.exec = Jvm.exec) (hb : c.code = cc) (htw : ∀ w ∈ tw, w.before args s = true) (hown : s.vm.findClass RX9 = some m.cls) (hK : va_K G.1 vwCl (tm_tys G) s) (hW : tm_W G Hb sh M H) (hq : sh a = some (9, 0)) (hdg : decode cc pc = .ok (.getfield 211, 3)) (kk : W p l e R s m args below meth c H locs cells slots Q (F0 m (pc + 3) ls (ji (mI M a 4) :: rest))) : W p l e R s m args below meth c H locs cells slots Q (F0 m pc ls (.ref a :: rest)) := tm_get hexec hb htw ly_X9 hown hK hW hq (by decide) rfl 4 (by decide) (htw _ fl_X9_211) (fun _ h => h) hdg kk
theorem pf_X9_211 (hexec : p.tables.exec = Jvm.exec) (hb : c.code = cc) (htw : ∀ w ∈ tw, w.before args s = true) (hown : s.vm.findClass RX9 = some m.cls) (hK : va_K G.1 vwCl (tm_tys G) s) (hW : tm_W G Hb sh M H) (hq : sh a = some (9, 0)) (hS : va_S (tm_A Hb) H0 H locs) {v : Int} (hv : v = 0 ∨ v = 1) (hdg : decode cc pc = .ok (.putfield 211, 3)) (kk : ∀ (H1 : Heap) (locs1 : List Loc), tm_W G Hb sh (sI M a 4 v) H1 → va_S (tm_A Hb) H0 H1 locs1 → W p l e R s m args below meth c H1 locs1 cells slots Q (F0 m (pc + 3) ls (rest))) : W p l e R s m args below meth c H locs cells slots Q (F0 m pc ls (ji v :: .ref a :: rest)) := tm_put hexec hb htw ly_X9 tyX9 tyX9_ok nmX9 hown hK hW hS hq (by decide) rfl 4 (by decide) (htw _ fl_X9_211) (fun _ h => h) rfl (tyX9_ok 4 (by decide)) (tm_nz hv) (by rcases hv with rfl | rfl <;> decide) (M' := sI M a 4 v) ((tm_V0 rfl _ a).trans (by rw [show mI (sI M a 4 v) a 4 = v from tm_up_s _ _ _ _])) (fun kd q j h => tm_V_sI h) hdg kk
theorem gf_X9_223 (hexec : p.tables.exec = Jvm.exec) (hb : c.code = cc) (htw : ∀ w ∈ tw, w.before args s = true) (hown : s.vm.findClass RX9 = some m.cls) (hK : va_K G.1 vwCl (tm_tys G) s) (hW : tm_W G Hb sh M H) (hq : sh a = some (9, 0)) (hdg : decode cc pc = .ok (.getfield 223, 3)) (kk : W p l e R s m args below meth c H locs cells slots Q (F0 m (pc + 3) ls (ji (mI M a 5) :: rest))) : W p l e R s m args below meth c H locs cells slots Q (F0 m pc ls (.ref a :: rest)) := tm_get hexec hb htw ly_X9 hown hK hW hq (by decide) rfl 5 (by decide) (htw _ fl_X9_223) (fun _ h => h) hdg kk
theorem pf_X9_223 (hexec : p.tables.exec = Jvm.exec) (hb : c.code = cc) (htw : ∀ w ∈ tw, w.before args s = true) (hown : s.vm.findClass RX9 = some m.cls) (hK : va_K G.1 vwCl (tm_tys G) s) (hW : tm_W G Hb sh M H) (hq : sh a = some (9, 0)) (hS : va_S (tm_A Hb) H0 H locs) {v : Int} (hdg : decode cc pc = .ok (.putfield 223, 3)) (kk : ∀ (H1 : Heap) (locs1 : List Loc), tm_W G Hb sh (sI M a 5 v) H1 → va_S (tm_A Hb) H0 H1 locs1 → W p l e R s m args below meth c H1 locs1 cells slots Q (F0 m (pc + 3) ls (rest))) : W p l e R s m args below meth c H locs cells slots Q (F0 m pc ls (ji v :: .ref a :: rest)) := tm_put hexec hb htw ly_X9 tyX9 tyX9_ok nmX9 hown hK hW hS hq (by decide) rfl 5 (by decide) (htw _ fl_X9_223) (fun _ h => h) rfl (tyX9_ok 5 (by decide)) rfl rfl (M' := sI M a 5 v) ((tm_V0 rfl _ a).trans (by rw [show mI (sI M a 5 v) a 5 = v from tm_up_s _ _ _ _])) (fun kd q j h => tm_V_sI h) hdg kk
theorem gf_X9_17 (hexec : p.tables.exec = Jvm.exec) (hb : c.code = cc) (htw : ∀ w ∈ tw, w.before args s = true) (hown : s.vm.findClass RX9 = some m.cls) (hK : va_K G.1 vwCl (tm_tys G) s) (hW : tm_W G Hb sh M H) (hq : sh a = some (9, 0)) (hr : mR M a 6 = some b) (hdg : decode cc pc = .ok (.getfield 17, 3)) (kk : W p l e R s m args below meth c H locs cells slots Q (F0 m (pc + 3) ls (.ref b :: rest))) : W p l e R s m args below meth c H locs cells slots Q (F0 m pc ls (.ref a :: rest)) := tm_get hexec hb htw ly_X9 hown hK hW hq (by decide) rfl 6 (by decide) (htw _ fl_X9_17) (fun _ h => h) hdg (by rw [tm_V2 rfl M a, hr]; exact kk)
theorem pf_X9_17 (hexec : p.tables.exec = Jvm.exec) (hb : c.code = cc) (htw : ∀ w ∈ tw, w.before args s = true) (hown : s.vm.findClass RX9 = some m.cls) (hK : va_K G.1 vwCl (tm_tys G) s) (hW : tm_W G Hb sh M H) (hq : sh a = some (9, 0)) (hS : va_S (tm_A Hb) H0 H locs) (hin : meth.name = "<init>") {v : Nat} (hdg : decode cc pc = .ok (.putfield 17, 3)) (kk : ∀ (H1 : Heap) (locs1 : List Loc), tm_W G Hb sh (sR M a 6 (some v)) H1 → va_S (tm_A Hb) H0 H1 locs1 → W p l e R s m args below meth c H1 locs1 cells slots Q (F0 m (pc + 3) ls (rest))) : W p l e R s m args below meth c H locs cells slots Q (F0 m pc ls (.ref v :: .ref a :: rest)) := tm_putF hexec hb htw ly_X9 tyX9 tyX9_ok nmX9 hown hK hW hS hq (by decide) rfl 6 (by decide) (htw _ fl_X9_17) (fun _ h => h) rfl hin rfl (tyX9_ok 6 (by decide)) rfl rfl (M' := sR M a 6 (some v)) ((tm_V2 rfl _ a).trans (by rw [show mR (sR M a 6 (some v)) a 6 = _ from tm_up_s _ _ _ _]; rfl)) (fun kd q j h => tm_V_sR h) hdg kk
theorem gf_X9_20 (hexec : p.tables.exec = Jvm.exec) (hb : c.code = cc) (htw : ∀ w ∈ tw, w.before args s = true) (hown : s.vm.findClass RX9 = some m.cls) (hK : va_K G.1 vwCl (tm_tys G) s) (hW : tm_W G Hb sh M H) (hq : sh a = some (9, 0)) (hr : mR M a 7 = some b) (hdg : decode cc pc = .ok (.getfield 20, 3)) (kk : W p l e R s m args below meth c H locs cells slots Q (F0 m (pc + 3) ls (.ref b :: rest))) : W p l e R s m args below meth c H locs cells slots Q (F0 m pc ls (.ref a :: rest)) := tm_get hexec hb htw ly_X9 hown hK hW hq (by decide) rfl 7 (by decide) (htw _ fl_X9_20) (fun _ h => h) hdg (by rw [tm_V2 rfl M a, hr]; exact kk)
theorem pf_X9_20 (hexec : p.tables.exec = Jvm.exec) (hb : c.code = cc) (htw : ∀ w ∈ tw, w.before args s = true) (hown : s.vm.findClass RX9 = some m.cls) (hK : va_K G.1 vwCl (tm_tys G) s) (hW : tm_W G Hb sh M H) (hq : sh a = some (9, 0)) (hS : va_S (tm_A Hb) H0 H locs) (hin : meth.name = "<init>") {v : Nat} (hdg : decode cc pc = .ok (.putfield 20, 3)) (kk : ∀ (H1 : Heap) (locs1 : List Loc), tm_W G Hb sh (sR M a 7 (some v)) H1 → va_S (tm_A Hb) H0 H1 locs1 → W p l e R s m args below meth c H1 locs1 cells slots Q (F0 m (pc + 3) ls (rest))) : W p l e R s m args below meth c H locs cells slots Q (F0 m pc ls (.ref v :: .ref a :: rest)) := tm_putF hexec hb htw ly_X9 tyX9 tyX9_ok nmX9 hown hK hW hS hq (by decide) rfl 7 (by decide) (htw _ fl_X9_20) (fun _ h => h) rfl hin rfl (tyX9_ok 7 (by decide)) rfl rfl (M' := sR M a 7 (some v)) ((tm_V2 rfl _ a).trans (by rw [show mR (sR M a 7 (some v)) a 7 = _ from tm_up_s _ _ _ _]; rfl)) (fun kd q j h => tm_V_sR h) hdg kk
theorem gf_X9_236 (hexec : p.tables.exec = Jvm.exec) (hb : c.code = cc) (htw : ∀ w ∈ tw, w.before args s = true) (hown : s.vm.findClass RX9 = some m.cls) (hK : va_K G.1 vwCl (tm_tys G) s) (hW : tm_W G Hb sh M H) (hq : sh a = some (9, 0)) (hdg : decode cc pc = .ok (.getfield 236, 3)) (kk : W p l e R s m args below meth c H locs cells slots Q (F0 m (pc + 3) ls (ji (mI M a 8) :: rest))) : W p l e R s m args below meth c H locs cells slots Q (F0 m pc ls (.ref a :: rest)) := tm_get hexec hb htw ly_X9 hown hK hW hq (by decide) rfl 8 (by decide) (htw _ fl_X9_236) (fun _ h => h) hdg kk
theorem pf_X9_236 (hexec : p.tables.exec = Jvm.exec) (hb : c.code = cc) (htw : ∀ w ∈ tw, w.before args s = true) (hown : s.vm.findClass RX9 = some m.cls) (hK : va_K G.1 vwCl (tm_tys G) s) (hW : tm_W G Hb sh M H) (hq : sh a = some (9, 0)) (hS : va_S (tm_A Hb) H0 H locs) {v : Int} (hdg : decode cc pc = .ok (.putfield 236, 3)) (kk : ∀ (H1 : Heap) (locs1 : List Loc), tm_W G Hb sh (sI M a 8 v) H1 → va_S (tm_A Hb) H0 H1 locs1 → W p l e R s m args below meth c H1 locs1 cells slots Q (F0 m (pc + 3) ls (rest))) : W p l e R s m args below meth c H locs cells slots Q (F0 m pc ls (ji v :: .ref a :: rest)) := tm_put hexec hb htw ly_X9 tyX9 tyX9_ok nmX9 hown hK hW hS hq (by decide) rfl 8 (by decide) (htw _ fl_X9_236) (fun _ h => h) rfl (tyX9_ok 8 (by decide)) rfl rfl (M' := sI M a 8 v) ((tm_V0 rfl _ a).trans (by rw [show mI (sI M a 8 v) a 8 = v from tm_up_s _ _ _ _])) (fun kd q j h => tm_V_sI h) hdg kk
theorem gf_X9_23 (hexec : p.tables.exec = Jvm.exec) (hb : c.code = cc) (htw : ∀ w ∈ tw, w.before args s = true) (hown : s.vm.findClass RX9 = some m.cls) (hK : va_K G.1 vwCl (tm_tys G) s) (hW : tm_W G Hb sh M H) (hq : sh a = some (9, 0)) (hr : mR M a 9 = some b) (hdg : decode cc pc = .ok (.getfield 23, 3)) (kk : W p l e R s m args below meth c H locs cells slots Q (F0 m (pc + 3) ls (.ref b :: rest))) : W p l e R s m args below meth c H locs cells slots Q (F0 m pc ls (.ref a :: rest)) := tm_get hexec hb htw ly_X9 hown hK hW hq (by decide) rfl 9 (by decide) (htw _ fl_X9_23) (fun _ h => h) hdg (by rw [tm_V2 rfl M a, hr]; exact kk)
theorem pf_X9_23 (hexec : p.tables.exec = Jvm.exec) (hb : c.code = cc) (htw : ∀ w ∈ tw, w.before args s = true) (hown : s.vm.findClass RX9 = some m.cls) (hK : va_K G.1 vwCl (tm_tys G) s) (hW : tm_W G Hb sh M H) (hq : sh a = some (9, 0)) (hS : va_S (tm_A Hb) H0 H locs) (hin : meth.name = "<init>") {v : Nat} (hdg : decode cc pc = .ok (.putfield 23, 3)) (kk : ∀ (H1 : Heap) (locs1 : List Loc), tm_W G Hb sh (sR M a 9 (some v)) H1 → va_S (tm_A Hb) H0 H1 locs1 → W p l e R s m args below meth c H1 locs1 cells slots Q (F0 m (pc + 3) ls (rest))) : W p l e R s m args below meth c H locs cells slots Q (F0 m pc ls (.ref v :: .ref a :: rest)) := tm_putF hexec hb htw ly_X9 tyX9 tyX9_ok nmX9 hown hK hW hS hq (by decide) rfl 9 (by decide) (htw _ fl_X9_23) (fun _ h => h) rfl hin rfl (tyX9_ok 9 (by decide)) rfl rfl (M' := sR M a 9 (some v)) ((tm_V2 rfl _ a).trans (by rw [show mR (sR M a 9 (some v)) a 9 = _ from tm_up_s _ _ _ _]; rfl)) (fun kd q j h => tm_V_sR h) hdg kk
theorem gf_X9_56 (hexec : p.tables.exec = Jvm.exec) (hb : c.code = cc) (htw : ∀ w ∈ tw, w.before args s = true) (hown : s.vm.findClass RX9 = some m.cls) (hK : va_K G.1 vwCl (tm_tys G) s) (hW : tm_W G Hb sh M H) (hq : sh a = some (9, 0)) (hdg : decode cc pc = .ok (.getfield 56, 3)) (kk : W p l e R s m args below meth c H locs cells slots Q (F0 m (pc + 3) ls (jl (mL M a 10) :: rest))) : W p l e R s m args below meth c H locs cells slots Q (F0 m pc ls (.ref a :: rest)) := tm_get hexec hb htw ly_X9 hown hK hW hq (by decide) rfl 10 (by decide) (htw _ fl_X9_56) (fun _ h => h) hdg kk
theorem pf_X9_56 (hexec : p.tables.exec = Jvm.exec) (hb : c.code = cc) (htw : ∀ w ∈ tw, w.before args s = true) (hown : s.vm.findClass RX9 = some m.cls) (hK : va_K G.1 vwCl (tm_tys G) s) (hW : tm_W G Hb sh M H) (hq : sh a = some (9, 0)) (hS : va_S (tm_A Hb) H0 H locs) {v : Int} (hdg : decode cc pc = .ok (.putfield 56, 3)) (kk : ∀ (H1 : Heap) (locs1 : List Loc), tm_W G Hb sh (sL M a 10 v) H1 → va_S (tm_A Hb) H0 H1 locs1 → W p l e R s m args below meth c H1 locs1 cells slots Q (F0 m (pc + 3) ls (rest))) : W p l e R s m args below meth c H locs cells slots Q (F0 m pc ls (jl v :: .ref a :: rest)) := tm_put hexec hb htw ly_X9 tyX9 tyX9_ok nmX9 hown hK hW hS hq (by decide) rfl 10 (by decide) (htw _ fl_X9_56) (fun _ h => h) rfl (tyX9_ok 10 (by decide)) rfl rfl (M' := sL M a 10 v) ((tm_V1 rfl _ a).trans (by rw [show mL (sL M a 10 v) a 10 = v from tm_up_s _ _ _ _])) (fun kd q j h => tm_V_sL h) hdg kk
theorem gf_X9_60 (hexec : p.tables.exec = Jvm.exec) (hb : c.code = cc) (htw : ∀ w ∈ tw, w.before args s = true) (hown : s.vm.findClass RX9 = some m.cls) (hK : va_K G.1 vwCl (tm_tys G) s) (hW : tm_W G Hb sh M H) (hq : sh a = some (9, 0)) (hdg : decode cc pc = .ok (.getfield 60, 3)) (kk : W p l e R s m args below meth c H locs cells slots Q (F0 m (pc + 3) ls (jl (mL M a 11) :: rest))) : W p l e R s m args below meth c H locs cells slots Q (F0 m pc ls (.ref a :: rest)) := tm_get hexec hb htw ly_X9 hown hK hW hq (by decide) rfl 11 (by decide) (htw _ fl_X9_60) (fun _ h => h) hdg kk
theorem pf_X9_60 (hexec : p.tables.exec = Jvm.exec) (hb : c.code = cc) (htw : ∀ w ∈ tw, w.before args s = true) (hown : s.vm.findClass RX9 = some m.cls) (hK : va_K G.1 vwCl (tm_tys G) s) (hW : tm_W G Hb sh M H) (hq : sh a = some (9, 0)) (hS : va_S (tm_A Hb) H0 H locs) {v : Int} (hdg : decode cc pc = .ok (.putfield 60, 3)) (kk : ∀ (H1 : Heap) (locs1 : List Loc), tm_W G Hb sh (sL M a 11 v) H1 → va_S (tm_A Hb) H0 H1 locs1 → W p l e R s m args below meth c H1 locs1 cells slots Q (F0 m (pc + 3) ls (rest))) : W p l e R s m args below meth c H locs cells slots Q (F0 m pc ls (jl v :: .ref a :: rest)) := tm_put hexec hb htw ly_X9 tyX9 tyX9_ok nmX9 hown hK hW hS hq (by decide) rfl 11 (by decide) (htw _ fl_X9_60) (fun _ h => h) rfl (tyX9_ok 11 (by decide)) rfl rfl (M' := sL M a 11 v) ((tm_V1 rfl _ a).trans (by rw [show mL (sL M a 11 v) a 11 = v from tm_up_s _ _ _ _])) (fun kd q j h => tm_V_sL h) hdg kk
theorem gf_X9_26 (hexec : p.tables.exec = Jvm.exec) (hb : c.code = cc) (htw : ∀ w ∈ tw, w.before args s = true) (hown : s.vm.findClass RX9 = some m.cls) (hK : va_K G.1 vwCl (tm_tys G) s) (hW : tm_W G Hb sh M H) (hq : sh a = some (9, 0)) (hr : mR M a 12 = some b) (hdg : decode cc pc = .ok (.getfield 26, 3)) (kk : W p l e R s m args below meth c H locs cells slots Q (F0 m (pc + 3) ls (.ref b :: rest))) : W p l e R s m args below meth c H locs cells slots Q (F0 m pc ls (.ref a :: rest)) := tm_get hexec hb htw ly_X9 hown hK hW hq (by decide) rfl 12 (by decide) (htw _ fl_X9_26) (fun _ h => h) hdg (by rw [tm_V2 rfl M a, hr]; exact kk)
theorem pf_X9_26 (hexec : p.tables.exec = Jvm.exec) (hb : c.code = cc) (htw : ∀ w ∈ tw, w.before args s = true) (hown : s.vm.findClass RX9 = some m.cls) (hK : va_K G.1 vwCl (tm_tys G) s) (hW : tm_W G Hb sh M H) (hq : sh a = some (9, 0)) (hS : va_S (tm_A Hb) H0 H locs) (hin : meth.name = "<init>") {v : Nat} (hdg : decode cc pc = .ok (.putfield 26, 3)) (kk : ∀ (H1 : Heap) (locs1 : List Loc), tm_W G Hb sh (sR M a 12 (some v)) H1 → va_S (tm_A Hb) H0 H1 locs1 → W p l e R s m args below meth c H1 locs1 cells slots Q (F0 m (pc + 3) ls (rest))) : W p l e R s m args below meth c H locs cells slots Q (F0 m pc ls (.ref v :: .ref a :: rest)) := tm_putF hexec hb htw ly_X9 tyX9 tyX9_ok nmX9 hown hK hW hS hq (by decide) rfl 12 (by decide) (htw _ fl_X9_26) (fun _ h => h) rfl hin rfl (tyX9_ok 12 (by decide)) rfl rfl (M' := sR M a 12 (some v)) ((tm_V2 rfl _ a).trans (by rw [show mR (sR M a 12 (some v)) a 12 = _ from tm_up_s _ _ _ _]; rfl)) (fun kd q j h => tm_V_sR h) hdg kk
theorem gf_X9_29 (hexec : p.tables.exec = Jvm.exec) (hb : c.code = cc) (htw : ∀ w ∈ tw, w.before args s = true) (hown : s.vm.findClass RX9 = some m.cls) (hK : va_K G.1 vwCl (tm_tys G) s) (hW : tm_W G Hb sh M H) (hq : sh a = some (9, 0)) (hr : mR M a 13 = some b) (hdg : decode cc pc = .ok (.getfield 29, 3)) (kk : W p l e R s m args below meth c H locs cells slots Q (F0 m (pc + 3) ls (.ref b :: rest))) : W p l e R s m args below meth c H locs cells slots Q (F0 m pc ls (.ref a :: rest)) := tm_get hexec hb htw ly_X9 hown hK hW hq (by decide) rfl 13 (by decide) (htw _ fl_X9_29) (fun _ h => h) hdg (by rw [tm_V2 rfl M a, hr]; exact kk)
theorem pf_X9_29 (hexec : p.tables.exec = Jvm.exec) (hb : c.code = cc) (htw : ∀ w ∈ tw, w.before args s = true) (hown : s.vm.findClass RX9 = some m.cls) (hK : va_K G.1 vwCl (tm_tys G) s) (hW : tm_W G Hb sh M H) (hq : sh a = some (9, 0)) (hS : va_S (tm_A Hb) H0 H locs) (hin : meth.name = "<init>") {v : Nat} (hdg : decode cc pc = .ok (.putfield 29, 3)) (kk : ∀ (H1 : Heap) (locs1 : List Loc), tm_W G Hb sh (sR M a 13 (some v)) H1 → va_S (tm_A Hb) H0 H1 locs1 → W p l e R s m args below meth c H1 locs1 cells slots Q (F0 m (pc + 3) ls (rest))) : W p l e R s m args below meth c H locs cells slots Q (F0 m pc ls (.ref v :: .ref a :: rest)) := tm_putF hexec hb htw ly_X9 tyX9 tyX9_ok nmX9 hown hK hW hS hq (by decide) rfl 13 (by decide) (htw _ fl_X9_29) (fun _ h => h) rfl hin rfl (tyX9_ok 13 (by decide)) rfl rfl (M' := sR M a 13 (some v)) ((tm_V2 rfl _ a).trans (by rw [show mR (sR M a 13 (some v)) a 13 = _ from tm_up_s _ _ _ _]; rfl)) (fun kd q j h => tm_V_sR h) hdg kk
theorem gf_X9_32 (hexec : p.tables.exec = Jvm.exec) (hb : c.code = cc) (htw : ∀ w ∈ tw, w.before args s = true) (hown : s.vm.findClass RX9 = some m.cls) (hK : va_K G.1 vwCl (tm_tys G) s) (hW : tm_W G Hb sh M H) (hq : sh a = some (9, 0)) (hr : mR M a 14 = some b) (hdg : decode cc pc = .ok (.getfield 32, 3)) (kk : W p l e R s m args below meth c H locs cells slots Q (F0 m (pc + 3) ls (.ref b :: rest))) : W p l e R s m args below meth c H locs cells slots Q (F0 m pc ls (.ref a :: rest)) := tm_get hexec hb htw ly_X9 hown hK hW hq (by decide) rfl 14 (by decide) (htw _ fl_X9_32) (fun _ h => h) hdg (by rw [tm_V2 rfl M a, hr]; exact kk)
theorem pf_X9_32 (hexec : p.tables.exec = Jvm.exec) (hb : c.code = cc) (htw : ∀ w ∈ tw, w.before args s = true) (hown : s.vm.findClass RX9 = some m.cls) (hK : va_K G.1 vwCl (tm_tys G) s) (hW : tm_W G Hb sh M H) (hq : sh a = some (9, 0)) (hS : va_S (tm_A Hb) H0 H locs) (hin : meth.name = "<init>") {v : Nat} (hdg : decode cc pc = .ok (.putfield 32, 3)) (kk : ∀ (H1 : Heap) (locs1 : List Loc), tm_W G Hb sh (sR M a 14 (some v)) H1 → va_S (tm_A Hb) H0 H1 locs1 → W p l e R s m args below meth c H1 locs1 cells slots Q (F0 m (pc + 3) ls (rest))) : W p l e R s m args below meth c H locs cells slots Q (F0 m pc ls (.ref v :: .ref a :: rest)) := tm_putF hexec hb htw ly_X9 tyX9 tyX9_ok nmX9 hown hK hW hS hq (by decide) rfl 14 (by decide) (htw _ fl_X9_32) (fun _ h => h) rfl hin rfl (tyX9_ok 14 (by decide)) rfl rfl (M' := sR M a 14 (some v)) ((tm_V2 rfl _ a).trans (by rw [show mR (sR M a 14 (some v)) a 14 = _ from tm_up_s _ _ _ _]; rfl)) (fun kd q j h => tm_V_sR h) hdg kk
theorem gf_X9_36 (hexec : p.tables.exec = Jvm.exec) (hb : c.code = cc) (htw : ∀ w ∈ tw, w.before args s = true) (hown : s.vm.findClass RX9 = some m.cls) (hK : va_K G.1 vwCl (tm_tys G) s) (hW : tm_W G Hb sh M H) (hq : sh a = some (9, 0)) (hr : mR M a 15 = some b) (hdg : decode cc pc = .ok (.getfield 36, 3)) (kk : W p l e R s m args below meth c H locs cells slots Q (F0 m (pc + 3) ls (.ref b :: rest))) : W p l e R s m args below meth c H locs cells slots Q (F0 m pc ls (.ref a :: rest)) := tm_get hexec hb htw ly_X9 hown hK hW hq (by decide) rfl 15 (by decide) (htw _ fl_X9_36) (fun _ h => h) hdg (by rw [tm_V2 rfl M a, hr]; exact kk)
theorem pf_X9_36 (hexec : p.tables.exec = Jvm.exec) (hb : c.code = cc) (htw : ∀ w ∈ tw, w.before args s = true) (hown : s.vm.findClass RX9 = some m.cls) (hK : va_K G.1 vwCl (tm_tys G) s) (hW : tm_W G Hb sh M H) (hq : sh a = some (9, 0)) (hS : va_S (tm_A Hb) H0 H locs) (hin : meth.name = "<init>") {v : Nat} (hdg : decode cc pc = .ok (.putfield 36, 3)) (kk : ∀ (H1 : Heap) (locs1 : List Loc), tm_W G Hb sh (sR M a 15 (some v)) H1 → va_S (tm_A Hb) H0 H1 locs1 → W p l e R s m args below meth c H1 locs1 cells slots Q (F0 m (pc + 3) ls (rest))) : W p l e R s m args below meth c H locs cells slots Q (F0 m pc ls (.ref v :: .ref a :: rest)) := tm_putF hexec hb htw ly_X9 tyX9 tyX9_ok nmX9 hown hK hW hS hq (by decide) rfl 15 (by decide) (htw _ fl_X9_36) (fun _ h => h) rfl hin rfl (tyX9_ok 15 (by decide)) rfl rfl (M' := sR M a 15 (some v)) ((tm_V2 rfl _ a).trans (by rw [show mR (sR M a 15 (some v)) a 15 = _ from tm_up_s _ _ _ _]; rfl)) (fun kd q j h => tm_V_sR h) hdg kk
theorem gf_X9_39 (hexec : p.tables.exec = Jvm.exec) (hb : c.code = cc) (htw : ∀ w ∈ tw, w.before args s = true) (hown : s.vm.findClass RX9 = some m.cls) (hK : va_K G.1 vwCl (tm_tys G) s) (hW : tm_W G Hb sh M H) (hq : sh a = some (9, 0)) (hr : mR M a 16 = some b) (hdg : decode cc pc = .ok (.getfield 39, 3)) (kk : W p l e R s m args below meth c H locs cells slots Q (F0 m (pc + 3) ls (.ref b :: rest))) : W p l e R s m args below meth c H locs cells slots Q (F0 m pc ls (.ref a :: rest)) := tm_get hexec hb htw ly_X9 hown hK hW hq (by decide) rfl 16 (by decide) (htw _ fl_X9_39) (fun _ h => h) hdg (by rw [tm_V2 rfl M a, hr]; exact kk)
theorem pf_X9_39 (hexec : p.tables.exec = Jvm.exec) (hb : c.code = cc) (htw : ∀ w ∈ tw, w.before args s = true) (hown : s.vm.findClass RX9 = some m.cls) (hK : va_K G.1 vwCl (tm_tys G) s) (hW : tm_W G Hb sh M H) (hq : sh a = some (9, 0)) (hS : va_S (tm_A Hb) H0 H locs) (hin : meth.name = "<init>") {v : Nat} (hdg : decode cc pc = .ok (.putfield 39, 3)) (kk : ∀ (H1 : Heap) (locs1 : List Loc), tm_W G Hb sh (sR M a 16 (some v)) H1 → va_S (tm_A Hb) H0 H1 locs1 → W p l e R s m args below meth c H1 locs1 cells slots Q (F0 m (pc + 3) ls (rest))) : W p l e R s m args below meth c H locs cells slots Q (F0 m pc ls (.ref v :: .ref a :: rest)) := tm_putF hexec hb htw ly_X9 tyX9 tyX9_ok nmX9 hown hK hW hS hq (by decide) rfl 16 (by decide) (htw _ fl_X9_39) (fun _ h => h) rfl hin rfl (tyX9_ok 16 (by decide)) rfl rfl (M' := sR M a 16 (some v)) ((tm_V2 rfl _ a).trans (by rw [show mR (sR M a 16 (some v)) a 16 = _ from tm_up_s _ _ _ _]; rfl)) (fun kd q j h => tm_V_sR h) hdg kk
theorem gf_X9_42 (hexec : p.tables.exec = Jvm.exec) (hb : c.code = cc) (htw : ∀ w ∈ tw, w.before args s = true) (hown : s.vm.findClass RX9 = some m.cls) (hK : va_K G.1 vwCl (tm_tys G) s) (hW : tm_W G Hb sh M H) (hq : sh a = some (9, 0)) (hr : mR M a 17 = some b) (hdg : decode cc pc = .ok (.getfield 42, 3)) (kk : W p l e R s m args below meth c H locs cells slots Q (F0 m (pc + 3) ls (.ref b :: rest))) : W p l e R s m args below meth c H locs cells slots Q (F0 m pc ls (.ref a :: rest)) := tm_get hexec hb htw ly_X9 hown hK hW hq (by decide) rfl 17 (by decide) (htw _ fl_X9_42) (fun _ h => h) hdg (by rw [tm_V2 rfl M a, hr]; exact kk)
theorem pf_X9_42 (hexec : p.tables.exec = Jvm.exec) (hb : c.code = cc) (htw : ∀ w ∈ tw, w.before args s = true) (hown : s.vm.findClass RX9 = some m.cls) (hK : va_K G.1 vwCl (tm_tys G) s) (hW : tm_W G Hb sh M H) (hq : sh a = some (9, 0)) (hS : va_S (tm_A Hb) H0 H locs) (hin : meth.name = "<init>") {v : Nat} (hdg : decode cc pc = .ok (.putfield 42, 3)) (kk : ∀ (H1 : Heap) (locs1 : List Loc), tm_W G Hb sh (sR M a 17 (some v)) H1 → va_S (tm_A Hb) H0 H1 locs1 → W p l e R s m args below meth c H1 locs1 cells slots Q (F0 m (pc + 3) ls (rest))) : W p l e R s m args below meth c H locs cells slots Q (F0 m pc ls (.ref v :: .ref a :: rest)) := tm_putF hexec hb htw ly_X9 tyX9 tyX9_ok nmX9 hown hK hW hS hq (by decide) rfl 17 (by decide) (htw _ fl_X9_42) (fun _ h => h) rfl hin rfl (tyX9_ok 17 (by decide)) rfl rfl (M' := sR M a 17 (some v)) ((tm_V2 rfl _ a).trans (by rw [show mR (sR M a 17 (some v)) a 17 = _ from tm_up_s _ _ _ _]; rfl)) (fun kd q j h => tm_V_sR h) hdg kk
theorem gf_X9_100 (hexec : p.tables.exec = Jvm.exec) (hb : c.code = cc) (htw : ∀ w ∈ tw, w.before args s = true) (hown : s.vm.findClass RX9 = some m.cls) (hK : va_K G.1 vwCl (tm_tys G) s) (hW : tm_W G Hb sh M H) (hq : sh a = some (9, 0)) (hdg : decode cc pc = .ok (.getfield 100, 3)) (kk : W p l e R s m args below meth c H locs cells slots Q (F0 m (pc + 3) ls (ji (mI M a 18) :: rest))) : W p l e R s m args below meth c H locs cells slots Q (F0 m pc ls (.ref a :: rest)) := tm_get hexec hb htw ly_X9 hown hK hW hq (by decide) rfl 18 (by decide) (htw _ fl_X9_100) (fun _ h => h) hdg kk
theorem pf_X9_100 (hexec : p.tables.exec = Jvm.exec) (hb : c.code = cc) (htw : ∀ w ∈ tw, w.before args s = true) (hown : s.vm.findClass RX9 = some m.cls) (hK : va_K G.1 vwCl (tm_tys G) s) (hW : tm_W G Hb sh M H) (hq : sh a = some (9, 0)) (hS : va_S (tm_A Hb) H0 H locs) {v : Int} (hdg : decode cc pc = .ok (.putfield 100, 3)) (kk : ∀ (H1 : Heap) (locs1 : List Loc), tm_W G Hb sh (sI M a 18 v) H1 → va_S (tm_A Hb) H0 H1 locs1 → W p l e R s m args below meth c H1 locs1 cells slots Q (F0 m (pc + 3) ls (rest))) : W p l e R s m args below meth c H locs cells slots Q (F0 m pc ls (ji v :: .ref a :: rest)) := tm_put hexec hb htw ly_X9 tyX9 tyX9_ok nmX9 hown hK hW hS hq (by decide) rfl 18 (by decide) (htw _ fl_X9_100) (fun _ h => h) rfl (tyX9_ok 18 (by decide)) rfl rfl (M' := sI M a 18 v) ((tm_V0 rfl _ a).trans (by rw [show mI (sI M a 18 v) a 18 = v from tm_up_s _ _ _ _])) (fun kd q j h => tm_V_sI h) hdg kk
theorem gf_X9_76 (hexec : p.tables.exec = Jvm.exec) (hb : c.code = cc) (htw : ∀ w ∈ tw, w.before args s = true) (hown : s.vm.findClass RX9 = some m.cls) (hK : va_K G.1 vwCl (tm_tys G) s) (hW : tm_W G Hb sh M H) (hq : sh a = some (9, 0)) (hdg : decode cc pc = .ok (.getfield 76, 3)) (kk : W p l e R s m args below meth c H locs cells slots Q (F0 m (pc + 3) ls (ji (mI M a 19) :: rest))) : W p l e R s m args below meth c H locs cells slots Q (F0 m pc ls (.ref a :: rest)) := tm_get hexec hb htw ly_X9 hown hK hW hq (by decide) rfl 19 (by decide) (htw _ fl_X9_76) (fun _ h => h) hdg kk
theorem pf_X9_76 (hexec : p.tables.exec = Jvm.exec) (hb : c.code = cc) (htw : ∀ w ∈ tw, w.before args s = true) (hown : s.vm.findClass RX9 = some m.cls) (hK : va_K G.1 vwCl (tm_tys G) s) (hW : tm_W G Hb sh M H) (hq : sh a = some (9, 0)) (hS : va_S (tm_A Hb) H0 H locs) {v : Int} (hdg : decode cc pc = .ok (.putfield 76, 3)) (kk : ∀ (H1 : Heap) (locs1 : List Loc), tm_W G Hb sh (sI M a 19 v) H1 → va_S (tm_A Hb) H0 H1 locs1 → W p l e R s m args below meth c H1 locs1 cells slots Q (F0 m (pc + 3) ls (rest))) : W p l e R s m args below meth c H locs cells slots Q (F0 m pc ls (ji v :: .ref a :: rest)) := tm_put hexec hb htw ly_X9 tyX9 tyX9_ok nmX9 hown hK hW hS hq (by decide) rfl 19 (by decide) (htw _ fl_X9_76) (fun _ h => h) rfl (tyX9_ok 19 (by decide)) rfl rfl (M' := sI M a 19 v) ((tm_V0 rfl _ a).trans (by rw [show mI (sI M a 19 v) a 19 = v from tm_up_s _ _ _ _])) (fun kd q j h => tm_V_sI h) hdg kk
theorem gf_X9_79 (hexec : p.tables.exec = Jvm.exec) (hb : c.code = cc) (htw : ∀ w ∈ tw, w.before args s = true) (hown : s.vm.findClass RX9 = some m.cls) (hK : va_K G.1 vwCl (tm_tys G) s) (hW : tm_W G Hb sh M H) (hq : sh a = some (9, 0)) (hdg : decode cc pc = .ok (.getfield 79, 3)) (kk : W p l e R s m args below meth c H locs cells slots Q (F0 m (pc + 3) ls (ji (mI M a 20) :: rest))) : W p l e R s m args below meth c H locs cells slots Q (F0 m pc ls (.ref a :: rest)) := tm_get hexec hb htw ly_X9 hown hK hW hq (by decide) rfl 20 (by decide) (htw _ fl_X9_79) (fun _ h => h) hdg kk
theorem pf_X9_79 (hexec : p.tables.exec = Jvm.exec) (hb : c.code = cc) (htw : ∀ w ∈ tw, w.before args s = true) (hown : s.vm.findClass RX9 = some m.cls) (hK : va_K G.1 vwCl (tm_tys G) s) (hW : tm_W G Hb sh M H) (hq : sh a = some (9, 0)) (hS : va_S (tm_A Hb) H0 H locs) {v : Int} (hdg : decode cc pc = .ok (.putfield 79, 3)) (kk : ∀ (H1 : Heap) (locs1 : List Loc), tm_W G Hb sh (sI M a 20 v) H1 → va_S (tm_A Hb) H0 H1 locs1 → W p l e R s m args below meth c H1 locs1 cells slots Q (F0 m (pc + 3) ls (rest))) : W p l e R s m args below meth c H locs cells slots Q (F0 m pc ls (ji v :: .ref a :: rest)) := tm_put hexec hb htw ly_X9 tyX9 tyX9_ok nmX9 hown hK hW hS hq (by decide) rfl 20 (by decide) (htw _ fl_X9_79) (fun _ h => h) rfl (tyX9_ok 20 (by decide)) rfl rfl (M' := sI M a 20 v) ((tm_V0 rfl _ a).trans (by rw [show mI (sI M a 20 v) a 20 = v from tm_up_s _ _ _ _])) (fun kd q j h => tm_V_sI h) hdg kk
theorem gf_X9_73 (hexec : p.tables.exec = Jvm.exec) (hb : c.code = cc) (htw : ∀ w ∈ tw, w.before args s = true) (hown : s.vm.findClass RX9 = some m.cls) (hK : va_K G.1 vwCl (tm_tys G) s) (hW : tm_W G Hb sh M H) (hq : sh a = some (9, 0)) (hdg : decode cc pc = .ok (.getfield 73, 3)) (kk : W p l e R s m args below meth c H locs cells slots Q (F0 m (pc + 3) ls (ji (mI M a 21) :: rest))) : W p l e R s m args below meth c H locs cells slots Q (F0 m pc ls (.ref a :: rest)) := tm_get hexec hb htw ly_X9 hown hK hW hq (by decide) rfl 21 (by decide) (htw _ fl_X9_73) (fun _ h => h) hdg kk
theorem pf_X9_73 (hexec : p.tables.exec = Jvm.exec) (hb : c.code = cc) (htw : ∀ w ∈ tw, w.before args s = true) (hown : s.vm.findClass RX9 = some m.cls) (hK : va_K G.1 vwCl (tm_tys G) s) (hW : tm_W G Hb sh M H) (hq : sh a = some (9, 0)) (hS : va_S (tm_A Hb) H0 H locs) {v : Int} (hdg : decode cc pc = .ok (.putfield 73, 3)) (kk : ∀ (H1 : Heap) (locs1 : List Loc), tm_W G Hb sh (sI M a 21 v) H1 → va_S (tm_A Hb) H0 H1 locs1 → W p l e R s m args below meth c H1 locs1 cells slots Q (F0 m (pc + 3) ls (rest))) : W p l e R s m args below meth c H locs cells slots Q (F0 m pc ls (ji v :: .ref a :: rest)) := tm_put hexec hb htw ly_X9 tyX9 tyX9_ok nmX9 hown hK hW hS hq (by decide) rfl 21 (by decide) (htw _ fl_X9_73) (fun _ h => h) rfl (tyX9_ok 21 (by decide)) rfl rfl (M' := sI M a 21 v) ((tm_V0 rfl _ a).trans (by rw [show mI (sI M a 21 v) a 21 = v from tm_up_s _ _ _ _])) (fun kd q j h => tm_V_sI h) hdg kk
theorem gf_X9_86 (hexec : p.tables.exec = Jvm.exec) (hb : c.code = cc) (htw : ∀ w ∈ tw, w.before args s = true) (hown : s.vm.findClass RX9 = some m.cls) (hK : va_K G.1 vwCl (tm_tys G) s) (hW : tm_W G Hb sh M H) (hq : sh a = some (9, 0)) (hdg : decode cc pc = .ok (.getfield 86, 3)) (kk : W p l e R s m args below meth c H locs cells slots Q (F0 m (pc + 3) ls (ji (mI M a 22) :: rest))) : W p l e R s m args below meth c H locs cells slots Q (F0 m pc ls (.ref a :: rest)) := tm_get hexec hb htw ly_X9 hown hK hW hq (by decide) rfl 22 (by decide) (htw _ fl_X9_86) (fun _ h => h) hdg kk
theorem pf_X9_86 (hexec : p.tables.exec = Jvm.exec) (hb : c.code = cc) (htw : ∀ w ∈ tw, w.before args s = true) (hown : s.vm.findClass RX9 = some m.cls) (hK : va_K G.1 vwCl (tm_tys G) s) (hW : tm_W G Hb sh M H) (hq : sh a = some (9, 0)) (hS : va_S (tm_A Hb) H0 H locs) {v : Int} (hdg : decode cc pc = .ok (.putfield 86, 3)) (kk : ∀ (H1 : Heap) (locs1 : List Loc), tm_W G Hb sh (sI M a 22 v) H1 → va_S (tm_A Hb) H0 H1 locs1 → W p l e R s m args below meth c H1 locs1 cells slots Q (F0 m (pc + 3) ls (rest))) : W p l e R s m args below meth c H locs cells slots Q (F0 m pc ls (ji v :: .ref a :: rest)) := tm_put hexec hb htw ly_X9 tyX9 tyX9_ok nmX9 hown hK hW hS hq (by decide) rfl 22 (by decide) (htw _ fl_X9_86) (fun _ h => h) rfl (tyX9_ok 22 (by decide)) rfl rfl (M' := sI M a 22 v) ((tm_V0 rfl _ a).trans (by rw [show mI (sI M a 22 v) a 22 = v from tm_up_s _ _ _ _])) (fun kd q j h => tm_V_sI h) hdg kk
theorem gf_X9_97 (hexec : p.tables.exec = Jvm.exec) (hb : c.code = cc) (htw : ∀ w ∈ tw, w.before args s = true) (hown : s.vm.findClass RX9 = some m.cls) (hK : va_K G.1 vwCl (tm_tys G) s) (hW : tm_W G Hb sh M H) (hq : sh a = some (9, 0)) (hdg : decode cc pc = .ok (.getfield 97, 3)) (kk : W p l e R s m args below meth c H locs cells slots Q (F0 m (pc + 3) ls (ji (mI M a 23) :: rest))) : W p l e R s m args below meth c H locs cells slots Q (F0 m pc ls (.ref a :: rest)) := tm_get hexec hb htw ly_X9 hown hK hW hq (by decide) rfl 23 (by decide) (htw _ fl_X9_97) (fun _ h => h) hdg kk
theorem pf_X9_97 (hexec : p.tables.exec = Jvm.exec) (hb : c.code = cc) (htw : ∀ w ∈ tw, w.before args s = true) (hown : s.vm.findClass RX9 = some m.cls) (hK : va_K G.1 vwCl (tm_tys G) s) (hW : tm_W G Hb sh M H) (hq : sh a = some (9, 0)) (hS : va_S (tm_A Hb) H0 H locs) {v : Int} (hdg : decode cc pc = .ok (.putfield 97, 3)) (kk : ∀ (H1 : Heap) (locs1 : List Loc), tm_W G Hb sh (sI M a 23 v) H1 → va_S (tm_A Hb) H0 H1 locs1 → W p l e R s m args below meth c H1 locs1 cells slots Q (F0 m (pc + 3) ls (rest))) : W p l e R s m args below meth c H locs cells slots Q (F0 m pc ls (ji v :: .ref a :: rest)) := tm_put hexec hb htw ly_X9 tyX9 tyX9_ok nmX9 hown hK hW hS hq (by decide) rfl 23 (by decide) (htw _ fl_X9_97) (fun _ h => h) rfl (tyX9_ok 23 (by decide)) rfl rfl (M' := sI M a 23 v) ((tm_V0 rfl _ a).trans (by rw [show mI (sI M a 23 v) a 23 = v from tm_up_s _ _ _ _])) (fun kd q j h => tm_V_sI h) hdg kk
theorem gf_X9_45 (hexec : p.tables.exec = Jvm.exec) (hb : c.code = cc) (htw : ∀ w ∈ tw, w.before args s = true) (hown : s.vm.findClass RX9 = some m.cls) (hK : va_K G.1 vwCl (tm_tys G) s) (hW : tm_W G Hb sh M H) (hq : sh a = some (9, 0)) (hr : mR M a 24 = some b) (hdg : decode cc pc = .ok (.getfield 45, 3)) (kk : W p l e R s m args below meth c H locs cells slots Q (F0 m (pc + 3) ls (.ref b :: rest))) : W p l e R s m args below meth c H locs cells slots Q (F0 m pc ls (.ref a :: rest)) := tm_get hexec hb htw ly_X9 hown hK hW hq (by decide) rfl 24 (by decide) (htw _ fl_X9_45) (fun _ h => h) hdg (by rw [tm_V2 rfl M a, hr]; exact kk)
theorem pf_X9_45 (hexec : p.tables.exec = Jvm.exec) (hb : c.code = cc) (htw : ∀ w ∈ tw, w.before args s = true) (hown : s.vm.findClass RX9 = some m.cls) (hK : va_K G.1 vwCl (tm_tys G) s) (hW : tm_W G Hb sh M H) (hq : sh a = some (9, 0)) (hS : va_S (tm_A Hb) H0 H locs) (hin : meth.name = "<init>") {v : Nat} (hdg : decode cc pc = .ok (.putfield 45, 3)) (kk : ∀ (H1 : Heap) (locs1 : List Loc), tm_W G Hb sh (sR M a 24 (some v)) H1 → va_S (tm_A Hb) H0 H1 locs1 → W p l e R s m args below meth c H1 locs1 cells slots Q (F0 m (pc + 3) ls (rest))) : W p l e R s m args below meth c H locs cells slots Q (F0 m pc ls (.ref v :: .ref a :: rest)) := tm_putF hexec hb htw ly_X9 tyX9 tyX9_ok nmX9 hown hK hW hS hq (by decide) rfl 24 (by decide) (htw _ fl_X9_45) (fun _ h => h) rfl hin rfl (tyX9_ok 24 (by decide)) rfl rfl (M' := sR M a 24 (some v)) ((tm_V2 rfl _ a).trans (by rw [show mR (sR M a 24 (some v)) a 24 = _ from tm_up_s _ _ _ _]; rfl)) (fun kd q j h => tm_V_sR h) hdg kk
theorem gf_X9_143 (hexec : p.tables.exec = Jvm.exec) (hb : c.code = cc) (htw : ∀ w ∈ tw, w.before args s = true) (hown : s.vm.findClass RX9 = some m.cls) (hK : va_K G.1 vwCl (tm_tys G) s) (hW : tm_W G Hb sh M H) (hq : sh a = some (9, 0)) (hdg : decode cc pc = .ok (.getfield 143, 3)) (kk : W p l e R s m args below meth c H locs cells slots Q (F0 m (pc + 3) ls (ji (mI M a 25) :: rest))) : W p l e R s m args below meth c H locs cells slots Q (F0 m pc ls (.ref a :: rest)) := tm_get hexec hb htw ly_X9 hown hK hW hq (by decide) rfl 25 (by decide) (htw _ fl_X9_143) (fun _ h => h) hdg kk
theorem pf_X9_143 (hexec : p.tables.exec = Jvm.exec) (hb : c.code = cc) (htw : ∀ w ∈ tw, w.before args s = true) (hown : s.vm.findClass RX9 = some m.cls) (hK : va_K G.1 vwCl (tm_tys G) s) (hW : tm_W G Hb sh M H) (hq : sh a = some (9, 0)) (hS : va_S (tm_A Hb) H0 H locs) {v : Int} (hdg : decode cc pc = .ok (.putfield 143, 3)) (kk : ∀ (H1 : Heap) (locs1 : List Loc), tm_W G Hb sh (sI M a 25 v) H1 → va_S (tm_A Hb) H0 H1 locs1 → W p l e R s m args below meth c H1 locs1 cells slots Q (F0 m (pc + 3) ls (rest))) : W p l e R s m args below meth c H locs cells slots Q (F0 m pc ls (ji v :: .ref a :: rest)) := tm_put hexec hb htw ly_X9 tyX9 tyX9_ok nmX9 hown hK hW hS hq (by decide) rfl 25 (by decide) (htw _ fl_X9_143) (fun _ h => h) rfl (tyX9_ok 25 (by decide)) rfl rfl (M' := sI M a 25 v) ((tm_V0 rfl _ a).trans (by rw [show mI (sI M a 25 v) a 25 = v from tm_up_s _ _ _ _])) (fun kd q j h => tm_V_sI h) hdg kk
theorem gf_X9_137 (hexec : p.tables.exec = Jvm.exec) (hb : c.code = cc) (htw : ∀ w ∈ tw, w.before args s = true) (hown : s.vm.findClass RX9 = some m.cls) (hK : va_K G.1 vwCl (tm_tys G) s) (hW : tm_W G Hb sh M H) (hq : sh a = some (9, 0)) (hdg : decode cc pc = .ok (.getfield 137, 3)) (kk : W p l e R s m args below meth c H locs cells slots Q (F0 m (pc + 3) ls (jl (mL M a 26) :: rest))) : W p l e R s m args below meth c H locs cells slots Q (F0 m pc ls (.ref a :: rest)) := tm_get hexec hb htw ly_X9 hown hK hW hq (by decide) rfl 26 (by decide) (htw _ fl_X9_137) (fun _ h => h) hdg kk
theorem pf_X9_137 (hexec : p.tables.exec = Jvm.exec) (hb : c.code = cc) (htw : ∀ w ∈ tw, w.before args s = true) (hown : s.vm.findClass RX9 = some m.cls) (hK : va_K G.1 vwCl (tm_tys G) s) (hW : tm_W G Hb sh M H) (hq : sh a = some (9, 0)) (hS : va_S (tm_A Hb) H0 H locs) {v : Int} (hdg : decode cc pc = .ok (.putfield 137, 3)) (kk : ∀ (H1 : Heap) (locs1 : List Loc), tm_W G Hb sh (sL M a 26 v) H1 → va_S (tm_A Hb) H0 H1 locs1 → W p l e R s m args below meth c H1 locs1 cells slots Q (F0 m (pc + 3) ls (rest))) : W p l e R s m args below meth c H locs cells slots Q (F0 m pc ls (jl v :: .ref a :: rest)) := tm_put hexec hb htw ly_X9 tyX9 tyX9_ok nmX9 hown hK hW hS hq (by decide) rfl 26 (by decide) (htw _ fl_X9_137) (fun _ h => h) rfl (tyX9_ok 26 (by decide)) rfl rfl (M' := sL M a 26 v) ((tm_V1 rfl _ a).trans (by rw [show mL (sL M a 26 v) a 26 = v from tm_up_s _ _ _ _])) (fun kd q j h => tm_V_sL h) hdg kk
theorem gf_X9_140 (hexec : p.tables.exec = Jvm.exec) (hb : c.code = cc) (htw : ∀ w ∈ tw, w.before args s = true) (hown : s.vm.findClass RX9 = some m.cls) (hK : va_K G.1 vwCl (tm_tys G) s) (hW : tm_W G Hb sh M H) (hq : sh a = some (9, 0)) (hdg : decode cc pc = .ok (.getfield 140, 3)) (kk : W p l e R s m args below meth c H locs cells slots Q (F0 m (pc + 3) ls (jl (mL M a 27) :: rest))) : W p l e R s m args below meth c H locs cells slots Q (F0 m pc ls (.ref a :: rest)) := tm_get hexec hb htw ly_X9 hown hK hW hq (by decide) rfl 27 (by decide) (htw _ fl_X9_140) (fun _ h => h) hdg kk
theorem pf_X9_140 (hexec : p.tables.exec = Jvm.exec) (hb : c.code = cc) (htw : ∀ w ∈ tw, w.before args s = true) (hown : s.vm.findClass RX9 = some m.cls) (hK : va_K G.1 vwCl (tm_tys G) s) (hW : tm_W G Hb sh M H) (hq : sh a = some (9, 0)) (hS : va_S (tm_A Hb) H0 H locs) {v : Int} (hdg : decode cc pc = .ok (.putfield 140, 3)) (kk : ∀ (H1 : Heap) (locs1 : List Loc), tm_W G Hb sh (sL M a 27 v) H1 → va_S (tm_A Hb) H0 H1 locs1 → W p l e R s m args below meth c H1 locs1 cells slots Q (F0 m (pc + 3) ls (rest))) : W p l e R s m args below meth c H locs cells slots Q (F0 m pc ls (jl v :: .ref a :: rest)) := tm_put hexec hb htw ly_X9 tyX9 tyX9_ok nmX9 hown hK hW hS hq (by decide) rfl 27 (by decide) (htw _ fl_X9_140) (fun _ h => h) rfl (tyX9_ok 27 (by decide)) rfl rfl (M' := sL M a 27 v) ((tm_V1 rfl _ a).trans (by rw [show mL (sL M a 27 v) a 27 = v from tm_up_s _ _ _ _])) (fun kd q j h => tm_V_sL h) hdg kk
theorem gf_X9_162 (hexec : p.tables.exec = Jvm.exec) (hb : c.code = cc) (htw : ∀ w ∈ tw, w.before args s = true) (hown : s.vm.findClass RX9 = some m.cls) (hK : va_K G.1 vwCl (tm_tys G) s) (hW : tm_W G Hb sh M H) (hq : sh a = some (9, 0)) (hdg : decode cc pc = .ok (.getfield 162, 3)) (kk : W p l e R s m args below meth c H locs cells slots Q (F0 m (pc + 3) ls (ji (mI M a 28) :: rest))) : W p l e R s m args below meth c H locs cells slots Q (F0 m pc ls (.ref a :: rest)) := tm_get hexec hb htw ly_X9 hown hK hW hq (by decide) rfl 28 (by decide) (htw _ fl_X9_162) (fun _ h => h) hdg kk
theorem pf_X9_162 (hexec : p.tables.exec = Jvm.exec) (hb : c.code = cc) (htw : ∀ w ∈ tw, w.before args s = true) (hown : s.vm.findClass RX9 = some m.cls) (hK : va_K G.1 vwCl (tm_tys G) s) (hW : tm_W G Hb sh M H) (hq : sh a = some (9, 0)) (hS : va_S (tm_A Hb) H0 H locs) {v : Int} (hv : v = 0 ∨ v = 1) (hdg : decode cc pc = .ok (.putfield 162, 3)) (kk : ∀ (H1 : Heap) (locs1 : List Loc), tm_W G Hb sh (sI M a 28 v) H1 → va_S (tm_A Hb) H0 H1 locs1 → W p l e R s m args below meth c H1 locs1 cells slots Q (F0 m (pc + 3) ls (rest))) : W p l e R s m args below meth c H locs cells slots Q (F0 m pc ls (ji v :: .ref a :: rest)) := tm_put hexec hb htw ly_X9 tyX9 tyX9_ok nmX9 hown hK hW hS hq (by decide) rfl 28 (by decide) (htw _ fl_X9_162) (fun _ h => h) rfl (tyX9_ok 28 (by decide)) (tm_nz hv) (by rcases hv with rfl | rfl <;> decide) (M' := sI M a 28 v) ((tm_V0 rfl _ a).trans (by rw [show mI (sI M a 28 v) a 28 = v from tm_up_s _ _ _ _])) (fun kd q j h => tm_V_sI h) hdg kk
theorem cs_X8_160 (hexec : p.tables.exec = Jvm.exec) (hb : c.code = cc) (hml : c.maxLocals = nL) (hown : s.vm.findClass RX8 = some m.cls) (htw : ∀ w ∈ tw, w.before args s = true) (hK : va_K G.1 vwCl (tm_tys G) s) (hW : tm_W G Hb sh M H) (hq : sh b = some (4, 0)) (hM : Met l yX2_byteAt (tws yX2_byteAt cX2_byteAt 2 (some .int)) rm (va_Pc [.ref b, a1] (tm_St G Hb sh M)) Qc mc ms (tm_A Hb)) (hrm : rm.cells = mc ∧ rm.slots = ms ∧ rm.frames + 1 ≤ R.frames ∧ 8 + (2 + 11) + rm.locals ≤ R.locals) (hsize : ls.size = nL) (hrest : (rest.map fun v => v.category).sum ≤ 8) (hdg : decode cc pc = .ok (.invokevirtual 160, 3)) (hf : cells + mc ≤ R.cells ∧ slots + ms ≤ R.slots) : va_Run p l e R s m args below meth c H locs cells slots mc ms (F0 m pc ls (a1 :: .ref b :: rest)) rest (Qc #[.ref b, a1]) (tm_A Hb) := tm_runV (n := 1) (As := [a1]) hexec hb hml hown htw hK hW hq (by decide) rfl ml_X8_160 im_X2_byteAt se_X2_byteAt in_X2 co_X2_byteAt (by decide +kernel) hM hrm rfl hsize rfl hrest hdg hf
theorem cs_X8_65 (hexec : p.tables.exec = Jvm.exec) (hb : c.code = cc) (hml : c.maxLocals = nL) (hown : s.vm.findClass RX8 = some m.cls) (htw : ∀ w ∈ tw, w.before args s = true) (hK : va_K G.1 vwCl (tm_tys G) s) (hW : tm_W G Hb sh M H) (hM : Met l yX8_requireNumber (tws yX8_requireNumber cX8_requireNumber 3 none) rm (va_Pc [a1, a2, a3] (tm_St G Hb sh M)) Qc mc ms (tm_A Hb)) (hrm : rm.cells = mc ∧ rm.slots = ms ∧ rm.frames + 1 ≤ R.frames ∧ 8 + (3 + 11) + rm.locals ≤ R.locals) (hsize : ls.size = nL) (hrest : (rest.map fun v => v.category).sum ≤ 8) (hdg : decode cc pc = .ok (.invokestatic 65, 3)) (hf : cells + mc ≤ R.cells ∧ slots + ms ≤ R.slots) : va_Run p l e R s m args below meth c H locs cells slots mc ms (F0 m pc ls (a3 :: a2 :: a1 :: rest)) rest (Qc #[a1, a2, a3]) (tm_A Hb) := tm_runS (n := 3) (As := [a1, a2, a3]) hexec hb hml hown htw hK hW ml_X8_65 st_X8_requireNumber in_X8 co_X8_requireNumber (by decide +kernel) hM hrm rfl hsize rfl hrest hdg hf
theorem cs_X8_69 (hexec : p.tables.exec = Jvm.exec) (hb : c.code = cc) (hml : c.maxLocals = nL) (hown : s.vm.findClass RX8 = some m.cls) (htw : ∀ w ∈ tw, w.before args s = true) (hK : va_K G.1 vwCl (tm_tys G) s) (hW : tm_W G Hb sh M H) (hq : sh b = some (5, 0)) (hM : Met l yX4_read (tws yX4_read cX4_read 4 (some .int)) rm (va_Pc [.ref b, a1, a2, a3] (tm_St G Hb sh M)) Qc mc ms (tm_A Hb)) (hrm : rm.cells = mc ∧ rm.slots = ms ∧ rm.frames + 1 ≤ R.frames ∧ 8 + (4 + 11) + rm.locals ≤ R.locals) (hsize : ls.size = nL) (hrest : (rest.map fun v => v.category).sum ≤ 8) (hdg : decode cc pc = .ok (.invokevirtual 69, 3)) (hf : cells + mc ≤ R.cells ∧ slots + ms ≤ R.slots) : va_Run p l e R s m args below meth c H locs cells slots mc ms (F0 m pc ls (a3 :: a2 :: a1 :: .ref b :: rest)) rest (Qc #[.ref b, a1, a2, a3]) (tm_A Hb) := tm_runV (n := 3) (As := [a1, a2, a3]) hexec hb hml hown htw hK hW hq (by decide) rfl ml_X8_69 im_X4_read se_X4_read in_X4 co_X4_read (by decide +kernel) hM hrm rfl hsize rfl hrest hdg hf
theorem cs_X4_44 (hexec : p.tables.exec = Jvm.exec) (hb : c.code = cc) (hml : c.maxLocals = nL) (hown : s.vm.findClass RX4 = some m.cls) (htw : ∀ w ∈ tw, w.before args s = true) (hK : va_K G.1 vwCl (tm_tys G) s) (hW : tm_W G Hb sh M H) (hq : sh b = some (5, 0)) (hM : Met l yX4_readSide (tws yX4_readSide cX4_readSide 7 (some .boolean)) rm (va_Pc [.ref b, a1] (tm_St G Hb sh M)) Qc mc ms (tm_A Hb)) (hrm : rm.cells = mc ∧ rm.slots = ms ∧ rm.frames + 1 ≤ R.frames ∧ 8 + (7 + 11) + rm.locals ≤ R.locals) (hsize : ls.size = nL) (hrest : (rest.map fun v => v.category).sum ≤ 8) (hdg : decode cc pc = .ok (.invokevirtual 44, 3)) (hf : cells + mc ≤ R.cells ∧ slots + ms ≤ R.slots) : va_Run p l e R s m args below meth c H locs cells slots mc ms (F0 m pc ls (a1 :: .ref b :: rest)) rest (Qc #[.ref b, a1]) (tm_A Hb) := tm_runV (n := 1) (As := [a1]) hexec hb hml hown htw hK hW hq (by decide) rfl ml_X4_44 im_X4_readSide se_X4_readSide in_X4 co_X4_readSide (by decide +kernel) hM hrm rfl hsize rfl hrest hdg hf
theorem cs_X4_65 (hexec : p.tables.exec = Jvm.exec) (hb : c.code = cc) (hml : c.maxLocals = nL) (hown : s.vm.findClass RX4 = some m.cls) (htw : ∀ w ∈ tw, w.before args s = true) (hK : va_K G.1 vwCl (tm_tys G) s) (hW : tm_W G Hb sh M H) (hq : sh b = some (5, 0)) (hM : Met l yX4_next (tws yX4_next cX4_next 1 (some .int)) rm (va_Pc [.ref b] (tm_St G Hb sh M)) Qc mc ms (tm_A Hb)) (hrm : rm.cells = mc ∧ rm.slots = ms ∧ rm.frames + 1 ≤ R.frames ∧ 8 + (1 + 11) + rm.locals ≤ R.locals) (hsize : ls.size = nL) (hrest : (rest.map fun v => v.category).sum ≤ 8) (hdg : decode cc pc = .ok (.invokevirtual 65, 3)) (hf : cells + mc ≤ R.cells ∧ slots + ms ≤ R.slots) : va_Run p l e R s m args below meth c H locs cells slots mc ms (F0 m pc ls (.ref b :: rest)) rest (Qc #[.ref b]) (tm_A Hb) := tm_runV (n := 0) (As := []) hexec hb hml hown htw hK hW hq (by decide) rfl ml_X4_65 im_X4_next se_X4_next in_X4 co_X4_next (by decide +kernel) hM hrm rfl hsize rfl hrest hdg hf
theorem cs_X4_75 (hexec : p.tables.exec = Jvm.exec) (hb : c.code = cc) (hml : c.maxLocals = nL) (hown : s.vm.findClass RX4 = some m.cls) (htw : ∀ w ∈ tw, w.before args s = true) (hK : va_K G.1 vwCl (tm_tys G) s) (hW : tm_W G Hb sh M H) (hq : sh b = some (5, 0)) (hM : Met l yX4_readTerm (tws yX4_readTerm cX4_readTerm 7 (some .boolean)) rm (va_Pc [.ref b, a1] (tm_St G Hb sh M)) Qc mc ms (tm_A Hb)) (hrm : rm.cells = mc ∧ rm.slots = ms ∧ rm.frames + 1 ≤ R.frames ∧ 8 + (7 + 11) + rm.locals ≤ R.locals) (hsize : ls.size = nL) (hrest : (rest.map fun v => v.category).sum ≤ 8) (hdg : decode cc pc = .ok (.invokevirtual 75, 3)) (hf : cells + mc ≤ R.cells ∧ slots + ms ≤ R.slots) : va_Run p l e R s m args below meth c H locs cells slots mc ms (F0 m pc ls (a1 :: .ref b :: rest)) rest (Qc #[.ref b, a1]) (tm_A Hb) := tm_runV (n := 1) (As := [a1]) hexec hb hml hown htw hK hW hq (by decide) rfl ml_X4_75 im_X4_readTerm se_X4_readTerm in_X4 co_X4_readTerm (by decide +kernel) hM hrm rfl hsize rfl hrest hdg hf
theorem cs_X4_91 (hexec : p.tables.exec = Jvm.exec) (hb : c.code = cc) (hml : c.maxLocals = nL) (hown : s.vm.findClass RX4 = some m.cls) (htw : ∀ w ∈ tw, w.before args s = true) (hK : va_K G.1 vwCl (tm_tys G) s) (hW : tm_W G Hb sh M H) (hq : sh b = some (5, 0)) (hM : Met l yX4_readFactor (tws yX4_readFactor cX4_readFactor 2 (some .boolean)) rm (va_Pc [.ref b, a1] (tm_St G Hb sh M)) Qc mc ms (tm_A Hb)) (hrm : rm.cells = mc ∧ rm.slots = ms ∧ rm.frames + 1 ≤ R.frames ∧ 8 + (2 + 11) + rm.locals ≤ R.locals) (hsize : ls.size = nL) (hrest : (rest.map fun v => v.category).sum ≤ 8) (hdg : decode cc pc = .ok (.invokevirtual 91, 3)) (hf : cells + mc ≤ R.cells ∧ slots + ms ≤ R.slots) : va_Run p l e R s m args below meth c H locs cells slots mc ms (F0 m pc ls (a1 :: .ref b :: rest)) rest (Qc #[.ref b, a1]) (tm_A Hb) := tm_runV (n := 1) (As := [a1]) hexec hb hml hown htw hK hW hq (by decide) rfl ml_X4_91 im_X4_readFactor se_X4_readFactor in_X4 co_X4_readFactor (by decide +kernel) hM hrm rfl hsize rfl hrest hdg hf
theorem cs_X4_125 (hexec : p.tables.exec = Jvm.exec) (hb : c.code = cc) (hml : c.maxLocals = nL) (hown : s.vm.findClass RX4 = some m.cls) (htw : ∀ w ∈ tw, w.before args s = true) (hK : va_K G.1 vwCl (tm_tys G) s) (hW : tm_W G Hb sh M H) (hq : sh b = some (6, 0)) (hM : Met l yX5_setWhole (tws yX5_setWhole cX5_setWhole 3 none) rm (va_Pc [.ref b, a1, a2] (tm_St G Hb sh M)) Qc mc ms (tm_A Hb)) (hrm : rm.cells = mc ∧ rm.slots = ms ∧ rm.frames + 1 ≤ R.frames ∧ 8 + (3 + 11) + rm.locals ≤ R.locals) (hsize : ls.size = nL) (hrest : (rest.map fun v => v.category).sum ≤ 8) (hdg : decode cc pc = .ok (.invokevirtual 125, 3)) (hf : cells + mc ≤ R.cells ∧ slots + ms ≤ R.slots) : va_Run p l e R s m args below meth c H locs cells slots mc ms (F0 m pc ls (a2 :: a1 :: .ref b :: rest)) rest (Qc #[.ref b, a1, a2]) (tm_A Hb) := tm_runV (n := 2) (As := [a1, a2]) hexec hb hml hown htw hK hW hq (by decide) rfl ml_X4_125 im_X5_setWhole se_X5_setWhole in_X5 co_X5_setWhole (by decide +kernel) hM hrm rfl hsize rfl hrest hdg hf
theorem cs_X5_19 (hexec : p.tables.exec = Jvm.exec) (hb : c.code = cc) (hml : c.maxLocals = nL) (hown : s.vm.findClass RX5 = some m.cls) (htw : ∀ w ∈ tw, w.before args s = true) (hK : va_K G.1 vwCl (tm_tys G) s) (hW : tm_W G Hb sh M H) (hq : sh b = some (2, 0)) (hM : Met l yX0_setWhole (tws yX0_setWhole cX0_setWhole 3 none) rm (va_Pc [.ref b, a1] (tm_St G Hb sh M)) Qc mc ms (tm_A Hb)) (hrm : rm.cells = mc ∧ rm.slots = ms ∧ rm.frames + 1 ≤ R.frames ∧ 8 + (3 + 11) + rm.locals ≤ R.locals) (hsize : ls.size = nL) (hrest : (rest.map fun v => v.category).sum ≤ 8) (hdg : decode cc pc = .ok (.invokevirtual 19, 3)) (hf : cells + mc ≤ R.cells ∧ slots + ms ≤ R.slots) : va_Run p l e R s m args below meth c H locs cells slots mc ms (F0 m pc ls (a1 :: .ref b :: rest)) rest (Qc #[.ref b, a1]) (tm_A Hb) := tm_runV (n := 1) (As := [a1]) hexec hb hml hown htw hK hW hq (by decide) rfl ml_X5_19 im_X0_setWhole se_X0_setWhole in_X0 co_X0_setWhole (by decide +kernel) hM hrm rfl hsize rfl hrest hdg hf
theorem cs_X4_129 (hexec : p.tables.exec = Jvm.exec) (hb : c.code = cc) (hml : c.maxLocals = nL) (hown : s.vm.findClass RX4 = some m.cls) (htw : ∀ w ∈ tw, w.before args s = true) (hK : va_K G.1 vwCl (tm_tys G) s) (hW : tm_W G Hb sh M H) (hq : sh b = some (5, 0)) (hM : Met l yX4_readParentheses (tws yX4_readParentheses cX4_readParentheses 2 (some .boolean)) rm (va_Pc [.ref b, a1] (tm_St G Hb sh M)) Qc mc ms (tm_A Hb)) (hrm : rm.cells = mc ∧ rm.slots = ms ∧ rm.frames + 1 ≤ R.frames ∧ 8 + (2 + 11) + rm.locals ≤ R.locals) (hsize : ls.size = nL) (hrest : (rest.map fun v => v.category).sum ≤ 8) (hdg : decode cc pc = .ok (.invokevirtual 129, 3)) (hf : cells + mc ≤ R.cells ∧ slots + ms ≤ R.slots) : va_Run p l e R s m args below meth c H locs cells slots mc ms (F0 m pc ls (a1 :: .ref b :: rest)) rest (Qc #[.ref b, a1]) (tm_A Hb) := tm_runV (n := 1) (As := [a1]) hexec hb hml hown htw hK hW hq (by decide) rfl ml_X4_129 im_X4_readParentheses se_X4_readParentheses in_X4 co_X4_readParentheses (by decide +kernel) hM hrm rfl hsize rfl hrest hdg hf
theorem cs_X4_69 (hexec : p.tables.exec = Jvm.exec) (hb : c.code = cc) (hml : c.maxLocals = nL) (hown : s.vm.findClass RX4 = some m.cls) (htw : ∀ w ∈ tw, w.before args s = true) (hK : va_K G.1 vwCl (tm_tys G) s) (hW : tm_W G Hb sh M H) (hq : sh b = some (5, 0)) (hM : Met l yX4_failAt (tws yX4_failAt cX4_failAt 2 (some .boolean)) rm (va_Pc [.ref b, a1] (tm_St G Hb sh M)) Qc mc ms (tm_A Hb)) (hrm : rm.cells = mc ∧ rm.slots = ms ∧ rm.frames + 1 ≤ R.frames ∧ 8 + (2 + 11) + rm.locals ≤ R.locals) (hsize : ls.size = nL) (hrest : (rest.map fun v => v.category).sum ≤ 8) (hdg : decode cc pc = .ok (.invokevirtual 69, 3)) (hf : cells + mc ≤ R.cells ∧ slots + ms ≤ R.slots) : va_Run p l e R s m args below meth c H locs cells slots mc ms (F0 m pc ls (a1 :: .ref b :: rest)) rest (Qc #[.ref b, a1]) (tm_A Hb) := tm_runV (n := 1) (As := [a1]) hexec hb hml hown htw hK hW hq (by decide) rfl ml_X4_69 im_X4_failAt se_X4_failAt in_X4 co_X4_failAt (by decide +kernel) hM hrm rfl hsize rfl hrest hdg hf
theorem cs_X4_54 (hexec : p.tables.exec = Jvm.exec) (hb : c.code = cc) (hml : c.maxLocals = nL) (hown : s.vm.findClass RX4 = some m.cls) (htw : ∀ w ∈ tw, w.before args s = true) (hK : va_K G.1 vwCl (tm_tys G) s) (hW : tm_W G Hb sh M H) (hq : sh b = some (6, 0)) (hM : Met l yX5_copy (tws yX5_copy cX5_copy 2 none) rm (va_Pc [.ref b, a1] (tm_St G Hb sh M)) Qc mc ms (tm_A Hb)) (hrm : rm.cells = mc ∧ rm.slots = ms ∧ rm.frames + 1 ≤ R.frames ∧ 8 + (2 + 11) + rm.locals ≤ R.locals) (hsize : ls.size = nL) (hrest : (rest.map fun v => v.category).sum ≤ 8) (hdg : decode cc pc = .ok (.invokevirtual 54, 3)) (hf : cells + mc ≤ R.cells ∧ slots + ms ≤ R.slots) : va_Run p l e R s m args below meth c H locs cells slots mc ms (F0 m pc ls (a1 :: .ref b :: rest)) rest (Qc #[.ref b, a1]) (tm_A Hb) := tm_runV (n := 1) (As := [a1]) hexec hb hml hown htw hK hW hq (by decide) rfl ml_X4_54 im_X5_copy se_X5_copy in_X5 co_X5_copy (by decide +kernel) hM hrm rfl hsize rfl hrest hdg hf
theorem cs_X5_23 (hexec : p.tables.exec = Jvm.exec) (hb : c.code = cc) (hml : c.maxLocals = nL) (hown : s.vm.findClass RX5 = some m.cls) (htw : ∀ w ∈ tw, w.before args s = true) (hK : va_K G.1 vwCl (tm_tys G) s) (hW : tm_W G Hb sh M H) (hq : sh b = some (2, 0)) (hM : Met l yX0_copy (tws yX0_copy cX0_copy 2 none) rm (va_Pc [.ref b, a1] (tm_St G Hb sh M)) Qc mc ms (tm_A Hb)) (hrm : rm.cells = mc ∧ rm.slots = ms ∧ rm.frames + 1 ≤ R.frames ∧ 8 + (2 + 11) + rm.locals ≤ R.locals) (hsize : ls.size = nL) (hrest : (rest.map fun v => v.category).sum ≤ 8) (hdg : decode cc pc = .ok (.invokevirtual 23, 3)) (hf : cells + mc ≤ R.cells ∧ slots + ms ≤ R.slots) : va_Run p l e R s m args below meth c H locs cells slots mc ms (F0 m pc ls (a1 :: .ref b :: rest)) rest (Qc #[.ref b, a1]) (tm_A Hb) := tm_runV (n := 1) (As := [a1]) hexec hb hml hown htw hK hW hq (by decide) rfl ml_X5_23 im_X0_copy se_X0_copy in_X0 co_X0_copy (by decide +kernel) hM hrm rfl hsize rfl hrest hdg hf
theorem cs_X4_112 (hexec : p.tables.exec = Jvm.exec) (hb : c.code = cc) (hml : c.maxLocals = nL) (hown : s.vm.findClass RX4 = some m.cls) (htw : ∀ w ∈ tw, w.before args s = true) (hK : va_K G.1 vwCl (tm_tys G) s) (hW : tm_W G Hb sh M H) (hq : sh b = some (5, 0)) (hM : Met l yX4_readNumber (tws yX4_readNumber cX4_readNumber 4 (some .boolean)) rm (va_Pc [.ref b, a1] (tm_St G Hb sh M)) Qc mc ms (tm_A Hb)) (hrm : rm.cells = mc ∧ rm.slots = ms ∧ rm.frames + 1 ≤ R.frames ∧ 8 + (4 + 11) + rm.locals ≤ R.locals) (hsize : ls.size = nL) (hrest : (rest.map fun v => v.category).sum ≤ 8) (hdg : decode cc pc = .ok (.invokevirtual 112, 3)) (hf : cells + mc ≤ R.cells ∧ slots + ms ≤ R.slots) : va_Run p l e R s m args below meth c H locs cells slots mc ms (F0 m pc ls (a1 :: .ref b :: rest)) rest (Qc #[.ref b, a1]) (tm_A Hb) := tm_runV (n := 1) (As := [a1]) hexec hb hml hown htw hK hW hq (by decide) rfl ml_X4_112 im_X4_readNumber se_X4_readNumber in_X4 co_X4_readNumber (by decide +kernel) hM hrm rfl hsize rfl hrest hdg hf
theorem cs_X4_132 (hexec : p.tables.exec = Jvm.exec) (hb : c.code = cc) (hml : c.maxLocals = nL) (hown : s.vm.findClass RX4 = some m.cls) (htw : ∀ w ∈ tw, w.before args s = true) (hK : va_K G.1 vwCl (tm_tys G) s) (hW : tm_W G Hb sh M H) (hM : Met l yX4_isDigit (tws yX4_isDigit cX4_isDigit 1 (some .boolean)) rm (va_Pc [a1] (tm_St G Hb sh M)) Qc mc ms (tm_A Hb)) (hrm : rm.cells = mc ∧ rm.slots = ms ∧ rm.frames + 1 ≤ R.frames ∧ 8 + (1 + 11) + rm.locals ≤ R.locals) (hsize : ls.size = nL) (hrest : (rest.map fun v => v.category).sum ≤ 8) (hdg : decode cc pc = .ok (.invokestatic 132, 3)) (hf : cells + mc ≤ R.cells ∧ slots + ms ≤ R.slots) : va_Run p l e R s m args below meth c H locs cells slots mc ms (F0 m pc ls (a1 :: rest)) rest (Qc #[a1]) (tm_A Hb) := tm_runS (n := 1) (As := [a1]) hexec hb hml hown htw hK hW ml_X4_132 st_X4_isDigit in_X4 co_X4_isDigit (by decide +kernel) hM hrm rfl hsize rfl hrest hdg hf
theorem cs_X4_94 (hexec : p.tables.exec = Jvm.exec) (hb : c.code = cc) (hml : c.maxLocals = nL) (hown : s.vm.findClass RX4 = some m.cls) (htw : ∀ w ∈ tw, w.before args s = true) (hK : va_K G.1 vwCl (tm_tys G) s) (hW : tm_W G Hb sh M H) (hq : sh b = some (5, 0)) (hM : Met l yX4_multiply (tws yX4_multiply cX4_multiply 3 (some .boolean)) rm (va_Pc [.ref b, a1, a2] (tm_St G Hb sh M)) Qc mc ms (tm_A Hb)) (hrm : rm.cells = mc ∧ rm.slots = ms ∧ rm.frames + 1 ≤ R.frames ∧ 8 + (3 + 11) + rm.locals ≤ R.locals) (hsize : ls.size = nL) (hrest : (rest.map fun v => v.category).sum ≤ 8) (hdg : decode cc pc = .ok (.invokevirtual 94, 3)) (hf : cells + mc ≤ R.cells ∧ slots + ms ≤ R.slots) : va_Run p l e R s m args below meth c H locs cells slots mc ms (F0 m pc ls (a2 :: a1 :: .ref b :: rest)) rest (Qc #[.ref b, a1, a2]) (tm_A Hb) := tm_runV (n := 2) (As := [a1, a2]) hexec hb hml hown htw hK hW hq (by decide) rfl ml_X4_94 im_X4_multiply se_X4_multiply in_X4 co_X4_multiply (by decide +kernel) hM hrm rfl hsize rfl hrest hdg hf
theorem cs_X4_105 (hexec : p.tables.exec = Jvm.exec) (hb : c.code = cc) (hml : c.maxLocals = nL) (hown : s.vm.findClass RX4 = some m.cls) (htw : ∀ w ∈ tw, w.before args s = true) (hK : va_K G.1 vwCl (tm_tys G) s) (hW : tm_W G Hb sh M H) (hq : sh b = some (2, 0)) (hM : Met l yX0_isZero (tws yX0_isZero cX0_isZero 1 (some .boolean)) rm (va_Pc [.ref b] (tm_St G Hb sh M)) Qc mc ms (tm_A Hb)) (hrm : rm.cells = mc ∧ rm.slots = ms ∧ rm.frames + 1 ≤ R.frames ∧ 8 + (1 + 11) + rm.locals ≤ R.locals) (hsize : ls.size = nL) (hrest : (rest.map fun v => v.category).sum ≤ 8) (hdg : decode cc pc = .ok (.invokevirtual 105, 3)) (hf : cells + mc ≤ R.cells ∧ slots + ms ≤ R.slots) : va_Run p l e R s m args below meth c H locs cells slots mc ms (F0 m pc ls (.ref b :: rest)) rest (Qc #[.ref b]) (tm_A Hb) := tm_runV (n := 0) (As := []) hexec hb hml hown htw hK hW hq (by decide) rfl ml_X4_105 im_X0_isZero se_X0_isZero in_X0 co_X0_isZero (by decide +kernel) hM hrm rfl hsize rfl hrest hdg hf
theorem cs_X4_110 (hexec : p.tables.exec = Jvm.exec) (hb : c.code = cc) (hml : c.maxLocals = nL) (hown : s.vm.findClass RX4 = some m.cls) (htw : ∀ w ∈ tw, w.before args s = true) (hK : va_K G.1 vwCl (tm_tys G) s) (hW : tm_W G Hb sh M H) (hq : sh b = some (6, 0)) (hM : Met l yX5_multiply (tws yX5_multiply cX5_multiply 2 none) rm (va_Pc [.ref b, a1] (tm_St G Hb sh M)) Qc mc ms (tm_A Hb)) (hrm : rm.cells = mc ∧ rm.slots = ms ∧ rm.frames + 1 ≤ R.frames ∧ 8 + (2 + 11) + rm.locals ≤ R.locals) (hsize : ls.size = nL) (hrest : (rest.map fun v => v.category).sum ≤ 8) (hdg : decode cc pc = .ok (.invokevirtual 110, 3)) (hf : cells + mc ≤ R.cells ∧ slots + ms ≤ R.slots) : va_Run p l e R s m args below meth c H locs cells slots mc ms (F0 m pc ls (a1 :: .ref b :: rest)) rest (Qc #[.ref b, a1]) (tm_A Hb) := tm_runV (n := 1) (As := [a1]) hexec hb hml hown htw hK hW hq (by decide) rfl ml_X4_110 im_X5_multiply se_X5_multiply in_X5 co_X5_multiply (by decide +kernel) hM hrm rfl hsize rfl hrest hdg hf
theorem cs_X5_37 (hexec : p.tables.exec = Jvm.exec) (hb : c.code = cc) (hml : c.maxLocals = nL) (hown : s.vm.findClass RX5 = some m.cls) (htw : ∀ w ∈ tw, w.before args s = true) (hK : va_K G.1 vwCl (tm_tys G) s) (hW : tm_W G Hb sh M H) (hq : sh b = some (2, 0)) (hM : Met l yX0_isZero (tws yX0_isZero cX0_isZero 1 (some .boolean)) rm (va_Pc [.ref b] (tm_St G Hb sh M)) Qc mc ms (tm_A Hb)) (hrm : rm.cells = mc ∧ rm.slots = ms ∧ rm.frames + 1 ≤ R.frames ∧ 8 + (1 + 11) + rm.locals ≤ R.locals) (hsize : ls.size = nL) (hrest : (rest.map fun v => v.category).sum ≤ 8) (hdg : decode cc pc = .ok (.invokevirtual 37, 3)) (hf : cells + mc ≤ R.cells ∧ slots + ms ≤ R.slots) : va_Run p l e R s m args below meth c H locs cells slots mc ms (F0 m pc ls (.ref b :: rest)) rest (Qc #[.ref b]) (tm_A Hb) := tm_runV (n := 0) (As := []) hexec hb hml hown htw hK hW hq (by decide) rfl ml_X5_37 im_X0_isZero se_X0_isZero in_X0 co_X0_isZero (by decide +kernel) hM hrm rfl hsize rfl hrest hdg hf
theorem cs_X5_41 (hexec : p.tables.exec = Jvm.exec) (hb : c.code = cc) (hml : c.maxLocals = nL) (hown : s.vm.findClass RX5 = some m.cls) (htw : ∀ w ∈ tw, w.before args s = true) (hK : va_K G.1 vwCl (tm_tys G) s) (hW : tm_W G Hb sh M H) (hq : sh b = some (2, 0)) (hM : Met l yX0_setProduct (tws yX0_setProduct cX0_setProduct 3 none) rm (va_Pc [.ref b, a1, a2] (tm_St G Hb sh M)) Qc mc ms (tm_A Hb)) (hrm : rm.cells = mc ∧ rm.slots = ms ∧ rm.frames + 1 ≤ R.frames ∧ 8 + (3 + 11) + rm.locals ≤ R.locals) (hsize : ls.size = nL) (hrest : (rest.map fun v => v.category).sum ≤ 8) (hdg : decode cc pc = .ok (.invokevirtual 41, 3)) (hf : cells + mc ≤ R.cells ∧ slots + ms ≤ R.slots) : va_Run p l e R s m args below meth c H locs cells slots mc ms (F0 m pc ls (a2 :: a1 :: .ref b :: rest)) rest (Qc #[.ref b, a1, a2]) (tm_A Hb) := tm_runV (n := 2) (As := [a1, a2]) hexec hb hml hown htw hK hW hq (by decide) rfl ml_X5_41 im_X0_setProduct se_X0_setProduct in_X0 co_X0_setProduct (by decide +kernel) hM hrm rfl hsize rfl hrest hdg hf
theorem cs_X0_20 (hexec : p.tables.exec = Jvm.exec) (hb : c.code = cc) (hml : c.maxLocals = nL) (hown : s.vm.findClass RX0 = some m.cls) (htw : ∀ w ∈ tw, w.before args s = true) (hK : va_K G.1 vwCl (tm_tys G) s) (hW : tm_W G Hb sh M H) (hq : sh b = some (2, 0)) (hM : Met l yX0_set (tws yX0_set cX0_set 12 none) rm (va_Pc [.ref b, a1, a2] (tm_St G Hb sh M)) Qc mc ms (tm_A Hb)) (hrm : rm.cells = mc ∧ rm.slots = ms ∧ rm.frames + 1 ≤ R.frames ∧ 8 + (12 + 11) + rm.locals ≤ R.locals) (hsize : ls.size = nL) (hrest : (rest.map fun v => v.category).sum ≤ 8) (hdg : decode cc pc = .ok (.invokevirtual 20, 3)) (hf : cells + mc ≤ R.cells ∧ slots + ms ≤ R.slots) : va_Run p l e R s m args below meth c H locs cells slots mc ms (F0 m pc ls (a2 :: a1 :: .ref b :: rest)) rest (Qc #[.ref b, a1, a2]) (tm_A Hb) := tm_runV (n := 2) (As := [a1, a2]) hexec hb hml hown htw hK hW hq (by decide) rfl ml_X0_20 im_X0_set se_X0_set in_X0 co_X0_set (by decide +kernel) hM hrm rfl hsize rfl hrest hdg hf
theorem cs_X0_13 (hexec : p.tables.exec = Jvm.exec) (hb : c.code = cc) (hml : c.maxLocals = nL) (hown : s.vm.findClass RX0 = some m.cls) (htw : ∀ w ∈ tw, w.before args s = true) (hK : va_K G.1 vwCl (tm_tys G) s) (hW : tm_W G Hb sh M H) (hq : sh b = some (2, 0)) (hM : Met l yX0_setWhole (tws yX0_setWhole cX0_setWhole 3 none) rm (va_Pc [.ref b, a1] (tm_St G Hb sh M)) Qc mc ms (tm_A Hb)) (hrm : rm.cells = mc ∧ rm.slots = ms ∧ rm.frames + 1 ≤ R.frames ∧ 8 + (3 + 11) + rm.locals ≤ R.locals) (hsize : ls.size = nL) (hrest : (rest.map fun v => v.category).sum ≤ 8) (hdg : decode cc pc = .ok (.invokevirtual 13, 3)) (hf : cells + mc ≤ R.cells ∧ slots + ms ≤ R.slots) : va_Run p l e R s m args below meth c H locs cells slots mc ms (F0 m pc ls (a1 :: .ref b :: rest)) rest (Qc #[.ref b, a1]) (tm_A Hb) := tm_runV (n := 1) (As := [a1]) hexec hb hml hown htw hK hW hq (by decide) rfl ml_X0_13 im_X0_setWhole se_X0_setWhole in_X0 co_X0_setWhole (by decide +kernel) hM hrm rfl hsize rfl hrest hdg hf
theorem cs_X4_98 (hexec : p.tables.exec = Jvm.exec) (hb : c.code = cc) (hml : c.maxLocals = nL) (hown : s.vm.findClass RX4 = some m.cls) (htw : ∀ w ∈ tw, w.before args s = true) (hK : va_K G.1 vwCl (tm_tys G) s) (hW : tm_W G Hb sh M H) (hq : sh b = some (5, 0)) (hM : Met l yX4_divide (tws yX4_divide cX4_divide 3 (some .boolean)) rm (va_Pc [.ref b, a1] (tm_St G Hb sh M)) Qc mc ms (tm_A Hb)) (hrm : rm.cells = mc ∧ rm.slots = ms ∧ rm.frames + 1 ≤ R.frames ∧ 8 + (3 + 11) + rm.locals ≤ R.locals) (hsize : ls.size = nL) (hrest : (rest.map fun v => v.category).sum ≤ 8) (hdg : decode cc pc = .ok (.invokevirtual 98, 3)) (hf : cells + mc ≤ R.cells ∧ slots + ms ≤ R.slots) : va_Run p l e R s m args below meth c H locs cells slots mc ms (F0 m pc ls (a1 :: .ref b :: rest)) rest (Qc #[.ref b, a1]) (tm_A Hb) := tm_runV (n := 1) (As := [a1]) hexec hb hml hown htw hK hW hq (by decide) rfl ml_X4_98 im_X4_divide se_X4_divide in_X4 co_X4_divide (by decide +kernel) hM hrm rfl hsize rfl hrest hdg hf
theorem cs_X4_122 (hexec : p.tables.exec = Jvm.exec) (hb : c.code = cc) (hml : c.maxLocals = nL) (hown : s.vm.findClass RX4 = some m.cls) (htw : ∀ w ∈ tw, w.before args s = true) (hK : va_K G.1 vwCl (tm_tys G) s) (hW : tm_W G Hb sh M H) (hq : sh b = some (6, 0)) (hM : Met l yX5_divide (tws yX5_divide cX5_divide 2 none) rm (va_Pc [.ref b, a1] (tm_St G Hb sh M)) Qc mc ms (tm_A Hb)) (hrm : rm.cells = mc ∧ rm.slots = ms ∧ rm.frames + 1 ≤ R.frames ∧ 8 + (2 + 11) + rm.locals ≤ R.locals) (hsize : ls.size = nL) (hrest : (rest.map fun v => v.category).sum ≤ 8) (hdg : decode cc pc = .ok (.invokevirtual 122, 3)) (hf : cells + mc ≤ R.cells ∧ slots + ms ≤ R.slots) : va_Run p l e R s m args below meth c H locs cells slots mc ms (F0 m pc ls (a1 :: .ref b :: rest)) rest (Qc #[.ref b, a1]) (tm_A Hb) := tm_runV (n := 1) (As := [a1]) hexec hb hml hown htw hK hW hq (by decide) rfl ml_X4_122 im_X5_divide se_X5_divide in_X5 co_X5_divide (by decide +kernel) hM hrm rfl hsize rfl hrest hdg hf
theorem cs_X5_44 (hexec : p.tables.exec = Jvm.exec) (hb : c.code = cc) (hml : c.maxLocals = nL) (hown : s.vm.findClass RX5 = some m.cls) (htw : ∀ w ∈ tw, w.before args s = true) (hK : va_K G.1 vwCl (tm_tys G) s) (hW : tm_W G Hb sh M H) (hq : sh b = some (2, 0)) (hM : Met l yX0_setQuotient (tws yX0_setQuotient cX0_setQuotient 3 none) rm (va_Pc [.ref b, a1, a2] (tm_St G Hb sh M)) Qc mc ms (tm_A Hb)) (hrm : rm.cells = mc ∧ rm.slots = ms ∧ rm.frames + 1 ≤ R.frames ∧ 8 + (3 + 11) + rm.locals ≤ R.locals) (hsize : ls.size = nL) (hrest : (rest.map fun v => v.category).sum ≤ 8) (hdg : decode cc pc = .ok (.invokevirtual 44, 3)) (hf : cells + mc ≤ R.cells ∧ slots + ms ≤ R.slots) : va_Run p l e R s m args below meth c H locs cells slots mc ms (F0 m pc ls (a2 :: a1 :: .ref b :: rest)) rest (Qc #[.ref b, a1, a2]) (tm_A Hb) := tm_runV (n := 2) (As := [a1, a2]) hexec hb hml hown htw hK hW hq (by decide) rfl ml_X5_44 im_X0_setQuotient se_X0_setQuotient in_X0 co_X0_setQuotient (by decide +kernel) hM hrm rfl hsize rfl hrest hdg hf
theorem cs_X4_87 (hexec : p.tables.exec = Jvm.exec) (hb : c.code = cc) (hml : c.maxLocals = nL) (hown : s.vm.findClass RX4 = some m.cls) (htw : ∀ w ∈ tw, w.before args s = true) (hK : va_K G.1 vwCl (tm_tys G) s) (hW : tm_W G Hb sh M H) (hq : sh b = some (6, 0)) (hM : Met l yX5_fits (tws yX5_fits cX5_fits 1 (some .boolean)) rm (va_Pc [.ref b] (tm_St G Hb sh M)) Qc mc ms (tm_A Hb)) (hrm : rm.cells = mc ∧ rm.slots = ms ∧ rm.frames + 1 ≤ R.frames ∧ 8 + (1 + 11) + rm.locals ≤ R.locals) (hsize : ls.size = nL) (hrest : (rest.map fun v => v.category).sum ≤ 8) (hdg : decode cc pc = .ok (.invokevirtual 87, 3)) (hf : cells + mc ≤ R.cells ∧ slots + ms ≤ R.slots) : va_Run p l e R s m args below meth c H locs cells slots mc ms (F0 m pc ls (.ref b :: rest)) rest (Qc #[.ref b]) (tm_A Hb) := tm_runV (n := 0) (As := []) hexec hb hml hown htw hK hW hq (by decide) rfl ml_X4_87 im_X5_fits se_X5_fits in_X5 co_X5_fits (by decide +kernel) hM hrm rfl hsize rfl hrest hdg hf
theorem cs_X5_51 (hexec : p.tables.exec = Jvm.exec) (hb : c.code = cc) (hml : c.maxLocals = nL) (hown : s.vm.findClass RX5 = some m.cls) (htw : ∀ w ∈ tw, w.before args s = true) (hK : va_K G.1 vwCl (tm_tys G) s) (hW : tm_W G Hb sh M H) (hq : sh b = some (2, 0)) (hM : Met l yX0_fits (tws yX0_fits cX0_fits 1 (some .boolean)) rm (va_Pc [.ref b] (tm_St G Hb sh M)) Qc mc ms (tm_A Hb)) (hrm : rm.cells = mc ∧ rm.slots = ms ∧ rm.frames + 1 ≤ R.frames ∧ 8 + (1 + 11) + rm.locals ≤ R.locals) (hsize : ls.size = nL) (hrest : (rest.map fun v => v.category).sum ≤ 8) (hdg : decode cc pc = .ok (.invokevirtual 51, 3)) (hf : cells + mc ≤ R.cells ∧ slots + ms ≤ R.slots) : va_Run p l e R s m args below meth c H locs cells slots mc ms (F0 m pc ls (.ref b :: rest)) rest (Qc #[.ref b]) (tm_A Hb) := tm_runV (n := 0) (As := []) hexec hb hml hown htw hK hW hq (by decide) rfl ml_X5_51 im_X0_fits se_X0_fits in_X0 co_X0_fits (by decide +kernel) hM hrm rfl hsize rfl hrest hdg hf
theorem cs_X4_78 (hexec : p.tables.exec = Jvm.exec) (hb : c.code = cc) (hml : c.maxLocals = nL) (hown : s.vm.findClass RX4 = some m.cls) (htw : ∀ w ∈ tw, w.before args s = true) (hK : va_K G.1 vwCl (tm_tys G) s) (hW : tm_W G Hb sh M H) (hq : sh b = some (6, 0)) (hM : Met l yX5_turnToOpposite (tws yX5_turnToOpposite cX5_turnToOpposite 1 none) rm (va_Pc [.ref b] (tm_St G Hb sh M)) Qc mc ms (tm_A Hb)) (hrm : rm.cells = mc ∧ rm.slots = ms ∧ rm.frames + 1 ≤ R.frames ∧ 8 + (1 + 11) + rm.locals ≤ R.locals) (hsize : ls.size = nL) (hrest : (rest.map fun v => v.category).sum ≤ 8) (hdg : decode cc pc = .ok (.invokevirtual 78, 3)) (hf : cells + mc ≤ R.cells ∧ slots + ms ≤ R.slots) : va_Run p l e R s m args below meth c H locs cells slots mc ms (F0 m pc ls (.ref b :: rest)) rest (Qc #[.ref b]) (tm_A Hb) := tm_runV (n := 0) (As := []) hexec hb hml hown htw hK hW hq (by decide) rfl ml_X4_78 im_X5_turnToOpposite se_X5_turnToOpposite in_X5 co_X5_turnToOpposite (by decide +kernel) hM hrm rfl hsize rfl hrest hdg hf
theorem cs_X5_27 (hexec : p.tables.exec = Jvm.exec) (hb : c.code = cc) (hml : c.maxLocals = nL) (hown : s.vm.findClass RX5 = some m.cls) (htw : ∀ w ∈ tw, w.before args s = true) (hK : va_K G.1 vwCl (tm_tys G) s) (hW : tm_W G Hb sh M H) (hq : sh b = some (2, 0)) (hM : Met l yX0_setOpposite (tws yX0_setOpposite cX0_setOpposite 2 none) rm (va_Pc [.ref b, a1] (tm_St G Hb sh M)) Qc mc ms (tm_A Hb)) (hrm : rm.cells = mc ∧ rm.slots = ms ∧ rm.frames + 1 ≤ R.frames ∧ 8 + (2 + 11) + rm.locals ≤ R.locals) (hsize : ls.size = nL) (hrest : (rest.map fun v => v.category).sum ≤ 8) (hdg : decode cc pc = .ok (.invokevirtual 27, 3)) (hf : cells + mc ≤ R.cells ∧ slots + ms ≤ R.slots) : va_Run p l e R s m args below meth c H locs cells slots mc ms (F0 m pc ls (a1 :: .ref b :: rest)) rest (Qc #[.ref b, a1]) (tm_A Hb) := tm_runV (n := 1) (As := [a1]) hexec hb hml hown htw hK hW hq (by decide) rfl ml_X5_27 im_X0_setOpposite se_X0_setOpposite in_X0 co_X0_setOpposite (by decide +kernel) hM hrm rfl hsize rfl hrest hdg hf
theorem cs_X4_81 (hexec : p.tables.exec = Jvm.exec) (hb : c.code = cc) (hml : c.maxLocals = nL) (hown : s.vm.findClass RX4 = some m.cls) (htw : ∀ w ∈ tw, w.before args s = true) (hK : va_K G.1 vwCl (tm_tys G) s) (hW : tm_W G Hb sh M H) (hq : sh b = some (6, 0)) (hM : Met l yX5_add (tws yX5_add cX5_add 2 none) rm (va_Pc [.ref b, a1] (tm_St G Hb sh M)) Qc mc ms (tm_A Hb)) (hrm : rm.cells = mc ∧ rm.slots = ms ∧ rm.frames + 1 ≤ R.frames ∧ 8 + (2 + 11) + rm.locals ≤ R.locals) (hsize : ls.size = nL) (hrest : (rest.map fun v => v.category).sum ≤ 8) (hdg : decode cc pc = .ok (.invokevirtual 81, 3)) (hf : cells + mc ≤ R.cells ∧ slots + ms ≤ R.slots) : va_Run p l e R s m args below meth c H locs cells slots mc ms (F0 m pc ls (a1 :: .ref b :: rest)) rest (Qc #[.ref b, a1]) (tm_A Hb) := tm_runV (n := 1) (As := [a1]) hexec hb hml hown htw hK hW hq (by decide) rfl ml_X4_81 im_X5_add se_X5_add in_X5 co_X5_add (by decide +kernel) hM hrm rfl hsize rfl hrest hdg hf
theorem cs_X5_30 (hexec : p.tables.exec = Jvm.exec) (hb : c.code = cc) (hml : c.maxLocals = nL) (hown : s.vm.findClass RX5 = some m.cls) (htw : ∀ w ∈ tw, w.before args s = true) (hK : va_K G.1 vwCl (tm_tys G) s) (hW : tm_W G Hb sh M H) (hq : sh b = some (2, 0)) (hM : Met l yX0_setSum (tws yX0_setSum cX0_setSum 3 none) rm (va_Pc [.ref b, a1, a2] (tm_St G Hb sh M)) Qc mc ms (tm_A Hb)) (hrm : rm.cells = mc ∧ rm.slots = ms ∧ rm.frames + 1 ≤ R.frames ∧ 8 + (3 + 11) + rm.locals ≤ R.locals) (hsize : ls.size = nL) (hrest : (rest.map fun v => v.category).sum ≤ 8) (hdg : decode cc pc = .ok (.invokevirtual 30, 3)) (hf : cells + mc ≤ R.cells ∧ slots + ms ≤ R.slots) : va_Run p l e R s m args below meth c H locs cells slots mc ms (F0 m pc ls (a2 :: a1 :: .ref b :: rest)) rest (Qc #[.ref b, a1, a2]) (tm_A Hb) := tm_runV (n := 2) (As := [a1, a2]) hexec hb hml hown htw hK hW hq (by decide) rfl ml_X5_30 im_X0_setSum se_X0_setSum in_X0 co_X0_setSum (by decide +kernel) hM hrm rfl hsize rfl hrest hdg hf
theorem cs_X4_84 (hexec : p.tables.exec = Jvm.exec) (hb : c.code = cc) (hml : c.maxLocals = nL) (hown : s.vm.findClass RX4 = some m.cls) (htw : ∀ w ∈ tw, w.before args s = true) (hK : va_K G.1 vwCl (tm_tys G) s) (hW : tm_W G Hb sh M H) (hq : sh b = some (6, 0)) (hM : Met l yX5_subtract (tws yX5_subtract cX5_subtract 2 none) rm (va_Pc [.ref b, a1] (tm_St G Hb sh M)) Qc mc ms (tm_A Hb)) (hrm : rm.cells = mc ∧ rm.slots = ms ∧ rm.frames + 1 ≤ R.frames ∧ 8 + (2 + 11) + rm.locals ≤ R.locals) (hsize : ls.size = nL) (hrest : (rest.map fun v => v.category).sum ≤ 8) (hdg : decode cc pc = .ok (.invokevirtual 84, 3)) (hf : cells + mc ≤ R.cells ∧ slots + ms ≤ R.slots) : va_Run p l e R s m args below meth c H locs cells slots mc ms (F0 m pc ls (a1 :: .ref b :: rest)) rest (Qc #[.ref b, a1]) (tm_A Hb) := tm_runV (n := 1) (As := [a1]) hexec hb hml hown htw hK hW hq (by decide) rfl ml_X4_84 im_X5_subtract se_X5_subtract in_X5 co_X5_subtract (by decide +kernel) hM hrm rfl hsize rfl hrest hdg hf
theorem cs_X5_34 (hexec : p.tables.exec = Jvm.exec) (hb : c.code = cc) (hml : c.maxLocals = nL) (hown : s.vm.findClass RX5 = some m.cls) (htw : ∀ w ∈ tw, w.before args s = true) (hK : va_K G.1 vwCl (tm_tys G) s) (hW : tm_W G Hb sh M H) (hq : sh b = some (2, 0)) (hM : Met l yX0_setDifference (tws yX0_setDifference cX0_setDifference 3 none) rm (va_Pc [.ref b, a1, a2] (tm_St G Hb sh M)) Qc mc ms (tm_A Hb)) (hrm : rm.cells = mc ∧ rm.slots = ms ∧ rm.frames + 1 ≤ R.frames ∧ 8 + (3 + 11) + rm.locals ≤ R.locals) (hsize : ls.size = nL) (hrest : (rest.map fun v => v.category).sum ≤ 8) (hdg : decode cc pc = .ok (.invokevirtual 34, 3)) (hf : cells + mc ≤ R.cells ∧ slots + ms ≤ R.slots) : va_Run p l e R s m args below meth c H locs cells slots mc ms (F0 m pc ls (a2 :: a1 :: .ref b :: rest)) rest (Qc #[.ref b, a1, a2]) (tm_A Hb) := tm_runV (n := 2) (As := [a1, a2]) hexec hb hml hown htw hK hW hq (by decide) rfl ml_X5_34 im_X0_setDifference se_X0_setDifference in_X0 co_X0_setDifference (by decide +kernel) hM hrm rfl hsize rfl hrest hdg hf
theorem cs_X4_58 (hexec : p.tables.exec = Jvm.exec) (hb : c.code = cc) (hml : c.maxLocals = nL) (hown : s.vm.findClass RX4 = some m.cls) (htw : ∀ w ∈ tw, w.before args s = true) (hK : va_K G.1 vwCl (tm_tys G) s) (hW : tm_W G Hb sh M H) (hq : sh b = some (5, 0)) (hM : Met l yX4_readRelation (tws yX4_readRelation cX4_readRelation 2 (some .boolean)) rm (va_Pc [.ref b, a1] (tm_St G Hb sh M)) Qc mc ms (tm_A Hb)) (hrm : rm.cells = mc ∧ rm.slots = ms ∧ rm.frames + 1 ≤ R.frames ∧ 8 + (2 + 11) + rm.locals ≤ R.locals) (hsize : ls.size = nL) (hrest : (rest.map fun v => v.category).sum ≤ 8) (hdg : decode cc pc = .ok (.invokevirtual 58, 3)) (hf : cells + mc ≤ R.cells ∧ slots + ms ≤ R.slots) : va_Run p l e R s m args below meth c H locs cells slots mc ms (F0 m pc ls (a1 :: .ref b :: rest)) rest (Qc #[.ref b, a1]) (tm_A Hb) := tm_runV (n := 1) (As := [a1]) hexec hb hml hown htw hK hW hq (by decide) rfl ml_X4_58 im_X4_readRelation se_X4_readRelation in_X4 co_X4_readRelation (by decide +kernel) hM hrm rfl hsize rfl hrest hdg hf
theorem cs_X8_77 (hexec : p.tables.exec = Jvm.exec) (hb : c.code = cc) (hml : c.maxLocals = nL) (hown : s.vm.findClass RX8 = some m.cls) (htw : ∀ w ∈ tw, w.before args s = true) (hK : va_K G.1 vwCl (tm_tys G) s) (hW : tm_W G Hb sh M H) (hq : sh b = some (8, 0)) (hM : Met l yX8_append (tws yX8_append cX8_append 2 none) rm (va_Pc [.ref b, a1] (tm_St G Hb sh M)) Qc mc ms (tm_A Hb)) (hrm : rm.cells = mc ∧ rm.slots = ms ∧ rm.frames + 1 ≤ R.frames ∧ 8 + (2 + 11) + rm.locals ≤ R.locals) (hsize : ls.size = nL) (hrest : (rest.map fun v => v.category).sum ≤ 8) (hdg : decode cc pc = .ok (.invokevirtual 77, 3)) (hf : cells + mc ≤ R.cells ∧ slots + ms ≤ R.slots) : va_Run p l e R s m args below meth c H locs cells slots mc ms (F0 m pc ls (a1 :: .ref b :: rest)) rest (Qc #[.ref b, a1]) (tm_A Hb) := tm_runV (n := 1) (As := [a1]) hexec hb hml hown htw hK hW hq (by decide) rfl ml_X8_77 im_X8_append se_X8_append in_X8 co_X8_append (by decide +kernel) hM hrm rfl hsize rfl hrest hdg hf
theorem cs_X8_167 (hexec : p.tables.exec = Jvm.exec) (hb : c.code = cc) (hml : c.maxLocals = nL) (hown : s.vm.findClass RX8 = some m.cls) (htw : ∀ w ∈ tw, w.before args s = true) (hK : va_K G.1 vwCl (tm_tys G) s) (hW : tm_W G Hb sh M H) (hq : sh b = some (3, 0)) (hM : Met l yX1_copy (tws yX1_copy cX1_copy 2 none) rm (va_Pc [.ref b, a1] (tm_St G Hb sh M)) Qc mc ms (tm_A Hb)) (hrm : rm.cells = mc ∧ rm.slots = ms ∧ rm.frames + 1 ≤ R.frames ∧ 8 + (2 + 11) + rm.locals ≤ R.locals) (hsize : ls.size = nL) (hrest : (rest.map fun v => v.category).sum ≤ 8) (hdg : decode cc pc = .ok (.invokevirtual 167, 3)) (hf : cells + mc ≤ R.cells ∧ slots + ms ≤ R.slots) : va_Run p l e R s m args below meth c H locs cells slots mc ms (F0 m pc ls (a1 :: .ref b :: rest)) rest (Qc #[.ref b, a1]) (tm_A Hb) := tm_runV (n := 1) (As := [a1]) hexec hb hml hown htw hK hW hq (by decide) rfl ml_X8_167 im_X1_copy se_X1_copy in_X1 co_X1_copy (by decide +kernel) hM hrm rfl hsize rfl hrest hdg hf
theorem cs_X1_19 (hexec : p.tables.exec = Jvm.exec) (hb : c.code = cc) (hml : c.maxLocals = nL) (hown : s.vm.findClass RX1 = some m.cls) (htw : ∀ w ∈ tw, w.before args s = true) (hK : va_K G.1 vwCl (tm_tys G) s) (hW : tm_W G Hb sh M H) (hq : sh b = some (6, 0)) (hM : Met l yX5_copy (tws yX5_copy cX5_copy 2 none) rm (va_Pc [.ref b, a1] (tm_St G Hb sh M)) Qc mc ms (tm_A Hb)) (hrm : rm.cells = mc ∧ rm.slots = ms ∧ rm.frames + 1 ≤ R.frames ∧ 8 + (2 + 11) + rm.locals ≤ R.locals) (hsize : ls.size = nL) (hrest : (rest.map fun v => v.category).sum ≤ 8) (hdg : decode cc pc = .ok (.invokevirtual 19, 3)) (hf : cells + mc ≤ R.cells ∧ slots + ms ≤ R.slots) : va_Run p l e R s m args below meth c H locs cells slots mc ms (F0 m pc ls (a1 :: .ref b :: rest)) rest (Qc #[.ref b, a1]) (tm_A Hb) := tm_runV (n := 1) (As := [a1]) hexec hb hml hown htw hK hW hq (by decide) rfl ml_X1_19 im_X5_copy se_X5_copy in_X5 co_X5_copy (by decide +kernel) hM hrm rfl hsize rfl hrest hdg hf
theorem cs_X8_81 (hexec : p.tables.exec = Jvm.exec) (hb : c.code = cc) (hml : c.maxLocals = nL) (hown : s.vm.findClass RX8 = some m.cls) (htw : ∀ w ∈ tw, w.before args s = true) (hK : va_K G.1 vwCl (tm_tys G) s) (hW : tm_W G Hb sh M H) (hq : sh b = some (8, 0)) (hM : Met l yX8_requireTask (tws yX8_requireTask cX8_requireTask 1 none) rm (va_Pc [.ref b] (tm_St G Hb sh M)) Qc mc ms (tm_A Hb)) (hrm : rm.cells = mc ∧ rm.slots = ms ∧ rm.frames + 1 ≤ R.frames ∧ 8 + (1 + 11) + rm.locals ≤ R.locals) (hsize : ls.size = nL) (hrest : (rest.map fun v => v.category).sum ≤ 8) (hdg : decode cc pc = .ok (.invokevirtual 81, 3)) (hf : cells + mc ≤ R.cells ∧ slots + ms ≤ R.slots) : va_Run p l e R s m args below meth c H locs cells slots mc ms (F0 m pc ls (.ref b :: rest)) rest (Qc #[.ref b]) (tm_A Hb) := tm_runV (n := 0) (As := []) hexec hb hml hown htw hK hW hq (by decide) rfl ml_X8_81 im_X8_requireTask se_X8_requireTask in_X8 co_X8_requireTask (by decide +kernel) hM hrm rfl hsize rfl hrest hdg hf
theorem cs_X8_84 (hexec : p.tables.exec = Jvm.exec) (hb : c.code = cc) (hml : c.maxLocals = nL) (hown : s.vm.findClass RX8 = some m.cls) (htw : ∀ w ∈ tw, w.before args s = true) (hK : va_K G.1 vwCl (tm_tys G) s) (hW : tm_W G Hb sh M H) (hq : sh b = some (8, 0)) (hM : Met l yX8_requireRoom (tws yX8_requireRoom cX8_requireRoom 1 none) rm (va_Pc [.ref b] (tm_St G Hb sh M)) Qc mc ms (tm_A Hb)) (hrm : rm.cells = mc ∧ rm.slots = ms ∧ rm.frames + 1 ≤ R.frames ∧ 8 + (1 + 11) + rm.locals ≤ R.locals) (hsize : ls.size = nL) (hrest : (rest.map fun v => v.category).sum ≤ 8) (hdg : decode cc pc = .ok (.invokevirtual 84, 3)) (hf : cells + mc ≤ R.cells ∧ slots + ms ≤ R.slots) : va_Run p l e R s m args below meth c H locs cells slots mc ms (F0 m pc ls (.ref b :: rest)) rest (Qc #[.ref b]) (tm_A Hb) := tm_runV (n := 0) (As := []) hexec hb hml hown htw hK hW hq (by decide) rfl ml_X8_84 im_X8_requireRoom se_X8_requireRoom in_X8 co_X8_requireRoom (by decide +kernel) hM hrm rfl hsize rfl hrest hdg hf
theorem cs_X8_87 (hexec : p.tables.exec = Jvm.exec) (hb : c.code = cc) (hml : c.maxLocals = nL) (hown : s.vm.findClass RX8 = some m.cls) (htw : ∀ w ∈ tw, w.before args s = true) (hK : va_K G.1 vwCl (tm_tys G) s) (hW : tm_W G Hb sh M H) (hq : sh b = some (8, 0)) (hM : Met l yX8_present (tws yX8_present cX8_present 1 (some (.object "TutorLines$Line"))) rm (va_Pc [.ref b] (tm_St G Hb sh M)) Qc mc ms (tm_A Hb)) (hrm : rm.cells = mc ∧ rm.slots = ms ∧ rm.frames + 1 ≤ R.frames ∧ 8 + (1 + 11) + rm.locals ≤ R.locals) (hsize : ls.size = nL) (hrest : (rest.map fun v => v.category).sum ≤ 8) (hdg : decode cc pc = .ok (.invokevirtual 87, 3)) (hf : cells + mc ≤ R.cells ∧ slots + ms ≤ R.slots) : va_Run p l e R s m args below meth c H locs cells slots mc ms (F0 m pc ls (.ref b :: rest)) rest (Qc #[.ref b]) (tm_A Hb) := tm_runV (n := 0) (As := []) hexec hb hml hown htw hK hW hq (by decide) rfl ml_X8_87 im_X8_present se_X8_present in_X8 co_X8_present (by decide +kernel) hM hrm rfl hsize rfl hrest hdg hf
theorem cs_X8_91 (hexec : p.tables.exec = Jvm.exec) (hb : c.code = cc) (hml : c.maxLocals = nL) (hown : s.vm.findClass RX8 = some m.cls) (htw : ∀ w ∈ tw, w.before args s = true) (hK : va_K G.1 vwCl (tm_tys G) s) (hW : tm_W G Hb sh M H) (hq : sh b = some (7, 0)) (hM : Met l yX7_find (tws yX7_find cX7_find 2 none) rm (va_Pc [.ref b, a1] (tm_St G Hb sh M)) Qc mc ms (tm_A Hb)) (hrm : rm.cells = mc ∧ rm.slots = ms ∧ rm.frames + 1 ≤ R.frames ∧ 8 + (2 + 11) + rm.locals ≤ R.locals) (hsize : ls.size = nL) (hrest : (rest.map fun v => v.category).sum ≤ 8) (hdg : decode cc pc = .ok (.invokevirtual 91, 3)) (hf : cells + mc ≤ R.cells ∧ slots + ms ≤ R.slots) : va_Run p l e R s m args below meth c H locs cells slots mc ms (F0 m pc ls (a1 :: .ref b :: rest)) rest (Qc #[.ref b, a1]) (tm_A Hb) := tm_runV (n := 1) (As := [a1]) hexec hb hml hown htw hK hW hq (by decide) rfl ml_X8_91 im_X7_find se_X7_find in_X7 co_X7_find (by decide +kernel) hM hrm rfl hsize rfl hrest hdg hf
theorem cs_X7_33 (hexec : p.tables.exec = Jvm.exec) (hb : c.code = cc) (hml : c.maxLocals = nL) (hown : s.vm.findClass RX7 = some m.cls) (htw : ∀ w ∈ tw, w.before args s = true) (hK : va_K G.1 vwCl (tm_tys G) s) (hW : tm_W G Hb sh M H) (hq : sh b = some (2, 0)) (hM : Met l yX0_setDifference (tws yX0_setDifference cX0_setDifference 3 none) rm (va_Pc [.ref b, a1, a2] (tm_St G Hb sh M)) Qc mc ms (tm_A Hb)) (hrm : rm.cells = mc ∧ rm.slots = ms ∧ rm.frames + 1 ≤ R.frames ∧ 8 + (3 + 11) + rm.locals ≤ R.locals) (hsize : ls.size = nL) (hrest : (rest.map fun v => v.category).sum ≤ 8) (hdg : decode cc pc = .ok (.invokevirtual 33, 3)) (hf : cells + mc ≤ R.cells ∧ slots + ms ≤ R.slots) : va_Run p l e R s m args below meth c H locs cells slots mc ms (F0 m pc ls (a2 :: a1 :: .ref b :: rest)) rest (Qc #[.ref b, a1, a2]) (tm_A Hb) := tm_runV (n := 2) (As := [a1, a2]) hexec hb hml hown htw hK hW hq (by decide) rfl ml_X7_33 im_X0_setDifference se_X0_setDifference in_X0 co_X0_setDifference (by decide +kernel) hM hrm rfl hsize rfl hrest hdg hf
theorem cs_X7_40 (hexec : p.tables.exec = Jvm.exec) (hb : c.code = cc) (hml : c.maxLocals = nL) (hown : s.vm.findClass RX7 = some m.cls) (htw : ∀ w ∈ tw, w.before args s = true) (hK : va_K G.1 vwCl (tm_tys G) s) (hW : tm_W G Hb sh M H) (hq : sh b = some (2, 0)) (hM : Met l yX0_isZero (tws yX0_isZero cX0_isZero 1 (some .boolean)) rm (va_Pc [.ref b] (tm_St G Hb sh M)) Qc mc ms (tm_A Hb)) (hrm : rm.cells = mc ∧ rm.slots = ms ∧ rm.frames + 1 ≤ R.frames ∧ 8 + (1 + 11) + rm.locals ≤ R.locals) (hsize : ls.size = nL) (hrest : (rest.map fun v => v.category).sum ≤ 8) (hdg : decode cc pc = .ok (.invokevirtual 40, 3)) (hf : cells + mc ≤ R.cells ∧ slots + ms ≤ R.slots) : va_Run p l e R s m args below meth c H locs cells slots mc ms (F0 m pc ls (.ref b :: rest)) rest (Qc #[.ref b]) (tm_A Hb) := tm_runV (n := 0) (As := []) hexec hb hml hown htw hK hW hq (by decide) rfl ml_X7_40 im_X0_isZero se_X0_isZero in_X0 co_X0_isZero (by decide +kernel) hM hrm rfl hsize rfl hrest hdg hf
theorem cs_X7_48 (hexec : p.tables.exec = Jvm.exec) (hb : c.code = cc) (hml : c.maxLocals = nL) (hown : s.vm.findClass RX7 = some m.cls) (htw : ∀ w ∈ tw, w.before args s = true) (hK : va_K G.1 vwCl (tm_tys G) s) (hW : tm_W G Hb sh M H) (hM : Met l yX7_isTrueOfZero (tws yX7_isTrueOfZero cX7_isTrueOfZero 2 (some .boolean)) rm (va_Pc [a1, a2] (tm_St G Hb sh M)) Qc mc ms (tm_A Hb)) (hrm : rm.cells = mc ∧ rm.slots = ms ∧ rm.frames + 1 ≤ R.frames ∧ 8 + (2 + 11) + rm.locals ≤ R.locals) (hsize : ls.size = nL) (hrest : (rest.map fun v => v.category).sum ≤ 8) (hdg : decode cc pc = .ok (.invokestatic 48, 3)) (hf : cells + mc ≤ R.cells ∧ slots + ms ≤ R.slots) : va_Run p l e R s m args below meth c H locs cells slots mc ms (F0 m pc ls (a2 :: a1 :: rest)) rest (Qc #[a1, a2]) (tm_A Hb) := tm_runS (n := 2) (As := [a1, a2]) hexec hb hml hown htw hK hW ml_X7_48 st_X7_isTrueOfZero in_X7 co_X7_isTrueOfZero (by decide +kernel) hM hrm rfl hsize rfl hrest hdg hf
theorem cs_X7_55 (hexec : p.tables.exec = Jvm.exec) (hb : c.code = cc) (hml : c.maxLocals = nL) (hown : s.vm.findClass RX7 = some m.cls) (htw : ∀ w ∈ tw, w.before args s = true) (hK : va_K G.1 vwCl (tm_tys G) s) (hW : tm_W G Hb sh M H) (hq : sh b = some (2, 0)) (hM : Met l yX0_setWhole (tws yX0_setWhole cX0_setWhole 3 none) rm (va_Pc [.ref b, a1] (tm_St G Hb sh M)) Qc mc ms (tm_A Hb)) (hrm : rm.cells = mc ∧ rm.slots = ms ∧ rm.frames + 1 ≤ R.frames ∧ 8 + (3 + 11) + rm.locals ≤ R.locals) (hsize : ls.size = nL) (hrest : (rest.map fun v => v.category).sum ≤ 8) (hdg : decode cc pc = .ok (.invokevirtual 55, 3)) (hf : cells + mc ≤ R.cells ∧ slots + ms ≤ R.slots) : va_Run p l e R s m args below meth c H locs cells slots mc ms (F0 m pc ls (a1 :: .ref b :: rest)) rest (Qc #[.ref b, a1]) (tm_A Hb) := tm_runV (n := 1) (As := [a1]) hexec hb hml hown htw hK hW hq (by decide) rfl ml_X7_55 im_X0_setWhole se_X0_setWhole in_X0 co_X0_setWhole (by decide +kernel) hM hrm rfl hsize rfl hrest hdg hf
theorem cs_X7_59 (hexec : p.tables.exec = Jvm.exec) (hb : c.code = cc) (hml : c.maxLocals = nL) (hown : s.vm.findClass RX7 = some m.cls) (htw : ∀ w ∈ tw, w.before args s = true) (hK : va_K G.1 vwCl (tm_tys G) s) (hW : tm_W G Hb sh M H) (hq : sh b = some (2, 0)) (hM : Met l yX0_setQuotient (tws yX0_setQuotient cX0_setQuotient 3 none) rm (va_Pc [.ref b, a1, a2] (tm_St G Hb sh M)) Qc mc ms (tm_A Hb)) (hrm : rm.cells = mc ∧ rm.slots = ms ∧ rm.frames + 1 ≤ R.frames ∧ 8 + (3 + 11) + rm.locals ≤ R.locals) (hsize : ls.size = nL) (hrest : (rest.map fun v => v.category).sum ≤ 8) (hdg : decode cc pc = .ok (.invokevirtual 59, 3)) (hf : cells + mc ≤ R.cells ∧ slots + ms ≤ R.slots) : va_Run p l e R s m args below meth c H locs cells slots mc ms (F0 m pc ls (a2 :: a1 :: .ref b :: rest)) rest (Qc #[.ref b, a1, a2]) (tm_A Hb) := tm_runV (n := 2) (As := [a1, a2]) hexec hb hml hown htw hK hW hq (by decide) rfl ml_X7_59 im_X0_setQuotient se_X0_setQuotient in_X0 co_X0_setQuotient (by decide +kernel) hM hrm rfl hsize rfl hrest hdg hf
theorem cs_X8_94 (hexec : p.tables.exec = Jvm.exec) (hb : c.code = cc) (hml : c.maxLocals = nL) (hown : s.vm.findClass RX8 = some m.cls) (htw : ∀ w ∈ tw, w.before args s = true) (hK : va_K G.1 vwCl (tm_tys G) s) (hW : tm_W G Hb sh M H) (hq : sh b = some (7, 0)) (hM : Met l yX7_judge (tws yX7_judge cX7_judge 2 (some .int)) rm (va_Pc [.ref b, a1] (tm_St G Hb sh M)) Qc mc ms (tm_A Hb)) (hrm : rm.cells = mc ∧ rm.slots = ms ∧ rm.frames + 1 ≤ R.frames ∧ 8 + (2 + 11) + rm.locals ≤ R.locals) (hsize : ls.size = nL) (hrest : (rest.map fun v => v.category).sum ≤ 8) (hdg : decode cc pc = .ok (.invokevirtual 94, 3)) (hf : cells + mc ≤ R.cells ∧ slots + ms ≤ R.slots) : va_Run p l e R s m args below meth c H locs cells slots mc ms (F0 m pc ls (a1 :: .ref b :: rest)) rest (Qc #[.ref b, a1]) (tm_A Hb) := tm_runV (n := 1) (As := [a1]) hexec hb hml hown htw hK hW hq (by decide) rfl ml_X8_94 im_X7_judge se_X7_judge in_X7 co_X7_judge (by decide +kernel) hM hrm rfl hsize rfl hrest hdg hf
theorem cs_X7_74 (hexec : p.tables.exec = Jvm.exec) (hb : c.code = cc) (hml : c.maxLocals = nL) (hown : s.vm.findClass RX7 = some m.cls) (htw : ∀ w ∈ tw, w.before args s = true) (hK : va_K G.1 vwCl (tm_tys G) s) (hW : tm_W G Hb sh M H) (hq : sh b = some (7, 0)) (hM : Met l yX7_isPartOf (tws yX7_isPartOf cX7_isPartOf 3 (some .boolean)) rm (va_Pc [.ref b, a1] (tm_St G Hb sh M)) Qc mc ms (tm_A Hb)) (hrm : rm.cells = mc ∧ rm.slots = ms ∧ rm.frames + 1 ≤ R.frames ∧ 8 + (3 + 11) + rm.locals ≤ R.locals) (hsize : ls.size = nL) (hrest : (rest.map fun v => v.category).sum ≤ 8) (hdg : decode cc pc = .ok (.invokevirtual 74, 3)) (hf : cells + mc ≤ R.cells ∧ slots + ms ≤ R.slots) : va_Run p l e R s m args below meth c H locs cells slots mc ms (F0 m pc ls (a1 :: .ref b :: rest)) rest (Qc #[.ref b, a1]) (tm_A Hb) := tm_runV (n := 1) (As := [a1]) hexec hb hml hown htw hK hW hq (by decide) rfl ml_X7_74 im_X7_isPartOf se_X7_isPartOf in_X7 co_X7_isPartOf (by decide +kernel) hM hrm rfl hsize rfl hrest hdg hf
theorem cs_X7_78 (hexec : p.tables.exec = Jvm.exec) (hb : c.code = cc) (hml : c.maxLocals = nL) (hown : s.vm.findClass RX7 = some m.cls) (htw : ∀ w ∈ tw, w.before args s = true) (hK : va_K G.1 vwCl (tm_tys G) s) (hW : tm_W G Hb sh M H) (hq : sh b = some (7, 0)) (hM : Met l yX7_holds (tws yX7_holds cX7_holds 2 (some .boolean)) rm (va_Pc [.ref b, a1] (tm_St G Hb sh M)) Qc mc ms (tm_A Hb)) (hrm : rm.cells = mc ∧ rm.slots = ms ∧ rm.frames + 1 ≤ R.frames ∧ 8 + (2 + 11) + rm.locals ≤ R.locals) (hsize : ls.size = nL) (hrest : (rest.map fun v => v.category).sum ≤ 8) (hdg : decode cc pc = .ok (.invokevirtual 78, 3)) (hf : cells + mc ≤ R.cells ∧ slots + ms ≤ R.slots) : va_Run p l e R s m args below meth c H locs cells slots mc ms (F0 m pc ls (a1 :: .ref b :: rest)) rest (Qc #[.ref b, a1]) (tm_A Hb) := tm_runV (n := 1) (As := [a1]) hexec hb hml hown htw hK hW hq (by decide) rfl ml_X7_78 im_X7_holds se_X7_holds in_X7 co_X7_holds (by decide +kernel) hM hrm rfl hsize rfl hrest hdg hf
theorem cs_X7_66 (hexec : p.tables.exec = Jvm.exec) (hb : c.code = cc) (hml : c.maxLocals = nL) (hown : s.vm.findClass RX7 = some m.cls) (htw : ∀ w ∈ tw, w.before args s = true) (hK : va_K G.1 vwCl (tm_tys G) s) (hW : tm_W G Hb sh M H) (hq : sh b = some (2, 0)) (hM : Met l yX0_sameAs (tws yX0_sameAs cX0_sameAs 2 (some .boolean)) rm (va_Pc [.ref b, a1] (tm_St G Hb sh M)) Qc mc ms (tm_A Hb)) (hrm : rm.cells = mc ∧ rm.slots = ms ∧ rm.frames + 1 ≤ R.frames ∧ 8 + (2 + 11) + rm.locals ≤ R.locals) (hsize : ls.size = nL) (hrest : (rest.map fun v => v.category).sum ≤ 8) (hdg : decode cc pc = .ok (.invokevirtual 66, 3)) (hf : cells + mc ≤ R.cells ∧ slots + ms ≤ R.slots) : va_Run p l e R s m args below meth c H locs cells slots mc ms (F0 m pc ls (a1 :: .ref b :: rest)) rest (Qc #[.ref b, a1]) (tm_A Hb) := tm_runV (n := 1) (As := [a1]) hexec hb hml hown htw hK hW hq (by decide) rfl ml_X7_66 im_X0_sameAs se_X0_sameAs in_X0 co_X0_sameAs (by decide +kernel) hM hrm rfl hsize rfl hrest hdg hf
theorem cs_X7_70 (hexec : p.tables.exec = Jvm.exec) (hb : c.code = cc) (hml : c.maxLocals = nL) (hown : s.vm.findClass RX7 = some m.cls) (htw : ∀ w ∈ tw, w.before args s = true) (hK : va_K G.1 vwCl (tm_tys G) s) (hW : tm_W G Hb sh M H) (hq : sh b = some (2, 0)) (hM : Met l yX0_compareWith (tws yX0_compareWith cX0_compareWith 20 (some .int)) rm (va_Pc [.ref b, a1] (tm_St G Hb sh M)) Qc mc ms (tm_A Hb)) (hrm : rm.cells = mc ∧ rm.slots = ms ∧ rm.frames + 1 ≤ R.frames ∧ 8 + (20 + 11) + rm.locals ≤ R.locals) (hsize : ls.size = nL) (hrest : (rest.map fun v => v.category).sum ≤ 8) (hdg : decode cc pc = .ok (.invokevirtual 70, 3)) (hf : cells + mc ≤ R.cells ∧ slots + ms ≤ R.slots) : va_Run p l e R s m args below meth c H locs cells slots mc ms (F0 m pc ls (a1 :: .ref b :: rest)) rest (Qc #[.ref b, a1]) (tm_A Hb) := tm_runV (n := 1) (As := [a1]) hexec hb hml hown htw hK hW hq (by decide) rfl ml_X7_70 im_X0_compareWith se_X0_compareWith in_X0 co_X0_compareWith (by decide +kernel) hM hrm rfl hsize rfl hrest hdg hf
theorem cs_X0_28 (hexec : p.tables.exec = Jvm.exec) (hb : c.code = cc) (hml : c.maxLocals = nL) (hown : s.vm.findClass RX0 = some m.cls) (htw : ∀ w ∈ tw, w.before args s = true) (hK : va_K G.1 vwCl (tm_tys G) s) (hW : tm_W G Hb sh M H) (hM : Met l yJ9_floorDiv_f86c9 (tws yJ9_floorDiv_f86c9 cJ9_floorDiv_f86c9 6 (some .long)) rm (va_Pc [a1, a2] (tm_St G Hb sh M)) Qc mc ms (tm_A Hb)) (hrm : rm.cells = mc ∧ rm.slots = ms ∧ rm.frames + 1 ≤ R.frames ∧ 8 + (6 + 11) + rm.locals ≤ R.locals) (hsize : ls.size = nL) (hrest : (rest.map fun v => v.category).sum ≤ 8) (hdg : decode cc pc = .ok (.invokestatic 28, 3)) (hf : cells + mc ≤ R.cells ∧ slots + ms ≤ R.slots) : va_Run p l e R s m args below meth c H locs cells slots mc ms (F0 m pc ls (a2 :: a1 :: rest)) rest (Qc #[a1, a2]) (tm_A Hb) := tm_runS (n := 2) (As := [a1, a2]) hexec hb hml hown htw hK hW ml_X0_28 st_J9_floorDiv_f86c9 in_J9 co_J9_floorDiv_f86c9 (by decide +kernel) hM hrm rfl hsize rfl hrest hdg hf
theorem cs_X0_34 (hexec : p.tables.exec = Jvm.exec) (hb : c.code = cc) (hml : c.maxLocals = nL) (hown : s.vm.findClass RX0 = some m.cls) (htw : ∀ w ∈ tw, w.before args s = true) (hK : va_K G.1 vwCl (tm_tys G) s) (hW : tm_W G Hb sh M H) (hM : Met l yJ13_compare_74951 (tws yJ13_compare_74951 cJ13_compare_74951 4 (some .int)) rm (va_Pc [a1, a2] (tm_St G Hb sh M)) Qc mc ms (tm_A Hb)) (hrm : rm.cells = mc ∧ rm.slots = ms ∧ rm.frames + 1 ≤ R.frames ∧ 8 + (4 + 11) + rm.locals ≤ R.locals) (hsize : ls.size = nL) (hrest : (rest.map fun v => v.category).sum ≤ 8) (hdg : decode cc pc = .ok (.invokestatic 34, 3)) (hf : cells + mc ≤ R.cells ∧ slots + ms ≤ R.slots) : va_Run p l e R s m args below meth c H locs cells slots mc ms (F0 m pc ls (a2 :: a1 :: rest)) rest (Qc #[a1, a2]) (tm_A Hb) := tm_runS (n := 2) (As := [a1, a2]) hexec hb hml hown htw hK hW ml_X0_34 st_J13_compare_74951 in_J13 co_J13_compare_74951 (by decide +kernel) hM hrm rfl hsize rfl hrest hdg hf
theorem cs_X8_98 (hexec : p.tables.exec = Jvm.exec) (hb : c.code = cc) (hml : c.maxLocals = nL) (hown : s.vm.findClass RX8 = some m.cls) (htw : ∀ w ∈ tw, w.before args s = true) (hK : va_K G.1 vwCl (tm_tys G) s) (hW : tm_W G Hb sh M H) (hq : sh b = some (8, 0)) (hM : Met l yX8_accept (tws yX8_accept cX8_accept 2 none) rm (va_Pc [.ref b] (tm_St G Hb sh M)) Qc mc ms (tm_A Hb)) (hrm : rm.cells = mc ∧ rm.slots = ms ∧ rm.frames + 1 ≤ R.frames ∧ 8 + (2 + 11) + rm.locals ≤ R.locals) (hsize : ls.size = nL) (hrest : (rest.map fun v => v.category).sum ≤ 8) (hdg : decode cc pc = .ok (.invokevirtual 98, 3)) (hf : cells + mc ≤ R.cells ∧ slots + ms ≤ R.slots) : va_Run p l e R s m args below meth c H locs cells slots mc ms (F0 m pc ls (.ref b :: rest)) rest (Qc #[.ref b]) (tm_A Hb) := tm_runV (n := 0) (As := []) hexec hb hml hown htw hK hW hq (by decide) rfl ml_X8_98 im_X8_accept se_X8_accept in_X8 co_X8_accept (by decide +kernel) hM hrm rfl hsize rfl hrest hdg hf
theorem cs_X8_124 (hexec : p.tables.exec = Jvm.exec) (hb : c.code = cc) (hml : c.maxLocals = nL) (hown : s.vm.findClass RX8 = some m.cls) (htw : ∀ w ∈ tw, w.before args s = true) (hK : va_K G.1 vwCl (tm_tys G) s) (hW : tm_W G Hb sh M H) (hM : Met l yX3_write (tws yX3_write cX3_write 3 (some .int)) rm (va_Pc [a1, a2] (tm_St G Hb sh M)) Qc mc ms (tm_A Hb)) (hrm : rm.cells = mc ∧ rm.slots = ms ∧ rm.frames + 1 ≤ R.frames ∧ 8 + (3 + 11) + rm.locals ≤ R.locals) (hsize : ls.size = nL) (hrest : (rest.map fun v => v.category).sum ≤ 8) (hdg : decode cc pc = .ok (.invokestatic 124, 3)) (hf : cells + mc ≤ R.cells ∧ slots + ms ≤ R.slots) : va_Run p l e R s m args below meth c H locs cells slots mc ms (F0 m pc ls (a2 :: a1 :: rest)) rest (Qc #[a1, a2]) (tm_A Hb) := tm_runS (n := 2) (As := [a1, a2]) hexec hb hml hown htw hK hW ml_X8_124 st_X3_write in_X3 co_X3_write (by decide +kernel) hM hrm rfl hsize rfl hrest hdg hf
theorem cs_X3_7 (hexec : p.tables.exec = Jvm.exec) (hb : c.code = cc) (hml : c.maxLocals = nL) (hown : s.vm.findClass RX3 = some m.cls) (htw : ∀ w ∈ tw, w.before args s = true) (hK : va_K G.1 vwCl (tm_tys G) s) (hW : tm_W G Hb sh M H) (hM : Met l yX3_kindFor (tws yX3_kindFor cX3_kindFor 1 (some .int)) rm (va_Pc [a1] (tm_St G Hb sh M)) Qc mc ms (tm_A Hb)) (hrm : rm.cells = mc ∧ rm.slots = ms ∧ rm.frames + 1 ≤ R.frames ∧ 8 + (1 + 11) + rm.locals ≤ R.locals) (hsize : ls.size = nL) (hrest : (rest.map fun v => v.category).sum ≤ 8) (hdg : decode cc pc = .ok (.invokestatic 7, 3)) (hf : cells + mc ≤ R.cells ∧ slots + ms ≤ R.slots) : va_Run p l e R s m args below meth c H locs cells slots mc ms (F0 m pc ls (a1 :: rest)) rest (Qc #[a1]) (tm_A Hb) := tm_runS (n := 1) (As := [a1]) hexec hb hml hown htw hK hW ml_X3_7 st_X3_kindFor in_X3 co_X3_kindFor (by decide +kernel) hM hrm rfl hsize rfl hrest hdg hf
theorem cs_X3_53 (hexec : p.tables.exec = Jvm.exec) (hb : c.code = cc) (hml : c.maxLocals = nL) (hown : s.vm.findClass RX3 = some m.cls) (htw : ∀ w ∈ tw, w.before args s = true) (hK : va_K G.1 vwCl (tm_tys G) s) (hW : tm_W G Hb sh M H) (hq : sh b = some (2, 0)) (hM : Met l yX0_isZero (tws yX0_isZero cX0_isZero 1 (some .boolean)) rm (va_Pc [.ref b] (tm_St G Hb sh M)) Qc mc ms (tm_A Hb)) (hrm : rm.cells = mc ∧ rm.slots = ms ∧ rm.frames + 1 ≤ R.frames ∧ 8 + (1 + 11) + rm.locals ≤ R.locals) (hsize : ls.size = nL) (hrest : (rest.map fun v => v.category).sum ≤ 8) (hdg : decode cc pc = .ok (.invokevirtual 53, 3)) (hf : cells + mc ≤ R.cells ∧ slots + ms ≤ R.slots) : va_Run p l e R s m args below meth c H locs cells slots mc ms (F0 m pc ls (.ref b :: rest)) rest (Qc #[.ref b]) (tm_A Hb) := tm_runV (n := 0) (As := []) hexec hb hml hown htw hK hW hq (by decide) rfl ml_X3_53 im_X0_isZero se_X0_isZero in_X0 co_X0_isZero (by decide +kernel) hM hrm rfl hsize rfl hrest hdg hf
theorem cs_X3_56 (hexec : p.tables.exec = Jvm.exec) (hb : c.code = cc) (hml : c.maxLocals = nL) (hown : s.vm.findClass RX3 = some m.cls) (htw : ∀ w ∈ tw, w.before args s = true) (hK : va_K G.1 vwCl (tm_tys G) s) (hW : tm_W G Hb sh M H) (hq : sh b = some (2, 0)) (hM : Met l yX0_isWhole (tws yX0_isWhole cX0_isWhole 3 (some .boolean)) rm (va_Pc [.ref b, a1] (tm_St G Hb sh M)) Qc mc ms (tm_A Hb)) (hrm : rm.cells = mc ∧ rm.slots = ms ∧ rm.frames + 1 ≤ R.frames ∧ 8 + (3 + 11) + rm.locals ≤ R.locals) (hsize : ls.size = nL) (hrest : (rest.map fun v => v.category).sum ≤ 8) (hdg : decode cc pc = .ok (.invokevirtual 56, 3)) (hf : cells + mc ≤ R.cells ∧ slots + ms ≤ R.slots) : va_Run p l e R s m args below meth c H locs cells slots mc ms (F0 m pc ls (a1 :: .ref b :: rest)) rest (Qc #[.ref b, a1]) (tm_A Hb) := tm_runV (n := 1) (As := [a1]) hexec hb hml hown htw hK hW hq (by decide) rfl ml_X3_56 im_X0_isWhole se_X0_isWhole in_X0 co_X0_isWhole (by decide +kernel) hM hrm rfl hsize rfl hrest hdg hf
theorem cs_X3_13 (hexec : p.tables.exec = Jvm.exec) (hb : c.code = cc) (hml : c.maxLocals = nL) (hown : s.vm.findClass RX3 = some m.cls) (htw : ∀ w ∈ tw, w.before args s = true) (hK : va_K G.1 vwCl (tm_tys G) s) (hW : tm_W G Hb sh M H) (hq : sh b = some (3, 0)) (hM : Met l yX1_copy (tws yX1_copy cX1_copy 2 none) rm (va_Pc [.ref b, a1] (tm_St G Hb sh M)) Qc mc ms (tm_A Hb)) (hrm : rm.cells = mc ∧ rm.slots = ms ∧ rm.frames + 1 ≤ R.frames ∧ 8 + (2 + 11) + rm.locals ≤ R.locals) (hsize : ls.size = nL) (hrest : (rest.map fun v => v.category).sum ≤ 8) (hdg : decode cc pc = .ok (.invokevirtual 13, 3)) (hf : cells + mc ≤ R.cells ∧ slots + ms ≤ R.slots) : va_Run p l e R s m args below meth c H locs cells slots mc ms (F0 m pc ls (a1 :: .ref b :: rest)) rest (Qc #[.ref b, a1]) (tm_A Hb) := tm_runV (n := 1) (As := [a1]) hexec hb hml hown htw hK hW hq (by decide) rfl ml_X3_13 im_X1_copy se_X1_copy in_X1 co_X1_copy (by decide +kernel) hM hrm rfl hsize rfl hrest hdg hf
theorem cs_X3_32 (hexec : p.tables.exec = Jvm.exec) (hb : c.code = cc) (hml : c.maxLocals = nL) (hown : s.vm.findClass RX3 = some m.cls) (htw : ∀ w ∈ tw, w.before args s = true) (hK : va_K G.1 vwCl (tm_tys G) s) (hW : tm_W G Hb sh M H) (hq : sh b = some (2, 0)) (hM : Met l yX0_setDifference (tws yX0_setDifference cX0_setDifference 3 none) rm (va_Pc [.ref b, a1, a2] (tm_St G Hb sh M)) Qc mc ms (tm_A Hb)) (hrm : rm.cells = mc ∧ rm.slots = ms ∧ rm.frames + 1 ≤ R.frames ∧ 8 + (3 + 11) + rm.locals ≤ R.locals) (hsize : ls.size = nL) (hrest : (rest.map fun v => v.category).sum ≤ 8) (hdg : decode cc pc = .ok (.invokevirtual 32, 3)) (hf : cells + mc ≤ R.cells ∧ slots + ms ≤ R.slots) : va_Run p l e R s m args below meth c H locs cells slots mc ms (F0 m pc ls (a2 :: a1 :: .ref b :: rest)) rest (Qc #[.ref b, a1, a2]) (tm_A Hb) := tm_runV (n := 2) (As := [a1, a2]) hexec hb hml hown htw hK hW hq (by decide) rfl ml_X3_32 im_X0_setDifference se_X0_setDifference in_X0 co_X0_setDifference (by decide +kernel) hM hrm rfl hsize rfl hrest hdg hf
theorem cs_X3_38 (hexec : p.tables.exec = Jvm.exec) (hb : c.code = cc) (hml : c.maxLocals = nL) (hown : s.vm.findClass RX3 = some m.cls) (htw : ∀ w ∈ tw, w.before args s = true) (hK : va_K G.1 vwCl (tm_tys G) s) (hW : tm_W G Hb sh M H) (hq : sh b = some (2, 0)) (hM : Met l yX0_setWhole (tws yX0_setWhole cX0_setWhole 3 none) rm (va_Pc [.ref b, a1] (tm_St G Hb sh M)) Qc mc ms (tm_A Hb)) (hrm : rm.cells = mc ∧ rm.slots = ms ∧ rm.frames + 1 ≤ R.frames ∧ 8 + (3 + 11) + rm.locals ≤ R.locals) (hsize : ls.size = nL) (hrest : (rest.map fun v => v.category).sum ≤ 8) (hdg : decode cc pc = .ok (.invokevirtual 38, 3)) (hf : cells + mc ≤ R.cells ∧ slots + ms ≤ R.slots) : va_Run p l e R s m args below meth c H locs cells slots mc ms (F0 m pc ls (a1 :: .ref b :: rest)) rest (Qc #[.ref b, a1]) (tm_A Hb) := tm_runV (n := 1) (As := [a1]) hexec hb hml hown htw hK hW hq (by decide) rfl ml_X3_38 im_X0_setWhole se_X0_setWhole in_X0 co_X0_setWhole (by decide +kernel) hM hrm rfl hsize rfl hrest hdg hf
theorem cs_X3_45 (hexec : p.tables.exec = Jvm.exec) (hb : c.code = cc) (hml : c.maxLocals = nL) (hown : s.vm.findClass RX3 = some m.cls) (htw : ∀ w ∈ tw, w.before args s = true) (hK : va_K G.1 vwCl (tm_tys G) s) (hW : tm_W G Hb sh M H) (hM : Met l yX3_divide (tws yX3_divide cX3_divide 2 none) rm (va_Pc [a1, a2] (tm_St G Hb sh M)) Qc mc ms (tm_A Hb)) (hrm : rm.cells = mc ∧ rm.slots = ms ∧ rm.frames + 1 ≤ R.frames ∧ 8 + (2 + 11) + rm.locals ≤ R.locals) (hsize : ls.size = nL) (hrest : (rest.map fun v => v.category).sum ≤ 8) (hdg : decode cc pc = .ok (.invokestatic 45, 3)) (hf : cells + mc ≤ R.cells ∧ slots + ms ≤ R.slots) : va_Run p l e R s m args below meth c H locs cells slots mc ms (F0 m pc ls (a2 :: a1 :: rest)) rest (Qc #[a1, a2]) (tm_A Hb) := tm_runS (n := 2) (As := [a1, a2]) hexec hb hml hown htw hK hW ml_X3_45 st_X3_divide in_X3 co_X3_divide (by decide +kernel) hM hrm rfl hsize rfl hrest hdg hf
theorem cs_X3_60 (hexec : p.tables.exec = Jvm.exec) (hb : c.code = cc) (hml : c.maxLocals = nL) (hown : s.vm.findClass RX3 = some m.cls) (htw : ∀ w ∈ tw, w.before args s = true) (hK : va_K G.1 vwCl (tm_tys G) s) (hW : tm_W G Hb sh M H) (hq : sh b = some (2, 0)) (hM : Met l yX0_setQuotient (tws yX0_setQuotient cX0_setQuotient 3 none) rm (va_Pc [.ref b, a1, a2] (tm_St G Hb sh M)) Qc mc ms (tm_A Hb)) (hrm : rm.cells = mc ∧ rm.slots = ms ∧ rm.frames + 1 ≤ R.frames ∧ 8 + (3 + 11) + rm.locals ≤ R.locals) (hsize : ls.size = nL) (hrest : (rest.map fun v => v.category).sum ≤ 8) (hdg : decode cc pc = .ok (.invokevirtual 60, 3)) (hf : cells + mc ≤ R.cells ∧ slots + ms ≤ R.slots) : va_Run p l e R s m args below meth c H locs cells slots mc ms (F0 m pc ls (a2 :: a1 :: .ref b :: rest)) rest (Qc #[.ref b, a1, a2]) (tm_A Hb) := tm_runV (n := 2) (As := [a1, a2]) hexec hb hml hown htw hK hW hq (by decide) rfl ml_X3_60 im_X0_setQuotient se_X0_setQuotient in_X0 co_X0_setQuotient (by decide +kernel) hM hrm rfl hsize rfl hrest hdg hf
theorem cs_X3_67 (hexec : p.tables.exec = Jvm.exec) (hb : c.code = cc) (hml : c.maxLocals = nL) (hown : s.vm.findClass RX3 = some m.cls) (htw : ∀ w ∈ tw, w.before args s = true) (hK : va_K G.1 vwCl (tm_tys G) s) (hW : tm_W G Hb sh M H) (hq : sh b = some (3, 0)) (hM : Met l yX1_turnRelation (tws yX1_turnRelation cX1_turnRelation 1 none) rm (va_Pc [.ref b] (tm_St G Hb sh M)) Qc mc ms (tm_A Hb)) (hrm : rm.cells = mc ∧ rm.slots = ms ∧ rm.frames + 1 ≤ R.frames ∧ 8 + (1 + 11) + rm.locals ≤ R.locals) (hsize : ls.size = nL) (hrest : (rest.map fun v => v.category).sum ≤ 8) (hdg : decode cc pc = .ok (.invokevirtual 67, 3)) (hf : cells + mc ≤ R.cells ∧ slots + ms ≤ R.slots) : va_Run p l e R s m args below meth c H locs cells slots mc ms (F0 m pc ls (.ref b :: rest)) rest (Qc #[.ref b]) (tm_A Hb) := tm_runV (n := 0) (As := []) hexec hb hml hown htw hK hW hq (by decide) rfl ml_X3_67 im_X1_turnRelation se_X1_turnRelation in_X1 co_X1_turnRelation (by decide +kernel) hM hrm rfl hsize rfl hrest hdg hf
theorem cs_X3_49 (hexec : p.tables.exec = Jvm.exec) (hb : c.code = cc) (hml : c.maxLocals = nL) (hown : s.vm.findClass RX3 = some m.cls) (htw : ∀ w ∈ tw, w.before args s = true) (hK : va_K G.1 vwCl (tm_tys G) s) (hW : tm_W G Hb sh M H) (hq : sh b = some (3, 0)) (hM : Met l yX1_fits (tws yX1_fits cX1_fits 1 (some .boolean)) rm (va_Pc [.ref b] (tm_St G Hb sh M)) Qc mc ms (tm_A Hb)) (hrm : rm.cells = mc ∧ rm.slots = ms ∧ rm.frames + 1 ≤ R.frames ∧ 8 + (1 + 11) + rm.locals ≤ R.locals) (hsize : ls.size = nL) (hrest : (rest.map fun v => v.category).sum ≤ 8) (hdg : decode cc pc = .ok (.invokevirtual 49, 3)) (hf : cells + mc ≤ R.cells ∧ slots + ms ≤ R.slots) : va_Run p l e R s m args below meth c H locs cells slots mc ms (F0 m pc ls (.ref b :: rest)) rest (Qc #[.ref b]) (tm_A Hb) := tm_runV (n := 0) (As := []) hexec hb hml hown htw hK hW hq (by decide) rfl ml_X3_49 im_X1_fits se_X1_fits in_X1 co_X1_fits (by decide +kernel) hM hrm rfl hsize rfl hrest hdg hf
theorem cs_X1_31 (hexec : p.tables.exec = Jvm.exec) (hb : c.code = cc) (hml : c.maxLocals = nL) (hown : s.vm.findClass RX1 = some m.cls) (htw : ∀ w ∈ tw, w.before args s = true) (hK : va_K G.1 vwCl (tm_tys G) s) (hW : tm_W G Hb sh M H) (hq : sh b = some (6, 0)) (hM : Met l yX5_fits (tws yX5_fits cX5_fits 1 (some .boolean)) rm (va_Pc [.ref b] (tm_St G Hb sh M)) Qc mc ms (tm_A Hb)) (hrm : rm.cells = mc ∧ rm.slots = ms ∧ rm.frames + 1 ≤ R.frames ∧ 8 + (1 + 11) + rm.locals ≤ R.locals) (hsize : ls.size = nL) (hrest : (rest.map fun v => v.category).sum ≤ 8) (hdg : decode cc pc = .ok (.invokevirtual 31, 3)) (hf : cells + mc ≤ R.cells ∧ slots + ms ≤ R.slots) : va_Run p l e R s m args below meth c H locs cells slots mc ms (F0 m pc ls (.ref b :: rest)) rest (Qc #[.ref b]) (tm_A Hb) := tm_runV (n := 0) (As := []) hexec hb hml hown htw hK hW hq (by decide) rfl ml_X1_31 im_X5_fits se_X5_fits in_X5 co_X5_fits (by decide +kernel) hM hrm rfl hsize rfl hrest hdg hf
theorem cs_X8_170 (hexec : p.tables.exec = Jvm.exec) (hb : c.code = cc) (hml : c.maxLocals = nL) (hown : s.vm.findClass RX8 = some m.cls) (htw : ∀ w ∈ tw, w.before args s = true) (hK : va_K G.1 vwCl (tm_tys G) s) (hW : tm_W G Hb sh M H) (hq : sh b = some (3, 0)) (hM : Met l yX1_sameAs (tws yX1_sameAs cX1_sameAs 2 (some .boolean)) rm (va_Pc [.ref b, a1] (tm_St G Hb sh M)) Qc mc ms (tm_A Hb)) (hrm : rm.cells = mc ∧ rm.slots = ms ∧ rm.frames + 1 ≤ R.frames ∧ 8 + (2 + 11) + rm.locals ≤ R.locals) (hsize : ls.size = nL) (hrest : (rest.map fun v => v.category).sum ≤ 8) (hdg : decode cc pc = .ok (.invokevirtual 170, 3)) (hf : cells + mc ≤ R.cells ∧ slots + ms ≤ R.slots) : va_Run p l e R s m args below meth c H locs cells slots mc ms (F0 m pc ls (a1 :: .ref b :: rest)) rest (Qc #[.ref b, a1]) (tm_A Hb) := tm_runV (n := 1) (As := [a1]) hexec hb hml hown htw hK hW hq (by decide) rfl ml_X8_170 im_X1_sameAs se_X1_sameAs in_X1 co_X1_sameAs (by decide +kernel) hM hrm rfl hsize rfl hrest hdg hf
theorem cs_X1_27 (hexec : p.tables.exec = Jvm.exec) (hb : c.code = cc) (hml : c.maxLocals = nL) (hown : s.vm.findClass RX1 = some m.cls) (htw : ∀ w ∈ tw, w.before args s = true) (hK : va_K G.1 vwCl (tm_tys G) s) (hW : tm_W G Hb sh M H) (hq : sh b = some (6, 0)) (hM : Met l yX5_sameAs (tws yX5_sameAs cX5_sameAs 2 (some .boolean)) rm (va_Pc [.ref b, a1] (tm_St G Hb sh M)) Qc mc ms (tm_A Hb)) (hrm : rm.cells = mc ∧ rm.slots = ms ∧ rm.frames + 1 ≤ R.frames ∧ 8 + (2 + 11) + rm.locals ≤ R.locals) (hsize : ls.size = nL) (hrest : (rest.map fun v => v.category).sum ≤ 8) (hdg : decode cc pc = .ok (.invokevirtual 27, 3)) (hf : cells + mc ≤ R.cells ∧ slots + ms ≤ R.slots) : va_Run p l e R s m args below meth c H locs cells slots mc ms (F0 m pc ls (a1 :: .ref b :: rest)) rest (Qc #[.ref b, a1]) (tm_A Hb) := tm_runV (n := 1) (As := [a1]) hexec hb hml hown htw hK hW hq (by decide) rfl ml_X1_27 im_X5_sameAs se_X5_sameAs in_X5 co_X5_sameAs (by decide +kernel) hM hrm rfl hsize rfl hrest hdg hf
theorem cs_X5_47 (hexec : p.tables.exec = Jvm.exec) (hb : c.code = cc) (hml : c.maxLocals = nL) (hown : s.vm.findClass RX5 = some m.cls) (htw : ∀ w ∈ tw, w.before args s = true) (hK : va_K G.1 vwCl (tm_tys G) s) (hW : tm_W G Hb sh M H) (hq : sh b = some (2, 0)) (hM : Met l yX0_sameAs (tws yX0_sameAs cX0_sameAs 2 (some .boolean)) rm (va_Pc [.ref b, a1] (tm_St G Hb sh M)) Qc mc ms (tm_A Hb)) (hrm : rm.cells = mc ∧ rm.slots = ms ∧ rm.frames + 1 ≤ R.frames ∧ 8 + (2 + 11) + rm.locals ≤ R.locals) (hsize : ls.size = nL) (hrest : (rest.map fun v => v.category).sum ≤ 8) (hdg : decode cc pc = .ok (.invokevirtual 47, 3)) (hf : cells + mc ≤ R.cells ∧ slots + ms ≤ R.slots) : va_Run p l e R s m args below meth c H locs cells slots mc ms (F0 m pc ls (a1 :: .ref b :: rest)) rest (Qc #[.ref b, a1]) (tm_A Hb) := tm_runV (n := 1) (As := [a1]) hexec hb hml hown htw hK hW hq (by decide) rfl ml_X5_47 im_X0_sameAs se_X0_sameAs in_X0 co_X0_sameAs (by decide +kernel) hM hrm rfl hsize rfl hrest hdg hf
theorem cs_X8_101 (hexec : p.tables.exec = Jvm.exec) (hb : c.code = cc) (hml : c.maxLocals = nL) (hown : s.vm.findClass RX8 = some m.cls) (htw : ∀ w ∈ tw, w.before args s = true) (hK : va_K G.1 vwCl (tm_tys G) s) (hW : tm_W G Hb sh M H) (hq : sh b = some (8, 0)) (hM : Met l yX8_refuse (tws yX8_refuse cX8_refuse 2 none) rm (va_Pc [.ref b] (tm_St G Hb sh M)) Qc mc ms (tm_A Hb)) (hrm : rm.cells = mc ∧ rm.slots = ms ∧ rm.frames + 1 ≤ R.frames ∧ 8 + (2 + 11) + rm.locals ≤ R.locals) (hsize : ls.size = nL) (hrest : (rest.map fun v => v.category).sum ≤ 8) (hdg : decode cc pc = .ok (.invokevirtual 101, 3)) (hf : cells + mc ≤ R.cells ∧ slots + ms ≤ R.slots) : va_Run p l e R s m args below meth c H locs cells slots mc ms (F0 m pc ls (.ref b :: rest)) rest (Qc #[.ref b]) (tm_A Hb) := tm_runV (n := 0) (As := []) hexec hb hml hown htw hK hW hq (by decide) rfl ml_X8_101 im_X8_refuse se_X8_refuse in_X8 co_X8_refuse (by decide +kernel) hM hrm rfl hsize rfl hrest hdg hf
theorem cs_X8_180 (hexec : p.tables.exec = Jvm.exec) (hb : c.code = cc) (hml : c.maxLocals = nL) (hown : s.vm.findClass RX8 = some m.cls) (htw : ∀ w ∈ tw, w.before args s = true) (hK : va_K G.1 vwCl (tm_tys G) s) (hW : tm_W G Hb sh M H) (hM : Met l yX6_explain (tws yX6_explain cX6_explain 4 (some .int)) rm (va_Pc [a1, a2, a3] (tm_St G Hb sh M)) Qc mc ms (tm_A Hb)) (hrm : rm.cells = mc ∧ rm.slots = ms ∧ rm.frames + 1 ≤ R.frames ∧ 8 + (4 + 11) + rm.locals ≤ R.locals) (hsize : ls.size = nL) (hrest : (rest.map fun v => v.category).sum ≤ 8) (hdg : decode cc pc = .ok (.invokestatic 180, 3)) (hf : cells + mc ≤ R.cells ∧ slots + ms ≤ R.slots) : va_Run p l e R s m args below meth c H locs cells slots mc ms (F0 m pc ls (a3 :: a2 :: a1 :: rest)) rest (Qc #[a1, a2, a3]) (tm_A Hb) := tm_runS (n := 3) (As := [a1, a2, a3]) hexec hb hml hown htw hK hW ml_X8_180 st_X6_explain in_X6 co_X6_explain (by decide +kernel) hM hrm rfl hsize rfl hrest hdg hf
theorem cs_X6_9 (hexec : p.tables.exec = Jvm.exec) (hb : c.code = cc) (hml : c.maxLocals = nL) (hown : s.vm.findClass RX6 = some m.cls) (htw : ∀ w ∈ tw, w.before args s = true) (hK : va_K G.1 vwCl (tm_tys G) s) (hW : tm_W G Hb sh M H) (hM : Met l yX6_isPossible (tws yX6_isPossible cX6_isPossible 4 (some .boolean)) rm (va_Pc [a1, a2] (tm_St G Hb sh M)) Qc mc ms (tm_A Hb)) (hrm : rm.cells = mc ∧ rm.slots = ms ∧ rm.frames + 1 ≤ R.frames ∧ 8 + (4 + 11) + rm.locals ≤ R.locals) (hsize : ls.size = nL) (hrest : (rest.map fun v => v.category).sum ≤ 8) (hdg : decode cc pc = .ok (.invokestatic 9, 3)) (hf : cells + mc ≤ R.cells ∧ slots + ms ≤ R.slots) : va_Run p l e R s m args below meth c H locs cells slots mc ms (F0 m pc ls (a2 :: a1 :: rest)) rest (Qc #[a1, a2]) (tm_A Hb) := tm_runS (n := 2) (As := [a1, a2]) hexec hb hml hown htw hK hW ml_X6_9 st_X6_isPossible in_X6 co_X6_isPossible (by decide +kernel) hM hrm rfl hsize rfl hrest hdg hf
theorem cs_X6_33 (hexec : p.tables.exec = Jvm.exec) (hb : c.code = cc) (hml : c.maxLocals = nL) (hown : s.vm.findClass RX6 = some m.cls) (htw : ∀ w ∈ tw, w.before args s = true) (hK : va_K G.1 vwCl (tm_tys G) s) (hW : tm_W G Hb sh M H) (hq : sh b = some (2, 0)) (hM : Met l yX0_isZero (tws yX0_isZero cX0_isZero 1 (some .boolean)) rm (va_Pc [.ref b] (tm_St G Hb sh M)) Qc mc ms (tm_A Hb)) (hrm : rm.cells = mc ∧ rm.slots = ms ∧ rm.frames + 1 ≤ R.frames ∧ 8 + (1 + 11) + rm.locals ≤ R.locals) (hsize : ls.size = nL) (hrest : (rest.map fun v => v.category).sum ≤ 8) (hdg : decode cc pc = .ok (.invokevirtual 33, 3)) (hf : cells + mc ≤ R.cells ∧ slots + ms ≤ R.slots) : va_Run p l e R s m args below meth c H locs cells slots mc ms (F0 m pc ls (.ref b :: rest)) rest (Qc #[.ref b]) (tm_A Hb) := tm_runV (n := 0) (As := []) hexec hb hml hown htw hK hW hq (by decide) rfl ml_X6_33 im_X0_isZero se_X0_isZero in_X0 co_X0_isZero (by decide +kernel) hM hrm rfl hsize rfl hrest hdg hf
theorem cs_X6_39 (hexec : p.tables.exec = Jvm.exec) (hb : c.code = cc) (hml : c.maxLocals = nL) (hown : s.vm.findClass RX6 = some m.cls) (htw : ∀ w ∈ tw, w.before args s = true) (hK : va_K G.1 vwCl (tm_tys G) s) (hW : tm_W G Hb sh M H) (hq : sh b = some (2, 0)) (hM : Met l yX0_isWhole (tws yX0_isWhole cX0_isWhole 3 (some .boolean)) rm (va_Pc [.ref b, a1] (tm_St G Hb sh M)) Qc mc ms (tm_A Hb)) (hrm : rm.cells = mc ∧ rm.slots = ms ∧ rm.frames + 1 ≤ R.frames ∧ 8 + (3 + 11) + rm.locals ≤ R.locals) (hsize : ls.size = nL) (hrest : (rest.map fun v => v.category).sum ≤ 8) (hdg : decode cc pc = .ok (.invokevirtual 39, 3)) (hf : cells + mc ≤ R.cells ∧ slots + ms ≤ R.slots) : va_Run p l e R s m args below meth c H locs cells slots mc ms (F0 m pc ls (a1 :: .ref b :: rest)) rest (Qc #[.ref b, a1]) (tm_A Hb) := tm_runV (n := 1) (As := [a1]) hexec hb hml hown htw hK hW hq (by decide) rfl ml_X6_39 im_X0_isWhole se_X0_isWhole in_X0 co_X0_isWhole (by decide +kernel) hM hrm rfl hsize rfl hrest hdg hf
theorem cs_X6_13 (hexec : p.tables.exec = Jvm.exec) (hb : c.code = cc) (hml : c.maxLocals = nL) (hown : s.vm.findClass RX6 = some m.cls) (htw : ∀ w ∈ tw, w.before args s = true) (hK : va_K G.1 vwCl (tm_tys G) s) (hW : tm_W G Hb sh M H) (hM : Met l yX6_write (tws yX6_write cX6_write 5 none) rm (va_Pc [a1, a2, a3] (tm_St G Hb sh M)) Qc mc ms (tm_A Hb)) (hrm : rm.cells = mc ∧ rm.slots = ms ∧ rm.frames + 1 ≤ R.frames ∧ 8 + (5 + 11) + rm.locals ≤ R.locals) (hsize : ls.size = nL) (hrest : (rest.map fun v => v.category).sum ≤ 8) (hdg : decode cc pc = .ok (.invokestatic 13, 3)) (hf : cells + mc ≤ R.cells ∧ slots + ms ≤ R.slots) : va_Run p l e R s m args below meth c H locs cells slots mc ms (F0 m pc ls (a3 :: a2 :: a1 :: rest)) rest (Qc #[a1, a2, a3]) (tm_A Hb) := tm_runS (n := 3) (As := [a1, a2, a3]) hexec hb hml hown htw hK hW ml_X6_13 st_X6_write in_X6 co_X6_write (by decide +kernel) hM hrm rfl hsize rfl hrest hdg hf
theorem cs_X6_53 (hexec : p.tables.exec = Jvm.exec) (hb : c.code = cc) (hml : c.maxLocals = nL) (hown : s.vm.findClass RX6 = some m.cls) (htw : ∀ w ∈ tw, w.before args s = true) (hK : va_K G.1 vwCl (tm_tys G) s) (hW : tm_W G Hb sh M H) (hq : sh b = some (3, 0)) (hM : Met l yX1_copy (tws yX1_copy cX1_copy 2 none) rm (va_Pc [.ref b, a1] (tm_St G Hb sh M)) Qc mc ms (tm_A Hb)) (hrm : rm.cells = mc ∧ rm.slots = ms ∧ rm.frames + 1 ≤ R.frames ∧ 8 + (2 + 11) + rm.locals ≤ R.locals) (hsize : ls.size = nL) (hrest : (rest.map fun v => v.category).sum ≤ 8) (hdg : decode cc pc = .ok (.invokevirtual 53, 3)) (hf : cells + mc ≤ R.cells ∧ slots + ms ≤ R.slots) : va_Run p l e R s m args below meth c H locs cells slots mc ms (F0 m pc ls (a1 :: .ref b :: rest)) rest (Qc #[.ref b, a1]) (tm_A Hb) := tm_runV (n := 1) (As := [a1]) hexec hb hml hown htw hK hW hq (by decide) rfl ml_X6_53 im_X1_copy se_X1_copy in_X1 co_X1_copy (by decide +kernel) hM hrm rfl hsize rfl hrest hdg hf
theorem cs_X6_57 (hexec : p.tables.exec = Jvm.exec) (hb : c.code = cc) (hml : c.maxLocals = nL) (hown : s.vm.findClass RX6 = some m.cls) (htw : ∀ w ∈ tw, w.before args s = true) (hK : va_K G.1 vwCl (tm_tys G) s) (hW : tm_W G Hb sh M H) (hq : sh b = some (2, 0)) (hM : Met l yX0_setSum (tws yX0_setSum cX0_setSum 3 none) rm (va_Pc [.ref b, a1, a2] (tm_St G Hb sh M)) Qc mc ms (tm_A Hb)) (hrm : rm.cells = mc ∧ rm.slots = ms ∧ rm.frames + 1 ≤ R.frames ∧ 8 + (3 + 11) + rm.locals ≤ R.locals) (hsize : ls.size = nL) (hrest : (rest.map fun v => v.category).sum ≤ 8) (hdg : decode cc pc = .ok (.invokevirtual 57, 3)) (hf : cells + mc ≤ R.cells ∧ slots + ms ≤ R.slots) : va_Run p l e R s m args below meth c H locs cells slots mc ms (F0 m pc ls (a2 :: a1 :: .ref b :: rest)) rest (Qc #[.ref b, a1, a2]) (tm_A Hb) := tm_runV (n := 2) (As := [a1, a2]) hexec hb hml hown htw hK hW hq (by decide) rfl ml_X6_57 im_X0_setSum se_X0_setSum in_X0 co_X0_setSum (by decide +kernel) hM hrm rfl hsize rfl hrest hdg hf
theorem cs_X6_61 (hexec : p.tables.exec = Jvm.exec) (hb : c.code = cc) (hml : c.maxLocals = nL) (hown : s.vm.findClass RX6 = some m.cls) (htw : ∀ w ∈ tw, w.before args s = true) (hK : va_K G.1 vwCl (tm_tys G) s) (hW : tm_W G Hb sh M H) (hq : sh b = some (2, 0)) (hM : Met l yX0_setWhole (tws yX0_setWhole cX0_setWhole 3 none) rm (va_Pc [.ref b, a1] (tm_St G Hb sh M)) Qc mc ms (tm_A Hb)) (hrm : rm.cells = mc ∧ rm.slots = ms ∧ rm.frames + 1 ≤ R.frames ∧ 8 + (3 + 11) + rm.locals ≤ R.locals) (hsize : ls.size = nL) (hrest : (rest.map fun v => v.category).sum ≤ 8) (hdg : decode cc pc = .ok (.invokevirtual 61, 3)) (hf : cells + mc ≤ R.cells ∧ slots + ms ≤ R.slots) : va_Run p l e R s m args below meth c H locs cells slots mc ms (F0 m pc ls (a1 :: .ref b :: rest)) rest (Qc #[.ref b, a1]) (tm_A Hb) := tm_runV (n := 1) (As := [a1]) hexec hb hml hown htw hK hW hq (by decide) rfl ml_X6_61 im_X0_setWhole se_X0_setWhole in_X0 co_X0_setWhole (by decide +kernel) hM hrm rfl hsize rfl hrest hdg hf
theorem cs_X6_65 (hexec : p.tables.exec = Jvm.exec) (hb : c.code = cc) (hml : c.maxLocals = nL) (hown : s.vm.findClass RX6 = some m.cls) (htw : ∀ w ∈ tw, w.before args s = true) (hK : va_K G.1 vwCl (tm_tys G) s) (hW : tm_W G Hb sh M H) (hq : sh b = some (2, 0)) (hM : Met l yX0_setQuotient (tws yX0_setQuotient cX0_setQuotient 3 none) rm (va_Pc [.ref b, a1, a2] (tm_St G Hb sh M)) Qc mc ms (tm_A Hb)) (hrm : rm.cells = mc ∧ rm.slots = ms ∧ rm.frames + 1 ≤ R.frames ∧ 8 + (3 + 11) + rm.locals ≤ R.locals) (hsize : ls.size = nL) (hrest : (rest.map fun v => v.category).sum ≤ 8) (hdg : decode cc pc = .ok (.invokevirtual 65, 3)) (hf : cells + mc ≤ R.cells ∧ slots + ms ≤ R.slots) : va_Run p l e R s m args below meth c H locs cells slots mc ms (F0 m pc ls (a2 :: a1 :: .ref b :: rest)) rest (Qc #[.ref b, a1, a2]) (tm_A Hb) := tm_runV (n := 2) (As := [a1, a2]) hexec hb hml hown htw hK hW hq (by decide) rfl ml_X6_65 im_X0_setQuotient se_X0_setQuotient in_X0 co_X0_setQuotient (by decide +kernel) hM hrm rfl hsize rfl hrest hdg hf
theorem cs_X6_68 (hexec : p.tables.exec = Jvm.exec) (hb : c.code = cc) (hml : c.maxLocals = nL) (hown : s.vm.findClass RX6 = some m.cls) (htw : ∀ w ∈ tw, w.before args s = true) (hK : va_K G.1 vwCl (tm_tys G) s) (hW : tm_W G Hb sh M H) (hq : sh b = some (6, 0)) (hM : Met l yX5_divide (tws yX5_divide cX5_divide 2 none) rm (va_Pc [.ref b, a1] (tm_St G Hb sh M)) Qc mc ms (tm_A Hb)) (hrm : rm.cells = mc ∧ rm.slots = ms ∧ rm.frames + 1 ≤ R.frames ∧ 8 + (2 + 11) + rm.locals ≤ R.locals) (hsize : ls.size = nL) (hrest : (rest.map fun v => v.category).sum ≤ 8) (hdg : decode cc pc = .ok (.invokevirtual 68, 3)) (hf : cells + mc ≤ R.cells ∧ slots + ms ≤ R.slots) : va_Run p l e R s m args below meth c H locs cells slots mc ms (F0 m pc ls (a1 :: .ref b :: rest)) rest (Qc #[.ref b, a1]) (tm_A Hb) := tm_runV (n := 1) (As := [a1]) hexec hb hml hown htw hK hW hq (by decide) rfl ml_X6_68 im_X5_divide se_X5_divide in_X5 co_X5_divide (by decide +kernel) hM hrm rfl hsize rfl hrest hdg hf
theorem cs_X6_72 (hexec : p.tables.exec = Jvm.exec) (hb : c.code = cc) (hml : c.maxLocals = nL) (hown : s.vm.findClass RX6 = some m.cls) (htw : ∀ w ∈ tw, w.before args s = true) (hK : va_K G.1 vwCl (tm_tys G) s) (hW : tm_W G Hb sh M H) (hq : sh b = some (6, 0)) (hM : Met l yX5_turnToOpposite (tws yX5_turnToOpposite cX5_turnToOpposite 1 none) rm (va_Pc [.ref b] (tm_St G Hb sh M)) Qc mc ms (tm_A Hb)) (hrm : rm.cells = mc ∧ rm.slots = ms ∧ rm.frames + 1 ≤ R.frames ∧ 8 + (1 + 11) + rm.locals ≤ R.locals) (hsize : ls.size = nL) (hrest : (rest.map fun v => v.category).sum ≤ 8) (hdg : decode cc pc = .ok (.invokevirtual 72, 3)) (hf : cells + mc ≤ R.cells ∧ slots + ms ≤ R.slots) : va_Run p l e R s m args below meth c H locs cells slots mc ms (F0 m pc ls (.ref b :: rest)) rest (Qc #[.ref b]) (tm_A Hb) := tm_runV (n := 0) (As := []) hexec hb hml hown htw hK hW hq (by decide) rfl ml_X6_72 im_X5_turnToOpposite se_X5_turnToOpposite in_X5 co_X5_turnToOpposite (by decide +kernel) hM hrm rfl hsize rfl hrest hdg hf
theorem cs_X6_75 (hexec : p.tables.exec = Jvm.exec) (hb : c.code = cc) (hml : c.maxLocals = nL) (hown : s.vm.findClass RX6 = some m.cls) (htw : ∀ w ∈ tw, w.before args s = true) (hK : va_K G.1 vwCl (tm_tys G) s) (hW : tm_W G Hb sh M H) (hq : sh b = some (2, 0)) (hM : Met l yX0_setDifference (tws yX0_setDifference cX0_setDifference 3 none) rm (va_Pc [.ref b, a1, a2] (tm_St G Hb sh M)) Qc mc ms (tm_A Hb)) (hrm : rm.cells = mc ∧ rm.slots = ms ∧ rm.frames + 1 ≤ R.frames ∧ 8 + (3 + 11) + rm.locals ≤ R.locals) (hsize : ls.size = nL) (hrest : (rest.map fun v => v.category).sum ≤ 8) (hdg : decode cc pc = .ok (.invokevirtual 75, 3)) (hf : cells + mc ≤ R.cells ∧ slots + ms ≤ R.slots) : va_Run p l e R s m args below meth c H locs cells slots mc ms (F0 m pc ls (a2 :: a1 :: .ref b :: rest)) rest (Qc #[.ref b, a1, a2]) (tm_A Hb) := tm_runV (n := 2) (As := [a1, a2]) hexec hb hml hown htw hK hW hq (by decide) rfl ml_X6_75 im_X0_setDifference se_X0_setDifference in_X0 co_X0_setDifference (by decide +kernel) hM hrm rfl hsize rfl hrest hdg hf
theorem cs_X6_17 (hexec : p.tables.exec = Jvm.exec) (hb : c.code = cc) (hml : c.maxLocals = nL) (hown : s.vm.findClass RX6 = some m.cls) (htw : ∀ w ∈ tw, w.before args s = true) (hK : va_K G.1 vwCl (tm_tys G) s) (hW : tm_W G Hb sh M H) (hq : sh b = some (3, 0)) (hM : Met l yX1_sameAs (tws yX1_sameAs cX1_sameAs 2 (some .boolean)) rm (va_Pc [.ref b, a1] (tm_St G Hb sh M)) Qc mc ms (tm_A Hb)) (hrm : rm.cells = mc ∧ rm.slots = ms ∧ rm.frames + 1 ≤ R.frames ∧ 8 + (2 + 11) + rm.locals ≤ R.locals) (hsize : ls.size = nL) (hrest : (rest.map fun v => v.category).sum ≤ 8) (hdg : decode cc pc = .ok (.invokevirtual 17, 3)) (hf : cells + mc ≤ R.cells ∧ slots + ms ≤ R.slots) : va_Run p l e R s m args below meth c H locs cells slots mc ms (F0 m pc ls (a1 :: .ref b :: rest)) rest (Qc #[.ref b, a1]) (tm_A Hb) := tm_runV (n := 1) (As := [a1]) hexec hb hml hown htw hK hW hq (by decide) rfl ml_X6_17 im_X1_sameAs se_X1_sameAs in_X1 co_X1_sameAs (by decide +kernel) hM hrm rfl hsize rfl hrest hdg hf
theorem cs_X8_114 (hexec : p.tables.exec = Jvm.exec) (hb : c.code = cc) (hml : c.maxLocals = nL) (hown : s.vm.findClass RX8 = some m.cls) (htw : ∀ w ∈ tw, w.before args s = true) (hK : va_K G.1 vwCl (tm_tys G) s) (hW : tm_W G Hb sh M H) (hq : sh b = some (8, 0)) (hM : Met l yX8_findWitness (tws yX8_findWitness cX8_findWitness 5 none) rm (va_Pc [.ref b] (tm_St G Hb sh M)) Qc mc ms (tm_A Hb)) (hrm : rm.cells = mc ∧ rm.slots = ms ∧ rm.frames + 1 ≤ R.frames ∧ 8 + (5 + 11) + rm.locals ≤ R.locals) (hsize : ls.size = nL) (hrest : (rest.map fun v => v.category).sum ≤ 8) (hdg : decode cc pc = .ok (.invokevirtual 114, 3)) (hf : cells + mc ≤ R.cells ∧ slots + ms ≤ R.slots) : va_Run p l e R s m args below meth c H locs cells slots mc ms (F0 m pc ls (.ref b :: rest)) rest (Qc #[.ref b]) (tm_A Hb) := tm_runV (n := 0) (As := []) hexec hb hml hown htw hK hW hq (by decide) rfl ml_X8_114 im_X8_findWitness se_X8_findWitness in_X8 co_X8_findWitness (by decide +kernel) hM hrm rfl hsize rfl hrest hdg hf
theorem cs_X8_192 (hexec : p.tables.exec = Jvm.exec) (hb : c.code = cc) (hml : c.maxLocals = nL) (hown : s.vm.findClass RX8 = some m.cls) (htw : ∀ w ∈ tw, w.before args s = true) (hK : va_K G.1 vwCl (tm_tys G) s) (hW : tm_W G Hb sh M H) (hq : sh b = some (8, 0)) (hM : Met l yX8_tellsApart (tws yX8_tellsApart cX8_tellsApart 3 (some .boolean)) rm (va_Pc [.ref b, a1, a2] (tm_St G Hb sh M)) Qc mc ms (tm_A Hb)) (hrm : rm.cells = mc ∧ rm.slots = ms ∧ rm.frames + 1 ≤ R.frames ∧ 8 + (3 + 11) + rm.locals ≤ R.locals) (hsize : ls.size = nL) (hrest : (rest.map fun v => v.category).sum ≤ 8) (hdg : decode cc pc = .ok (.invokevirtual 192, 3)) (hf : cells + mc ≤ R.cells ∧ slots + ms ≤ R.slots) : va_Run p l e R s m args below meth c H locs cells slots mc ms (F0 m pc ls (a2 :: a1 :: .ref b :: rest)) rest (Qc #[.ref b, a1, a2]) (tm_A Hb) := tm_runV (n := 2) (As := [a1, a2]) hexec hb hml hown htw hK hW hq (by decide) rfl ml_X8_192 im_X8_tellsApart se_X8_tellsApart in_X8 co_X8_tellsApart (by decide +kernel) hM hrm rfl hsize rfl hrest hdg hf
theorem cs_X8_200 (hexec : p.tables.exec = Jvm.exec) (hb : c.code = cc) (hml : c.maxLocals = nL) (hown : s.vm.findClass RX8 = some m.cls) (htw : ∀ w ∈ tw, w.before args s = true) (hK : va_K G.1 vwCl (tm_tys G) s) (hW : tm_W G Hb sh M H) (hq : sh b = some (7, 0)) (hM : Met l yX7_hasPlace (tws yX7_hasPlace cX7_hasPlace 1 (some .boolean)) rm (va_Pc [.ref b] (tm_St G Hb sh M)) Qc mc ms (tm_A Hb)) (hrm : rm.cells = mc ∧ rm.slots = ms ∧ rm.frames + 1 ≤ R.frames ∧ 8 + (1 + 11) + rm.locals ≤ R.locals) (hsize : ls.size = nL) (hrest : (rest.map fun v => v.category).sum ≤ 8) (hdg : decode cc pc = .ok (.invokevirtual 200, 3)) (hf : cells + mc ≤ R.cells ∧ slots + ms ≤ R.slots) : va_Run p l e R s m args below meth c H locs cells slots mc ms (F0 m pc ls (.ref b :: rest)) rest (Qc #[.ref b]) (tm_A Hb) := tm_runV (n := 0) (As := []) hexec hb hml hown htw hK hW hq (by decide) rfl ml_X8_200 im_X7_hasPlace se_X7_hasPlace in_X7 co_X7_hasPlace (by decide +kernel) hM hrm rfl hsize rfl hrest hdg hf
theorem cs_X8_204 (hexec : p.tables.exec = Jvm.exec) (hb : c.code = cc) (hml : c.maxLocals = nL) (hown : s.vm.findClass RX8 = some m.cls) (htw : ∀ w ∈ tw, w.before args s = true) (hK : va_K G.1 vwCl (tm_tys G) s) (hW : tm_W G Hb sh M H) (hq : sh b = some (2, 0)) (hM : Met l yX0_setShifted (tws yX0_setShifted cX0_setShifted 3 none) rm (va_Pc [.ref b, a1, a2] (tm_St G Hb sh M)) Qc mc ms (tm_A Hb)) (hrm : rm.cells = mc ∧ rm.slots = ms ∧ rm.frames + 1 ≤ R.frames ∧ 8 + (3 + 11) + rm.locals ≤ R.locals) (hsize : ls.size = nL) (hrest : (rest.map fun v => v.category).sum ≤ 8) (hdg : decode cc pc = .ok (.invokevirtual 204, 3)) (hf : cells + mc ≤ R.cells ∧ slots + ms ≤ R.slots) : va_Run p l e R s m args below meth c H locs cells slots mc ms (F0 m pc ls (a2 :: a1 :: .ref b :: rest)) rest (Qc #[.ref b, a1, a2]) (tm_A Hb) := tm_runV (n := 2) (As := [a1, a2]) hexec hb hml hown htw hK hW hq (by decide) rfl ml_X8_204 im_X0_setShifted se_X0_setShifted in_X0 co_X0_setShifted (by decide +kernel) hM hrm rfl hsize rfl hrest hdg hf
theorem cs_X8_208 (hexec : p.tables.exec = Jvm.exec) (hb : c.code = cc) (hml : c.maxLocals = nL) (hown : s.vm.findClass RX8 = some m.cls) (htw : ∀ w ∈ tw, w.before args s = true) (hK : va_K G.1 vwCl (tm_tys G) s) (hW : tm_W G Hb sh M H) (hq : sh b = some (7, 0)) (hM : Met l yX7_holds (tws yX7_holds cX7_holds 2 (some .boolean)) rm (va_Pc [.ref b, a1] (tm_St G Hb sh M)) Qc mc ms (tm_A Hb)) (hrm : rm.cells = mc ∧ rm.slots = ms ∧ rm.frames + 1 ≤ R.frames ∧ 8 + (2 + 11) + rm.locals ≤ R.locals) (hsize : ls.size = nL) (hrest : (rest.map fun v => v.category).sum ≤ 8) (hdg : decode cc pc = .ok (.invokevirtual 208, 3)) (hf : cells + mc ≤ R.cells ∧ slots + ms ≤ R.slots) : va_Run p l e R s m args below meth c H locs cells slots mc ms (F0 m pc ls (a1 :: .ref b :: rest)) rest (Qc #[.ref b, a1]) (tm_A Hb) := tm_runV (n := 1) (As := [a1]) hexec hb hml hown htw hK hW hq (by decide) rfl ml_X8_208 im_X7_holds se_X7_holds in_X7 co_X7_holds (by decide +kernel) hM hrm rfl hsize rfl hrest hdg hf
theorem cs_X8_196 (hexec : p.tables.exec = Jvm.exec) (hb : c.code = cc) (hml : c.maxLocals = nL) (hown : s.vm.findClass RX8 = some m.cls) (htw : ∀ w ∈ tw, w.before args s = true) (hK : va_K G.1 vwCl (tm_tys G) s) (hW : tm_W G Hb sh M H) (hq : sh b = some (2, 0)) (hM : Met l yX0_setWhole (tws yX0_setWhole cX0_setWhole 3 none) rm (va_Pc [.ref b, a1] (tm_St G Hb sh M)) Qc mc ms (tm_A Hb)) (hrm : rm.cells = mc ∧ rm.slots = ms ∧ rm.frames + 1 ≤ R.frames ∧ 8 + (3 + 11) + rm.locals ≤ R.locals) (hsize : ls.size = nL) (hrest : (rest.map fun v => v.category).sum ≤ 8) (hdg : decode cc pc = .ok (.invokevirtual 196, 3)) (hf : cells + mc ≤ R.cells ∧ slots + ms ≤ R.slots) : va_Run p l e R s m args below meth c H locs cells slots mc ms (F0 m pc ls (a1 :: .ref b :: rest)) rest (Qc #[.ref b, a1]) (tm_A Hb) := tm_runV (n := 1) (As := [a1]) hexec hb hml hown htw hK hW hq (by decide) rfl ml_X8_196 im_X0_setWhole se_X0_setWhole in_X0 co_X0_setWhole (by decide +kernel) hM hrm rfl hsize rfl hrest hdg hf
theorem cs_X8_154 (hexec : p.tables.exec = Jvm.exec) (hb : c.code = cc) (hml : c.maxLocals = nL) (hown : s.vm.findClass RX8 = some m.cls) (htw : ∀ w ∈ tw, w.before args s = true) (hK : va_K G.1 vwCl (tm_tys G) s) (hW : tm_W G Hb sh M H) (hq : sh b = some (4, 0)) (hM : Met l yX2_write (tws yX2_write cX2_write 2 none) rm (va_Pc [.ref b, a1] (tm_St G Hb sh M)) Qc mc ms (tm_A Hb)) (hrm : rm.cells = mc ∧ rm.slots = ms ∧ rm.frames + 1 ≤ R.frames ∧ 8 + (2 + 11) + rm.locals ≤ R.locals) (hsize : ls.size = nL) (hrest : (rest.map fun v => v.category).sum ≤ 8) (hdg : decode cc pc = .ok (.invokevirtual 154, 3)) (hf : cells + mc ≤ R.cells ∧ slots + ms ≤ R.slots) : va_Run p l e R s m args below meth c H locs cells slots mc ms (F0 m pc ls (a1 :: .ref b :: rest)) rest (Qc #[.ref b, a1]) (tm_A Hb) := tm_runV (n := 1) (As := [a1]) hexec hb hml hown htw hK hW hq (by decide) rfl ml_X8_154 im_X2_write se_X2_write in_X2 co_X2_write (by decide +kernel) hM hrm rfl hsize rfl hrest hdg hf
theorem cs_X2_34 (hexec : p.tables.exec = Jvm.exec) (hb : c.code = cc) (hml : c.maxLocals = nL) (hown : s.vm.findClass RX2 = some m.cls) (htw : ∀ w ∈ tw, w.before args s = true) (hK : va_K G.1 vwCl (tm_tys G) s) (hW : tm_W G Hb sh M H) (hq : sh b = some (4, 0)) (hM : Met l yX2_writeSide (tws yX2_writeSide cX2_writeSide 2 none) rm (va_Pc [.ref b, a1] (tm_St G Hb sh M)) Qc mc ms (tm_A Hb)) (hrm : rm.cells = mc ∧ rm.slots = ms ∧ rm.frames + 1 ≤ R.frames ∧ 8 + (2 + 11) + rm.locals ≤ R.locals) (hsize : ls.size = nL) (hrest : (rest.map fun v => v.category).sum ≤ 8) (hdg : decode cc pc = .ok (.invokevirtual 34, 3)) (hf : cells + mc ≤ R.cells ∧ slots + ms ≤ R.slots) : va_Run p l e R s m args below meth c H locs cells slots mc ms (F0 m pc ls (a1 :: .ref b :: rest)) rest (Qc #[.ref b, a1]) (tm_A Hb) := tm_runV (n := 1) (As := [a1]) hexec hb hml hown htw hK hW hq (by decide) rfl ml_X2_34 im_X2_writeSide se_X2_writeSide in_X2 co_X2_writeSide (by decide +kernel) hM hrm rfl hsize rfl hrest hdg hf
theorem cs_X2_61 (hexec : p.tables.exec = Jvm.exec) (hb : c.code = cc) (hml : c.maxLocals = nL) (hown : s.vm.findClass RX2 = some m.cls) (htw : ∀ w ∈ tw, w.before args s = true) (hK : va_K G.1 vwCl (tm_tys G) s) (hW : tm_W G Hb sh M H) (hq : sh b = some (2, 0)) (hM : Met l yX0_isZero (tws yX0_isZero cX0_isZero 1 (some .boolean)) rm (va_Pc [.ref b] (tm_St G Hb sh M)) Qc mc ms (tm_A Hb)) (hrm : rm.cells = mc ∧ rm.slots = ms ∧ rm.frames + 1 ≤ R.frames ∧ 8 + (1 + 11) + rm.locals ≤ R.locals) (hsize : ls.size = nL) (hrest : (rest.map fun v => v.category).sum ≤ 8) (hdg : decode cc pc = .ok (.invokevirtual 61, 3)) (hf : cells + mc ≤ R.cells ∧ slots + ms ≤ R.slots) : va_Run p l e R s m args below meth c H locs cells slots mc ms (F0 m pc ls (.ref b :: rest)) rest (Qc #[.ref b]) (tm_A Hb) := tm_runV (n := 0) (As := []) hexec hb hml hown htw hK hW hq (by decide) rfl ml_X2_61 im_X0_isZero se_X0_isZero in_X0 co_X0_isZero (by decide +kernel) hM hrm rfl hsize rfl hrest hdg hf
theorem cs_X2_77 (hexec : p.tables.exec = Jvm.exec) (hb : c.code = cc) (hml : c.maxLocals = nL) (hown : s.vm.findClass RX2 = some m.cls) (htw : ∀ w ∈ tw, w.before args s = true) (hK : va_K G.1 vwCl (tm_tys G) s) (hW : tm_W G Hb sh M H) (hq : sh b = some (4, 0)) (hM : Met l yX2_writeSize (tws yX2_writeSize cX2_writeSize 2 none) rm (va_Pc [.ref b, a1] (tm_St G Hb sh M)) Qc mc ms (tm_A Hb)) (hrm : rm.cells = mc ∧ rm.slots = ms ∧ rm.frames + 1 ≤ R.frames ∧ 8 + (2 + 11) + rm.locals ≤ R.locals) (hsize : ls.size = nL) (hrest : (rest.map fun v => v.category).sum ≤ 8) (hdg : decode cc pc = .ok (.invokevirtual 77, 3)) (hf : cells + mc ≤ R.cells ∧ slots + ms ≤ R.slots) : va_Run p l e R s m args below meth c H locs cells slots mc ms (F0 m pc ls (a1 :: .ref b :: rest)) rest (Qc #[.ref b, a1]) (tm_A Hb) := tm_runV (n := 1) (As := [a1]) hexec hb hml hown htw hK hW hq (by decide) rfl ml_X2_77 im_X2_writeSize se_X2_writeSize in_X2 co_X2_writeSize (by decide +kernel) hM hrm rfl hsize rfl hrest hdg hf
theorem cs_X2_81 (hexec : p.tables.exec = Jvm.exec) (hb : c.code = cc) (hml : c.maxLocals = nL) (hown : s.vm.findClass RX2 = some m.cls) (htw : ∀ w ∈ tw, w.before args s = true) (hK : va_K G.1 vwCl (tm_tys G) s) (hW : tm_W G Hb sh M H) (hq : sh b = some (4, 0)) (hM : Met l yX2_writeTimesX (tws yX2_writeTimesX cX2_writeTimesX 2 none) rm (va_Pc [.ref b, a1] (tm_St G Hb sh M)) Qc mc ms (tm_A Hb)) (hrm : rm.cells = mc ∧ rm.slots = ms ∧ rm.frames + 1 ≤ R.frames ∧ 8 + (2 + 11) + rm.locals ≤ R.locals) (hsize : ls.size = nL) (hrest : (rest.map fun v => v.category).sum ≤ 8) (hdg : decode cc pc = .ok (.invokevirtual 81, 3)) (hf : cells + mc ≤ R.cells ∧ slots + ms ≤ R.slots) : va_Run p l e R s m args below meth c H locs cells slots mc ms (F0 m pc ls (a1 :: .ref b :: rest)) rest (Qc #[.ref b, a1]) (tm_A Hb) := tm_runV (n := 1) (As := [a1]) hexec hb hml hown htw hK hW hq (by decide) rfl ml_X2_81 im_X2_writeTimesX se_X2_writeTimesX in_X2 co_X2_writeTimesX (by decide +kernel) hM hrm rfl hsize rfl hrest hdg hf
theorem cs_X2_88 (hexec : p.tables.exec = Jvm.exec) (hb : c.code = cc) (hml : c.maxLocals = nL) (hown : s.vm.findClass RX2 = some m.cls) (htw : ∀ w ∈ tw, w.before args s = true) (hK : va_K G.1 vwCl (tm_tys G) s) (hW : tm_W G Hb sh M H) (hq : sh b = some (2, 0)) (hM : Met l yX0_isWhole (tws yX0_isWhole cX0_isWhole 3 (some .boolean)) rm (va_Pc [.ref b, a1] (tm_St G Hb sh M)) Qc mc ms (tm_A Hb)) (hrm : rm.cells = mc ∧ rm.slots = ms ∧ rm.frames + 1 ≤ R.frames ∧ 8 + (3 + 11) + rm.locals ≤ R.locals) (hsize : ls.size = nL) (hrest : (rest.map fun v => v.category).sum ≤ 8) (hdg : decode cc pc = .ok (.invokevirtual 88, 3)) (hf : cells + mc ≤ R.cells ∧ slots + ms ≤ R.slots) : va_Run p l e R s m args below meth c H locs cells slots mc ms (F0 m pc ls (a1 :: .ref b :: rest)) rest (Qc #[.ref b, a1]) (tm_A Hb) := tm_runV (n := 1) (As := [a1]) hexec hb hml hown htw hK hW hq (by decide) rfl ml_X2_88 im_X0_isWhole se_X0_isWhole in_X0 co_X0_isWhole (by decide +kernel) hM hrm rfl hsize rfl hrest hdg hf
theorem cs_X8_156 (hexec : p.tables.exec = Jvm.exec) (hb : c.code = cc) (hml : c.maxLocals = nL) (hown : s.vm.findClass RX8 = some m.cls) (htw : ∀ w ∈ tw, w.before args s = true) (hK : va_K G.1 vwCl (tm_tys G) s) (hW : tm_W G Hb sh M H) (hq : sh b = some (4, 0)) (hM : Met l yX2_size (tws yX2_size cX2_size 1 (some .int)) rm (va_Pc [.ref b] (tm_St G Hb sh M)) Qc mc ms (tm_A Hb)) (hrm : rm.cells = mc ∧ rm.slots = ms ∧ rm.frames + 1 ≤ R.frames ∧ 8 + (1 + 11) + rm.locals ≤ R.locals) (hsize : ls.size = nL) (hrest : (rest.map fun v => v.category).sum ≤ 8) (hdg : decode cc pc = .ok (.invokevirtual 156, 3)) (hf : cells + mc ≤ R.cells ∧ slots + ms ≤ R.slots) : va_Run p l e R s m args below meth c H locs cells slots mc ms (F0 m pc ls (.ref b :: rest)) rest (Qc #[.ref b]) (tm_A Hb) := tm_runV (n := 0) (As := []) hexec hb hml hown htw hK hW hq (by decide) rfl ml_X8_156 im_X2_size se_X2_size in_X2 co_X2_size (by decide +kernel) hM hrm rfl hsize rfl hrest hdg hf
theorem cs_X9_67 (hexec : p.tables.exec = Jvm.exec) (hb : c.code = cc) (hml : c.maxLocals = nL) (hown : s.vm.findClass RX9 = some m.cls) (htw : ∀ w ∈ tw, w.before args s = true) (hK : va_K G.1 vwCl (tm_tys G) s) (hW : tm_W G Hb sh M H) (hM : Met l yX9_in (tws yX9_in cX9_in 6 (some .boolean)) rm (va_Pc [a1, a2, a3] (tm_St G Hb sh M)) Qc mc ms (tm_A Hb)) (hrm : rm.cells = mc ∧ rm.slots = ms ∧ rm.frames + 1 ≤ R.frames ∧ 8 + (6 + 11) + rm.locals ≤ R.locals) (hsize : ls.size = nL) (hrest : (rest.map fun v => v.category).sum ≤ 8) (hdg : decode cc pc = .ok (.invokestatic 67, 3)) (hf : cells + mc ≤ R.cells ∧ slots + ms ≤ R.slots) : va_Run p l e R s m args below meth c H locs cells slots mc ms (F0 m pc ls (a3 :: a2 :: a1 :: rest)) rest (Qc #[a1, a2, a3]) (tm_A Hb) := tm_runS (n := 3) (As := [a1, a2, a3]) hexec hb hml hown htw hK hW ml_X9_67 st_X9_in in_X9 co_X9_in (by decide +kernel) hM hrm rfl hsize rfl hrest hdg hf
theorem cs_X9_205 (hexec : p.tables.exec = Jvm.exec) (hb : c.code = cc) (hml : c.maxLocals = nL) (hown : s.vm.findClass RX9 = some m.cls) (htw : ∀ w ∈ tw, w.before args s = true) (hK : va_K G.1 vwCl (tm_tys G) s) (hW : tm_W G Hb sh M H) (hq : sh b = some (9, 0)) (hM : Met l yX9_isLength (tws yX9_isLength cX9_isLength 2 (some .boolean)) rm (va_Pc [.ref b, a1] (tm_St G Hb sh M)) Qc mc ms (tm_A Hb)) (hrm : rm.cells = mc ∧ rm.slots = ms ∧ rm.frames + 1 ≤ R.frames ∧ 8 + (2 + 11) + rm.locals ≤ R.locals) (hsize : ls.size = nL) (hrest : (rest.map fun v => v.category).sum ≤ 8) (hdg : decode cc pc = .ok (.invokevirtual 205, 3)) (hf : cells + mc ≤ R.cells ∧ slots + ms ≤ R.slots) : va_Run p l e R s m args below meth c H locs cells slots mc ms (F0 m pc ls (a1 :: .ref b :: rest)) rest (Qc #[.ref b, a1]) (tm_A Hb) := tm_runV (n := 1) (As := [a1]) hexec hb hml hown htw hK hW hq (by decide) rfl ml_X9_205 im_X9_isLength se_X9_isLength in_X9 co_X9_isLength (by decide +kernel) hM hrm rfl hsize rfl hrest hdg hf
theorem cs_X9_208 (hexec : p.tables.exec = Jvm.exec) (hb : c.code = cc) (hml : c.maxLocals = nL) (hown : s.vm.findClass RX9 = some m.cls) (htw : ∀ w ∈ tw, w.before args s = true) (hK : va_K G.1 vwCl (tm_tys G) s) (hW : tm_W G Hb sh M H) (hq : sh b = some (9, 0)) (hM : Met l yX9_read (tws yX9_read cX9_read 10 (some .boolean)) rm (va_Pc [.ref b, a1] (tm_St G Hb sh M)) Qc mc ms (tm_A Hb)) (hrm : rm.cells = mc ∧ rm.slots = ms ∧ rm.frames + 1 ≤ R.frames ∧ 8 + (10 + 11) + rm.locals ≤ R.locals) (hsize : ls.size = nL) (hrest : (rest.map fun v => v.category).sum ≤ 8) (hdg : decode cc pc = .ok (.invokevirtual 208, 3)) (hf : cells + mc ≤ R.cells ∧ slots + ms ≤ R.slots) : va_Run p l e R s m args below meth c H locs cells slots mc ms (F0 m pc ls (a1 :: .ref b :: rest)) rest (Qc #[.ref b, a1]) (tm_A Hb) := tm_runV (n := 1) (As := [a1]) hexec hb hml hown htw hK hW hq (by decide) rfl ml_X9_208 im_X9_read se_X9_read in_X9 co_X9_read (by decide +kernel) hM hrm rfl hsize rfl hrest hdg hf
theorem cs_X9_121 (hexec : p.tables.exec = Jvm.exec) (hb : c.code = cc) (hml : c.maxLocals = nL) (hown : s.vm.findClass RX9 = some m.cls) (htw : ∀ w ∈ tw, w.before args s = true) (hK : va_K G.1 vwCl (tm_tys G) s) (hW : tm_W G Hb sh M H) (hq : sh b = some (9, 0)) (hM : Met l yX9_open (tws yX9_open cX9_open 2 none) rm (va_Pc [.ref b, a1] (tm_St G Hb sh M)) Qc mc ms (tm_A Hb)) (hrm : rm.cells = mc ∧ rm.slots = ms ∧ rm.frames + 1 ≤ R.frames ∧ 8 + (2 + 11) + rm.locals ≤ R.locals) (hsize : ls.size = nL) (hrest : (rest.map fun v => v.category).sum ≤ 8) (hdg : decode cc pc = .ok (.invokevirtual 121, 3)) (hf : cells + mc ≤ R.cells ∧ slots + ms ≤ R.slots) : va_Run p l e R s m args below meth c H locs cells slots mc ms (F0 m pc ls (a1 :: .ref b :: rest)) rest (Qc #[.ref b, a1]) (tm_A Hb) := tm_runV (n := 1) (As := [a1]) hexec hb hml hown htw hK hW hq (by decide) rfl ml_X9_121 im_X9_open se_X9_open in_X9 co_X9_open (by decide +kernel) hM hrm rfl hsize rfl hrest hdg hf
theorem cs_X9_89 (hexec : p.tables.exec = Jvm.exec) (hb : c.code = cc) (hml : c.maxLocals = nL) (hown : s.vm.findClass RX9 = some m.cls) (htw : ∀ w ∈ tw, w.before args s = true) (hK : va_K G.1 vwCl (tm_tys G) s) (hW : tm_W G Hb sh M H) (hq : sh b = some (9, 0)) (hM : Met l yX9_here (tws yX9_here cX9_here 1 (some .int)) rm (va_Pc [.ref b] (tm_St G Hb sh M)) Qc mc ms (tm_A Hb)) (hrm : rm.cells = mc ∧ rm.slots = ms ∧ rm.frames + 1 ≤ R.frames ∧ 8 + (1 + 11) + rm.locals ≤ R.locals) (hsize : ls.size = nL) (hrest : (rest.map fun v => v.category).sum ≤ 8) (hdg : decode cc pc = .ok (.invokevirtual 89, 3)) (hf : cells + mc ≤ R.cells ∧ slots + ms ≤ R.slots) : va_Run p l e R s m args below meth c H locs cells slots mc ms (F0 m pc ls (.ref b :: rest)) rest (Qc #[.ref b]) (tm_A Hb) := tm_runV (n := 0) (As := []) hexec hb hml hown htw hK hW hq (by decide) rfl ml_X9_89 im_X9_here se_X9_here in_X9 co_X9_here (by decide +kernel) hM hrm rfl hsize rfl hrest hdg hf
theorem cs_X9_103 (hexec : p.tables.exec = Jvm.exec) (hb : c.code = cc) (hml : c.maxLocals = nL) (hown : s.vm.findClass RX9 = some m.cls) (htw : ∀ w ∈ tw, w.before args s = true) (hK : va_K G.1 vwCl (tm_tys G) s) (hW : tm_W G Hb sh M H) (hq : sh b = some (9, 0)) (hM : Met l yX9_fails (tws yX9_fails cX9_fails 2 (some .boolean)) rm (va_Pc [.ref b, a1] (tm_St G Hb sh M)) Qc mc ms (tm_A Hb)) (hrm : rm.cells = mc ∧ rm.slots = ms ∧ rm.frames + 1 ≤ R.frames ∧ 8 + (2 + 11) + rm.locals ≤ R.locals) (hsize : ls.size = nL) (hrest : (rest.map fun v => v.category).sum ≤ 8) (hdg : decode cc pc = .ok (.invokevirtual 103, 3)) (hf : cells + mc ≤ R.cells ∧ slots + ms ≤ R.slots) : va_Run p l e R s m args below meth c H locs cells slots mc ms (F0 m pc ls (a1 :: .ref b :: rest)) rest (Qc #[.ref b, a1]) (tm_A Hb) := tm_runV (n := 1) (As := [a1]) hexec hb hml hown htw hK hW hq (by decide) rfl ml_X9_103 im_X9_fails se_X9_fails in_X9 co_X9_fails (by decide +kernel) hM hrm rfl hsize rfl hrest hdg hf
theorem cs_X9_93 (hexec : p.tables.exec = Jvm.exec) (hb : c.code = cc) (hml : c.maxLocals = nL) (hown : s.vm.findClass RX9 = some m.cls) (htw : ∀ w ∈ tw, w.before args s = true) (hK : va_K G.1 vwCl (tm_tys G) s) (hW : tm_W G Hb sh M H) (hM : Met l yX9_isDigit (tws yX9_isDigit cX9_isDigit 1 (some .boolean)) rm (va_Pc [a1] (tm_St G Hb sh M)) Qc mc ms (tm_A Hb)) (hrm : rm.cells = mc ∧ rm.slots = ms ∧ rm.frames + 1 ≤ R.frames ∧ 8 + (1 + 11) + rm.locals ≤ R.locals) (hsize : ls.size = nL) (hrest : (rest.map fun v => v.category).sum ≤ 8) (hdg : decode cc pc = .ok (.invokestatic 93, 3)) (hf : cells + mc ≤ R.cells ∧ slots + ms ≤ R.slots) : va_Run p l e R s m args below meth c H locs cells slots mc ms (F0 m pc ls (a1 :: rest)) rest (Qc #[a1]) (tm_A Hb) := tm_runS (n := 1) (As := [a1]) hexec hb hml hown htw hK hW ml_X9_93 st_X9_isDigit in_X9 co_X9_isDigit (by decide +kernel) hM hrm rfl hsize rfl hrest hdg hf
theorem cs_X9_118 (hexec : p.tables.exec = Jvm.exec) (hb : c.code = cc) (hml : c.maxLocals = nL) (hown : s.vm.findClass RX9 = some m.cls) (htw : ∀ w ∈ tw, w.before args s = true) (hK : va_K G.1 vwCl (tm_tys G) s) (hW : tm_W G Hb sh M H) (hq : sh b = some (9, 0)) (hM : Met l yX9_digits (tws yX9_digits cX9_digits 2 none) rm (va_Pc [.ref b] (tm_St G Hb sh M)) Qc mc ms (tm_A Hb)) (hrm : rm.cells = mc ∧ rm.slots = ms ∧ rm.frames + 1 ≤ R.frames ∧ 8 + (2 + 11) + rm.locals ≤ R.locals) (hsize : ls.size = nL) (hrest : (rest.map fun v => v.category).sum ≤ 8) (hdg : decode cc pc = .ok (.invokevirtual 118, 3)) (hf : cells + mc ≤ R.cells ∧ slots + ms ≤ R.slots) : va_Run p l e R s m args below meth c H locs cells slots mc ms (F0 m pc ls (.ref b :: rest)) rest (Qc #[.ref b]) (tm_A Hb) := tm_runV (n := 0) (As := []) hexec hb hml hown htw hK hW hq (by decide) rfl ml_X9_118 im_X9_digits se_X9_digits in_X9 co_X9_digits (by decide +kernel) hM hrm rfl hsize rfl hrest hdg hf
theorem cs_X9_125 (hexec : p.tables.exec = Jvm.exec) (hb : c.code = cc) (hml : c.maxLocals = nL) (hown : s.vm.findClass RX9 = some m.cls) (htw : ∀ w ∈ tw, w.before args s = true) (hK : va_K G.1 vwCl (tm_tys G) s) (hW : tm_W G Hb sh M H) (hq : sh b = some (9, 0)) (hM : Met l yX9_simple (tws yX9_simple cX9_simple 5 (some .boolean)) rm (va_Pc [.ref b, a1, a2] (tm_St G Hb sh M)) Qc mc ms (tm_A Hb)) (hrm : rm.cells = mc ∧ rm.slots = ms ∧ rm.frames + 1 ≤ R.frames ∧ 8 + (5 + 11) + rm.locals ≤ R.locals) (hsize : ls.size = nL) (hrest : (rest.map fun v => v.category).sum ≤ 8) (hdg : decode cc pc = .ok (.invokevirtual 125, 3)) (hf : cells + mc ≤ R.cells ∧ slots + ms ≤ R.slots) : va_Run p l e R s m args below meth c H locs cells slots mc ms (F0 m pc ls (a2 :: a1 :: .ref b :: rest)) rest (Qc #[.ref b, a1, a2]) (tm_A Hb) := tm_runV (n := 2) (As := [a1, a2]) hexec hb hml hown htw hK hW hq (by decide) rfl ml_X9_125 im_X9_simple se_X9_simple in_X9 co_X9_simple (by decide +kernel) hM hrm rfl hsize rfl hrest hdg hf
theorem cs_X9_114 (hexec : p.tables.exec = Jvm.exec) (hb : c.code = cc) (hml : c.maxLocals = nL) (hown : s.vm.findClass RX9 = some m.cls) (htw : ∀ w ∈ tw, w.before args s = true) (hK : va_K G.1 vwCl (tm_tys G) s) (hW : tm_W G Hb sh M H) (hq : sh b = some (9, 0)) (hM : Met l yX9_factor (tws yX9_factor cX9_factor 15 (some .boolean)) rm (va_Pc [.ref b, a1, a2] (tm_St G Hb sh M)) Qc mc ms (tm_A Hb)) (hrm : rm.cells = mc ∧ rm.slots = ms ∧ rm.frames + 1 ≤ R.frames ∧ 8 + (15 + 11) + rm.locals ≤ R.locals) (hsize : ls.size = nL) (hrest : (rest.map fun v => v.category).sum ≤ 8) (hdg : decode cc pc = .ok (.invokevirtual 114, 3)) (hf : cells + mc ≤ R.cells ∧ slots + ms ≤ R.slots) : va_Run p l e R s m args below meth c H locs cells slots mc ms (F0 m pc ls (a2 :: a1 :: .ref b :: rest)) rest (Qc #[.ref b, a1, a2]) (tm_A Hb) := tm_runV (n := 2) (As := [a1, a2]) hexec hb hml hown htw hK hW hq (by decide) rfl ml_X9_114 im_X9_factor se_X9_factor in_X9 co_X9_factor (by decide +kernel) hM hrm rfl hsize rfl hrest hdg hf
theorem cs_X9_106 (hexec : p.tables.exec = Jvm.exec) (hb : c.code = cc) (hml : c.maxLocals = nL) (hown : s.vm.findClass RX9 = some m.cls) (htw : ∀ w ∈ tw, w.before args s = true) (hK : va_K G.1 vwCl (tm_tys G) s) (hW : tm_W G Hb sh M H) (hq : sh b = some (9, 0)) (hM : Met l yX9_make (tws yX9_make cX9_make 7 none) rm (va_Pc [.ref b, a1, a2] (tm_St G Hb sh M)) Qc mc ms (tm_A Hb)) (hrm : rm.cells = mc ∧ rm.slots = ms ∧ rm.frames + 1 ≤ R.frames ∧ 8 + (7 + 11) + rm.locals ≤ R.locals) (hsize : ls.size = nL) (hrest : (rest.map fun v => v.category).sum ≤ 8) (hdg : decode cc pc = .ok (.invokevirtual 106, 3)) (hf : cells + mc ≤ R.cells ∧ slots + ms ≤ R.slots) : va_Run p l e R s m args below meth c H locs cells slots mc ms (F0 m pc ls (a2 :: a1 :: .ref b :: rest)) rest (Qc #[.ref b, a1, a2]) (tm_A Hb) := tm_runV (n := 2) (As := [a1, a2]) hexec hb hml hown htw hK hW hq (by decide) rfl ml_X9_106 im_X9_make se_X9_make in_X9 co_X9_make (by decide +kernel) hM hrm rfl hsize rfl hrest hdg hf
theorem cs_X9_52 (hexec : p.tables.exec = Jvm.exec) (hb : c.code = cc) (hml : c.maxLocals = nL) (hown : s.vm.findClass RX9 = some m.cls) (htw : ∀ w ∈ tw, w.before args s = true) (hK : va_K G.1 vwCl (tm_tys G) s) (hW : tm_W G Hb sh M H) (hM : Met l yX9_gcd (tws yX9_gcd cX9_gcd 10 (some .long)) rm (va_Pc [a1, a2] (tm_St G Hb sh M)) Qc mc ms (tm_A Hb)) (hrm : rm.cells = mc ∧ rm.slots = ms ∧ rm.frames + 1 ≤ R.frames ∧ 8 + (10 + 11) + rm.locals ≤ R.locals) (hsize : ls.size = nL) (hrest : (rest.map fun v => v.category).sum ≤ 8) (hdg : decode cc pc = .ok (.invokestatic 52, 3)) (hf : cells + mc ≤ R.cells ∧ slots + ms ≤ R.slots) : va_Run p l e R s m args below meth c H locs cells slots mc ms (F0 m pc ls (a2 :: a1 :: rest)) rest (Qc #[a1, a2]) (tm_A Hb) := tm_runS (n := 2) (As := [a1, a2]) hexec hb hml hown htw hK hW ml_X9_52 st_X9_gcd in_X9 co_X9_gcd (by decide +kernel) hM hrm rfl hsize rfl hrest hdg hf
theorem cs_X9_110 (hexec : p.tables.exec = Jvm.exec) (hb : c.code = cc) (hml : c.maxLocals = nL) (hown : s.vm.findClass RX9 = some m.cls) (htw : ∀ w ∈ tw, w.before args s = true) (hK : va_K G.1 vwCl (tm_tys G) s) (hW : tm_W G Hb sh M H) (hq : sh b = some (9, 0)) (hM : Met l yX9_isGreat (tws yX9_isGreat cX9_isGreat 1 (some .boolean)) rm (va_Pc [.ref b] (tm_St G Hb sh M)) Qc mc ms (tm_A Hb)) (hrm : rm.cells = mc ∧ rm.slots = ms ∧ rm.frames + 1 ≤ R.frames ∧ 8 + (1 + 11) + rm.locals ≤ R.locals) (hsize : ls.size = nL) (hrest : (rest.map fun v => v.category).sum ≤ 8) (hdg : decode cc pc = .ok (.invokevirtual 110, 3)) (hf : cells + mc ≤ R.cells ∧ slots + ms ≤ R.slots) : va_Run p l e R s m args below meth c H locs cells slots mc ms (F0 m pc ls (.ref b :: rest)) rest (Qc #[.ref b]) (tm_A Hb) := tm_runV (n := 0) (As := []) hexec hb hml hown htw hK hW hq (by decide) rfl ml_X9_110 im_X9_isGreat se_X9_isGreat in_X9 co_X9_isGreat (by decide +kernel) hM hrm rfl hsize rfl hrest hdg hf
theorem cs_X9_129 (hexec : p.tables.exec = Jvm.exec) (hb : c.code = cc) (hml : c.maxLocals = nL) (hown : s.vm.findClass RX9 = some m.cls) (htw : ∀ w ∈ tw, w.before args s = true) (hK : va_K G.1 vwCl (tm_tys G) s) (hW : tm_W G Hb sh M H) (hq : sh b = some (9, 0)) (hM : Met l yX9_divide (tws yX9_divide cX9_divide 4 (some .boolean)) rm (va_Pc [.ref b, a1] (tm_St G Hb sh M)) Qc mc ms (tm_A Hb)) (hrm : rm.cells = mc ∧ rm.slots = ms ∧ rm.frames + 1 ≤ R.frames ∧ 8 + (4 + 11) + rm.locals ≤ R.locals) (hsize : ls.size = nL) (hrest : (rest.map fun v => v.category).sum ≤ 8) (hdg : decode cc pc = .ok (.invokevirtual 129, 3)) (hf : cells + mc ≤ R.cells ∧ slots + ms ≤ R.slots) : va_Run p l e R s m args below meth c H locs cells slots mc ms (F0 m pc ls (a1 :: .ref b :: rest)) rest (Qc #[.ref b, a1]) (tm_A Hb) := tm_runV (n := 1) (As := [a1]) hexec hb hml hown htw hK hW hq (by decide) rfl ml_X9_129 im_X9_divide se_X9_divide in_X9 co_X9_divide (by decide +kernel) hM hrm rfl hsize rfl hrest hdg hf
theorem cs_X9_132 (hexec : p.tables.exec = Jvm.exec) (hb : c.code = cc) (hml : c.maxLocals = nL) (hown : s.vm.findClass RX9 = some m.cls) (htw : ∀ w ∈ tw, w.before args s = true) (hK : va_K G.1 vwCl (tm_tys G) s) (hW : tm_W G Hb sh M H) (hq : sh b = some (9, 0)) (hM : Met l yX9_term (tws yX9_term cX9_term 8 (some .boolean)) rm (va_Pc [.ref b] (tm_St G Hb sh M)) Qc mc ms (tm_A Hb)) (hrm : rm.cells = mc ∧ rm.slots = ms ∧ rm.frames + 1 ≤ R.frames ∧ 8 + (8 + 11) + rm.locals ≤ R.locals) (hsize : ls.size = nL) (hrest : (rest.map fun v => v.category).sum ≤ 8) (hdg : decode cc pc = .ok (.invokevirtual 132, 3)) (hf : cells + mc ≤ R.cells ∧ slots + ms ≤ R.slots) : va_Run p l e R s m args below meth c H locs cells slots mc ms (F0 m pc ls (.ref b :: rest)) rest (Qc #[.ref b]) (tm_A Hb) := tm_runV (n := 0) (As := []) hexec hb hml hown htw hK hW hq (by decide) rfl ml_X9_132 im_X9_term se_X9_term in_X9 co_X9_term (by decide +kernel) hM hrm rfl hsize rfl hrest hdg hf
theorem cs_X9_180 (hexec : p.tables.exec = Jvm.exec) (hb : c.code = cc) (hml : c.maxLocals = nL) (hown : s.vm.findClass RX9 = some m.cls) (htw : ∀ w ∈ tw, w.before args s = true) (hK : va_K G.1 vwCl (tm_tys G) s) (hW : tm_W G Hb sh M H) (hq : sh b = some (9, 0)) (hM : Met l yX9_copyLine (tws yX9_copyLine cX9_copyLine 4 none) rm (va_Pc [.ref b, a1, a2] (tm_St G Hb sh M)) Qc mc ms (tm_A Hb)) (hrm : rm.cells = mc ∧ rm.slots = ms ∧ rm.frames + 1 ≤ R.frames ∧ 8 + (4 + 11) + rm.locals ≤ R.locals) (hsize : ls.size = nL) (hrest : (rest.map fun v => v.category).sum ≤ 8) (hdg : decode cc pc = .ok (.invokevirtual 180, 3)) (hf : cells + mc ≤ R.cells ∧ slots + ms ≤ R.slots) : va_Run p l e R s m args below meth c H locs cells slots mc ms (F0 m pc ls (a2 :: a1 :: .ref b :: rest)) rest (Qc #[.ref b, a1, a2]) (tm_A Hb) := tm_runV (n := 2) (As := [a1, a2]) hexec hb hml hown htw hK hW hq (by decide) rfl ml_X9_180 im_X9_copyLine se_X9_copyLine in_X9 co_X9_copyLine (by decide +kernel) hM hrm rfl hsize rfl hrest hdg hf
theorem cs_X9_166 (hexec : p.tables.exec = Jvm.exec) (hb : c.code = cc) (hml : c.maxLocals = nL) (hown : s.vm.findClass RX9 = some m.cls) (htw : ∀ w ∈ tw, w.before args s = true) (hK : va_K G.1 vwCl (tm_tys G) s) (hW : tm_W G Hb sh M H) (hq : sh b = some (9, 0)) (hM : Met l yX9_last (tws yX9_last cX9_last 1 (some .int)) rm (va_Pc [.ref b] (tm_St G Hb sh M)) Qc mc ms (tm_A Hb)) (hrm : rm.cells = mc ∧ rm.slots = ms ∧ rm.frames + 1 ≤ R.frames ∧ 8 + (1 + 11) + rm.locals ≤ R.locals) (hsize : ls.size = nL) (hrest : (rest.map fun v => v.category).sum ≤ 8) (hdg : decode cc pc = .ok (.invokevirtual 166, 3)) (hf : cells + mc ≤ R.cells ∧ slots + ms ≤ R.slots) : va_Run p l e R s m args below meth c H locs cells slots mc ms (F0 m pc ls (.ref b :: rest)) rest (Qc #[.ref b]) (tm_A Hb) := tm_runV (n := 0) (As := []) hexec hb hml hown htw hK hW hq (by decide) rfl ml_X9_166 im_X9_last se_X9_last in_X9 co_X9_last (by decide +kernel) hM hrm rfl hsize rfl hrest hdg hf
theorem cs_X9_214 (hexec : p.tables.exec = Jvm.exec) (hb : c.code = cc) (hml : c.maxLocals = nL) (hown : s.vm.findClass RX9 = some m.cls) (htw : ∀ w ∈ tw, w.before args s = true) (hK : va_K G.1 vwCl (tm_tys G) s) (hW : tm_W G Hb sh M H) (hq : sh b = some (9, 0)) (hM : Met l yX9_isPart (tws yX9_isPart cX9_isPart 8 (some .boolean)) rm (va_Pc [.ref b, a1, a2] (tm_St G Hb sh M)) Qc mc ms (tm_A Hb)) (hrm : rm.cells = mc ∧ rm.slots = ms ∧ rm.frames + 1 ≤ R.frames ∧ 8 + (8 + 11) + rm.locals ≤ R.locals) (hsize : ls.size = nL) (hrest : (rest.map fun v => v.category).sum ≤ 8) (hdg : decode cc pc = .ok (.invokevirtual 214, 3)) (hf : cells + mc ≤ R.cells ∧ slots + ms ≤ R.slots) : va_Run p l e R s m args below meth c H locs cells slots mc ms (F0 m pc ls (a2 :: a1 :: .ref b :: rest)) rest (Qc #[.ref b, a1, a2]) (tm_A Hb) := tm_runV (n := 2) (As := [a1, a2]) hexec hb hml hown htw hK hW hq (by decide) rfl ml_X9_214 im_X9_isPart se_X9_isPart in_X9 co_X9_isPart (by decide +kernel) hM hrm rfl hsize rfl hrest hdg hf
theorem cs_X9_153 (hexec : p.tables.exec = Jvm.exec) (hb : c.code = cc) (hml : c.maxLocals = nL) (hown : s.vm.findClass RX9 = some m.cls) (htw : ∀ w ∈ tw, w.before args s = true) (hK : va_K G.1 vwCl (tm_tys G) s) (hW : tm_W G Hb sh M H) (hq : sh b = some (9, 0)) (hM : Met l yX9_solve (tws yX9_solve cX9_solve 10 none) rm (va_Pc [.ref b, a1] (tm_St G Hb sh M)) Qc mc ms (tm_A Hb)) (hrm : rm.cells = mc ∧ rm.slots = ms ∧ rm.frames + 1 ≤ R.frames ∧ 8 + (10 + 11) + rm.locals ≤ R.locals) (hsize : ls.size = nL) (hrest : (rest.map fun v => v.category).sum ≤ 8) (hdg : decode cc pc = .ok (.invokevirtual 153, 3)) (hf : cells + mc ≤ R.cells ∧ slots + ms ≤ R.slots) : va_Run p l e R s m args below meth c H locs cells slots mc ms (F0 m pc ls (a1 :: .ref b :: rest)) rest (Qc #[.ref b, a1]) (tm_A Hb) := tm_runV (n := 1) (As := [a1]) hexec hb hml hown htw hK hW hq (by decide) rfl ml_X9_153 im_X9_solve se_X9_solve in_X9 co_X9_solve (by decide +kernel) hM hrm rfl hsize rfl hrest hdg hf
theorem cs_X9_156 (hexec : p.tables.exec = Jvm.exec) (hb : c.code = cc) (hml : c.maxLocals = nL) (hown : s.vm.findClass RX9 = some m.cls) (htw : ∀ w ∈ tw, w.before args s = true) (hK : va_K G.1 vwCl (tm_tys G) s) (hW : tm_W G Hb sh M H) (hq : sh b = some (9, 0)) (hM : Met l yX9_solves (tws yX9_solves cX9_solves 6 (some .boolean)) rm (va_Pc [.ref b, a1, a2] (tm_St G Hb sh M)) Qc mc ms (tm_A Hb)) (hrm : rm.cells = mc ∧ rm.slots = ms ∧ rm.frames + 1 ≤ R.frames ∧ 8 + (6 + 11) + rm.locals ≤ R.locals) (hsize : ls.size = nL) (hrest : (rest.map fun v => v.category).sum ≤ 8) (hdg : decode cc pc = .ok (.invokevirtual 156, 3)) (hf : cells + mc ≤ R.cells ∧ slots + ms ≤ R.slots) : va_Run p l e R s m args below meth c H locs cells slots mc ms (F0 m pc ls (a2 :: a1 :: .ref b :: rest)) rest (Qc #[.ref b, a1, a2]) (tm_A Hb) := tm_runV (n := 2) (As := [a1, a2]) hexec hb hml hown htw hK hW hq (by decide) rfl ml_X9_156 im_X9_solves se_X9_solves in_X9 co_X9_solves (by decide +kernel) hM hrm rfl hsize rfl hrest hdg hf
theorem cs_X9_149 (hexec : p.tables.exec = Jvm.exec) (hb : c.code = cc) (hml : c.maxLocals = nL) (hown : s.vm.findClass RX9 = some m.cls) (htw : ∀ w ∈ tw, w.before args s = true) (hK : va_K G.1 vwCl (tm_tys G) s) (hW : tm_W G Hb sh M H) (hq : sh b = some (9, 0)) (hM : Met l yX9_order (tws yX9_order cX9_order 21 (some .int)) rm (va_Pc [.ref b, a1, a2] (tm_St G Hb sh M)) Qc mc ms (tm_A Hb)) (hrm : rm.cells = mc ∧ rm.slots = ms ∧ rm.frames + 1 ≤ R.frames ∧ 8 + (21 + 11) + rm.locals ≤ R.locals) (hsize : ls.size = nL) (hrest : (rest.map fun v => v.category).sum ≤ 8) (hdg : decode cc pc = .ok (.invokevirtual 149, 3)) (hf : cells + mc ≤ R.cells ∧ slots + ms ≤ R.slots) : va_Run p l e R s m args below meth c H locs cells slots mc ms (F0 m pc ls (a2 :: a1 :: .ref b :: rest)) rest (Qc #[.ref b, a1, a2]) (tm_A Hb) := tm_runV (n := 2) (As := [a1, a2]) hexec hb hml hown htw hK hW hq (by decide) rfl ml_X9_149 im_X9_order se_X9_order in_X9 co_X9_order (by decide +kernel) hM hrm rfl hsize rfl hrest hdg hf
theorem cs_X9_146 (hexec : p.tables.exec = Jvm.exec) (hb : c.code = cc) (hml : c.maxLocals = nL) (hown : s.vm.findClass RX9 = some m.cls) (htw : ∀ w ∈ tw, w.before args s = true) (hK : va_K G.1 vwCl (tm_tys G) s) (hW : tm_W G Hb sh M H) (hM : Met l yX9_down (tws yX9_down cX9_down 4 (some .long)) rm (va_Pc [a1, a2] (tm_St G Hb sh M)) Qc mc ms (tm_A Hb)) (hrm : rm.cells = mc ∧ rm.slots = ms ∧ rm.frames + 1 ≤ R.frames ∧ 8 + (4 + 11) + rm.locals ≤ R.locals) (hsize : ls.size = nL) (hrest : (rest.map fun v => v.category).sum ≤ 8) (hdg : decode cc pc = .ok (.invokestatic 146, 3)) (hf : cells + mc ≤ R.cells ∧ slots + ms ≤ R.slots) : va_Run p l e R s m args below meth c H locs cells slots mc ms (F0 m pc ls (a2 :: a1 :: rest)) rest (Qc #[a1, a2]) (tm_A Hb) := tm_runS (n := 2) (As := [a1, a2]) hexec hb hml hown htw hK hW ml_X9_146 st_X9_down in_X9 co_X9_down (by decide +kernel) hM hrm rfl hsize rfl hrest hdg hf
theorem cs_X9_217 (hexec : p.tables.exec = Jvm.exec) (hb : c.code = cc) (hml : c.maxLocals = nL) (hown : s.vm.findClass RX9 = some m.cls) (htw : ∀ w ∈ tw, w.before args s = true) (hK : va_K G.1 vwCl (tm_tys G) s) (hW : tm_W G Hb sh M H) (hq : sh b = some (9, 0)) (hM : Met l yX9_plan (tws yX9_plan cX9_plan 3 (some .int)) rm (va_Pc [.ref b] (tm_St G Hb sh M)) Qc mc ms (tm_A Hb)) (hrm : rm.cells = mc ∧ rm.slots = ms ∧ rm.frames + 1 ≤ R.frames ∧ 8 + (3 + 11) + rm.locals ≤ R.locals) (hsize : ls.size = nL) (hrest : (rest.map fun v => v.category).sum ≤ 8) (hdg : decode cc pc = .ok (.invokevirtual 217, 3)) (hf : cells + mc ≤ R.cells ∧ slots + ms ≤ R.slots) : va_Run p l e R s m args below meth c H locs cells slots mc ms (F0 m pc ls (.ref b :: rest)) rest (Qc #[.ref b]) (tm_A Hb) := tm_runV (n := 0) (As := []) hexec hb hml hown htw hK hW hq (by decide) rfl ml_X9_217 im_X9_plan se_X9_plan in_X9 co_X9_plan (by decide +kernel) hM hrm rfl hsize rfl hrest hdg hf
theorem cs_X9_169 (hexec : p.tables.exec = Jvm.exec) (hb : c.code = cc) (hml : c.maxLocals = nL) (hown : s.vm.findClass RX9 = some m.cls) (htw : ∀ w ∈ tw, w.before args s = true) (hK : va_K G.1 vwCl (tm_tys G) s) (hW : tm_W G Hb sh M H) (hq : sh b = some (9, 0)) (hM : Met l yX9_above (tws yX9_above cX9_above 2 (some .long)) rm (va_Pc [.ref b, a1] (tm_St G Hb sh M)) Qc mc ms (tm_A Hb)) (hrm : rm.cells = mc ∧ rm.slots = ms ∧ rm.frames + 1 ≤ R.frames ∧ 8 + (2 + 11) + rm.locals ≤ R.locals) (hsize : ls.size = nL) (hrest : (rest.map fun v => v.category).sum ≤ 8) (hdg : decode cc pc = .ok (.invokevirtual 169, 3)) (hf : cells + mc ≤ R.cells ∧ slots + ms ≤ R.slots) : va_Run p l e R s m args below meth c H locs cells slots mc ms (F0 m pc ls (a1 :: .ref b :: rest)) rest (Qc #[.ref b, a1]) (tm_A Hb) := tm_runV (n := 1) (As := [a1]) hexec hb hml hown htw hK hW hq (by decide) rfl ml_X9_169 im_X9_above se_X9_above in_X9 co_X9_above (by decide +kernel) hM hrm rfl hsize rfl hrest hdg hf
theorem cs_X9_184 (hexec : p.tables.exec = Jvm.exec) (hb : c.code = cc) (hml : c.maxLocals = nL) (hown : s.vm.findClass RX9 = some m.cls) (htw : ∀ w ∈ tw, w.before args s = true) (hK : va_K G.1 vwCl (tm_tys G) s) (hW : tm_W G Hb sh M H) (hq : sh b = some (9, 0)) (hM : Met l yX9_join (tws yX9_join cX9_join 8 none) rm (va_Pc [.ref b, a1, a2, a3, a4, a5] (tm_St G Hb sh M)) Qc mc ms (tm_A Hb)) (hrm : rm.cells = mc ∧ rm.slots = ms ∧ rm.frames + 1 ≤ R.frames ∧ 8 + (8 + 11) + rm.locals ≤ R.locals) (hsize : ls.size = nL) (hrest : (rest.map fun v => v.category).sum ≤ 8) (hdg : decode cc pc = .ok (.invokevirtual 184, 3)) (hf : cells + mc ≤ R.cells ∧ slots + ms ≤ R.slots) : va_Run p l e R s m args below meth c H locs cells slots mc ms (F0 m pc ls (a5 :: a4 :: a3 :: a2 :: a1 :: .ref b :: rest)) rest (Qc #[.ref b, a1, a2, a3, a4, a5]) (tm_A Hb) := tm_runV (n := 5) (As := [a1, a2, a3, a4, a5]) hexec hb hml hown htw hK hW hq (by decide) rfl ml_X9_184 im_X9_join se_X9_join in_X9 co_X9_join (by decide +kernel) hM hrm rfl hsize rfl hrest hdg hf
theorem cs_X9_173 (hexec : p.tables.exec = Jvm.exec) (hb : c.code = cc) (hml : c.maxLocals = nL) (hown : s.vm.findClass RX9 = some m.cls) (htw : ∀ w ∈ tw, w.before args s = true) (hK : va_K G.1 vwCl (tm_tys G) s) (hW : tm_W G Hb sh M H) (hq : sh b = some (9, 0)) (hM : Met l yX9_below (tws yX9_below cX9_below 2 (some .long)) rm (va_Pc [.ref b, a1] (tm_St G Hb sh M)) Qc mc ms (tm_A Hb)) (hrm : rm.cells = mc ∧ rm.slots = ms ∧ rm.frames + 1 ≤ R.frames ∧ 8 + (2 + 11) + rm.locals ≤ R.locals) (hsize : ls.size = nL) (hrest : (rest.map fun v => v.category).sum ≤ 8) (hdg : decode cc pc = .ok (.invokevirtual 173, 3)) (hf : cells + mc ≤ R.cells ∧ slots + ms ≤ R.slots) : va_Run p l e R s m args below meth c H locs cells slots mc ms (F0 m pc ls (a1 :: .ref b :: rest)) rest (Qc #[.ref b, a1]) (tm_A Hb) := tm_runV (n := 1) (As := [a1]) hexec hb hml hown htw hK hW hq (by decide) rfl ml_X9_173 im_X9_below se_X9_below in_X9 co_X9_below (by decide +kernel) hM hrm rfl hsize rfl hrest hdg hf
theorem cs_X9_176 (hexec : p.tables.exec = Jvm.exec) (hb : c.code = cc) (hml : c.maxLocals = nL) (hown : s.vm.findClass RX9 = some m.cls) (htw : ∀ w ∈ tw, w.before args s = true) (hK : va_K G.1 vwCl (tm_tys G) s) (hW : tm_W G Hb sh M H) (hq : sh b = some (9, 0)) (hM : Met l yX9_write (tws yX9_write cX9_write 7 none) rm (va_Pc [.ref b, a1, a2, a3, a4] (tm_St G Hb sh M)) Qc mc ms (tm_A Hb)) (hrm : rm.cells = mc ∧ rm.slots = ms ∧ rm.frames + 1 ≤ R.frames ∧ 8 + (7 + 11) + rm.locals ≤ R.locals) (hsize : ls.size = nL) (hrest : (rest.map fun v => v.category).sum ≤ 8) (hdg : decode cc pc = .ok (.invokevirtual 176, 3)) (hf : cells + mc ≤ R.cells ∧ slots + ms ≤ R.slots) : va_Run p l e R s m args below meth c H locs cells slots mc ms (F0 m pc ls (a4 :: a3 :: a2 :: a1 :: .ref b :: rest)) rest (Qc #[.ref b, a1, a2, a3, a4]) (tm_A Hb) := tm_runV (n := 4) (As := [a1, a2, a3, a4]) hexec hb hml hown htw hK hW hq (by decide) rfl ml_X9_176 im_X9_write se_X9_write in_X9 co_X9_write (by decide +kernel) hM hrm rfl hsize rfl hrest hdg hf
theorem cs_X9_188 (hexec : p.tables.exec = Jvm.exec) (hb : c.code = cc) (hml : c.maxLocals = nL) (hown : s.vm.findClass RX9 = some m.cls) (htw : ∀ w ∈ tw, w.before args s = true) (hK : va_K G.1 vwCl (tm_tys G) s) (hW : tm_W G Hb sh M H) (hq : sh b = some (9, 0)) (hM : Met l yX9_isOne (tws yX9_isOne cX9_isOne 2 (some .boolean)) rm (va_Pc [.ref b, a1] (tm_St G Hb sh M)) Qc mc ms (tm_A Hb)) (hrm : rm.cells = mc ∧ rm.slots = ms ∧ rm.frames + 1 ≤ R.frames ∧ 8 + (2 + 11) + rm.locals ≤ R.locals) (hsize : ls.size = nL) (hrest : (rest.map fun v => v.category).sum ≤ 8) (hdg : decode cc pc = .ok (.invokevirtual 188, 3)) (hf : cells + mc ≤ R.cells ∧ slots + ms ≤ R.slots) : va_Run p l e R s m args below meth c H locs cells slots mc ms (F0 m pc ls (a1 :: .ref b :: rest)) rest (Qc #[.ref b, a1]) (tm_A Hb) := tm_runV (n := 1) (As := [a1]) hexec hb hml hown htw hK hW hq (by decide) rfl ml_X9_188 im_X9_isOne se_X9_isOne in_X9 co_X9_isOne (by decide +kernel) hM hrm rfl hsize rfl hrest hdg hf
theorem cs_X9_196 (hexec : p.tables.exec = Jvm.exec) (hb : c.code = cc) (hml : c.maxLocals = nL) (hown : s.vm.findClass RX9 = some m.cls) (htw : ∀ w ∈ tw, w.before args s = true) (hK : va_K G.1 vwCl (tm_tys G) s) (hW : tm_W G Hb sh M H) (hq : sh b = some (9, 0)) (hM : Met l yX9_isSame (tws yX9_isSame cX9_isSame 5 (some .boolean)) rm (va_Pc [.ref b, a1, a2] (tm_St G Hb sh M)) Qc mc ms (tm_A Hb)) (hrm : rm.cells = mc ∧ rm.slots = ms ∧ rm.frames + 1 ≤ R.frames ∧ 8 + (5 + 11) + rm.locals ≤ R.locals) (hsize : ls.size = nL) (hrest : (rest.map fun v => v.category).sum ≤ 8) (hdg : decode cc pc = .ok (.invokevirtual 196, 3)) (hf : cells + mc ≤ R.cells ∧ slots + ms ≤ R.slots) : va_Run p l e R s m args below meth c H locs cells slots mc ms (F0 m pc ls (a2 :: a1 :: .ref b :: rest)) rest (Qc #[.ref b, a1, a2]) (tm_A Hb) := tm_runV (n := 2) (As := [a1, a2]) hexec hb hml hown htw hK hW hq (by decide) rfl ml_X9_196 im_X9_isSame se_X9_isSame in_X9 co_X9_isSame (by decide +kernel) hM hrm rfl hsize rfl hrest hdg hf
theorem cs_X9_220 (hexec : p.tables.exec = Jvm.exec) (hb : c.code = cc) (hml : c.maxLocals = nL) (hown : s.vm.findClass RX9 = some m.cls) (htw : ∀ w ∈ tw, w.before args s = true) (hK : va_K G.1 vwCl (tm_tys G) s) (hW : tm_W G Hb sh M H) (hq : sh b = some (9, 0)) (hM : Met l yX9_explained (tws yX9_explained cX9_explained 2 (some .int)) rm (va_Pc [.ref b] (tm_St G Hb sh M)) Qc mc ms (tm_A Hb)) (hrm : rm.cells = mc ∧ rm.slots = ms ∧ rm.frames + 1 ≤ R.frames ∧ 8 + (2 + 11) + rm.locals ≤ R.locals) (hsize : ls.size = nL) (hrest : (rest.map fun v => v.category).sum ≤ 8) (hdg : decode cc pc = .ok (.invokevirtual 220, 3)) (hf : cells + mc ≤ R.cells ∧ slots + ms ≤ R.slots) : va_Run p l e R s m args below meth c H locs cells slots mc ms (F0 m pc ls (.ref b :: rest)) rest (Qc #[.ref b]) (tm_A Hb) := tm_runV (n := 0) (As := []) hexec hb hml hown htw hK hW hq (by decide) rfl ml_X9_220 im_X9_explained se_X9_explained in_X9 co_X9_explained (by decide +kernel) hM hrm rfl hsize rfl hrest hdg hf
theorem cs_X9_200 (hexec : p.tables.exec = Jvm.exec) (hb : c.code = cc) (hml : c.maxLocals = nL) (hown : s.vm.findClass RX9 = some m.cls) (htw : ∀ w ∈ tw, w.before args s = true) (hK : va_K G.1 vwCl (tm_tys G) s) (hW : tm_W G Hb sh M H) (hq : sh b = some (9, 0)) (hM : Met l yX9_slips (tws yX9_slips cX9_slips 5 (some .boolean)) rm (va_Pc [.ref b, a1] (tm_St G Hb sh M)) Qc mc ms (tm_A Hb)) (hrm : rm.cells = mc ∧ rm.slots = ms ∧ rm.frames + 1 ≤ R.frames ∧ 8 + (5 + 11) + rm.locals ≤ R.locals) (hsize : ls.size = nL) (hrest : (rest.map fun v => v.category).sum ≤ 8) (hdg : decode cc pc = .ok (.invokevirtual 200, 3)) (hf : cells + mc ≤ R.cells ∧ slots + ms ≤ R.slots) : va_Run p l e R s m args below meth c H locs cells slots mc ms (F0 m pc ls (a1 :: .ref b :: rest)) rest (Qc #[.ref b, a1]) (tm_A Hb) := tm_runV (n := 1) (As := [a1]) hexec hb hml hown htw hK hW hq (by decide) rfl ml_X9_200 im_X9_slips se_X9_slips in_X9 co_X9_slips (by decide +kernel) hM hrm rfl hsize rfl hrest hdg hf
theorem cs_X9_193 (hexec : p.tables.exec = Jvm.exec) (hb : c.code = cc) (hml : c.maxLocals = nL) (hown : s.vm.findClass RX9 = some m.cls) (htw : ∀ w ∈ tw, w.before args s = true) (hK : va_K G.1 vwCl (tm_tys G) s) (hW : tm_W G Hb sh M H) (hq : sh b = some (9, 0)) (hM : Met l yX9_scaled (tws yX9_scaled cX9_scaled 3 none) rm (va_Pc [.ref b, a1] (tm_St G Hb sh M)) Qc mc ms (tm_A Hb)) (hrm : rm.cells = mc ∧ rm.slots = ms ∧ rm.frames + 1 ≤ R.frames ∧ 8 + (3 + 11) + rm.locals ≤ R.locals) (hsize : ls.size = nL) (hrest : (rest.map fun v => v.category).sum ≤ 8) (hdg : decode cc pc = .ok (.invokevirtual 193, 3)) (hf : cells + mc ≤ R.cells ∧ slots + ms ≤ R.slots) : va_Run p l e R s m args below meth c H locs cells slots mc ms (F0 m pc ls (a1 :: .ref b :: rest)) rest (Qc #[.ref b, a1]) (tm_A Hb) := tm_runV (n := 1) (As := [a1]) hexec hb hml hown htw hK hW hq (by decide) rfl ml_X9_193 im_X9_scaled se_X9_scaled in_X9 co_X9_scaled (by decide +kernel) hM hrm rfl hsize rfl hrest hdg hf
theorem cs_X9_228 (hexec : p.tables.exec = Jvm.exec) (hb : c.code = cc) (hml : c.maxLocals = nL) (hown : s.vm.findClass RX9 = some m.cls) (htw : ∀ w ∈ tw, w.before args s = true) (hK : va_K G.1 vwCl (tm_tys G) s) (hW : tm_W G Hb sh M H) (hq : sh b = some (9, 0)) (hM : Met l yX9_parts (tws yX9_parts cX9_parts 11 (some .boolean)) rm (va_Pc [.ref b, a1, a2] (tm_St G Hb sh M)) Qc mc ms (tm_A Hb)) (hrm : rm.cells = mc ∧ rm.slots = ms ∧ rm.frames + 1 ≤ R.frames ∧ 8 + (11 + 11) + rm.locals ≤ R.locals) (hsize : ls.size = nL) (hrest : (rest.map fun v => v.category).sum ≤ 8) (hdg : decode cc pc = .ok (.invokevirtual 228, 3)) (hf : cells + mc ≤ R.cells ∧ slots + ms ≤ R.slots) : va_Run p l e R s m args below meth c H locs cells slots mc ms (F0 m pc ls (a2 :: a1 :: .ref b :: rest)) rest (Qc #[.ref b, a1, a2]) (tm_A Hb) := tm_runV (n := 2) (As := [a1, a2]) hexec hb hml hown htw hK hW hq (by decide) rfl ml_X9_228 im_X9_parts se_X9_parts in_X9 co_X9_parts (by decide +kernel) hM hrm rfl hsize rfl hrest hdg hf
theorem cs_X9_231 (hexec : p.tables.exec = Jvm.exec) (hb : c.code = cc) (hml : c.maxLocals = nL) (hown : s.vm.findClass RX9 = some m.cls) (htw : ∀ w ∈ tw, w.before args s = true) (hK : va_K G.1 vwCl (tm_tys G) s) (hW : tm_W G Hb sh M H) (hq : sh b = some (9, 0)) (hM : Met l yX9_isTask (tws yX9_isTask cX9_isTask 1 (some .boolean)) rm (va_Pc [.ref b] (tm_St G Hb sh M)) Qc mc ms (tm_A Hb)) (hrm : rm.cells = mc ∧ rm.slots = ms ∧ rm.frames + 1 ≤ R.frames ∧ 8 + (1 + 11) + rm.locals ≤ R.locals) (hsize : ls.size = nL) (hrest : (rest.map fun v => v.category).sum ≤ 8) (hdg : decode cc pc = .ok (.invokevirtual 231, 3)) (hf : cells + mc ≤ R.cells ∧ slots + ms ≤ R.slots) : va_Run p l e R s m args below meth c H locs cells slots mc ms (F0 m pc ls (.ref b :: rest)) rest (Qc #[.ref b]) (tm_A Hb) := tm_runV (n := 0) (As := []) hexec hb hml hown htw hK hW hq (by decide) rfl ml_X9_231 im_X9_isTask se_X9_isTask in_X9 co_X9_isTask (by decide +kernel) hM hrm rfl hsize rfl hrest hdg hf
theorem cs_X9_253 (hexec : p.tables.exec = Jvm.exec) (hb : c.code = cc) (hml : c.maxLocals = nL) (hown : s.vm.findClass RX9 = some m.cls) (htw : ∀ w ∈ tw, w.before args s = true) (hK : va_K G.1 vwCl (tm_tys G) s) (hW : tm_W G Hb sh M H) (hq : sh b = some (9, 0)) (hM : Met l yX9_side (tws yX9_side cX9_side 3 none) rm (va_Pc [.ref b, a1] (tm_St G Hb sh M)) Qc mc ms (tm_A Hb)) (hrm : rm.cells = mc ∧ rm.slots = ms ∧ rm.frames + 1 ≤ R.frames ∧ 8 + (3 + 11) + rm.locals ≤ R.locals) (hsize : ls.size = nL) (hrest : (rest.map fun v => v.category).sum ≤ 8) (hdg : decode cc pc = .ok (.invokevirtual 253, 3)) (hf : cells + mc ≤ R.cells ∧ slots + ms ≤ R.slots) : va_Run p l e R s m args below meth c H locs cells slots mc ms (F0 m pc ls (a1 :: .ref b :: rest)) rest (Qc #[.ref b, a1]) (tm_A Hb) := tm_runV (n := 1) (As := [a1]) hexec hb hml hown htw hK hW hq (by decide) rfl ml_X9_253 im_X9_side se_X9_side in_X9 co_X9_side (by decide +kernel) hM hrm rfl hsize rfl hrest hdg hf
theorem cs_X9_243 (hexec : p.tables.exec = Jvm.exec) (hb : c.code = cc) (hml : c.maxLocals = nL) (hown : s.vm.findClass RX9 = some m.cls) (htw : ∀ w ∈ tw, w.before args s = true) (hK : va_K G.1 vwCl (tm_tys G) s) (hW : tm_W G Hb sh M H) (hq : sh b = some (9, 0)) (hM : Met l yX9_give (tws yX9_give cX9_give 2 none) rm (va_Pc [.ref b, a1] (tm_St G Hb sh M)) Qc mc ms (tm_A Hb)) (hrm : rm.cells = mc ∧ rm.slots = ms ∧ rm.frames + 1 ≤ R.frames ∧ 8 + (2 + 11) + rm.locals ≤ R.locals) (hsize : ls.size = nL) (hrest : (rest.map fun v => v.category).sum ≤ 8) (hdg : decode cc pc = .ok (.invokevirtual 243, 3)) (hf : cells + mc ≤ R.cells ∧ slots + ms ≤ R.slots) : va_Run p l e R s m args below meth c H locs cells slots mc ms (F0 m pc ls (a1 :: .ref b :: rest)) rest (Qc #[.ref b, a1]) (tm_A Hb) := tm_runV (n := 1) (As := [a1]) hexec hb hml hown htw hK hW hq (by decide) rfl ml_X9_243 im_X9_give se_X9_give in_X9 co_X9_give (by decide +kernel) hM hrm rfl hsize rfl hrest hdg hf
theorem cs_X9_250 (hexec : p.tables.exec = Jvm.exec) (hb : c.code = cc) (hml : c.maxLocals = nL) (hown : s.vm.findClass RX9 = some m.cls) (htw : ∀ w ∈ tw, w.before args s = true) (hK : va_K G.1 vwCl (tm_tys G) s) (hW : tm_W G Hb sh M H) (hq : sh b = some (9, 0)) (hM : Met l yX9_size (tws yX9_size cX9_size 5 none) rm (va_Pc [.ref b, a1, a2] (tm_St G Hb sh M)) Qc mc ms (tm_A Hb)) (hrm : rm.cells = mc ∧ rm.slots = ms ∧ rm.frames + 1 ≤ R.frames ∧ 8 + (5 + 11) + rm.locals ≤ R.locals) (hsize : ls.size = nL) (hrest : (rest.map fun v => v.category).sum ≤ 8) (hdg : decode cc pc = .ok (.invokevirtual 250, 3)) (hf : cells + mc ≤ R.cells ∧ slots + ms ≤ R.slots) : va_Run p l e R s m args below meth c H locs cells slots mc ms (F0 m pc ls (a2 :: a1 :: .ref b :: rest)) rest (Qc #[.ref b, a1, a2]) (tm_A Hb) := tm_runV (n := 2) (As := [a1, a2]) hexec hb hml hown htw hK hW hq (by decide) rfl ml_X9_250 im_X9_size se_X9_size in_X9 co_X9_size (by decide +kernel) hM hrm rfl hsize rfl hrest hdg hf
theorem cs_X9_246 (hexec : p.tables.exec = Jvm.exec) (hb : c.code = cc) (hml : c.maxLocals = nL) (hown : s.vm.findClass RX9 = some m.cls) (htw : ∀ w ∈ tw, w.before args s = true) (hK : va_K G.1 vwCl (tm_tys G) s) (hW : tm_W G Hb sh M H) (hq : sh b = some (9, 0)) (hM : Met l yX9_decimal (tws yX9_decimal cX9_decimal 4 none) rm (va_Pc [.ref b, a1] (tm_St G Hb sh M)) Qc mc ms (tm_A Hb)) (hrm : rm.cells = mc ∧ rm.slots = ms ∧ rm.frames + 1 ≤ R.frames ∧ 8 + (4 + 11) + rm.locals ≤ R.locals) (hsize : ls.size = nL) (hrest : (rest.map fun v => v.category).sum ≤ 8) (hdg : decode cc pc = .ok (.invokevirtual 246, 3)) (hf : cells + mc ≤ R.cells ∧ slots + ms ≤ R.slots) : va_Run p l e R s m args below meth c H locs cells slots mc ms (F0 m pc ls (a1 :: .ref b :: rest)) rest (Qc #[.ref b, a1]) (tm_A Hb) := tm_runV (n := 1) (As := [a1]) hexec hb hml hown htw hK hW hq (by decide) rfl ml_X9_246 im_X9_decimal se_X9_decimal in_X9 co_X9_decimal (by decide +kernel) hM hrm rfl hsize rfl hrest hdg hf
end TLK
end
section
/-! switches over Int (by program: wip/whole/gen/switch.py) -/
section TSW
variable {p : Program} {l : Launch} {e : Env} {R : Room} {s : State} {m : MethodId} {args : Array Value} {below : List Frame} {meth : Method} {c : Code} {H : Heap} {locs : List Loc} {cells slots : Nat} {Q : State → Prop}
variable {cc : ByteArray} {pc : Nat} {ls : Array Slot} {rest : List Value}
theorem ti_ts_1_3 (hexec : p.tables.exec = Jvm.exec) (hb : c.code = cc) {x d o1 o2 o3 : Int} {len td t1 t2 t3 : Nat} (hdg : decode cc pc = .ok (.tableswitch d 1 3 #[o1, o2, o3], len)) (hx : inI x) (ht1 : (pc : Int) + o1 = (t1 : Int)) (ht2 : (pc : Int) + o2 = (t2 : Int)) (ht3 : (pc : Int) + o3 = (t3 : Int)) (htd : (pc : Int) + d = (td : Int)) (k1 : x = 1 → W p l e R s m args below meth c H locs cells slots Q (F0 m t1 ls rest)) (k2 : x = 2 → W p l e R s m args below meth c H locs cells slots Q (F0 m t2 ls rest)) (k3 : x = 3 → W p l e R s m args below meth c H locs cells slots Q (F0 m t3 ls rest)) (kd : (x < 1 ∨ 3 < x) → W p l e R s m args below meth c H locs cells slots Q (F0 m td ls rest)) : W p l e R s m args below meth c H locs cells slots Q (F0 m pc ls (ji x :: rest)) := by
  by_cases h1 : x = 1
  · subst h1
    exact lv_tableIn hexec hb hdg (by decide) (by decide) rfl ht1 (k1 rfl)
  by_cases h2 : x = 2
  · subst h2
    exact lv_tableIn hexec hb hdg (by decide) (by decide) rfl ht2 (k2 rfl)
  by_cases h3 : x = 3
  · subst h3
    exact lv_tableIn hexec hb hdg (by decide) (by decide) rfl ht3 (k3 rfl)
  exact lv_tableOut hexec hb hdg (by rw [tn_i hx]; omega) htd (kd (by omega))
theorem ti_ts_60_62 (hexec : p.tables.exec = Jvm.exec) (hb : c.code = cc) {x d o60 o61 o62 : Int} {len td t60 t61 t62 : Nat} (hdg : decode cc pc = .ok (.tableswitch d 60 62 #[o60, o61, o62], len)) (hx : inI x) (ht60 : (pc : Int) + o60 = (t60 : Int)) (ht61 : (pc : Int) + o61 = (t61 : Int)) (ht62 : (pc : Int) + o62 = (t62 : Int)) (htd : (pc : Int) + d = (td : Int)) (k60 : x = 60 → W p l e R s m args below meth c H locs cells slots Q (F0 m t60 ls rest)) (k61 : x = 61 → W p l e R s m args below meth c H locs cells slots Q (F0 m t61 ls rest)) (k62 : x = 62 → W p l e R s m args below meth c H locs cells slots Q (F0 m t62 ls rest)) (kd : (x < 60 ∨ 62 < x) → W p l e R s m args below meth c H locs cells slots Q (F0 m td ls rest)) : W p l e R s m args below meth c H locs cells slots Q (F0 m pc ls (ji x :: rest)) := by
  by_cases h60 : x = 60
  · subst h60
    exact lv_tableIn hexec hb hdg (by decide) (by decide) rfl ht60 (k60 rfl)
  by_cases h61 : x = 61
  · subst h61
    exact lv_tableIn hexec hb hdg (by decide) (by decide) rfl ht61 (k61 rfl)
  by_cases h62 : x = 62
  · subst h62
    exact lv_tableIn hexec hb hdg (by decide) (by decide) rfl ht62 (k62 rfl)
  exact lv_tableOut hexec hb hdg (by rw [tn_i hx]; omega) htd (kd (by omega))
theorem ti_ts_1_6 (hexec : p.tables.exec = Jvm.exec) (hb : c.code = cc) {x d o1 o2 o3 o4 o5 o6 : Int} {len td t1 t2 t3 t4 t5 t6 : Nat} (hdg : decode cc pc = .ok (.tableswitch d 1 6 #[o1, o2, o3, o4, o5, o6], len)) (hx : inI x) (ht1 : (pc : Int) + o1 = (t1 : Int)) (ht2 : (pc : Int) + o2 = (t2 : Int)) (ht3 : (pc : Int) + o3 = (t3 : Int)) (ht4 : (pc : Int) + o4 = (t4 : Int)) (ht5 : (pc : Int) + o5 = (t5 : Int)) (ht6 : (pc : Int) + o6 = (t6 : Int)) (htd : (pc : Int) + d = (td : Int)) (k1 : x = 1 → W p l e R s m args below meth c H locs cells slots Q (F0 m t1 ls rest)) (k2 : x = 2 → W p l e R s m args below meth c H locs cells slots Q (F0 m t2 ls rest)) (k3 : x = 3 → W p l e R s m args below meth c H locs cells slots Q (F0 m t3 ls rest)) (k4 : x = 4 → W p l e R s m args below meth c H locs cells slots Q (F0 m t4 ls rest)) (k5 : x = 5 → W p l e R s m args below meth c H locs cells slots Q (F0 m t5 ls rest)) (k6 : x = 6 → W p l e R s m args below meth c H locs cells slots Q (F0 m t6 ls rest)) (kd : (x < 1 ∨ 6 < x) → W p l e R s m args below meth c H locs cells slots Q (F0 m td ls rest)) : W p l e R s m args below meth c H locs cells slots Q (F0 m pc ls (ji x :: rest)) := by
  by_cases h1 : x = 1
  · subst h1
    exact lv_tableIn hexec hb hdg (by decide) (by decide) rfl ht1 (k1 rfl)
  by_cases h2 : x = 2
  · subst h2
    exact lv_tableIn hexec hb hdg (by decide) (by decide) rfl ht2 (k2 rfl)
  by_cases h3 : x = 3
  · subst h3
    exact lv_tableIn hexec hb hdg (by decide) (by decide) rfl ht3 (k3 rfl)
  by_cases h4 : x = 4
  · subst h4
    exact lv_tableIn hexec hb hdg (by decide) (by decide) rfl ht4 (k4 rfl)
  by_cases h5 : x = 5
  · subst h5
    exact lv_tableIn hexec hb hdg (by decide) (by decide) rfl ht5 (k5 rfl)
  by_cases h6 : x = 6
  · subst h6
    exact lv_tableIn hexec hb hdg (by decide) (by decide) rfl ht6 (k6 rfl)
  exact lv_tableOut hexec hb hdg (by rw [tn_i hx]; omega) htd (kd (by omega))
theorem ti_ts_1_4 (hexec : p.tables.exec = Jvm.exec) (hb : c.code = cc) {x d o1 o2 o3 o4 : Int} {len td t1 t2 t3 t4 : Nat} (hdg : decode cc pc = .ok (.tableswitch d 1 4 #[o1, o2, o3, o4], len)) (hx : inI x) (ht1 : (pc : Int) + o1 = (t1 : Int)) (ht2 : (pc : Int) + o2 = (t2 : Int)) (ht3 : (pc : Int) + o3 = (t3 : Int)) (ht4 : (pc : Int) + o4 = (t4 : Int)) (htd : (pc : Int) + d = (td : Int)) (k1 : x = 1 → W p l e R s m args below meth c H locs cells slots Q (F0 m t1 ls rest)) (k2 : x = 2 → W p l e R s m args below meth c H locs cells slots Q (F0 m t2 ls rest)) (k3 : x = 3 → W p l e R s m args below meth c H locs cells slots Q (F0 m t3 ls rest)) (k4 : x = 4 → W p l e R s m args below meth c H locs cells slots Q (F0 m t4 ls rest)) (kd : (x < 1 ∨ 4 < x) → W p l e R s m args below meth c H locs cells slots Q (F0 m td ls rest)) : W p l e R s m args below meth c H locs cells slots Q (F0 m pc ls (ji x :: rest)) := by
  by_cases h1 : x = 1
  · subst h1
    exact lv_tableIn hexec hb hdg (by decide) (by decide) rfl ht1 (k1 rfl)
  by_cases h2 : x = 2
  · subst h2
    exact lv_tableIn hexec hb hdg (by decide) (by decide) rfl ht2 (k2 rfl)
  by_cases h3 : x = 3
  · subst h3
    exact lv_tableIn hexec hb hdg (by decide) (by decide) rfl ht3 (k3 rfl)
  by_cases h4 : x = 4
  · subst h4
    exact lv_tableIn hexec hb hdg (by decide) (by decide) rfl ht4 (k4 rfl)
  exact lv_tableOut hexec hb hdg (by rw [tn_i hx]; omega) htd (kd (by omega))
theorem ti_ts_0_3 (hexec : p.tables.exec = Jvm.exec) (hb : c.code = cc) {x d o0 o1 o2 o3 : Int} {len td t0 t1 t2 t3 : Nat} (hdg : decode cc pc = .ok (.tableswitch d 0 3 #[o0, o1, o2, o3], len)) (hx : inI x) (ht0 : (pc : Int) + o0 = (t0 : Int)) (ht1 : (pc : Int) + o1 = (t1 : Int)) (ht2 : (pc : Int) + o2 = (t2 : Int)) (ht3 : (pc : Int) + o3 = (t3 : Int)) (htd : (pc : Int) + d = (td : Int)) (k0 : x = 0 → W p l e R s m args below meth c H locs cells slots Q (F0 m t0 ls rest)) (k1 : x = 1 → W p l e R s m args below meth c H locs cells slots Q (F0 m t1 ls rest)) (k2 : x = 2 → W p l e R s m args below meth c H locs cells slots Q (F0 m t2 ls rest)) (k3 : x = 3 → W p l e R s m args below meth c H locs cells slots Q (F0 m t3 ls rest)) (kd : (x < 0 ∨ 3 < x) → W p l e R s m args below meth c H locs cells slots Q (F0 m td ls rest)) : W p l e R s m args below meth c H locs cells slots Q (F0 m pc ls (ji x :: rest)) := by
  by_cases h0 : x = 0
  · subst h0
    exact lv_tableIn hexec hb hdg (by decide) (by decide) rfl ht0 (k0 rfl)
  by_cases h1 : x = 1
  · subst h1
    exact lv_tableIn hexec hb hdg (by decide) (by decide) rfl ht1 (k1 rfl)
  by_cases h2 : x = 2
  · subst h2
    exact lv_tableIn hexec hb hdg (by decide) (by decide) rfl ht2 (k2 rfl)
  by_cases h3 : x = 3
  · subst h3
    exact lv_tableIn hexec hb hdg (by decide) (by decide) rfl ht3 (k3 rfl)
  exact lv_tableOut hexec hb hdg (by rw [tn_i hx]; omega) htd (kd (by omega))
theorem ti_ts_0_13 (hexec : p.tables.exec = Jvm.exec) (hb : c.code = cc) {x d o0 o1 o2 o3 o4 o5 o6 o7 o8 o9 o10 o11 o12 o13 : Int} {len td t0 t1 t2 t3 t4 t5 t6 t7 t8 t9 t10 t11 t12 t13 : Nat} (hdg : decode cc pc = .ok (.tableswitch d 0 13 #[o0, o1, o2, o3, o4, o5, o6, o7, o8, o9, o10, o11, o12, o13], len)) (hx : inI x) (ht0 : (pc : Int) + o0 = (t0 : Int)) (ht1 : (pc : Int) + o1 = (t1 : Int)) (ht2 : (pc : Int) + o2 = (t2 : Int)) (ht3 : (pc : Int) + o3 = (t3 : Int)) (ht4 : (pc : Int) + o4 = (t4 : Int)) (ht5 : (pc : Int) + o5 = (t5 : Int)) (ht6 : (pc : Int) + o6 = (t6 : Int)) (ht7 : (pc : Int) + o7 = (t7 : Int)) (ht8 : (pc : Int) + o8 = (t8 : Int)) (ht9 : (pc : Int) + o9 = (t9 : Int)) (ht10 : (pc : Int) + o10 = (t10 : Int)) (ht11 : (pc : Int) + o11 = (t11 : Int)) (ht12 : (pc : Int) + o12 = (t12 : Int)) (ht13 : (pc : Int) + o13 = (t13 : Int)) (htd : (pc : Int) + d = (td : Int)) (k0 : x = 0 → W p l e R s m args below meth c H locs cells slots Q (F0 m t0 ls rest)) (k1 : x = 1 → W p l e R s m args below meth c H locs cells slots Q (F0 m t1 ls rest)) (k2 : x = 2 → W p l e R s m args below meth c H locs cells slots Q (F0 m t2 ls rest)) (k3 : x = 3 → W p l e R s m args below meth c H locs cells slots Q (F0 m t3 ls rest)) (k4 : x = 4 → W p l e R s m args below meth c H locs cells slots Q (F0 m t4 ls rest)) (k5 : x = 5 → W p l e R s m args below meth c H locs cells slots Q (F0 m t5 ls rest)) (k6 : x = 6 → W p l e R s m args below meth c H locs cells slots Q (F0 m t6 ls rest)) (k7 : x = 7 → W p l e R s m args below meth c H locs cells slots Q (F0 m t7 ls rest)) (k8 : x = 8 → W p l e R s m args below meth c H locs cells slots Q (F0 m t8 ls rest)) (k9 : x = 9 → W p l e R s m args below meth c H locs cells slots Q (F0 m t9 ls rest)) (k10 : x = 10 → W p l e R s m args below meth c H locs cells slots Q (F0 m t10 ls rest)) (k11 : x = 11 → W p l e R s m args below meth c H locs cells slots Q (F0 m t11 ls rest)) (k12 : x = 12 → W p l e R s m args below meth c H locs cells slots Q (F0 m t12 ls rest)) (k13 : x = 13 → W p l e R s m args below meth c H locs cells slots Q (F0 m t13 ls rest)) (kd : (x < 0 ∨ 13 < x) → W p l e R s m args below meth c H locs cells slots Q (F0 m td ls rest)) : W p l e R s m args below meth c H locs cells slots Q (F0 m pc ls (ji x :: rest)) := by
  by_cases h0 : x = 0
  · subst h0
    exact lv_tableIn hexec hb hdg (by decide) (by decide) rfl ht0 (k0 rfl)
  by_cases h1 : x = 1
  · subst h1
    exact lv_tableIn hexec hb hdg (by decide) (by decide) rfl ht1 (k1 rfl)
  by_cases h2 : x = 2
  · subst h2
    exact lv_tableIn hexec hb hdg (by decide) (by decide) rfl ht2 (k2 rfl)
  by_cases h3 : x = 3
  · subst h3
    exact lv_tableIn hexec hb hdg (by decide) (by decide) rfl ht3 (k3 rfl)
  by_cases h4 : x = 4
  · subst h4
    exact lv_tableIn hexec hb hdg (by decide) (by decide) rfl ht4 (k4 rfl)
  by_cases h5 : x = 5
  · subst h5
    exact lv_tableIn hexec hb hdg (by decide) (by decide) rfl ht5 (k5 rfl)
  by_cases h6 : x = 6
  · subst h6
    exact lv_tableIn hexec hb hdg (by decide) (by decide) rfl ht6 (k6 rfl)
  by_cases h7 : x = 7
  · subst h7
    exact lv_tableIn hexec hb hdg (by decide) (by decide) rfl ht7 (k7 rfl)
  by_cases h8 : x = 8
  · subst h8
    exact lv_tableIn hexec hb hdg (by decide) (by decide) rfl ht8 (k8 rfl)
  by_cases h9 : x = 9
  · subst h9
    exact lv_tableIn hexec hb hdg (by decide) (by decide) rfl ht9 (k9 rfl)
  by_cases h10 : x = 10
  · subst h10
    exact lv_tableIn hexec hb hdg (by decide) (by decide) rfl ht10 (k10 rfl)
  by_cases h11 : x = 11
  · subst h11
    exact lv_tableIn hexec hb hdg (by decide) (by decide) rfl ht11 (k11 rfl)
  by_cases h12 : x = 12
  · subst h12
    exact lv_tableIn hexec hb hdg (by decide) (by decide) rfl ht12 (k12 rfl)
  by_cases h13 : x = 13
  · subst h13
    exact lv_tableIn hexec hb hdg (by decide) (by decide) rfl ht13 (k13 rfl)
  exact lv_tableOut hexec hb hdg (by rw [tn_i hx]; omega) htd (kd (by omega))
theorem ti_lk_1_2 (hexec : p.tables.exec = Jvm.exec) (hb : c.code = cc) {x d o1 o2 : Int} {len td t1 t2 : Nat} (hdg : decode cc pc = .ok (.lookupswitch d #[(1, o1), (2, o2)], len)) (hx : inI x) (ht1 : (pc : Int) + o1 = (t1 : Int)) (ht2 : (pc : Int) + o2 = (t2 : Int)) (htd : (pc : Int) + d = (td : Int)) (k1 : x = 1 → W p l e R s m args below meth c H locs cells slots Q (F0 m t1 ls rest)) (k2 : x = 2 → W p l e R s m args below meth c H locs cells slots Q (F0 m t2 ls rest)) (kd : x ≠ 1 ∧ x ≠ 2 → W p l e R s m args below meth c H locs cells slots Q (F0 m td ls rest)) : W p l e R s m args below meth c H locs cells slots Q (F0 m pc ls (ji x :: rest)) := by
  by_cases h1 : x = 1
  · subst h1
    exact lv_lookup hexec hb hdg rfl rfl ht1 (k1 rfl)
  by_cases h2 : x = 2
  · subst h2
    exact lv_lookup hexec hb hdg rfl rfl ht2 (k2 rfl)
  refine lv_lookup hexec hb hdg rfl ?_ htd (kd ⟨h1, h2⟩)
  rw [tn_i hx, Op.lookupswitch.offset_cons, if_neg (by omega), Op.lookupswitch.offset_cons, if_neg (by omega)]
  rfl
theorem ti_lk_40_120 (hexec : p.tables.exec = Jvm.exec) (hb : c.code = cc) {x d o1 o2 : Int} {len td t1 t2 : Nat} (hdg : decode cc pc = .ok (.lookupswitch d #[(40, o1), (120, o2)], len)) (hx : inI x) (ht1 : (pc : Int) + o1 = (t1 : Int)) (ht2 : (pc : Int) + o2 = (t2 : Int)) (htd : (pc : Int) + d = (td : Int)) (k1 : x = 40 → W p l e R s m args below meth c H locs cells slots Q (F0 m t1 ls rest)) (k2 : x = 120 → W p l e R s m args below meth c H locs cells slots Q (F0 m t2 ls rest)) (kd : x ≠ 40 ∧ x ≠ 120 → W p l e R s m args below meth c H locs cells slots Q (F0 m td ls rest)) : W p l e R s m args below meth c H locs cells slots Q (F0 m pc ls (ji x :: rest)) := by
  by_cases h1 : x = 40
  · subst h1
    exact lv_lookup hexec hb hdg rfl rfl ht1 (k1 rfl)
  by_cases h2 : x = 120
  · subst h2
    exact lv_lookup hexec hb hdg rfl rfl ht2 (k2 rfl)
  refine lv_lookup hexec hb hdg rfl ?_ htd (kd ⟨h1, h2⟩)
  rw [tn_i hx, Op.lookupswitch.offset_cons, if_neg (by omega), Op.lookupswitch.offset_cons, if_neg (by omega)]
  rfl
end TSW
end
section
/-! Fraction: contracts of its short methods (rows by program: wip/whole/gen/frac.py) -/
section TIC
variable {p : Program} {l : Launch} {e : Env} {R : Room} {s : State} {m : MethodId} {args : Array Value} {below : List Frame} {meth : Method} {c : Code} {H : Heap} {locs : List Loc} {cells slots : Nat} {Q : State → Prop}
variable {cc : ByteArray} {pc : Nat} {ls : Array Slot} {rest : List Value}
theorem ti_iinc (hexec : p.tables.exec = Jvm.exec) (hb : c.code = cc) {i nL k : Nat} {n x : Int} {lv lv' : List (Nat × Value)} (hdg : decode cc pc = .ok (.iinc i n, 3)) (h : lv_has ls nL lv) (hk : lv[k]? = some (i, ji x)) (hn : i < nL) (hl : (i, ji (x + n)) :: lv.filter (fun q => !(q.1 == i) && !(q.1 + 1 == i && q.2.category == 2)) = lv')
    (kk : ∀ ls' : Array Slot, lv_has ls' nL lv' → W p l e R s m args below meth c H locs cells slots Q (F0 m (pc + 3) ls' rest)) : W p l e R s m args below meth c H locs cells slots Q (F0 m pc ls rest) := lv_iinc (v := Int32.ofInt (x + n)) hexec hb hdg h hk (Int32.ofInt_add x n).symm hn hl kk
end TIC
/-- a fraction's parts; a fraction written -/
abbrev fr (M : tm_M) (q : Nat) : Int × Int := (mL M q 0, mL M q 1)
abbrev fS (M : tm_M) (q : Nat) (f : Int × Int) : tm_M := sL (sL M q 0 f.1) q 1 f.2
theorem fr_s (M : tm_M) (q : Nat) (f : Int × Int) : fr (fS M q f) q = f := by
  have h1 : mL (fS M q f) q 0 = f.1 := (tm_up_k _ _ (by decide)).trans (tm_up_s _ _ _ _)
  have h2 : mL (fS M q f) q 1 = f.2 := tm_up_s _ _ _ _
  show (mL (fS M q f) q 0, mL (fS M q f) q 1) = f
  rw [h1, h2]
theorem fL_n (M : tm_M) {q a k : Nat} (f : Int × Int) (h : a ≠ q) : mL (fS M q f) a k = mL M a k := (tm_up_a _ _ h).trans (tm_up_a _ _ h)
theorem fr_n (M : tm_M) {q a : Nat} (f : Int × Int) (h : a ≠ q) : fr (fS M q f) a = fr M a := by
  show (mL (fS M q f) a 0, mL (fS M q f) a 1) = _
  rw [fL_n M f h, fL_n M f h]
theorem fS_eq {M : tm_M} {q : Nat} {x y x' y' : Int} (h1 : x = x') (h2 : y = y') : sL (sL M q 0 x) q 1 y = fS M q (x', y') := by rw [h1, h2]
theorem fL_1 (M : tm_M) (q a : Nat) (x : Int) : mL (sL M q 0 x) a 1 = mL M a 1 := tm_up_k _ _ (by decide)
def tl_b (p : Prop) [Decidable p] : Int := if p then 1 else 0
theorem tl_b_t {p : Prop} [Decidable p] (h : p) : 1 = tl_b p := by simp [tl_b, h]
theorem tl_b_f {p : Prop} [Decidable p] (h : ¬ p) : 0 = tl_b p := by simp [tl_b, h]
theorem dX0_setWhole_0 : decode cX0_setWhole 0 = .ok (.aload_n 0, 1) := by decide +kernel
theorem dX0_setWhole_1 : decode cX0_setWhole 1 = .ok (.lload_n 1, 1) := by decide +kernel
theorem dX0_setWhole_2 : decode cX0_setWhole 2 = .ok (.putfield 17, 3) := by decide +kernel
theorem dX0_setWhole_5 : decode cX0_setWhole 5 = .ok (.aload_n 0, 1) := by decide +kernel
theorem dX0_setWhole_6 : decode cX0_setWhole 6 = .ok (.lconst 1, 1) := by decide +kernel
theorem dX0_setWhole_7 : decode cX0_setWhole 7 = .ok (.putfield 7, 3) := by decide +kernel
theorem dX0_setWhole_10 : decode cX0_setWhole 10 = .ok (.return_, 1) := by decide +kernel
set_option maxHeartbeats 4000000 in
set_option maxRecDepth 100000 in
/-- setWhole(w): w over 1 -/
theorem c_X0_setWhole {l : Launch} {G : tm_G} {Hb : Heap} {sh : tm_sh} {M : tm_M} {q : Nat} {w : Int} (h0 : sh q = some (2, 0)) : Met l yX0_setWhole (tws yX0_setWhole cX0_setWhole 3 none) ({ frames := 0, cells := 0, slots := 0, locals := 0 }) (va_Pc [.ref q, jl w] (tm_St G Hb sh M)) (tm_Qv G Hb sh (fun M1 => M1 = fS M q (w, 1))) 0 0 (tm_A Hb) := by
  refine tm_begin (by decide) (Nat.le_of_ble_eq_true rfl) (fun p e s m below meth c ls hx hb hr hml hown htw hlk hnm hK hW hl => ?_)
  have hS : va_S (tm_A Hb) s.heap s.heap [] := va_S.rf
  have hl : lv_has ls 3 [(0, .ref q), (1, jl w)] := hl
  refine lv_aload_n hx hb dX0_setWhole_0 rfl (lv_at hl 0 rfl) ?_
  refine lv_lload_n hx hb dX0_setWhole_1 rfl (lv_at hl 1 rfl) ?_
  refine pf_X0_17 hx hb htw hown hK hW (by assumption) hS dX0_setWhole_2 (fun H locs hW hS => ?_)
  refine lv_aload_n hx hb dX0_setWhole_5 rfl (lv_at hl 0 rfl) ?_
  refine ti_lconst1 hx hb dX0_setWhole_6 ?_
  refine pf_X0_7 hx hb htw hown hK hW (by assumption) hS dX0_setWhole_7 (fun H locs hW hS => ?_)
  exact tm_vret hx hb hr hlk hK hW hS rfl dX0_setWhole_10
theorem dX0_copy_0 : decode cX0_copy 0 = .ok (.aload_n 0, 1) := by decide +kernel
theorem dX0_copy_1 : decode cX0_copy 1 = .ok (.aload_n 1, 1) := by decide +kernel
theorem dX0_copy_2 : decode cX0_copy 2 = .ok (.getfield 17, 3) := by decide +kernel
theorem dX0_copy_5 : decode cX0_copy 5 = .ok (.putfield 17, 3) := by decide +kernel
theorem dX0_copy_8 : decode cX0_copy 8 = .ok (.aload_n 0, 1) := by decide +kernel
theorem dX0_copy_9 : decode cX0_copy 9 = .ok (.aload_n 1, 1) := by decide +kernel
theorem dX0_copy_10 : decode cX0_copy 10 = .ok (.getfield 7, 3) := by decide +kernel
theorem dX0_copy_13 : decode cX0_copy 13 = .ok (.putfield 7, 3) := by decide +kernel
theorem dX0_copy_16 : decode cX0_copy 16 = .ok (.return_, 1) := by decide +kernel
set_option maxHeartbeats 4000000 in
set_option maxRecDepth 100000 in
/-- copy -/
theorem c_X0_copy {l : Launch} {G : tm_G} {Hb : Heap} {sh : tm_sh} {M : tm_M} {q o : Nat} (h0 : sh q = some (2, 0)) (h1 : sh o = some (2, 0)) : Met l yX0_copy (tws yX0_copy cX0_copy 2 none) ({ frames := 0, cells := 0, slots := 0, locals := 0 }) (va_Pc [.ref q, .ref o] (tm_St G Hb sh M)) (tm_Qv G Hb sh (fun M1 => M1 = fS M q (fr M o))) 0 0 (tm_A Hb) := by
  refine tm_begin (by decide) (Nat.le_of_ble_eq_true rfl) (fun p e s m below meth c ls hx hb hr hml hown htw hlk hnm hK hW hl => ?_)
  have hS : va_S (tm_A Hb) s.heap s.heap [] := va_S.rf
  have hl : lv_has ls 2 [(0, .ref q), (1, .ref o)] := hl
  refine lv_aload_n hx hb dX0_copy_0 rfl (lv_at hl 0 rfl) ?_
  refine lv_aload_n hx hb dX0_copy_1 rfl (lv_at hl 1 rfl) ?_
  refine gf_X0_17 hx hb htw hown hK hW (by assumption) dX0_copy_2 ?_
  refine pf_X0_17 hx hb htw hown hK hW (by assumption) hS dX0_copy_5 (fun H locs hW hS => ?_)
  refine lv_aload_n hx hb dX0_copy_8 rfl (lv_at hl 0 rfl) ?_
  refine lv_aload_n hx hb dX0_copy_9 rfl (lv_at hl 1 rfl) ?_
  refine gf_X0_7 hx hb htw hown hK hW (by assumption) dX0_copy_10 ?_
  refine pf_X0_7 hx hb htw hown hK hW (by assumption) hS dX0_copy_13 (fun H locs hW hS => ?_)
  exact tm_vret hx hb hr hlk hK hW hS (fS_eq rfl (fL_1 M q o _)) dX0_copy_16
theorem dX0_setShifted_0 : decode cX0_setShifted 0 = .ok (.aload_n 0, 1) := by decide +kernel
theorem dX0_setShifted_1 : decode cX0_setShifted 1 = .ok (.aload_n 1, 1) := by decide +kernel
theorem dX0_setShifted_2 : decode cX0_setShifted 2 = .ok (.getfield 17, 3) := by decide +kernel
theorem dX0_setShifted_5 : decode cX0_setShifted 5 = .ok (.iload_n 2, 1) := by decide +kernel
theorem dX0_setShifted_6 : decode cX0_setShifted 6 = .ok (.i2l, 1) := by decide +kernel
theorem dX0_setShifted_7 : decode cX0_setShifted 7 = .ok (.aload_n 1, 1) := by decide +kernel
theorem dX0_setShifted_8 : decode cX0_setShifted 8 = .ok (.getfield 7, 3) := by decide +kernel
theorem dX0_setShifted_11 : decode cX0_setShifted 11 = .ok (.lmul, 1) := by decide +kernel
theorem dX0_setShifted_12 : decode cX0_setShifted 12 = .ok (.ladd, 1) := by decide +kernel
theorem dX0_setShifted_13 : decode cX0_setShifted 13 = .ok (.putfield 17, 3) := by decide +kernel
theorem dX0_setShifted_16 : decode cX0_setShifted 16 = .ok (.aload_n 0, 1) := by decide +kernel
theorem dX0_setShifted_17 : decode cX0_setShifted 17 = .ok (.aload_n 1, 1) := by decide +kernel
theorem dX0_setShifted_18 : decode cX0_setShifted 18 = .ok (.getfield 7, 3) := by decide +kernel
theorem dX0_setShifted_21 : decode cX0_setShifted 21 = .ok (.putfield 7, 3) := by decide +kernel
theorem dX0_setShifted_24 : decode cX0_setShifted 24 = .ok (.return_, 1) := by decide +kernel
set_option maxHeartbeats 4000000 in
set_option maxRecDepth 100000 in
/-- setShifted -/
theorem c_X0_setShifted {l : Launch} {G : tm_G} {Hb : Heap} {sh : tm_sh} {M : tm_M} {q o : Nat} {k : Int} (h0 : sh q = some (2, 0)) (h1 : sh o = some (2, 0)) (hk : inI k) : Met l yX0_setShifted (tws yX0_setShifted cX0_setShifted 3 none) ({ frames := 0, cells := 0, slots := 0, locals := 0 }) (va_Pc [.ref q, .ref o, ji k] (tm_St G Hb sh M)) (tm_Qv G Hb sh (fun M1 => M1 = fS M q ((fr M o).1 + k * (fr M o).2, (fr M o).2))) 0 0 (tm_A Hb) := by
  refine tm_begin (by decide) (Nat.le_of_ble_eq_true rfl) (fun p e s m below meth c ls hx hb hr hml hown htw hlk hnm hK hW hl => ?_)
  have hS : va_S (tm_A Hb) s.heap s.heap [] := va_S.rf
  have hl : lv_has ls 3 [(0, .ref q), (1, .ref o), (2, ji k)] := hl
  refine lv_aload_n hx hb dX0_setShifted_0 rfl (lv_at hl 0 rfl) ?_
  refine lv_aload_n hx hb dX0_setShifted_1 rfl (lv_at hl 1 rfl) ?_
  refine gf_X0_17 hx hb htw hown hK hW (by assumption) dX0_setShifted_2 ?_
  refine lv_iload_n hx hb dX0_setShifted_5 rfl (lv_at hl 2 rfl) ?_
  refine ti_i2l hx hb dX0_setShifted_6 (by omega) ?_
  refine lv_aload_n hx hb dX0_setShifted_7 rfl (lv_at hl 1 rfl) ?_
  refine gf_X0_7 hx hb htw hown hK hW (by assumption) dX0_setShifted_8 ?_
  refine ti_lmul hx hb dX0_setShifted_11 ?_
  refine ti_ladd hx hb dX0_setShifted_12 ?_
  refine pf_X0_17 hx hb htw hown hK hW (by assumption) hS dX0_setShifted_13 (fun H locs hW hS => ?_)
  refine lv_aload_n hx hb dX0_setShifted_16 rfl (lv_at hl 0 rfl) ?_
  refine lv_aload_n hx hb dX0_setShifted_17 rfl (lv_at hl 1 rfl) ?_
  refine gf_X0_7 hx hb htw hown hK hW (by assumption) dX0_setShifted_18 ?_
  refine pf_X0_7 hx hb htw hown hK hW (by assumption) hS dX0_setShifted_21 (fun H locs hW hS => ?_)
  exact tm_vret hx hb hr hlk hK hW hS (fS_eq rfl (fL_1 M q o _)) dX0_setShifted_24
theorem dX0_setOpposite_0 : decode cX0_setOpposite 0 = .ok (.aload_n 0, 1) := by decide +kernel
theorem dX0_setOpposite_1 : decode cX0_setOpposite 1 = .ok (.aload_n 1, 1) := by decide +kernel
theorem dX0_setOpposite_2 : decode cX0_setOpposite 2 = .ok (.getfield 17, 3) := by decide +kernel
theorem dX0_setOpposite_5 : decode cX0_setOpposite 5 = .ok (.lneg, 1) := by decide +kernel
theorem dX0_setOpposite_6 : decode cX0_setOpposite 6 = .ok (.putfield 17, 3) := by decide +kernel
theorem dX0_setOpposite_9 : decode cX0_setOpposite 9 = .ok (.aload_n 0, 1) := by decide +kernel
theorem dX0_setOpposite_10 : decode cX0_setOpposite 10 = .ok (.aload_n 1, 1) := by decide +kernel
theorem dX0_setOpposite_11 : decode cX0_setOpposite 11 = .ok (.getfield 7, 3) := by decide +kernel
theorem dX0_setOpposite_14 : decode cX0_setOpposite 14 = .ok (.putfield 7, 3) := by decide +kernel
theorem dX0_setOpposite_17 : decode cX0_setOpposite 17 = .ok (.return_, 1) := by decide +kernel
set_option maxHeartbeats 4000000 in
set_option maxRecDepth 100000 in
/-- setOpposite -/
theorem c_X0_setOpposite {l : Launch} {G : tm_G} {Hb : Heap} {sh : tm_sh} {M : tm_M} {q o : Nat} (h0 : sh q = some (2, 0)) (h1 : sh o = some (2, 0)) : Met l yX0_setOpposite (tws yX0_setOpposite cX0_setOpposite 2 none) ({ frames := 0, cells := 0, slots := 0, locals := 0 }) (va_Pc [.ref q, .ref o] (tm_St G Hb sh M)) (tm_Qv G Hb sh (fun M1 => M1 = fS M q (-(fr M o).1, (fr M o).2))) 0 0 (tm_A Hb) := by
  refine tm_begin (by decide) (Nat.le_of_ble_eq_true rfl) (fun p e s m below meth c ls hx hb hr hml hown htw hlk hnm hK hW hl => ?_)
  have hS : va_S (tm_A Hb) s.heap s.heap [] := va_S.rf
  have hl : lv_has ls 2 [(0, .ref q), (1, .ref o)] := hl
  refine lv_aload_n hx hb dX0_setOpposite_0 rfl (lv_at hl 0 rfl) ?_
  refine lv_aload_n hx hb dX0_setOpposite_1 rfl (lv_at hl 1 rfl) ?_
  refine gf_X0_17 hx hb htw hown hK hW (by assumption) dX0_setOpposite_2 ?_
  refine ti_lneg hx hb dX0_setOpposite_5 ?_
  refine pf_X0_17 hx hb htw hown hK hW (by assumption) hS dX0_setOpposite_6 (fun H locs hW hS => ?_)
  refine lv_aload_n hx hb dX0_setOpposite_9 rfl (lv_at hl 0 rfl) ?_
  refine lv_aload_n hx hb dX0_setOpposite_10 rfl (lv_at hl 1 rfl) ?_
  refine gf_X0_7 hx hb htw hown hK hW (by assumption) dX0_setOpposite_11 ?_
  refine pf_X0_7 hx hb htw hown hK hW (by assumption) hS dX0_setOpposite_14 (fun H locs hW hS => ?_)
  exact tm_vret hx hb hr hlk hK hW hS (fS_eq rfl (fL_1 M q o _)) dX0_setOpposite_17
theorem dX0_isWhole_0 : decode cX0_isWhole 0 = .ok (.aload_n 0, 1) := by decide +kernel
theorem dX0_isWhole_1 : decode cX0_isWhole 1 = .ok (.getfield 17, 3) := by decide +kernel
theorem dX0_isWhole_4 : decode cX0_isWhole 4 = .ok (.lload_n 1, 1) := by decide +kernel
theorem dX0_isWhole_5 : decode cX0_isWhole 5 = .ok (.lcmp, 1) := by decide +kernel
theorem dX0_isWhole_6 : decode cX0_isWhole 6 = .ok (.ifCond .ne 16, 3) := by decide +kernel
theorem dX0_isWhole_9 : decode cX0_isWhole 9 = .ok (.aload_n 0, 1) := by decide +kernel
theorem dX0_isWhole_10 : decode cX0_isWhole 10 = .ok (.getfield 7, 3) := by decide +kernel
theorem dX0_isWhole_13 : decode cX0_isWhole 13 = .ok (.lconst 1, 1) := by decide +kernel
theorem dX0_isWhole_14 : decode cX0_isWhole 14 = .ok (.lcmp, 1) := by decide +kernel
theorem dX0_isWhole_15 : decode cX0_isWhole 15 = .ok (.ifCond .ne 7, 3) := by decide +kernel
theorem dX0_isWhole_18 : decode cX0_isWhole 18 = .ok (.iconst 1, 1) := by decide +kernel
theorem dX0_isWhole_19 : decode cX0_isWhole 19 = .ok (.goto 4, 3) := by decide +kernel
theorem dX0_isWhole_22 : decode cX0_isWhole 22 = .ok (.iconst 0, 1) := by decide +kernel
theorem dX0_isWhole_23 : decode cX0_isWhole 23 = .ok (.ireturn, 1) := by decide +kernel
set_option maxHeartbeats 4000000 in
set_option maxRecDepth 100000 in
/-- isWhole -/
theorem c_X0_isWhole {l : Launch} {G : tm_G} {Hb : Heap} {sh : tm_sh} {M : tm_M} {q : Nat} {w : Int} (h0 : sh q = some (2, 0)) (hg : inL (mL M q 0) ∧ inL (mL M q 1)) (hw : inL w) : Met l yX0_isWhole (tws yX0_isWhole cX0_isWhole 3 (some .boolean)) ({ frames := 0, cells := 0, slots := 0, locals := 0 }) (va_Pc [.ref q, jl w] (tm_St G Hb sh M)) (tm_Qi G Hb sh (fun x M1 => x = tl_b (fr M q = (w, 1)) ∧ M1 = M)) 0 0 (tm_A Hb) := by
  refine tm_begin (by decide) (Nat.le_of_ble_eq_true rfl) (fun p e s m below meth c ls hx hb hr hml hown htw hlk hnm hK hW hl => ?_)
  have hS : va_S (tm_A Hb) s.heap s.heap [] := va_S.rf
  have hl : lv_has ls 3 [(0, .ref q), (1, jl w)] := hl
  refine lv_aload_n hx hb dX0_isWhole_0 rfl (lv_at hl 0 rfl) ?_
  refine gf_X0_17 hx hb htw hown hK hW (by assumption) dX0_isWhole_1 ?_
  refine lv_lload_n hx hb dX0_isWhole_4 rfl (lv_at hl 1 rfl) ?_
  refine ti_lcmp_ne (tgt := 22) hx hb dX0_isWhole_5 dX0_isWhole_6 (by decide) (by omega) (by omega) (fun h5 => ?_) (fun h5 => ?_)
  · refine ti_iconst hx hb dX0_isWhole_22 ?_
    exact tm_zret hx hb hr hlk (by first | exact Or.inl rfl | exact Or.inr rfl | assumption) hK hW hS ⟨by simp [tl_b, *], rfl⟩ dX0_isWhole_23
  · refine lv_aload_n hx hb dX0_isWhole_9 rfl (lv_at hl 0 rfl) ?_
    refine gf_X0_7 hx hb htw hown hK hW (by assumption) dX0_isWhole_10 ?_
    refine ti_lconst1 hx hb dX0_isWhole_13 ?_
    refine ti_lcmp_ne (tgt := 22) hx hb dX0_isWhole_14 dX0_isWhole_15 (by decide) (by omega) (by omega) (fun h14 => ?_) (fun h14 => ?_)
    · refine ti_iconst hx hb dX0_isWhole_22 ?_
      exact tm_zret hx hb hr hlk (by first | exact Or.inl rfl | exact Or.inr rfl | assumption) hK hW hS ⟨by simp [tl_b, *], rfl⟩ dX0_isWhole_23
    · refine ti_iconst hx hb dX0_isWhole_18 ?_
      refine lv_goto (tgt := 23) hx hb dX0_isWhole_19 (by decide) ?_
      exact tm_zret hx hb hr hlk (by first | exact Or.inl rfl | exact Or.inr rfl | assumption) hK hW hS ⟨by simp [tl_b, *], rfl⟩ dX0_isWhole_23
theorem dX0_isZero_0 : decode cX0_isZero 0 = .ok (.aload_n 0, 1) := by decide +kernel
theorem dX0_isZero_1 : decode cX0_isZero 1 = .ok (.getfield 17, 3) := by decide +kernel
theorem dX0_isZero_4 : decode cX0_isZero 4 = .ok (.lconst 0, 1) := by decide +kernel
theorem dX0_isZero_5 : decode cX0_isZero 5 = .ok (.lcmp, 1) := by decide +kernel
theorem dX0_isZero_6 : decode cX0_isZero 6 = .ok (.ifCond .ne 7, 3) := by decide +kernel
theorem dX0_isZero_9 : decode cX0_isZero 9 = .ok (.iconst 1, 1) := by decide +kernel
theorem dX0_isZero_10 : decode cX0_isZero 10 = .ok (.goto 4, 3) := by decide +kernel
theorem dX0_isZero_13 : decode cX0_isZero 13 = .ok (.iconst 0, 1) := by decide +kernel
theorem dX0_isZero_14 : decode cX0_isZero 14 = .ok (.ireturn, 1) := by decide +kernel
set_option maxHeartbeats 4000000 in
set_option maxRecDepth 100000 in
/-- isZero -/
theorem c_X0_isZero {l : Launch} {G : tm_G} {Hb : Heap} {sh : tm_sh} {M : tm_M} {q : Nat} (h0 : sh q = some (2, 0)) (hg : inL (mL M q 0)) : Met l yX0_isZero (tws yX0_isZero cX0_isZero 1 (some .boolean)) ({ frames := 0, cells := 0, slots := 0, locals := 0 }) (va_Pc [.ref q] (tm_St G Hb sh M)) (tm_Qi G Hb sh (fun x M1 => x = tl_b (mL M q 0 = 0) ∧ M1 = M)) 0 0 (tm_A Hb) := by
  refine tm_begin (by decide) (Nat.le_of_ble_eq_true rfl) (fun p e s m below meth c ls hx hb hr hml hown htw hlk hnm hK hW hl => ?_)
  have hS : va_S (tm_A Hb) s.heap s.heap [] := va_S.rf
  have hl : lv_has ls 1 [(0, .ref q)] := hl
  refine lv_aload_n hx hb dX0_isZero_0 rfl (lv_at hl 0 rfl) ?_
  refine gf_X0_17 hx hb htw hown hK hW (by assumption) dX0_isZero_1 ?_
  refine ti_lconst0 hx hb dX0_isZero_4 ?_
  refine ti_lcmp_ne (tgt := 13) hx hb dX0_isZero_5 dX0_isZero_6 (by decide) (by omega) (by omega) (fun h5 => ?_) (fun h5 => ?_)
  · refine ti_iconst hx hb dX0_isZero_13 ?_
    exact tm_zret hx hb hr hlk (by first | exact Or.inl rfl | exact Or.inr rfl | assumption) hK hW hS ⟨by simp [tl_b, *], rfl⟩ dX0_isZero_14
  · refine ti_iconst hx hb dX0_isZero_9 ?_
    refine lv_goto (tgt := 14) hx hb dX0_isZero_10 (by decide) ?_
    exact tm_zret hx hb hr hlk (by first | exact Or.inl rfl | exact Or.inr rfl | assumption) hK hW hS ⟨by simp [tl_b, *], rfl⟩ dX0_isZero_14
theorem dX0_sameAs_0 : decode cX0_sameAs 0 = .ok (.aload_n 0, 1) := by decide +kernel
theorem dX0_sameAs_1 : decode cX0_sameAs 1 = .ok (.getfield 17, 3) := by decide +kernel
theorem dX0_sameAs_4 : decode cX0_sameAs 4 = .ok (.aload_n 1, 1) := by decide +kernel
theorem dX0_sameAs_5 : decode cX0_sameAs 5 = .ok (.getfield 17, 3) := by decide +kernel
theorem dX0_sameAs_8 : decode cX0_sameAs 8 = .ok (.lcmp, 1) := by decide +kernel
theorem dX0_sameAs_9 : decode cX0_sameAs 9 = .ok (.ifCond .ne 19, 3) := by decide +kernel
theorem dX0_sameAs_12 : decode cX0_sameAs 12 = .ok (.aload_n 0, 1) := by decide +kernel
theorem dX0_sameAs_13 : decode cX0_sameAs 13 = .ok (.getfield 7, 3) := by decide +kernel
theorem dX0_sameAs_16 : decode cX0_sameAs 16 = .ok (.aload_n 1, 1) := by decide +kernel
theorem dX0_sameAs_17 : decode cX0_sameAs 17 = .ok (.getfield 7, 3) := by decide +kernel
theorem dX0_sameAs_20 : decode cX0_sameAs 20 = .ok (.lcmp, 1) := by decide +kernel
theorem dX0_sameAs_21 : decode cX0_sameAs 21 = .ok (.ifCond .ne 7, 3) := by decide +kernel
theorem dX0_sameAs_24 : decode cX0_sameAs 24 = .ok (.iconst 1, 1) := by decide +kernel
theorem dX0_sameAs_25 : decode cX0_sameAs 25 = .ok (.goto 4, 3) := by decide +kernel
theorem dX0_sameAs_28 : decode cX0_sameAs 28 = .ok (.iconst 0, 1) := by decide +kernel
theorem dX0_sameAs_29 : decode cX0_sameAs 29 = .ok (.ireturn, 1) := by decide +kernel
set_option maxHeartbeats 4000000 in
set_option maxRecDepth 100000 in
/-- sameAs -/
theorem c_X0_sameAs {l : Launch} {G : tm_G} {Hb : Heap} {sh : tm_sh} {M : tm_M} {q o : Nat} (h0 : sh q = some (2, 0)) (h1 : sh o = some (2, 0)) (hg : inL (mL M q 0) ∧ inL (mL M q 1)) (hg2 : inL (mL M o 0) ∧ inL (mL M o 1)) : Met l yX0_sameAs (tws yX0_sameAs cX0_sameAs 2 (some .boolean)) ({ frames := 0, cells := 0, slots := 0, locals := 0 }) (va_Pc [.ref q, .ref o] (tm_St G Hb sh M)) (tm_Qi G Hb sh (fun x M1 => x = tl_b (fr M q = fr M o) ∧ M1 = M)) 0 0 (tm_A Hb) := by
  refine tm_begin (by decide) (Nat.le_of_ble_eq_true rfl) (fun p e s m below meth c ls hx hb hr hml hown htw hlk hnm hK hW hl => ?_)
  have hS : va_S (tm_A Hb) s.heap s.heap [] := va_S.rf
  have hl : lv_has ls 2 [(0, .ref q), (1, .ref o)] := hl
  refine lv_aload_n hx hb dX0_sameAs_0 rfl (lv_at hl 0 rfl) ?_
  refine gf_X0_17 hx hb htw hown hK hW (by assumption) dX0_sameAs_1 ?_
  refine lv_aload_n hx hb dX0_sameAs_4 rfl (lv_at hl 1 rfl) ?_
  refine gf_X0_17 hx hb htw hown hK hW (by assumption) dX0_sameAs_5 ?_
  refine ti_lcmp_ne (tgt := 28) hx hb dX0_sameAs_8 dX0_sameAs_9 (by decide) (by omega) (by omega) (fun h8 => ?_) (fun h8 => ?_)
  · refine ti_iconst hx hb dX0_sameAs_28 ?_
    exact tm_zret hx hb hr hlk (by first | exact Or.inl rfl | exact Or.inr rfl | assumption) hK hW hS ⟨by simp [tl_b, *], rfl⟩ dX0_sameAs_29
  · refine lv_aload_n hx hb dX0_sameAs_12 rfl (lv_at hl 0 rfl) ?_
    refine gf_X0_7 hx hb htw hown hK hW (by assumption) dX0_sameAs_13 ?_
    refine lv_aload_n hx hb dX0_sameAs_16 rfl (lv_at hl 1 rfl) ?_
    refine gf_X0_7 hx hb htw hown hK hW (by assumption) dX0_sameAs_17 ?_
    refine ti_lcmp_ne (tgt := 28) hx hb dX0_sameAs_20 dX0_sameAs_21 (by decide) (by omega) (by omega) (fun h20 => ?_) (fun h20 => ?_)
    · refine ti_iconst hx hb dX0_sameAs_28 ?_
      exact tm_zret hx hb hr hlk (by first | exact Or.inl rfl | exact Or.inr rfl | assumption) hK hW hS ⟨by simp [tl_b, *], rfl⟩ dX0_sameAs_29
    · refine ti_iconst hx hb dX0_sameAs_24 ?_
      refine lv_goto (tgt := 29) hx hb dX0_sameAs_25 (by decide) ?_
      exact tm_zret hx hb hr hlk (by first | exact Or.inl rfl | exact Or.inr rfl | assumption) hK hW hS ⟨by simp [tl_b, *], rfl⟩ dX0_sameAs_29
theorem dX0_fits_0 : decode cX0_fits 0 = .ok (.aload_n 0, 1) := by decide +kernel
theorem dX0_fits_1 : decode cX0_fits 1 = .ok (.getfield 17, 3) := by decide +kernel
theorem dX0_fits_4 : decode cX0_fits 4 = .ok (.ldc2_w 24, 3) := by decide +kernel
theorem dX0_fits_7 : decode cX0_fits 7 = .ok (.lcmp, 1) := by decide +kernel
theorem dX0_fits_8 : decode cX0_fits 8 = .ok (.ifCond .lt 29, 3) := by decide +kernel
theorem dX0_fits_11 : decode cX0_fits 11 = .ok (.aload_n 0, 1) := by decide +kernel
theorem dX0_fits_12 : decode cX0_fits 12 = .ok (.getfield 17, 3) := by decide +kernel
theorem dX0_fits_15 : decode cX0_fits 15 = .ok (.ldc2_w 26, 3) := by decide +kernel
theorem dX0_fits_18 : decode cX0_fits 18 = .ok (.lcmp, 1) := by decide +kernel
theorem dX0_fits_19 : decode cX0_fits 19 = .ok (.ifCond .gt 18, 3) := by decide +kernel
theorem dX0_fits_22 : decode cX0_fits 22 = .ok (.aload_n 0, 1) := by decide +kernel
theorem dX0_fits_23 : decode cX0_fits 23 = .ok (.getfield 7, 3) := by decide +kernel
theorem dX0_fits_26 : decode cX0_fits 26 = .ok (.ldc2_w 26, 3) := by decide +kernel
theorem dX0_fits_29 : decode cX0_fits 29 = .ok (.lcmp, 1) := by decide +kernel
theorem dX0_fits_30 : decode cX0_fits 30 = .ok (.ifCond .gt 7, 3) := by decide +kernel
theorem dX0_fits_33 : decode cX0_fits 33 = .ok (.iconst 1, 1) := by decide +kernel
theorem dX0_fits_34 : decode cX0_fits 34 = .ok (.goto 4, 3) := by decide +kernel
theorem dX0_fits_37 : decode cX0_fits 37 = .ok (.iconst 0, 1) := by decide +kernel
theorem dX0_fits_38 : decode cX0_fits 38 = .ok (.ireturn, 1) := by decide +kernel
set_option maxHeartbeats 4000000 in
set_option maxRecDepth 100000 in
/-- fits -/
theorem c_X0_fits {l : Launch} {G : tm_G} {Hb : Heap} {sh : tm_sh} {M : tm_M} {q : Nat} (h0 : sh q = some (2, 0)) (hg : inL (mL M q 0) ∧ inL (mL M q 1)) : Met l yX0_fits (tws yX0_fits cX0_fits 1 (some .boolean)) ({ frames := 0, cells := 0, slots := 0, locals := 0 }) (va_Pc [.ref q] (tm_St G Hb sh M)) (tm_Qi G Hb sh (fun x M1 => x = tl_b (-9999 ≤ mL M q 0 ∧ mL M q 0 ≤ 9999 ∧ mL M q 1 ≤ 9999) ∧ M1 = M)) 0 0 (tm_A Hb) := by
  refine tm_begin (by decide) (Nat.le_of_ble_eq_true rfl) (fun p e s m below meth c ls hx hb hr hml hown htw hlk hnm hK hW hl => ?_)
  have hS : va_S (tm_A Hb) s.heap s.heap [] := va_S.rf
  have hl : lv_has ls 1 [(0, .ref q)] := hl
  refine lv_aload_n hx hb dX0_fits_0 rfl (lv_at hl 0 rfl) ?_
  refine gf_X0_17 hx hb htw hown hK hW (by assumption) dX0_fits_1 ?_
  refine lv_ldc2 hx hb hown (htw _ cl_X0_24) dX0_fits_4 ?_
  refine ti_lcmp_lt (tgt := 37) hx hb dX0_fits_7 dX0_fits_8 (by decide) (by omega) (by omega) (fun h7 => ?_) (fun h7 => ?_)
  · refine ti_iconst hx hb dX0_fits_37 ?_
    exact tm_zret hx hb hr hlk (by first | exact Or.inl rfl | exact Or.inr rfl | assumption) hK hW hS ⟨by first | exact tl_b_t (by omega) | exact tl_b_f (by omega), rfl⟩ dX0_fits_38
  · refine lv_aload_n hx hb dX0_fits_11 rfl (lv_at hl 0 rfl) ?_
    refine gf_X0_17 hx hb htw hown hK hW (by assumption) dX0_fits_12 ?_
    refine lv_ldc2 hx hb hown (htw _ cl_X0_26) dX0_fits_15 ?_
    refine ti_lcmp_gt (tgt := 37) hx hb dX0_fits_18 dX0_fits_19 (by decide) (by omega) (by omega) (fun h18 => ?_) (fun h18 => ?_)
    · refine ti_iconst hx hb dX0_fits_37 ?_
      exact tm_zret hx hb hr hlk (by first | exact Or.inl rfl | exact Or.inr rfl | assumption) hK hW hS ⟨by first | exact tl_b_t (by omega) | exact tl_b_f (by omega), rfl⟩ dX0_fits_38
    · refine lv_aload_n hx hb dX0_fits_22 rfl (lv_at hl 0 rfl) ?_
      refine gf_X0_7 hx hb htw hown hK hW (by assumption) dX0_fits_23 ?_
      refine lv_ldc2 hx hb hown (htw _ cl_X0_26) dX0_fits_26 ?_
      refine ti_lcmp_gt (tgt := 37) hx hb dX0_fits_29 dX0_fits_30 (by decide) (by omega) (by omega) (fun h29 => ?_) (fun h29 => ?_)
      · refine ti_iconst hx hb dX0_fits_37 ?_
        exact tm_zret hx hb hr hlk (by first | exact Or.inl rfl | exact Or.inr rfl | assumption) hK hW hS ⟨by first | exact tl_b_t (by omega) | exact tl_b_f (by omega), rfl⟩ dX0_fits_38
      · refine ti_iconst hx hb dX0_fits_33 ?_
        refine lv_goto (tgt := 38) hx hb dX0_fits_34 (by decide) ?_
        exact tm_zret hx hb hr hlk (by first | exact Or.inl rfl | exact Or.inr rfl | assumption) hK hW hS ⟨by first | exact tl_b_t (by omega) | exact tl_b_f (by omega), rfl⟩ dX0_fits_38
end
section
/-! Fraction: set (Euclid), sums, differences, products, quotients, comparing (by program: wip/whole/gen/frac2.py) -/
/-- a method's begin, of a class of the JDK -/
theorem tm_beginF {l : Launch} {y : MethodName} {cc : ByteArray} {maxL : Nat} {ret : Option FieldType} {rm : Room} {av : List Value} {G : tm_G} {Hb : Heap} {sh : tm_sh} {M : tm_M} {Qc : Array Value → State → Outcome → State → Prop} {mc ms : Nat} {free : Addr → Prop} (hy : plainFor y = true) (hlen : (lg_sl av).length ≤ maxL)
    (body : ∀ (p : Program) (e : Env) (s : State) (m : MethodId) (below : List Frame) (meth : Method) (c : Code) (ls : Array Slot), p.tables.exec = Jvm.exec → c.code = cc → meth.sig.returnType = ret → c.maxLocals = maxL → s.vm.findClass y.cls = some m.cls → (∀ w ∈ tw, w.before av.toArray s = true) → meth.locks = false → meth.name = y.name → va_K G.1 vwCl (tm_tys G) s → tm_W G Hb sh M s.heap → lv_has ls maxL (lv_args 0 av) →
      W p l e rm s m av.toArray below meth c s.heap [] 0 0 (MQ below Qc av.toArray s mc ms free) (F0 m 0 ls [])) : Met l y (tws y cc maxL ret) rm (va_Pc av (tm_St G Hb sh M)) Qc mc ms free := by
  refine va_MetF (cc := cc) (maxL := maxL) (ret := ret) hy rfl ?_
  intro p e s m args below meth c s₁ B hml hv
  obtain ⟨rfl, hK, hW⟩ := hv
  have hts := atoms_spec (ws := tws y cc maxL ret) B.pre
  have hl := lv_entry av (n := maxL) hlen
  rw [lg_entry_eq]
  exact body p e s m below meth c _ B.exec B.bytes B.returns hml (findClass_of_methodNamed B.named) (fun w hw => hts w (List.mem_cons_of_mem _ hw)) B.notSynchronized (name_of_methodNamed B.named B.method).1 hK hW hl
theorem tl_tdm {x y : Int} (hy : 0 < y) (hx : inL x) : inL (x.tdiv y * y) := by
  have h1 := Int.mul_tdiv_add_tmod x y
  have h2 := Int.natAbs_tmod x y
  have h3 : x.natAbs % y.natAbs ≤ x.natAbs := Nat.mod_le _ _
  have h4 : (x.tmod y).natAbs ≤ x.natAbs := by omega
  rw [Int.mul_comm] at h1
  have h5 : (0 ≤ x ∧ 0 ≤ x.tmod y) ∨ (x ≤ 0 ∧ x.tmod y ≤ 0) := by
    rcases Int.lt_or_le x 0 with z | z
    · have := Int.tmod_nonneg (a := -x) y (by omega)
      rw [Int.neg_tmod] at this
      exact Or.inr ⟨by omega, by omega⟩
    · exact Or.inl ⟨z, Int.tmod_nonneg y z⟩
  have := hx.1
  have := hx.2
  exact ⟨by omega, by omega⟩
theorem tl_gcd_step {d r : Int} : Int.gcd r (d.tmod r) = Int.gcd d r := by
  show Nat.gcd r.natAbs (d.tmod r).natAbs = Nat.gcd d.natAbs r.natAbs
  rw [Int.natAbs_tmod, Nat.gcd_comm d.natAbs, Nat.gcd_rec r.natAbs d.natAbs, Nat.gcd_comm]
theorem tl_tmod_lt {d r : Int} (hr : r ≠ 0) : (d.tmod r).natAbs < r.natAbs := by
  rw [Int.natAbs_tmod]
  exact Nat.mod_lt _ (by omega)
theorem tl_set_fin {a b d : Int} (hb : b ≠ 0) (h : d.natAbs = Int.gcd a b) (hs : d < 0 ↔ b < 0) : a.tdiv d = (tl_norm a b).1 ∧ b.tdiv d = (tl_norm a b).2 := by
  have hg := tl_gcd_pos (a := a) hb
  have h1 : (Int.gcd a b : Int) ∣ a := Int.gcd_dvd_left a b
  have h2 : (Int.gcd a b : Int) ∣ b := Int.gcd_dvd_right a b
  unfold tl_norm
  by_cases hn : b < 0
  · rw [if_pos hn]
    have e : d = -(Int.gcd a b : Int) := by have := hs.mpr hn; omega
    obtain ⟨x, hx⟩ := h1
    obtain ⟨y, hy⟩ := h2
    have ex : -a = (Int.gcd a b : Int) * (-x) := by rw [Int.mul_neg, ← hx]
    have ey : -b = (Int.gcd a b : Int) * (-y) := by rw [Int.mul_neg, ← hy]
    refine ⟨?_, ?_⟩
    · show a.tdiv d = -a / (Int.gcd a b : Int)
      rw [ex, Int.mul_ediv_cancel_left _ (by omega), e, Int.tdiv_neg]
      conv => lhs; arg 1; arg 1; rw [hx]
      rw [Int.mul_tdiv_cancel_left _ (by omega)]
    · show b.tdiv d = -b / (Int.gcd a b : Int)
      rw [ey, Int.mul_ediv_cancel_left _ (by omega), e, Int.tdiv_neg]
      conv => lhs; arg 1; arg 1; rw [hy]
      rw [Int.mul_tdiv_cancel_left _ (by omega)]
  · rw [if_neg hn]
    have e : d = (Int.gcd a b : Int) := by
      have : ¬ d < 0 := fun z => hn (hs.mp z)
      omega
    rw [e]
    exact ⟨Int.tdiv_eq_ediv_of_dvd h1, Int.tdiv_eq_ediv_of_dvd h2⟩
section TIX
variable {p : Program} {l : Launch} {e : Env} {R : Room} {s : State} {m : MethodId} {args : Array Value} {below : List Frame} {meth : Method} {c : Code} {H : Heap} {locs : List Loc} {cells slots : Nat} {Q : State → Prop}
variable {cc : ByteArray} {pc : Nat} {ls : Array Slot} {rest : List Value}
theorem tn_neg64 (x : Int64) : x.toInt < 0 ↔ x.toBitVec.msb = true := by
  rw [BitVec.msb_eq_toInt]
  simp
theorem ti_lxor (hexec : p.tables.exec = Jvm.exec) (hb : c.code = cc) {x y : Int} (hdg : decode cc pc = .ok (.lxor, 1)) (hx : inL x) (hy : inL y) (k : ∀ z : Int, inL z → (z < 0 ↔ ¬ (x < 0 ↔ y < 0)) → W p l e R s m args below meth c H locs cells slots Q (F0 m (pc + 1) ls (jl z :: rest))) : W p l e R s m args below meth c H locs cells slots Q (F0 m pc ls (jl y :: jl x :: rest)) := by
  refine lv_lxor hexec hb hdg ?_
  have h := k (Int64.ofInt x ^^^ Int64.ofInt y).toInt ⟨Int64.le_toInt _, Int64.toInt_lt _⟩ ?_
  · rw [show jl (Int64.ofInt x ^^^ Int64.ofInt y).toInt = Value.long (Int64.ofInt x ^^^ Int64.ofInt y) from congrArg Value.long (Int64.ofInt_toInt _)] at h
    exact h
  · rw [tn_neg64]
    have e1 : x < 0 ↔ (Int64.ofInt x).toBitVec.msb = true := by rw [← tn_neg64, tn_l hx]
    have e2 : y < 0 ↔ (Int64.ofInt y).toBitVec.msb = true := by rw [← tn_neg64, tn_l hy]
    rw [e1, e2]
    show ((Int64.ofInt x).toBitVec ^^^ (Int64.ofInt y).toBitVec).msb = true ↔ _
    rw [BitVec.msb_xor]
    cases (Int64.ofInt x).toBitVec.msb <;> cases (Int64.ofInt y).toBitVec.msb <;> simp
end TIX
theorem dX0_set_0 : decode cX0_set 0 = .ok (.lload_n 3, 1) := by decide +kernel
theorem dX0_set_1 : decode cX0_set 1 = .ok (.lconst 0, 1) := by decide +kernel
theorem dX0_set_2 : decode cX0_set 2 = .ok (.lcmp, 1) := by decide +kernel
theorem dX0_set_3 : decode cX0_set 3 = .ok (.ifCond .ne 9, 3) := by decide +kernel
theorem dX0_set_6 : decode cX0_set 6 = .ok (.aload_n 0, 1) := by decide +kernel
theorem dX0_set_7 : decode cX0_set 7 = .ok (.lconst 0, 1) := by decide +kernel
theorem dX0_set_8 : decode cX0_set 8 = .ok (.invokevirtual 13, 3) := by decide +kernel
theorem dX0_set_11 : decode cX0_set 11 = .ok (.return_, 1) := by decide +kernel
theorem dX0_set_12 : decode cX0_set 12 = .ok (.lload_n 3, 1) := by decide +kernel
theorem dX0_set_13 : decode cX0_set 13 = .ok (.lstore 5, 2) := by decide +kernel
theorem dX0_set_15 : decode cX0_set 15 = .ok (.lload_n 1, 1) := by decide +kernel
theorem dX0_set_16 : decode cX0_set 16 = .ok (.lstore 7, 2) := by decide +kernel
theorem dX0_set_18 : decode cX0_set 18 = .ok (.iconst 0, 1) := by decide +kernel
theorem dX0_set_19 : decode cX0_set 19 = .ok (.istore 9, 2) := by decide +kernel
theorem dX0_set_21 : decode cX0_set 21 = .ok (.iload 9, 2) := by decide +kernel
theorem dX0_set_23 : decode cX0_set 23 = .ok (.sipush 200, 3) := by decide +kernel
theorem dX0_set_26 : decode cX0_set 26 = .ok (.if_icmp .ge 31, 3) := by decide +kernel
theorem dX0_set_29 : decode cX0_set 29 = .ok (.lload 7, 2) := by decide +kernel
theorem dX0_set_31 : decode cX0_set 31 = .ok (.lconst 0, 1) := by decide +kernel
theorem dX0_set_32 : decode cX0_set 32 = .ok (.lcmp, 1) := by decide +kernel
theorem dX0_set_33 : decode cX0_set 33 = .ok (.ifCond .eq 24, 3) := by decide +kernel
theorem dX0_set_36 : decode cX0_set 36 = .ok (.lload 5, 2) := by decide +kernel
theorem dX0_set_38 : decode cX0_set 38 = .ok (.lload 7, 2) := by decide +kernel
theorem dX0_set_40 : decode cX0_set 40 = .ok (.lrem, 1) := by decide +kernel
theorem dX0_set_41 : decode cX0_set 41 = .ok (.lstore 10, 2) := by decide +kernel
theorem dX0_set_43 : decode cX0_set 43 = .ok (.lload 7, 2) := by decide +kernel
theorem dX0_set_45 : decode cX0_set 45 = .ok (.lstore 5, 2) := by decide +kernel
theorem dX0_set_47 : decode cX0_set 47 = .ok (.lload 10, 2) := by decide +kernel
theorem dX0_set_49 : decode cX0_set 49 = .ok (.lstore 7, 2) := by decide +kernel
theorem dX0_set_51 : decode cX0_set 51 = .ok (.iinc 9 1, 3) := by decide +kernel
theorem dX0_set_54 : decode cX0_set 54 = .ok (.goto (-33), 3) := by decide +kernel
theorem dX0_set_57 : decode cX0_set 57 = .ok (.lload 5, 2) := by decide +kernel
theorem dX0_set_59 : decode cX0_set 59 = .ok (.lconst 0, 1) := by decide +kernel
theorem dX0_set_60 : decode cX0_set 60 = .ok (.lcmp, 1) := by decide +kernel
theorem dX0_set_61 : decode cX0_set 61 = .ok (.ifCond .ge 7, 3) := by decide +kernel
theorem dX0_set_64 : decode cX0_set 64 = .ok (.iconst 1, 1) := by decide +kernel
theorem dX0_set_65 : decode cX0_set 65 = .ok (.goto 4, 3) := by decide +kernel
theorem dX0_set_68 : decode cX0_set 68 = .ok (.iconst 0, 1) := by decide +kernel
theorem dX0_set_69 : decode cX0_set 69 = .ok (.lload_n 3, 1) := by decide +kernel
theorem dX0_set_70 : decode cX0_set 70 = .ok (.lconst 0, 1) := by decide +kernel
theorem dX0_set_71 : decode cX0_set 71 = .ok (.lcmp, 1) := by decide +kernel
theorem dX0_set_72 : decode cX0_set 72 = .ok (.ifCond .ge 7, 3) := by decide +kernel
theorem dX0_set_75 : decode cX0_set 75 = .ok (.iconst 1, 1) := by decide +kernel
theorem dX0_set_76 : decode cX0_set 76 = .ok (.goto 4, 3) := by decide +kernel
theorem dX0_set_79 : decode cX0_set 79 = .ok (.iconst 0, 1) := by decide +kernel
theorem dX0_set_80 : decode cX0_set 80 = .ok (.if_icmp .eq 8, 3) := by decide +kernel
theorem dX0_set_83 : decode cX0_set 83 = .ok (.lload 5, 2) := by decide +kernel
theorem dX0_set_85 : decode cX0_set 85 = .ok (.lneg, 1) := by decide +kernel
theorem dX0_set_86 : decode cX0_set 86 = .ok (.lstore 5, 2) := by decide +kernel
theorem dX0_set_88 : decode cX0_set 88 = .ok (.aload_n 0, 1) := by decide +kernel
theorem dX0_set_89 : decode cX0_set 89 = .ok (.lload_n 1, 1) := by decide +kernel
theorem dX0_set_90 : decode cX0_set 90 = .ok (.lload 5, 2) := by decide +kernel
theorem dX0_set_92 : decode cX0_set 92 = .ok (.ldiv, 1) := by decide +kernel
theorem dX0_set_93 : decode cX0_set 93 = .ok (.putfield 17, 3) := by decide +kernel
theorem dX0_set_96 : decode cX0_set 96 = .ok (.aload_n 0, 1) := by decide +kernel
theorem dX0_set_97 : decode cX0_set 97 = .ok (.lload_n 3, 1) := by decide +kernel
theorem dX0_set_98 : decode cX0_set 98 = .ok (.lload 5, 2) := by decide +kernel
theorem dX0_set_100 : decode cX0_set 100 = .ok (.ldiv, 1) := by decide +kernel
theorem dX0_set_101 : decode cX0_set 101 = .ok (.putfield 7, 3) := by decide +kernel
theorem dX0_set_104 : decode cX0_set 104 = .ok (.return_, 1) := by decide +kernel
set_option maxHeartbeats 4000000 in
set_option maxRecDepth 100000 in
/-- set(a, b), b not 0: the fraction in lowest terms -/
theorem c_X0_set {l : Launch} {G : tm_G} {Hb : Heap} {sh : tm_sh} {M : tm_M} {q : Nat} {a b : Int} (h0 : sh q = some (2, 0)) (hb0 : b ≠ 0) (ha : a.natAbs ≤ 4611686018427387904) (hbb : b.natAbs ≤ 4611686018427387904) : Met l yX0_set (tws yX0_set cX0_set 12 none) ({ frames := 1, cells := 0, slots := 0, locals := 22 }) (va_Pc [.ref q, jl a, jl b] (tm_St G Hb sh M)) (tm_Qv G Hb sh (fun M1 => M1 = fS M q (tl_norm a b))) 0 0 (tm_A Hb) := by
  refine tm_begin (by decide) (Nat.le_of_ble_eq_true rfl) (fun p e s m below meth c ls hx hb hr hml hown htw hlk hnm hK hW hl => ?_)
  have hS : va_S (tm_A Hb) s.heap s.heap [] := va_S.rf
  have hl : lv_has ls 12 [(0, .ref q), (1, jl a), (3, jl b)] := hl
  have ex : ∀ (d : Int) (ls : Array Slot), d ≠ 0 → d.natAbs ≤ 4611686018427387904 → d.natAbs = Int.gcd a b → lv_has ls 12 [(0, .ref q), (1, jl a), (3, jl b), (5, jl d)] → W p l e ({ frames := 1, cells := 0, slots := 0, locals := 22 }) s m [.ref q, jl a, jl b].toArray below meth c s.heap [] 0 0 (MQ below (tm_Qv G Hb sh (fun M1 => M1 = fS M q (tl_norm a b))) [.ref q, jl a, jl b].toArray s 0 0 (tm_A Hb)) (F0 m 57 ls []) := by
    intro d ls hd0 hdL hdg hl
    refine lv_lload hx hb dX0_set_57 (lv_at hl 3 rfl) ?_
    refine ti_lconst0 hx hb dX0_set_59 ?_
    refine ti_lcmp_ge (tgt := 68) hx hb dX0_set_60 dX0_set_61 (by decide) (by omega) (by omega) (fun h60 => ?_) (fun h60 => ?_)
    · refine ti_iconst hx hb dX0_set_68 ?_
      refine lv_lload_n hx hb dX0_set_69 rfl (lv_at hl 2 rfl) ?_
      refine ti_lconst0 hx hb dX0_set_70 ?_
      refine ti_lcmp_ge (tgt := 79) hx hb dX0_set_71 dX0_set_72 (by decide) (by omega) (by omega) (fun h71 => ?_) (fun h71 => ?_)
      · refine ti_iconst hx hb dX0_set_79 ?_
        refine ti_icmp_eq (tgt := 88) hx hb dX0_set_80 (by decide) (by omega) (by omega) (fun h80 => ?_) (fun h80 => ?_)
        · refine lv_aload_n hx hb dX0_set_88 rfl (lv_at hl 0 rfl) ?_
          refine lv_lload_n hx hb dX0_set_89 rfl (lv_at hl 1 rfl) ?_
          refine lv_lload hx hb dX0_set_90 (lv_at hl 3 rfl) ?_
          refine ti_ldiv hx hb dX0_set_92 (by omega) (by omega) (by omega) ?_
          refine pf_X0_17 hx hb htw hown hK hW (by assumption) hS dX0_set_93 (fun H locs hW hS => ?_)
          refine lv_aload_n hx hb dX0_set_96 rfl (lv_at hl 0 rfl) ?_
          refine lv_lload_n hx hb dX0_set_97 rfl (lv_at hl 2 rfl) ?_
          refine lv_lload hx hb dX0_set_98 (lv_at hl 3 rfl) ?_
          refine ti_ldiv hx hb dX0_set_100 (by omega) (by omega) (by omega) ?_
          refine pf_X0_7 hx hb htw hown hK hW (by assumption) hS dX0_set_101 (fun H locs hW hS => ?_)
          exact tm_vret hx hb hr hlk hK hW hS (fS_eq (tl_set_fin hb0 (by omega) (by omega)).1 (tl_set_fin hb0 (by omega) (by omega)).2) dX0_set_104
        · refine lv_lload hx hb dX0_set_83 (lv_at hl 3 rfl) ?_
          refine ti_lneg hx hb dX0_set_85 ?_
          refine lv_lstore (lv' := [(5, _), (0, _), (1, _), (3, _)]) hx hb dX0_set_86 hl (by decide) rfl (fun ls hl => ?_)
          refine lv_aload_n hx hb dX0_set_88 rfl (lv_at hl 1 rfl) ?_
          refine lv_lload_n hx hb dX0_set_89 rfl (lv_at hl 2 rfl) ?_
          refine lv_lload hx hb dX0_set_90 (lv_at hl 0 rfl) ?_
          refine ti_ldiv hx hb dX0_set_92 (by omega) (by omega) (by omega) ?_
          refine pf_X0_17 hx hb htw hown hK hW (by assumption) hS dX0_set_93 (fun H locs hW hS => ?_)
          refine lv_aload_n hx hb dX0_set_96 rfl (lv_at hl 1 rfl) ?_
          refine lv_lload_n hx hb dX0_set_97 rfl (lv_at hl 3 rfl) ?_
          refine lv_lload hx hb dX0_set_98 (lv_at hl 0 rfl) ?_
          refine ti_ldiv hx hb dX0_set_100 (by omega) (by omega) (by omega) ?_
          refine pf_X0_7 hx hb htw hown hK hW (by assumption) hS dX0_set_101 (fun H locs hW hS => ?_)
          exact tm_vret hx hb hr hlk hK hW hS (fS_eq (tl_set_fin hb0 (by omega) (by omega)).1 (tl_set_fin hb0 (by omega) (by omega)).2) dX0_set_104
      · refine ti_iconst hx hb dX0_set_75 ?_
        refine lv_goto (tgt := 80) hx hb dX0_set_76 (by decide) ?_
        refine ti_icmp_eq (tgt := 88) hx hb dX0_set_80 (by decide) (by omega) (by omega) (fun h80 => ?_) (fun h80 => ?_)
        · refine lv_aload_n hx hb dX0_set_88 rfl (lv_at hl 0 rfl) ?_
          refine lv_lload_n hx hb dX0_set_89 rfl (lv_at hl 1 rfl) ?_
          refine lv_lload hx hb dX0_set_90 (lv_at hl 3 rfl) ?_
          refine ti_ldiv hx hb dX0_set_92 (by omega) (by omega) (by omega) ?_
          refine pf_X0_17 hx hb htw hown hK hW (by assumption) hS dX0_set_93 (fun H locs hW hS => ?_)
          refine lv_aload_n hx hb dX0_set_96 rfl (lv_at hl 0 rfl) ?_
          refine lv_lload_n hx hb dX0_set_97 rfl (lv_at hl 2 rfl) ?_
          refine lv_lload hx hb dX0_set_98 (lv_at hl 3 rfl) ?_
          refine ti_ldiv hx hb dX0_set_100 (by omega) (by omega) (by omega) ?_
          refine pf_X0_7 hx hb htw hown hK hW (by assumption) hS dX0_set_101 (fun H locs hW hS => ?_)
          exact tm_vret hx hb hr hlk hK hW hS (fS_eq (tl_set_fin hb0 (by omega) (by omega)).1 (tl_set_fin hb0 (by omega) (by omega)).2) dX0_set_104
        · refine lv_lload hx hb dX0_set_83 (lv_at hl 3 rfl) ?_
          refine ti_lneg hx hb dX0_set_85 ?_
          refine lv_lstore (lv' := [(5, _), (0, _), (1, _), (3, _)]) hx hb dX0_set_86 hl (by decide) rfl (fun ls hl => ?_)
          refine lv_aload_n hx hb dX0_set_88 rfl (lv_at hl 1 rfl) ?_
          refine lv_lload_n hx hb dX0_set_89 rfl (lv_at hl 2 rfl) ?_
          refine lv_lload hx hb dX0_set_90 (lv_at hl 0 rfl) ?_
          refine ti_ldiv hx hb dX0_set_92 (by omega) (by omega) (by omega) ?_
          refine pf_X0_17 hx hb htw hown hK hW (by assumption) hS dX0_set_93 (fun H locs hW hS => ?_)
          refine lv_aload_n hx hb dX0_set_96 rfl (lv_at hl 1 rfl) ?_
          refine lv_lload_n hx hb dX0_set_97 rfl (lv_at hl 3 rfl) ?_
          refine lv_lload hx hb dX0_set_98 (lv_at hl 0 rfl) ?_
          refine ti_ldiv hx hb dX0_set_100 (by omega) (by omega) (by omega) ?_
          refine pf_X0_7 hx hb htw hown hK hW (by assumption) hS dX0_set_101 (fun H locs hW hS => ?_)
          exact tm_vret hx hb hr hlk hK hW hS (fS_eq (tl_set_fin hb0 (by omega) (by omega)).1 (tl_set_fin hb0 (by omega) (by omega)).2) dX0_set_104
    · refine ti_iconst hx hb dX0_set_64 ?_
      refine lv_goto (tgt := 69) hx hb dX0_set_65 (by decide) ?_
      refine lv_lload_n hx hb dX0_set_69 rfl (lv_at hl 2 rfl) ?_
      refine ti_lconst0 hx hb dX0_set_70 ?_
      refine ti_lcmp_ge (tgt := 79) hx hb dX0_set_71 dX0_set_72 (by decide) (by omega) (by omega) (fun h71 => ?_) (fun h71 => ?_)
      · refine ti_iconst hx hb dX0_set_79 ?_
        refine ti_icmp_eq (tgt := 88) hx hb dX0_set_80 (by decide) (by omega) (by omega) (fun h80 => ?_) (fun h80 => ?_)
        · refine lv_aload_n hx hb dX0_set_88 rfl (lv_at hl 0 rfl) ?_
          refine lv_lload_n hx hb dX0_set_89 rfl (lv_at hl 1 rfl) ?_
          refine lv_lload hx hb dX0_set_90 (lv_at hl 3 rfl) ?_
          refine ti_ldiv hx hb dX0_set_92 (by omega) (by omega) (by omega) ?_
          refine pf_X0_17 hx hb htw hown hK hW (by assumption) hS dX0_set_93 (fun H locs hW hS => ?_)
          refine lv_aload_n hx hb dX0_set_96 rfl (lv_at hl 0 rfl) ?_
          refine lv_lload_n hx hb dX0_set_97 rfl (lv_at hl 2 rfl) ?_
          refine lv_lload hx hb dX0_set_98 (lv_at hl 3 rfl) ?_
          refine ti_ldiv hx hb dX0_set_100 (by omega) (by omega) (by omega) ?_
          refine pf_X0_7 hx hb htw hown hK hW (by assumption) hS dX0_set_101 (fun H locs hW hS => ?_)
          exact tm_vret hx hb hr hlk hK hW hS (fS_eq (tl_set_fin hb0 (by omega) (by omega)).1 (tl_set_fin hb0 (by omega) (by omega)).2) dX0_set_104
        · refine lv_lload hx hb dX0_set_83 (lv_at hl 3 rfl) ?_
          refine ti_lneg hx hb dX0_set_85 ?_
          refine lv_lstore (lv' := [(5, _), (0, _), (1, _), (3, _)]) hx hb dX0_set_86 hl (by decide) rfl (fun ls hl => ?_)
          refine lv_aload_n hx hb dX0_set_88 rfl (lv_at hl 1 rfl) ?_
          refine lv_lload_n hx hb dX0_set_89 rfl (lv_at hl 2 rfl) ?_
          refine lv_lload hx hb dX0_set_90 (lv_at hl 0 rfl) ?_
          refine ti_ldiv hx hb dX0_set_92 (by omega) (by omega) (by omega) ?_
          refine pf_X0_17 hx hb htw hown hK hW (by assumption) hS dX0_set_93 (fun H locs hW hS => ?_)
          refine lv_aload_n hx hb dX0_set_96 rfl (lv_at hl 1 rfl) ?_
          refine lv_lload_n hx hb dX0_set_97 rfl (lv_at hl 3 rfl) ?_
          refine lv_lload hx hb dX0_set_98 (lv_at hl 0 rfl) ?_
          refine ti_ldiv hx hb dX0_set_100 (by omega) (by omega) (by omega) ?_
          refine pf_X0_7 hx hb htw hown hK hW (by assumption) hS dX0_set_101 (fun H locs hW hS => ?_)
          exact tm_vret hx hb hr hlk hK hW hS (fS_eq (tl_set_fin hb0 (by omega) (by omega)).1 (tl_set_fin hb0 (by omega) (by omega)).2) dX0_set_104
      · refine ti_iconst hx hb dX0_set_75 ?_
        refine lv_goto (tgt := 80) hx hb dX0_set_76 (by decide) ?_
        refine ti_icmp_eq (tgt := 88) hx hb dX0_set_80 (by decide) (by omega) (by omega) (fun h80 => ?_) (fun h80 => ?_)
        · refine lv_aload_n hx hb dX0_set_88 rfl (lv_at hl 0 rfl) ?_
          refine lv_lload_n hx hb dX0_set_89 rfl (lv_at hl 1 rfl) ?_
          refine lv_lload hx hb dX0_set_90 (lv_at hl 3 rfl) ?_
          refine ti_ldiv hx hb dX0_set_92 (by omega) (by omega) (by omega) ?_
          refine pf_X0_17 hx hb htw hown hK hW (by assumption) hS dX0_set_93 (fun H locs hW hS => ?_)
          refine lv_aload_n hx hb dX0_set_96 rfl (lv_at hl 0 rfl) ?_
          refine lv_lload_n hx hb dX0_set_97 rfl (lv_at hl 2 rfl) ?_
          refine lv_lload hx hb dX0_set_98 (lv_at hl 3 rfl) ?_
          refine ti_ldiv hx hb dX0_set_100 (by omega) (by omega) (by omega) ?_
          refine pf_X0_7 hx hb htw hown hK hW (by assumption) hS dX0_set_101 (fun H locs hW hS => ?_)
          exact tm_vret hx hb hr hlk hK hW hS (fS_eq (tl_set_fin hb0 (by omega) (by omega)).1 (tl_set_fin hb0 (by omega) (by omega)).2) dX0_set_104
        · refine lv_lload hx hb dX0_set_83 (lv_at hl 3 rfl) ?_
          refine ti_lneg hx hb dX0_set_85 ?_
          refine lv_lstore (lv' := [(5, _), (0, _), (1, _), (3, _)]) hx hb dX0_set_86 hl (by decide) rfl (fun ls hl => ?_)
          refine lv_aload_n hx hb dX0_set_88 rfl (lv_at hl 1 rfl) ?_
          refine lv_lload_n hx hb dX0_set_89 rfl (lv_at hl 2 rfl) ?_
          refine lv_lload hx hb dX0_set_90 (lv_at hl 0 rfl) ?_
          refine ti_ldiv hx hb dX0_set_92 (by omega) (by omega) (by omega) ?_
          refine pf_X0_17 hx hb htw hown hK hW (by assumption) hS dX0_set_93 (fun H locs hW hS => ?_)
          refine lv_aload_n hx hb dX0_set_96 rfl (lv_at hl 1 rfl) ?_
          refine lv_lload_n hx hb dX0_set_97 rfl (lv_at hl 3 rfl) ?_
          refine lv_lload hx hb dX0_set_98 (lv_at hl 0 rfl) ?_
          refine ti_ldiv hx hb dX0_set_100 (by omega) (by omega) (by omega) ?_
          refine pf_X0_7 hx hb htw hown hK hW (by assumption) hS dX0_set_101 (fun H locs hW hS => ?_)
          exact tm_vret hx hb hr hlk hK hW hS (fS_eq (tl_set_fin hb0 (by omega) (by omega)).1 (tl_set_fin hb0 (by omega) (by omega)).2) dX0_set_104
  have loop : ∀ (k : Nat) (n d r : Int) (ls : Array Slot), 0 ≤ n → n + k ≤ 199 → d ≠ 0 → d.natAbs ≤ 4611686018427387904 → r.natAbs ≤ d.natAbs → d.natAbs * r.natAbs < 2 ^ k → Int.gcd d r = Int.gcd a b → lv_has ls 12 [(0, .ref q), (1, jl a), (3, jl b), (5, jl d), (7, jl r), (9, ji n)] → W p l e ({ frames := 1, cells := 0, slots := 0, locals := 22 }) s m [.ref q, jl a, jl b].toArray below meth c s.heap [] 0 0 (MQ below (tm_Qv G Hb sh (fun M1 => M1 = fS M q (tl_norm a b))) [.ref q, jl a, jl b].toArray s 0 0 (tm_A Hb)) (F0 m 21 ls []) := by
    intro k
    induction k with
    | zero =>
      intro n d r ls hn hk hd0 hdL hrd hpr hgc hl
      have hr0 : r = 0 := by
        rcases Nat.eq_zero_or_pos r.natAbs with z | z
        · omega
        · have := Nat.mul_le_mul (show 1 ≤ d.natAbs by omega) (show 1 ≤ r.natAbs from z)
          omega
      subst hr0
      refine lv_iload hx hb dX0_set_21 (lv_at hl 5 rfl) ?_
      refine ti_sipush hx hb dX0_set_23 (by decide) ?_
      refine ti_icmp_ge (tgt := 57) hx hb dX0_set_26 (by decide) (by omega) (by omega) (fun h26 => ?_) (fun h26 => ?_)
      · exact absurd h26 (by omega)
      · refine lv_lload hx hb dX0_set_29 (lv_at hl 4 rfl) ?_
        refine ti_lconst0 hx hb dX0_set_31 ?_
        refine ti_lcmp_eq (tgt := 57) hx hb dX0_set_32 dX0_set_33 (by decide) (by omega) (by omega) (fun h32 => ?_) (fun h32 => ?_)
        · exact ex d ls hd0 hdL (by rw [← hgc]; exact (Int.gcd_zero_right d).symm) (lv_sub hl [0, 1, 2, 3] rfl)
        · exact absurd rfl h32
    | succ k ih =>
      intro n d r ls hn hk hd0 hdL hrd hpr hgc hl
      refine lv_iload hx hb dX0_set_21 (lv_at hl 5 rfl) ?_
      refine ti_sipush hx hb dX0_set_23 (by decide) ?_
      refine ti_icmp_ge (tgt := 57) hx hb dX0_set_26 (by decide) (by omega) (by omega) (fun h26 => ?_) (fun h26 => ?_)
      · exact absurd h26 (by omega)
      · refine lv_lload hx hb dX0_set_29 (lv_at hl 4 rfl) ?_
        refine ti_lconst0 hx hb dX0_set_31 ?_
        refine ti_lcmp_eq (tgt := 57) hx hb dX0_set_32 dX0_set_33 (by decide) (by omega) (by omega) (fun h32 => ?_) (fun h32 => ?_)
        · subst h32
          exact ex d ls hd0 hdL (by rw [← hgc]; exact (Int.gcd_zero_right d).symm) (lv_sub hl [0, 1, 2, 3] rfl)
        · refine lv_lload hx hb dX0_set_36 (lv_at hl 3 rfl) ?_
          refine lv_lload hx hb dX0_set_38 (lv_at hl 4 rfl) ?_
          refine ti_lrem hx hb dX0_set_40 (by omega) (by omega) (by omega) ?_
          refine lv_lstore (lv' := [(10, _), (0, _), (1, _), (3, _), (5, _), (7, _), (9, _)]) hx hb dX0_set_41 hl (by decide) rfl (fun ls hl => ?_)
          refine lv_lload hx hb dX0_set_43 (lv_at hl 5 rfl) ?_
          refine lv_lstore (lv' := [(5, _), (10, _), (0, _), (1, _), (3, _), (7, _), (9, _)]) hx hb dX0_set_45 hl (by decide) rfl (fun ls hl => ?_)
          refine lv_lload hx hb dX0_set_47 (lv_at hl 1 rfl) ?_
          refine lv_lstore (lv' := [(7, _), (5, _), (10, _), (0, _), (1, _), (3, _), (9, _)]) hx hb dX0_set_49 hl (by decide) rfl (fun ls hl => ?_)
          refine ti_iinc (k := 6) (lv' := [(9, _), (7, _), (5, _), (10, _), (0, _), (1, _), (3, _)]) hx hb dX0_set_51 hl rfl (by decide) rfl (fun ls hl => ?_)
          refine lv_goto (tgt := 21) hx hb dX0_set_54 (by decide) ?_
          exact ih (n + 1) r (d.tmod r) ls (by omega) (by omega) h32 (by omega) (Nat.le_of_lt (tl_tmod_lt h32)) (by rw [Int.natAbs_tmod]; exact tl_half (by omega) hrd hpr) (tl_gcd_step.trans hgc) (lv_sub hl [4, 5, 6, 2, 1, 0] rfl)
  refine lv_lload_n hx hb dX0_set_0 rfl (lv_at hl 2 rfl) ?_
  refine ti_lconst0 hx hb dX0_set_1 ?_
  refine ti_lcmp_ne (tgt := 12) hx hb dX0_set_2 dX0_set_3 (by decide) (by omega) (by omega) (fun h2 => ?_) (fun h2 => ?_)
  · refine lv_lload_n hx hb dX0_set_12 rfl (lv_at hl 2 rfl) ?_
    refine lv_lstore (lv' := [(5, _), (0, _), (1, _), (3, _)]) hx hb dX0_set_13 hl (by decide) rfl (fun ls hl => ?_)
    refine lv_lload_n hx hb dX0_set_15 rfl (lv_at hl 2 rfl) ?_
    refine lv_lstore (lv' := [(7, _), (5, _), (0, _), (1, _), (3, _)]) hx hb dX0_set_16 hl (by decide) rfl (fun ls hl => ?_)
    refine ti_iconst hx hb dX0_set_18 ?_
    refine lv_istore (lv' := [(9, _), (7, _), (5, _), (0, _), (1, _), (3, _)]) hx hb dX0_set_19 hl (by decide) rfl (fun ls hl => ?_)
    refine lv_iload hx hb dX0_set_21 (lv_at hl 0 rfl) ?_
    refine ti_sipush hx hb dX0_set_23 (by decide) ?_
    refine ti_icmp_ge (tgt := 57) hx hb dX0_set_26 (by decide) (by omega) (by omega) (fun h26 => ?_) (fun h26 => ?_)
    · exact absurd h26 (by decide)
    · refine lv_lload hx hb dX0_set_29 (lv_at hl 1 rfl) ?_
      refine ti_lconst0 hx hb dX0_set_31 ?_
      refine ti_lcmp_eq (tgt := 57) hx hb dX0_set_32 dX0_set_33 (by decide) (by omega) (by omega) (fun h32 => ?_) (fun h32 => ?_)
      · subst h32
        exact ex b ls hb0 hbb (by rw [Int.gcd_zero_left]) (lv_sub hl [3, 4, 5, 2] rfl)
      · refine lv_lload hx hb dX0_set_36 (lv_at hl 2 rfl) ?_
        refine lv_lload hx hb dX0_set_38 (lv_at hl 1 rfl) ?_
        refine ti_lrem hx hb dX0_set_40 (by omega) (by omega) (by omega) ?_
        refine lv_lstore (lv' := [(10, _), (9, _), (7, _), (5, _), (0, _), (1, _), (3, _)]) hx hb dX0_set_41 hl (by decide) rfl (fun ls hl => ?_)
        refine lv_lload hx hb dX0_set_43 (lv_at hl 2 rfl) ?_
        refine lv_lstore (lv' := [(5, _), (10, _), (9, _), (7, _), (0, _), (1, _), (3, _)]) hx hb dX0_set_45 hl (by decide) rfl (fun ls hl => ?_)
        refine lv_lload hx hb dX0_set_47 (lv_at hl 1 rfl) ?_
        refine lv_lstore (lv' := [(7, _), (5, _), (10, _), (9, _), (0, _), (1, _), (3, _)]) hx hb dX0_set_49 hl (by decide) rfl (fun ls hl => ?_)
        refine ti_iinc (k := 3) (lv' := [(9, _), (7, _), (5, _), (10, _), (0, _), (1, _), (3, _)]) hx hb dX0_set_51 hl rfl (by decide) rfl (fun ls hl => ?_)
        refine lv_goto (tgt := 21) hx hb dX0_set_54 (by decide) ?_
        exact loop 126 1 a (b.tmod a) ls (by omega) (by omega) h32 ha (Nat.le_of_lt (tl_tmod_lt h32)) (by have h1 := tl_tmod_lt (d := b) h32; have h2 := Nat.mul_le_mul ha (show (b.tmod a).natAbs ≤ 4611686018427387903 by omega); exact Nat.lt_of_le_of_lt h2 (by decide)) (tl_gcd_step.trans (Int.gcd_comm b a)) (lv_sub hl [4, 5, 6, 2, 1, 0] rfl)
  · exact absurd h2 hb0
theorem dX0_setSum_0 : decode cX0_setSum 0 = .ok (.aload_n 0, 1) := by decide +kernel
theorem dX0_setSum_1 : decode cX0_setSum 1 = .ok (.aload_n 1, 1) := by decide +kernel
theorem dX0_setSum_2 : decode cX0_setSum 2 = .ok (.getfield 17, 3) := by decide +kernel
theorem dX0_setSum_5 : decode cX0_setSum 5 = .ok (.aload_n 2, 1) := by decide +kernel
theorem dX0_setSum_6 : decode cX0_setSum 6 = .ok (.getfield 7, 3) := by decide +kernel
theorem dX0_setSum_9 : decode cX0_setSum 9 = .ok (.lmul, 1) := by decide +kernel
theorem dX0_setSum_10 : decode cX0_setSum 10 = .ok (.aload_n 2, 1) := by decide +kernel
theorem dX0_setSum_11 : decode cX0_setSum 11 = .ok (.getfield 17, 3) := by decide +kernel
theorem dX0_setSum_14 : decode cX0_setSum 14 = .ok (.aload_n 1, 1) := by decide +kernel
theorem dX0_setSum_15 : decode cX0_setSum 15 = .ok (.getfield 7, 3) := by decide +kernel
theorem dX0_setSum_18 : decode cX0_setSum 18 = .ok (.lmul, 1) := by decide +kernel
theorem dX0_setSum_19 : decode cX0_setSum 19 = .ok (.ladd, 1) := by decide +kernel
theorem dX0_setSum_20 : decode cX0_setSum 20 = .ok (.aload_n 1, 1) := by decide +kernel
theorem dX0_setSum_21 : decode cX0_setSum 21 = .ok (.getfield 7, 3) := by decide +kernel
theorem dX0_setSum_24 : decode cX0_setSum 24 = .ok (.aload_n 2, 1) := by decide +kernel
theorem dX0_setSum_25 : decode cX0_setSum 25 = .ok (.getfield 7, 3) := by decide +kernel
theorem dX0_setSum_28 : decode cX0_setSum 28 = .ok (.lmul, 1) := by decide +kernel
theorem dX0_setSum_29 : decode cX0_setSum 29 = .ok (.invokevirtual 20, 3) := by decide +kernel
theorem dX0_setSum_32 : decode cX0_setSum 32 = .ok (.return_, 1) := by decide +kernel
set_option maxHeartbeats 4000000 in
set_option maxRecDepth 100000 in
/-- setSum -/
theorem c_X0_setSum {l : Launch} {G : tm_G} {Hb : Heap} {sh : tm_sh} {M : tm_M} {q p1 p2 : Nat} (h0 : sh q = some (2, 0)) (h1 : sh p1 = some (2, 0)) (h2 : sh p2 = some (2, 0)) (hd : mL M p1 1 * mL M p2 1 ≠ 0) (hn1 : (mL M p1 0 * mL M p2 1 + mL M p2 0 * mL M p1 1).natAbs ≤ 4611686018427387904) (hn2 : (mL M p1 1 * mL M p2 1).natAbs ≤ 4611686018427387904) : Met l yX0_setSum (tws yX0_setSum cX0_setSum 3 none) ({ frames := 2, cells := 0, slots := 0, locals := 53 }) (va_Pc [.ref q, .ref p1, .ref p2] (tm_St G Hb sh M)) (tm_Qv G Hb sh (fun M1 => M1 = fS M q (tl_norm (mL M p1 0 * mL M p2 1 + mL M p2 0 * mL M p1 1) (mL M p1 1 * mL M p2 1)))) 0 0 (tm_A Hb) := by
  refine tm_begin (by decide) (Nat.le_of_ble_eq_true rfl) (fun p e s m below meth c ls hx hb hr hml hown htw hlk hnm hK hW hl => ?_)
  have hS : va_S (tm_A Hb) s.heap s.heap [] := va_S.rf
  have hl : lv_has ls 3 [(0, .ref q), (1, .ref p1), (2, .ref p2)] := hl
  refine lv_aload_n hx hb dX0_setSum_0 rfl (lv_at hl 0 rfl) ?_
  refine lv_aload_n hx hb dX0_setSum_1 rfl (lv_at hl 1 rfl) ?_
  refine gf_X0_17 hx hb htw hown hK hW (by assumption) dX0_setSum_2 ?_
  refine lv_aload_n hx hb dX0_setSum_5 rfl (lv_at hl 2 rfl) ?_
  refine gf_X0_7 hx hb htw hown hK hW (by assumption) dX0_setSum_6 ?_
  refine ti_lmul hx hb dX0_setSum_9 ?_
  refine lv_aload_n hx hb dX0_setSum_10 rfl (lv_at hl 2 rfl) ?_
  refine gf_X0_17 hx hb htw hown hK hW (by assumption) dX0_setSum_11 ?_
  refine lv_aload_n hx hb dX0_setSum_14 rfl (lv_at hl 1 rfl) ?_
  refine gf_X0_7 hx hb htw hown hK hW (by assumption) dX0_setSum_15 ?_
  refine ti_lmul hx hb dX0_setSum_18 ?_
  refine ti_ladd hx hb dX0_setSum_19 ?_
  refine lv_aload_n hx hb dX0_setSum_20 rfl (lv_at hl 1 rfl) ?_
  refine gf_X0_7 hx hb htw hown hK hW (by assumption) dX0_setSum_21 ?_
  refine lv_aload_n hx hb dX0_setSum_24 rfl (lv_at hl 2 rfl) ?_
  refine gf_X0_7 hx hb htw hown hK hW (by assumption) dX0_setSum_25 ?_
  refine ti_lmul hx hb dX0_setSum_28 ?_
  refine tm_callv (cs_X0_20 hx hb hml hown htw hK hW (by assumption) (c_X0_set (by assumption) (by assumption) (by assumption) (by assumption)) ⟨rfl, rfl, Nat.le_of_ble_eq_true rfl, Nat.le_of_ble_eq_true rfl⟩ hl.1 (Nat.le_of_ble_eq_true rfl) dX0_setSum_29 ⟨Nat.le_of_ble_eq_true rfl, Nat.le_of_ble_eq_true rfl⟩) hS (fun M29 H locs hp29 hW hS => ?_)
  exact tm_vret hx hb hr hlk hK hW hS hp29 dX0_setSum_32
theorem dX0_setDifference_0 : decode cX0_setDifference 0 = .ok (.aload_n 0, 1) := by decide +kernel
theorem dX0_setDifference_1 : decode cX0_setDifference 1 = .ok (.aload_n 1, 1) := by decide +kernel
theorem dX0_setDifference_2 : decode cX0_setDifference 2 = .ok (.getfield 17, 3) := by decide +kernel
theorem dX0_setDifference_5 : decode cX0_setDifference 5 = .ok (.aload_n 2, 1) := by decide +kernel
theorem dX0_setDifference_6 : decode cX0_setDifference 6 = .ok (.getfield 7, 3) := by decide +kernel
theorem dX0_setDifference_9 : decode cX0_setDifference 9 = .ok (.lmul, 1) := by decide +kernel
theorem dX0_setDifference_10 : decode cX0_setDifference 10 = .ok (.aload_n 2, 1) := by decide +kernel
theorem dX0_setDifference_11 : decode cX0_setDifference 11 = .ok (.getfield 17, 3) := by decide +kernel
theorem dX0_setDifference_14 : decode cX0_setDifference 14 = .ok (.aload_n 1, 1) := by decide +kernel
theorem dX0_setDifference_15 : decode cX0_setDifference 15 = .ok (.getfield 7, 3) := by decide +kernel
theorem dX0_setDifference_18 : decode cX0_setDifference 18 = .ok (.lmul, 1) := by decide +kernel
theorem dX0_setDifference_19 : decode cX0_setDifference 19 = .ok (.lsub, 1) := by decide +kernel
theorem dX0_setDifference_20 : decode cX0_setDifference 20 = .ok (.aload_n 1, 1) := by decide +kernel
theorem dX0_setDifference_21 : decode cX0_setDifference 21 = .ok (.getfield 7, 3) := by decide +kernel
theorem dX0_setDifference_24 : decode cX0_setDifference 24 = .ok (.aload_n 2, 1) := by decide +kernel
theorem dX0_setDifference_25 : decode cX0_setDifference 25 = .ok (.getfield 7, 3) := by decide +kernel
theorem dX0_setDifference_28 : decode cX0_setDifference 28 = .ok (.lmul, 1) := by decide +kernel
theorem dX0_setDifference_29 : decode cX0_setDifference 29 = .ok (.invokevirtual 20, 3) := by decide +kernel
theorem dX0_setDifference_32 : decode cX0_setDifference 32 = .ok (.return_, 1) := by decide +kernel
set_option maxHeartbeats 4000000 in
set_option maxRecDepth 100000 in
/-- setDifference -/
theorem c_X0_setDifference {l : Launch} {G : tm_G} {Hb : Heap} {sh : tm_sh} {M : tm_M} {q p1 p2 : Nat} (h0 : sh q = some (2, 0)) (h1 : sh p1 = some (2, 0)) (h2 : sh p2 = some (2, 0)) (hd : mL M p1 1 * mL M p2 1 ≠ 0) (hn1 : (mL M p1 0 * mL M p2 1 - mL M p2 0 * mL M p1 1).natAbs ≤ 4611686018427387904) (hn2 : (mL M p1 1 * mL M p2 1).natAbs ≤ 4611686018427387904) : Met l yX0_setDifference (tws yX0_setDifference cX0_setDifference 3 none) ({ frames := 2, cells := 0, slots := 0, locals := 53 }) (va_Pc [.ref q, .ref p1, .ref p2] (tm_St G Hb sh M)) (tm_Qv G Hb sh (fun M1 => M1 = fS M q (tl_norm (mL M p1 0 * mL M p2 1 - mL M p2 0 * mL M p1 1) (mL M p1 1 * mL M p2 1)))) 0 0 (tm_A Hb) := by
  refine tm_begin (by decide) (Nat.le_of_ble_eq_true rfl) (fun p e s m below meth c ls hx hb hr hml hown htw hlk hnm hK hW hl => ?_)
  have hS : va_S (tm_A Hb) s.heap s.heap [] := va_S.rf
  have hl : lv_has ls 3 [(0, .ref q), (1, .ref p1), (2, .ref p2)] := hl
  refine lv_aload_n hx hb dX0_setDifference_0 rfl (lv_at hl 0 rfl) ?_
  refine lv_aload_n hx hb dX0_setDifference_1 rfl (lv_at hl 1 rfl) ?_
  refine gf_X0_17 hx hb htw hown hK hW (by assumption) dX0_setDifference_2 ?_
  refine lv_aload_n hx hb dX0_setDifference_5 rfl (lv_at hl 2 rfl) ?_
  refine gf_X0_7 hx hb htw hown hK hW (by assumption) dX0_setDifference_6 ?_
  refine ti_lmul hx hb dX0_setDifference_9 ?_
  refine lv_aload_n hx hb dX0_setDifference_10 rfl (lv_at hl 2 rfl) ?_
  refine gf_X0_17 hx hb htw hown hK hW (by assumption) dX0_setDifference_11 ?_
  refine lv_aload_n hx hb dX0_setDifference_14 rfl (lv_at hl 1 rfl) ?_
  refine gf_X0_7 hx hb htw hown hK hW (by assumption) dX0_setDifference_15 ?_
  refine ti_lmul hx hb dX0_setDifference_18 ?_
  refine ti_lsub hx hb dX0_setDifference_19 ?_
  refine lv_aload_n hx hb dX0_setDifference_20 rfl (lv_at hl 1 rfl) ?_
  refine gf_X0_7 hx hb htw hown hK hW (by assumption) dX0_setDifference_21 ?_
  refine lv_aload_n hx hb dX0_setDifference_24 rfl (lv_at hl 2 rfl) ?_
  refine gf_X0_7 hx hb htw hown hK hW (by assumption) dX0_setDifference_25 ?_
  refine ti_lmul hx hb dX0_setDifference_28 ?_
  refine tm_callv (cs_X0_20 hx hb hml hown htw hK hW (by assumption) (c_X0_set (by assumption) (by assumption) (by assumption) (by assumption)) ⟨rfl, rfl, Nat.le_of_ble_eq_true rfl, Nat.le_of_ble_eq_true rfl⟩ hl.1 (Nat.le_of_ble_eq_true rfl) dX0_setDifference_29 ⟨Nat.le_of_ble_eq_true rfl, Nat.le_of_ble_eq_true rfl⟩) hS (fun M29 H locs hp29 hW hS => ?_)
  exact tm_vret hx hb hr hlk hK hW hS hp29 dX0_setDifference_32
theorem dX0_setProduct_0 : decode cX0_setProduct 0 = .ok (.aload_n 0, 1) := by decide +kernel
theorem dX0_setProduct_1 : decode cX0_setProduct 1 = .ok (.aload_n 1, 1) := by decide +kernel
theorem dX0_setProduct_2 : decode cX0_setProduct 2 = .ok (.getfield 17, 3) := by decide +kernel
theorem dX0_setProduct_5 : decode cX0_setProduct 5 = .ok (.aload_n 2, 1) := by decide +kernel
theorem dX0_setProduct_6 : decode cX0_setProduct 6 = .ok (.getfield 17, 3) := by decide +kernel
theorem dX0_setProduct_9 : decode cX0_setProduct 9 = .ok (.lmul, 1) := by decide +kernel
theorem dX0_setProduct_10 : decode cX0_setProduct 10 = .ok (.aload_n 1, 1) := by decide +kernel
theorem dX0_setProduct_11 : decode cX0_setProduct 11 = .ok (.getfield 7, 3) := by decide +kernel
theorem dX0_setProduct_14 : decode cX0_setProduct 14 = .ok (.aload_n 2, 1) := by decide +kernel
theorem dX0_setProduct_15 : decode cX0_setProduct 15 = .ok (.getfield 7, 3) := by decide +kernel
theorem dX0_setProduct_18 : decode cX0_setProduct 18 = .ok (.lmul, 1) := by decide +kernel
theorem dX0_setProduct_19 : decode cX0_setProduct 19 = .ok (.invokevirtual 20, 3) := by decide +kernel
theorem dX0_setProduct_22 : decode cX0_setProduct 22 = .ok (.return_, 1) := by decide +kernel
set_option maxHeartbeats 4000000 in
set_option maxRecDepth 100000 in
/-- setProduct -/
theorem c_X0_setProduct {l : Launch} {G : tm_G} {Hb : Heap} {sh : tm_sh} {M : tm_M} {q p1 p2 : Nat} (h0 : sh q = some (2, 0)) (h1 : sh p1 = some (2, 0)) (h2 : sh p2 = some (2, 0)) (hd : mL M p1 1 * mL M p2 1 ≠ 0) (hn1 : (mL M p1 0 * mL M p2 0).natAbs ≤ 4611686018427387904) (hn2 : (mL M p1 1 * mL M p2 1).natAbs ≤ 4611686018427387904) : Met l yX0_setProduct (tws yX0_setProduct cX0_setProduct 3 none) ({ frames := 2, cells := 0, slots := 0, locals := 53 }) (va_Pc [.ref q, .ref p1, .ref p2] (tm_St G Hb sh M)) (tm_Qv G Hb sh (fun M1 => M1 = fS M q (tl_norm (mL M p1 0 * mL M p2 0) (mL M p1 1 * mL M p2 1)))) 0 0 (tm_A Hb) := by
  refine tm_begin (by decide) (Nat.le_of_ble_eq_true rfl) (fun p e s m below meth c ls hx hb hr hml hown htw hlk hnm hK hW hl => ?_)
  have hS : va_S (tm_A Hb) s.heap s.heap [] := va_S.rf
  have hl : lv_has ls 3 [(0, .ref q), (1, .ref p1), (2, .ref p2)] := hl
  refine lv_aload_n hx hb dX0_setProduct_0 rfl (lv_at hl 0 rfl) ?_
  refine lv_aload_n hx hb dX0_setProduct_1 rfl (lv_at hl 1 rfl) ?_
  refine gf_X0_17 hx hb htw hown hK hW (by assumption) dX0_setProduct_2 ?_
  refine lv_aload_n hx hb dX0_setProduct_5 rfl (lv_at hl 2 rfl) ?_
  refine gf_X0_17 hx hb htw hown hK hW (by assumption) dX0_setProduct_6 ?_
  refine ti_lmul hx hb dX0_setProduct_9 ?_
  refine lv_aload_n hx hb dX0_setProduct_10 rfl (lv_at hl 1 rfl) ?_
  refine gf_X0_7 hx hb htw hown hK hW (by assumption) dX0_setProduct_11 ?_
  refine lv_aload_n hx hb dX0_setProduct_14 rfl (lv_at hl 2 rfl) ?_
  refine gf_X0_7 hx hb htw hown hK hW (by assumption) dX0_setProduct_15 ?_
  refine ti_lmul hx hb dX0_setProduct_18 ?_
  refine tm_callv (cs_X0_20 hx hb hml hown htw hK hW (by assumption) (c_X0_set (by assumption) (by assumption) (by assumption) (by assumption)) ⟨rfl, rfl, Nat.le_of_ble_eq_true rfl, Nat.le_of_ble_eq_true rfl⟩ hl.1 (Nat.le_of_ble_eq_true rfl) dX0_setProduct_19 ⟨Nat.le_of_ble_eq_true rfl, Nat.le_of_ble_eq_true rfl⟩) hS (fun M19 H locs hp19 hW hS => ?_)
  exact tm_vret hx hb hr hlk hK hW hS hp19 dX0_setProduct_22
theorem dX0_setQuotient_0 : decode cX0_setQuotient 0 = .ok (.aload_n 0, 1) := by decide +kernel
theorem dX0_setQuotient_1 : decode cX0_setQuotient 1 = .ok (.aload_n 1, 1) := by decide +kernel
theorem dX0_setQuotient_2 : decode cX0_setQuotient 2 = .ok (.getfield 17, 3) := by decide +kernel
theorem dX0_setQuotient_5 : decode cX0_setQuotient 5 = .ok (.aload_n 2, 1) := by decide +kernel
theorem dX0_setQuotient_6 : decode cX0_setQuotient 6 = .ok (.getfield 7, 3) := by decide +kernel
theorem dX0_setQuotient_9 : decode cX0_setQuotient 9 = .ok (.lmul, 1) := by decide +kernel
theorem dX0_setQuotient_10 : decode cX0_setQuotient 10 = .ok (.aload_n 1, 1) := by decide +kernel
theorem dX0_setQuotient_11 : decode cX0_setQuotient 11 = .ok (.getfield 7, 3) := by decide +kernel
theorem dX0_setQuotient_14 : decode cX0_setQuotient 14 = .ok (.aload_n 2, 1) := by decide +kernel
theorem dX0_setQuotient_15 : decode cX0_setQuotient 15 = .ok (.getfield 17, 3) := by decide +kernel
theorem dX0_setQuotient_18 : decode cX0_setQuotient 18 = .ok (.lmul, 1) := by decide +kernel
theorem dX0_setQuotient_19 : decode cX0_setQuotient 19 = .ok (.invokevirtual 20, 3) := by decide +kernel
theorem dX0_setQuotient_22 : decode cX0_setQuotient 22 = .ok (.return_, 1) := by decide +kernel
set_option maxHeartbeats 4000000 in
set_option maxRecDepth 100000 in
/-- setQuotient -/
theorem c_X0_setQuotient {l : Launch} {G : tm_G} {Hb : Heap} {sh : tm_sh} {M : tm_M} {q p1 p2 : Nat} (h0 : sh q = some (2, 0)) (h1 : sh p1 = some (2, 0)) (h2 : sh p2 = some (2, 0)) (hd : mL M p1 1 * mL M p2 0 ≠ 0) (hn1 : (mL M p1 0 * mL M p2 1).natAbs ≤ 4611686018427387904) (hn2 : (mL M p1 1 * mL M p2 0).natAbs ≤ 4611686018427387904) : Met l yX0_setQuotient (tws yX0_setQuotient cX0_setQuotient 3 none) ({ frames := 2, cells := 0, slots := 0, locals := 53 }) (va_Pc [.ref q, .ref p1, .ref p2] (tm_St G Hb sh M)) (tm_Qv G Hb sh (fun M1 => M1 = fS M q (tl_norm (mL M p1 0 * mL M p2 1) (mL M p1 1 * mL M p2 0)))) 0 0 (tm_A Hb) := by
  refine tm_begin (by decide) (Nat.le_of_ble_eq_true rfl) (fun p e s m below meth c ls hx hb hr hml hown htw hlk hnm hK hW hl => ?_)
  have hS : va_S (tm_A Hb) s.heap s.heap [] := va_S.rf
  have hl : lv_has ls 3 [(0, .ref q), (1, .ref p1), (2, .ref p2)] := hl
  refine lv_aload_n hx hb dX0_setQuotient_0 rfl (lv_at hl 0 rfl) ?_
  refine lv_aload_n hx hb dX0_setQuotient_1 rfl (lv_at hl 1 rfl) ?_
  refine gf_X0_17 hx hb htw hown hK hW (by assumption) dX0_setQuotient_2 ?_
  refine lv_aload_n hx hb dX0_setQuotient_5 rfl (lv_at hl 2 rfl) ?_
  refine gf_X0_7 hx hb htw hown hK hW (by assumption) dX0_setQuotient_6 ?_
  refine ti_lmul hx hb dX0_setQuotient_9 ?_
  refine lv_aload_n hx hb dX0_setQuotient_10 rfl (lv_at hl 1 rfl) ?_
  refine gf_X0_7 hx hb htw hown hK hW (by assumption) dX0_setQuotient_11 ?_
  refine lv_aload_n hx hb dX0_setQuotient_14 rfl (lv_at hl 2 rfl) ?_
  refine gf_X0_17 hx hb htw hown hK hW (by assumption) dX0_setQuotient_15 ?_
  refine ti_lmul hx hb dX0_setQuotient_18 ?_
  refine tm_callv (cs_X0_20 hx hb hml hown htw hK hW (by assumption) (c_X0_set (by assumption) (by assumption) (by assumption) (by assumption)) ⟨rfl, rfl, Nat.le_of_ble_eq_true rfl, Nat.le_of_ble_eq_true rfl⟩ hl.1 (Nat.le_of_ble_eq_true rfl) dX0_setQuotient_19 ⟨Nat.le_of_ble_eq_true rfl, Nat.le_of_ble_eq_true rfl⟩) hS (fun M19 H locs hp19 hW hS => ?_)
  exact tm_vret hx hb hr hlk hK hW hS hp19 dX0_setQuotient_22
theorem tl_floor {x y : Int} (hy : 0 < y) : (0 ≤ x → x.tdiv y = x / y) ∧ (x < 0 → x.tdiv y * y = x → x.tdiv y = x / y) ∧ (x < 0 → ¬ x.tdiv y * y = x → x.tdiv y - 1 = x / y) := by
  have h1 := Int.mul_tdiv_add_tmod x y
  refine ⟨fun h => Int.tdiv_eq_ediv_of_nonneg h, fun h e => ?_, fun h e => ?_⟩
  · refine (((Int.ediv_emod_unique (r := 0) hy).mpr ⟨?_, by omega, hy⟩).1).symm
    rw [Int.mul_comm] at e
    omega
  · have h2 : x.tmod y ≤ 0 := by
      have := Int.tmod_nonneg (a := -x) y (by omega)
      rw [Int.neg_tmod] at this
      omega
    have h3 : -y < x.tmod y := by
      have := Int.natAbs_tmod x y
      have h4 : x.natAbs % y.natAbs < y.natAbs := Nat.mod_lt _ (by omega)
      omega
    refine (((Int.ediv_emod_unique (r := x.tmod y + y) hy).mpr ⟨?_, by omega, ?_⟩).1).symm
    · rw [Int.mul_sub, Int.mul_one]
      omega
    · have h5 : x.tmod y ≠ 0 := fun z => e (by rw [z] at h1; rw [Int.mul_comm]; omega)
      omega
theorem dJ9_floorDiv_f86c9_0 : decode cJ9_floorDiv_f86c9 0 = .ok (.lload_n 0, 1) := by decide +kernel
theorem dJ9_floorDiv_f86c9_1 : decode cJ9_floorDiv_f86c9 1 = .ok (.lload_n 2, 1) := by decide +kernel
theorem dJ9_floorDiv_f86c9_2 : decode cJ9_floorDiv_f86c9 2 = .ok (.ldiv, 1) := by decide +kernel
theorem dJ9_floorDiv_f86c9_3 : decode cJ9_floorDiv_f86c9 3 = .ok (.lstore 4, 2) := by decide +kernel
theorem dJ9_floorDiv_f86c9_5 : decode cJ9_floorDiv_f86c9 5 = .ok (.lload_n 0, 1) := by decide +kernel
theorem dJ9_floorDiv_f86c9_6 : decode cJ9_floorDiv_f86c9 6 = .ok (.lload_n 2, 1) := by decide +kernel
theorem dJ9_floorDiv_f86c9_7 : decode cJ9_floorDiv_f86c9 7 = .ok (.lxor, 1) := by decide +kernel
theorem dJ9_floorDiv_f86c9_8 : decode cJ9_floorDiv_f86c9 8 = .ok (.lconst 0, 1) := by decide +kernel
theorem dJ9_floorDiv_f86c9_9 : decode cJ9_floorDiv_f86c9 9 = .ok (.lcmp, 1) := by decide +kernel
theorem dJ9_floorDiv_f86c9_10 : decode cJ9_floorDiv_f86c9 10 = .ok (.ifCond .ge 17, 3) := by decide +kernel
theorem dJ9_floorDiv_f86c9_13 : decode cJ9_floorDiv_f86c9 13 = .ok (.lload 4, 2) := by decide +kernel
theorem dJ9_floorDiv_f86c9_15 : decode cJ9_floorDiv_f86c9 15 = .ok (.lload_n 2, 1) := by decide +kernel
theorem dJ9_floorDiv_f86c9_16 : decode cJ9_floorDiv_f86c9 16 = .ok (.lmul, 1) := by decide +kernel
theorem dJ9_floorDiv_f86c9_17 : decode cJ9_floorDiv_f86c9 17 = .ok (.lload_n 0, 1) := by decide +kernel
theorem dJ9_floorDiv_f86c9_18 : decode cJ9_floorDiv_f86c9 18 = .ok (.lcmp, 1) := by decide +kernel
theorem dJ9_floorDiv_f86c9_19 : decode cJ9_floorDiv_f86c9 19 = .ok (.ifCond .eq 8, 3) := by decide +kernel
theorem dJ9_floorDiv_f86c9_22 : decode cJ9_floorDiv_f86c9 22 = .ok (.lload 4, 2) := by decide +kernel
theorem dJ9_floorDiv_f86c9_24 : decode cJ9_floorDiv_f86c9 24 = .ok (.lconst 1, 1) := by decide +kernel
theorem dJ9_floorDiv_f86c9_25 : decode cJ9_floorDiv_f86c9 25 = .ok (.lsub, 1) := by decide +kernel
theorem dJ9_floorDiv_f86c9_26 : decode cJ9_floorDiv_f86c9 26 = .ok (.lreturn, 1) := by decide +kernel
theorem dJ9_floorDiv_f86c9_27 : decode cJ9_floorDiv_f86c9 27 = .ok (.lload 4, 2) := by decide +kernel
theorem dJ9_floorDiv_f86c9_29 : decode cJ9_floorDiv_f86c9 29 = .ok (.lreturn, 1) := by decide +kernel
set_option maxHeartbeats 4000000 in
set_option maxRecDepth 100000 in
/-- Math.floorDiv of longs, the divisor above 0 -/
theorem c_J9_floorDiv {l : Launch} {G : tm_G} {Hb : Heap} {sh : tm_sh} {M : tm_M} {x y : Int} (hy : 0 < y) (hx1 : inL x) (hy1 : inL y) : Met l yJ9_floorDiv_f86c9 (tws yJ9_floorDiv_f86c9 cJ9_floorDiv_f86c9 6 (some .long)) ({ frames := 0, cells := 0, slots := 0, locals := 0 }) (va_Pc [jl x, jl y] (tm_St G Hb sh M)) (tm_Ql G Hb sh (fun r M1 => r = x / y ∧ M1 = M)) 0 0 (tm_A Hb) := by
  refine tm_beginF (by decide +kernel) (Nat.le_of_ble_eq_true rfl) (fun p e s m below meth c ls hx hb hr hml hown htw hlk hnm hK hW hl => ?_)
  have hS : va_S (tm_A Hb) s.heap s.heap [] := va_S.rf
  have hl : lv_has ls 6 [(0, jl x), (2, jl y)] := hl
  refine lv_lload_n hx hb dJ9_floorDiv_f86c9_0 rfl (lv_at hl 0 rfl) ?_
  refine lv_lload_n hx hb dJ9_floorDiv_f86c9_1 rfl (lv_at hl 1 rfl) ?_
  refine ti_ldiv hx hb dJ9_floorDiv_f86c9_2 (by omega) (by omega) (by omega) ?_
  refine lv_lstore (lv' := [(4, _), (0, _), (2, _)]) hx hb dJ9_floorDiv_f86c9_3 hl (by decide) rfl (fun ls hl => ?_)
  refine lv_lload_n hx hb dJ9_floorDiv_f86c9_5 rfl (lv_at hl 1 rfl) ?_
  refine lv_lload_n hx hb dJ9_floorDiv_f86c9_6 rfl (lv_at hl 2 rfl) ?_
  refine ti_lxor hx hb dJ9_floorDiv_f86c9_7 (by omega) (by omega) (fun e7 he7 hs7 => ?_)
  refine ti_lconst0 hx hb dJ9_floorDiv_f86c9_8 ?_
  refine ti_lcmp_ge (tgt := 27) hx hb dJ9_floorDiv_f86c9_9 dJ9_floorDiv_f86c9_10 (by decide) he7 (by decide) (fun h9 => ?_) (fun h9 => ?_)
  · refine lv_lload hx hb dJ9_floorDiv_f86c9_27 (lv_at hl 0 rfl) ?_
    exact tm_lret hx hb hr hlk hK hW hS ⟨by first | exact (tl_floor hy).2.1 (by omega) h18 | exact (tl_floor hy).1 (by omega), rfl⟩ dJ9_floorDiv_f86c9_29
  · refine lv_lload hx hb dJ9_floorDiv_f86c9_13 (lv_at hl 0 rfl) ?_
    refine lv_lload_n hx hb dJ9_floorDiv_f86c9_15 rfl (lv_at hl 2 rfl) ?_
    refine ti_lmul hx hb dJ9_floorDiv_f86c9_16 ?_
    refine lv_lload_n hx hb dJ9_floorDiv_f86c9_17 rfl (lv_at hl 1 rfl) ?_
    refine ti_lcmp_eq (tgt := 27) hx hb dJ9_floorDiv_f86c9_18 dJ9_floorDiv_f86c9_19 (by decide) (tl_tdm hy hx1) hx1 (fun h18 => ?_) (fun h18 => ?_)
    · refine lv_lload hx hb dJ9_floorDiv_f86c9_27 (lv_at hl 0 rfl) ?_
      exact tm_lret hx hb hr hlk hK hW hS ⟨by first | exact (tl_floor hy).2.1 (by omega) h18 | exact (tl_floor hy).1 (by omega), rfl⟩ dJ9_floorDiv_f86c9_29
    · refine lv_lload hx hb dJ9_floorDiv_f86c9_22 (lv_at hl 0 rfl) ?_
      refine ti_lconst1 hx hb dJ9_floorDiv_f86c9_24 ?_
      refine ti_lsub hx hb dJ9_floorDiv_f86c9_25 ?_
      exact tm_lret hx hb hr hlk hK hW hS ⟨(tl_floor hy).2.2 (by omega) h18, rfl⟩ dJ9_floorDiv_f86c9_26
theorem dJ13_compare_74951_0 : decode cJ13_compare_74951 0 = .ok (.lload_n 0, 1) := by decide +kernel
theorem dJ13_compare_74951_1 : decode cJ13_compare_74951 1 = .ok (.lload_n 2, 1) := by decide +kernel
theorem dJ13_compare_74951_2 : decode cJ13_compare_74951 2 = .ok (.lcmp, 1) := by decide +kernel
theorem dJ13_compare_74951_3 : decode cJ13_compare_74951 3 = .ok (.ifCond .ge 7, 3) := by decide +kernel
theorem dJ13_compare_74951_6 : decode cJ13_compare_74951 6 = .ok (.iconst (-1), 1) := by decide +kernel
theorem dJ13_compare_74951_7 : decode cJ13_compare_74951 7 = .ok (.goto 14, 3) := by decide +kernel
theorem dJ13_compare_74951_10 : decode cJ13_compare_74951 10 = .ok (.lload_n 0, 1) := by decide +kernel
theorem dJ13_compare_74951_11 : decode cJ13_compare_74951 11 = .ok (.lload_n 2, 1) := by decide +kernel
theorem dJ13_compare_74951_12 : decode cJ13_compare_74951 12 = .ok (.lcmp, 1) := by decide +kernel
theorem dJ13_compare_74951_13 : decode cJ13_compare_74951 13 = .ok (.ifCond .ne 7, 3) := by decide +kernel
theorem dJ13_compare_74951_16 : decode cJ13_compare_74951 16 = .ok (.iconst 0, 1) := by decide +kernel
theorem dJ13_compare_74951_17 : decode cJ13_compare_74951 17 = .ok (.goto 4, 3) := by decide +kernel
theorem dJ13_compare_74951_20 : decode cJ13_compare_74951 20 = .ok (.iconst 1, 1) := by decide +kernel
theorem dJ13_compare_74951_21 : decode cJ13_compare_74951 21 = .ok (.ireturn, 1) := by decide +kernel
set_option maxHeartbeats 4000000 in
set_option maxRecDepth 100000 in
/-- Long.compare -/
theorem c_J13_compare {l : Launch} {G : tm_G} {Hb : Heap} {sh : tm_sh} {M : tm_M} {x y : Int} (hx1 : inL x) (hy1 : inL y) : Met l yJ13_compare_74951 (tws yJ13_compare_74951 cJ13_compare_74951 4 (some .int)) ({ frames := 0, cells := 0, slots := 0, locals := 0 }) (va_Pc [jl x, jl y] (tm_St G Hb sh M)) (tm_Qi G Hb sh (fun r M1 => r = (if x < y then -1 else if x = y then 0 else 1) ∧ M1 = M)) 0 0 (tm_A Hb) := by
  refine tm_beginF (by decide +kernel) (Nat.le_of_ble_eq_true rfl) (fun p e s m below meth c ls hx hb hr hml hown htw hlk hnm hK hW hl => ?_)
  have hS : va_S (tm_A Hb) s.heap s.heap [] := va_S.rf
  have hl : lv_has ls 4 [(0, jl x), (2, jl y)] := hl
  refine lv_lload_n hx hb dJ13_compare_74951_0 rfl (lv_at hl 0 rfl) ?_
  refine lv_lload_n hx hb dJ13_compare_74951_1 rfl (lv_at hl 1 rfl) ?_
  refine ti_lcmp_ge (tgt := 10) hx hb dJ13_compare_74951_2 dJ13_compare_74951_3 (by decide) (by omega) (by omega) (fun h2 => ?_) (fun h2 => ?_)
  · refine lv_lload_n hx hb dJ13_compare_74951_10 rfl (lv_at hl 0 rfl) ?_
    refine lv_lload_n hx hb dJ13_compare_74951_11 rfl (lv_at hl 1 rfl) ?_
    refine ti_lcmp_ne (tgt := 20) hx hb dJ13_compare_74951_12 dJ13_compare_74951_13 (by decide) (by omega) (by omega) (fun h12 => ?_) (fun h12 => ?_)
    · refine ti_iconst hx hb dJ13_compare_74951_20 ?_
      exact tm_iret hx hb hr hlk hK hW hS ⟨by first | rw [if_pos (by omega)] | rw [if_neg (by omega), if_pos (by omega)] | rw [if_neg (by omega), if_neg (by omega)], rfl⟩ dJ13_compare_74951_21
    · refine ti_iconst hx hb dJ13_compare_74951_16 ?_
      refine lv_goto (tgt := 21) hx hb dJ13_compare_74951_17 (by decide) ?_
      exact tm_iret hx hb hr hlk hK hW hS ⟨by first | rw [if_pos (by omega)] | rw [if_neg (by omega), if_pos (by omega)] | rw [if_neg (by omega), if_neg (by omega)], rfl⟩ dJ13_compare_74951_21
  · refine ti_iconst hx hb dJ13_compare_74951_6 ?_
    refine lv_goto (tgt := 21) hx hb dJ13_compare_74951_7 (by decide) ?_
    exact tm_iret hx hb hr hlk hK hW hS ⟨by first | rw [if_pos (by omega)] | rw [if_neg (by omega), if_pos (by omega)] | rw [if_neg (by omega), if_neg (by omega)], rfl⟩ dJ13_compare_74951_21
end
section
/-! Fraction.compareWith (by program: wip/whole/gen/frac3.py) -/
theorem tl_md (p q : Int) : p - p / q * q = p % q := by rw [Int.emod_def, Int.mul_comm]
theorem tl_fin0 {a b c d g C : Int} (hb : 0 < b) (hd : 0 < d) (ha : 0 ≤ a) (hc : 0 ≤ c) (h : a = 0 ∨ c = 0) (hC : g * tl_cmp a b c d = C) : g * (if a < c then -1 else if a = c then 0 else 1) = C := by
  rw [← hC]
  congr 1
  by_cases z : a = 0
  · subst z
    by_cases z2 : c = 0
    · subst z2
      rw [tl_cmp_00]
      rfl
    · rw [tl_cmp_0p hb (by omega), if_pos (by omega)]
  · have z2 : c = 0 := by omega
    subst z2
    rw [tl_cmp_p0 hd (by omega), if_neg (by omega), if_neg z]
theorem tl_cw1 {p q : Int} {k : Nat} (hq : 0 < q) (hqp : q ≤ p) (h : p.natAbs * q.natAbs < 2 ^ (k + 1)) : q.natAbs * (p % q).natAbs < 2 ^ k := by
  have e : (p % q).natAbs = p.natAbs % q.natAbs := by
    obtain ⟨a, rfl⟩ := Int.eq_ofNat_of_zero_le (show 0 ≤ p by omega)
    obtain ⟨b, rfl⟩ := Int.eq_ofNat_of_zero_le (show 0 ≤ q by omega)
    rfl
  rw [e]
  exact tl_half (by omega) (by omega) h
theorem tl_cw2 {p q r s g C : Int} (h : p / q = r / s) (hc : g * tl_cmp p q r s = C) : -g * tl_cmp q (p % q) s (r % s) = C := by
  rw [← hc, tl_cmp_mod h, tl_cmp_inv (p % q) q (r % s) s, tl_cmp_neg q (p % q) s (r % s), Int.neg_mul, Int.mul_neg]
theorem dX0_compareWith_0 : decode cX0_compareWith 0 = .ok (.aload_n 0, 1) := by decide +kernel
theorem dX0_compareWith_1 : decode cX0_compareWith 1 = .ok (.getfield 17, 3) := by decide +kernel
theorem dX0_compareWith_4 : decode cX0_compareWith 4 = .ok (.lstore_n 2, 1) := by decide +kernel
theorem dX0_compareWith_5 : decode cX0_compareWith 5 = .ok (.aload_n 0, 1) := by decide +kernel
theorem dX0_compareWith_6 : decode cX0_compareWith 6 = .ok (.getfield 7, 3) := by decide +kernel
theorem dX0_compareWith_9 : decode cX0_compareWith 9 = .ok (.lstore 4, 2) := by decide +kernel
theorem dX0_compareWith_11 : decode cX0_compareWith 11 = .ok (.aload_n 1, 1) := by decide +kernel
theorem dX0_compareWith_12 : decode cX0_compareWith 12 = .ok (.getfield 17, 3) := by decide +kernel
theorem dX0_compareWith_15 : decode cX0_compareWith 15 = .ok (.lstore 6, 2) := by decide +kernel
theorem dX0_compareWith_17 : decode cX0_compareWith 17 = .ok (.aload_n 1, 1) := by decide +kernel
theorem dX0_compareWith_18 : decode cX0_compareWith 18 = .ok (.getfield 7, 3) := by decide +kernel
theorem dX0_compareWith_21 : decode cX0_compareWith 21 = .ok (.lstore 8, 2) := by decide +kernel
theorem dX0_compareWith_23 : decode cX0_compareWith 23 = .ok (.iconst 1, 1) := by decide +kernel
theorem dX0_compareWith_24 : decode cX0_compareWith 24 = .ok (.istore 10, 2) := by decide +kernel
theorem dX0_compareWith_26 : decode cX0_compareWith 26 = .ok (.iconst 0, 1) := by decide +kernel
theorem dX0_compareWith_27 : decode cX0_compareWith 27 = .ok (.istore 11, 2) := by decide +kernel
theorem dX0_compareWith_29 : decode cX0_compareWith 29 = .ok (.iload 11, 2) := by decide +kernel
theorem dX0_compareWith_31 : decode cX0_compareWith 31 = .ok (.sipush 200, 3) := by decide +kernel
theorem dX0_compareWith_34 : decode cX0_compareWith 34 = .ok (.if_icmp .ge 129, 3) := by decide +kernel
theorem dX0_compareWith_37 : decode cX0_compareWith 37 = .ok (.lload 4, 2) := by decide +kernel
theorem dX0_compareWith_39 : decode cX0_compareWith 39 = .ok (.lconst 0, 1) := by decide +kernel
theorem dX0_compareWith_40 : decode cX0_compareWith 40 = .ok (.lcmp, 1) := by decide +kernel
theorem dX0_compareWith_41 : decode cX0_compareWith 41 = .ok (.ifCond .le 122, 3) := by decide +kernel
theorem dX0_compareWith_44 : decode cX0_compareWith 44 = .ok (.lload 8, 2) := by decide +kernel
theorem dX0_compareWith_46 : decode cX0_compareWith 46 = .ok (.lconst 0, 1) := by decide +kernel
theorem dX0_compareWith_47 : decode cX0_compareWith 47 = .ok (.lcmp, 1) := by decide +kernel
theorem dX0_compareWith_48 : decode cX0_compareWith 48 = .ok (.ifCond .le 115, 3) := by decide +kernel
theorem dX0_compareWith_51 : decode cX0_compareWith 51 = .ok (.lload_n 2, 1) := by decide +kernel
theorem dX0_compareWith_52 : decode cX0_compareWith 52 = .ok (.lload 4, 2) := by decide +kernel
theorem dX0_compareWith_54 : decode cX0_compareWith 54 = .ok (.invokestatic 28, 3) := by decide +kernel
theorem dX0_compareWith_57 : decode cX0_compareWith 57 = .ok (.lstore 12, 2) := by decide +kernel
theorem dX0_compareWith_59 : decode cX0_compareWith 59 = .ok (.lload 6, 2) := by decide +kernel
theorem dX0_compareWith_61 : decode cX0_compareWith 61 = .ok (.lload 8, 2) := by decide +kernel
theorem dX0_compareWith_63 : decode cX0_compareWith 63 = .ok (.invokestatic 28, 3) := by decide +kernel
theorem dX0_compareWith_66 : decode cX0_compareWith 66 = .ok (.lstore 14, 2) := by decide +kernel
theorem dX0_compareWith_68 : decode cX0_compareWith 68 = .ok (.lload 12, 2) := by decide +kernel
theorem dX0_compareWith_70 : decode cX0_compareWith 70 = .ok (.lload 14, 2) := by decide +kernel
theorem dX0_compareWith_72 : decode cX0_compareWith 72 = .ok (.lcmp, 1) := by decide +kernel
theorem dX0_compareWith_73 : decode cX0_compareWith 73 = .ok (.ifCond .eq 20, 3) := by decide +kernel
theorem dX0_compareWith_76 : decode cX0_compareWith 76 = .ok (.lload 12, 2) := by decide +kernel
theorem dX0_compareWith_78 : decode cX0_compareWith 78 = .ok (.lload 14, 2) := by decide +kernel
theorem dX0_compareWith_80 : decode cX0_compareWith 80 = .ok (.lcmp, 1) := by decide +kernel
theorem dX0_compareWith_81 : decode cX0_compareWith 81 = .ok (.ifCond .ge 9, 3) := by decide +kernel
theorem dX0_compareWith_84 : decode cX0_compareWith 84 = .ok (.iload 10, 2) := by decide +kernel
theorem dX0_compareWith_86 : decode cX0_compareWith 86 = .ok (.ineg, 1) := by decide +kernel
theorem dX0_compareWith_87 : decode cX0_compareWith 87 = .ok (.goto 5, 3) := by decide +kernel
theorem dX0_compareWith_90 : decode cX0_compareWith 90 = .ok (.iload 10, 2) := by decide +kernel
theorem dX0_compareWith_92 : decode cX0_compareWith 92 = .ok (.ireturn, 1) := by decide +kernel
theorem dX0_compareWith_93 : decode cX0_compareWith 93 = .ok (.lload_n 2, 1) := by decide +kernel
theorem dX0_compareWith_94 : decode cX0_compareWith 94 = .ok (.lload 12, 2) := by decide +kernel
theorem dX0_compareWith_96 : decode cX0_compareWith 96 = .ok (.lload 4, 2) := by decide +kernel
theorem dX0_compareWith_98 : decode cX0_compareWith 98 = .ok (.lmul, 1) := by decide +kernel
theorem dX0_compareWith_99 : decode cX0_compareWith 99 = .ok (.lsub, 1) := by decide +kernel
theorem dX0_compareWith_100 : decode cX0_compareWith 100 = .ok (.lstore 16, 2) := by decide +kernel
theorem dX0_compareWith_102 : decode cX0_compareWith 102 = .ok (.lload 6, 2) := by decide +kernel
theorem dX0_compareWith_104 : decode cX0_compareWith 104 = .ok (.lload 14, 2) := by decide +kernel
theorem dX0_compareWith_106 : decode cX0_compareWith 106 = .ok (.lload 8, 2) := by decide +kernel
theorem dX0_compareWith_108 : decode cX0_compareWith 108 = .ok (.lmul, 1) := by decide +kernel
theorem dX0_compareWith_109 : decode cX0_compareWith 109 = .ok (.lsub, 1) := by decide +kernel
theorem dX0_compareWith_110 : decode cX0_compareWith 110 = .ok (.lstore 18, 2) := by decide +kernel
theorem dX0_compareWith_112 : decode cX0_compareWith 112 = .ok (.lload 16, 2) := by decide +kernel
theorem dX0_compareWith_114 : decode cX0_compareWith 114 = .ok (.lconst 0, 1) := by decide +kernel
theorem dX0_compareWith_115 : decode cX0_compareWith 115 = .ok (.lcmp, 1) := by decide +kernel
theorem dX0_compareWith_116 : decode cX0_compareWith 116 = .ok (.ifCond .eq 10, 3) := by decide +kernel
theorem dX0_compareWith_119 : decode cX0_compareWith 119 = .ok (.lload 18, 2) := by decide +kernel
theorem dX0_compareWith_121 : decode cX0_compareWith 121 = .ok (.lconst 0, 1) := by decide +kernel
theorem dX0_compareWith_122 : decode cX0_compareWith 122 = .ok (.lcmp, 1) := by decide +kernel
theorem dX0_compareWith_123 : decode cX0_compareWith 123 = .ok (.ifCond .ne 14, 3) := by decide +kernel
theorem dX0_compareWith_126 : decode cX0_compareWith 126 = .ok (.iload 10, 2) := by decide +kernel
theorem dX0_compareWith_128 : decode cX0_compareWith 128 = .ok (.lload 16, 2) := by decide +kernel
theorem dX0_compareWith_130 : decode cX0_compareWith 130 = .ok (.lload 18, 2) := by decide +kernel
theorem dX0_compareWith_132 : decode cX0_compareWith 132 = .ok (.invokestatic 34, 3) := by decide +kernel
theorem dX0_compareWith_135 : decode cX0_compareWith 135 = .ok (.imul, 1) := by decide +kernel
theorem dX0_compareWith_136 : decode cX0_compareWith 136 = .ok (.ireturn, 1) := by decide +kernel
theorem dX0_compareWith_137 : decode cX0_compareWith 137 = .ok (.lload 4, 2) := by decide +kernel
theorem dX0_compareWith_139 : decode cX0_compareWith 139 = .ok (.lstore_n 2, 1) := by decide +kernel
theorem dX0_compareWith_140 : decode cX0_compareWith 140 = .ok (.lload 16, 2) := by decide +kernel
theorem dX0_compareWith_142 : decode cX0_compareWith 142 = .ok (.lstore 4, 2) := by decide +kernel
theorem dX0_compareWith_144 : decode cX0_compareWith 144 = .ok (.lload 8, 2) := by decide +kernel
theorem dX0_compareWith_146 : decode cX0_compareWith 146 = .ok (.lstore 6, 2) := by decide +kernel
theorem dX0_compareWith_148 : decode cX0_compareWith 148 = .ok (.lload 18, 2) := by decide +kernel
theorem dX0_compareWith_150 : decode cX0_compareWith 150 = .ok (.lstore 8, 2) := by decide +kernel
theorem dX0_compareWith_152 : decode cX0_compareWith 152 = .ok (.iload 10, 2) := by decide +kernel
theorem dX0_compareWith_154 : decode cX0_compareWith 154 = .ok (.ineg, 1) := by decide +kernel
theorem dX0_compareWith_155 : decode cX0_compareWith 155 = .ok (.istore 10, 2) := by decide +kernel
theorem dX0_compareWith_157 : decode cX0_compareWith 157 = .ok (.iinc 11 1, 3) := by decide +kernel
theorem dX0_compareWith_160 : decode cX0_compareWith 160 = .ok (.goto (-131), 3) := by decide +kernel
theorem dX0_compareWith_163 : decode cX0_compareWith 163 = .ok (.iconst 0, 1) := by decide +kernel
theorem dX0_compareWith_164 : decode cX0_compareWith 164 = .ok (.ireturn, 1) := by decide +kernel
set_option maxHeartbeats 4000000 in
set_option maxRecDepth 100000 in
/-- compareWith: -1, 0, 1 -/
theorem c_X0_compareWith {l : Launch} {G : tm_G} {Hb : Heap} {sh : tm_sh} {M : tm_M} {q o : Nat} (h0 : sh q = some (2, 0)) (h1 : sh o = some (2, 0)) (hq0 : (mL M q 0).natAbs ≤ 4611686018427387904) (hq1 : 0 < mL M q 1 ∧ mL M q 1 ≤ 4611686018427387904) (ho0 : (mL M o 0).natAbs ≤ 4611686018427387904) (ho1 : 0 < mL M o 1 ∧ mL M o 1 ≤ 4611686018427387904) : Met l yX0_compareWith (tws yX0_compareWith cX0_compareWith 20 (some .int)) ({ frames := 1, cells := 0, slots := 0, locals := 25 }) (va_Pc [.ref q, .ref o] (tm_St G Hb sh M)) (tm_Qi G Hb sh (fun x M1 => x = tl_cmp (mL M q 0) (mL M q 1) (mL M o 0) (mL M o 1) ∧ M1 = M)) 0 0 (tm_A Hb) := by
  refine tm_begin (by decide) (Nat.le_of_ble_eq_true rfl) (fun p e s m below meth c ls hx hb hr hml hown htw hlk hnm hK hW hl => ?_)
  have hS : va_S (tm_A Hb) s.heap s.heap [] := va_S.rf
  have hl : lv_has ls 20 [(0, .ref q), (1, .ref o)] := hl
  have loop : ∀ (k : Nat) (n p1 q1 r1 s1 g : Int) (ls : Array Slot), 0 ≤ n → n + k ≤ 199 → 0 < q1 → q1 ≤ p1 → p1 ≤ 4611686018427387904 → 0 < s1 → s1 ≤ 4611686018427387904 → r1.natAbs ≤ 4611686018427387904 → p1.natAbs * q1.natAbs < 2 ^ k → (g = 1 ∨ g = -1) → g * tl_cmp p1 q1 r1 s1 = tl_cmp (mL M q 0) (mL M q 1) (mL M o 0) (mL M o 1) → ∀ (H : Heap) (locs : List Loc), tm_W G Hb sh M H → va_S (tm_A Hb) s.heap H locs → lv_has ls 20 [(0, .ref q), (1, .ref o), (2, jl p1), (4, jl q1), (6, jl r1), (8, jl s1), (10, ji g), (11, ji n)] → W p l e ({ frames := 1, cells := 0, slots := 0, locals := 25 }) s m [.ref q, .ref o].toArray below meth c H locs 0 0 (MQ below (tm_Qi G Hb sh (fun x M1 => x = tl_cmp (mL M q 0) (mL M q 1) (mL M o 0) (mL M o 1) ∧ M1 = M)) [.ref q, .ref o].toArray s 0 0 (tm_A Hb)) (F0 m 29 ls []) := by
    intro k
    induction k with
    | zero =>
      intro n p1 q1 r1 s1 g ls hn hk hq hqp hp hs hsB hrB hpr hg hc H locs hW hS hl
      have := Nat.mul_le_mul (show 1 ≤ p1.natAbs by omega) (show 1 ≤ q1.natAbs by omega)
      omega
    | succ k ih =>
      intro n p1 q1 r1 s1 g ls hn hk hq hqp hp hs hsB hrB hpr hg hc H locs hW hS hl
      have f1 := Int.natAbs_ediv_le_natAbs p1 q1
      have f2 := Int.natAbs_ediv_le_natAbs r1 s1
      have f3 := Int.emod_nonneg p1 (show q1 ≠ 0 by omega)
      have f4 := Int.emod_lt_of_pos p1 hq
      have f5 := Int.emod_nonneg r1 (show s1 ≠ 0 by omega)
      have f6 := Int.emod_lt_of_pos r1 hs
      refine lv_iload hx hb dX0_compareWith_29 (lv_at hl 7 rfl) ?_
      refine ti_sipush hx hb dX0_compareWith_31 (by decide) ?_
      refine ti_icmp_ge (tgt := 163) hx hb dX0_compareWith_34 (by decide) (by omega) (by omega) (fun h34 => ?_) (fun h34 => ?_)
      · exact absurd h34 (by omega)
      · refine lv_lload hx hb dX0_compareWith_37 (lv_at hl 3 rfl) ?_
        refine ti_lconst0 hx hb dX0_compareWith_39 ?_
        refine ti_lcmp_le (tgt := 163) hx hb dX0_compareWith_40 dX0_compareWith_41 (by decide) (by omega) (by omega) (fun h40 => ?_) (fun h40 => ?_)
        · exact absurd h40 (by omega)
        · refine lv_lload hx hb dX0_compareWith_44 (lv_at hl 5 rfl) ?_
          refine ti_lconst0 hx hb dX0_compareWith_46 ?_
          refine ti_lcmp_le (tgt := 163) hx hb dX0_compareWith_47 dX0_compareWith_48 (by decide) (by omega) (by omega) (fun h47 => ?_) (fun h47 => ?_)
          · exact absurd h47 (by omega)
          · refine lv_lload_n hx hb dX0_compareWith_51 rfl (lv_at hl 2 rfl) ?_
            refine lv_lload hx hb dX0_compareWith_52 (lv_at hl 3 rfl) ?_
            refine tm_calll (cs_X0_28 hx hb hml hown htw hK hW (c_J9_floorDiv hq (by omega) (by omega)) ⟨rfl, rfl, Nat.le_of_ble_eq_true rfl, Nat.le_of_ble_eq_true rfl⟩ hl.1 (Nat.le_of_ble_eq_true rfl) dX0_compareWith_54 ⟨Nat.le_of_ble_eq_true rfl, Nat.le_of_ble_eq_true rfl⟩) hS (fun x54 M54 H locs hp54 hW hS => ?_)
            obtain ⟨ex54, eM54⟩ := hp54
            rw [eM54] at hW
            rw [ex54]
            refine lv_lstore (lv' := [(12, _), (0, _), (1, _), (2, _), (4, _), (6, _), (8, _), (10, _), (11, _)]) hx hb dX0_compareWith_57 hl (by decide) rfl (fun ls hl => ?_)
            refine lv_lload hx hb dX0_compareWith_59 (lv_at hl 5 rfl) ?_
            refine lv_lload hx hb dX0_compareWith_61 (lv_at hl 6 rfl) ?_
            refine tm_calll (cs_X0_28 hx hb hml hown htw hK hW (c_J9_floorDiv hs (by omega) (by omega)) ⟨rfl, rfl, Nat.le_of_ble_eq_true rfl, Nat.le_of_ble_eq_true rfl⟩ hl.1 (Nat.le_of_ble_eq_true rfl) dX0_compareWith_63 ⟨Nat.le_of_ble_eq_true rfl, Nat.le_of_ble_eq_true rfl⟩) hS (fun x63 M63 H locs hp63 hW hS => ?_)
            obtain ⟨ex63, eM63⟩ := hp63
            rw [eM63] at hW
            rw [ex63]
            refine lv_lstore (lv' := [(14, _), (12, _), (0, _), (1, _), (2, _), (4, _), (6, _), (8, _), (10, _), (11, _)]) hx hb dX0_compareWith_66 hl (by decide) rfl (fun ls hl => ?_)
            refine lv_lload hx hb dX0_compareWith_68 (lv_at hl 1 rfl) ?_
            refine lv_lload hx hb dX0_compareWith_70 (lv_at hl 0 rfl) ?_
            refine ti_lcmp_eq (tgt := 93) hx hb dX0_compareWith_72 dX0_compareWith_73 (by decide) (by omega) (by omega) (fun h72 => ?_) (fun h72 => ?_)
            · refine lv_lload_n hx hb dX0_compareWith_93 rfl (lv_at hl 4 rfl) ?_
              refine lv_lload hx hb dX0_compareWith_94 (lv_at hl 1 rfl) ?_
              refine lv_lload hx hb dX0_compareWith_96 (lv_at hl 5 rfl) ?_
              refine ti_lmul hx hb dX0_compareWith_98 ?_
              refine ti_lsub hx hb dX0_compareWith_99 ?_
              rw [tl_md]
              refine lv_lstore (lv' := [(16, _), (14, _), (12, _), (0, _), (1, _), (2, _), (4, _), (6, _), (8, _), (10, _), (11, _)]) hx hb dX0_compareWith_100 hl (by decide) rfl (fun ls hl => ?_)
              refine lv_lload hx hb dX0_compareWith_102 (lv_at hl 7 rfl) ?_
              refine lv_lload hx hb dX0_compareWith_104 (lv_at hl 1 rfl) ?_
              refine lv_lload hx hb dX0_compareWith_106 (lv_at hl 8 rfl) ?_
              refine ti_lmul hx hb dX0_compareWith_108 ?_
              refine ti_lsub hx hb dX0_compareWith_109 ?_
              rw [tl_md]
              refine lv_lstore (lv' := [(18, _), (16, _), (14, _), (12, _), (0, _), (1, _), (2, _), (4, _), (6, _), (8, _), (10, _), (11, _)]) hx hb dX0_compareWith_110 hl (by decide) rfl (fun ls hl => ?_)
              refine lv_lload hx hb dX0_compareWith_112 (lv_at hl 1 rfl) ?_
              refine ti_lconst0 hx hb dX0_compareWith_114 ?_
              refine ti_lcmp_eq (tgt := 126) hx hb dX0_compareWith_115 dX0_compareWith_116 (by decide) (by omega) (by omega) (fun h115 => ?_) (fun h115 => ?_)
              · refine lv_iload hx hb dX0_compareWith_126 (lv_at hl 10 rfl) ?_
                refine lv_lload hx hb dX0_compareWith_128 (lv_at hl 1 rfl) ?_
                refine lv_lload hx hb dX0_compareWith_130 (lv_at hl 0 rfl) ?_
                refine tm_calli (cs_X0_34 hx hb hml hown htw hK hW (c_J13_compare (by omega) (by omega)) ⟨rfl, rfl, Nat.le_of_ble_eq_true rfl, Nat.le_of_ble_eq_true rfl⟩ hl.1 (Nat.le_of_ble_eq_true rfl) dX0_compareWith_132 ⟨Nat.le_of_ble_eq_true rfl, Nat.le_of_ble_eq_true rfl⟩) hS (fun x132 M132 H locs hp132 hW hS => ?_)
                obtain ⟨ex132, eM132⟩ := hp132
                rw [eM132] at hW
                rw [ex132]
                refine ti_imul hx hb dX0_compareWith_135 ?_
                exact tm_iret hx hb hr hlk hK hW hS ⟨tl_fin0 hq hs f3 f5 (by omega) (by rw [← tl_cmp_mod h72]; exact hc), rfl⟩ dX0_compareWith_136
              · refine lv_lload hx hb dX0_compareWith_119 (lv_at hl 0 rfl) ?_
                refine ti_lconst0 hx hb dX0_compareWith_121 ?_
                refine ti_lcmp_ne (tgt := 137) hx hb dX0_compareWith_122 dX0_compareWith_123 (by decide) (by omega) (by omega) (fun h122 => ?_) (fun h122 => ?_)
                · refine lv_lload hx hb dX0_compareWith_137 (lv_at hl 7 rfl) ?_
                  refine lv_lstore_n (lv' := [(2, _), (18, _), (16, _), (14, _), (12, _), (0, _), (1, _), (4, _), (6, _), (8, _), (10, _), (11, _)]) hx hb dX0_compareWith_139 rfl hl (by decide) rfl (fun ls hl => ?_)
                  refine lv_lload hx hb dX0_compareWith_140 (lv_at hl 2 rfl) ?_
                  refine lv_lstore (lv' := [(4, _), (2, _), (18, _), (16, _), (14, _), (12, _), (0, _), (1, _), (6, _), (8, _), (10, _), (11, _)]) hx hb dX0_compareWith_142 hl (by decide) rfl (fun ls hl => ?_)
                  refine lv_lload hx hb dX0_compareWith_144 (lv_at hl 9 rfl) ?_
                  refine lv_lstore (lv' := [(6, _), (4, _), (2, _), (18, _), (16, _), (14, _), (12, _), (0, _), (1, _), (8, _), (10, _), (11, _)]) hx hb dX0_compareWith_146 hl (by decide) rfl (fun ls hl => ?_)
                  refine lv_lload hx hb dX0_compareWith_148 (lv_at hl 3 rfl) ?_
                  refine lv_lstore (lv' := [(8, _), (6, _), (4, _), (2, _), (18, _), (16, _), (14, _), (12, _), (0, _), (1, _), (10, _), (11, _)]) hx hb dX0_compareWith_150 hl (by decide) rfl (fun ls hl => ?_)
                  refine lv_iload hx hb dX0_compareWith_152 (lv_at hl 10 rfl) ?_
                  refine ti_ineg hx hb dX0_compareWith_154 ?_
                  refine lv_istore (lv' := [(10, _), (8, _), (6, _), (4, _), (2, _), (18, _), (16, _), (14, _), (12, _), (0, _), (1, _), (11, _)]) hx hb dX0_compareWith_155 hl (by decide) rfl (fun ls hl => ?_)
                  refine ti_iinc (k := 11) (lv' := [(11, _), (10, _), (8, _), (6, _), (4, _), (2, _), (18, _), (16, _), (14, _), (12, _), (0, _), (1, _)]) hx hb dX0_compareWith_157 hl rfl (by decide) rfl (fun ls hl => ?_)
                  refine lv_goto (tgt := 29) hx hb dX0_compareWith_160 (by decide) ?_
                  exact ih (n + 1) q1 (p1 % q1) s1 (r1 % s1) (-g) ls (by omega) (by omega) (by omega) (by omega) (by omega) (by omega) (by omega) (by omega) (tl_cw1 hq hqp hpr) (by omega) (tl_cw2 h72 hc) _ _ hW hS (lv_sub hl [10, 11, 5, 4, 3, 2, 1, 0] rfl)
                · refine lv_iload hx hb dX0_compareWith_126 (lv_at hl 10 rfl) ?_
                  refine lv_lload hx hb dX0_compareWith_128 (lv_at hl 1 rfl) ?_
                  refine lv_lload hx hb dX0_compareWith_130 (lv_at hl 0 rfl) ?_
                  refine tm_calli (cs_X0_34 hx hb hml hown htw hK hW (c_J13_compare (by omega) (by omega)) ⟨rfl, rfl, Nat.le_of_ble_eq_true rfl, Nat.le_of_ble_eq_true rfl⟩ hl.1 (Nat.le_of_ble_eq_true rfl) dX0_compareWith_132 ⟨Nat.le_of_ble_eq_true rfl, Nat.le_of_ble_eq_true rfl⟩) hS (fun x132 M132 H locs hp132 hW hS => ?_)
                  obtain ⟨ex132, eM132⟩ := hp132
                  rw [eM132] at hW
                  rw [ex132]
                  refine ti_imul hx hb dX0_compareWith_135 ?_
                  exact tm_iret hx hb hr hlk hK hW hS ⟨tl_fin0 hq hs f3 f5 (by omega) (by rw [← tl_cmp_mod h72]; exact hc), rfl⟩ dX0_compareWith_136
            · refine lv_lload hx hb dX0_compareWith_76 (lv_at hl 1 rfl) ?_
              refine lv_lload hx hb dX0_compareWith_78 (lv_at hl 0 rfl) ?_
              refine ti_lcmp_ge (tgt := 90) hx hb dX0_compareWith_80 dX0_compareWith_81 (by decide) (by omega) (by omega) (fun h80 => ?_) (fun h80 => ?_)
              · refine lv_iload hx hb dX0_compareWith_90 (lv_at hl 8 rfl) ?_
                exact tm_iret hx hb hr hlk hK hW hS ⟨by first | (rw [tl_cmp_lt hq hs (by omega)] at hc; omega) | (rw [tl_cmp_gt hq hs (by omega)] at hc; omega), rfl⟩ dX0_compareWith_92
              · refine lv_iload hx hb dX0_compareWith_84 (lv_at hl 8 rfl) ?_
                refine ti_ineg hx hb dX0_compareWith_86 ?_
                refine lv_goto (tgt := 92) hx hb dX0_compareWith_87 (by decide) ?_
                exact tm_iret hx hb hr hlk hK hW hS ⟨by first | (rw [tl_cmp_lt hq hs (by omega)] at hc; omega) | (rw [tl_cmp_gt hq hs (by omega)] at hc; omega), rfl⟩ dX0_compareWith_92
  refine lv_aload_n hx hb dX0_compareWith_0 rfl (lv_at hl 0 rfl) ?_
  refine gf_X0_17 hx hb htw hown hK hW (by assumption) dX0_compareWith_1 ?_
  refine lv_lstore_n (lv' := [(2, _), (0, _), (1, _)]) hx hb dX0_compareWith_4 rfl hl (by decide) rfl (fun ls hl => ?_)
  refine lv_aload_n hx hb dX0_compareWith_5 rfl (lv_at hl 1 rfl) ?_
  refine gf_X0_7 hx hb htw hown hK hW (by assumption) dX0_compareWith_6 ?_
  refine lv_lstore (lv' := [(4, _), (2, _), (0, _), (1, _)]) hx hb dX0_compareWith_9 hl (by decide) rfl (fun ls hl => ?_)
  refine lv_aload_n hx hb dX0_compareWith_11 rfl (lv_at hl 3 rfl) ?_
  refine gf_X0_17 hx hb htw hown hK hW (by assumption) dX0_compareWith_12 ?_
  refine lv_lstore (lv' := [(6, _), (4, _), (2, _), (0, _), (1, _)]) hx hb dX0_compareWith_15 hl (by decide) rfl (fun ls hl => ?_)
  refine lv_aload_n hx hb dX0_compareWith_17 rfl (lv_at hl 4 rfl) ?_
  refine gf_X0_7 hx hb htw hown hK hW (by assumption) dX0_compareWith_18 ?_
  refine lv_lstore (lv' := [(8, _), (6, _), (4, _), (2, _), (0, _), (1, _)]) hx hb dX0_compareWith_21 hl (by decide) rfl (fun ls hl => ?_)
  refine ti_iconst hx hb dX0_compareWith_23 ?_
  refine lv_istore (lv' := [(10, _), (8, _), (6, _), (4, _), (2, _), (0, _), (1, _)]) hx hb dX0_compareWith_24 hl (by decide) rfl (fun ls hl => ?_)
  refine ti_iconst hx hb dX0_compareWith_26 ?_
  refine lv_istore (lv' := [(11, _), (10, _), (8, _), (6, _), (4, _), (2, _), (0, _), (1, _)]) hx hb dX0_compareWith_27 hl (by decide) rfl (fun ls hl => ?_)
  have f1 := Int.natAbs_ediv_le_natAbs (mL M q 0) (mL M q 1)
  have f2 := Int.natAbs_ediv_le_natAbs (mL M o 0) (mL M o 1)
  have f3 := Int.emod_nonneg (mL M q 0) (show (mL M q 1) ≠ 0 by omega)
  have f5 := Int.emod_nonneg (mL M o 0) (show (mL M o 1) ≠ 0 by omega)
  have f4 := Int.emod_lt_of_pos (mL M q 0) hq1.1
  have f6 := Int.emod_lt_of_pos (mL M o 0) ho1.1
  refine lv_iload hx hb dX0_compareWith_29 (lv_at hl 0 rfl) ?_
  refine ti_sipush hx hb dX0_compareWith_31 (by decide) ?_
  refine ti_icmp_ge (tgt := 163) hx hb dX0_compareWith_34 (by decide) (by omega) (by omega) (fun h34 => ?_) (fun h34 => ?_)
  · exact absurd h34 (by omega)
  · refine lv_lload hx hb dX0_compareWith_37 (lv_at hl 4 rfl) ?_
    refine ti_lconst0 hx hb dX0_compareWith_39 ?_
    refine ti_lcmp_le (tgt := 163) hx hb dX0_compareWith_40 dX0_compareWith_41 (by decide) (by omega) (by omega) (fun h40 => ?_) (fun h40 => ?_)
    · exact absurd h40 (by omega)
    · refine lv_lload hx hb dX0_compareWith_44 (lv_at hl 2 rfl) ?_
      refine ti_lconst0 hx hb dX0_compareWith_46 ?_
      refine ti_lcmp_le (tgt := 163) hx hb dX0_compareWith_47 dX0_compareWith_48 (by decide) (by omega) (by omega) (fun h47 => ?_) (fun h47 => ?_)
      · exact absurd h47 (by omega)
      · refine lv_lload_n hx hb dX0_compareWith_51 rfl (lv_at hl 5 rfl) ?_
        refine lv_lload hx hb dX0_compareWith_52 (lv_at hl 4 rfl) ?_
        refine tm_calll (cs_X0_28 hx hb hml hown htw hK hW (c_J9_floorDiv hq1.1 (by omega) (by omega)) ⟨rfl, rfl, Nat.le_of_ble_eq_true rfl, Nat.le_of_ble_eq_true rfl⟩ hl.1 (Nat.le_of_ble_eq_true rfl) dX0_compareWith_54 ⟨Nat.le_of_ble_eq_true rfl, Nat.le_of_ble_eq_true rfl⟩) hS (fun x54 M54 H locs hp54 hW hS => ?_)
        obtain ⟨ex54, eM54⟩ := hp54
        rw [eM54] at hW
        rw [ex54]
        refine lv_lstore (lv' := [(12, _), (11, _), (10, _), (8, _), (6, _), (4, _), (2, _), (0, _), (1, _)]) hx hb dX0_compareWith_57 hl (by decide) rfl (fun ls hl => ?_)
        refine lv_lload hx hb dX0_compareWith_59 (lv_at hl 4 rfl) ?_
        refine lv_lload hx hb dX0_compareWith_61 (lv_at hl 3 rfl) ?_
        refine tm_calll (cs_X0_28 hx hb hml hown htw hK hW (c_J9_floorDiv ho1.1 (by omega) (by omega)) ⟨rfl, rfl, Nat.le_of_ble_eq_true rfl, Nat.le_of_ble_eq_true rfl⟩ hl.1 (Nat.le_of_ble_eq_true rfl) dX0_compareWith_63 ⟨Nat.le_of_ble_eq_true rfl, Nat.le_of_ble_eq_true rfl⟩) hS (fun x63 M63 H locs hp63 hW hS => ?_)
        obtain ⟨ex63, eM63⟩ := hp63
        rw [eM63] at hW
        rw [ex63]
        refine lv_lstore (lv' := [(14, _), (12, _), (11, _), (10, _), (8, _), (6, _), (4, _), (2, _), (0, _), (1, _)]) hx hb dX0_compareWith_66 hl (by decide) rfl (fun ls hl => ?_)
        refine lv_lload hx hb dX0_compareWith_68 (lv_at hl 1 rfl) ?_
        refine lv_lload hx hb dX0_compareWith_70 (lv_at hl 0 rfl) ?_
        refine ti_lcmp_eq (tgt := 93) hx hb dX0_compareWith_72 dX0_compareWith_73 (by decide) (by omega) (by omega) (fun h72 => ?_) (fun h72 => ?_)
        · refine lv_lload_n hx hb dX0_compareWith_93 rfl (lv_at hl 7 rfl) ?_
          refine lv_lload hx hb dX0_compareWith_94 (lv_at hl 1 rfl) ?_
          refine lv_lload hx hb dX0_compareWith_96 (lv_at hl 6 rfl) ?_
          refine ti_lmul hx hb dX0_compareWith_98 ?_
          refine ti_lsub hx hb dX0_compareWith_99 ?_
          rw [tl_md]
          refine lv_lstore (lv' := [(16, _), (14, _), (12, _), (11, _), (10, _), (8, _), (6, _), (4, _), (2, _), (0, _), (1, _)]) hx hb dX0_compareWith_100 hl (by decide) rfl (fun ls hl => ?_)
          refine lv_lload hx hb dX0_compareWith_102 (lv_at hl 6 rfl) ?_
          refine lv_lload hx hb dX0_compareWith_104 (lv_at hl 1 rfl) ?_
          refine lv_lload hx hb dX0_compareWith_106 (lv_at hl 5 rfl) ?_
          refine ti_lmul hx hb dX0_compareWith_108 ?_
          refine ti_lsub hx hb dX0_compareWith_109 ?_
          rw [tl_md]
          refine lv_lstore (lv' := [(18, _), (16, _), (14, _), (12, _), (11, _), (10, _), (8, _), (6, _), (4, _), (2, _), (0, _), (1, _)]) hx hb dX0_compareWith_110 hl (by decide) rfl (fun ls hl => ?_)
          refine lv_lload hx hb dX0_compareWith_112 (lv_at hl 1 rfl) ?_
          refine ti_lconst0 hx hb dX0_compareWith_114 ?_
          refine ti_lcmp_eq (tgt := 126) hx hb dX0_compareWith_115 dX0_compareWith_116 (by decide) (by omega) (by omega) (fun h115 => ?_) (fun h115 => ?_)
          · refine lv_iload hx hb dX0_compareWith_126 (lv_at hl 5 rfl) ?_
            refine lv_lload hx hb dX0_compareWith_128 (lv_at hl 1 rfl) ?_
            refine lv_lload hx hb dX0_compareWith_130 (lv_at hl 0 rfl) ?_
            refine tm_calli (cs_X0_34 hx hb hml hown htw hK hW (c_J13_compare (by omega) (by omega)) ⟨rfl, rfl, Nat.le_of_ble_eq_true rfl, Nat.le_of_ble_eq_true rfl⟩ hl.1 (Nat.le_of_ble_eq_true rfl) dX0_compareWith_132 ⟨Nat.le_of_ble_eq_true rfl, Nat.le_of_ble_eq_true rfl⟩) hS (fun x132 M132 H locs hp132 hW hS => ?_)
            obtain ⟨ex132, eM132⟩ := hp132
            rw [eM132] at hW
            rw [ex132]
            refine ti_imul hx hb dX0_compareWith_135 ?_
            exact tm_iret hx hb hr hlk hK hW hS ⟨tl_fin0 hq1.1 ho1.1 f3 f5 (by omega) (by rw [← tl_cmp_mod h72, Int.one_mul]), rfl⟩ dX0_compareWith_136
          · refine lv_lload hx hb dX0_compareWith_119 (lv_at hl 0 rfl) ?_
            refine ti_lconst0 hx hb dX0_compareWith_121 ?_
            refine ti_lcmp_ne (tgt := 137) hx hb dX0_compareWith_122 dX0_compareWith_123 (by decide) (by omega) (by omega) (fun h122 => ?_) (fun h122 => ?_)
            · refine lv_lload hx hb dX0_compareWith_137 (lv_at hl 8 rfl) ?_
              refine lv_lstore_n (lv' := [(2, _), (18, _), (16, _), (14, _), (12, _), (11, _), (10, _), (8, _), (6, _), (4, _), (0, _), (1, _)]) hx hb dX0_compareWith_139 rfl hl (by decide) rfl (fun ls hl => ?_)
              refine lv_lload hx hb dX0_compareWith_140 (lv_at hl 2 rfl) ?_
              refine lv_lstore (lv' := [(4, _), (2, _), (18, _), (16, _), (14, _), (12, _), (11, _), (10, _), (8, _), (6, _), (0, _), (1, _)]) hx hb dX0_compareWith_142 hl (by decide) rfl (fun ls hl => ?_)
              refine lv_lload hx hb dX0_compareWith_144 (lv_at hl 8 rfl) ?_
              refine lv_lstore (lv' := [(6, _), (4, _), (2, _), (18, _), (16, _), (14, _), (12, _), (11, _), (10, _), (8, _), (0, _), (1, _)]) hx hb dX0_compareWith_146 hl (by decide) rfl (fun ls hl => ?_)
              refine lv_lload hx hb dX0_compareWith_148 (lv_at hl 3 rfl) ?_
              refine lv_lstore (lv' := [(8, _), (6, _), (4, _), (2, _), (18, _), (16, _), (14, _), (12, _), (11, _), (10, _), (0, _), (1, _)]) hx hb dX0_compareWith_150 hl (by decide) rfl (fun ls hl => ?_)
              refine lv_iload hx hb dX0_compareWith_152 (lv_at hl 9 rfl) ?_
              refine ti_ineg hx hb dX0_compareWith_154 ?_
              refine lv_istore (lv' := [(10, _), (8, _), (6, _), (4, _), (2, _), (18, _), (16, _), (14, _), (12, _), (11, _), (0, _), (1, _)]) hx hb dX0_compareWith_155 hl (by decide) rfl (fun ls hl => ?_)
              refine ti_iinc (k := 9) (lv' := [(11, _), (10, _), (8, _), (6, _), (4, _), (2, _), (18, _), (16, _), (14, _), (12, _), (0, _), (1, _)]) hx hb dX0_compareWith_157 hl rfl (by decide) rfl (fun ls hl => ?_)
              refine lv_goto (tgt := 29) hx hb dX0_compareWith_160 (by decide) ?_
              exact loop 126 1 (mL M q 1) (mL M q 0 % mL M q 1) (mL M o 1) (mL M o 0 % mL M o 1) (-1) ls (by omega) (by omega) (by omega) (by omega) (by omega) (by omega) (by omega) (by omega) (by have h2 := Nat.mul_le_mul (show (mL M q 1).natAbs ≤ 4611686018427387904 by omega) (show (mL M q 0 % mL M q 1).natAbs ≤ 4611686018427387903 by omega); exact Nat.lt_of_le_of_lt h2 (by decide)) (Or.inr rfl) (tl_cw2 (g := 1) h72 (Int.one_mul _)) _ _ hW hS (lv_sub hl [10, 11, 5, 4, 3, 2, 1, 0] rfl)
            · refine lv_iload hx hb dX0_compareWith_126 (lv_at hl 5 rfl) ?_
              refine lv_lload hx hb dX0_compareWith_128 (lv_at hl 1 rfl) ?_
              refine lv_lload hx hb dX0_compareWith_130 (lv_at hl 0 rfl) ?_
              refine tm_calli (cs_X0_34 hx hb hml hown htw hK hW (c_J13_compare (by omega) (by omega)) ⟨rfl, rfl, Nat.le_of_ble_eq_true rfl, Nat.le_of_ble_eq_true rfl⟩ hl.1 (Nat.le_of_ble_eq_true rfl) dX0_compareWith_132 ⟨Nat.le_of_ble_eq_true rfl, Nat.le_of_ble_eq_true rfl⟩) hS (fun x132 M132 H locs hp132 hW hS => ?_)
              obtain ⟨ex132, eM132⟩ := hp132
              rw [eM132] at hW
              rw [ex132]
              refine ti_imul hx hb dX0_compareWith_135 ?_
              exact tm_iret hx hb hr hlk hK hW hS ⟨tl_fin0 hq1.1 ho1.1 f3 f5 (by omega) (by rw [← tl_cmp_mod h72, Int.one_mul]), rfl⟩ dX0_compareWith_136
        · refine lv_lload hx hb dX0_compareWith_76 (lv_at hl 1 rfl) ?_
          refine lv_lload hx hb dX0_compareWith_78 (lv_at hl 0 rfl) ?_
          refine ti_lcmp_ge (tgt := 90) hx hb dX0_compareWith_80 dX0_compareWith_81 (by decide) (by omega) (by omega) (fun h80 => ?_) (fun h80 => ?_)
          · refine lv_iload hx hb dX0_compareWith_90 (lv_at hl 3 rfl) ?_
            exact tm_iret hx hb hr hlk hK hW hS ⟨by first | (rw [tl_cmp_lt hq1.1 ho1.1 (by omega)]) | (rw [tl_cmp_lt hq1.1 ho1.1 (by omega)]; rfl) | (rw [tl_cmp_gt hq1.1 ho1.1 (by omega)]), rfl⟩ dX0_compareWith_92
          · refine lv_iload hx hb dX0_compareWith_84 (lv_at hl 3 rfl) ?_
            refine ti_ineg hx hb dX0_compareWith_86 ?_
            refine lv_goto (tgt := 92) hx hb dX0_compareWith_87 (by decide) ?_
            exact tm_iret hx hb hr hlk hK hW hS ⟨by first | (rw [tl_cmp_lt hq1.1 ho1.1 (by omega)]) | (rw [tl_cmp_lt hq1.1 ho1.1 (by omega)]; rfl) | (rw [tl_cmp_gt hq1.1 ho1.1 (by omega)]), rfl⟩ dX0_compareWith_92
end
section
/-! Side and Line (by program: wip/whole/gen/side.py). A Side at q has its fractions at q + 1, q + 2; a Line at q its sides at q + 1, q + 4 -/
abbrev tl_F : Type := Int × Int
abbrev tl_S : Type := tl_F × tl_F
def isSd (sh : tm_sh) (M : tm_M) (q : Nat) : Prop := sh q = some (6, 0) ∧ sh (q + 1) = some (2, 0) ∧ sh (q + 2) = some (2, 0) ∧ mR M q 0 = some (q + 1) ∧ mR M q 1 = some (q + 2)
abbrev sd (M : tm_M) (q : Nat) : tl_S := (fr M (q + 1), fr M (q + 2))
abbrev sS (M : tm_M) (q : Nat) (v : tl_S) : tm_M := fS (fS M (q + 1) v.1) (q + 2) v.2
def fok (f : tl_F) : Prop := -9999 ≤ f.1 ∧ f.1 ≤ 9999 ∧ 0 < f.2 ∧ f.2 ≤ 9999
abbrev fadd (f g : tl_F) : tl_F := tl_norm (f.1 * g.2 + g.1 * f.2) (f.2 * g.2)
abbrev fsub (f g : tl_F) : tl_F := tl_norm (f.1 * g.2 - g.1 * f.2) (f.2 * g.2)
abbrev fmul (f g : tl_F) : tl_F := tl_norm (f.1 * g.1) (f.2 * g.2)
abbrev fdiv (f g : tl_F) : tl_F := tl_norm (f.1 * g.2) (f.2 * g.1)
theorem tl_mb {x y : Int} {A B : Nat} (hx : x.natAbs ≤ A) (hy : y.natAbs ≤ B) : (x * y).natAbs ≤ A * B := by
  rw [Int.natAbs_mul]
  exact Nat.mul_le_mul hx hy
theorem fok_ab {f : tl_F} (h : fok f) : f.1.natAbs ≤ 9999 ∧ f.2.natAbs ≤ 9999 ∧ f.2 ≠ 0 := by
  obtain ⟨h1, h2, h3, h4⟩ := h
  exact ⟨by omega, by omega, by omega⟩
theorem fok_L {f : tl_F} (h : fok f) : inL f.1 ∧ inL f.2 := by
  obtain ⟨h1, h2, h3, h4⟩ := h
  exact ⟨by omega, by omega⟩
theorem tl_n0 {x y : Int} (hx : x ≠ 0) (hy : y ≠ 0) : x * y ≠ 0 := fun h => (Int.mul_eq_zero.mp h).elim hx hy
/-- the numbers of a sum, a difference, a product, a quotient of two such fractions are small -/
theorem tl_bd {f g : tl_F} (hf : fok f) (hg : fok g) : f.2 * g.2 ≠ 0 ∧ (f.2 * g.2).natAbs ≤ 4611686018427387904 ∧ (f.1 * g.2 + g.1 * f.2).natAbs ≤ 4611686018427387904 ∧ (f.1 * g.2 - g.1 * f.2).natAbs ≤ 4611686018427387904 ∧ (f.1 * g.1).natAbs ≤ 4611686018427387904 ∧ (f.1 * g.2).natAbs ≤ 4611686018427387904 ∧ (f.2 * g.1).natAbs ≤ 4611686018427387904 := by
  obtain ⟨a1, a2, a3⟩ := fok_ab hf
  obtain ⟨b1, b2, b3⟩ := fok_ab hg
  have h1 := tl_mb a2 b2
  have h2 := tl_mb a1 b2
  have h3 := tl_mb b1 a2
  have h4 := tl_mb a1 b1
  have h5 := tl_mb a2 b1
  refine ⟨tl_n0 a3 b3, by omega, by omega, by omega, by omega, by omega, by omega⟩
theorem sd_s1 (M : tm_M) (q : Nat) (f : tl_F) {a : Nat} (h : a ≠ q + 1) : fr (fS M (q + 1) f) a = fr M a := fr_n M f h
theorem mb1 {x : Int} (M : tm_M) {q a k : Nat} {f : tl_F} (h : a ≠ q) (e : mL M a k = x) : mL (fS M q f) a k = x := (fL_n M f h).trans e
theorem dX5_copy_0 : decode cX5_copy 0 = .ok (.aload_n 0, 1) := by decide +kernel
theorem dX5_copy_1 : decode cX5_copy 1 = .ok (.getfield 10, 3) := by decide +kernel
theorem dX5_copy_4 : decode cX5_copy 4 = .ok (.aload_n 1, 1) := by decide +kernel
theorem dX5_copy_5 : decode cX5_copy 5 = .ok (.getfield 10, 3) := by decide +kernel
theorem dX5_copy_8 : decode cX5_copy 8 = .ok (.invokevirtual 23, 3) := by decide +kernel
theorem dX5_copy_11 : decode cX5_copy 11 = .ok (.aload_n 0, 1) := by decide +kernel
theorem dX5_copy_12 : decode cX5_copy 12 = .ok (.getfield 16, 3) := by decide +kernel
theorem dX5_copy_15 : decode cX5_copy 15 = .ok (.aload_n 1, 1) := by decide +kernel
theorem dX5_copy_16 : decode cX5_copy 16 = .ok (.getfield 16, 3) := by decide +kernel
theorem dX5_copy_19 : decode cX5_copy 19 = .ok (.invokevirtual 23, 3) := by decide +kernel
theorem dX5_copy_22 : decode cX5_copy 22 = .ok (.return_, 1) := by decide +kernel
set_option maxHeartbeats 4000000 in
set_option maxRecDepth 100000 in
/-- Side.copy -/
theorem c_X5_copy {l : Launch} {G : tm_G} {Hb : Heap} {sh : tm_sh} {M : tm_M} {q o : Nat} (hs : isSd sh M q) (ht : isSd sh M o) (hne : o + 2 ≠ q + 1) : Met l yX5_copy (tws yX5_copy cX5_copy 2 none) ({ frames := 1, cells := 0, slots := 0, locals := 21 }) (va_Pc [.ref q, .ref o] (tm_St G Hb sh M)) (tm_Qv G Hb sh (fun M1 => M1 = sS M q (sd M o))) 0 0 (tm_A Hb) := by
  refine tm_begin (by decide) (Nat.le_of_ble_eq_true rfl) (fun p e s m below meth c ls hx hb hr hml hown htw hlk hnm hK hW hl => ?_)
  have hS : va_S (tm_A Hb) s.heap s.heap [] := va_S.rf
  have hl : lv_has ls 2 [(0, .ref q), (1, .ref o)] := hl
  obtain ⟨s0, s1, s2, r0, r1⟩ := hs
  obtain ⟨t0, t1, t2, u0, u1⟩ := ht
  refine lv_aload_n hx hb dX5_copy_0 rfl (lv_at hl 0 rfl) ?_
  refine gf_X5_10 hx hb htw hown hK hW (by assumption) (by assumption) dX5_copy_1 ?_
  refine lv_aload_n hx hb dX5_copy_4 rfl (lv_at hl 1 rfl) ?_
  refine gf_X5_10 hx hb htw hown hK hW (by assumption) (by assumption) dX5_copy_5 ?_
  refine tm_callv (cs_X5_23 hx hb hml hown htw hK hW (by assumption) (c_X0_copy (by assumption) (by assumption)) ⟨rfl, rfl, Nat.le_of_ble_eq_true rfl, Nat.le_of_ble_eq_true rfl⟩ hl.1 (Nat.le_of_ble_eq_true rfl) dX5_copy_8 ⟨Nat.le_of_ble_eq_true rfl, Nat.le_of_ble_eq_true rfl⟩) hS (fun M8 H locs hp8 hW hS => ?_)
  rw [hp8] at hW
  refine lv_aload_n hx hb dX5_copy_11 rfl (lv_at hl 0 rfl) ?_
  refine gf_X5_16 hx hb htw hown hK hW (by assumption) (by assumption) dX5_copy_12 ?_
  refine lv_aload_n hx hb dX5_copy_15 rfl (lv_at hl 1 rfl) ?_
  refine gf_X5_16 hx hb htw hown hK hW (by assumption) (by assumption) dX5_copy_16 ?_
  refine tm_callv (cs_X5_23 hx hb hml hown htw hK hW (by assumption) (c_X0_copy (by assumption) (by assumption)) ⟨rfl, rfl, Nat.le_of_ble_eq_true rfl, Nat.le_of_ble_eq_true rfl⟩ hl.1 (Nat.le_of_ble_eq_true rfl) dX5_copy_19 ⟨Nat.le_of_ble_eq_true rfl, Nat.le_of_ble_eq_true rfl⟩) hS (fun M19 H locs hp19 hW hS => ?_)
  rw [hp19] at hW
  rw [fr_n M _ hne] at hW
  exact tm_vret hx hb hr hlk hK hW hS rfl dX5_copy_22
theorem dX5_setWhole_0 : decode cX5_setWhole 0 = .ok (.aload_n 0, 1) := by decide +kernel
theorem dX5_setWhole_1 : decode cX5_setWhole 1 = .ok (.getfield 10, 3) := by decide +kernel
theorem dX5_setWhole_4 : decode cX5_setWhole 4 = .ok (.iload_n 1, 1) := by decide +kernel
theorem dX5_setWhole_5 : decode cX5_setWhole 5 = .ok (.i2l, 1) := by decide +kernel
theorem dX5_setWhole_6 : decode cX5_setWhole 6 = .ok (.invokevirtual 19, 3) := by decide +kernel
theorem dX5_setWhole_9 : decode cX5_setWhole 9 = .ok (.aload_n 0, 1) := by decide +kernel
theorem dX5_setWhole_10 : decode cX5_setWhole 10 = .ok (.getfield 16, 3) := by decide +kernel
theorem dX5_setWhole_13 : decode cX5_setWhole 13 = .ok (.iload_n 2, 1) := by decide +kernel
theorem dX5_setWhole_14 : decode cX5_setWhole 14 = .ok (.i2l, 1) := by decide +kernel
theorem dX5_setWhole_15 : decode cX5_setWhole 15 = .ok (.invokevirtual 19, 3) := by decide +kernel
theorem dX5_setWhole_18 : decode cX5_setWhole 18 = .ok (.return_, 1) := by decide +kernel
set_option maxHeartbeats 4000000 in
set_option maxRecDepth 100000 in
/-- Side.setWhole -/
theorem c_X5_setWhole {l : Launch} {G : tm_G} {Hb : Heap} {sh : tm_sh} {M : tm_M} {q : Nat} {a b : Int} (hs : isSd sh M q) (ha : inI a) (hb1 : inI b) : Met l yX5_setWhole (tws yX5_setWhole cX5_setWhole 3 none) ({ frames := 1, cells := 0, slots := 0, locals := 22 }) (va_Pc [.ref q, ji a, ji b] (tm_St G Hb sh M)) (tm_Qv G Hb sh (fun M1 => M1 = sS M q ((a, 1), (b, 1)))) 0 0 (tm_A Hb) := by
  refine tm_begin (by decide) (Nat.le_of_ble_eq_true rfl) (fun p e s m below meth c ls hx hb hr hml hown htw hlk hnm hK hW hl => ?_)
  have hS : va_S (tm_A Hb) s.heap s.heap [] := va_S.rf
  have hl : lv_has ls 3 [(0, .ref q), (1, ji a), (2, ji b)] := hl
  obtain ⟨s0, s1, s2, r0, r1⟩ := hs
  refine lv_aload_n hx hb dX5_setWhole_0 rfl (lv_at hl 0 rfl) ?_
  refine gf_X5_10 hx hb htw hown hK hW (by assumption) (by assumption) dX5_setWhole_1 ?_
  refine lv_iload_n hx hb dX5_setWhole_4 rfl (lv_at hl 1 rfl) ?_
  refine ti_i2l hx hb dX5_setWhole_5 (by omega) ?_
  refine tm_callv (cs_X5_19 hx hb hml hown htw hK hW (by assumption) (c_X0_setWhole (by assumption)) ⟨rfl, rfl, Nat.le_of_ble_eq_true rfl, Nat.le_of_ble_eq_true rfl⟩ hl.1 (Nat.le_of_ble_eq_true rfl) dX5_setWhole_6 ⟨Nat.le_of_ble_eq_true rfl, Nat.le_of_ble_eq_true rfl⟩) hS (fun M6 H locs hp6 hW hS => ?_)
  rw [hp6] at hW
  refine lv_aload_n hx hb dX5_setWhole_9 rfl (lv_at hl 0 rfl) ?_
  refine gf_X5_16 hx hb htw hown hK hW (by assumption) (by assumption) dX5_setWhole_10 ?_
  refine lv_iload_n hx hb dX5_setWhole_13 rfl (lv_at hl 2 rfl) ?_
  refine ti_i2l hx hb dX5_setWhole_14 (by omega) ?_
  refine tm_callv (cs_X5_19 hx hb hml hown htw hK hW (by assumption) (c_X0_setWhole (by assumption)) ⟨rfl, rfl, Nat.le_of_ble_eq_true rfl, Nat.le_of_ble_eq_true rfl⟩ hl.1 (Nat.le_of_ble_eq_true rfl) dX5_setWhole_15 ⟨Nat.le_of_ble_eq_true rfl, Nat.le_of_ble_eq_true rfl⟩) hS (fun M15 H locs hp15 hW hS => ?_)
  rw [hp15] at hW
  exact tm_vret hx hb hr hlk hK hW hS rfl dX5_setWhole_18
theorem dX5_turnToOpposite_0 : decode cX5_turnToOpposite 0 = .ok (.aload_n 0, 1) := by decide +kernel
theorem dX5_turnToOpposite_1 : decode cX5_turnToOpposite 1 = .ok (.getfield 10, 3) := by decide +kernel
theorem dX5_turnToOpposite_4 : decode cX5_turnToOpposite 4 = .ok (.aload_n 0, 1) := by decide +kernel
theorem dX5_turnToOpposite_5 : decode cX5_turnToOpposite 5 = .ok (.getfield 10, 3) := by decide +kernel
theorem dX5_turnToOpposite_8 : decode cX5_turnToOpposite 8 = .ok (.invokevirtual 27, 3) := by decide +kernel
theorem dX5_turnToOpposite_11 : decode cX5_turnToOpposite 11 = .ok (.aload_n 0, 1) := by decide +kernel
theorem dX5_turnToOpposite_12 : decode cX5_turnToOpposite 12 = .ok (.getfield 16, 3) := by decide +kernel
theorem dX5_turnToOpposite_15 : decode cX5_turnToOpposite 15 = .ok (.aload_n 0, 1) := by decide +kernel
theorem dX5_turnToOpposite_16 : decode cX5_turnToOpposite 16 = .ok (.getfield 16, 3) := by decide +kernel
theorem dX5_turnToOpposite_19 : decode cX5_turnToOpposite 19 = .ok (.invokevirtual 27, 3) := by decide +kernel
theorem dX5_turnToOpposite_22 : decode cX5_turnToOpposite 22 = .ok (.return_, 1) := by decide +kernel
set_option maxHeartbeats 4000000 in
set_option maxRecDepth 100000 in
/-- Side.turnToOpposite -/
theorem c_X5_turnToOpposite {l : Launch} {G : tm_G} {Hb : Heap} {sh : tm_sh} {M : tm_M} {q : Nat} (hs : isSd sh M q) : Met l yX5_turnToOpposite (tws yX5_turnToOpposite cX5_turnToOpposite 1 none) ({ frames := 1, cells := 0, slots := 0, locals := 21 }) (va_Pc [.ref q] (tm_St G Hb sh M)) (tm_Qv G Hb sh (fun M1 => M1 = sS M q ((-(fr M (q + 1)).1, (fr M (q + 1)).2), (-(fr M (q + 2)).1, (fr M (q + 2)).2)))) 0 0 (tm_A Hb) := by
  refine tm_begin (by decide) (Nat.le_of_ble_eq_true rfl) (fun p e s m below meth c ls hx hb hr hml hown htw hlk hnm hK hW hl => ?_)
  have hS : va_S (tm_A Hb) s.heap s.heap [] := va_S.rf
  have hl : lv_has ls 1 [(0, .ref q)] := hl
  obtain ⟨s0, s1, s2, r0, r1⟩ := hs
  refine lv_aload_n hx hb dX5_turnToOpposite_0 rfl (lv_at hl 0 rfl) ?_
  refine gf_X5_10 hx hb htw hown hK hW (by assumption) (by assumption) dX5_turnToOpposite_1 ?_
  refine lv_aload_n hx hb dX5_turnToOpposite_4 rfl (lv_at hl 0 rfl) ?_
  refine gf_X5_10 hx hb htw hown hK hW (by assumption) (by assumption) dX5_turnToOpposite_5 ?_
  refine tm_callv (cs_X5_27 hx hb hml hown htw hK hW (by assumption) (c_X0_setOpposite (by assumption) (by assumption)) ⟨rfl, rfl, Nat.le_of_ble_eq_true rfl, Nat.le_of_ble_eq_true rfl⟩ hl.1 (Nat.le_of_ble_eq_true rfl) dX5_turnToOpposite_8 ⟨Nat.le_of_ble_eq_true rfl, Nat.le_of_ble_eq_true rfl⟩) hS (fun M8 H locs hp8 hW hS => ?_)
  rw [hp8] at hW
  refine lv_aload_n hx hb dX5_turnToOpposite_11 rfl (lv_at hl 0 rfl) ?_
  refine gf_X5_16 hx hb htw hown hK hW (by assumption) (by assumption) dX5_turnToOpposite_12 ?_
  refine lv_aload_n hx hb dX5_turnToOpposite_15 rfl (lv_at hl 0 rfl) ?_
  refine gf_X5_16 hx hb htw hown hK hW (by assumption) (by assumption) dX5_turnToOpposite_16 ?_
  refine tm_callv (cs_X5_27 hx hb hml hown htw hK hW (by assumption) (c_X0_setOpposite (by assumption) (by assumption)) ⟨rfl, rfl, Nat.le_of_ble_eq_true rfl, Nat.le_of_ble_eq_true rfl⟩ hl.1 (Nat.le_of_ble_eq_true rfl) dX5_turnToOpposite_19 ⟨Nat.le_of_ble_eq_true rfl, Nat.le_of_ble_eq_true rfl⟩) hS (fun M19 H locs hp19 hW hS => ?_)
  rw [hp19] at hW
  rw [fr_n M _ (by omega)] at hW
  exact tm_vret hx hb hr hlk hK hW hS rfl dX5_turnToOpposite_22
theorem dX5_add_0 : decode cX5_add 0 = .ok (.aload_n 0, 1) := by decide +kernel
theorem dX5_add_1 : decode cX5_add 1 = .ok (.getfield 10, 3) := by decide +kernel
theorem dX5_add_4 : decode cX5_add 4 = .ok (.aload_n 0, 1) := by decide +kernel
theorem dX5_add_5 : decode cX5_add 5 = .ok (.getfield 10, 3) := by decide +kernel
theorem dX5_add_8 : decode cX5_add 8 = .ok (.aload_n 1, 1) := by decide +kernel
theorem dX5_add_9 : decode cX5_add 9 = .ok (.getfield 10, 3) := by decide +kernel
theorem dX5_add_12 : decode cX5_add 12 = .ok (.invokevirtual 30, 3) := by decide +kernel
theorem dX5_add_15 : decode cX5_add 15 = .ok (.aload_n 0, 1) := by decide +kernel
theorem dX5_add_16 : decode cX5_add 16 = .ok (.getfield 16, 3) := by decide +kernel
theorem dX5_add_19 : decode cX5_add 19 = .ok (.aload_n 0, 1) := by decide +kernel
theorem dX5_add_20 : decode cX5_add 20 = .ok (.getfield 16, 3) := by decide +kernel
theorem dX5_add_23 : decode cX5_add 23 = .ok (.aload_n 1, 1) := by decide +kernel
theorem dX5_add_24 : decode cX5_add 24 = .ok (.getfield 16, 3) := by decide +kernel
theorem dX5_add_27 : decode cX5_add 27 = .ok (.invokevirtual 30, 3) := by decide +kernel
theorem dX5_add_30 : decode cX5_add 30 = .ok (.return_, 1) := by decide +kernel
set_option maxHeartbeats 4000000 in
set_option maxRecDepth 100000 in
/-- Side.add -/
theorem c_X5_add {l : Launch} {G : tm_G} {Hb : Heap} {sh : tm_sh} {M : tm_M} {q o : Nat} (hs : isSd sh M q) (ht : isSd sh M o) (hne : o + 3 ≤ q ∨ q + 3 ≤ o) (ha : fok (fr M (q + 1))) (hb1 : fok (fr M (q + 2))) (hc : fok (fr M (o + 1))) (hd : fok (fr M (o + 2))) : Met l yX5_add (tws yX5_add cX5_add 2 none) ({ frames := 3, cells := 0, slots := 0, locals := 75 }) (va_Pc [.ref q, .ref o] (tm_St G Hb sh M)) (tm_Qv G Hb sh (fun M1 => M1 = sS M q (fadd (fr M (q + 1)) (fr M (o + 1)), fadd (fr M (q + 2)) (fr M (o + 2))))) 0 0 (tm_A Hb) := by
  refine tm_begin (by decide) (Nat.le_of_ble_eq_true rfl) (fun p e s m below meth c ls hx hb hr hml hown htw hlk hnm hK hW hl => ?_)
  have hS : va_S (tm_A Hb) s.heap s.heap [] := va_S.rf
  have hl : lv_has ls 2 [(0, .ref q), (1, .ref o)] := hl
  obtain ⟨s0, s1, s2, r0, r1⟩ := hs
  obtain ⟨t0, t1, t2, u0, u1⟩ := ht
  refine lv_aload_n hx hb dX5_add_0 rfl (lv_at hl 0 rfl) ?_
  refine gf_X5_10 hx hb htw hown hK hW (by assumption) (by assumption) dX5_add_1 ?_
  refine lv_aload_n hx hb dX5_add_4 rfl (lv_at hl 0 rfl) ?_
  refine gf_X5_10 hx hb htw hown hK hW (by assumption) (by assumption) dX5_add_5 ?_
  refine lv_aload_n hx hb dX5_add_8 rfl (lv_at hl 1 rfl) ?_
  refine gf_X5_10 hx hb htw hown hK hW (by assumption) (by assumption) dX5_add_9 ?_
  refine tm_callv (cs_X5_30 hx hb hml hown htw hK hW (by assumption) (c_X0_setSum (by assumption) (by assumption) (by assumption) (tl_bd ha hc).1 (tl_bd ha hc).2.2.1 (tl_bd ha hc).2.1) ⟨rfl, rfl, Nat.le_of_ble_eq_true rfl, Nat.le_of_ble_eq_true rfl⟩ hl.1 (Nat.le_of_ble_eq_true rfl) dX5_add_12 ⟨Nat.le_of_ble_eq_true rfl, Nat.le_of_ble_eq_true rfl⟩) hS (fun M12 H locs hp12 hW hS => ?_)
  rw [hp12] at hW
  refine lv_aload_n hx hb dX5_add_15 rfl (lv_at hl 0 rfl) ?_
  refine gf_X5_16 hx hb htw hown hK hW (by assumption) (by assumption) dX5_add_16 ?_
  refine lv_aload_n hx hb dX5_add_19 rfl (lv_at hl 0 rfl) ?_
  refine gf_X5_16 hx hb htw hown hK hW (by assumption) (by assumption) dX5_add_20 ?_
  refine lv_aload_n hx hb dX5_add_23 rfl (lv_at hl 1 rfl) ?_
  refine gf_X5_16 hx hb htw hown hK hW (by assumption) (by assumption) dX5_add_24 ?_
  have e0 := fL_n M (q := q + 1) (a := q + 2) (k := 0) (fadd (fr M (q + 1)) (fr M (o + 1))) (by omega)
  have e1 := fL_n M (q := q + 1) (a := q + 2) (k := 1) (fadd (fr M (q + 1)) (fr M (o + 1))) (by omega)
  have e2 := fL_n M (q := q + 1) (a := o + 2) (k := 0) (fadd (fr M (q + 1)) (fr M (o + 1))) (by omega)
  have e3 := fL_n M (q := q + 1) (a := o + 2) (k := 1) (fadd (fr M (q + 1)) (fr M (o + 1))) (by omega)
  have w1 := (tl_bd hb1 hd).1
  have w2 := (tl_bd hb1 hd).2.2.1
  have w3 := (tl_bd hb1 hd).2.1
  simp only [fr, ← e0, ← e1, ← e2, ← e3] at w1 w2 w3
  refine tm_callv (cs_X5_30 hx hb hml hown htw hK hW (by assumption) (c_X0_setSum (p1 := q + 2) (p2 := o + 2) (by assumption) (by assumption) (by assumption) w1 w2 w3) ⟨rfl, rfl, Nat.le_of_ble_eq_true rfl, Nat.le_of_ble_eq_true rfl⟩ hl.1 (Nat.le_of_ble_eq_true rfl) dX5_add_27 ⟨Nat.le_of_ble_eq_true rfl, Nat.le_of_ble_eq_true rfl⟩) hS (fun M27 H locs hp27 hW hS => ?_)
  rw [hp27] at hW
  rw [e0, e1, e2, e3] at hW
  exact tm_vret hx hb hr hlk hK hW hS rfl dX5_add_30
theorem dX5_subtract_0 : decode cX5_subtract 0 = .ok (.aload_n 0, 1) := by decide +kernel
theorem dX5_subtract_1 : decode cX5_subtract 1 = .ok (.getfield 10, 3) := by decide +kernel
theorem dX5_subtract_4 : decode cX5_subtract 4 = .ok (.aload_n 0, 1) := by decide +kernel
theorem dX5_subtract_5 : decode cX5_subtract 5 = .ok (.getfield 10, 3) := by decide +kernel
theorem dX5_subtract_8 : decode cX5_subtract 8 = .ok (.aload_n 1, 1) := by decide +kernel
theorem dX5_subtract_9 : decode cX5_subtract 9 = .ok (.getfield 10, 3) := by decide +kernel
theorem dX5_subtract_12 : decode cX5_subtract 12 = .ok (.invokevirtual 34, 3) := by decide +kernel
theorem dX5_subtract_15 : decode cX5_subtract 15 = .ok (.aload_n 0, 1) := by decide +kernel
theorem dX5_subtract_16 : decode cX5_subtract 16 = .ok (.getfield 16, 3) := by decide +kernel
theorem dX5_subtract_19 : decode cX5_subtract 19 = .ok (.aload_n 0, 1) := by decide +kernel
theorem dX5_subtract_20 : decode cX5_subtract 20 = .ok (.getfield 16, 3) := by decide +kernel
theorem dX5_subtract_23 : decode cX5_subtract 23 = .ok (.aload_n 1, 1) := by decide +kernel
theorem dX5_subtract_24 : decode cX5_subtract 24 = .ok (.getfield 16, 3) := by decide +kernel
theorem dX5_subtract_27 : decode cX5_subtract 27 = .ok (.invokevirtual 34, 3) := by decide +kernel
theorem dX5_subtract_30 : decode cX5_subtract 30 = .ok (.return_, 1) := by decide +kernel
set_option maxHeartbeats 4000000 in
set_option maxRecDepth 100000 in
/-- Side.subtract -/
theorem c_X5_subtract {l : Launch} {G : tm_G} {Hb : Heap} {sh : tm_sh} {M : tm_M} {q o : Nat} (hs : isSd sh M q) (ht : isSd sh M o) (hne : o + 3 ≤ q ∨ q + 3 ≤ o) (ha : fok (fr M (q + 1))) (hb1 : fok (fr M (q + 2))) (hc : fok (fr M (o + 1))) (hd : fok (fr M (o + 2))) : Met l yX5_subtract (tws yX5_subtract cX5_subtract 2 none) ({ frames := 3, cells := 0, slots := 0, locals := 75 }) (va_Pc [.ref q, .ref o] (tm_St G Hb sh M)) (tm_Qv G Hb sh (fun M1 => M1 = sS M q (fsub (fr M (q + 1)) (fr M (o + 1)), fsub (fr M (q + 2)) (fr M (o + 2))))) 0 0 (tm_A Hb) := by
  refine tm_begin (by decide) (Nat.le_of_ble_eq_true rfl) (fun p e s m below meth c ls hx hb hr hml hown htw hlk hnm hK hW hl => ?_)
  have hS : va_S (tm_A Hb) s.heap s.heap [] := va_S.rf
  have hl : lv_has ls 2 [(0, .ref q), (1, .ref o)] := hl
  obtain ⟨s0, s1, s2, r0, r1⟩ := hs
  obtain ⟨t0, t1, t2, u0, u1⟩ := ht
  refine lv_aload_n hx hb dX5_subtract_0 rfl (lv_at hl 0 rfl) ?_
  refine gf_X5_10 hx hb htw hown hK hW (by assumption) (by assumption) dX5_subtract_1 ?_
  refine lv_aload_n hx hb dX5_subtract_4 rfl (lv_at hl 0 rfl) ?_
  refine gf_X5_10 hx hb htw hown hK hW (by assumption) (by assumption) dX5_subtract_5 ?_
  refine lv_aload_n hx hb dX5_subtract_8 rfl (lv_at hl 1 rfl) ?_
  refine gf_X5_10 hx hb htw hown hK hW (by assumption) (by assumption) dX5_subtract_9 ?_
  refine tm_callv (cs_X5_34 hx hb hml hown htw hK hW (by assumption) (c_X0_setDifference (by assumption) (by assumption) (by assumption) (tl_bd ha hc).1 (tl_bd ha hc).2.2.2.1 (tl_bd ha hc).2.1) ⟨rfl, rfl, Nat.le_of_ble_eq_true rfl, Nat.le_of_ble_eq_true rfl⟩ hl.1 (Nat.le_of_ble_eq_true rfl) dX5_subtract_12 ⟨Nat.le_of_ble_eq_true rfl, Nat.le_of_ble_eq_true rfl⟩) hS (fun M12 H locs hp12 hW hS => ?_)
  rw [hp12] at hW
  refine lv_aload_n hx hb dX5_subtract_15 rfl (lv_at hl 0 rfl) ?_
  refine gf_X5_16 hx hb htw hown hK hW (by assumption) (by assumption) dX5_subtract_16 ?_
  refine lv_aload_n hx hb dX5_subtract_19 rfl (lv_at hl 0 rfl) ?_
  refine gf_X5_16 hx hb htw hown hK hW (by assumption) (by assumption) dX5_subtract_20 ?_
  refine lv_aload_n hx hb dX5_subtract_23 rfl (lv_at hl 1 rfl) ?_
  refine gf_X5_16 hx hb htw hown hK hW (by assumption) (by assumption) dX5_subtract_24 ?_
  have e0 := fL_n M (q := q + 1) (a := q + 2) (k := 0) (fsub (fr M (q + 1)) (fr M (o + 1))) (by omega)
  have e1 := fL_n M (q := q + 1) (a := q + 2) (k := 1) (fsub (fr M (q + 1)) (fr M (o + 1))) (by omega)
  have e2 := fL_n M (q := q + 1) (a := o + 2) (k := 0) (fsub (fr M (q + 1)) (fr M (o + 1))) (by omega)
  have e3 := fL_n M (q := q + 1) (a := o + 2) (k := 1) (fsub (fr M (q + 1)) (fr M (o + 1))) (by omega)
  have w1 := (tl_bd hb1 hd).1
  have w2 := (tl_bd hb1 hd).2.2.2.1
  have w3 := (tl_bd hb1 hd).2.1
  simp only [fr, ← e0, ← e1, ← e2, ← e3] at w1 w2 w3
  refine tm_callv (cs_X5_34 hx hb hml hown htw hK hW (by assumption) (c_X0_setDifference (p1 := q + 2) (p2 := o + 2) (by assumption) (by assumption) (by assumption) w1 w2 w3) ⟨rfl, rfl, Nat.le_of_ble_eq_true rfl, Nat.le_of_ble_eq_true rfl⟩ hl.1 (Nat.le_of_ble_eq_true rfl) dX5_subtract_27 ⟨Nat.le_of_ble_eq_true rfl, Nat.le_of_ble_eq_true rfl⟩) hS (fun M27 H locs hp27 hW hS => ?_)
  rw [hp27] at hW
  rw [e0, e1, e2, e3] at hW
  exact tm_vret hx hb hr hlk hK hW hS rfl dX5_subtract_30
end
section
/-! Side, the rest, and Line (by program: wip/whole/gen/side2.py) -/
theorem v_setSum {l : Launch} {G : tm_G} {Hb : Heap} {sh : tm_sh} {M : tm_M} {q p1 p2 : Nat} {f g : tl_F} (h0 : sh q = some (2, 0)) (h1 : sh p1 = some (2, 0)) (h2 : sh p2 = some (2, 0)) (e1 : fr M p1 = f) (e2 : fr M p2 = g) (hf : fok f) (hg : fok g) : Met l yX0_setSum (tws yX0_setSum cX0_setSum 3 none) ({ frames := 2, cells := 0, slots := 0, locals := 53 }) (va_Pc [.ref q, .ref p1, .ref p2] (tm_St G Hb sh M)) (tm_Qv G Hb sh (fun M1 => M1 = fS M q (fadd f g))) 0 0 (tm_A Hb) := by
  subst e1 e2
  exact c_X0_setSum h0 h1 h2 (tl_bd hf hg).1 (tl_bd hf hg).2.2.1 (tl_bd hf hg).2.1
theorem v_setDifference {l : Launch} {G : tm_G} {Hb : Heap} {sh : tm_sh} {M : tm_M} {q p1 p2 : Nat} {f g : tl_F} (h0 : sh q = some (2, 0)) (h1 : sh p1 = some (2, 0)) (h2 : sh p2 = some (2, 0)) (e1 : fr M p1 = f) (e2 : fr M p2 = g) (hf : fok f) (hg : fok g) : Met l yX0_setDifference (tws yX0_setDifference cX0_setDifference 3 none) ({ frames := 2, cells := 0, slots := 0, locals := 53 }) (va_Pc [.ref q, .ref p1, .ref p2] (tm_St G Hb sh M)) (tm_Qv G Hb sh (fun M1 => M1 = fS M q (fsub f g))) 0 0 (tm_A Hb) := by
  subst e1 e2
  exact c_X0_setDifference h0 h1 h2 (tl_bd hf hg).1 (tl_bd hf hg).2.2.2.1 (tl_bd hf hg).2.1
theorem v_setProduct {l : Launch} {G : tm_G} {Hb : Heap} {sh : tm_sh} {M : tm_M} {q p1 p2 : Nat} {f g : tl_F} (h0 : sh q = some (2, 0)) (h1 : sh p1 = some (2, 0)) (h2 : sh p2 = some (2, 0)) (e1 : fr M p1 = f) (e2 : fr M p2 = g) (hf : fok f) (hg : fok g) : Met l yX0_setProduct (tws yX0_setProduct cX0_setProduct 3 none) ({ frames := 2, cells := 0, slots := 0, locals := 53 }) (va_Pc [.ref q, .ref p1, .ref p2] (tm_St G Hb sh M)) (tm_Qv G Hb sh (fun M1 => M1 = fS M q (fmul f g))) 0 0 (tm_A Hb) := by
  subst e1 e2
  exact c_X0_setProduct h0 h1 h2 (tl_bd hf hg).1 (tl_bd hf hg).2.2.2.2.1 (tl_bd hf hg).2.1
theorem v_setQuotient {l : Launch} {G : tm_G} {Hb : Heap} {sh : tm_sh} {M : tm_M} {q p1 p2 : Nat} {f g : tl_F} (h0 : sh q = some (2, 0)) (h1 : sh p1 = some (2, 0)) (h2 : sh p2 = some (2, 0)) (e1 : fr M p1 = f) (e2 : fr M p2 = g) (hf : fok f) (hg : fok g) (hz : g.1 ≠ 0) : Met l yX0_setQuotient (tws yX0_setQuotient cX0_setQuotient 3 none) ({ frames := 2, cells := 0, slots := 0, locals := 53 }) (va_Pc [.ref q, .ref p1, .ref p2] (tm_St G Hb sh M)) (tm_Qv G Hb sh (fun M1 => M1 = fS M q (fdiv f g))) 0 0 (tm_A Hb) := by
  subst e1 e2
  exact c_X0_setQuotient h0 h1 h2 (tl_n0 (fok_ab hf).2.2 hz) (tl_bd hf hg).2.2.2.2.2.1 (tl_bd hf hg).2.2.2.2.2.2
theorem tl_b_r (p : Prop) [Decidable p] : inI (tl_b p) := by
  unfold tl_b
  split <;> omega
theorem tl_b_0 {p : Prop} [Decidable p] : tl_b p = 0 ↔ ¬ p := by
  unfold tl_b
  split <;> simp_all
theorem tl_b_n {p : Prop} [Decidable p] : ¬ tl_b p = 0 ↔ p := by
  rw [tl_b_0]
  exact Decidable.not_not
theorem tl_b_z (p : Prop) [Decidable p] : tl_b p = 0 ∨ tl_b p = 1 := by
  unfold tl_b
  split <;> simp
abbrev smul (s t : tl_S) : tl_S := (if s.1.1 = 0 then fmul s.2 t.1 else fmul s.1 t.2, fmul s.2 t.2)
abbrev sdiv (s : tl_S) (f : tl_F) : tl_S := (fdiv s.1 f, fdiv s.2 f)
def sok (s : tl_S) : Prop := fok s.1 ∧ fok s.2
abbrev ffit (f : tl_F) : Prop := -9999 ≤ f.1 ∧ f.1 ≤ 9999 ∧ f.2 ≤ 9999
def fLok (f : tl_F) : Prop := inL f.1 ∧ inL f.2
theorem fLok_of {f : tl_F} (h : fok f) : fLok f := fok_L h
/-- a fraction in lowest terms of small numbers is within a long -/
theorem fLok_norm {a b : Int} (hb : b ≠ 0) (h1 : a.natAbs ≤ 4611686018427387904) (h2 : b.natAbs ≤ 4611686018427387904) : fLok (tl_norm a b) := by
  obtain ⟨h3, h4⟩ := tl_norm_le (a := a) hb
  exact ⟨by omega, by omega⟩
theorem dX5_multiply_0 : decode cX5_multiply 0 = .ok (.aload_n 0, 1) := by decide +kernel
theorem dX5_multiply_1 : decode cX5_multiply 1 = .ok (.getfield 10, 3) := by decide +kernel
theorem dX5_multiply_4 : decode cX5_multiply 4 = .ok (.invokevirtual 37, 3) := by decide +kernel
theorem dX5_multiply_7 : decode cX5_multiply 7 = .ok (.ifCond .eq 21, 3) := by decide +kernel
theorem dX5_multiply_10 : decode cX5_multiply 10 = .ok (.aload_n 0, 1) := by decide +kernel
theorem dX5_multiply_11 : decode cX5_multiply 11 = .ok (.getfield 10, 3) := by decide +kernel
theorem dX5_multiply_14 : decode cX5_multiply 14 = .ok (.aload_n 0, 1) := by decide +kernel
theorem dX5_multiply_15 : decode cX5_multiply 15 = .ok (.getfield 16, 3) := by decide +kernel
theorem dX5_multiply_18 : decode cX5_multiply 18 = .ok (.aload_n 1, 1) := by decide +kernel
theorem dX5_multiply_19 : decode cX5_multiply 19 = .ok (.getfield 10, 3) := by decide +kernel
theorem dX5_multiply_22 : decode cX5_multiply 22 = .ok (.invokevirtual 41, 3) := by decide +kernel
theorem dX5_multiply_25 : decode cX5_multiply 25 = .ok (.goto 18, 3) := by decide +kernel
theorem dX5_multiply_28 : decode cX5_multiply 28 = .ok (.aload_n 0, 1) := by decide +kernel
theorem dX5_multiply_29 : decode cX5_multiply 29 = .ok (.getfield 10, 3) := by decide +kernel
theorem dX5_multiply_32 : decode cX5_multiply 32 = .ok (.aload_n 0, 1) := by decide +kernel
theorem dX5_multiply_33 : decode cX5_multiply 33 = .ok (.getfield 10, 3) := by decide +kernel
theorem dX5_multiply_36 : decode cX5_multiply 36 = .ok (.aload_n 1, 1) := by decide +kernel
theorem dX5_multiply_37 : decode cX5_multiply 37 = .ok (.getfield 16, 3) := by decide +kernel
theorem dX5_multiply_40 : decode cX5_multiply 40 = .ok (.invokevirtual 41, 3) := by decide +kernel
theorem dX5_multiply_43 : decode cX5_multiply 43 = .ok (.aload_n 0, 1) := by decide +kernel
theorem dX5_multiply_44 : decode cX5_multiply 44 = .ok (.getfield 16, 3) := by decide +kernel
theorem dX5_multiply_47 : decode cX5_multiply 47 = .ok (.aload_n 0, 1) := by decide +kernel
theorem dX5_multiply_48 : decode cX5_multiply 48 = .ok (.getfield 16, 3) := by decide +kernel
theorem dX5_multiply_51 : decode cX5_multiply 51 = .ok (.aload_n 1, 1) := by decide +kernel
theorem dX5_multiply_52 : decode cX5_multiply 52 = .ok (.getfield 16, 3) := by decide +kernel
theorem dX5_multiply_55 : decode cX5_multiply 55 = .ok (.invokevirtual 41, 3) := by decide +kernel
theorem dX5_multiply_58 : decode cX5_multiply 58 = .ok (.return_, 1) := by decide +kernel
set_option maxHeartbeats 4000000 in
set_option maxRecDepth 100000 in
/-- Side.multiply -/
theorem c_X5_multiply {l : Launch} {G : tm_G} {Hb : Heap} {sh : tm_sh} {M : tm_M} {q o : Nat} (hs : isSd sh M q) (ht : isSd sh M o) (hne : o + 3 ≤ q ∨ q + 3 ≤ o) (hq : sok (sd M q)) (ho : sok (sd M o)) : Met l yX5_multiply (tws yX5_multiply cX5_multiply 2 none) ({ frames := 3, cells := 0, slots := 0, locals := 75 }) (va_Pc [.ref q, .ref o] (tm_St G Hb sh M)) (tm_Qv G Hb sh (fun M1 => M1 = sS M q (smul (sd M q) (sd M o)))) 0 0 (tm_A Hb) := by
  refine tm_begin (by decide) (Nat.le_of_ble_eq_true rfl) (fun p e s m below meth c ls hx hb hr hml hown htw hlk hnm hK hW hl => ?_)
  have hS : va_S (tm_A Hb) s.heap s.heap [] := va_S.rf
  have hl : lv_has ls 2 [(0, .ref q), (1, .ref o)] := hl
  obtain ⟨s0, s1, s2, r0, r1⟩ := hs
  obtain ⟨t0, t1, t2, u0, u1⟩ := ht
  refine lv_aload_n hx hb dX5_multiply_0 rfl (lv_at hl 0 rfl) ?_
  refine gf_X5_10 hx hb htw hown hK hW (by assumption) (by assumption) dX5_multiply_1 ?_
  refine tm_calli (cs_X5_37 hx hb hml hown htw hK hW (by assumption) (c_X0_isZero (by assumption) (fok_L hq.1).1) ⟨rfl, rfl, Nat.le_of_ble_eq_true rfl, Nat.le_of_ble_eq_true rfl⟩ hl.1 (Nat.le_of_ble_eq_true rfl) dX5_multiply_4 ⟨Nat.le_of_ble_eq_true rfl, Nat.le_of_ble_eq_true rfl⟩) hS (fun x4 M4 H locs hp4 hW hS => ?_)
  obtain ⟨ex4, eM4⟩ := hp4
  rw [eM4] at hW
  rw [ex4]
  refine ti_if_eq (tgt := 28) hx hb dX5_multiply_7 (by decide) (tl_b_r _) (fun h7 => ?_) (fun h7 => ?_)
  · have hz := tl_b_0.mp h7
    refine lv_aload_n hx hb dX5_multiply_28 rfl (lv_at hl 0 rfl) ?_
    refine gf_X5_10 hx hb htw hown hK hW (by assumption) (by assumption) dX5_multiply_29 ?_
    refine lv_aload_n hx hb dX5_multiply_32 rfl (lv_at hl 0 rfl) ?_
    refine gf_X5_10 hx hb htw hown hK hW (by assumption) (by assumption) dX5_multiply_33 ?_
    refine lv_aload_n hx hb dX5_multiply_36 rfl (lv_at hl 1 rfl) ?_
    refine gf_X5_16 hx hb htw hown hK hW (by assumption) (by assumption) dX5_multiply_37 ?_
    refine tm_callv (cs_X5_41 hx hb hml hown htw hK hW (by assumption) (v_setProduct (f := fr M (q + 1)) (g := fr M (o + 2)) (by assumption) (by assumption) (by assumption) rfl rfl hq.1 ho.2) ⟨rfl, rfl, Nat.le_of_ble_eq_true rfl, Nat.le_of_ble_eq_true rfl⟩ hl.1 (Nat.le_of_ble_eq_true rfl) dX5_multiply_40 ⟨Nat.le_of_ble_eq_true rfl, Nat.le_of_ble_eq_true rfl⟩) hS (fun M40 H locs hp40 hW hS => ?_)
    rw [hp40] at hW
    refine lv_aload_n hx hb dX5_multiply_43 rfl (lv_at hl 0 rfl) ?_
    refine gf_X5_16 hx hb htw hown hK hW (by assumption) (by assumption) dX5_multiply_44 ?_
    refine lv_aload_n hx hb dX5_multiply_47 rfl (lv_at hl 0 rfl) ?_
    refine gf_X5_16 hx hb htw hown hK hW (by assumption) (by assumption) dX5_multiply_48 ?_
    refine lv_aload_n hx hb dX5_multiply_51 rfl (lv_at hl 1 rfl) ?_
    refine gf_X5_16 hx hb htw hown hK hW (by assumption) (by assumption) dX5_multiply_52 ?_
    refine tm_callv (cs_X5_41 hx hb hml hown htw hK hW (by assumption) (v_setProduct (f := fr M (q + 2)) (g := fr M (o + 2)) (by assumption) (by assumption) (by assumption) (fr_n M _ (by omega)) (fr_n M _ (by omega)) hq.2 ho.2) ⟨rfl, rfl, Nat.le_of_ble_eq_true rfl, Nat.le_of_ble_eq_true rfl⟩ hl.1 (Nat.le_of_ble_eq_true rfl) dX5_multiply_55 ⟨Nat.le_of_ble_eq_true rfl, Nat.le_of_ble_eq_true rfl⟩) hS (fun M55 H locs hp55 hW hS => ?_)
    rw [hp55] at hW
    exact tm_vret hx hb hr hlk hK hW hS (by first | rw [show smul (sd M q) (sd M o) = (fmul (fr M (q + 2)) (fr M (o + 1)), fmul (fr M (q + 2)) (fr M (o + 2))) from by rw [smul, if_pos hz]] | rw [show smul (sd M q) (sd M o) = (fmul (fr M (q + 1)) (fr M (o + 2)), fmul (fr M (q + 2)) (fr M (o + 2))) from by rw [smul, if_neg hz]]) dX5_multiply_58
  · have hz := tl_b_n.mp h7
    refine lv_aload_n hx hb dX5_multiply_10 rfl (lv_at hl 0 rfl) ?_
    refine gf_X5_10 hx hb htw hown hK hW (by assumption) (by assumption) dX5_multiply_11 ?_
    refine lv_aload_n hx hb dX5_multiply_14 rfl (lv_at hl 0 rfl) ?_
    refine gf_X5_16 hx hb htw hown hK hW (by assumption) (by assumption) dX5_multiply_15 ?_
    refine lv_aload_n hx hb dX5_multiply_18 rfl (lv_at hl 1 rfl) ?_
    refine gf_X5_10 hx hb htw hown hK hW (by assumption) (by assumption) dX5_multiply_19 ?_
    refine tm_callv (cs_X5_41 hx hb hml hown htw hK hW (by assumption) (v_setProduct (f := fr M (q + 2)) (g := fr M (o + 1)) (by assumption) (by assumption) (by assumption) rfl rfl hq.2 ho.1) ⟨rfl, rfl, Nat.le_of_ble_eq_true rfl, Nat.le_of_ble_eq_true rfl⟩ hl.1 (Nat.le_of_ble_eq_true rfl) dX5_multiply_22 ⟨Nat.le_of_ble_eq_true rfl, Nat.le_of_ble_eq_true rfl⟩) hS (fun M22 H locs hp22 hW hS => ?_)
    rw [hp22] at hW
    refine lv_goto (tgt := 43) hx hb dX5_multiply_25 (by decide) ?_
    refine lv_aload_n hx hb dX5_multiply_43 rfl (lv_at hl 0 rfl) ?_
    refine gf_X5_16 hx hb htw hown hK hW (by assumption) (by assumption) dX5_multiply_44 ?_
    refine lv_aload_n hx hb dX5_multiply_47 rfl (lv_at hl 0 rfl) ?_
    refine gf_X5_16 hx hb htw hown hK hW (by assumption) (by assumption) dX5_multiply_48 ?_
    refine lv_aload_n hx hb dX5_multiply_51 rfl (lv_at hl 1 rfl) ?_
    refine gf_X5_16 hx hb htw hown hK hW (by assumption) (by assumption) dX5_multiply_52 ?_
    refine tm_callv (cs_X5_41 hx hb hml hown htw hK hW (by assumption) (v_setProduct (f := fr M (q + 2)) (g := fr M (o + 2)) (by assumption) (by assumption) (by assumption) (fr_n M _ (by omega)) (fr_n M _ (by omega)) hq.2 ho.2) ⟨rfl, rfl, Nat.le_of_ble_eq_true rfl, Nat.le_of_ble_eq_true rfl⟩ hl.1 (Nat.le_of_ble_eq_true rfl) dX5_multiply_55 ⟨Nat.le_of_ble_eq_true rfl, Nat.le_of_ble_eq_true rfl⟩) hS (fun M55 H locs hp55 hW hS => ?_)
    rw [hp55] at hW
    exact tm_vret hx hb hr hlk hK hW hS (by first | rw [show smul (sd M q) (sd M o) = (fmul (fr M (q + 2)) (fr M (o + 1)), fmul (fr M (q + 2)) (fr M (o + 2))) from by rw [smul, if_pos hz]] | rw [show smul (sd M q) (sd M o) = (fmul (fr M (q + 1)) (fr M (o + 2)), fmul (fr M (q + 2)) (fr M (o + 2))) from by rw [smul, if_neg hz]]) dX5_multiply_58
theorem dX5_divide_0 : decode cX5_divide 0 = .ok (.aload_n 0, 1) := by decide +kernel
theorem dX5_divide_1 : decode cX5_divide 1 = .ok (.getfield 10, 3) := by decide +kernel
theorem dX5_divide_4 : decode cX5_divide 4 = .ok (.aload_n 0, 1) := by decide +kernel
theorem dX5_divide_5 : decode cX5_divide 5 = .ok (.getfield 10, 3) := by decide +kernel
theorem dX5_divide_8 : decode cX5_divide 8 = .ok (.aload_n 1, 1) := by decide +kernel
theorem dX5_divide_9 : decode cX5_divide 9 = .ok (.invokevirtual 44, 3) := by decide +kernel
theorem dX5_divide_12 : decode cX5_divide 12 = .ok (.aload_n 0, 1) := by decide +kernel
theorem dX5_divide_13 : decode cX5_divide 13 = .ok (.getfield 16, 3) := by decide +kernel
theorem dX5_divide_16 : decode cX5_divide 16 = .ok (.aload_n 0, 1) := by decide +kernel
theorem dX5_divide_17 : decode cX5_divide 17 = .ok (.getfield 16, 3) := by decide +kernel
theorem dX5_divide_20 : decode cX5_divide 20 = .ok (.aload_n 1, 1) := by decide +kernel
theorem dX5_divide_21 : decode cX5_divide 21 = .ok (.invokevirtual 44, 3) := by decide +kernel
theorem dX5_divide_24 : decode cX5_divide 24 = .ok (.return_, 1) := by decide +kernel
set_option maxHeartbeats 4000000 in
set_option maxRecDepth 100000 in
/-- Side.divide -/
theorem c_X5_divide {l : Launch} {G : tm_G} {Hb : Heap} {sh : tm_sh} {M : tm_M} {q o : Nat} (hs : isSd sh M q) (ht : sh o = some (2, 0)) (hne : o ≠ q + 1) (hq : sok (sd M q)) (ho : fok (fr M o)) (hz : (fr M o).1 ≠ 0) : Met l yX5_divide (tws yX5_divide cX5_divide 2 none) ({ frames := 3, cells := 0, slots := 0, locals := 75 }) (va_Pc [.ref q, .ref o] (tm_St G Hb sh M)) (tm_Qv G Hb sh (fun M1 => M1 = sS M q (sdiv (sd M q) (fr M o)))) 0 0 (tm_A Hb) := by
  refine tm_begin (by decide) (Nat.le_of_ble_eq_true rfl) (fun p e s m below meth c ls hx hb hr hml hown htw hlk hnm hK hW hl => ?_)
  have hS : va_S (tm_A Hb) s.heap s.heap [] := va_S.rf
  have hl : lv_has ls 2 [(0, .ref q), (1, .ref o)] := hl
  obtain ⟨s0, s1, s2, r0, r1⟩ := hs
  refine lv_aload_n hx hb dX5_divide_0 rfl (lv_at hl 0 rfl) ?_
  refine gf_X5_10 hx hb htw hown hK hW (by assumption) (by assumption) dX5_divide_1 ?_
  refine lv_aload_n hx hb dX5_divide_4 rfl (lv_at hl 0 rfl) ?_
  refine gf_X5_10 hx hb htw hown hK hW (by assumption) (by assumption) dX5_divide_5 ?_
  refine lv_aload_n hx hb dX5_divide_8 rfl (lv_at hl 1 rfl) ?_
  refine tm_callv (cs_X5_44 hx hb hml hown htw hK hW (by assumption) (v_setQuotient (f := fr M (q + 1)) (g := fr M o) (by assumption) (by assumption) (by assumption) rfl rfl hq.1 ho hz) ⟨rfl, rfl, Nat.le_of_ble_eq_true rfl, Nat.le_of_ble_eq_true rfl⟩ hl.1 (Nat.le_of_ble_eq_true rfl) dX5_divide_9 ⟨Nat.le_of_ble_eq_true rfl, Nat.le_of_ble_eq_true rfl⟩) hS (fun M9 H locs hp9 hW hS => ?_)
  rw [hp9] at hW
  refine lv_aload_n hx hb dX5_divide_12 rfl (lv_at hl 0 rfl) ?_
  refine gf_X5_16 hx hb htw hown hK hW (by assumption) (by assumption) dX5_divide_13 ?_
  refine lv_aload_n hx hb dX5_divide_16 rfl (lv_at hl 0 rfl) ?_
  refine gf_X5_16 hx hb htw hown hK hW (by assumption) (by assumption) dX5_divide_17 ?_
  refine lv_aload_n hx hb dX5_divide_20 rfl (lv_at hl 1 rfl) ?_
  refine tm_callv (cs_X5_44 hx hb hml hown htw hK hW (by assumption) (v_setQuotient (f := fr M (q + 2)) (g := fr M o) (by assumption) (by assumption) (by assumption) (fr_n M _ (by omega)) (fr_n M _ hne) hq.2 ho hz) ⟨rfl, rfl, Nat.le_of_ble_eq_true rfl, Nat.le_of_ble_eq_true rfl⟩ hl.1 (Nat.le_of_ble_eq_true rfl) dX5_divide_21 ⟨Nat.le_of_ble_eq_true rfl, Nat.le_of_ble_eq_true rfl⟩) hS (fun M21 H locs hp21 hW hS => ?_)
  rw [hp21] at hW
  exact tm_vret hx hb hr hlk hK hW hS rfl dX5_divide_24
theorem dX5_sameAs_0 : decode cX5_sameAs 0 = .ok (.aload_n 0, 1) := by decide +kernel
theorem dX5_sameAs_1 : decode cX5_sameAs 1 = .ok (.getfield 10, 3) := by decide +kernel
theorem dX5_sameAs_4 : decode cX5_sameAs 4 = .ok (.aload_n 1, 1) := by decide +kernel
theorem dX5_sameAs_5 : decode cX5_sameAs 5 = .ok (.getfield 10, 3) := by decide +kernel
theorem dX5_sameAs_8 : decode cX5_sameAs 8 = .ok (.invokevirtual 47, 3) := by decide +kernel
theorem dX5_sameAs_11 : decode cX5_sameAs 11 = .ok (.ifCond .eq 21, 3) := by decide +kernel
theorem dX5_sameAs_14 : decode cX5_sameAs 14 = .ok (.aload_n 0, 1) := by decide +kernel
theorem dX5_sameAs_15 : decode cX5_sameAs 15 = .ok (.getfield 16, 3) := by decide +kernel
theorem dX5_sameAs_18 : decode cX5_sameAs 18 = .ok (.aload_n 1, 1) := by decide +kernel
theorem dX5_sameAs_19 : decode cX5_sameAs 19 = .ok (.getfield 16, 3) := by decide +kernel
theorem dX5_sameAs_22 : decode cX5_sameAs 22 = .ok (.invokevirtual 47, 3) := by decide +kernel
theorem dX5_sameAs_25 : decode cX5_sameAs 25 = .ok (.ifCond .eq 7, 3) := by decide +kernel
theorem dX5_sameAs_28 : decode cX5_sameAs 28 = .ok (.iconst 1, 1) := by decide +kernel
theorem dX5_sameAs_29 : decode cX5_sameAs 29 = .ok (.goto 4, 3) := by decide +kernel
theorem dX5_sameAs_32 : decode cX5_sameAs 32 = .ok (.iconst 0, 1) := by decide +kernel
theorem dX5_sameAs_33 : decode cX5_sameAs 33 = .ok (.ireturn, 1) := by decide +kernel
set_option maxHeartbeats 4000000 in
set_option maxRecDepth 100000 in
/-- Side.sameAs -/
theorem c_X5_sameAs {l : Launch} {G : tm_G} {Hb : Heap} {sh : tm_sh} {M : tm_M} {q o : Nat} (hs : isSd sh M q) (ht : isSd sh M o) (hq : fLok (fr M (q + 1)) ∧ fLok (fr M (q + 2))) (ho : fLok (fr M (o + 1)) ∧ fLok (fr M (o + 2))) : Met l yX5_sameAs (tws yX5_sameAs cX5_sameAs 2 (some .boolean)) ({ frames := 1, cells := 0, slots := 0, locals := 21 }) (va_Pc [.ref q, .ref o] (tm_St G Hb sh M)) (tm_Qi G Hb sh (fun x M1 => x = tl_b (sd M q = sd M o) ∧ M1 = M)) 0 0 (tm_A Hb) := by
  refine tm_begin (by decide) (Nat.le_of_ble_eq_true rfl) (fun p e s m below meth c ls hx hb hr hml hown htw hlk hnm hK hW hl => ?_)
  have hS : va_S (tm_A Hb) s.heap s.heap [] := va_S.rf
  have hl : lv_has ls 2 [(0, .ref q), (1, .ref o)] := hl
  obtain ⟨s0, s1, s2, r0, r1⟩ := hs
  obtain ⟨t0, t1, t2, u0, u1⟩ := ht
  refine lv_aload_n hx hb dX5_sameAs_0 rfl (lv_at hl 0 rfl) ?_
  refine gf_X5_10 hx hb htw hown hK hW (by assumption) (by assumption) dX5_sameAs_1 ?_
  refine lv_aload_n hx hb dX5_sameAs_4 rfl (lv_at hl 1 rfl) ?_
  refine gf_X5_10 hx hb htw hown hK hW (by assumption) (by assumption) dX5_sameAs_5 ?_
  refine tm_calli (cs_X5_47 hx hb hml hown htw hK hW (by assumption) (c_X0_sameAs (by assumption) (by assumption) hq.1 ho.1) ⟨rfl, rfl, Nat.le_of_ble_eq_true rfl, Nat.le_of_ble_eq_true rfl⟩ hl.1 (Nat.le_of_ble_eq_true rfl) dX5_sameAs_8 ⟨Nat.le_of_ble_eq_true rfl, Nat.le_of_ble_eq_true rfl⟩) hS (fun x8 M8 H locs hp8 hW hS => ?_)
  obtain ⟨ex8, eM8⟩ := hp8
  rw [eM8] at hW
  rw [ex8]
  refine ti_if_eq (tgt := 32) hx hb dX5_sameAs_11 (by decide) (tl_b_r _) (fun h11 => ?_) (fun h11 => ?_)
  · have hz3 : ¬ sd M q = sd M o := fun z => by first | exact tl_b_0.mp h11 (congrArg Prod.fst z) | exact tl_b_0.mp h25 (congrArg Prod.snd z)
    refine ti_iconst hx hb dX5_sameAs_32 ?_
    exact tm_zret hx hb hr hlk (by first | exact Or.inl rfl | exact Or.inr rfl | assumption) hK hW hS ⟨by first | exact tl_b_f hz3 | exact tl_b_t (Prod.ext hz hz2), rfl⟩ dX5_sameAs_33
  · have hz := tl_b_n.mp h11
    refine lv_aload_n hx hb dX5_sameAs_14 rfl (lv_at hl 0 rfl) ?_
    refine gf_X5_16 hx hb htw hown hK hW (by assumption) (by assumption) dX5_sameAs_15 ?_
    refine lv_aload_n hx hb dX5_sameAs_18 rfl (lv_at hl 1 rfl) ?_
    refine gf_X5_16 hx hb htw hown hK hW (by assumption) (by assumption) dX5_sameAs_19 ?_
    refine tm_calli (cs_X5_47 hx hb hml hown htw hK hW (by assumption) (c_X0_sameAs (by assumption) (by assumption) hq.2 ho.2) ⟨rfl, rfl, Nat.le_of_ble_eq_true rfl, Nat.le_of_ble_eq_true rfl⟩ hl.1 (Nat.le_of_ble_eq_true rfl) dX5_sameAs_22 ⟨Nat.le_of_ble_eq_true rfl, Nat.le_of_ble_eq_true rfl⟩) hS (fun x22 M22 H locs hp22 hW hS => ?_)
    obtain ⟨ex22, eM22⟩ := hp22
    rw [eM22] at hW
    rw [ex22]
    refine ti_if_eq (tgt := 32) hx hb dX5_sameAs_25 (by decide) (tl_b_r _) (fun h25 => ?_) (fun h25 => ?_)
    · have hz3 : ¬ sd M q = sd M o := fun z => by first | exact tl_b_0.mp h11 (congrArg Prod.fst z) | exact tl_b_0.mp h25 (congrArg Prod.snd z)
      refine ti_iconst hx hb dX5_sameAs_32 ?_
      exact tm_zret hx hb hr hlk (by first | exact Or.inl rfl | exact Or.inr rfl | assumption) hK hW hS ⟨by first | exact tl_b_f hz3 | exact tl_b_t (Prod.ext hz hz2), rfl⟩ dX5_sameAs_33
    · have hz2 := tl_b_n.mp h25
      refine ti_iconst hx hb dX5_sameAs_28 ?_
      refine lv_goto (tgt := 33) hx hb dX5_sameAs_29 (by decide) ?_
      exact tm_zret hx hb hr hlk (by first | exact Or.inl rfl | exact Or.inr rfl | assumption) hK hW hS ⟨by first | exact tl_b_f hz3 | exact tl_b_t (Prod.ext hz hz2), rfl⟩ dX5_sameAs_33
theorem dX5_fits_0 : decode cX5_fits 0 = .ok (.aload_n 0, 1) := by decide +kernel
theorem dX5_fits_1 : decode cX5_fits 1 = .ok (.getfield 10, 3) := by decide +kernel
theorem dX5_fits_4 : decode cX5_fits 4 = .ok (.invokevirtual 51, 3) := by decide +kernel
theorem dX5_fits_7 : decode cX5_fits 7 = .ok (.ifCond .eq 17, 3) := by decide +kernel
theorem dX5_fits_10 : decode cX5_fits 10 = .ok (.aload_n 0, 1) := by decide +kernel
theorem dX5_fits_11 : decode cX5_fits 11 = .ok (.getfield 16, 3) := by decide +kernel
theorem dX5_fits_14 : decode cX5_fits 14 = .ok (.invokevirtual 51, 3) := by decide +kernel
theorem dX5_fits_17 : decode cX5_fits 17 = .ok (.ifCond .eq 7, 3) := by decide +kernel
theorem dX5_fits_20 : decode cX5_fits 20 = .ok (.iconst 1, 1) := by decide +kernel
theorem dX5_fits_21 : decode cX5_fits 21 = .ok (.goto 4, 3) := by decide +kernel
theorem dX5_fits_24 : decode cX5_fits 24 = .ok (.iconst 0, 1) := by decide +kernel
theorem dX5_fits_25 : decode cX5_fits 25 = .ok (.ireturn, 1) := by decide +kernel
set_option maxHeartbeats 4000000 in
set_option maxRecDepth 100000 in
/-- Side.fits -/
theorem c_X5_fits {l : Launch} {G : tm_G} {Hb : Heap} {sh : tm_sh} {M : tm_M} {q : Nat} (hs : isSd sh M q) (hq : fLok (fr M (q + 1)) ∧ fLok (fr M (q + 2))) : Met l yX5_fits (tws yX5_fits cX5_fits 1 (some .boolean)) ({ frames := 1, cells := 0, slots := 0, locals := 20 }) (va_Pc [.ref q] (tm_St G Hb sh M)) (tm_Qi G Hb sh (fun x M1 => x = tl_b (ffit (fr M (q + 1)) ∧ ffit (fr M (q + 2))) ∧ M1 = M)) 0 0 (tm_A Hb) := by
  refine tm_begin (by decide) (Nat.le_of_ble_eq_true rfl) (fun p e s m below meth c ls hx hb hr hml hown htw hlk hnm hK hW hl => ?_)
  have hS : va_S (tm_A Hb) s.heap s.heap [] := va_S.rf
  have hl : lv_has ls 1 [(0, .ref q)] := hl
  obtain ⟨s0, s1, s2, r0, r1⟩ := hs
  refine lv_aload_n hx hb dX5_fits_0 rfl (lv_at hl 0 rfl) ?_
  refine gf_X5_10 hx hb htw hown hK hW (by assumption) (by assumption) dX5_fits_1 ?_
  refine tm_calli (cs_X5_51 hx hb hml hown htw hK hW (by assumption) (c_X0_fits (by assumption) hq.1) ⟨rfl, rfl, Nat.le_of_ble_eq_true rfl, Nat.le_of_ble_eq_true rfl⟩ hl.1 (Nat.le_of_ble_eq_true rfl) dX5_fits_4 ⟨Nat.le_of_ble_eq_true rfl, Nat.le_of_ble_eq_true rfl⟩) hS (fun x4 M4 H locs hp4 hW hS => ?_)
  obtain ⟨ex4, eM4⟩ := hp4
  rw [eM4] at hW
  rw [ex4]
  refine ti_if_eq (tgt := 24) hx hb dX5_fits_7 (by decide) (tl_b_r _) (fun h7 => ?_) (fun h7 => ?_)
  · have hz3 : ¬ (ffit (fr M (q + 1)) ∧ ffit (fr M (q + 2))) := fun z => by first | exact tl_b_0.mp h7 z.1 | exact tl_b_0.mp h17 z.2
    refine ti_iconst hx hb dX5_fits_24 ?_
    exact tm_zret hx hb hr hlk (by first | exact Or.inl rfl | exact Or.inr rfl | assumption) hK hW hS ⟨by first | exact tl_b_f hz3 | exact tl_b_t ⟨hz, hz2⟩, rfl⟩ dX5_fits_25
  · have hz := tl_b_n.mp h7
    refine lv_aload_n hx hb dX5_fits_10 rfl (lv_at hl 0 rfl) ?_
    refine gf_X5_16 hx hb htw hown hK hW (by assumption) (by assumption) dX5_fits_11 ?_
    refine tm_calli (cs_X5_51 hx hb hml hown htw hK hW (by assumption) (c_X0_fits (by assumption) hq.2) ⟨rfl, rfl, Nat.le_of_ble_eq_true rfl, Nat.le_of_ble_eq_true rfl⟩ hl.1 (Nat.le_of_ble_eq_true rfl) dX5_fits_14 ⟨Nat.le_of_ble_eq_true rfl, Nat.le_of_ble_eq_true rfl⟩) hS (fun x14 M14 H locs hp14 hW hS => ?_)
    obtain ⟨ex14, eM14⟩ := hp14
    rw [eM14] at hW
    rw [ex14]
    refine ti_if_eq (tgt := 24) hx hb dX5_fits_17 (by decide) (tl_b_r _) (fun h17 => ?_) (fun h17 => ?_)
    · have hz3 : ¬ (ffit (fr M (q + 1)) ∧ ffit (fr M (q + 2))) := fun z => by first | exact tl_b_0.mp h7 z.1 | exact tl_b_0.mp h17 z.2
      refine ti_iconst hx hb dX5_fits_24 ?_
      exact tm_zret hx hb hr hlk (by first | exact Or.inl rfl | exact Or.inr rfl | assumption) hK hW hS ⟨by first | exact tl_b_f hz3 | exact tl_b_t ⟨hz, hz2⟩, rfl⟩ dX5_fits_25
    · have hz2 := tl_b_n.mp h17
      refine ti_iconst hx hb dX5_fits_20 ?_
      refine lv_goto (tgt := 25) hx hb dX5_fits_21 (by decide) ?_
      exact tm_zret hx hb hr hlk (by first | exact Or.inl rfl | exact Or.inr rfl | assumption) hK hW hS ⟨by first | exact tl_b_f hz3 | exact tl_b_t ⟨hz, hz2⟩, rfl⟩ dX5_fits_25
abbrev tl_L : Type := tl_S × tl_S × Int
def isLn (sh : tm_sh) (M : tm_M) (q : Nat) : Prop := sh q = some (3, 0) ∧ mR M q 0 = some (q + 1) ∧ mR M q 1 = some (q + 4) ∧ isSd sh M (q + 1) ∧ isSd sh M (q + 4)
abbrev ln (M : tm_M) (q : Nat) : tl_L := (sd M (q + 1), sd M (q + 4), mI M q 2)
abbrev lS (M : tm_M) (q : Nat) (v : tl_L) : tm_M := sI (sS (sS M (q + 1) v.1) (q + 4) v.2.1) q 2 v.2.2
/-- sides apart from what was written -/
theorem fr_sS (M : tm_M) {q a : Nat} (v : tl_S) (h : a ≠ q + 1) (h2 : a ≠ q + 2) : fr (sS M q v) a = fr M a := (fr_n _ _ h2).trans (fr_n _ _ h)
theorem sd_sS (M : tm_M) {q o : Nat} (v : tl_S) (h : o + 3 ≤ q ∨ q + 3 ≤ o) : sd (sS M q v) o = sd M o := by
  show (fr (sS M q v) (o + 1), fr (sS M q v) (o + 2)) = _
  rw [fr_sS M v (by omega) (by omega), fr_sS M v (by omega) (by omega)]
theorem sd_self (M : tm_M) (q : Nat) (v : tl_S) : sd (sS M q v) q = v := by
  show (fr (sS M q v) (q + 1), fr (sS M q v) (q + 2)) = v
  rw [show fr (sS M q v) (q + 1) = v.1 from (fr_n _ _ (by omega)).trans (fr_s _ _ _), show fr (sS M q v) (q + 2) = v.2 from fr_s _ _ _]
theorem ln_self (M : tm_M) (q : Nat) (v : tl_L) : ln (lS M q v) q = v := by
  show (sd (sS (sS M (q + 1) v.1) (q + 4) v.2.1) (q + 1), sd (sS (sS M (q + 1) v.1) (q + 4) v.2.1) (q + 4), mI (lS M q v) q 2) = v
  rw [sd_self, sd_sS _ _ (by omega), sd_self, show mI (lS M q v) q 2 = v.2.2 from tm_up_s _ _ _ _]
theorem ln_n (M : tm_M) {q o : Nat} (v : tl_L) (h : o + 7 ≤ q ∨ q + 7 ≤ o) : ln (lS M q v) o = ln M o := by
  show (sd (sS (sS M (q + 1) v.1) (q + 4) v.2.1) (o + 1), sd (sS (sS M (q + 1) v.1) (q + 4) v.2.1) (o + 4), mI (lS M q v) o 2) = _
  rw [sd_sS _ _ (by omega), sd_sS _ _ (by omega), sd_sS _ _ (by omega), sd_sS _ _ (by omega), show mI (lS M q v) o 2 = mI M o 2 from tm_up_a _ _ (by omega)]
theorem dX1_copy_0 : decode cX1_copy 0 = .ok (.aload_n 0, 1) := by decide +kernel
theorem dX1_copy_1 : decode cX1_copy 1 = .ok (.getfield 10, 3) := by decide +kernel
theorem dX1_copy_4 : decode cX1_copy 4 = .ok (.aload_n 1, 1) := by decide +kernel
theorem dX1_copy_5 : decode cX1_copy 5 = .ok (.getfield 10, 3) := by decide +kernel
theorem dX1_copy_8 : decode cX1_copy 8 = .ok (.invokevirtual 19, 3) := by decide +kernel
theorem dX1_copy_11 : decode cX1_copy 11 = .ok (.aload_n 0, 1) := by decide +kernel
theorem dX1_copy_12 : decode cX1_copy 12 = .ok (.getfield 16, 3) := by decide +kernel
theorem dX1_copy_15 : decode cX1_copy 15 = .ok (.aload_n 1, 1) := by decide +kernel
theorem dX1_copy_16 : decode cX1_copy 16 = .ok (.getfield 16, 3) := by decide +kernel
theorem dX1_copy_19 : decode cX1_copy 19 = .ok (.invokevirtual 19, 3) := by decide +kernel
theorem dX1_copy_22 : decode cX1_copy 22 = .ok (.aload_n 0, 1) := by decide +kernel
theorem dX1_copy_23 : decode cX1_copy 23 = .ok (.aload_n 1, 1) := by decide +kernel
theorem dX1_copy_24 : decode cX1_copy 24 = .ok (.getfield 23, 3) := by decide +kernel
theorem dX1_copy_27 : decode cX1_copy 27 = .ok (.putfield 23, 3) := by decide +kernel
theorem dX1_copy_30 : decode cX1_copy 30 = .ok (.return_, 1) := by decide +kernel
set_option maxHeartbeats 4000000 in
set_option maxRecDepth 100000 in
/-- Line.copy -/
theorem c_X1_copy {l : Launch} {G : tm_G} {Hb : Heap} {sh : tm_sh} {M : tm_M} {q o : Nat} (hs : isLn sh M q) (ht : isLn sh M o) (hne : o + 7 ≤ q ∨ q + 7 ≤ o) : Met l yX1_copy (tws yX1_copy cX1_copy 2 none) ({ frames := 2, cells := 0, slots := 0, locals := 42 }) (va_Pc [.ref q, .ref o] (tm_St G Hb sh M)) (tm_Qv G Hb sh (fun M1 => M1 = lS M q (ln M o))) 0 0 (tm_A Hb) := by
  refine tm_begin (by decide) (Nat.le_of_ble_eq_true rfl) (fun p e s m below meth c ls hx hb hr hml hown htw hlk hnm hK hW hl => ?_)
  have hS : va_S (tm_A Hb) s.heap s.heap [] := va_S.rf
  have hl : lv_has ls 2 [(0, .ref q), (1, .ref o)] := hl
  obtain ⟨l0, l1, l2, l3, l4⟩ := hs
  obtain ⟨k0, k1, k2, k3, k4⟩ := ht
  have l30 := l3.1
  have l40 := l4.1
  have k30 := k3.1
  have k40 := k4.1
  refine lv_aload_n hx hb dX1_copy_0 rfl (lv_at hl 0 rfl) ?_
  refine gf_X1_10 hx hb htw hown hK hW (by assumption) (by assumption) dX1_copy_1 ?_
  refine lv_aload_n hx hb dX1_copy_4 rfl (lv_at hl 1 rfl) ?_
  refine gf_X1_10 hx hb htw hown hK hW (by assumption) (by assumption) dX1_copy_5 ?_
  refine tm_callv (cs_X1_19 hx hb hml hown htw hK hW (by assumption) (c_X5_copy l3 k3 (by omega)) ⟨rfl, rfl, Nat.le_of_ble_eq_true rfl, Nat.le_of_ble_eq_true rfl⟩ hl.1 (Nat.le_of_ble_eq_true rfl) dX1_copy_8 ⟨Nat.le_of_ble_eq_true rfl, Nat.le_of_ble_eq_true rfl⟩) hS (fun M8 H locs hp8 hW hS => ?_)
  rw [hp8] at hW
  refine lv_aload_n hx hb dX1_copy_11 rfl (lv_at hl 0 rfl) ?_
  refine gf_X1_16 hx hb htw hown hK hW (by assumption) (by assumption) dX1_copy_12 ?_
  refine lv_aload_n hx hb dX1_copy_15 rfl (lv_at hl 1 rfl) ?_
  refine gf_X1_16 hx hb htw hown hK hW (by assumption) (by assumption) dX1_copy_16 ?_
  refine tm_callv (cs_X1_19 hx hb hml hown htw hK hW (by assumption) (c_X5_copy l4 k4 (by omega)) ⟨rfl, rfl, Nat.le_of_ble_eq_true rfl, Nat.le_of_ble_eq_true rfl⟩ hl.1 (Nat.le_of_ble_eq_true rfl) dX1_copy_19 ⟨Nat.le_of_ble_eq_true rfl, Nat.le_of_ble_eq_true rfl⟩) hS (fun M19 H locs hp19 hW hS => ?_)
  rw [hp19] at hW
  rw [sd_sS M _ (by omega)] at hW
  refine lv_aload_n hx hb dX1_copy_22 rfl (lv_at hl 0 rfl) ?_
  refine lv_aload_n hx hb dX1_copy_23 rfl (lv_at hl 1 rfl) ?_
  refine gf_X1_23 hx hb htw hown hK hW (by assumption) dX1_copy_24 ?_
  refine pf_X1_23 hx hb htw hown hK hW (by assumption) hS dX1_copy_27 (fun H locs hW hS => ?_)
  exact tm_vret hx hb hr hlk hK hW hS rfl dX1_copy_30
theorem dX1_turnRelation_0 : decode cX1_turnRelation 0 = .ok (.aload_n 0, 1) := by decide +kernel
theorem dX1_turnRelation_1 : decode cX1_turnRelation 1 = .ok (.getfield 23, 3) := by decide +kernel
theorem dX1_turnRelation_4 : decode cX1_turnRelation 4 = .ok (.ifCond .eq 20, 3) := by decide +kernel
theorem dX1_turnRelation_7 : decode cX1_turnRelation 7 = .ok (.aload_n 0, 1) := by decide +kernel
theorem dX1_turnRelation_8 : decode cX1_turnRelation 8 = .ok (.aload_n 0, 1) := by decide +kernel
theorem dX1_turnRelation_9 : decode cX1_turnRelation 9 = .ok (.getfield 23, 3) := by decide +kernel
theorem dX1_turnRelation_12 : decode cX1_turnRelation 12 = .ok (.iconst 1, 1) := by decide +kernel
theorem dX1_turnRelation_13 : decode cX1_turnRelation 13 = .ok (.if_icmp .ne 7, 3) := by decide +kernel
theorem dX1_turnRelation_16 : decode cX1_turnRelation 16 = .ok (.iconst 2, 1) := by decide +kernel
theorem dX1_turnRelation_17 : decode cX1_turnRelation 17 = .ok (.goto 4, 3) := by decide +kernel
theorem dX1_turnRelation_20 : decode cX1_turnRelation 20 = .ok (.iconst 1, 1) := by decide +kernel
theorem dX1_turnRelation_21 : decode cX1_turnRelation 21 = .ok (.putfield 23, 3) := by decide +kernel
theorem dX1_turnRelation_24 : decode cX1_turnRelation 24 = .ok (.return_, 1) := by decide +kernel
set_option maxHeartbeats 4000000 in
set_option maxRecDepth 100000 in
/-- Line.turnRelation -/
theorem c_X1_turnRelation {l : Launch} {G : tm_G} {Hb : Heap} {sh : tm_sh} {M : tm_M} {q : Nat} (hs : isLn sh M q) (hr1 : 0 ≤ mI M q 2 ∧ mI M q 2 ≤ 2) : Met l yX1_turnRelation (tws yX1_turnRelation cX1_turnRelation 1 none) ({ frames := 0, cells := 0, slots := 0, locals := 0 }) (va_Pc [.ref q] (tm_St G Hb sh M)) (tm_Qv G Hb sh (fun M1 => M1 = if mI M q 2 = 0 then M else sI M q 2 (3 - mI M q 2))) 0 0 (tm_A Hb) := by
  refine tm_begin (by decide) (Nat.le_of_ble_eq_true rfl) (fun p e s m below meth c ls hx hb hr hml hown htw hlk hnm hK hW hl => ?_)
  have hS : va_S (tm_A Hb) s.heap s.heap [] := va_S.rf
  have hl : lv_has ls 1 [(0, .ref q)] := hl
  obtain ⟨l0, l1, l2, l3, l4⟩ := hs
  refine lv_aload_n hx hb dX1_turnRelation_0 rfl (lv_at hl 0 rfl) ?_
  refine gf_X1_23 hx hb htw hown hK hW (by assumption) dX1_turnRelation_1 ?_
  refine ti_if_eq (tgt := 24) hx hb dX1_turnRelation_4 (by decide) (by omega) (fun h4 => ?_) (fun h4 => ?_)
  · exact tm_vret hx hb hr hlk hK hW hS (by first | rw [if_pos h4] | rw [if_neg h4, show (3 - mI M q 2) = 2 by omega] | rw [if_neg h4, show (3 - mI M q 2) = 1 by omega]) dX1_turnRelation_24
  · refine lv_aload_n hx hb dX1_turnRelation_7 rfl (lv_at hl 0 rfl) ?_
    refine lv_aload_n hx hb dX1_turnRelation_8 rfl (lv_at hl 0 rfl) ?_
    refine gf_X1_23 hx hb htw hown hK hW (by assumption) dX1_turnRelation_9 ?_
    refine ti_iconst hx hb dX1_turnRelation_12 ?_
    refine ti_icmp_ne (tgt := 20) hx hb dX1_turnRelation_13 (by decide) (by omega) (by omega) (fun h13 => ?_) (fun h13 => ?_)
    · refine ti_iconst hx hb dX1_turnRelation_20 ?_
      refine pf_X1_23 hx hb htw hown hK hW (by assumption) hS dX1_turnRelation_21 (fun H locs hW hS => ?_)
      exact tm_vret hx hb hr hlk hK hW hS (by first | rw [if_pos h4] | rw [if_neg h4, show (3 - mI M q 2) = 2 by omega] | rw [if_neg h4, show (3 - mI M q 2) = 1 by omega]) dX1_turnRelation_24
    · refine ti_iconst hx hb dX1_turnRelation_16 ?_
      refine lv_goto (tgt := 21) hx hb dX1_turnRelation_17 (by decide) ?_
      refine pf_X1_23 hx hb htw hown hK hW (by assumption) hS dX1_turnRelation_21 (fun H locs hW hS => ?_)
      exact tm_vret hx hb hr hlk hK hW hS (by first | rw [if_pos h4] | rw [if_neg h4, show (3 - mI M q 2) = 2 by omega] | rw [if_neg h4, show (3 - mI M q 2) = 1 by omega]) dX1_turnRelation_24
theorem dX1_sameAs_0 : decode cX1_sameAs 0 = .ok (.aload_n 0, 1) := by decide +kernel
theorem dX1_sameAs_1 : decode cX1_sameAs 1 = .ok (.getfield 23, 3) := by decide +kernel
theorem dX1_sameAs_4 : decode cX1_sameAs 4 = .ok (.aload_n 1, 1) := by decide +kernel
theorem dX1_sameAs_5 : decode cX1_sameAs 5 = .ok (.getfield 23, 3) := by decide +kernel
theorem dX1_sameAs_8 : decode cX1_sameAs 8 = .ok (.if_icmp .ne 35, 3) := by decide +kernel
theorem dX1_sameAs_11 : decode cX1_sameAs 11 = .ok (.aload_n 0, 1) := by decide +kernel
theorem dX1_sameAs_12 : decode cX1_sameAs 12 = .ok (.getfield 10, 3) := by decide +kernel
theorem dX1_sameAs_15 : decode cX1_sameAs 15 = .ok (.aload_n 1, 1) := by decide +kernel
theorem dX1_sameAs_16 : decode cX1_sameAs 16 = .ok (.getfield 10, 3) := by decide +kernel
theorem dX1_sameAs_19 : decode cX1_sameAs 19 = .ok (.invokevirtual 27, 3) := by decide +kernel
theorem dX1_sameAs_22 : decode cX1_sameAs 22 = .ok (.ifCond .eq 21, 3) := by decide +kernel
theorem dX1_sameAs_25 : decode cX1_sameAs 25 = .ok (.aload_n 0, 1) := by decide +kernel
theorem dX1_sameAs_26 : decode cX1_sameAs 26 = .ok (.getfield 16, 3) := by decide +kernel
theorem dX1_sameAs_29 : decode cX1_sameAs 29 = .ok (.aload_n 1, 1) := by decide +kernel
theorem dX1_sameAs_30 : decode cX1_sameAs 30 = .ok (.getfield 16, 3) := by decide +kernel
theorem dX1_sameAs_33 : decode cX1_sameAs 33 = .ok (.invokevirtual 27, 3) := by decide +kernel
theorem dX1_sameAs_36 : decode cX1_sameAs 36 = .ok (.ifCond .eq 7, 3) := by decide +kernel
theorem dX1_sameAs_39 : decode cX1_sameAs 39 = .ok (.iconst 1, 1) := by decide +kernel
theorem dX1_sameAs_40 : decode cX1_sameAs 40 = .ok (.goto 4, 3) := by decide +kernel
theorem dX1_sameAs_43 : decode cX1_sameAs 43 = .ok (.iconst 0, 1) := by decide +kernel
theorem dX1_sameAs_44 : decode cX1_sameAs 44 = .ok (.ireturn, 1) := by decide +kernel
set_option maxHeartbeats 4000000 in
set_option maxRecDepth 100000 in
/-- Line.sameAs -/
theorem c_X1_sameAs {l : Launch} {G : tm_G} {Hb : Heap} {sh : tm_sh} {M : tm_M} {q o : Nat} (hs : isLn sh M q) (ht : isLn sh M o) (hq : (fLok (fr M (q + 2)) ∧ fLok (fr M (q + 3))) ∧ fLok (fr M (q + 5)) ∧ fLok (fr M (q + 6))) (ho : (fLok (fr M (o + 2)) ∧ fLok (fr M (o + 3))) ∧ fLok (fr M (o + 5)) ∧ fLok (fr M (o + 6))) (hrq : inI (mI M q 2)) (hro : inI (mI M o 2)) : Met l yX1_sameAs (tws yX1_sameAs cX1_sameAs 2 (some .boolean)) ({ frames := 2, cells := 0, slots := 0, locals := 42 }) (va_Pc [.ref q, .ref o] (tm_St G Hb sh M)) (tm_Qi G Hb sh (fun x M1 => x = tl_b (ln M q = ln M o) ∧ M1 = M)) 0 0 (tm_A Hb) := by
  refine tm_begin (by decide) (Nat.le_of_ble_eq_true rfl) (fun p e s m below meth c ls hx hb hr hml hown htw hlk hnm hK hW hl => ?_)
  have hS : va_S (tm_A Hb) s.heap s.heap [] := va_S.rf
  have hl : lv_has ls 2 [(0, .ref q), (1, .ref o)] := hl
  obtain ⟨l0, l1, l2, l3, l4⟩ := hs
  obtain ⟨k0, k1, k2, k3, k4⟩ := ht
  have l30 := l3.1
  have l40 := l4.1
  have k30 := k3.1
  have k40 := k4.1
  refine lv_aload_n hx hb dX1_sameAs_0 rfl (lv_at hl 0 rfl) ?_
  refine gf_X1_23 hx hb htw hown hK hW (by assumption) dX1_sameAs_1 ?_
  refine lv_aload_n hx hb dX1_sameAs_4 rfl (lv_at hl 1 rfl) ?_
  refine gf_X1_23 hx hb htw hown hK hW (by assumption) dX1_sameAs_5 ?_
  refine ti_icmp_ne (tgt := 43) hx hb dX1_sameAs_8 (by decide) (by omega) (by omega) (fun h8 => ?_) (fun h8 => ?_)
  · have hz3 : ¬ ln M q = ln M o := fun z => by first | exact tl_b_0.mp h36 (congrArg (fun v => v.2.1) z) | exact tl_b_0.mp h22 (congrArg Prod.fst z) | exact h8 (congrArg (fun v => v.2.2) z)
    refine ti_iconst hx hb dX1_sameAs_43 ?_
    exact tm_zret hx hb hr hlk (by first | exact Or.inl rfl | exact Or.inr rfl | assumption) hK hW hS ⟨by first | exact tl_b_f hz3 | exact tl_b_t (Prod.ext hz (Prod.ext hz2 h8)), rfl⟩ dX1_sameAs_44
  · refine lv_aload_n hx hb dX1_sameAs_11 rfl (lv_at hl 0 rfl) ?_
    refine gf_X1_10 hx hb htw hown hK hW (by assumption) (by assumption) dX1_sameAs_12 ?_
    refine lv_aload_n hx hb dX1_sameAs_15 rfl (lv_at hl 1 rfl) ?_
    refine gf_X1_10 hx hb htw hown hK hW (by assumption) (by assumption) dX1_sameAs_16 ?_
    refine tm_calli (cs_X1_27 hx hb hml hown htw hK hW (by assumption) (c_X5_sameAs l3 k3 hq.1 ho.1) ⟨rfl, rfl, Nat.le_of_ble_eq_true rfl, Nat.le_of_ble_eq_true rfl⟩ hl.1 (Nat.le_of_ble_eq_true rfl) dX1_sameAs_19 ⟨Nat.le_of_ble_eq_true rfl, Nat.le_of_ble_eq_true rfl⟩) hS (fun x19 M19 H locs hp19 hW hS => ?_)
    obtain ⟨ex19, eM19⟩ := hp19
    rw [eM19] at hW
    rw [ex19]
    refine ti_if_eq (tgt := 43) hx hb dX1_sameAs_22 (by decide) (tl_b_r _) (fun h22 => ?_) (fun h22 => ?_)
    · have hz3 : ¬ ln M q = ln M o := fun z => by first | exact tl_b_0.mp h36 (congrArg (fun v => v.2.1) z) | exact tl_b_0.mp h22 (congrArg Prod.fst z) | exact h8 (congrArg (fun v => v.2.2) z)
      refine ti_iconst hx hb dX1_sameAs_43 ?_
      exact tm_zret hx hb hr hlk (by first | exact Or.inl rfl | exact Or.inr rfl | assumption) hK hW hS ⟨by first | exact tl_b_f hz3 | exact tl_b_t (Prod.ext hz (Prod.ext hz2 h8)), rfl⟩ dX1_sameAs_44
    · have hz := tl_b_n.mp h22
      refine lv_aload_n hx hb dX1_sameAs_25 rfl (lv_at hl 0 rfl) ?_
      refine gf_X1_16 hx hb htw hown hK hW (by assumption) (by assumption) dX1_sameAs_26 ?_
      refine lv_aload_n hx hb dX1_sameAs_29 rfl (lv_at hl 1 rfl) ?_
      refine gf_X1_16 hx hb htw hown hK hW (by assumption) (by assumption) dX1_sameAs_30 ?_
      refine tm_calli (cs_X1_27 hx hb hml hown htw hK hW (by assumption) (c_X5_sameAs l4 k4 hq.2 ho.2) ⟨rfl, rfl, Nat.le_of_ble_eq_true rfl, Nat.le_of_ble_eq_true rfl⟩ hl.1 (Nat.le_of_ble_eq_true rfl) dX1_sameAs_33 ⟨Nat.le_of_ble_eq_true rfl, Nat.le_of_ble_eq_true rfl⟩) hS (fun x33 M33 H locs hp33 hW hS => ?_)
      obtain ⟨ex33, eM33⟩ := hp33
      rw [eM33] at hW
      rw [ex33]
      refine ti_if_eq (tgt := 43) hx hb dX1_sameAs_36 (by decide) (tl_b_r _) (fun h36 => ?_) (fun h36 => ?_)
      · have hz3 : ¬ ln M q = ln M o := fun z => by first | exact tl_b_0.mp h36 (congrArg (fun v => v.2.1) z) | exact tl_b_0.mp h22 (congrArg Prod.fst z) | exact h8 (congrArg (fun v => v.2.2) z)
        refine ti_iconst hx hb dX1_sameAs_43 ?_
        exact tm_zret hx hb hr hlk (by first | exact Or.inl rfl | exact Or.inr rfl | assumption) hK hW hS ⟨by first | exact tl_b_f hz3 | exact tl_b_t (Prod.ext hz (Prod.ext hz2 h8)), rfl⟩ dX1_sameAs_44
      · have hz2 := tl_b_n.mp h36
        refine ti_iconst hx hb dX1_sameAs_39 ?_
        refine lv_goto (tgt := 44) hx hb dX1_sameAs_40 (by decide) ?_
        exact tm_zret hx hb hr hlk (by first | exact Or.inl rfl | exact Or.inr rfl | assumption) hK hW hS ⟨by first | exact tl_b_f hz3 | exact tl_b_t (Prod.ext hz (Prod.ext hz2 h8)), rfl⟩ dX1_sameAs_44
theorem dX1_fits_0 : decode cX1_fits 0 = .ok (.aload_n 0, 1) := by decide +kernel
theorem dX1_fits_1 : decode cX1_fits 1 = .ok (.getfield 10, 3) := by decide +kernel
theorem dX1_fits_4 : decode cX1_fits 4 = .ok (.invokevirtual 31, 3) := by decide +kernel
theorem dX1_fits_7 : decode cX1_fits 7 = .ok (.ifCond .eq 17, 3) := by decide +kernel
theorem dX1_fits_10 : decode cX1_fits 10 = .ok (.aload_n 0, 1) := by decide +kernel
theorem dX1_fits_11 : decode cX1_fits 11 = .ok (.getfield 16, 3) := by decide +kernel
theorem dX1_fits_14 : decode cX1_fits 14 = .ok (.invokevirtual 31, 3) := by decide +kernel
theorem dX1_fits_17 : decode cX1_fits 17 = .ok (.ifCond .eq 7, 3) := by decide +kernel
theorem dX1_fits_20 : decode cX1_fits 20 = .ok (.iconst 1, 1) := by decide +kernel
theorem dX1_fits_21 : decode cX1_fits 21 = .ok (.goto 4, 3) := by decide +kernel
theorem dX1_fits_24 : decode cX1_fits 24 = .ok (.iconst 0, 1) := by decide +kernel
theorem dX1_fits_25 : decode cX1_fits 25 = .ok (.ireturn, 1) := by decide +kernel
set_option maxHeartbeats 4000000 in
set_option maxRecDepth 100000 in
/-- Line.fits -/
theorem c_X1_fits {l : Launch} {G : tm_G} {Hb : Heap} {sh : tm_sh} {M : tm_M} {q : Nat} (hs : isLn sh M q) (hq : (fLok (fr M (q + 2)) ∧ fLok (fr M (q + 3))) ∧ fLok (fr M (q + 5)) ∧ fLok (fr M (q + 6))) : Met l yX1_fits (tws yX1_fits cX1_fits 1 (some .boolean)) ({ frames := 2, cells := 0, slots := 0, locals := 40 }) (va_Pc [.ref q] (tm_St G Hb sh M)) (tm_Qi G Hb sh (fun x M1 => x = tl_b ((ffit (fr M (q + 2)) ∧ ffit (fr M (q + 3))) ∧ ffit (fr M (q + 5)) ∧ ffit (fr M (q + 6))) ∧ M1 = M)) 0 0 (tm_A Hb) := by
  refine tm_begin (by decide) (Nat.le_of_ble_eq_true rfl) (fun p e s m below meth c ls hx hb hr hml hown htw hlk hnm hK hW hl => ?_)
  have hS : va_S (tm_A Hb) s.heap s.heap [] := va_S.rf
  have hl : lv_has ls 1 [(0, .ref q)] := hl
  obtain ⟨l0, l1, l2, l3, l4⟩ := hs
  have l30 := l3.1
  have l40 := l4.1
  refine lv_aload_n hx hb dX1_fits_0 rfl (lv_at hl 0 rfl) ?_
  refine gf_X1_10 hx hb htw hown hK hW (by assumption) (by assumption) dX1_fits_1 ?_
  refine tm_calli (cs_X1_31 hx hb hml hown htw hK hW (by assumption) (c_X5_fits l3 hq.1) ⟨rfl, rfl, Nat.le_of_ble_eq_true rfl, Nat.le_of_ble_eq_true rfl⟩ hl.1 (Nat.le_of_ble_eq_true rfl) dX1_fits_4 ⟨Nat.le_of_ble_eq_true rfl, Nat.le_of_ble_eq_true rfl⟩) hS (fun x4 M4 H locs hp4 hW hS => ?_)
  obtain ⟨ex4, eM4⟩ := hp4
  rw [eM4] at hW
  rw [ex4]
  refine ti_if_eq (tgt := 24) hx hb dX1_fits_7 (by decide) (tl_b_r _) (fun h7 => ?_) (fun h7 => ?_)
  · have hz3 : ¬ ((ffit (fr M (q + 2)) ∧ ffit (fr M (q + 3))) ∧ ffit (fr M (q + 5)) ∧ ffit (fr M (q + 6))) := fun z => by first | exact tl_b_0.mp h7 z.1 | exact tl_b_0.mp h17 z.2
    refine ti_iconst hx hb dX1_fits_24 ?_
    exact tm_zret hx hb hr hlk (by first | exact Or.inl rfl | exact Or.inr rfl | assumption) hK hW hS ⟨by first | exact tl_b_f hz3 | exact tl_b_t ⟨hz, hz2⟩, rfl⟩ dX1_fits_25
  · have hz := tl_b_n.mp h7
    refine lv_aload_n hx hb dX1_fits_10 rfl (lv_at hl 0 rfl) ?_
    refine gf_X1_16 hx hb htw hown hK hW (by assumption) (by assumption) dX1_fits_11 ?_
    refine tm_calli (cs_X1_31 hx hb hml hown htw hK hW (by assumption) (c_X5_fits l4 hq.2) ⟨rfl, rfl, Nat.le_of_ble_eq_true rfl, Nat.le_of_ble_eq_true rfl⟩ hl.1 (Nat.le_of_ble_eq_true rfl) dX1_fits_14 ⟨Nat.le_of_ble_eq_true rfl, Nat.le_of_ble_eq_true rfl⟩) hS (fun x14 M14 H locs hp14 hW hS => ?_)
    obtain ⟨ex14, eM14⟩ := hp14
    rw [eM14] at hW
    rw [ex14]
    refine ti_if_eq (tgt := 24) hx hb dX1_fits_17 (by decide) (tl_b_r _) (fun h17 => ?_) (fun h17 => ?_)
    · have hz3 : ¬ ((ffit (fr M (q + 2)) ∧ ffit (fr M (q + 3))) ∧ ffit (fr M (q + 5)) ∧ ffit (fr M (q + 6))) := fun z => by first | exact tl_b_0.mp h7 z.1 | exact tl_b_0.mp h17 z.2
      refine ti_iconst hx hb dX1_fits_24 ?_
      exact tm_zret hx hb hr hlk (by first | exact Or.inl rfl | exact Or.inr rfl | assumption) hK hW hS ⟨by first | exact tl_b_f hz3 | exact tl_b_t ⟨hz, hz2⟩, rfl⟩ dX1_fits_25
    · have hz2 := tl_b_n.mp h17
      refine ti_iconst hx hb dX1_fits_20 ?_
      refine lv_goto (tgt := 25) hx hb dX1_fits_21 (by decide) ?_
      exact tm_zret hx hb hr hlk (by first | exact Or.inl rfl | exact Or.inr rfl | assumption) hK hW hS ⟨by first | exact tl_b_f hz3 | exact tl_b_t ⟨hz, hz2⟩, rfl⟩ dX1_fits_25
end
section
/-! SolutionSet (by program: wip/whole/gen/sol.py): at q, its place at q + 1, its slope at q + 2 -/
/-- only cells lo .. hi - 1 have changed -/
def tm_fr (lo hi : Nat) (M M1 : tm_M) : Prop := mR M1 = mR M ∧ ∀ a k, (a < lo ∨ hi ≤ a) → mI M1 a k = mI M a k ∧ mL M1 a k = mL M a k
theorem fw_rf {lo hi : Nat} {M : tm_M} : tm_fr lo hi M M := ⟨rfl, fun _ _ _ => ⟨rfl, rfl⟩⟩
theorem fw_tr {lo hi : Nat} {M M1 M2 : tm_M} (h : tm_fr lo hi M M1) (g : tm_fr lo hi M1 M2) : tm_fr lo hi M M2 := ⟨g.1.trans h.1, fun a k q => ⟨((g.2 a k q).1).trans (h.2 a k q).1, ((g.2 a k q).2).trans (h.2 a k q).2⟩⟩
theorem fw_wd {lo hi lo' hi' : Nat} {M M1 : tm_M} (h : tm_fr lo hi M M1) (h1 : lo' ≤ lo) (h2 : hi ≤ hi') : tm_fr lo' hi' M M1 := ⟨h.1, fun a k q => h.2 a k (by omega)⟩
theorem fw_fS {lo hi q : Nat} {M : tm_M} (f : tl_F) (h1 : lo ≤ q) (h2 : q < hi) : tm_fr lo hi M (fS M q f) := ⟨rfl, fun a k g => ⟨rfl, fL_n M f (by omega)⟩⟩
theorem fw_sI {lo hi q j : Nat} {M : tm_M} (v : Int) (h1 : lo ≤ q) (h2 : q < hi) : tm_fr lo hi M (sI M q j v) := ⟨rfl, fun a k g => ⟨tm_up_a _ _ (by omega), rfl⟩⟩
theorem fw_sL {lo hi q j : Nat} {M : tm_M} (v : Int) (h1 : lo ≤ q) (h2 : q < hi) : tm_fr lo hi M (sL M q j v) := ⟨rfl, fun a k g => ⟨rfl, tm_up_a _ _ (by omega)⟩⟩
theorem fw_fr {lo hi a : Nat} {M M1 : tm_M} (h : tm_fr lo hi M M1) (g : a < lo ∨ hi ≤ a) : fr M1 a = fr M a := by
  show (mL M1 a 0, mL M1 a 1) = _
  rw [(h.2 a 0 g).2, (h.2 a 1 g).2]
theorem fw_ln {lo hi a : Nat} {M M1 : tm_M} (h : tm_fr lo hi M M1) (g : a + 7 ≤ lo ∨ hi ≤ a) : ln M1 a = ln M a := by
  show ((fr M1 (a + 1 + 1), fr M1 (a + 1 + 2)), (fr M1 (a + 4 + 1), fr M1 (a + 4 + 2)), mI M1 a 2) = _
  rw [fw_fr h (by omega), fw_fr h (by omega), fw_fr h (by omega), fw_fr h (by omega), (h.2 a 2 (by omega)).1]
def isSo (sh : tm_sh) (M : tm_M) (q : Nat) : Prop := sh q = some (7, 0) ∧ mR M q 1 = some (q + 1) ∧ mR M q 2 = some (q + 2) ∧ sh (q + 1) = some (2, 0) ∧ sh (q + 2) = some (2, 0)
/-- the kind of a line's solutions, and their point or bound -/
def tl_sl (v : tl_L) : tl_F := fsub v.1.1 v.2.1.1
def tl_pl (v : tl_L) : tl_F := fsub v.2.1.2 v.1.2
def tl_tz (r x : Int) : Int := if r = 1 then tl_b (0 < x) else if r = 2 then tl_b (x < 0) else tl_b (x = 0)
def tl_solve (v : tl_L) : Int × tl_F := if (tl_sl v).1 = 0 then (tl_tz v.2.2 (tl_pl v).1, (0, 1)) else (if v.2.2 = 0 then 2 else if (v.2.2 = 1 ↔ 0 < (tl_sl v).1) then 3 else 4, fdiv (tl_pl v) (tl_sl v))
def lok (v : tl_L) : Prop := sok v.1 ∧ sok v.2.1 ∧ 0 ≤ v.2.2 ∧ v.2.2 ≤ 2
theorem tl_tz_z (r x : Int) : tl_tz r x = 0 ∨ tl_tz r x = 1 := by
  unfold tl_tz
  split
  · exact tl_b_z _
  · split <;> exact tl_b_z _
/-- the difference of two small fractions: its parts -/
theorem tl_fsub_bd {f g : tl_F} (hf : fok f) (hg : fok g) : (fsub f g).1.natAbs ≤ 199960002 ∧ (fsub f g).2.natAbs ≤ 99980001 ∧ 0 < (fsub f g).2 ∧ Int.gcd (fsub f g).1 (fsub f g).2 = 1 := by
  obtain ⟨a1, a2, a3⟩ := fok_ab hf
  obtain ⟨b1, b2, b3⟩ := fok_ab hg
  have h1 := tl_mb a2 b2
  have h2 := tl_mb a1 b2
  have h3 := tl_mb b1 a2
  have h0 := tl_n0 a3 b3
  have h4 := tl_norm_le (a := f.1 * g.2 - g.1 * f.2) h0
  exact ⟨Nat.le_trans h4.1 (by omega), Nat.le_trans h4.2 (by omega), tl_norm_pos h0, tl_norm_gcd h0⟩
/-- the quotient of two such differences -/
theorem tl_quo_bd {f g : tl_F} (hf : f.1.natAbs ≤ 199960002 ∧ f.2.natAbs ≤ 99980001 ∧ 0 < f.2) (hg : g.1.natAbs ≤ 199960002 ∧ g.2.natAbs ≤ 99980001 ∧ 0 < g.2) (hz : g.1 ≠ 0) : f.2 * g.1 ≠ 0 ∧ (f.1 * g.2).natAbs ≤ 19992001499960002 ∧ (f.2 * g.1).natAbs ≤ 19992001499960002 := by
  have h1 := tl_mb hf.1 hg.2.1
  have h2 := tl_mb hf.2.1 hg.1
  exact ⟨tl_n0 (by omega) hz, by omega, by omega⟩
theorem tl_ff {M M3 : tm_M} {q : Nat} {kd : Int} {pl : tl_F} {v : tl_L} (hp : fr M3 (q + 1) = pl) (hf : tm_fr q (q + 3) M M3) (hs : tl_solve v = (kd, pl)) : (mI (sI M3 q 0 kd) q 0, fr (sI M3 q 0 kd) (q + 1)) = tl_solve v ∧ tm_fr q (q + 3) M (sI M3 q 0 kd) := by
  refine ⟨?_, fw_tr hf (fw_sI _ (by omega) (by omega))⟩
  rw [hs, show mI (sI M3 q 0 kd) q 0 = kd from tm_up_s _ _ _ _, ← hp]
theorem tl_ff0 {M M3 : tm_M} {q : Nat} {kd : Int} {v : tl_L} (hf : tm_fr q (q + 3) M M3) (hs : tl_solve v = (kd, (0, 1))) : (mI (fS (sI M3 q 0 kd) (q + 1) (0, 1)) q 0, fr (fS (sI M3 q 0 kd) (q + 1) (0, 1)) (q + 1)) = tl_solve v ∧ tm_fr q (q + 3) M (fS (sI M3 q 0 kd) (q + 1) (0, 1)) := by
  refine ⟨?_, fw_tr (fw_tr hf (fw_sI _ (by omega) (by omega))) (fw_fS _ (by omega) (by omega))⟩
  rw [hs, fr_s, show mI (fS (sI M3 q 0 kd) (q + 1) (0, 1)) q 0 = kd from tm_up_s _ _ _ _]
theorem dX7_isTrueOfZero_0 : decode cX7_isTrueOfZero 0 = .ok (.iload_n 0, 1) := by decide +kernel
theorem dX7_isTrueOfZero_1 : decode cX7_isTrueOfZero 1 = .ok (.lookupswitch 57 #[(1, 27), (2, 42)], 27) := by decide +kernel
theorem dX7_isTrueOfZero_28 : decode cX7_isTrueOfZero 28 = .ok (.aload_n 1, 1) := by decide +kernel
theorem dX7_isTrueOfZero_29 : decode cX7_isTrueOfZero 29 = .ok (.getfield 62, 3) := by decide +kernel
theorem dX7_isTrueOfZero_32 : decode cX7_isTrueOfZero 32 = .ok (.lconst 0, 1) := by decide +kernel
theorem dX7_isTrueOfZero_33 : decode cX7_isTrueOfZero 33 = .ok (.lcmp, 1) := by decide +kernel
theorem dX7_isTrueOfZero_34 : decode cX7_isTrueOfZero 34 = .ok (.ifCond .le 7, 3) := by decide +kernel
theorem dX7_isTrueOfZero_37 : decode cX7_isTrueOfZero 37 = .ok (.iconst 1, 1) := by decide +kernel
theorem dX7_isTrueOfZero_38 : decode cX7_isTrueOfZero 38 = .ok (.goto 4, 3) := by decide +kernel
theorem dX7_isTrueOfZero_41 : decode cX7_isTrueOfZero 41 = .ok (.iconst 0, 1) := by decide +kernel
theorem dX7_isTrueOfZero_42 : decode cX7_isTrueOfZero 42 = .ok (.ireturn, 1) := by decide +kernel
theorem dX7_isTrueOfZero_43 : decode cX7_isTrueOfZero 43 = .ok (.aload_n 1, 1) := by decide +kernel
theorem dX7_isTrueOfZero_44 : decode cX7_isTrueOfZero 44 = .ok (.getfield 62, 3) := by decide +kernel
theorem dX7_isTrueOfZero_47 : decode cX7_isTrueOfZero 47 = .ok (.lconst 0, 1) := by decide +kernel
theorem dX7_isTrueOfZero_48 : decode cX7_isTrueOfZero 48 = .ok (.lcmp, 1) := by decide +kernel
theorem dX7_isTrueOfZero_49 : decode cX7_isTrueOfZero 49 = .ok (.ifCond .ge 7, 3) := by decide +kernel
theorem dX7_isTrueOfZero_52 : decode cX7_isTrueOfZero 52 = .ok (.iconst 1, 1) := by decide +kernel
theorem dX7_isTrueOfZero_53 : decode cX7_isTrueOfZero 53 = .ok (.goto 4, 3) := by decide +kernel
theorem dX7_isTrueOfZero_56 : decode cX7_isTrueOfZero 56 = .ok (.iconst 0, 1) := by decide +kernel
theorem dX7_isTrueOfZero_57 : decode cX7_isTrueOfZero 57 = .ok (.ireturn, 1) := by decide +kernel
theorem dX7_isTrueOfZero_58 : decode cX7_isTrueOfZero 58 = .ok (.aload_n 1, 1) := by decide +kernel
theorem dX7_isTrueOfZero_59 : decode cX7_isTrueOfZero 59 = .ok (.getfield 62, 3) := by decide +kernel
theorem dX7_isTrueOfZero_62 : decode cX7_isTrueOfZero 62 = .ok (.lconst 0, 1) := by decide +kernel
theorem dX7_isTrueOfZero_63 : decode cX7_isTrueOfZero 63 = .ok (.lcmp, 1) := by decide +kernel
theorem dX7_isTrueOfZero_64 : decode cX7_isTrueOfZero 64 = .ok (.ifCond .ne 7, 3) := by decide +kernel
theorem dX7_isTrueOfZero_67 : decode cX7_isTrueOfZero 67 = .ok (.iconst 1, 1) := by decide +kernel
theorem dX7_isTrueOfZero_68 : decode cX7_isTrueOfZero 68 = .ok (.goto 4, 3) := by decide +kernel
theorem dX7_isTrueOfZero_71 : decode cX7_isTrueOfZero 71 = .ok (.iconst 0, 1) := by decide +kernel
theorem dX7_isTrueOfZero_72 : decode cX7_isTrueOfZero 72 = .ok (.ireturn, 1) := by decide +kernel
set_option maxHeartbeats 4000000 in
set_option maxRecDepth 100000 in
/-- SolutionSet.isTrueOfZero -/
theorem c_X7_isTrueOfZero {l : Launch} {G : tm_G} {Hb : Heap} {sh : tm_sh} {M : tm_M} {r : Int} {q : Nat} (h0 : sh q = some (2, 0)) (hr1 : inI r) (hg : inL (mL M q 0)) : Met l yX7_isTrueOfZero (tws yX7_isTrueOfZero cX7_isTrueOfZero 2 (some .boolean)) ({ frames := 0, cells := 0, slots := 0, locals := 0 }) (va_Pc [ji r, .ref q] (tm_St G Hb sh M)) (tm_Qi G Hb sh (fun x M1 => x = tl_tz r (mL M q 0) ∧ M1 = M)) 0 0 (tm_A Hb) := by
  refine tm_begin (by decide) (Nat.le_of_ble_eq_true rfl) (fun p e s m below meth c ls hx hb hr hml hown htw hlk hnm hK hW hl => ?_)
  have hS : va_S (tm_A Hb) s.heap s.heap [] := va_S.rf
  have hl : lv_has ls 2 [(0, ji r), (1, .ref q)] := hl
  refine lv_iload_n hx hb dX7_isTrueOfZero_0 rfl (lv_at hl 0 rfl) ?_
  refine ti_lk_1_2 (td := 58) (t1 := 28) (t2 := 43) hx hb dX7_isTrueOfZero_1 (by omega) (by decide) (by decide) (by decide) (fun h1 => ?_) (fun h1 => ?_) (fun h1 => ?_)
  · refine lv_aload_n hx hb dX7_isTrueOfZero_28 rfl (lv_at hl 1 rfl) ?_
    refine gf_X7_62 hx hb htw hown hK hW (by assumption) dX7_isTrueOfZero_29 ?_
    refine ti_lconst0 hx hb dX7_isTrueOfZero_32 ?_
    refine ti_lcmp_le (tgt := 41) hx hb dX7_isTrueOfZero_33 dX7_isTrueOfZero_34 (by decide) (by omega) (by omega) (fun h33 => ?_) (fun h33 => ?_)
    · refine ti_iconst hx hb dX7_isTrueOfZero_41 ?_
      exact tm_zret hx hb hr hlk (by first | exact Or.inl rfl | exact Or.inr rfl | assumption) hK hW hS ⟨by first | (subst h1; first | exact tl_b_t (by omega) | exact tl_b_f (by omega)) | (unfold tl_tz; rw [if_neg h1.1, if_neg h1.2]; first | exact tl_b_t (by omega) | exact tl_b_f (by omega)), rfl⟩ dX7_isTrueOfZero_42
    · refine ti_iconst hx hb dX7_isTrueOfZero_37 ?_
      refine lv_goto (tgt := 42) hx hb dX7_isTrueOfZero_38 (by decide) ?_
      exact tm_zret hx hb hr hlk (by first | exact Or.inl rfl | exact Or.inr rfl | assumption) hK hW hS ⟨by first | (subst h1; first | exact tl_b_t (by omega) | exact tl_b_f (by omega)) | (unfold tl_tz; rw [if_neg h1.1, if_neg h1.2]; first | exact tl_b_t (by omega) | exact tl_b_f (by omega)), rfl⟩ dX7_isTrueOfZero_42
  · refine lv_aload_n hx hb dX7_isTrueOfZero_43 rfl (lv_at hl 1 rfl) ?_
    refine gf_X7_62 hx hb htw hown hK hW (by assumption) dX7_isTrueOfZero_44 ?_
    refine ti_lconst0 hx hb dX7_isTrueOfZero_47 ?_
    refine ti_lcmp_ge (tgt := 56) hx hb dX7_isTrueOfZero_48 dX7_isTrueOfZero_49 (by decide) (by omega) (by omega) (fun h48 => ?_) (fun h48 => ?_)
    · refine ti_iconst hx hb dX7_isTrueOfZero_56 ?_
      exact tm_zret hx hb hr hlk (by first | exact Or.inl rfl | exact Or.inr rfl | assumption) hK hW hS ⟨by first | (subst h1; first | exact tl_b_t (by omega) | exact tl_b_f (by omega)) | (unfold tl_tz; rw [if_neg h1.1, if_neg h1.2]; first | exact tl_b_t (by omega) | exact tl_b_f (by omega)), rfl⟩ dX7_isTrueOfZero_57
    · refine ti_iconst hx hb dX7_isTrueOfZero_52 ?_
      refine lv_goto (tgt := 57) hx hb dX7_isTrueOfZero_53 (by decide) ?_
      exact tm_zret hx hb hr hlk (by first | exact Or.inl rfl | exact Or.inr rfl | assumption) hK hW hS ⟨by first | (subst h1; first | exact tl_b_t (by omega) | exact tl_b_f (by omega)) | (unfold tl_tz; rw [if_neg h1.1, if_neg h1.2]; first | exact tl_b_t (by omega) | exact tl_b_f (by omega)), rfl⟩ dX7_isTrueOfZero_57
  · refine lv_aload_n hx hb dX7_isTrueOfZero_58 rfl (lv_at hl 1 rfl) ?_
    refine gf_X7_62 hx hb htw hown hK hW (by assumption) dX7_isTrueOfZero_59 ?_
    refine ti_lconst0 hx hb dX7_isTrueOfZero_62 ?_
    refine ti_lcmp_ne (tgt := 71) hx hb dX7_isTrueOfZero_63 dX7_isTrueOfZero_64 (by decide) (by omega) (by omega) (fun h63 => ?_) (fun h63 => ?_)
    · refine ti_iconst hx hb dX7_isTrueOfZero_71 ?_
      exact tm_zret hx hb hr hlk (by first | exact Or.inl rfl | exact Or.inr rfl | assumption) hK hW hS ⟨by first | (subst h1; first | exact tl_b_t (by omega) | exact tl_b_f (by omega)) | (unfold tl_tz; rw [if_neg h1.1, if_neg h1.2]; first | exact tl_b_t (by omega) | exact tl_b_f (by omega)), rfl⟩ dX7_isTrueOfZero_72
    · refine ti_iconst hx hb dX7_isTrueOfZero_67 ?_
      refine lv_goto (tgt := 72) hx hb dX7_isTrueOfZero_68 (by decide) ?_
      exact tm_zret hx hb hr hlk (by first | exact Or.inl rfl | exact Or.inr rfl | assumption) hK hW hS ⟨by first | (subst h1; first | exact tl_b_t (by omega) | exact tl_b_f (by omega)) | (unfold tl_tz; rw [if_neg h1.1, if_neg h1.2]; first | exact tl_b_t (by omega) | exact tl_b_f (by omega)), rfl⟩ dX7_isTrueOfZero_72
theorem dX7_hasPlace_0 : decode cX7_hasPlace 0 = .ok (.aload_n 0, 1) := by decide +kernel
theorem dX7_hasPlace_1 : decode cX7_hasPlace 1 = .ok (.getfield 52, 3) := by decide +kernel
theorem dX7_hasPlace_4 : decode cX7_hasPlace 4 = .ok (.iconst 2, 1) := by decide +kernel
theorem dX7_hasPlace_5 : decode cX7_hasPlace 5 = .ok (.if_icmp .lt 7, 3) := by decide +kernel
theorem dX7_hasPlace_8 : decode cX7_hasPlace 8 = .ok (.iconst 1, 1) := by decide +kernel
theorem dX7_hasPlace_9 : decode cX7_hasPlace 9 = .ok (.goto 4, 3) := by decide +kernel
theorem dX7_hasPlace_12 : decode cX7_hasPlace 12 = .ok (.iconst 0, 1) := by decide +kernel
theorem dX7_hasPlace_13 : decode cX7_hasPlace 13 = .ok (.ireturn, 1) := by decide +kernel
set_option maxHeartbeats 4000000 in
set_option maxRecDepth 100000 in
/-- SolutionSet.hasPlace -/
theorem c_X7_hasPlace {l : Launch} {G : tm_G} {Hb : Heap} {sh : tm_sh} {M : tm_M} {q : Nat} (h0 : sh q = some (7, 0)) (hk : inI (mI M q 0)) : Met l yX7_hasPlace (tws yX7_hasPlace cX7_hasPlace 1 (some .boolean)) ({ frames := 0, cells := 0, slots := 0, locals := 0 }) (va_Pc [.ref q] (tm_St G Hb sh M)) (tm_Qi G Hb sh (fun x M1 => x = tl_b (2 ≤ mI M q 0) ∧ M1 = M)) 0 0 (tm_A Hb) := by
  refine tm_begin (by decide) (Nat.le_of_ble_eq_true rfl) (fun p e s m below meth c ls hx hb hr hml hown htw hlk hnm hK hW hl => ?_)
  have hS : va_S (tm_A Hb) s.heap s.heap [] := va_S.rf
  have hl : lv_has ls 1 [(0, .ref q)] := hl
  refine lv_aload_n hx hb dX7_hasPlace_0 rfl (lv_at hl 0 rfl) ?_
  refine gf_X7_52 hx hb htw hown hK hW (by assumption) dX7_hasPlace_1 ?_
  refine ti_iconst hx hb dX7_hasPlace_4 ?_
  refine ti_icmp_lt (tgt := 12) hx hb dX7_hasPlace_5 (by decide) (by omega) (by omega) (fun h5 => ?_) (fun h5 => ?_)
  · refine ti_iconst hx hb dX7_hasPlace_12 ?_
    exact tm_zret hx hb hr hlk (by first | exact Or.inl rfl | exact Or.inr rfl | assumption) hK hW hS ⟨by first | exact tl_b_t (by omega) | exact tl_b_f (by omega), rfl⟩ dX7_hasPlace_13
  · refine ti_iconst hx hb dX7_hasPlace_8 ?_
    refine lv_goto (tgt := 13) hx hb dX7_hasPlace_9 (by decide) ?_
    exact tm_zret hx hb hr hlk (by first | exact Or.inl rfl | exact Or.inr rfl | assumption) hK hW hS ⟨by first | exact tl_b_t (by omega) | exact tl_b_f (by omega), rfl⟩ dX7_hasPlace_13
theorem dX7_find_0 : decode cX7_find 0 = .ok (.aload_n 0, 1) := by decide +kernel
theorem dX7_find_1 : decode cX7_find 1 = .ok (.getfield 16, 3) := by decide +kernel
theorem dX7_find_4 : decode cX7_find 4 = .ok (.aload_n 1, 1) := by decide +kernel
theorem dX7_find_5 : decode cX7_find 5 = .ok (.getfield 19, 3) := by decide +kernel
theorem dX7_find_8 : decode cX7_find 8 = .ok (.getfield 25, 3) := by decide +kernel
theorem dX7_find_11 : decode cX7_find 11 = .ok (.aload_n 1, 1) := by decide +kernel
theorem dX7_find_12 : decode cX7_find 12 = .ok (.getfield 30, 3) := by decide +kernel
theorem dX7_find_15 : decode cX7_find 15 = .ok (.getfield 25, 3) := by decide +kernel
theorem dX7_find_18 : decode cX7_find 18 = .ok (.invokevirtual 33, 3) := by decide +kernel
theorem dX7_find_21 : decode cX7_find 21 = .ok (.aload_n 0, 1) := by decide +kernel
theorem dX7_find_22 : decode cX7_find 22 = .ok (.getfield 10, 3) := by decide +kernel
theorem dX7_find_25 : decode cX7_find 25 = .ok (.aload_n 1, 1) := by decide +kernel
theorem dX7_find_26 : decode cX7_find 26 = .ok (.getfield 30, 3) := by decide +kernel
theorem dX7_find_29 : decode cX7_find 29 = .ok (.getfield 37, 3) := by decide +kernel
theorem dX7_find_32 : decode cX7_find 32 = .ok (.aload_n 1, 1) := by decide +kernel
theorem dX7_find_33 : decode cX7_find 33 = .ok (.getfield 19, 3) := by decide +kernel
theorem dX7_find_36 : decode cX7_find 36 = .ok (.getfield 37, 3) := by decide +kernel
theorem dX7_find_39 : decode cX7_find 39 = .ok (.invokevirtual 33, 3) := by decide +kernel
theorem dX7_find_42 : decode cX7_find 42 = .ok (.aload_n 0, 1) := by decide +kernel
theorem dX7_find_43 : decode cX7_find 43 = .ok (.getfield 16, 3) := by decide +kernel
theorem dX7_find_46 : decode cX7_find 46 = .ok (.invokevirtual 40, 3) := by decide +kernel
theorem dX7_find_49 : decode cX7_find 49 = .ok (.ifCond .eq 35, 3) := by decide +kernel
theorem dX7_find_52 : decode cX7_find 52 = .ok (.aload_n 0, 1) := by decide +kernel
theorem dX7_find_53 : decode cX7_find 53 = .ok (.aload_n 1, 1) := by decide +kernel
theorem dX7_find_54 : decode cX7_find 54 = .ok (.getfield 44, 3) := by decide +kernel
theorem dX7_find_57 : decode cX7_find 57 = .ok (.aload_n 0, 1) := by decide +kernel
theorem dX7_find_58 : decode cX7_find 58 = .ok (.getfield 10, 3) := by decide +kernel
theorem dX7_find_61 : decode cX7_find 61 = .ok (.invokestatic 48, 3) := by decide +kernel
theorem dX7_find_64 : decode cX7_find 64 = .ok (.ifCond .eq 7, 3) := by decide +kernel
theorem dX7_find_67 : decode cX7_find 67 = .ok (.iconst 1, 1) := by decide +kernel
theorem dX7_find_68 : decode cX7_find 68 = .ok (.goto 4, 3) := by decide +kernel
theorem dX7_find_71 : decode cX7_find 71 = .ok (.iconst 0, 1) := by decide +kernel
theorem dX7_find_72 : decode cX7_find 72 = .ok (.putfield 52, 3) := by decide +kernel
theorem dX7_find_75 : decode cX7_find 75 = .ok (.aload_n 0, 1) := by decide +kernel
theorem dX7_find_76 : decode cX7_find 76 = .ok (.getfield 10, 3) := by decide +kernel
theorem dX7_find_79 : decode cX7_find 79 = .ok (.lconst 0, 1) := by decide +kernel
theorem dX7_find_80 : decode cX7_find 80 = .ok (.invokevirtual 55, 3) := by decide +kernel
theorem dX7_find_83 : decode cX7_find 83 = .ok (.return_, 1) := by decide +kernel
theorem dX7_find_84 : decode cX7_find 84 = .ok (.aload_n 0, 1) := by decide +kernel
theorem dX7_find_85 : decode cX7_find 85 = .ok (.getfield 10, 3) := by decide +kernel
theorem dX7_find_88 : decode cX7_find 88 = .ok (.aload_n 0, 1) := by decide +kernel
theorem dX7_find_89 : decode cX7_find 89 = .ok (.getfield 10, 3) := by decide +kernel
theorem dX7_find_92 : decode cX7_find 92 = .ok (.aload_n 0, 1) := by decide +kernel
theorem dX7_find_93 : decode cX7_find 93 = .ok (.getfield 16, 3) := by decide +kernel
theorem dX7_find_96 : decode cX7_find 96 = .ok (.invokevirtual 59, 3) := by decide +kernel
theorem dX7_find_99 : decode cX7_find 99 = .ok (.aload_n 1, 1) := by decide +kernel
theorem dX7_find_100 : decode cX7_find 100 = .ok (.getfield 44, 3) := by decide +kernel
theorem dX7_find_103 : decode cX7_find 103 = .ok (.ifCond .ne 11, 3) := by decide +kernel
theorem dX7_find_106 : decode cX7_find 106 = .ok (.aload_n 0, 1) := by decide +kernel
theorem dX7_find_107 : decode cX7_find 107 = .ok (.iconst 2, 1) := by decide +kernel
theorem dX7_find_108 : decode cX7_find 108 = .ok (.putfield 52, 3) := by decide +kernel
theorem dX7_find_111 : decode cX7_find 111 = .ok (.goto 45, 3) := by decide +kernel
theorem dX7_find_114 : decode cX7_find 114 = .ok (.aload_n 0, 1) := by decide +kernel
theorem dX7_find_115 : decode cX7_find 115 = .ok (.aload_n 1, 1) := by decide +kernel
theorem dX7_find_116 : decode cX7_find 116 = .ok (.getfield 44, 3) := by decide +kernel
theorem dX7_find_119 : decode cX7_find 119 = .ok (.iconst 1, 1) := by decide +kernel
theorem dX7_find_120 : decode cX7_find 120 = .ok (.if_icmp .ne 7, 3) := by decide +kernel
theorem dX7_find_123 : decode cX7_find 123 = .ok (.iconst 1, 1) := by decide +kernel
theorem dX7_find_124 : decode cX7_find 124 = .ok (.goto 4, 3) := by decide +kernel
theorem dX7_find_127 : decode cX7_find 127 = .ok (.iconst 0, 1) := by decide +kernel
theorem dX7_find_128 : decode cX7_find 128 = .ok (.aload_n 0, 1) := by decide +kernel
theorem dX7_find_129 : decode cX7_find 129 = .ok (.getfield 16, 3) := by decide +kernel
theorem dX7_find_132 : decode cX7_find 132 = .ok (.getfield 62, 3) := by decide +kernel
theorem dX7_find_135 : decode cX7_find 135 = .ok (.lconst 0, 1) := by decide +kernel
theorem dX7_find_136 : decode cX7_find 136 = .ok (.lcmp, 1) := by decide +kernel
theorem dX7_find_137 : decode cX7_find 137 = .ok (.ifCond .le 7, 3) := by decide +kernel
theorem dX7_find_140 : decode cX7_find 140 = .ok (.iconst 1, 1) := by decide +kernel
theorem dX7_find_141 : decode cX7_find 141 = .ok (.goto 4, 3) := by decide +kernel
theorem dX7_find_144 : decode cX7_find 144 = .ok (.iconst 0, 1) := by decide +kernel
theorem dX7_find_145 : decode cX7_find 145 = .ok (.if_icmp .ne 7, 3) := by decide +kernel
theorem dX7_find_148 : decode cX7_find 148 = .ok (.iconst 3, 1) := by decide +kernel
theorem dX7_find_149 : decode cX7_find 149 = .ok (.goto 4, 3) := by decide +kernel
theorem dX7_find_152 : decode cX7_find 152 = .ok (.iconst 4, 1) := by decide +kernel
theorem dX7_find_153 : decode cX7_find 153 = .ok (.putfield 52, 3) := by decide +kernel
theorem dX7_find_156 : decode cX7_find 156 = .ok (.return_, 1) := by decide +kernel
set_option maxHeartbeats 4000000 in
set_option maxRecDepth 100000 in
/-- SolutionSet.find -/
theorem c_X7_find {l : Launch} {G : tm_G} {Hb : Heap} {sh : tm_sh} {M : tm_M} {q o : Nat} (hs : isSo sh M q) (ht : isLn sh M o) (hne : o + 7 ≤ q ∨ q + 3 ≤ o) (hv : lok (ln M o)) : Met l yX7_find (tws yX7_find cX7_find 2 none) ({ frames := 3, cells := 0, slots := 0, locals := 75 }) (va_Pc [.ref q, .ref o] (tm_St G Hb sh M)) (tm_Qv G Hb sh (fun M1 => (mI M1 q 0, fr M1 (q + 1)) = tl_solve (ln M o) ∧ tm_fr q (q + 3) M M1)) 0 0 (tm_A Hb) := by
  refine tm_begin (by decide) (Nat.le_of_ble_eq_true rfl) (fun p e s m below meth c ls hx hb hr hml hown htw hlk hnm hK hW hl => ?_)
  have hS : va_S (tm_A Hb) s.heap s.heap [] := va_S.rf
  have hl : lv_has ls 2 [(0, .ref q), (1, .ref o)] := hl
  obtain ⟨s0, s1, s2, s3, s4⟩ := hs
  obtain ⟨t0, t1, t2, ⟨t3, t4, t5, t6, t7⟩, ⟨u3, u4, u5, u6, u7⟩⟩ := ht
  obtain ⟨⟨hA, hB⟩, ⟨hC, hD⟩, hR1, hR2⟩ := hv
  have dS : (tl_sl (ln M o)).1.natAbs ≤ 199960002 ∧ (tl_sl (ln M o)).2.natAbs ≤ 99980001 ∧ 0 < (tl_sl (ln M o)).2 ∧ _ := tl_fsub_bd hA hC
  have dP : (tl_pl (ln M o)).1.natAbs ≤ 199960002 ∧ (tl_pl (ln M o)).2.natAbs ≤ 99980001 ∧ 0 < (tl_pl (ln M o)).2 ∧ _ := tl_fsub_bd hD hB
  have eS : tl_sl (ln M o) = fsub (fr M (o + 2)) (fr M (o + 5)) := rfl
  have eP : tl_pl (ln M o) = fsub (fr M (o + 6)) (fr M (o + 3)) := rfl
  refine lv_aload_n hx hb dX7_find_0 rfl (lv_at hl 0 rfl) ?_
  refine gf_X7_16 hx hb htw hown hK hW (by assumption) (by assumption) dX7_find_1 ?_
  refine lv_aload_n hx hb dX7_find_4 rfl (lv_at hl 1 rfl) ?_
  refine gf_X7_19 hx hb htw hown hK hW (by assumption) (by assumption) dX7_find_5 ?_
  refine gf_X7_25 hx hb htw hown hK hW (by assumption) (by assumption) dX7_find_8 ?_
  refine lv_aload_n hx hb dX7_find_11 rfl (lv_at hl 1 rfl) ?_
  refine gf_X7_30 hx hb htw hown hK hW (by assumption) (by assumption) dX7_find_12 ?_
  refine gf_X7_25 hx hb htw hown hK hW (by assumption) (by assumption) dX7_find_15 ?_
  refine tm_callv (cs_X7_33 hx hb hml hown htw hK hW (by assumption) (v_setDifference (f := fr M (o + 2)) (g := fr M (o + 5)) (by assumption) (by assumption) (by assumption) rfl rfl hA hC) ⟨rfl, rfl, Nat.le_of_ble_eq_true rfl, Nat.le_of_ble_eq_true rfl⟩ hl.1 (Nat.le_of_ble_eq_true rfl) dX7_find_18 ⟨Nat.le_of_ble_eq_true rfl, Nat.le_of_ble_eq_true rfl⟩) hS (fun M18 H locs hp18 hW hS => ?_)
  rw [hp18, ← eS] at hW
  refine lv_aload_n hx hb dX7_find_21 rfl (lv_at hl 0 rfl) ?_
  refine gf_X7_10 hx hb htw hown hK hW (by assumption) (by assumption) dX7_find_22 ?_
  refine lv_aload_n hx hb dX7_find_25 rfl (lv_at hl 1 rfl) ?_
  refine gf_X7_30 hx hb htw hown hK hW (by assumption) (by assumption) dX7_find_26 ?_
  refine gf_X7_37 hx hb htw hown hK hW (by assumption) (by assumption) dX7_find_29 ?_
  refine lv_aload_n hx hb dX7_find_32 rfl (lv_at hl 1 rfl) ?_
  refine gf_X7_19 hx hb htw hown hK hW (by assumption) (by assumption) dX7_find_33 ?_
  refine gf_X7_37 hx hb htw hown hK hW (by assumption) (by assumption) dX7_find_36 ?_
  refine tm_callv (cs_X7_33 hx hb hml hown htw hK hW (by assumption) (v_setDifference (f := fr M (o + 6)) (g := fr M (o + 3)) (by assumption) (by assumption) (by assumption) (fr_n M _ (by omega)) (fr_n M _ (by omega)) hD hB) ⟨rfl, rfl, Nat.le_of_ble_eq_true rfl, Nat.le_of_ble_eq_true rfl⟩ hl.1 (Nat.le_of_ble_eq_true rfl) dX7_find_39 ⟨Nat.le_of_ble_eq_true rfl, Nat.le_of_ble_eq_true rfl⟩) hS (fun M39 H locs hp39 hW hS => ?_)
  rw [hp39, ← eP] at hW
  have eq2 : fr (fS (fS M (q + 2) (tl_sl (ln M o))) (q + 1) (tl_pl (ln M o))) (q + 2) = tl_sl (ln M o) := (fr_n _ _ (by omega)).trans (fr_s _ _ _)
  have eq1 : fr (fS (fS M (q + 2) (tl_sl (ln M o))) (q + 1) (tl_pl (ln M o))) (q + 1) = tl_pl (ln M o) := fr_s _ _ _
  have f0 : tm_fr q (q + 3) M (fS (fS M (q + 2) (tl_sl (ln M o))) (q + 1) (tl_pl (ln M o))) := fw_tr (fw_fS _ (by omega) (by omega)) (fw_fS _ (by omega) (by omega))
  generalize hM2 : fS (fS M (q + 2) (tl_sl (ln M o))) (q + 1) (tl_pl (ln M o)) = M2 at hW eq1 eq2 f0
  have eq20 : mL M2 (q + 2) 0 = (tl_sl (ln M o)).1 := congrArg Prod.fst eq2
  have eq10 : mL M2 (q + 1) 0 = (tl_pl (ln M o)).1 := congrArg Prod.fst eq1
  have er : mI M2 o 2 = (ln M o).2.2 := (f0.2 o 2 (by omega)).1
  have hR1 : 0 ≤ mI M2 o 2 := by rw [er]; exact hR1
  have hR2 : mI M2 o 2 ≤ 2 := by rw [er]; exact hR2
  have em := f0.1
  have s1 : mR M2 q 1 = some (q + 1) := by rw [em]; exact s1
  have s2 : mR M2 q 2 = some (q + 2) := by rw [em]; exact s2
  refine lv_aload_n hx hb dX7_find_42 rfl (lv_at hl 0 rfl) ?_
  refine gf_X7_16 hx hb htw hown hK hW (by assumption) (by assumption) dX7_find_43 ?_
  refine tm_calli (cs_X7_40 hx hb hml hown htw hK hW (by assumption) (c_X0_isZero (by assumption) (by rw [eq20]; omega)) ⟨rfl, rfl, Nat.le_of_ble_eq_true rfl, Nat.le_of_ble_eq_true rfl⟩ hl.1 (Nat.le_of_ble_eq_true rfl) dX7_find_46 ⟨Nat.le_of_ble_eq_true rfl, Nat.le_of_ble_eq_true rfl⟩) hS (fun x46 M46 H locs hp46 hW hS => ?_)
  obtain ⟨ex46, eM46⟩ := hp46
  rw [eM46] at hW
  rw [ex46]
  refine ti_if_eq (tgt := 84) hx hb dX7_find_49 (by decide) (tl_b_r _) (fun h49 => ?_) (fun h49 => ?_)
  · have hz := tl_b_0.mp h49
    have hz1 : ¬ (tl_sl (ln M o)).1 = 0 := by rw [← eq20]; exact hz
    have wq : mL M2 (q + 1) 1 * mL M2 (q + 2) 0 ≠ 0 ∧ (mL M2 (q + 1) 0 * mL M2 (q + 2) 1).natAbs ≤ 4611686018427387904 ∧ (mL M2 (q + 1) 1 * mL M2 (q + 2) 0).natAbs ≤ 4611686018427387904 := by
      have w := tl_quo_bd (f := fr M2 (q + 1)) (g := fr M2 (q + 2)) (by rw [eq1]; exact ⟨dP.1, dP.2.1, dP.2.2.1⟩) (by rw [eq2]; exact ⟨dS.1, dS.2.1, dS.2.2.1⟩) hz
      exact ⟨w.1, Nat.le_trans w.2.1 (by decide), Nat.le_trans w.2.2 (by decide)⟩
    refine lv_aload_n hx hb dX7_find_84 rfl (lv_at hl 0 rfl) ?_
    refine gf_X7_10 hx hb htw hown hK hW (by assumption) (by assumption) dX7_find_85 ?_
    refine lv_aload_n hx hb dX7_find_88 rfl (lv_at hl 0 rfl) ?_
    refine gf_X7_10 hx hb htw hown hK hW (by assumption) (by assumption) dX7_find_89 ?_
    refine lv_aload_n hx hb dX7_find_92 rfl (lv_at hl 0 rfl) ?_
    refine gf_X7_16 hx hb htw hown hK hW (by assumption) (by assumption) dX7_find_93 ?_
    refine tm_callv (cs_X7_59 hx hb hml hown htw hK hW (by assumption) (c_X0_setQuotient (by assumption) (by assumption) (by assumption) wq.1 wq.2.1 wq.2.2) ⟨rfl, rfl, Nat.le_of_ble_eq_true rfl, Nat.le_of_ble_eq_true rfl⟩ hl.1 (Nat.le_of_ble_eq_true rfl) dX7_find_96 ⟨Nat.le_of_ble_eq_true rfl, Nat.le_of_ble_eq_true rfl⟩) hS (fun M96 H locs hp96 hW hS => ?_)
    rw [hp96] at hW
    have f1 : tm_fr q (q + 3) M (fS M2 (q + 1) (tl_norm (mL M2 (q + 1) 0 * mL M2 (q + 2) 1) (mL M2 (q + 1) 1 * mL M2 (q + 2) 0))) := fw_tr f0 (fw_fS _ (by omega) (by omega))
    have eq3 : fr (fS M2 (q + 1) (tl_norm (mL M2 (q + 1) 0 * mL M2 (q + 2) 1) (mL M2 (q + 1) 1 * mL M2 (q + 2) 0))) (q + 1) = fdiv (tl_pl (ln M o)) (tl_sl (ln M o)) := by rw [fr_s, ← eq1, ← eq2]
    have e30 : mL (fS M2 (q + 1) (tl_norm (mL M2 (q + 1) 0 * mL M2 (q + 2) 1) (mL M2 (q + 1) 1 * mL M2 (q + 2) 0))) (q + 2) 0 = (tl_sl (ln M o)).1 := (fL_n _ _ (by omega)).trans eq20
    have er3 : mI (fS M2 (q + 1) (tl_norm (mL M2 (q + 1) 0 * mL M2 (q + 2) 1) (mL M2 (q + 1) 1 * mL M2 (q + 2) 0))) o 2 = (ln M o).2.2 := er
    have em3 := f1.1
    generalize fS M2 (q + 1) (tl_norm (mL M2 (q + 1) 0 * mL M2 (q + 2) 1) (mL M2 (q + 1) 1 * mL M2 (q + 2) 0)) = M3 at hW f1 eq3 e30 er3 em3
    have s1 : mR M3 q 1 = some (q + 1) := by rw [em3, ← em]; exact s1
    have s2 : mR M3 q 2 = some (q + 2) := by rw [em3, ← em]; exact s2
    refine lv_aload_n hx hb dX7_find_99 rfl (lv_at hl 1 rfl) ?_
    refine gf_X7_44 hx hb htw hown hK hW (by assumption) dX7_find_100 ?_
    refine ti_if_ne (tgt := 114) hx hb dX7_find_103 (by decide) (by omega) (fun h103 => ?_) (fun h103 => ?_)
    · refine lv_aload_n hx hb dX7_find_114 rfl (lv_at hl 0 rfl) ?_
      refine lv_aload_n hx hb dX7_find_115 rfl (lv_at hl 1 rfl) ?_
      refine gf_X7_44 hx hb htw hown hK hW (by assumption) dX7_find_116 ?_
      refine ti_iconst hx hb dX7_find_119 ?_
      refine ti_icmp_ne (tgt := 127) hx hb dX7_find_120 (by decide) (by omega) (by omega) (fun h120 => ?_) (fun h120 => ?_)
      · refine ti_iconst hx hb dX7_find_127 ?_
        refine lv_aload_n hx hb dX7_find_128 rfl (lv_at hl 0 rfl) ?_
        refine gf_X7_16 hx hb htw hown hK hW (by assumption) (by assumption) dX7_find_129 ?_
        refine gf_X7_62 hx hb htw hown hK hW (by assumption) dX7_find_132 ?_
        refine ti_lconst0 hx hb dX7_find_135 ?_
        refine ti_lcmp_le (tgt := 144) hx hb dX7_find_136 dX7_find_137 (by decide) (by omega) (by omega) (fun h136 => ?_) (fun h136 => ?_)
        · refine ti_iconst hx hb dX7_find_144 ?_
          refine ti_icmp_ne (tgt := 152) hx hb dX7_find_145 (by decide) (by omega) (by omega) (fun h145 => ?_) (fun h145 => ?_)
          · refine ti_iconst hx hb dX7_find_152 ?_
            refine pf_X7_52 hx hb htw hown hK hW (by assumption) hS dX7_find_153 (fun H locs hW hS => ?_)
            exact tm_vret hx hb hr hlk hK hW hS (by first | exact absurd h145 (by decide) | exact tl_ff eq3 f1 (by rw [tl_solve, if_neg hz1, if_pos (by omega)]) | exact tl_ff eq3 f1 (by rw [tl_solve, if_neg hz1, if_neg (by omega), if_pos (by omega)]) | exact tl_ff eq3 f1 (by rw [tl_solve, if_neg hz1, if_neg (by omega), if_neg (by omega)])) dX7_find_156
          · refine ti_iconst hx hb dX7_find_148 ?_
            refine lv_goto (tgt := 153) hx hb dX7_find_149 (by decide) ?_
            refine pf_X7_52 hx hb htw hown hK hW (by assumption) hS dX7_find_153 (fun H locs hW hS => ?_)
            exact tm_vret hx hb hr hlk hK hW hS (by first | exact absurd h145 (by decide) | exact tl_ff eq3 f1 (by rw [tl_solve, if_neg hz1, if_pos (by omega)]) | exact tl_ff eq3 f1 (by rw [tl_solve, if_neg hz1, if_neg (by omega), if_pos (by omega)]) | exact tl_ff eq3 f1 (by rw [tl_solve, if_neg hz1, if_neg (by omega), if_neg (by omega)])) dX7_find_156
        · refine ti_iconst hx hb dX7_find_140 ?_
          refine lv_goto (tgt := 145) hx hb dX7_find_141 (by decide) ?_
          refine ti_icmp_ne (tgt := 152) hx hb dX7_find_145 (by decide) (by omega) (by omega) (fun h145 => ?_) (fun h145 => ?_)
          · refine ti_iconst hx hb dX7_find_152 ?_
            refine pf_X7_52 hx hb htw hown hK hW (by assumption) hS dX7_find_153 (fun H locs hW hS => ?_)
            exact tm_vret hx hb hr hlk hK hW hS (by first | exact absurd h145 (by decide) | exact tl_ff eq3 f1 (by rw [tl_solve, if_neg hz1, if_pos (by omega)]) | exact tl_ff eq3 f1 (by rw [tl_solve, if_neg hz1, if_neg (by omega), if_pos (by omega)]) | exact tl_ff eq3 f1 (by rw [tl_solve, if_neg hz1, if_neg (by omega), if_neg (by omega)])) dX7_find_156
          · refine ti_iconst hx hb dX7_find_148 ?_
            refine lv_goto (tgt := 153) hx hb dX7_find_149 (by decide) ?_
            refine pf_X7_52 hx hb htw hown hK hW (by assumption) hS dX7_find_153 (fun H locs hW hS => ?_)
            exact tm_vret hx hb hr hlk hK hW hS (by first | exact absurd h145 (by decide) | exact tl_ff eq3 f1 (by rw [tl_solve, if_neg hz1, if_pos (by omega)]) | exact tl_ff eq3 f1 (by rw [tl_solve, if_neg hz1, if_neg (by omega), if_pos (by omega)]) | exact tl_ff eq3 f1 (by rw [tl_solve, if_neg hz1, if_neg (by omega), if_neg (by omega)])) dX7_find_156
      · refine ti_iconst hx hb dX7_find_123 ?_
        refine lv_goto (tgt := 128) hx hb dX7_find_124 (by decide) ?_
        refine lv_aload_n hx hb dX7_find_128 rfl (lv_at hl 0 rfl) ?_
        refine gf_X7_16 hx hb htw hown hK hW (by assumption) (by assumption) dX7_find_129 ?_
        refine gf_X7_62 hx hb htw hown hK hW (by assumption) dX7_find_132 ?_
        refine ti_lconst0 hx hb dX7_find_135 ?_
        refine ti_lcmp_le (tgt := 144) hx hb dX7_find_136 dX7_find_137 (by decide) (by omega) (by omega) (fun h136 => ?_) (fun h136 => ?_)
        · refine ti_iconst hx hb dX7_find_144 ?_
          refine ti_icmp_ne (tgt := 152) hx hb dX7_find_145 (by decide) (by omega) (by omega) (fun h145 => ?_) (fun h145 => ?_)
          · refine ti_iconst hx hb dX7_find_152 ?_
            refine pf_X7_52 hx hb htw hown hK hW (by assumption) hS dX7_find_153 (fun H locs hW hS => ?_)
            exact tm_vret hx hb hr hlk hK hW hS (by first | exact absurd h145 (by decide) | exact tl_ff eq3 f1 (by rw [tl_solve, if_neg hz1, if_pos (by omega)]) | exact tl_ff eq3 f1 (by rw [tl_solve, if_neg hz1, if_neg (by omega), if_pos (by omega)]) | exact tl_ff eq3 f1 (by rw [tl_solve, if_neg hz1, if_neg (by omega), if_neg (by omega)])) dX7_find_156
          · refine ti_iconst hx hb dX7_find_148 ?_
            refine lv_goto (tgt := 153) hx hb dX7_find_149 (by decide) ?_
            refine pf_X7_52 hx hb htw hown hK hW (by assumption) hS dX7_find_153 (fun H locs hW hS => ?_)
            exact tm_vret hx hb hr hlk hK hW hS (by first | exact absurd h145 (by decide) | exact tl_ff eq3 f1 (by rw [tl_solve, if_neg hz1, if_pos (by omega)]) | exact tl_ff eq3 f1 (by rw [tl_solve, if_neg hz1, if_neg (by omega), if_pos (by omega)]) | exact tl_ff eq3 f1 (by rw [tl_solve, if_neg hz1, if_neg (by omega), if_neg (by omega)])) dX7_find_156
        · refine ti_iconst hx hb dX7_find_140 ?_
          refine lv_goto (tgt := 145) hx hb dX7_find_141 (by decide) ?_
          refine ti_icmp_ne (tgt := 152) hx hb dX7_find_145 (by decide) (by omega) (by omega) (fun h145 => ?_) (fun h145 => ?_)
          · refine ti_iconst hx hb dX7_find_152 ?_
            refine pf_X7_52 hx hb htw hown hK hW (by assumption) hS dX7_find_153 (fun H locs hW hS => ?_)
            exact tm_vret hx hb hr hlk hK hW hS (by first | exact absurd h145 (by decide) | exact tl_ff eq3 f1 (by rw [tl_solve, if_neg hz1, if_pos (by omega)]) | exact tl_ff eq3 f1 (by rw [tl_solve, if_neg hz1, if_neg (by omega), if_pos (by omega)]) | exact tl_ff eq3 f1 (by rw [tl_solve, if_neg hz1, if_neg (by omega), if_neg (by omega)])) dX7_find_156
          · refine ti_iconst hx hb dX7_find_148 ?_
            refine lv_goto (tgt := 153) hx hb dX7_find_149 (by decide) ?_
            refine pf_X7_52 hx hb htw hown hK hW (by assumption) hS dX7_find_153 (fun H locs hW hS => ?_)
            exact tm_vret hx hb hr hlk hK hW hS (by first | exact absurd h145 (by decide) | exact tl_ff eq3 f1 (by rw [tl_solve, if_neg hz1, if_pos (by omega)]) | exact tl_ff eq3 f1 (by rw [tl_solve, if_neg hz1, if_neg (by omega), if_pos (by omega)]) | exact tl_ff eq3 f1 (by rw [tl_solve, if_neg hz1, if_neg (by omega), if_neg (by omega)])) dX7_find_156
    · refine lv_aload_n hx hb dX7_find_106 rfl (lv_at hl 0 rfl) ?_
      refine ti_iconst hx hb dX7_find_107 ?_
      refine pf_X7_52 hx hb htw hown hK hW (by assumption) hS dX7_find_108 (fun H locs hW hS => ?_)
      refine lv_goto (tgt := 156) hx hb dX7_find_111 (by decide) ?_
      exact tm_vret hx hb hr hlk hK hW hS (by first | exact absurd h145 (by decide) | exact tl_ff eq3 f1 (by rw [tl_solve, if_neg hz1, if_pos (by omega)]) | exact tl_ff eq3 f1 (by rw [tl_solve, if_neg hz1, if_neg (by omega), if_pos (by omega)]) | exact tl_ff eq3 f1 (by rw [tl_solve, if_neg hz1, if_neg (by omega), if_neg (by omega)])) dX7_find_156
  · have hz := tl_b_n.mp h49
    have hz1 : (tl_sl (ln M o)).1 = 0 := by rw [← eq20]; exact hz
    refine lv_aload_n hx hb dX7_find_52 rfl (lv_at hl 0 rfl) ?_
    refine lv_aload_n hx hb dX7_find_53 rfl (lv_at hl 1 rfl) ?_
    refine gf_X7_44 hx hb htw hown hK hW (by assumption) dX7_find_54 ?_
    refine lv_aload_n hx hb dX7_find_57 rfl (lv_at hl 0 rfl) ?_
    refine gf_X7_10 hx hb htw hown hK hW (by assumption) (by assumption) dX7_find_58 ?_
    refine tm_calli (cs_X7_48 hx hb hml hown htw hK hW (c_X7_isTrueOfZero (by assumption) (by omega) (by rw [eq10]; omega)) ⟨rfl, rfl, Nat.le_of_ble_eq_true rfl, Nat.le_of_ble_eq_true rfl⟩ hl.1 (Nat.le_of_ble_eq_true rfl) dX7_find_61 ⟨Nat.le_of_ble_eq_true rfl, Nat.le_of_ble_eq_true rfl⟩) hS (fun x61 M61 H locs hp61 hW hS => ?_)
    obtain ⟨ex61, eM61⟩ := hp61
    rw [eM61] at hW
    rw [ex61]
    refine ti_if_eq (tgt := 71) hx hb dX7_find_64 (by decide) (by rcases tl_tz_z (mI M2 o 2) (mL M2 (q + 1) 0) with z | z <;> omega) (fun h64 => ?_) (fun h64 => ?_)
    · refine ti_iconst hx hb dX7_find_71 ?_
      refine pf_X7_52 hx hb htw hown hK hW (by assumption) hS dX7_find_72 (fun H locs hW hS => ?_)
      refine lv_aload_n hx hb dX7_find_75 rfl (lv_at hl 0 rfl) ?_
      refine gf_X7_10 hx hb htw hown hK hW (by assumption) (by assumption) dX7_find_76 ?_
      refine ti_lconst0 hx hb dX7_find_79 ?_
      refine tm_callv (cs_X7_55 hx hb hml hown htw hK hW (by assumption) (c_X0_setWhole (by assumption)) ⟨rfl, rfl, Nat.le_of_ble_eq_true rfl, Nat.le_of_ble_eq_true rfl⟩ hl.1 (Nat.le_of_ble_eq_true rfl) dX7_find_80 ⟨Nat.le_of_ble_eq_true rfl, Nat.le_of_ble_eq_true rfl⟩) hS (fun M80 H locs hp80 hW hS => ?_)
      rw [hp80] at hW
      exact tm_vret hx hb hr hlk hK hW hS (tl_ff0 f0 (by first | (rw [tl_solve, if_pos hz1, ← er, ← eq10]; rcases tl_tz_z (mI M2 o 2) (mL M2 (q + 1) 0) with z | z <;> first | exact absurd z h64 | rw [h64] | rw [z]))) dX7_find_83
    · refine ti_iconst hx hb dX7_find_67 ?_
      refine lv_goto (tgt := 72) hx hb dX7_find_68 (by decide) ?_
      refine pf_X7_52 hx hb htw hown hK hW (by assumption) hS dX7_find_72 (fun H locs hW hS => ?_)
      refine lv_aload_n hx hb dX7_find_75 rfl (lv_at hl 0 rfl) ?_
      refine gf_X7_10 hx hb htw hown hK hW (by assumption) (by assumption) dX7_find_76 ?_
      refine ti_lconst0 hx hb dX7_find_79 ?_
      refine tm_callv (cs_X7_55 hx hb hml hown htw hK hW (by assumption) (c_X0_setWhole (by assumption)) ⟨rfl, rfl, Nat.le_of_ble_eq_true rfl, Nat.le_of_ble_eq_true rfl⟩ hl.1 (Nat.le_of_ble_eq_true rfl) dX7_find_80 ⟨Nat.le_of_ble_eq_true rfl, Nat.le_of_ble_eq_true rfl⟩) hS (fun M80 H locs hp80 hW hS => ?_)
      rw [hp80] at hW
      exact tm_vret hx hb hr hlk hK hW hS (tl_ff0 f0 (by first | (rw [tl_solve, if_pos hz1, ← er, ← eq10]; rcases tl_tz_z (mI M2 o 2) (mL M2 (q + 1) 0) with z | z <;> first | exact absurd z h64 | rw [h64] | rw [z]))) dX7_find_83
end
section
/-! SolutionSet, the rest (by program: wip/whole/gen/sol.py) -/
def pok (f : tl_F) : Prop := f.1.natAbs ≤ 4611686018427387904 ∧ 0 < f.2 ∧ f.2 ≤ 4611686018427387904
theorem pok_L {f : tl_F} (h : pok f) : fLok f := ⟨by have := h.1; omega, by have := h.2; omega⟩
abbrev cmpF (f g : tl_F) : Int := tl_cmp f.1 f.2 g.1 g.2
theorem tl_cmp_r (a b c d : Int) : inI (tl_cmp a b c d) := by
  unfold tl_cmp
  split
  · omega
  · split <;> omega
def tl_holds (v : Int × tl_F) (x : tl_F) : Int := if v.1 = 1 then 1 else if v.1 = 2 then tl_b (x = v.2) else if v.1 = 3 then tl_b (cmpF x v.2 < 0) else if v.1 = 4 then tl_b (0 < cmpF x v.2) else 0
def tl_part (a b : Int × tl_F) : Int := if a.1 = 0 ∨ b.1 = 1 then 1 else if a.1 = 2 then tl_holds b a.2 else if a.1 ≠ b.1 then 0 else if a.1 = 3 then tl_b (cmpF a.2 b.2 ≤ 0) else tl_b (0 ≤ cmpF a.2 b.2)
def tl_judge (a b : Int × tl_F) : Int := if tl_part a b = 0 then 0 else if tl_part b a = 0 then 2 else 1
abbrev so (M : tm_M) (q : Nat) : Int × tl_F := (mI M q 0, fr M (q + 1))
def sook (v : Int × tl_F) : Prop := 0 ≤ v.1 ∧ v.1 ≤ 4 ∧ pok v.2
theorem tl_holds_z (v : Int × tl_F) (x : tl_F) : tl_holds v x = 0 ∨ tl_holds v x = 1 := by
  unfold tl_holds
  split
  · exact Or.inr rfl
  · split
    · exact tl_b_z _
    · split
      · exact tl_b_z _
      · split
        · exact tl_b_z _
        · exact Or.inl rfl
theorem tl_part_z (a b : Int × tl_F) : tl_part a b = 0 ∨ tl_part a b = 1 := by
  unfold tl_part
  split
  · exact Or.inr rfl
  · split
    · exact tl_holds_z _ _
    · split
      · exact Or.inl rfl
      · split <;> exact tl_b_z _
theorem dX7_holds_0 : decode cX7_holds 0 = .ok (.aload_n 0, 1) := by decide +kernel
theorem dX7_holds_1 : decode cX7_holds 1 = .ok (.getfield 52, 3) := by decide +kernel
theorem dX7_holds_4 : decode cX7_holds 4 = .ok (.tableswitch 77 1 4 #[32, 34, 43, 60], 32) := by decide +kernel
theorem dX7_holds_36 : decode cX7_holds 36 = .ok (.iconst 1, 1) := by decide +kernel
theorem dX7_holds_37 : decode cX7_holds 37 = .ok (.ireturn, 1) := by decide +kernel
theorem dX7_holds_38 : decode cX7_holds 38 = .ok (.aload_n 1, 1) := by decide +kernel
theorem dX7_holds_39 : decode cX7_holds 39 = .ok (.aload_n 0, 1) := by decide +kernel
theorem dX7_holds_40 : decode cX7_holds 40 = .ok (.getfield 10, 3) := by decide +kernel
theorem dX7_holds_43 : decode cX7_holds 43 = .ok (.invokevirtual 66, 3) := by decide +kernel
theorem dX7_holds_46 : decode cX7_holds 46 = .ok (.ireturn, 1) := by decide +kernel
theorem dX7_holds_47 : decode cX7_holds 47 = .ok (.aload_n 1, 1) := by decide +kernel
theorem dX7_holds_48 : decode cX7_holds 48 = .ok (.aload_n 0, 1) := by decide +kernel
theorem dX7_holds_49 : decode cX7_holds 49 = .ok (.getfield 10, 3) := by decide +kernel
theorem dX7_holds_52 : decode cX7_holds 52 = .ok (.invokevirtual 70, 3) := by decide +kernel
theorem dX7_holds_55 : decode cX7_holds 55 = .ok (.ifCond .ge 7, 3) := by decide +kernel
theorem dX7_holds_58 : decode cX7_holds 58 = .ok (.iconst 1, 1) := by decide +kernel
theorem dX7_holds_59 : decode cX7_holds 59 = .ok (.goto 4, 3) := by decide +kernel
theorem dX7_holds_62 : decode cX7_holds 62 = .ok (.iconst 0, 1) := by decide +kernel
theorem dX7_holds_63 : decode cX7_holds 63 = .ok (.ireturn, 1) := by decide +kernel
theorem dX7_holds_64 : decode cX7_holds 64 = .ok (.aload_n 1, 1) := by decide +kernel
theorem dX7_holds_65 : decode cX7_holds 65 = .ok (.aload_n 0, 1) := by decide +kernel
theorem dX7_holds_66 : decode cX7_holds 66 = .ok (.getfield 10, 3) := by decide +kernel
theorem dX7_holds_69 : decode cX7_holds 69 = .ok (.invokevirtual 70, 3) := by decide +kernel
theorem dX7_holds_72 : decode cX7_holds 72 = .ok (.ifCond .le 7, 3) := by decide +kernel
theorem dX7_holds_75 : decode cX7_holds 75 = .ok (.iconst 1, 1) := by decide +kernel
theorem dX7_holds_76 : decode cX7_holds 76 = .ok (.goto 4, 3) := by decide +kernel
theorem dX7_holds_79 : decode cX7_holds 79 = .ok (.iconst 0, 1) := by decide +kernel
theorem dX7_holds_80 : decode cX7_holds 80 = .ok (.ireturn, 1) := by decide +kernel
theorem dX7_holds_81 : decode cX7_holds 81 = .ok (.iconst 0, 1) := by decide +kernel
theorem dX7_holds_82 : decode cX7_holds 82 = .ok (.ireturn, 1) := by decide +kernel
set_option maxHeartbeats 4000000 in
set_option maxRecDepth 100000 in
/-- SolutionSet.holds -/
theorem c_X7_holds {l : Launch} {G : tm_G} {Hb : Heap} {sh : tm_sh} {M : tm_M} {q x : Nat} (hs : isSo sh M q) (h1 : sh x = some (2, 0)) (hv : sook (so M q)) (hxo : pok (fr M x)) : Met l yX7_holds (tws yX7_holds cX7_holds 2 (some .boolean)) ({ frames := 2, cells := 0, slots := 0, locals := 64 }) (va_Pc [.ref q, .ref x] (tm_St G Hb sh M)) (tm_Qi G Hb sh (fun r M1 => r = tl_holds (so M q) (fr M x) ∧ M1 = M)) 0 0 (tm_A Hb) := by
  refine tm_begin (by decide) (Nat.le_of_ble_eq_true rfl) (fun p e s m below meth c ls hx hb hr hml hown htw hlk hnm hK hW hl => ?_)
  have hS : va_S (tm_A Hb) s.heap s.heap [] := va_S.rf
  have hl : lv_has ls 2 [(0, .ref q), (1, .ref x)] := hl
  obtain ⟨s0, s1, s2, s3, s4⟩ := hs
  obtain ⟨v1, v2, v3⟩ := hv
  have pL := pok_L v3
  have c1 : cmpF (fr M x) (so M q).2 = tl_cmp (mL M x 0) (mL M x 1) (mL M (q + 1) 0) (mL M (q + 1) 1) := rfl
  refine lv_aload_n hx hb dX7_holds_0 rfl (lv_at hl 0 rfl) ?_
  refine gf_X7_52 hx hb htw hown hK hW (by assumption) dX7_holds_1 ?_
  refine ti_ts_1_4 (td := 81) (t1 := 36) (t2 := 38) (t3 := 47) (t4 := 64) hx hb dX7_holds_4 (show inI (mI M q 0) by have a1 : 0 ≤ mI M q 0 := v1; have a2 : mI M q 0 ≤ 4 := v2; omega) (by decide) (by decide) (by decide) (by decide) (by decide) (fun h4 => ?_) (fun h4 => ?_) (fun h4 => ?_) (fun h4 => ?_) (fun h4 => ?_)
  · refine ti_iconst hx hb dX7_holds_36 ?_
    exact tm_zret hx hb hr hlk (by first | exact Or.inl rfl | exact Or.inr rfl | assumption) hK hW hS ⟨(by show _ = tl_holds (so M q) (fr M x); unfold tl_holds; rw [if_pos (show (so M q).1 = 1 by have : (so M q).1 = mI M q 0 := rfl; omega)]), rfl⟩ dX7_holds_37
  · refine lv_aload_n hx hb dX7_holds_38 rfl (lv_at hl 1 rfl) ?_
    refine lv_aload_n hx hb dX7_holds_39 rfl (lv_at hl 0 rfl) ?_
    refine gf_X7_10 hx hb htw hown hK hW (by assumption) (by assumption) dX7_holds_40 ?_
    refine tm_calli (cs_X7_66 hx hb hml hown htw hK hW (by assumption) (c_X0_sameAs (by assumption) (by assumption) (pok_L hxo) pL) ⟨rfl, rfl, Nat.le_of_ble_eq_true rfl, Nat.le_of_ble_eq_true rfl⟩ hl.1 (Nat.le_of_ble_eq_true rfl) dX7_holds_43 ⟨Nat.le_of_ble_eq_true rfl, Nat.le_of_ble_eq_true rfl⟩) hS (fun x43 M43 H locs hp43 hW hS => ?_)
    obtain ⟨ex43, eM43⟩ := hp43
    rw [eM43] at hW
    rw [ex43]
    exact tm_zret hx hb hr hlk (tl_b_z _) hK hW hS ⟨(by show _ = tl_holds (so M q) (fr M x); unfold tl_holds; rw [if_neg (show ¬ (so M q).1 = 1 by have : (so M q).1 = mI M q 0 := rfl; omega), if_pos (show (so M q).1 = 2 by have : (so M q).1 = mI M q 0 := rfl; omega)]), rfl⟩ dX7_holds_46
  · refine lv_aload_n hx hb dX7_holds_47 rfl (lv_at hl 1 rfl) ?_
    refine lv_aload_n hx hb dX7_holds_48 rfl (lv_at hl 0 rfl) ?_
    refine gf_X7_10 hx hb htw hown hK hW (by assumption) (by assumption) dX7_holds_49 ?_
    refine tm_calli (cs_X7_70 hx hb hml hown htw hK hW (by assumption) (c_X0_compareWith (by assumption) (by assumption) hxo.1 hxo.2 v3.1 v3.2) ⟨rfl, rfl, Nat.le_of_ble_eq_true rfl, Nat.le_of_ble_eq_true rfl⟩ hl.1 (Nat.le_of_ble_eq_true rfl) dX7_holds_52 ⟨Nat.le_of_ble_eq_true rfl, Nat.le_of_ble_eq_true rfl⟩) hS (fun x52 M52 H locs hp52 hW hS => ?_)
    obtain ⟨ex52, eM52⟩ := hp52
    rw [eM52] at hW
    rw [ex52]
    refine ti_if_ge (tgt := 62) hx hb dX7_holds_55 (by decide) (tl_cmp_r _ _ _ _) (fun h55 => ?_) (fun h55 => ?_)
    · refine ti_iconst hx hb dX7_holds_62 ?_
      exact tm_zret hx hb hr hlk (by first | exact Or.inl rfl | exact Or.inr rfl | assumption) hK hW hS ⟨(by show _ = tl_holds (so M q) (fr M x); unfold tl_holds; rw [if_neg (show ¬ (so M q).1 = 1 by have : (so M q).1 = mI M q 0 := rfl; omega), if_neg (show ¬ (so M q).1 = 2 by have : (so M q).1 = mI M q 0 := rfl; omega), if_pos (show (so M q).1 = 3 by have : (so M q).1 = mI M q 0 := rfl; omega)]; first | exact tl_b_f (by omega) | exact tl_b_t (by omega)), rfl⟩ dX7_holds_63
    · refine ti_iconst hx hb dX7_holds_58 ?_
      refine lv_goto (tgt := 63) hx hb dX7_holds_59 (by decide) ?_
      exact tm_zret hx hb hr hlk (by first | exact Or.inl rfl | exact Or.inr rfl | assumption) hK hW hS ⟨(by show _ = tl_holds (so M q) (fr M x); unfold tl_holds; rw [if_neg (show ¬ (so M q).1 = 1 by have : (so M q).1 = mI M q 0 := rfl; omega), if_neg (show ¬ (so M q).1 = 2 by have : (so M q).1 = mI M q 0 := rfl; omega), if_pos (show (so M q).1 = 3 by have : (so M q).1 = mI M q 0 := rfl; omega)]; first | exact tl_b_f (by omega) | exact tl_b_t (by omega)), rfl⟩ dX7_holds_63
  · refine lv_aload_n hx hb dX7_holds_64 rfl (lv_at hl 1 rfl) ?_
    refine lv_aload_n hx hb dX7_holds_65 rfl (lv_at hl 0 rfl) ?_
    refine gf_X7_10 hx hb htw hown hK hW (by assumption) (by assumption) dX7_holds_66 ?_
    refine tm_calli (cs_X7_70 hx hb hml hown htw hK hW (by assumption) (c_X0_compareWith (by assumption) (by assumption) hxo.1 hxo.2 v3.1 v3.2) ⟨rfl, rfl, Nat.le_of_ble_eq_true rfl, Nat.le_of_ble_eq_true rfl⟩ hl.1 (Nat.le_of_ble_eq_true rfl) dX7_holds_69 ⟨Nat.le_of_ble_eq_true rfl, Nat.le_of_ble_eq_true rfl⟩) hS (fun x69 M69 H locs hp69 hW hS => ?_)
    obtain ⟨ex69, eM69⟩ := hp69
    rw [eM69] at hW
    rw [ex69]
    refine ti_if_le (tgt := 79) hx hb dX7_holds_72 (by decide) (tl_cmp_r _ _ _ _) (fun h72 => ?_) (fun h72 => ?_)
    · refine ti_iconst hx hb dX7_holds_79 ?_
      exact tm_zret hx hb hr hlk (by first | exact Or.inl rfl | exact Or.inr rfl | assumption) hK hW hS ⟨(by show _ = tl_holds (so M q) (fr M x); unfold tl_holds; rw [if_neg (show ¬ (so M q).1 = 1 by have : (so M q).1 = mI M q 0 := rfl; omega), if_neg (show ¬ (so M q).1 = 2 by have : (so M q).1 = mI M q 0 := rfl; omega), if_neg (show ¬ (so M q).1 = 3 by have : (so M q).1 = mI M q 0 := rfl; omega), if_pos (show (so M q).1 = 4 by have : (so M q).1 = mI M q 0 := rfl; omega)]; first | exact tl_b_f (by omega) | exact tl_b_t (by omega)), rfl⟩ dX7_holds_80
    · refine ti_iconst hx hb dX7_holds_75 ?_
      refine lv_goto (tgt := 80) hx hb dX7_holds_76 (by decide) ?_
      exact tm_zret hx hb hr hlk (by first | exact Or.inl rfl | exact Or.inr rfl | assumption) hK hW hS ⟨(by show _ = tl_holds (so M q) (fr M x); unfold tl_holds; rw [if_neg (show ¬ (so M q).1 = 1 by have : (so M q).1 = mI M q 0 := rfl; omega), if_neg (show ¬ (so M q).1 = 2 by have : (so M q).1 = mI M q 0 := rfl; omega), if_neg (show ¬ (so M q).1 = 3 by have : (so M q).1 = mI M q 0 := rfl; omega), if_pos (show (so M q).1 = 4 by have : (so M q).1 = mI M q 0 := rfl; omega)]; first | exact tl_b_f (by omega) | exact tl_b_t (by omega)), rfl⟩ dX7_holds_80
  · refine ti_iconst hx hb dX7_holds_81 ?_
    exact tm_zret hx hb hr hlk (by first | exact Or.inl rfl | exact Or.inr rfl | assumption) hK hW hS ⟨(by show _ = tl_holds (so M q) (fr M x); unfold tl_holds; rw [if_neg (show ¬ (so M q).1 = 1 by have : (so M q).1 = mI M q 0 := rfl; omega), if_neg (show ¬ (so M q).1 = 2 by have : (so M q).1 = mI M q 0 := rfl; omega), if_neg (show ¬ (so M q).1 = 3 by have : (so M q).1 = mI M q 0 := rfl; omega), if_neg (show ¬ (so M q).1 = 4 by have : (so M q).1 = mI M q 0 := rfl; omega)]), rfl⟩ dX7_holds_82
theorem dX7_isPartOf_0 : decode cX7_isPartOf 0 = .ok (.aload_n 0, 1) := by decide +kernel
theorem dX7_isPartOf_1 : decode cX7_isPartOf 1 = .ok (.getfield 52, 3) := by decide +kernel
theorem dX7_isPartOf_4 : decode cX7_isPartOf 4 = .ok (.ifCond .eq 11, 3) := by decide +kernel
theorem dX7_isPartOf_7 : decode cX7_isPartOf 7 = .ok (.aload_n 1, 1) := by decide +kernel
theorem dX7_isPartOf_8 : decode cX7_isPartOf 8 = .ok (.getfield 52, 3) := by decide +kernel
theorem dX7_isPartOf_11 : decode cX7_isPartOf 11 = .ok (.iconst 1, 1) := by decide +kernel
theorem dX7_isPartOf_12 : decode cX7_isPartOf 12 = .ok (.if_icmp .ne 5, 3) := by decide +kernel
theorem dX7_isPartOf_15 : decode cX7_isPartOf 15 = .ok (.iconst 1, 1) := by decide +kernel
theorem dX7_isPartOf_16 : decode cX7_isPartOf 16 = .ok (.ireturn, 1) := by decide +kernel
theorem dX7_isPartOf_17 : decode cX7_isPartOf 17 = .ok (.aload_n 0, 1) := by decide +kernel
theorem dX7_isPartOf_18 : decode cX7_isPartOf 18 = .ok (.getfield 52, 3) := by decide +kernel
theorem dX7_isPartOf_21 : decode cX7_isPartOf 21 = .ok (.iconst 2, 1) := by decide +kernel
theorem dX7_isPartOf_22 : decode cX7_isPartOf 22 = .ok (.if_icmp .ne 12, 3) := by decide +kernel
theorem dX7_isPartOf_25 : decode cX7_isPartOf 25 = .ok (.aload_n 1, 1) := by decide +kernel
theorem dX7_isPartOf_26 : decode cX7_isPartOf 26 = .ok (.aload_n 0, 1) := by decide +kernel
theorem dX7_isPartOf_27 : decode cX7_isPartOf 27 = .ok (.getfield 10, 3) := by decide +kernel
theorem dX7_isPartOf_30 : decode cX7_isPartOf 30 = .ok (.invokevirtual 78, 3) := by decide +kernel
theorem dX7_isPartOf_33 : decode cX7_isPartOf 33 = .ok (.ireturn, 1) := by decide +kernel
theorem dX7_isPartOf_34 : decode cX7_isPartOf 34 = .ok (.aload_n 0, 1) := by decide +kernel
theorem dX7_isPartOf_35 : decode cX7_isPartOf 35 = .ok (.getfield 52, 3) := by decide +kernel
theorem dX7_isPartOf_38 : decode cX7_isPartOf 38 = .ok (.aload_n 1, 1) := by decide +kernel
theorem dX7_isPartOf_39 : decode cX7_isPartOf 39 = .ok (.getfield 52, 3) := by decide +kernel
theorem dX7_isPartOf_42 : decode cX7_isPartOf 42 = .ok (.if_icmp .eq 5, 3) := by decide +kernel
theorem dX7_isPartOf_45 : decode cX7_isPartOf 45 = .ok (.iconst 0, 1) := by decide +kernel
theorem dX7_isPartOf_46 : decode cX7_isPartOf 46 = .ok (.ireturn, 1) := by decide +kernel
theorem dX7_isPartOf_47 : decode cX7_isPartOf 47 = .ok (.aload_n 0, 1) := by decide +kernel
theorem dX7_isPartOf_48 : decode cX7_isPartOf 48 = .ok (.getfield 10, 3) := by decide +kernel
theorem dX7_isPartOf_51 : decode cX7_isPartOf 51 = .ok (.aload_n 1, 1) := by decide +kernel
theorem dX7_isPartOf_52 : decode cX7_isPartOf 52 = .ok (.getfield 10, 3) := by decide +kernel
theorem dX7_isPartOf_55 : decode cX7_isPartOf 55 = .ok (.invokevirtual 70, 3) := by decide +kernel
theorem dX7_isPartOf_58 : decode cX7_isPartOf 58 = .ok (.istore_n 2, 1) := by decide +kernel
theorem dX7_isPartOf_59 : decode cX7_isPartOf 59 = .ok (.aload_n 0, 1) := by decide +kernel
theorem dX7_isPartOf_60 : decode cX7_isPartOf 60 = .ok (.getfield 52, 3) := by decide +kernel
theorem dX7_isPartOf_63 : decode cX7_isPartOf 63 = .ok (.iconst 3, 1) := by decide +kernel
theorem dX7_isPartOf_64 : decode cX7_isPartOf 64 = .ok (.if_icmp .ne 15, 3) := by decide +kernel
theorem dX7_isPartOf_67 : decode cX7_isPartOf 67 = .ok (.iload_n 2, 1) := by decide +kernel
theorem dX7_isPartOf_68 : decode cX7_isPartOf 68 = .ok (.ifCond .gt 7, 3) := by decide +kernel
theorem dX7_isPartOf_71 : decode cX7_isPartOf 71 = .ok (.iconst 1, 1) := by decide +kernel
theorem dX7_isPartOf_72 : decode cX7_isPartOf 72 = .ok (.goto 16, 3) := by decide +kernel
theorem dX7_isPartOf_75 : decode cX7_isPartOf 75 = .ok (.iconst 0, 1) := by decide +kernel
theorem dX7_isPartOf_76 : decode cX7_isPartOf 76 = .ok (.goto 12, 3) := by decide +kernel
theorem dX7_isPartOf_79 : decode cX7_isPartOf 79 = .ok (.iload_n 2, 1) := by decide +kernel
theorem dX7_isPartOf_80 : decode cX7_isPartOf 80 = .ok (.ifCond .lt 7, 3) := by decide +kernel
theorem dX7_isPartOf_83 : decode cX7_isPartOf 83 = .ok (.iconst 1, 1) := by decide +kernel
theorem dX7_isPartOf_84 : decode cX7_isPartOf 84 = .ok (.goto 4, 3) := by decide +kernel
theorem dX7_isPartOf_87 : decode cX7_isPartOf 87 = .ok (.iconst 0, 1) := by decide +kernel
theorem dX7_isPartOf_88 : decode cX7_isPartOf 88 = .ok (.ireturn, 1) := by decide +kernel
set_option maxHeartbeats 4000000 in
set_option maxRecDepth 100000 in
/-- SolutionSet.isPartOf -/
theorem c_X7_isPartOf {l : Launch} {G : tm_G} {Hb : Heap} {sh : tm_sh} {M : tm_M} {q o : Nat} (hs : isSo sh M q) (ht : isSo sh M o) (hv : sook (so M q)) (hw : sook (so M o)) : Met l yX7_isPartOf (tws yX7_isPartOf cX7_isPartOf 3 (some .boolean)) ({ frames := 3, cells := 0, slots := 0, locals := 85 }) (va_Pc [.ref q, .ref o] (tm_St G Hb sh M)) (tm_Qi G Hb sh (fun r M1 => r = tl_part (so M q) (so M o) ∧ M1 = M)) 0 0 (tm_A Hb) := by
  refine tm_begin (by decide) (Nat.le_of_ble_eq_true rfl) (fun p e s m below meth c ls hx hb hr hml hown htw hlk hnm hK hW hl => ?_)
  have hS : va_S (tm_A Hb) s.heap s.heap [] := va_S.rf
  have hl : lv_has ls 3 [(0, .ref q), (1, .ref o)] := hl
  obtain ⟨s0, s1, s2, s3, s4⟩ := hs
  obtain ⟨t0, t1, t2, t3, t4⟩ := ht
  have v1 : 0 ≤ mI M q 0 := hv.1
  have v2 : mI M q 0 ≤ 4 := hv.2.1
  have w1 : 0 ≤ mI M o 0 := hw.1
  have w2 : mI M o 0 ≤ 4 := hw.2.1
  have a1 : (so M q).1 = mI M q 0 := rfl
  have a2 : (so M o).1 = mI M o 0 := rfl
  have c1 : cmpF (so M q).2 (so M o).2 = tl_cmp (mL M (q + 1) 0) (mL M (q + 1) 1) (mL M (o + 1) 0) (mL M (o + 1) 1) := rfl
  refine lv_aload_n hx hb dX7_isPartOf_0 rfl (lv_at hl 0 rfl) ?_
  refine gf_X7_52 hx hb htw hown hK hW (by assumption) dX7_isPartOf_1 ?_
  refine ti_if_eq (tgt := 15) hx hb dX7_isPartOf_4 (by decide) (by omega) (fun h4 => ?_) (fun h4 => ?_)
  · refine ti_iconst hx hb dX7_isPartOf_15 ?_
    exact tm_zret hx hb hr hlk (by first | exact Or.inl rfl | exact Or.inr rfl | assumption) hK hW hS ⟨(by show _ = tl_part (so M q) (so M o); unfold tl_part; rw [if_pos (show (so M q).1 = 0 ∨ (so M o).1 = 1 by omega)]), rfl⟩ dX7_isPartOf_16
  · refine lv_aload_n hx hb dX7_isPartOf_7 rfl (lv_at hl 1 rfl) ?_
    refine gf_X7_52 hx hb htw hown hK hW (by assumption) dX7_isPartOf_8 ?_
    refine ti_iconst hx hb dX7_isPartOf_11 ?_
    refine ti_icmp_ne (tgt := 17) hx hb dX7_isPartOf_12 (by decide) (by omega) (by omega) (fun h12 => ?_) (fun h12 => ?_)
    · refine lv_aload_n hx hb dX7_isPartOf_17 rfl (lv_at hl 0 rfl) ?_
      refine gf_X7_52 hx hb htw hown hK hW (by assumption) dX7_isPartOf_18 ?_
      refine ti_iconst hx hb dX7_isPartOf_21 ?_
      refine ti_icmp_ne (tgt := 34) hx hb dX7_isPartOf_22 (by decide) (by omega) (by omega) (fun h22 => ?_) (fun h22 => ?_)
      · refine lv_aload_n hx hb dX7_isPartOf_34 rfl (lv_at hl 0 rfl) ?_
        refine gf_X7_52 hx hb htw hown hK hW (by assumption) dX7_isPartOf_35 ?_
        refine lv_aload_n hx hb dX7_isPartOf_38 rfl (lv_at hl 1 rfl) ?_
        refine gf_X7_52 hx hb htw hown hK hW (by assumption) dX7_isPartOf_39 ?_
        refine ti_icmp_eq (tgt := 47) hx hb dX7_isPartOf_42 (by decide) (by omega) (by omega) (fun h42 => ?_) (fun h42 => ?_)
        · refine lv_aload_n hx hb dX7_isPartOf_47 rfl (lv_at hl 0 rfl) ?_
          refine gf_X7_10 hx hb htw hown hK hW (by assumption) (by assumption) dX7_isPartOf_48 ?_
          refine lv_aload_n hx hb dX7_isPartOf_51 rfl (lv_at hl 1 rfl) ?_
          refine gf_X7_10 hx hb htw hown hK hW (by assumption) (by assumption) dX7_isPartOf_52 ?_
          refine tm_calli (cs_X7_70 hx hb hml hown htw hK hW (by assumption) (c_X0_compareWith (by assumption) (by assumption) hv.2.2.1 hv.2.2.2 hw.2.2.1 hw.2.2.2) ⟨rfl, rfl, Nat.le_of_ble_eq_true rfl, Nat.le_of_ble_eq_true rfl⟩ hl.1 (Nat.le_of_ble_eq_true rfl) dX7_isPartOf_55 ⟨Nat.le_of_ble_eq_true rfl, Nat.le_of_ble_eq_true rfl⟩) hS (fun x55 M55 H locs hp55 hW hS => ?_)
          obtain ⟨ex55, eM55⟩ := hp55
          rw [eM55] at hW
          rw [ex55]
          refine lv_istore_n (lv' := [(2, _), (0, _), (1, _)]) hx hb dX7_isPartOf_58 rfl hl (by decide) rfl (fun ls hl => ?_)
          refine lv_aload_n hx hb dX7_isPartOf_59 rfl (lv_at hl 1 rfl) ?_
          refine gf_X7_52 hx hb htw hown hK hW (by assumption) dX7_isPartOf_60 ?_
          refine ti_iconst hx hb dX7_isPartOf_63 ?_
          refine ti_icmp_ne (tgt := 79) hx hb dX7_isPartOf_64 (by decide) (by omega) (by omega) (fun h64 => ?_) (fun h64 => ?_)
          · refine lv_iload_n hx hb dX7_isPartOf_79 rfl (lv_at hl 0 rfl) ?_
            refine ti_if_lt (tgt := 87) hx hb dX7_isPartOf_80 (by decide) (tl_cmp_r _ _ _ _) (fun h80 => ?_) (fun h80 => ?_)
            · refine ti_iconst hx hb dX7_isPartOf_87 ?_
              exact tm_zret hx hb hr hlk (by first | exact Or.inl rfl | exact Or.inr rfl | assumption) hK hW hS (by first | exact ⟨(by show _ = tl_part (so M q) (so M o); unfold tl_part; rw [if_neg (show ¬ ((so M q).1 = 0 ∨ (so M o).1 = 1) by omega), if_neg (show ¬ (so M q).1 = 2 by omega), if_neg (show ¬ (so M q).1 ≠ (so M o).1 by omega), if_pos (show (so M q).1 = 3 by omega)]; first | exact tl_b_f (by omega) | exact tl_b_t (by omega)), rfl⟩ | exact ⟨(by show _ = tl_part (so M q) (so M o); unfold tl_part; rw [if_neg (show ¬ ((so M q).1 = 0 ∨ (so M o).1 = 1) by omega), if_neg (show ¬ (so M q).1 = 2 by omega), if_neg (show ¬ (so M q).1 ≠ (so M o).1 by omega), if_neg (show ¬ (so M q).1 = 3 by omega)]; first | exact tl_b_f (by omega) | exact tl_b_t (by omega)), rfl⟩) dX7_isPartOf_88
            · refine ti_iconst hx hb dX7_isPartOf_83 ?_
              refine lv_goto (tgt := 88) hx hb dX7_isPartOf_84 (by decide) ?_
              exact tm_zret hx hb hr hlk (by first | exact Or.inl rfl | exact Or.inr rfl | assumption) hK hW hS (by first | exact ⟨(by show _ = tl_part (so M q) (so M o); unfold tl_part; rw [if_neg (show ¬ ((so M q).1 = 0 ∨ (so M o).1 = 1) by omega), if_neg (show ¬ (so M q).1 = 2 by omega), if_neg (show ¬ (so M q).1 ≠ (so M o).1 by omega), if_pos (show (so M q).1 = 3 by omega)]; first | exact tl_b_f (by omega) | exact tl_b_t (by omega)), rfl⟩ | exact ⟨(by show _ = tl_part (so M q) (so M o); unfold tl_part; rw [if_neg (show ¬ ((so M q).1 = 0 ∨ (so M o).1 = 1) by omega), if_neg (show ¬ (so M q).1 = 2 by omega), if_neg (show ¬ (so M q).1 ≠ (so M o).1 by omega), if_neg (show ¬ (so M q).1 = 3 by omega)]; first | exact tl_b_f (by omega) | exact tl_b_t (by omega)), rfl⟩) dX7_isPartOf_88
          · refine lv_iload_n hx hb dX7_isPartOf_67 rfl (lv_at hl 0 rfl) ?_
            refine ti_if_gt (tgt := 75) hx hb dX7_isPartOf_68 (by decide) (tl_cmp_r _ _ _ _) (fun h68 => ?_) (fun h68 => ?_)
            · refine ti_iconst hx hb dX7_isPartOf_75 ?_
              refine lv_goto (tgt := 88) hx hb dX7_isPartOf_76 (by decide) ?_
              exact tm_zret hx hb hr hlk (by first | exact Or.inl rfl | exact Or.inr rfl | assumption) hK hW hS (by first | exact ⟨(by show _ = tl_part (so M q) (so M o); unfold tl_part; rw [if_neg (show ¬ ((so M q).1 = 0 ∨ (so M o).1 = 1) by omega), if_neg (show ¬ (so M q).1 = 2 by omega), if_neg (show ¬ (so M q).1 ≠ (so M o).1 by omega), if_pos (show (so M q).1 = 3 by omega)]; first | exact tl_b_f (by omega) | exact tl_b_t (by omega)), rfl⟩ | exact ⟨(by show _ = tl_part (so M q) (so M o); unfold tl_part; rw [if_neg (show ¬ ((so M q).1 = 0 ∨ (so M o).1 = 1) by omega), if_neg (show ¬ (so M q).1 = 2 by omega), if_neg (show ¬ (so M q).1 ≠ (so M o).1 by omega), if_neg (show ¬ (so M q).1 = 3 by omega)]; first | exact tl_b_f (by omega) | exact tl_b_t (by omega)), rfl⟩) dX7_isPartOf_88
            · refine ti_iconst hx hb dX7_isPartOf_71 ?_
              refine lv_goto (tgt := 88) hx hb dX7_isPartOf_72 (by decide) ?_
              exact tm_zret hx hb hr hlk (by first | exact Or.inl rfl | exact Or.inr rfl | assumption) hK hW hS (by first | exact ⟨(by show _ = tl_part (so M q) (so M o); unfold tl_part; rw [if_neg (show ¬ ((so M q).1 = 0 ∨ (so M o).1 = 1) by omega), if_neg (show ¬ (so M q).1 = 2 by omega), if_neg (show ¬ (so M q).1 ≠ (so M o).1 by omega), if_pos (show (so M q).1 = 3 by omega)]; first | exact tl_b_f (by omega) | exact tl_b_t (by omega)), rfl⟩ | exact ⟨(by show _ = tl_part (so M q) (so M o); unfold tl_part; rw [if_neg (show ¬ ((so M q).1 = 0 ∨ (so M o).1 = 1) by omega), if_neg (show ¬ (so M q).1 = 2 by omega), if_neg (show ¬ (so M q).1 ≠ (so M o).1 by omega), if_neg (show ¬ (so M q).1 = 3 by omega)]; first | exact tl_b_f (by omega) | exact tl_b_t (by omega)), rfl⟩) dX7_isPartOf_88
        · refine ti_iconst hx hb dX7_isPartOf_45 ?_
          exact tm_zret hx hb hr hlk (by first | exact Or.inl rfl | exact Or.inr rfl | assumption) hK hW hS ⟨(by show _ = tl_part (so M q) (so M o); unfold tl_part; rw [if_neg (show ¬ ((so M q).1 = 0 ∨ (so M o).1 = 1) by omega), if_neg (show ¬ (so M q).1 = 2 by omega), if_pos (show (so M q).1 ≠ (so M o).1 by omega)]), rfl⟩ dX7_isPartOf_46
      · refine lv_aload_n hx hb dX7_isPartOf_25 rfl (lv_at hl 1 rfl) ?_
        refine lv_aload_n hx hb dX7_isPartOf_26 rfl (lv_at hl 0 rfl) ?_
        refine gf_X7_10 hx hb htw hown hK hW (by assumption) (by assumption) dX7_isPartOf_27 ?_
        refine tm_calli (cs_X7_78 hx hb hml hown htw hK hW (by assumption) (c_X7_holds ⟨t0, t1, t2, t3, t4⟩ (by assumption) hw hv.2.2) ⟨rfl, rfl, Nat.le_of_ble_eq_true rfl, Nat.le_of_ble_eq_true rfl⟩ hl.1 (Nat.le_of_ble_eq_true rfl) dX7_isPartOf_30 ⟨Nat.le_of_ble_eq_true rfl, Nat.le_of_ble_eq_true rfl⟩) hS (fun x30 M30 H locs hp30 hW hS => ?_)
        obtain ⟨ex30, eM30⟩ := hp30
        rw [eM30] at hW
        rw [ex30]
        exact tm_zret hx hb hr hlk (tl_holds_z _ _) hK hW hS ⟨(by show _ = tl_part (so M q) (so M o); unfold tl_part; rw [if_neg (show ¬ ((so M q).1 = 0 ∨ (so M o).1 = 1) by omega), if_pos (show (so M q).1 = 2 by omega)]), rfl⟩ dX7_isPartOf_33
    · refine ti_iconst hx hb dX7_isPartOf_15 ?_
      exact tm_zret hx hb hr hlk (by first | exact Or.inl rfl | exact Or.inr rfl | assumption) hK hW hS ⟨(by show _ = tl_part (so M q) (so M o); unfold tl_part; rw [if_pos (show (so M q).1 = 0 ∨ (so M o).1 = 1 by omega)]), rfl⟩ dX7_isPartOf_16
theorem dX7_judge_0 : decode cX7_judge 0 = .ok (.aload_n 0, 1) := by decide +kernel
theorem dX7_judge_1 : decode cX7_judge 1 = .ok (.aload_n 1, 1) := by decide +kernel
theorem dX7_judge_2 : decode cX7_judge 2 = .ok (.invokevirtual 74, 3) := by decide +kernel
theorem dX7_judge_5 : decode cX7_judge 5 = .ok (.ifCond .ne 5, 3) := by decide +kernel
theorem dX7_judge_8 : decode cX7_judge 8 = .ok (.iconst 0, 1) := by decide +kernel
theorem dX7_judge_9 : decode cX7_judge 9 = .ok (.ireturn, 1) := by decide +kernel
theorem dX7_judge_10 : decode cX7_judge 10 = .ok (.aload_n 1, 1) := by decide +kernel
theorem dX7_judge_11 : decode cX7_judge 11 = .ok (.aload_n 0, 1) := by decide +kernel
theorem dX7_judge_12 : decode cX7_judge 12 = .ok (.invokevirtual 74, 3) := by decide +kernel
theorem dX7_judge_15 : decode cX7_judge 15 = .ok (.ifCond .eq 7, 3) := by decide +kernel
theorem dX7_judge_18 : decode cX7_judge 18 = .ok (.iconst 1, 1) := by decide +kernel
theorem dX7_judge_19 : decode cX7_judge 19 = .ok (.goto 4, 3) := by decide +kernel
theorem dX7_judge_22 : decode cX7_judge 22 = .ok (.iconst 2, 1) := by decide +kernel
theorem dX7_judge_23 : decode cX7_judge 23 = .ok (.ireturn, 1) := by decide +kernel
set_option maxHeartbeats 4000000 in
set_option maxRecDepth 100000 in
/-- SolutionSet.judge -/
theorem c_X7_judge {l : Launch} {G : tm_G} {Hb : Heap} {sh : tm_sh} {M : tm_M} {q o : Nat} (hs : isSo sh M q) (ht : isSo sh M o) (hv : sook (so M q)) (hw : sook (so M o)) : Met l yX7_judge (tws yX7_judge cX7_judge 2 (some .int)) ({ frames := 4, cells := 0, slots := 0, locals := 107 }) (va_Pc [.ref q, .ref o] (tm_St G Hb sh M)) (tm_Qi G Hb sh (fun r M1 => r = tl_judge (so M q) (so M o) ∧ M1 = M)) 0 0 (tm_A Hb) := by
  refine tm_begin (by decide) (Nat.le_of_ble_eq_true rfl) (fun p e s m below meth c ls hx hb hr hml hown htw hlk hnm hK hW hl => ?_)
  have hS : va_S (tm_A Hb) s.heap s.heap [] := va_S.rf
  have hl : lv_has ls 2 [(0, .ref q), (1, .ref o)] := hl
  have s0 := hs.1
  have t0 := ht.1
  refine lv_aload_n hx hb dX7_judge_0 rfl (lv_at hl 0 rfl) ?_
  refine lv_aload_n hx hb dX7_judge_1 rfl (lv_at hl 1 rfl) ?_
  refine tm_calli (cs_X7_74 hx hb hml hown htw hK hW (by assumption) (c_X7_isPartOf hs ht hv hw) ⟨rfl, rfl, Nat.le_of_ble_eq_true rfl, Nat.le_of_ble_eq_true rfl⟩ hl.1 (Nat.le_of_ble_eq_true rfl) dX7_judge_2 ⟨Nat.le_of_ble_eq_true rfl, Nat.le_of_ble_eq_true rfl⟩) hS (fun x2 M2 H locs hp2 hW hS => ?_)
  obtain ⟨ex2, eM2⟩ := hp2
  rw [eM2] at hW
  rw [ex2]
  refine ti_if_ne (tgt := 10) hx hb dX7_judge_5 (by decide) (by rcases tl_part_z (so M q) (so M o) with z | z <;> omega) (fun h5 => ?_) (fun h5 => ?_)
  · refine lv_aload_n hx hb dX7_judge_10 rfl (lv_at hl 1 rfl) ?_
    refine lv_aload_n hx hb dX7_judge_11 rfl (lv_at hl 0 rfl) ?_
    refine tm_calli (cs_X7_74 hx hb hml hown htw hK hW (by assumption) (c_X7_isPartOf ht hs hw hv) ⟨rfl, rfl, Nat.le_of_ble_eq_true rfl, Nat.le_of_ble_eq_true rfl⟩ hl.1 (Nat.le_of_ble_eq_true rfl) dX7_judge_12 ⟨Nat.le_of_ble_eq_true rfl, Nat.le_of_ble_eq_true rfl⟩) hS (fun x12 M12 H locs hp12 hW hS => ?_)
    obtain ⟨ex12, eM12⟩ := hp12
    rw [eM12] at hW
    rw [ex12]
    refine ti_if_eq (tgt := 22) hx hb dX7_judge_15 (by decide) (by rcases tl_part_z (so M o) (so M q) with z | z <;> omega) (fun h15 => ?_) (fun h15 => ?_)
    · refine ti_iconst hx hb dX7_judge_22 ?_
      exact tm_iret hx hb hr hlk hK hW hS ⟨by first | rw [tl_judge, if_neg h5, if_pos h15] | rw [tl_judge, if_neg h5, if_neg h15], rfl⟩ dX7_judge_23
    · refine ti_iconst hx hb dX7_judge_18 ?_
      refine lv_goto (tgt := 23) hx hb dX7_judge_19 (by decide) ?_
      exact tm_iret hx hb hr hlk hK hW hS ⟨by first | rw [tl_judge, if_neg h5, if_pos h15] | rw [tl_judge, if_neg h5, if_neg h15], rfl⟩ dX7_judge_23
  · refine ti_iconst hx hb dX7_judge_8 ?_
    exact tm_iret hx hb hr hlk hK hW hS ⟨by rw [tl_judge, if_pos h5], rfl⟩ dX7_judge_9
end
section
/-! Plan (by program: wip/whole/gen/plan.py) -/
def tl_kind (v : tl_L) : Int := if ¬ v.2.1.1.1 = 0 then 1 else if ¬ v.1.2.1 = 0 then 2 else if v.1.1.1 = 0 ∨ v.1.1 = (1, 1) then 0 else 3
def tl_planv (v : tl_L) : tl_L := if tl_kind v = 1 then ((fsub v.1.1 v.2.1.1, v.1.2), ((0, 1), v.2.1.2), v.2.2) else if tl_kind v = 2 then ((v.1.1, (0, 1)), (v.2.1.1, fsub v.2.1.2 v.1.2), v.2.2) else if tl_kind v = 3 then (((1, 1), v.1.2), (v.2.1.1, fdiv v.2.1.2 v.1.1), if v.1.1.1 < 0 ∧ ¬ v.2.2 = 0 then 3 - v.2.2 else v.2.2) else v
abbrev lfit (v : tl_L) : Prop := (ffit v.1.1 ∧ ffit v.1.2) ∧ ffit v.2.1.1 ∧ ffit v.2.1.2
def lLok (v : tl_L) : Prop := (fLok v.1.1 ∧ fLok v.1.2) ∧ fLok v.2.1.1 ∧ fLok v.2.1.2
def tl_plan (v : tl_L) : Int := if lfit (tl_planv v) then tl_kind v else -1
theorem tl_kind_r (v : tl_L) : 0 ≤ tl_kind v ∧ tl_kind v ≤ 3 := by
  unfold tl_kind
  split
  · omega
  · split
    · omega
    · split <;> omega
theorem fLok_1 : fLok (1, 1) := by unfold fLok; omega
theorem fLok_0 : fLok (0, 1) := by unfold fLok; omega
theorem fLok_sub {f g : tl_F} (hf : fok f) (hg : fok g) : fLok (fsub f g) := fLok_norm (tl_bd hf hg).1 (tl_bd hf hg).2.2.2.1 (tl_bd hf hg).2.1
theorem fLok_add {f g : tl_F} (hf : fok f) (hg : fok g) : fLok (fadd f g) := fLok_norm (tl_bd hf hg).1 (tl_bd hf hg).2.2.1 (tl_bd hf hg).2.1
theorem fLok_mul {f g : tl_F} (hf : fok f) (hg : fok g) : fLok (fmul f g) := fLok_norm (tl_bd hf hg).1 (tl_bd hf hg).2.2.2.2.1 (tl_bd hf hg).2.1
theorem fLok_div {f g : tl_F} (hf : fok f) (hg : fok g) (hz : g.1 ≠ 0) : fLok (fdiv f g) := fLok_norm (tl_n0 (fok_ab hf).2.2 hz) (tl_bd hf hg).2.2.2.2.2.1 (tl_bd hf hg).2.2.2.2.2.2
theorem lLok_of {v : tl_L} (h : lok v) : lLok v := ⟨⟨fLok_of h.1.1, fLok_of h.1.2⟩, fLok_of h.2.1.1, fLok_of h.2.1.2⟩
theorem tl_kind3 {v : tl_L} (h : tl_kind v = 3) : ¬ v.1.1.1 = 0 := by
  unfold tl_kind at h
  split at h
  · omega
  · split at h
    · omega
    · split at h
      · omega
      · rename_i z
        exact fun e => z (Or.inl e)
theorem lLok_plan {v : tl_L} (h : lok v) : lLok (tl_planv v) := by
  unfold tl_planv
  split
  · exact ⟨⟨fLok_sub h.1.1 h.2.1.1, fLok_of h.1.2⟩, fLok_0, fLok_of h.2.1.2⟩
  · split
    · exact ⟨⟨fLok_of h.1.1, fLok_0⟩, fLok_of h.2.1.1, fLok_sub h.2.1.2 h.1.2⟩
    · split
      · rename_i z
        exact ⟨⟨fLok_1, fLok_of h.1.2⟩, fLok_of h.2.1.1, fLok_div h.2.1.2 h.1.1 (tl_kind3 z)⟩
      · exact lLok_of h
theorem isSd_m {sh : tm_sh} {M M1 : tm_M} {q : Nat} (h : isSd sh M q) (e : mR M1 = mR M) : isSd sh M1 q := ⟨h.1, h.2.1, h.2.2.1, by rw [e]; exact h.2.2.2.1, by rw [e]; exact h.2.2.2.2⟩
theorem isLn_m {sh : tm_sh} {M M1 : tm_M} {q : Nat} (h : isLn sh M q) (e : mR M1 = mR M) : isLn sh M1 q := ⟨h.1, by rw [e]; exact h.2.1, by rw [e]; exact h.2.2.1, isSd_m h.2.2.2.1 e, isSd_m h.2.2.2.2 e⟩
theorem ln_ext {M : tm_M} {q : Nat} {A B C D : tl_F} {r : Int} (h1 : fr M (q + 2) = A) (h2 : fr M (q + 3) = B) (h3 : fr M (q + 5) = C) (h4 : fr M (q + 6) = D) (h5 : mI M q 2 = r) : ln M q = ((A, B), (C, D), r) := by
  subst h1 h2 h3 h4 h5
  rfl
theorem fw_lS {q : Nat} {M : tm_M} (v : tl_L) : tm_fr q (q + 7) M (lS M q v) := fw_tr (fw_tr (fw_tr (fw_tr (fw_fS _ (by omega) (by omega)) (fw_fS _ (by omega) (by omega))) (fw_fS _ (by omega) (by omega))) (fw_fS _ (by omega) (by omega))) (fw_sI _ (by omega) (by omega))
/-- the parts of a line, out of its value -/
theorem ln_at {M : tm_M} {q : Nat} {v : tl_L} (h : ln M q = v) : fr M (q + 2) = v.1.1 ∧ fr M (q + 3) = v.1.2 ∧ fr M (q + 5) = v.2.1.1 ∧ fr M (q + 6) = v.2.1.2 ∧ mI M q 2 = v.2.2 := by
  subst h
  exact ⟨rfl, rfl, rfl, rfl, rfl⟩
theorem tl_turn {M2 : tm_M} {q : Nat} {x r : Int} (hr : mI M2 q 2 = r) (hx : x < 0) : (if mI M2 q 2 = 0 then M2 else sI M2 q 2 (3 - mI M2 q 2)) = if x < 0 ∧ ¬ r = 0 then sI M2 q 2 (3 - r) else M2 := by
  rw [hr]
  by_cases z : r = 0
  · rw [if_pos z, if_neg (fun h => h.2 z)]
  · rw [if_neg z, if_pos ⟨hx, z⟩]
theorem dX3_kindFor_0 : decode cX3_kindFor 0 = .ok (.aload_n 0, 1) := by decide +kernel
theorem dX3_kindFor_1 : decode cX3_kindFor 1 = .ok (.getfield 29, 3) := by decide +kernel
theorem dX3_kindFor_4 : decode cX3_kindFor 4 = .ok (.getfield 23, 3) := by decide +kernel
theorem dX3_kindFor_7 : decode cX3_kindFor 7 = .ok (.invokevirtual 53, 3) := by decide +kernel
theorem dX3_kindFor_10 : decode cX3_kindFor 10 = .ok (.ifCond .ne 5, 3) := by decide +kernel
theorem dX3_kindFor_13 : decode cX3_kindFor 13 = .ok (.iconst 1, 1) := by decide +kernel
theorem dX3_kindFor_14 : decode cX3_kindFor 14 = .ok (.ireturn, 1) := by decide +kernel
theorem dX3_kindFor_15 : decode cX3_kindFor 15 = .ok (.aload_n 0, 1) := by decide +kernel
theorem dX3_kindFor_16 : decode cX3_kindFor 16 = .ok (.getfield 19, 3) := by decide +kernel
theorem dX3_kindFor_19 : decode cX3_kindFor 19 = .ok (.getfield 42, 3) := by decide +kernel
theorem dX3_kindFor_22 : decode cX3_kindFor 22 = .ok (.invokevirtual 53, 3) := by decide +kernel
theorem dX3_kindFor_25 : decode cX3_kindFor 25 = .ok (.ifCond .ne 5, 3) := by decide +kernel
theorem dX3_kindFor_28 : decode cX3_kindFor 28 = .ok (.iconst 2, 1) := by decide +kernel
theorem dX3_kindFor_29 : decode cX3_kindFor 29 = .ok (.ireturn, 1) := by decide +kernel
theorem dX3_kindFor_30 : decode cX3_kindFor 30 = .ok (.aload_n 0, 1) := by decide +kernel
theorem dX3_kindFor_31 : decode cX3_kindFor 31 = .ok (.getfield 19, 3) := by decide +kernel
theorem dX3_kindFor_34 : decode cX3_kindFor 34 = .ok (.getfield 23, 3) := by decide +kernel
theorem dX3_kindFor_37 : decode cX3_kindFor 37 = .ok (.invokevirtual 53, 3) := by decide +kernel
theorem dX3_kindFor_40 : decode cX3_kindFor 40 = .ok (.ifCond .ne 17, 3) := by decide +kernel
theorem dX3_kindFor_43 : decode cX3_kindFor 43 = .ok (.aload_n 0, 1) := by decide +kernel
theorem dX3_kindFor_44 : decode cX3_kindFor 44 = .ok (.getfield 19, 3) := by decide +kernel
theorem dX3_kindFor_47 : decode cX3_kindFor 47 = .ok (.getfield 23, 3) := by decide +kernel
theorem dX3_kindFor_50 : decode cX3_kindFor 50 = .ok (.lconst 1, 1) := by decide +kernel
theorem dX3_kindFor_51 : decode cX3_kindFor 51 = .ok (.invokevirtual 56, 3) := by decide +kernel
theorem dX3_kindFor_54 : decode cX3_kindFor 54 = .ok (.ifCond .eq 7, 3) := by decide +kernel
theorem dX3_kindFor_57 : decode cX3_kindFor 57 = .ok (.iconst 0, 1) := by decide +kernel
theorem dX3_kindFor_58 : decode cX3_kindFor 58 = .ok (.goto 4, 3) := by decide +kernel
theorem dX3_kindFor_61 : decode cX3_kindFor 61 = .ok (.iconst 3, 1) := by decide +kernel
theorem dX3_kindFor_62 : decode cX3_kindFor 62 = .ok (.ireturn, 1) := by decide +kernel
set_option maxHeartbeats 4000000 in
set_option maxRecDepth 100000 in
/-- Plan.kindFor -/
theorem c_X3_kindFor {l : Launch} {G : tm_G} {Hb : Heap} {sh : tm_sh} {M : tm_M} {o : Nat} (ht : isLn sh M o) (hv : lok (ln M o)) : Met l yX3_kindFor (tws yX3_kindFor cX3_kindFor 1 (some .int)) ({ frames := 1, cells := 0, slots := 0, locals := 22 }) (va_Pc [.ref o] (tm_St G Hb sh M)) (tm_Qi G Hb sh (fun r M1 => r = tl_kind (ln M o) ∧ M1 = M)) 0 0 (tm_A Hb) := by
  refine tm_begin (by decide) (Nat.le_of_ble_eq_true rfl) (fun p e s m below meth c ls hx hb hr hml hown htw hlk hnm hK hW hl => ?_)
  have hS : va_S (tm_A Hb) s.heap s.heap [] := va_S.rf
  have hl : lv_has ls 1 [(0, .ref o)] := hl
  obtain ⟨t0, t1, t2, ⟨t3, t4, t5, t6, t7⟩, ⟨u3, u4, u5, u6, u7⟩⟩ := ht
  obtain ⟨⟨hA, hB⟩, ⟨hC, hD⟩, hR1, hR2⟩ := hv
  refine lv_aload_n hx hb dX3_kindFor_0 rfl (lv_at hl 0 rfl) ?_
  refine gf_X3_29 hx hb htw hown hK hW (by assumption) (by assumption) dX3_kindFor_1 ?_
  refine gf_X3_23 hx hb htw hown hK hW (by assumption) (by assumption) dX3_kindFor_4 ?_
  refine tm_calli (cs_X3_53 hx hb hml hown htw hK hW (by assumption) (c_X0_isZero (by assumption) (fok_L hC).1) ⟨rfl, rfl, Nat.le_of_ble_eq_true rfl, Nat.le_of_ble_eq_true rfl⟩ hl.1 (Nat.le_of_ble_eq_true rfl) dX3_kindFor_7 ⟨Nat.le_of_ble_eq_true rfl, Nat.le_of_ble_eq_true rfl⟩) hS (fun x7 M7 H locs hp7 hW hS => ?_)
  obtain ⟨ex7, eM7⟩ := hp7
  rw [eM7] at hW
  rw [ex7]
  refine ti_if_ne (tgt := 15) hx hb dX3_kindFor_10 (by decide) (tl_b_r _) (fun h10 => ?_) (fun h10 => ?_)
  · have z1 : (ln M o).2.1.1.1 = 0 := tl_b_n.mp h10
    refine lv_aload_n hx hb dX3_kindFor_15 rfl (lv_at hl 0 rfl) ?_
    refine gf_X3_19 hx hb htw hown hK hW (by assumption) (by assumption) dX3_kindFor_16 ?_
    refine gf_X3_42 hx hb htw hown hK hW (by assumption) (by assumption) dX3_kindFor_19 ?_
    refine tm_calli (cs_X3_53 hx hb hml hown htw hK hW (by assumption) (c_X0_isZero (by assumption) (fok_L hB).1) ⟨rfl, rfl, Nat.le_of_ble_eq_true rfl, Nat.le_of_ble_eq_true rfl⟩ hl.1 (Nat.le_of_ble_eq_true rfl) dX3_kindFor_22 ⟨Nat.le_of_ble_eq_true rfl, Nat.le_of_ble_eq_true rfl⟩) hS (fun x22 M22 H locs hp22 hW hS => ?_)
    obtain ⟨ex22, eM22⟩ := hp22
    rw [eM22] at hW
    rw [ex22]
    refine ti_if_ne (tgt := 30) hx hb dX3_kindFor_25 (by decide) (tl_b_r _) (fun h25 => ?_) (fun h25 => ?_)
    · have z2 : (ln M o).1.2.1 = 0 := tl_b_n.mp h25
      refine lv_aload_n hx hb dX3_kindFor_30 rfl (lv_at hl 0 rfl) ?_
      refine gf_X3_19 hx hb htw hown hK hW (by assumption) (by assumption) dX3_kindFor_31 ?_
      refine gf_X3_23 hx hb htw hown hK hW (by assumption) (by assumption) dX3_kindFor_34 ?_
      refine tm_calli (cs_X3_53 hx hb hml hown htw hK hW (by assumption) (c_X0_isZero (by assumption) (fok_L hA).1) ⟨rfl, rfl, Nat.le_of_ble_eq_true rfl, Nat.le_of_ble_eq_true rfl⟩ hl.1 (Nat.le_of_ble_eq_true rfl) dX3_kindFor_37 ⟨Nat.le_of_ble_eq_true rfl, Nat.le_of_ble_eq_true rfl⟩) hS (fun x37 M37 H locs hp37 hW hS => ?_)
      obtain ⟨ex37, eM37⟩ := hp37
      rw [eM37] at hW
      rw [ex37]
      refine ti_if_ne (tgt := 57) hx hb dX3_kindFor_40 (by decide) (tl_b_r _) (fun h40 => ?_) (fun h40 => ?_)
      · have z4 : (ln M o).1.1.1 = 0 ∨ (ln M o).1.1 = (1, 1) := by first | exact Or.inl (tl_b_n.mp h40) | exact Or.inr (tl_b_n.mp h54)
        refine ti_iconst hx hb dX3_kindFor_57 ?_
        refine lv_goto (tgt := 62) hx hb dX3_kindFor_58 (by decide) ?_
        exact tm_iret hx hb hr hlk hK hW hS (by first | exact ⟨by show _ = tl_kind (ln M o); unfold tl_kind; rw [if_neg (fun z => z z1), if_neg (fun z => z z2), if_pos z4], rfl⟩ | exact ⟨by show _ = tl_kind (ln M o); unfold tl_kind; rw [if_neg (fun z => z z1), if_neg (fun z => z z2), if_neg z4], rfl⟩) dX3_kindFor_62
      · have z3 : ¬ (ln M o).1.1.1 = 0 := tl_b_0.mp h40
        refine lv_aload_n hx hb dX3_kindFor_43 rfl (lv_at hl 0 rfl) ?_
        refine gf_X3_19 hx hb htw hown hK hW (by assumption) (by assumption) dX3_kindFor_44 ?_
        refine gf_X3_23 hx hb htw hown hK hW (by assumption) (by assumption) dX3_kindFor_47 ?_
        refine ti_lconst1 hx hb dX3_kindFor_50 ?_
        refine tm_calli (cs_X3_56 hx hb hml hown htw hK hW (by assumption) (c_X0_isWhole (by assumption) (fok_L hA) (by decide)) ⟨rfl, rfl, Nat.le_of_ble_eq_true rfl, Nat.le_of_ble_eq_true rfl⟩ hl.1 (Nat.le_of_ble_eq_true rfl) dX3_kindFor_51 ⟨Nat.le_of_ble_eq_true rfl, Nat.le_of_ble_eq_true rfl⟩) hS (fun x51 M51 H locs hp51 hW hS => ?_)
        obtain ⟨ex51, eM51⟩ := hp51
        rw [eM51] at hW
        rw [ex51]
        refine ti_if_eq (tgt := 61) hx hb dX3_kindFor_54 (by decide) (tl_b_r _) (fun h54 => ?_) (fun h54 => ?_)
        · have z4 : ¬ ((ln M o).1.1.1 = 0 ∨ (ln M o).1.1 = (1, 1)) := fun z => z.elim z3 (tl_b_0.mp h54)
          refine ti_iconst hx hb dX3_kindFor_61 ?_
          exact tm_iret hx hb hr hlk hK hW hS (by first | exact ⟨by show _ = tl_kind (ln M o); unfold tl_kind; rw [if_neg (fun z => z z1), if_neg (fun z => z z2), if_pos z4], rfl⟩ | exact ⟨by show _ = tl_kind (ln M o); unfold tl_kind; rw [if_neg (fun z => z z1), if_neg (fun z => z z2), if_neg z4], rfl⟩) dX3_kindFor_62
        · have z4 : (ln M o).1.1.1 = 0 ∨ (ln M o).1.1 = (1, 1) := by first | exact Or.inl (tl_b_n.mp h40) | exact Or.inr (tl_b_n.mp h54)
          refine ti_iconst hx hb dX3_kindFor_57 ?_
          refine lv_goto (tgt := 62) hx hb dX3_kindFor_58 (by decide) ?_
          exact tm_iret hx hb hr hlk hK hW hS (by first | exact ⟨by show _ = tl_kind (ln M o); unfold tl_kind; rw [if_neg (fun z => z z1), if_neg (fun z => z z2), if_pos z4], rfl⟩ | exact ⟨by show _ = tl_kind (ln M o); unfold tl_kind; rw [if_neg (fun z => z z1), if_neg (fun z => z z2), if_neg z4], rfl⟩) dX3_kindFor_62
    · have z2 : ¬ (ln M o).1.2.1 = 0 := tl_b_0.mp h25
      refine ti_iconst hx hb dX3_kindFor_28 ?_
      exact tm_iret hx hb hr hlk hK hW hS ⟨by show _ = tl_kind (ln M o); unfold tl_kind; rw [if_neg (fun z => z z1), if_pos z2], rfl⟩ dX3_kindFor_29
  · have z1 : ¬ (ln M o).2.1.1.1 = 0 := tl_b_0.mp h10
    refine ti_iconst hx hb dX3_kindFor_13 ?_
    exact tm_iret hx hb hr hlk hK hW hS ⟨by show _ = tl_kind (ln M o); unfold tl_kind; rw [if_pos z1], rfl⟩ dX3_kindFor_14
theorem dX3_divide_0 : decode cX3_divide 0 = .ok (.aload_n 1, 1) := by decide +kernel
theorem dX3_divide_1 : decode cX3_divide 1 = .ok (.getfield 19, 3) := by decide +kernel
theorem dX3_divide_4 : decode cX3_divide 4 = .ok (.getfield 23, 3) := by decide +kernel
theorem dX3_divide_7 : decode cX3_divide 7 = .ok (.lconst 1, 1) := by decide +kernel
theorem dX3_divide_8 : decode cX3_divide 8 = .ok (.invokevirtual 38, 3) := by decide +kernel
theorem dX3_divide_11 : decode cX3_divide 11 = .ok (.aload_n 1, 1) := by decide +kernel
theorem dX3_divide_12 : decode cX3_divide 12 = .ok (.getfield 29, 3) := by decide +kernel
theorem dX3_divide_15 : decode cX3_divide 15 = .ok (.getfield 42, 3) := by decide +kernel
theorem dX3_divide_18 : decode cX3_divide 18 = .ok (.aload_n 0, 1) := by decide +kernel
theorem dX3_divide_19 : decode cX3_divide 19 = .ok (.getfield 29, 3) := by decide +kernel
theorem dX3_divide_22 : decode cX3_divide 22 = .ok (.getfield 42, 3) := by decide +kernel
theorem dX3_divide_25 : decode cX3_divide 25 = .ok (.aload_n 0, 1) := by decide +kernel
theorem dX3_divide_26 : decode cX3_divide 26 = .ok (.getfield 19, 3) := by decide +kernel
theorem dX3_divide_29 : decode cX3_divide 29 = .ok (.getfield 23, 3) := by decide +kernel
theorem dX3_divide_32 : decode cX3_divide 32 = .ok (.invokevirtual 60, 3) := by decide +kernel
theorem dX3_divide_35 : decode cX3_divide 35 = .ok (.aload_n 0, 1) := by decide +kernel
theorem dX3_divide_36 : decode cX3_divide 36 = .ok (.getfield 19, 3) := by decide +kernel
theorem dX3_divide_39 : decode cX3_divide 39 = .ok (.getfield 23, 3) := by decide +kernel
theorem dX3_divide_42 : decode cX3_divide 42 = .ok (.getfield 63, 3) := by decide +kernel
theorem dX3_divide_45 : decode cX3_divide 45 = .ok (.lconst 0, 1) := by decide +kernel
theorem dX3_divide_46 : decode cX3_divide 46 = .ok (.lcmp, 1) := by decide +kernel
theorem dX3_divide_47 : decode cX3_divide 47 = .ok (.ifCond .ge 7, 3) := by decide +kernel
theorem dX3_divide_50 : decode cX3_divide 50 = .ok (.aload_n 1, 1) := by decide +kernel
theorem dX3_divide_51 : decode cX3_divide 51 = .ok (.invokevirtual 67, 3) := by decide +kernel
theorem dX3_divide_54 : decode cX3_divide 54 = .ok (.return_, 1) := by decide +kernel
set_option maxHeartbeats 4000000 in
set_option maxRecDepth 100000 in
/-- Plan.divide -/
theorem c_X3_divide {l : Launch} {G : tm_G} {Hb : Heap} {sh : tm_sh} {M : tm_M} {q o : Nat} (ht : isLn sh M o) (hs : isLn sh M q) (hne : o + 7 ≤ q ∨ q + 7 ≤ o) (hD : fok (fr M (o + 6))) (hA : fok (fr M (o + 2))) (hz : ¬ (fr M (o + 2)).1 = 0) (hR : 0 ≤ mI M q 2 ∧ mI M q 2 ≤ 2) : Met l yX3_divide (tws yX3_divide cX3_divide 2 none) ({ frames := 3, cells := 0, slots := 0, locals := 75 }) (va_Pc [.ref o, .ref q] (tm_St G Hb sh M)) (tm_Qv G Hb sh (fun M1 => M1 = if (fr M (o + 2)).1 < 0 ∧ ¬ mI M q 2 = 0 then sI (fS (fS M (q + 2) (1, 1)) (q + 6) (fdiv (fr M (o + 6)) (fr M (o + 2)))) q 2 (3 - mI M q 2) else fS (fS M (q + 2) (1, 1)) (q + 6) (fdiv (fr M (o + 6)) (fr M (o + 2))))) 0 0 (tm_A Hb) := by
  refine tm_begin (by decide) (Nat.le_of_ble_eq_true rfl) (fun p e s m below meth c ls hx hb hr hml hown htw hlk hnm hK hW hl => ?_)
  have hS : va_S (tm_A Hb) s.heap s.heap [] := va_S.rf
  have hl : lv_has ls 2 [(0, .ref o), (1, .ref q)] := hl
  have hs2 := hs
  obtain ⟨t0, t1, t2, ⟨t3, t4, t5, t6, t7⟩, ⟨u3, u4, u5, u6, u7⟩⟩ := ht
  obtain ⟨s0, s1, s2, ⟨s3, s4, s5, s6, s7⟩, ⟨r3, r4, r5, r6, r7⟩⟩ := hs
  refine lv_aload_n hx hb dX3_divide_0 rfl (lv_at hl 1 rfl) ?_
  refine gf_X3_19 hx hb htw hown hK hW (by assumption) (by assumption) dX3_divide_1 ?_
  refine gf_X3_23 hx hb htw hown hK hW (by assumption) (by assumption) dX3_divide_4 ?_
  refine ti_lconst1 hx hb dX3_divide_7 ?_
  refine tm_callv (cs_X3_38 hx hb hml hown htw hK hW (by assumption) (c_X0_setWhole (by assumption)) ⟨rfl, rfl, Nat.le_of_ble_eq_true rfl, Nat.le_of_ble_eq_true rfl⟩ hl.1 (Nat.le_of_ble_eq_true rfl) dX3_divide_8 ⟨Nat.le_of_ble_eq_true rfl, Nat.le_of_ble_eq_true rfl⟩) hS (fun M8 H locs hp8 hW hS => ?_)
  rw [hp8] at hW
  refine lv_aload_n hx hb dX3_divide_11 rfl (lv_at hl 1 rfl) ?_
  refine gf_X3_29 hx hb htw hown hK hW (by assumption) (by assumption) dX3_divide_12 ?_
  refine gf_X3_42 hx hb htw hown hK hW (by assumption) (by assumption) dX3_divide_15 ?_
  refine lv_aload_n hx hb dX3_divide_18 rfl (lv_at hl 0 rfl) ?_
  refine gf_X3_29 hx hb htw hown hK hW (by assumption) (by assumption) dX3_divide_19 ?_
  refine gf_X3_42 hx hb htw hown hK hW (by assumption) (by assumption) dX3_divide_22 ?_
  refine lv_aload_n hx hb dX3_divide_25 rfl (lv_at hl 0 rfl) ?_
  refine gf_X3_19 hx hb htw hown hK hW (by assumption) (by assumption) dX3_divide_26 ?_
  refine gf_X3_23 hx hb htw hown hK hW (by assumption) (by assumption) dX3_divide_29 ?_
  refine tm_callv (cs_X3_60 hx hb hml hown htw hK hW (by assumption) (v_setQuotient (f := fr M (o + 6)) (g := fr M (o + 2)) (by assumption) (by assumption) (by assumption) (fr_n M _ (by omega)) (fr_n M _ (by omega)) hD hA hz) ⟨rfl, rfl, Nat.le_of_ble_eq_true rfl, Nat.le_of_ble_eq_true rfl⟩ hl.1 (Nat.le_of_ble_eq_true rfl) dX3_divide_32 ⟨Nat.le_of_ble_eq_true rfl, Nat.le_of_ble_eq_true rfl⟩) hS (fun M32 H locs hp32 hW hS => ?_)
  rw [hp32] at hW
  refine lv_aload_n hx hb dX3_divide_35 rfl (lv_at hl 0 rfl) ?_
  refine gf_X3_19 hx hb htw hown hK hW (by assumption) (by assumption) dX3_divide_36 ?_
  refine gf_X3_23 hx hb htw hown hK hW (by assumption) (by assumption) dX3_divide_39 ?_
  refine gf_X3_63 hx hb htw hown hK hW (by assumption) dX3_divide_42 ?_
  refine ti_lconst0 hx hb dX3_divide_45 ?_
  have eA : mL (fS (fS M (q + 2) (1, 1)) (q + 6) (fdiv (fr M (o + 6)) (fr M (o + 2)))) (o + 2) 0 = (fr M (o + 2)).1 := (fL_n _ _ (by omega)).trans (fL_n _ _ (by omega))
  refine ti_lcmp_ge (tgt := 54) hx hb dX3_divide_46 dX3_divide_47 (by decide) (by rw [eA]; exact (fok_L hA).1) (by decide) (fun h46 => ?_) (fun h46 => ?_)
  · exact tm_vret hx hb hr hlk hK hW hS (by first | (rw [eA] at h46; rw [if_neg (by omega)]) | exact hp51.trans (tl_turn rfl (by omega))) dX3_divide_54
  · rw [eA] at h46
    refine lv_aload_n hx hb dX3_divide_50 rfl (lv_at hl 1 rfl) ?_
    refine tm_callv (cs_X3_67 hx hb hml hown htw hK hW (by assumption) (c_X1_turnRelation (isLn_m hs2 rfl) hR) ⟨rfl, rfl, Nat.le_of_ble_eq_true rfl, Nat.le_of_ble_eq_true rfl⟩ hl.1 (Nat.le_of_ble_eq_true rfl) dX3_divide_51 ⟨Nat.le_of_ble_eq_true rfl, Nat.le_of_ble_eq_true rfl⟩) hS (fun M51 H locs hp51 hW hS => ?_)
    exact tm_vret hx hb hr hlk hK hW hS (by first | (rw [eA] at h46; rw [if_neg (by omega)]) | exact hp51.trans (tl_turn rfl (by omega))) dX3_divide_54
theorem dX3_write_0 : decode cX3_write 0 = .ok (.aload_n 0, 1) := by decide +kernel
theorem dX3_write_1 : decode cX3_write 1 = .ok (.invokestatic 7, 3) := by decide +kernel
theorem dX3_write_4 : decode cX3_write 4 = .ok (.istore_n 2, 1) := by decide +kernel
theorem dX3_write_5 : decode cX3_write 5 = .ok (.aload_n 1, 1) := by decide +kernel
theorem dX3_write_6 : decode cX3_write 6 = .ok (.aload_n 0, 1) := by decide +kernel
theorem dX3_write_7 : decode cX3_write 7 = .ok (.invokevirtual 13, 3) := by decide +kernel
theorem dX3_write_10 : decode cX3_write 10 = .ok (.iload_n 2, 1) := by decide +kernel
theorem dX3_write_11 : decode cX3_write 11 = .ok (.tableswitch 109 1 3 #[25, 63, 101], 25) := by decide +kernel
theorem dX3_write_36 : decode cX3_write 36 = .ok (.aload_n 1, 1) := by decide +kernel
theorem dX3_write_37 : decode cX3_write 37 = .ok (.getfield 19, 3) := by decide +kernel
theorem dX3_write_40 : decode cX3_write 40 = .ok (.getfield 23, 3) := by decide +kernel
theorem dX3_write_43 : decode cX3_write 43 = .ok (.aload_n 0, 1) := by decide +kernel
theorem dX3_write_44 : decode cX3_write 44 = .ok (.getfield 19, 3) := by decide +kernel
theorem dX3_write_47 : decode cX3_write 47 = .ok (.getfield 23, 3) := by decide +kernel
theorem dX3_write_50 : decode cX3_write 50 = .ok (.aload_n 0, 1) := by decide +kernel
theorem dX3_write_51 : decode cX3_write 51 = .ok (.getfield 29, 3) := by decide +kernel
theorem dX3_write_54 : decode cX3_write 54 = .ok (.getfield 23, 3) := by decide +kernel
theorem dX3_write_57 : decode cX3_write 57 = .ok (.invokevirtual 32, 3) := by decide +kernel
theorem dX3_write_60 : decode cX3_write 60 = .ok (.aload_n 1, 1) := by decide +kernel
theorem dX3_write_61 : decode cX3_write 61 = .ok (.getfield 29, 3) := by decide +kernel
theorem dX3_write_64 : decode cX3_write 64 = .ok (.getfield 23, 3) := by decide +kernel
theorem dX3_write_67 : decode cX3_write 67 = .ok (.lconst 0, 1) := by decide +kernel
theorem dX3_write_68 : decode cX3_write 68 = .ok (.invokevirtual 38, 3) := by decide +kernel
theorem dX3_write_71 : decode cX3_write 71 = .ok (.goto 49, 3) := by decide +kernel
theorem dX3_write_74 : decode cX3_write 74 = .ok (.aload_n 1, 1) := by decide +kernel
theorem dX3_write_75 : decode cX3_write 75 = .ok (.getfield 19, 3) := by decide +kernel
theorem dX3_write_78 : decode cX3_write 78 = .ok (.getfield 42, 3) := by decide +kernel
theorem dX3_write_81 : decode cX3_write 81 = .ok (.lconst 0, 1) := by decide +kernel
theorem dX3_write_82 : decode cX3_write 82 = .ok (.invokevirtual 38, 3) := by decide +kernel
theorem dX3_write_85 : decode cX3_write 85 = .ok (.aload_n 1, 1) := by decide +kernel
theorem dX3_write_86 : decode cX3_write 86 = .ok (.getfield 29, 3) := by decide +kernel
theorem dX3_write_89 : decode cX3_write 89 = .ok (.getfield 42, 3) := by decide +kernel
theorem dX3_write_92 : decode cX3_write 92 = .ok (.aload_n 0, 1) := by decide +kernel
theorem dX3_write_93 : decode cX3_write 93 = .ok (.getfield 29, 3) := by decide +kernel
theorem dX3_write_96 : decode cX3_write 96 = .ok (.getfield 42, 3) := by decide +kernel
theorem dX3_write_99 : decode cX3_write 99 = .ok (.aload_n 0, 1) := by decide +kernel
theorem dX3_write_100 : decode cX3_write 100 = .ok (.getfield 19, 3) := by decide +kernel
theorem dX3_write_103 : decode cX3_write 103 = .ok (.getfield 42, 3) := by decide +kernel
theorem dX3_write_106 : decode cX3_write 106 = .ok (.invokevirtual 32, 3) := by decide +kernel
theorem dX3_write_109 : decode cX3_write 109 = .ok (.goto 11, 3) := by decide +kernel
theorem dX3_write_112 : decode cX3_write 112 = .ok (.aload_n 0, 1) := by decide +kernel
theorem dX3_write_113 : decode cX3_write 113 = .ok (.aload_n 1, 1) := by decide +kernel
theorem dX3_write_114 : decode cX3_write 114 = .ok (.invokestatic 45, 3) := by decide +kernel
theorem dX3_write_117 : decode cX3_write 117 = .ok (.goto 3, 3) := by decide +kernel
theorem dX3_write_120 : decode cX3_write 120 = .ok (.aload_n 1, 1) := by decide +kernel
theorem dX3_write_121 : decode cX3_write 121 = .ok (.invokevirtual 49, 3) := by decide +kernel
theorem dX3_write_124 : decode cX3_write 124 = .ok (.ifCond .eq 7, 3) := by decide +kernel
theorem dX3_write_127 : decode cX3_write 127 = .ok (.iload_n 2, 1) := by decide +kernel
theorem dX3_write_128 : decode cX3_write 128 = .ok (.goto 4, 3) := by decide +kernel
theorem dX3_write_131 : decode cX3_write 131 = .ok (.iconst (-1), 1) := by decide +kernel
theorem dX3_write_132 : decode cX3_write 132 = .ok (.ireturn, 1) := by decide +kernel
theorem tl_dv1 {M0 : tm_M} {q : Nat} {f : tl_F} {c : Prop} [Decidable c] {x : Int} (hq : q < q + 7) : tm_fr q (q + 7) M0 (if c then sI (fS (fS M0 (q + 2) (1, 1)) (q + 6) f) q 2 x else fS (fS M0 (q + 2) (1, 1)) (q + 6) f) := by
  have h := fw_tr (fw_fS (M := M0) (lo := q) (hi := q + 7) (q := q + 2) (1, 1) (by omega) (by omega)) (fw_fS (q := q + 6) f (by omega) (by omega))
  split
  · exact fw_tr h (fw_sI _ (by omega) (by omega))
  · exact h
theorem tl_dv2 {M0 : tm_M} {q o : Nat} {v : tl_L} (a2 : fr M0 (q + 3) = v.1.2) (a3 : fr M0 (q + 5) = v.2.1.1) (b1 : fr M0 (o + 2) = v.1.1) (b4 : fr M0 (o + 6) = v.2.1.2) (a5 : mI M0 q 2 = v.2.2) : ln (if (fr M0 (o + 2)).1 < 0 ∧ ¬ mI M0 q 2 = 0 then sI (fS (fS M0 (q + 2) (1, 1)) (q + 6) (fdiv (fr M0 (o + 6)) (fr M0 (o + 2)))) q 2 (3 - mI M0 q 2) else fS (fS M0 (q + 2) (1, 1)) (q + 6) (fdiv (fr M0 (o + 6)) (fr M0 (o + 2)))) q = (((1, 1), v.1.2), (v.2.1.1, fdiv v.2.1.2 v.1.1), if v.1.1.1 < 0 ∧ ¬ v.2.2 = 0 then 3 - v.2.2 else v.2.2) := by
  rw [b1, b4, a5]
  have h1 : fr (fS (fS M0 (q + 2) (1, 1)) (q + 6) (fdiv v.2.1.2 v.1.1)) (q + 2) = (1, 1) := (fr_n _ _ (by omega)).trans (fr_s _ _ _)
  have h2 : fr (fS (fS M0 (q + 2) (1, 1)) (q + 6) (fdiv v.2.1.2 v.1.1)) (q + 3) = v.1.2 := ((fr_n _ _ (by omega)).trans (fr_n _ _ (by omega))).trans a2
  have h3 : fr (fS (fS M0 (q + 2) (1, 1)) (q + 6) (fdiv v.2.1.2 v.1.1)) (q + 5) = v.2.1.1 := ((fr_n _ _ (by omega)).trans (fr_n _ _ (by omega))).trans a3
  have h4 : fr (fS (fS M0 (q + 2) (1, 1)) (q + 6) (fdiv v.2.1.2 v.1.1)) (q + 6) = fdiv v.2.1.2 v.1.1 := fr_s _ _ _
  split
  · exact ln_ext h1 h2 h3 h4 (tm_up_s _ _ _ _)
  · exact ln_ext h1 h2 h3 h4 a5
set_option maxHeartbeats 4000000 in
set_option maxRecDepth 100000 in
/-- Plan.write(from, to): the plan of the line; its line -/
theorem c_X3_write {l : Launch} {G : tm_G} {Hb : Heap} {sh : tm_sh} {M : tm_M} {q o : Nat} (ht : isLn sh M o) (hs : isLn sh M q) (hne : o + 7 ≤ q ∨ q + 7 ≤ o) (hv : lok (ln M o)) : Met l yX3_write (tws yX3_write cX3_write 3 (some .int)) ({ frames := 4, cells := 0, slots := 0, locals := 96 }) (va_Pc [.ref o, .ref q] (tm_St G Hb sh M)) (tm_Qi G Hb sh (fun r M1 => r = tl_plan (ln M o) ∧ ln M1 q = tl_planv (ln M o) ∧ tm_fr q (q + 7) M M1)) 0 0 (tm_A Hb) := by
  refine tm_begin (by decide) (Nat.le_of_ble_eq_true rfl) (fun p e s m below meth c ls hx hb hr hml hown htw hlk hnm hK hW hl => ?_)
  have hS : va_S (tm_A Hb) s.heap s.heap [] := va_S.rf
  have hl : lv_has ls 3 [(0, .ref o), (1, .ref q)] := hl
  have hs0 := hs
  have ht0 := ht
  have hv0 := hv
  obtain ⟨t0, t1, t2, ⟨t3, t4, t5, t6, t7⟩, ⟨u3, u4, u5, u6, u7⟩⟩ := ht
  obtain ⟨s0, s1, s2, ⟨s3, s4, s5, s6, s7⟩, ⟨r3, r4, r5, r6, r7⟩⟩ := hs
  obtain ⟨⟨hA, hB⟩, ⟨hC, hD⟩, hR1, hR2⟩ := hv
  have hkr := tl_kind_r (ln M o)
  have tail : ∀ (M2 : tm_M) (H : Heap) (locs : List Loc) (ls : Array Slot), tm_W G Hb sh M2 H → va_S (tm_A Hb) s.heap H locs → tm_fr q (q + 7) M M2 → ln M2 q = tl_planv (ln M o) → lv_has ls 3 [(0, .ref o), (1, .ref q), (2, ji (tl_kind (ln M o)))] → W p l e ({ frames := 4, cells := 0, slots := 0, locals := 96 }) s m [.ref o, .ref q].toArray below meth c H locs 0 0 (MQ below (tm_Qi G Hb sh (fun r M1 => r = tl_plan (ln M o) ∧ ln M1 q = tl_planv (ln M o) ∧ tm_fr q (q + 7) M M1)) [.ref o, .ref q].toArray s 0 0 (tm_A Hb)) (F0 m 120 ls []) := by
    intro M2 H locs ls hW hS hf he hl
    have hL := lLok_plan hv0
    rw [← he] at hL
    refine lv_aload_n hx hb dX3_write_120 rfl (lv_at hl 1 rfl) ?_
    refine tm_calli (cs_X3_49 hx hb hml hown htw hK hW (by assumption) (c_X1_fits (isLn_m hs0 hf.1) hL) ⟨rfl, rfl, Nat.le_of_ble_eq_true rfl, Nat.le_of_ble_eq_true rfl⟩ hl.1 (Nat.le_of_ble_eq_true rfl) dX3_write_121 ⟨Nat.le_of_ble_eq_true rfl, Nat.le_of_ble_eq_true rfl⟩) hS (fun x121 M121 H locs hp121 hW hS => ?_)
    obtain ⟨ex121, eM121⟩ := hp121
    rw [eM121] at hW
    rw [ex121]
    refine ti_if_eq (tgt := 131) hx hb dX3_write_124 (by decide) (tl_b_r _) (fun h124 => ?_) (fun h124 => ?_)
    · refine ti_iconst hx hb dX3_write_131 ?_
      exact tm_iret hx hb hr hlk hK hW hS (by first | exact ⟨by have z : lfit (ln M2 q) := tl_b_n.mp h124; rw [he] at z; rw [tl_plan, if_pos z], he, hf⟩ | exact ⟨by have z : ¬ lfit (ln M2 q) := tl_b_0.mp h124; rw [he] at z; rw [tl_plan, if_neg z], he, hf⟩) dX3_write_132
    · refine lv_iload_n hx hb dX3_write_127 rfl (lv_at hl 2 rfl) ?_
      refine lv_goto (tgt := 132) hx hb dX3_write_128 (by decide) ?_
      exact tm_iret hx hb hr hlk hK hW hS (by first | exact ⟨by have z : lfit (ln M2 q) := tl_b_n.mp h124; rw [he] at z; rw [tl_plan, if_pos z], he, hf⟩ | exact ⟨by have z : ¬ lfit (ln M2 q) := tl_b_0.mp h124; rw [he] at z; rw [tl_plan, if_neg z], he, hf⟩) dX3_write_132
  refine lv_aload_n hx hb dX3_write_0 rfl (lv_at hl 0 rfl) ?_
  refine tm_calli (cs_X3_7 hx hb hml hown htw hK hW (c_X3_kindFor ht0 hv0) ⟨rfl, rfl, Nat.le_of_ble_eq_true rfl, Nat.le_of_ble_eq_true rfl⟩ hl.1 (Nat.le_of_ble_eq_true rfl) dX3_write_1 ⟨Nat.le_of_ble_eq_true rfl, Nat.le_of_ble_eq_true rfl⟩) hS (fun x1 M1 H locs hp1 hW hS => ?_)
  obtain ⟨ex1, eM1⟩ := hp1
  rw [eM1] at hW
  rw [ex1]
  refine lv_istore_n (lv' := [(2, _), (0, _), (1, _)]) hx hb dX3_write_4 rfl hl (by decide) rfl (fun ls hl => ?_)
  refine lv_aload_n hx hb dX3_write_5 rfl (lv_at hl 2 rfl) ?_
  refine lv_aload_n hx hb dX3_write_6 rfl (lv_at hl 1 rfl) ?_
  refine tm_callv (cs_X3_13 hx hb hml hown htw hK hW (by assumption) (c_X1_copy hs0 ht0 hne) ⟨rfl, rfl, Nat.le_of_ble_eq_true rfl, Nat.le_of_ble_eq_true rfl⟩ hl.1 (Nat.le_of_ble_eq_true rfl) dX3_write_7 ⟨Nat.le_of_ble_eq_true rfl, Nat.le_of_ble_eq_true rfl⟩) hS (fun M7 H locs hp7 hW hS => ?_)
  rw [hp7] at hW
  have e0 : ln (lS M q (ln M o)) q = ln M o := ln_self _ _ _
  have f0 : tm_fr q (q + 7) M (lS M q (ln M o)) := fw_lS _
  generalize hg : lS M q (ln M o) = M0 at hW e0 f0
  have em := f0.1
  have sA : mR M0 q 0 = some (q + 1) := by rw [em]; exact s1
  have sB : mR M0 q 1 = some (q + 4) := by rw [em]; exact s2
  have sC := isSd_m hs0.2.2.2.1 em
  have sD := isSd_m hs0.2.2.2.2 em
  obtain ⟨-, -, -, sC1, sC2⟩ := sC
  obtain ⟨-, -, -, sD1, sD2⟩ := sD
  have tA : mR M0 o 0 = some (o + 1) := by rw [em]; exact t1
  have tB : mR M0 o 1 = some (o + 4) := by rw [em]; exact t2
  have tC := isSd_m ht0.2.2.2.1 em
  have tD := isSd_m ht0.2.2.2.2 em
  obtain ⟨-, -, -, tC1, tC2⟩ := tC
  obtain ⟨-, -, -, tD1, tD2⟩ := tD
  obtain ⟨a1, a2, a3, a4, a5⟩ := ln_at e0
  have b1 : fr M0 (o + 2) = (ln M o).1.1 := fw_fr f0 (by omega)
  have b2 : fr M0 (o + 3) = (ln M o).1.2 := fw_fr f0 (by omega)
  have b3 : fr M0 (o + 5) = (ln M o).2.1.1 := fw_fr f0 (by omega)
  have b4 : fr M0 (o + 6) = (ln M o).2.1.2 := fw_fr f0 (by omega)
  refine lv_iload_n hx hb dX3_write_10 rfl (lv_at hl 0 rfl) ?_
  refine ti_ts_1_3 (td := 120) (t1 := 36) (t2 := 74) (t3 := 112) hx hb dX3_write_11 (by omega) (by decide) (by decide) (by decide) (by decide) (fun h11 => ?_) (fun h11 => ?_) (fun h11 => ?_) (fun h11 => ?_)
  · refine lv_aload_n hx hb dX3_write_36 rfl (lv_at hl 2 rfl) ?_
    refine gf_X3_19 hx hb htw hown hK hW (by assumption) (by assumption) dX3_write_37 ?_
    refine gf_X3_23 hx hb htw hown hK hW (by assumption) (by assumption) dX3_write_40 ?_
    refine lv_aload_n hx hb dX3_write_43 rfl (lv_at hl 1 rfl) ?_
    refine gf_X3_19 hx hb htw hown hK hW (by assumption) (by assumption) dX3_write_44 ?_
    refine gf_X3_23 hx hb htw hown hK hW (by assumption) (by assumption) dX3_write_47 ?_
    refine lv_aload_n hx hb dX3_write_50 rfl (lv_at hl 1 rfl) ?_
    refine gf_X3_29 hx hb htw hown hK hW (by assumption) (by assumption) dX3_write_51 ?_
    refine gf_X3_23 hx hb htw hown hK hW (by assumption) (by assumption) dX3_write_54 ?_
    refine tm_callv (cs_X3_32 hx hb hml hown htw hK hW (by assumption) (v_setDifference (f := (ln M o).1.1) (g := (ln M o).2.1.1) (by assumption) (by assumption) (by assumption) b1 b3 hA hC) ⟨rfl, rfl, Nat.le_of_ble_eq_true rfl, Nat.le_of_ble_eq_true rfl⟩ hl.1 (Nat.le_of_ble_eq_true rfl) dX3_write_57 ⟨Nat.le_of_ble_eq_true rfl, Nat.le_of_ble_eq_true rfl⟩) hS (fun M57 H locs hp57 hW hS => ?_)
    rw [hp57] at hW
    refine lv_aload_n hx hb dX3_write_60 rfl (lv_at hl 2 rfl) ?_
    refine gf_X3_29 hx hb htw hown hK hW (by assumption) (by assumption) dX3_write_61 ?_
    refine gf_X3_23 hx hb htw hown hK hW (by assumption) (by assumption) dX3_write_64 ?_
    refine ti_lconst0 hx hb dX3_write_67 ?_
    refine tm_callv (cs_X3_38 hx hb hml hown htw hK hW (by assumption) (c_X0_setWhole (by assumption)) ⟨rfl, rfl, Nat.le_of_ble_eq_true rfl, Nat.le_of_ble_eq_true rfl⟩ hl.1 (Nat.le_of_ble_eq_true rfl) dX3_write_68 ⟨Nat.le_of_ble_eq_true rfl, Nat.le_of_ble_eq_true rfl⟩) hS (fun M68 H locs hp68 hW hS => ?_)
    rw [hp68] at hW
    refine lv_goto (tgt := 120) hx hb dX3_write_71 (by decide) ?_
    first
    | (exact tail _ _ _ _ hW hS (fw_tr (fw_tr f0 (fw_fS _ (by omega) (by omega))) (fw_fS _ (by omega) (by omega))) (by rw [tl_planv, if_pos (show tl_kind (ln M o) = 1 by omega)]; exact ln_ext ((fr_n _ _ (by omega)).trans (fr_s _ _ _)) (((fr_n _ _ (by omega)).trans (fr_n _ _ (by omega))).trans a2) (fr_s _ _ _) (((fr_n _ _ (by omega)).trans (fr_n _ _ (by omega))).trans a4) a5) (lv_sub hl [1, 2, 0] rfl))
    | (exact tail _ _ _ _ hW hS (fw_tr (fw_tr f0 (fw_fS _ (by omega) (by omega))) (fw_fS _ (by omega) (by omega))) (by rw [tl_planv, if_neg (show ¬ tl_kind (ln M o) = 1 by omega), if_pos (show tl_kind (ln M o) = 2 by omega)]; exact ln_ext (((fr_n _ _ (by omega)).trans (fr_n _ _ (by omega))).trans a1) ((fr_n _ _ (by omega)).trans (fr_s _ _ _)) (((fr_n _ _ (by omega)).trans (fr_n _ _ (by omega))).trans a3) (fr_s _ _ _) a5) (lv_sub hl [1, 2, 0] rfl))
    | (exact tail _ _ _ _ hW hS f3 e3 (lv_sub hl [1, 2, 0] rfl))
    | (exact tail _ _ _ _ hW hS f0 (by rw [tl_planv, if_neg (show ¬ tl_kind (ln M o) = 1 by omega), if_neg (show ¬ tl_kind (ln M o) = 2 by omega), if_neg (show ¬ tl_kind (ln M o) = 3 by omega)]; exact e0) (lv_sub hl [1, 2, 0] rfl))
  · refine lv_aload_n hx hb dX3_write_74 rfl (lv_at hl 2 rfl) ?_
    refine gf_X3_19 hx hb htw hown hK hW (by assumption) (by assumption) dX3_write_75 ?_
    refine gf_X3_42 hx hb htw hown hK hW (by assumption) (by assumption) dX3_write_78 ?_
    refine ti_lconst0 hx hb dX3_write_81 ?_
    refine tm_callv (cs_X3_38 hx hb hml hown htw hK hW (by assumption) (c_X0_setWhole (by assumption)) ⟨rfl, rfl, Nat.le_of_ble_eq_true rfl, Nat.le_of_ble_eq_true rfl⟩ hl.1 (Nat.le_of_ble_eq_true rfl) dX3_write_82 ⟨Nat.le_of_ble_eq_true rfl, Nat.le_of_ble_eq_true rfl⟩) hS (fun M82 H locs hp82 hW hS => ?_)
    rw [hp82] at hW
    refine lv_aload_n hx hb dX3_write_85 rfl (lv_at hl 2 rfl) ?_
    refine gf_X3_29 hx hb htw hown hK hW (by assumption) (by assumption) dX3_write_86 ?_
    refine gf_X3_42 hx hb htw hown hK hW (by assumption) (by assumption) dX3_write_89 ?_
    refine lv_aload_n hx hb dX3_write_92 rfl (lv_at hl 1 rfl) ?_
    refine gf_X3_29 hx hb htw hown hK hW (by assumption) (by assumption) dX3_write_93 ?_
    refine gf_X3_42 hx hb htw hown hK hW (by assumption) (by assumption) dX3_write_96 ?_
    refine lv_aload_n hx hb dX3_write_99 rfl (lv_at hl 1 rfl) ?_
    refine gf_X3_19 hx hb htw hown hK hW (by assumption) (by assumption) dX3_write_100 ?_
    refine gf_X3_42 hx hb htw hown hK hW (by assumption) (by assumption) dX3_write_103 ?_
    refine tm_callv (cs_X3_32 hx hb hml hown htw hK hW (by assumption) (v_setDifference (f := (ln M o).2.1.2) (g := (ln M o).1.2) (by assumption) (by assumption) (by assumption) ((fr_n _ _ (by omega)).trans b4) ((fr_n _ _ (by omega)).trans b2) hD hB) ⟨rfl, rfl, Nat.le_of_ble_eq_true rfl, Nat.le_of_ble_eq_true rfl⟩ hl.1 (Nat.le_of_ble_eq_true rfl) dX3_write_106 ⟨Nat.le_of_ble_eq_true rfl, Nat.le_of_ble_eq_true rfl⟩) hS (fun M106 H locs hp106 hW hS => ?_)
    rw [hp106] at hW
    refine lv_goto (tgt := 120) hx hb dX3_write_109 (by decide) ?_
    first
    | (exact tail _ _ _ _ hW hS (fw_tr (fw_tr f0 (fw_fS _ (by omega) (by omega))) (fw_fS _ (by omega) (by omega))) (by rw [tl_planv, if_pos (show tl_kind (ln M o) = 1 by omega)]; exact ln_ext ((fr_n _ _ (by omega)).trans (fr_s _ _ _)) (((fr_n _ _ (by omega)).trans (fr_n _ _ (by omega))).trans a2) (fr_s _ _ _) (((fr_n _ _ (by omega)).trans (fr_n _ _ (by omega))).trans a4) a5) (lv_sub hl [1, 2, 0] rfl))
    | (exact tail _ _ _ _ hW hS (fw_tr (fw_tr f0 (fw_fS _ (by omega) (by omega))) (fw_fS _ (by omega) (by omega))) (by rw [tl_planv, if_neg (show ¬ tl_kind (ln M o) = 1 by omega), if_pos (show tl_kind (ln M o) = 2 by omega)]; exact ln_ext (((fr_n _ _ (by omega)).trans (fr_n _ _ (by omega))).trans a1) ((fr_n _ _ (by omega)).trans (fr_s _ _ _)) (((fr_n _ _ (by omega)).trans (fr_n _ _ (by omega))).trans a3) (fr_s _ _ _) a5) (lv_sub hl [1, 2, 0] rfl))
    | (exact tail _ _ _ _ hW hS f3 e3 (lv_sub hl [1, 2, 0] rfl))
    | (exact tail _ _ _ _ hW hS f0 (by rw [tl_planv, if_neg (show ¬ tl_kind (ln M o) = 1 by omega), if_neg (show ¬ tl_kind (ln M o) = 2 by omega), if_neg (show ¬ tl_kind (ln M o) = 3 by omega)]; exact e0) (lv_sub hl [1, 2, 0] rfl))
  · refine lv_aload_n hx hb dX3_write_112 rfl (lv_at hl 1 rfl) ?_
    refine lv_aload_n hx hb dX3_write_113 rfl (lv_at hl 2 rfl) ?_
    refine tm_callv (cs_X3_45 hx hb hml hown htw hK hW (c_X3_divide (isLn_m ht0 em) (isLn_m hs0 em) hne (by rw [b4]; exact hD) (by rw [b1]; exact hA) (by rw [b1]; exact tl_kind3 h11) (by rw [a5]; exact ⟨hR1, hR2⟩)) ⟨rfl, rfl, Nat.le_of_ble_eq_true rfl, Nat.le_of_ble_eq_true rfl⟩ hl.1 (Nat.le_of_ble_eq_true rfl) dX3_write_114 ⟨Nat.le_of_ble_eq_true rfl, Nat.le_of_ble_eq_true rfl⟩) hS (fun M114 H locs hp114 hW hS => ?_)
    rw [hp114] at hW
    have f3 : tm_fr q (q + 7) M (if (fr M0 (o + 2)).1 < 0 ∧ ¬ mI M0 q 2 = 0 then sI (fS (fS M0 (q + 2) (1, 1)) (q + 6) (fdiv (fr M0 (o + 6)) (fr M0 (o + 2)))) q 2 (3 - mI M0 q 2) else fS (fS M0 (q + 2) (1, 1)) (q + 6) (fdiv (fr M0 (o + 6)) (fr M0 (o + 2)))) := fw_tr f0 (tl_dv1 (by omega))
    have e3 : ln (if (fr M0 (o + 2)).1 < 0 ∧ ¬ mI M0 q 2 = 0 then sI (fS (fS M0 (q + 2) (1, 1)) (q + 6) (fdiv (fr M0 (o + 6)) (fr M0 (o + 2)))) q 2 (3 - mI M0 q 2) else fS (fS M0 (q + 2) (1, 1)) (q + 6) (fdiv (fr M0 (o + 6)) (fr M0 (o + 2)))) q = tl_planv (ln M o) := by
      rw [tl_planv, if_neg (show ¬ tl_kind (ln M o) = 1 by omega), if_neg (show ¬ tl_kind (ln M o) = 2 by omega), if_pos (show tl_kind (ln M o) = 3 by omega), tl_dv2 a2 a3 b1 b4 a5]
    refine lv_goto (tgt := 120) hx hb dX3_write_117 (by decide) ?_
    first
    | (exact tail _ _ _ _ hW hS (fw_tr (fw_tr f0 (fw_fS _ (by omega) (by omega))) (fw_fS _ (by omega) (by omega))) (by rw [tl_planv, if_pos (show tl_kind (ln M o) = 1 by omega)]; exact ln_ext ((fr_n _ _ (by omega)).trans (fr_s _ _ _)) (((fr_n _ _ (by omega)).trans (fr_n _ _ (by omega))).trans a2) (fr_s _ _ _) (((fr_n _ _ (by omega)).trans (fr_n _ _ (by omega))).trans a4) a5) (lv_sub hl [1, 2, 0] rfl))
    | (exact tail _ _ _ _ hW hS (fw_tr (fw_tr f0 (fw_fS _ (by omega) (by omega))) (fw_fS _ (by omega) (by omega))) (by rw [tl_planv, if_neg (show ¬ tl_kind (ln M o) = 1 by omega), if_pos (show tl_kind (ln M o) = 2 by omega)]; exact ln_ext (((fr_n _ _ (by omega)).trans (fr_n _ _ (by omega))).trans a1) ((fr_n _ _ (by omega)).trans (fr_s _ _ _)) (((fr_n _ _ (by omega)).trans (fr_n _ _ (by omega))).trans a3) (fr_s _ _ _) a5) (lv_sub hl [1, 2, 0] rfl))
    | (exact tail _ _ _ _ hW hS f3 e3 (lv_sub hl [1, 2, 0] rfl))
    | (exact tail _ _ _ _ hW hS f0 (by rw [tl_planv, if_neg (show ¬ tl_kind (ln M o) = 1 by omega), if_neg (show ¬ tl_kind (ln M o) = 2 by omega), if_neg (show ¬ tl_kind (ln M o) = 3 by omega)]; exact e0) (lv_sub hl [1, 2, 0] rfl))
  · first
    | (exact tail _ _ _ _ hW hS (fw_tr (fw_tr f0 (fw_fS _ (by omega) (by omega))) (fw_fS _ (by omega) (by omega))) (by rw [tl_planv, if_pos (show tl_kind (ln M o) = 1 by omega)]; exact ln_ext ((fr_n _ _ (by omega)).trans (fr_s _ _ _)) (((fr_n _ _ (by omega)).trans (fr_n _ _ (by omega))).trans a2) (fr_s _ _ _) (((fr_n _ _ (by omega)).trans (fr_n _ _ (by omega))).trans a4) a5) (lv_sub hl [1, 2, 0] rfl))
    | (exact tail _ _ _ _ hW hS (fw_tr (fw_tr f0 (fw_fS _ (by omega) (by omega))) (fw_fS _ (by omega) (by omega))) (by rw [tl_planv, if_neg (show ¬ tl_kind (ln M o) = 1 by omega), if_pos (show tl_kind (ln M o) = 2 by omega)]; exact ln_ext (((fr_n _ _ (by omega)).trans (fr_n _ _ (by omega))).trans a1) ((fr_n _ _ (by omega)).trans (fr_s _ _ _)) (((fr_n _ _ (by omega)).trans (fr_n _ _ (by omega))).trans a3) (fr_s _ _ _) a5) (lv_sub hl [1, 2, 0] rfl))
    | (exact tail _ _ _ _ hW hS f3 e3 (lv_sub hl [1, 2, 0] rfl))
    | (exact tail _ _ _ _ hW hS f0 (by rw [tl_planv, if_neg (show ¬ tl_kind (ln M o) = 1 by omega), if_neg (show ¬ tl_kind (ln M o) = 2 by omega), if_neg (show ¬ tl_kind (ln M o) = 3 by omega)]; exact e0) (lv_sub hl [1, 2, 0] rfl))
end
section
/-! Slips (by program: wip/whole/gen/slips.py) -/
abbrev fneg (f : tl_F) : tl_F := (-f.1, f.2)
def tl_dvs (v : tl_L) : Prop := ¬ v.1.1.1 = 0 ∧ ¬ v.1.1 = (1, 1)
def tl_slipv (n : Int) (v : tl_L) : tl_L :=
  if n = 1 then ((fadd v.1.1 v.2.1.1, v.1.2), ((0, 1), v.2.1.2), v.2.2)
  else if n = 2 then ((v.1.1, (0, 1)), (v.2.1.1, fadd v.1.2 v.2.1.2), v.2.2)
  else if n = 3 then (((1, 1), fdiv v.1.2 v.1.1), v.2.1, v.2.2)
  else if n = 4 then (((1, 1), v.1.2), (fdiv v.2.1.1 v.1.1, fdiv v.2.1.2 v.1.1), v.2.2)
  else if n = 5 then ((fneg v.1.1, fneg v.1.2), (fneg v.2.1.1, fneg v.2.1.2), v.2.2)
  else if n = 6 then (((1, 1), v.1.2), (v.2.1.1, fsub v.2.1.2 v.1.1), v.2.2)
  else v
def tl_poss (n : Int) (v : tl_L) : Int :=
  if n = 1 then tl_b (¬ v.2.1.1.1 = 0)
  else if n = 2 then tl_b (¬ v.1.2.1 = 0)
  else if n = 3 then tl_b (¬ v.1.1.1 = 0 ∧ ¬ v.1.1 = (1, 1))
  else if n = 4 then tl_b ((¬ v.1.1.1 = 0 ∧ ¬ v.1.1 = (1, 1)) ∧ ¬ v.1.2.1 = 0)
  else if n = 5 then tl_b (¬ v.2.2 = 0)
  else if n = 6 then tl_b ((¬ v.1.1.1 = 0 ∧ ¬ v.1.1 = (1, 1)) ∧ v.1.2.1 = 0 ∧ v.2.1.1.1 = 0)
  else 0
def tl_exp (v w : tl_L) : Nat → Int → Int
  | 0, _ => 0
  | k + 1, n => if ¬ tl_poss n v = 0 ∧ tl_slipv n v = w then n else tl_exp v w k (n + 1)
theorem tl_poss_z (n : Int) (v : tl_L) : tl_poss n v = 0 ∨ tl_poss n v = 1 := by
  unfold tl_poss
  repeat' split
  all_goals first | exact tl_b_z _ | exact Or.inl rfl
theorem fLok_neg {f : tl_F} (h : fok f) : fLok (fneg f) := by
  obtain ⟨h1, h2, h3, h4⟩ := h
  exact ⟨by show inL (-f.1); omega, by show inL f.2; omega⟩
theorem tl_poss_A {n : Int} {v : tl_L} (hn : n = 3 ∨ n = 4 ∨ n = 6) (h : ¬ tl_poss n v = 0) : ¬ v.1.1.1 = 0 := by
  intro z
  apply h
  rcases hn with rfl | rfl | rfl
  · show tl_b (¬ v.1.1.1 = 0 ∧ ¬ v.1.1 = (1, 1)) = 0
    exact tl_b_0.mpr (fun q => q.1 z)
  · show tl_b ((¬ v.1.1.1 = 0 ∧ ¬ v.1.1 = (1, 1)) ∧ ¬ v.1.2.1 = 0) = 0
    exact tl_b_0.mpr (fun q => q.1.1 z)
  · show tl_b ((¬ v.1.1.1 = 0 ∧ ¬ v.1.1 = (1, 1)) ∧ v.1.2.1 = 0 ∧ v.2.1.1.1 = 0) = 0
    exact tl_b_0.mpr (fun q => q.1.1 z)
theorem lLok_slip {n : Int} {v : tl_L} (h : lok v) (hp : ¬ tl_poss n v = 0) : lLok (tl_slipv n v) := by
  unfold tl_slipv
  split
  · exact ⟨⟨fLok_add h.1.1 h.2.1.1, fLok_of h.1.2⟩, fLok_0, fLok_of h.2.1.2⟩
  · split
    · exact ⟨⟨fLok_of h.1.1, fLok_0⟩, fLok_of h.2.1.1, fLok_add h.1.2 h.2.1.2⟩
    · split
      · exact ⟨⟨fLok_1, fLok_div h.1.2 h.1.1 (tl_poss_A (by omega) hp)⟩, fLok_of h.2.1.1, fLok_of h.2.1.2⟩
      · split
        · exact ⟨⟨fLok_1, fLok_of h.1.2⟩, fLok_div h.2.1.1 h.1.1 (tl_poss_A (by omega) hp), fLok_div h.2.1.2 h.1.1 (tl_poss_A (by omega) hp)⟩
        · split
          · exact ⟨⟨fLok_neg h.1.1, fLok_neg h.1.2⟩, fLok_neg h.2.1.1, fLok_neg h.2.1.2⟩
          · split
            · exact ⟨⟨fLok_1, fLok_of h.1.2⟩, fLok_of h.2.1.1, fLok_sub h.2.1.2 h.1.1⟩
            · exact lLok_of h
theorem dX6_isPossible_0 : decode cX6_isPossible 0 = .ok (.aload_n 1, 1) := by decide +kernel
theorem dX6_isPossible_1 : decode cX6_isPossible 1 = .ok (.getfield 23, 3) := by decide +kernel
theorem dX6_isPossible_4 : decode cX6_isPossible 4 = .ok (.astore_n 2, 1) := by decide +kernel
theorem dX6_isPossible_5 : decode cX6_isPossible 5 = .ok (.aload_n 2, 1) := by decide +kernel
theorem dX6_isPossible_6 : decode cX6_isPossible 6 = .ok (.getfield 27, 3) := by decide +kernel
theorem dX6_isPossible_9 : decode cX6_isPossible 9 = .ok (.invokevirtual 33, 3) := by decide +kernel
theorem dX6_isPossible_12 : decode cX6_isPossible 12 = .ok (.ifCond .ne 18, 3) := by decide +kernel
theorem dX6_isPossible_15 : decode cX6_isPossible 15 = .ok (.aload_n 2, 1) := by decide +kernel
theorem dX6_isPossible_16 : decode cX6_isPossible 16 = .ok (.getfield 27, 3) := by decide +kernel
theorem dX6_isPossible_19 : decode cX6_isPossible 19 = .ok (.lconst 1, 1) := by decide +kernel
theorem dX6_isPossible_20 : decode cX6_isPossible 20 = .ok (.invokevirtual 39, 3) := by decide +kernel
theorem dX6_isPossible_23 : decode cX6_isPossible 23 = .ok (.ifCond .ne 7, 3) := by decide +kernel
theorem dX6_isPossible_26 : decode cX6_isPossible 26 = .ok (.iconst 1, 1) := by decide +kernel
theorem dX6_isPossible_27 : decode cX6_isPossible 27 = .ok (.goto 4, 3) := by decide +kernel
theorem dX6_isPossible_30 : decode cX6_isPossible 30 = .ok (.iconst 0, 1) := by decide +kernel
theorem dX6_isPossible_31 : decode cX6_isPossible 31 = .ok (.istore_n 3, 1) := by decide +kernel
theorem dX6_isPossible_32 : decode cX6_isPossible 32 = .ok (.iload_n 0, 1) := by decide +kernel
theorem dX6_isPossible_33 : decode cX6_isPossible 33 = .ok (.tableswitch 142 1 6 #[39, 58, 74, 76, 96, 109], 39) := by decide +kernel
theorem dX6_isPossible_72 : decode cX6_isPossible 72 = .ok (.aload_n 1, 1) := by decide +kernel
theorem dX6_isPossible_73 : decode cX6_isPossible 73 = .ok (.getfield 43, 3) := by decide +kernel
theorem dX6_isPossible_76 : decode cX6_isPossible 76 = .ok (.getfield 27, 3) := by decide +kernel
theorem dX6_isPossible_79 : decode cX6_isPossible 79 = .ok (.invokevirtual 33, 3) := by decide +kernel
theorem dX6_isPossible_82 : decode cX6_isPossible 82 = .ok (.ifCond .ne 7, 3) := by decide +kernel
theorem dX6_isPossible_85 : decode cX6_isPossible 85 = .ok (.iconst 1, 1) := by decide +kernel
theorem dX6_isPossible_86 : decode cX6_isPossible 86 = .ok (.goto 4, 3) := by decide +kernel
theorem dX6_isPossible_89 : decode cX6_isPossible 89 = .ok (.iconst 0, 1) := by decide +kernel
theorem dX6_isPossible_90 : decode cX6_isPossible 90 = .ok (.ireturn, 1) := by decide +kernel
theorem dX6_isPossible_91 : decode cX6_isPossible 91 = .ok (.aload_n 2, 1) := by decide +kernel
theorem dX6_isPossible_92 : decode cX6_isPossible 92 = .ok (.getfield 46, 3) := by decide +kernel
theorem dX6_isPossible_95 : decode cX6_isPossible 95 = .ok (.invokevirtual 33, 3) := by decide +kernel
theorem dX6_isPossible_98 : decode cX6_isPossible 98 = .ok (.ifCond .ne 7, 3) := by decide +kernel
theorem dX6_isPossible_101 : decode cX6_isPossible 101 = .ok (.iconst 1, 1) := by decide +kernel
theorem dX6_isPossible_102 : decode cX6_isPossible 102 = .ok (.goto 4, 3) := by decide +kernel
theorem dX6_isPossible_105 : decode cX6_isPossible 105 = .ok (.iconst 0, 1) := by decide +kernel
theorem dX6_isPossible_106 : decode cX6_isPossible 106 = .ok (.ireturn, 1) := by decide +kernel
theorem dX6_isPossible_107 : decode cX6_isPossible 107 = .ok (.iload_n 3, 1) := by decide +kernel
theorem dX6_isPossible_108 : decode cX6_isPossible 108 = .ok (.ireturn, 1) := by decide +kernel
theorem dX6_isPossible_109 : decode cX6_isPossible 109 = .ok (.iload_n 3, 1) := by decide +kernel
theorem dX6_isPossible_110 : decode cX6_isPossible 110 = .ok (.ifCond .eq 17, 3) := by decide +kernel
theorem dX6_isPossible_113 : decode cX6_isPossible 113 = .ok (.aload_n 2, 1) := by decide +kernel
theorem dX6_isPossible_114 : decode cX6_isPossible 114 = .ok (.getfield 46, 3) := by decide +kernel
theorem dX6_isPossible_117 : decode cX6_isPossible 117 = .ok (.invokevirtual 33, 3) := by decide +kernel
theorem dX6_isPossible_120 : decode cX6_isPossible 120 = .ok (.ifCond .ne 7, 3) := by decide +kernel
theorem dX6_isPossible_123 : decode cX6_isPossible 123 = .ok (.iconst 1, 1) := by decide +kernel
theorem dX6_isPossible_124 : decode cX6_isPossible 124 = .ok (.goto 4, 3) := by decide +kernel
theorem dX6_isPossible_127 : decode cX6_isPossible 127 = .ok (.iconst 0, 1) := by decide +kernel
theorem dX6_isPossible_128 : decode cX6_isPossible 128 = .ok (.ireturn, 1) := by decide +kernel
theorem dX6_isPossible_129 : decode cX6_isPossible 129 = .ok (.aload_n 1, 1) := by decide +kernel
theorem dX6_isPossible_130 : decode cX6_isPossible 130 = .ok (.getfield 49, 3) := by decide +kernel
theorem dX6_isPossible_133 : decode cX6_isPossible 133 = .ok (.ifCond .eq 7, 3) := by decide +kernel
theorem dX6_isPossible_136 : decode cX6_isPossible 136 = .ok (.iconst 1, 1) := by decide +kernel
theorem dX6_isPossible_137 : decode cX6_isPossible 137 = .ok (.goto 4, 3) := by decide +kernel
theorem dX6_isPossible_140 : decode cX6_isPossible 140 = .ok (.iconst 0, 1) := by decide +kernel
theorem dX6_isPossible_141 : decode cX6_isPossible 141 = .ok (.ireturn, 1) := by decide +kernel
theorem dX6_isPossible_142 : decode cX6_isPossible 142 = .ok (.iload_n 3, 1) := by decide +kernel
theorem dX6_isPossible_143 : decode cX6_isPossible 143 = .ok (.ifCond .eq 30, 3) := by decide +kernel
theorem dX6_isPossible_146 : decode cX6_isPossible 146 = .ok (.aload_n 2, 1) := by decide +kernel
theorem dX6_isPossible_147 : decode cX6_isPossible 147 = .ok (.getfield 46, 3) := by decide +kernel
theorem dX6_isPossible_150 : decode cX6_isPossible 150 = .ok (.invokevirtual 33, 3) := by decide +kernel
theorem dX6_isPossible_153 : decode cX6_isPossible 153 = .ok (.ifCond .eq 20, 3) := by decide +kernel
theorem dX6_isPossible_156 : decode cX6_isPossible 156 = .ok (.aload_n 1, 1) := by decide +kernel
theorem dX6_isPossible_157 : decode cX6_isPossible 157 = .ok (.getfield 43, 3) := by decide +kernel
theorem dX6_isPossible_160 : decode cX6_isPossible 160 = .ok (.getfield 27, 3) := by decide +kernel
theorem dX6_isPossible_163 : decode cX6_isPossible 163 = .ok (.invokevirtual 33, 3) := by decide +kernel
theorem dX6_isPossible_166 : decode cX6_isPossible 166 = .ok (.ifCond .eq 7, 3) := by decide +kernel
theorem dX6_isPossible_169 : decode cX6_isPossible 169 = .ok (.iconst 1, 1) := by decide +kernel
theorem dX6_isPossible_170 : decode cX6_isPossible 170 = .ok (.goto 4, 3) := by decide +kernel
theorem dX6_isPossible_173 : decode cX6_isPossible 173 = .ok (.iconst 0, 1) := by decide +kernel
theorem dX6_isPossible_174 : decode cX6_isPossible 174 = .ok (.ireturn, 1) := by decide +kernel
theorem dX6_isPossible_175 : decode cX6_isPossible 175 = .ok (.iconst 0, 1) := by decide +kernel
theorem dX6_isPossible_176 : decode cX6_isPossible 176 = .ok (.ireturn, 1) := by decide +kernel
set_option maxHeartbeats 4000000 in
set_option maxRecDepth 100000 in
/-- Slips.isPossible -/
theorem c_X6_isPossible {l : Launch} {G : tm_G} {Hb : Heap} {sh : tm_sh} {M : tm_M} {o : Nat} {n : Int} (ht : isLn sh M o) (hv : lok (ln M o)) (hn : inI n) : Met l yX6_isPossible (tws yX6_isPossible cX6_isPossible 4 (some .boolean)) ({ frames := 1, cells := 0, slots := 0, locals := 22 }) (va_Pc [ji n, .ref o] (tm_St G Hb sh M)) (tm_Qi G Hb sh (fun r M1 => r = tl_poss n (ln M o) ∧ M1 = M)) 0 0 (tm_A Hb) := by
  refine tm_begin (by decide) (Nat.le_of_ble_eq_true rfl) (fun p e s m below meth c ls hx hb hr hml hown htw hlk hnm hK hW hl => ?_)
  have hS : va_S (tm_A Hb) s.heap s.heap [] := va_S.rf
  have hl : lv_has ls 4 [(0, ji n), (1, .ref o)] := hl
  obtain ⟨t0, t1, t2, ⟨t3, t4, t5, t6, t7⟩, ⟨u3, u4, u5, u6, u7⟩⟩ := ht
  obtain ⟨⟨hA, hB⟩, ⟨hC, hD⟩, hR1, hR2⟩ := hv
  have e5 : (ln M o).2.2 = mI M o 2 := rfl
  have tail : ∀ (H : Heap) (locs : List Loc) (ls : Array Slot), tm_W G Hb sh M H → va_S (tm_A Hb) s.heap H locs → lv_has ls 4 [(0, ji n), (1, .ref o), (2, .ref (o + 1)), (3, ji (tl_b (¬ (ln M o).1.1.1 = 0 ∧ ¬ (ln M o).1.1 = (1, 1))))] → W p l e ({ frames := 1, cells := 0, slots := 0, locals := 22 }) s m [ji n, .ref o].toArray below meth c H locs 0 0 (MQ below (tm_Qi G Hb sh (fun r M1 => r = tl_poss n (ln M o) ∧ M1 = M)) [ji n, .ref o].toArray s 0 0 (tm_A Hb)) (F0 m 32 ls []) := by
    intro H locs ls hW hS hl
    refine lv_iload_n hx hb dX6_isPossible_32 rfl (lv_at hl 0 rfl) ?_
    refine ti_ts_1_6 (td := 175) (t1 := 72) (t2 := 91) (t3 := 107) (t4 := 109) (t5 := 129) (t6 := 142) hx hb dX6_isPossible_33 (by omega) (by decide) (by decide) (by decide) (by decide) (by decide) (by decide) (by decide) (fun h33 => ?_) (fun h33 => ?_) (fun h33 => ?_) (fun h33 => ?_) (fun h33 => ?_) (fun h33 => ?_) (fun h33 => ?_)
    · refine lv_aload_n hx hb dX6_isPossible_72 rfl (lv_at hl 1 rfl) ?_
      refine gf_X6_43 hx hb htw hown hK hW (by assumption) (by assumption) dX6_isPossible_73 ?_
      refine gf_X6_27 hx hb htw hown hK hW (by assumption) (by assumption) dX6_isPossible_76 ?_
      refine tm_calli (cs_X6_33 hx hb hml hown htw hK hW (by assumption) (c_X0_isZero (by assumption) (fok_L hC).1) ⟨rfl, rfl, Nat.le_of_ble_eq_true rfl, Nat.le_of_ble_eq_true rfl⟩ hl.1 (Nat.le_of_ble_eq_true rfl) dX6_isPossible_79 ⟨Nat.le_of_ble_eq_true rfl, Nat.le_of_ble_eq_true rfl⟩) hS (fun x79 M79 H locs hp79 hW hS => ?_)
      obtain ⟨ex79, eM79⟩ := hp79
      rw [eM79] at hW
      rw [ex79]
      refine ti_if_ne (tgt := 89) hx hb dX6_isPossible_82 (by decide) (tl_b_r _) (fun h82 => ?_) (fun h82 => ?_)
      · refine ti_iconst hx hb dX6_isPossible_89 ?_
        exact tm_zret hx hb hr hlk (by first | exact Or.inl rfl | exact Or.inr rfl | assumption) hK hW hS ⟨by subst h33; first | exact tl_b_f (fun z => z (tl_b_n.mp h82)) | exact tl_b_t (tl_b_0.mp h82), rfl⟩ dX6_isPossible_90
      · refine ti_iconst hx hb dX6_isPossible_85 ?_
        refine lv_goto (tgt := 90) hx hb dX6_isPossible_86 (by decide) ?_
        exact tm_zret hx hb hr hlk (by first | exact Or.inl rfl | exact Or.inr rfl | assumption) hK hW hS ⟨by subst h33; first | exact tl_b_f (fun z => z (tl_b_n.mp h82)) | exact tl_b_t (tl_b_0.mp h82), rfl⟩ dX6_isPossible_90
    · refine lv_aload_n hx hb dX6_isPossible_91 rfl (lv_at hl 2 rfl) ?_
      refine gf_X6_46 hx hb htw hown hK hW (by assumption) (by assumption) dX6_isPossible_92 ?_
      refine tm_calli (cs_X6_33 hx hb hml hown htw hK hW (by assumption) (c_X0_isZero (by assumption) (fok_L hB).1) ⟨rfl, rfl, Nat.le_of_ble_eq_true rfl, Nat.le_of_ble_eq_true rfl⟩ hl.1 (Nat.le_of_ble_eq_true rfl) dX6_isPossible_95 ⟨Nat.le_of_ble_eq_true rfl, Nat.le_of_ble_eq_true rfl⟩) hS (fun x95 M95 H locs hp95 hW hS => ?_)
      obtain ⟨ex95, eM95⟩ := hp95
      rw [eM95] at hW
      rw [ex95]
      refine ti_if_ne (tgt := 105) hx hb dX6_isPossible_98 (by decide) (tl_b_r _) (fun h98 => ?_) (fun h98 => ?_)
      · refine ti_iconst hx hb dX6_isPossible_105 ?_
        exact tm_zret hx hb hr hlk (by first | exact Or.inl rfl | exact Or.inr rfl | assumption) hK hW hS ⟨by subst h33; first | exact tl_b_f (fun z => z (tl_b_n.mp h98)) | exact tl_b_t (tl_b_0.mp h98), rfl⟩ dX6_isPossible_106
      · refine ti_iconst hx hb dX6_isPossible_101 ?_
        refine lv_goto (tgt := 106) hx hb dX6_isPossible_102 (by decide) ?_
        exact tm_zret hx hb hr hlk (by first | exact Or.inl rfl | exact Or.inr rfl | assumption) hK hW hS ⟨by subst h33; first | exact tl_b_f (fun z => z (tl_b_n.mp h98)) | exact tl_b_t (tl_b_0.mp h98), rfl⟩ dX6_isPossible_106
    · refine lv_iload_n hx hb dX6_isPossible_107 rfl (lv_at hl 3 rfl) ?_
      exact tm_zret hx hb hr hlk (tl_b_z _) hK hW hS ⟨by subst h33; rfl, rfl⟩ dX6_isPossible_108
    · refine lv_iload_n hx hb dX6_isPossible_109 rfl (lv_at hl 3 rfl) ?_
      refine ti_if_eq (tgt := 127) hx hb dX6_isPossible_110 (by decide) (tl_b_r _) (fun h110 => ?_) (fun h110 => ?_)
      · refine ti_iconst hx hb dX6_isPossible_127 ?_
        exact tm_zret hx hb hr hlk (by first | exact Or.inl rfl | exact Or.inr rfl | assumption) hK hW hS ⟨by subst h33; first | exact tl_b_f (fun z => tl_b_0.mp h110 z.1) | exact tl_b_f (fun z => z.2 (tl_b_n.mp h120)) | exact tl_b_t ⟨tl_b_n.mp h110, tl_b_0.mp h120⟩, rfl⟩ dX6_isPossible_128
      · refine lv_aload_n hx hb dX6_isPossible_113 rfl (lv_at hl 2 rfl) ?_
        refine gf_X6_46 hx hb htw hown hK hW (by assumption) (by assumption) dX6_isPossible_114 ?_
        refine tm_calli (cs_X6_33 hx hb hml hown htw hK hW (by assumption) (c_X0_isZero (by assumption) (fok_L hB).1) ⟨rfl, rfl, Nat.le_of_ble_eq_true rfl, Nat.le_of_ble_eq_true rfl⟩ hl.1 (Nat.le_of_ble_eq_true rfl) dX6_isPossible_117 ⟨Nat.le_of_ble_eq_true rfl, Nat.le_of_ble_eq_true rfl⟩) hS (fun x117 M117 H locs hp117 hW hS => ?_)
        obtain ⟨ex117, eM117⟩ := hp117
        rw [eM117] at hW
        rw [ex117]
        refine ti_if_ne (tgt := 127) hx hb dX6_isPossible_120 (by decide) (tl_b_r _) (fun h120 => ?_) (fun h120 => ?_)
        · refine ti_iconst hx hb dX6_isPossible_127 ?_
          exact tm_zret hx hb hr hlk (by first | exact Or.inl rfl | exact Or.inr rfl | assumption) hK hW hS ⟨by subst h33; first | exact tl_b_f (fun z => tl_b_0.mp h110 z.1) | exact tl_b_f (fun z => z.2 (tl_b_n.mp h120)) | exact tl_b_t ⟨tl_b_n.mp h110, tl_b_0.mp h120⟩, rfl⟩ dX6_isPossible_128
        · refine ti_iconst hx hb dX6_isPossible_123 ?_
          refine lv_goto (tgt := 128) hx hb dX6_isPossible_124 (by decide) ?_
          exact tm_zret hx hb hr hlk (by first | exact Or.inl rfl | exact Or.inr rfl | assumption) hK hW hS ⟨by subst h33; first | exact tl_b_f (fun z => tl_b_0.mp h110 z.1) | exact tl_b_f (fun z => z.2 (tl_b_n.mp h120)) | exact tl_b_t ⟨tl_b_n.mp h110, tl_b_0.mp h120⟩, rfl⟩ dX6_isPossible_128
    · refine lv_aload_n hx hb dX6_isPossible_129 rfl (lv_at hl 1 rfl) ?_
      refine gf_X6_49 hx hb htw hown hK hW (by assumption) dX6_isPossible_130 ?_
      refine ti_if_eq (tgt := 140) hx hb dX6_isPossible_133 (by decide) (show inI (mI M o 2) by omega) (fun h133 => ?_) (fun h133 => ?_)
      · refine ti_iconst hx hb dX6_isPossible_140 ?_
        exact tm_zret hx hb hr hlk (by first | exact Or.inl rfl | exact Or.inr rfl | assumption) hK hW hS ⟨by subst h33; first | exact tl_b_f (fun z => z h133) | exact tl_b_t h133, rfl⟩ dX6_isPossible_141
      · refine ti_iconst hx hb dX6_isPossible_136 ?_
        refine lv_goto (tgt := 141) hx hb dX6_isPossible_137 (by decide) ?_
        exact tm_zret hx hb hr hlk (by first | exact Or.inl rfl | exact Or.inr rfl | assumption) hK hW hS ⟨by subst h33; first | exact tl_b_f (fun z => z h133) | exact tl_b_t h133, rfl⟩ dX6_isPossible_141
    · refine lv_iload_n hx hb dX6_isPossible_142 rfl (lv_at hl 3 rfl) ?_
      refine ti_if_eq (tgt := 173) hx hb dX6_isPossible_143 (by decide) (tl_b_r _) (fun h143 => ?_) (fun h143 => ?_)
      · refine ti_iconst hx hb dX6_isPossible_173 ?_
        exact tm_zret hx hb hr hlk (by first | exact Or.inl rfl | exact Or.inr rfl | assumption) hK hW hS ⟨by subst h33; first | exact tl_b_f (fun z => tl_b_0.mp h143 z.1) | exact tl_b_f (fun z => tl_b_0.mp h153 z.2.1) | exact tl_b_f (fun z => tl_b_0.mp h166 z.2.2) | exact tl_b_t ⟨tl_b_n.mp h143, tl_b_n.mp h153, tl_b_n.mp h166⟩, rfl⟩ dX6_isPossible_174
      · refine lv_aload_n hx hb dX6_isPossible_146 rfl (lv_at hl 2 rfl) ?_
        refine gf_X6_46 hx hb htw hown hK hW (by assumption) (by assumption) dX6_isPossible_147 ?_
        refine tm_calli (cs_X6_33 hx hb hml hown htw hK hW (by assumption) (c_X0_isZero (by assumption) (fok_L hB).1) ⟨rfl, rfl, Nat.le_of_ble_eq_true rfl, Nat.le_of_ble_eq_true rfl⟩ hl.1 (Nat.le_of_ble_eq_true rfl) dX6_isPossible_150 ⟨Nat.le_of_ble_eq_true rfl, Nat.le_of_ble_eq_true rfl⟩) hS (fun x150 M150 H locs hp150 hW hS => ?_)
        obtain ⟨ex150, eM150⟩ := hp150
        rw [eM150] at hW
        rw [ex150]
        refine ti_if_eq (tgt := 173) hx hb dX6_isPossible_153 (by decide) (tl_b_r _) (fun h153 => ?_) (fun h153 => ?_)
        · refine ti_iconst hx hb dX6_isPossible_173 ?_
          exact tm_zret hx hb hr hlk (by first | exact Or.inl rfl | exact Or.inr rfl | assumption) hK hW hS ⟨by subst h33; first | exact tl_b_f (fun z => tl_b_0.mp h143 z.1) | exact tl_b_f (fun z => tl_b_0.mp h153 z.2.1) | exact tl_b_f (fun z => tl_b_0.mp h166 z.2.2) | exact tl_b_t ⟨tl_b_n.mp h143, tl_b_n.mp h153, tl_b_n.mp h166⟩, rfl⟩ dX6_isPossible_174
        · refine lv_aload_n hx hb dX6_isPossible_156 rfl (lv_at hl 1 rfl) ?_
          refine gf_X6_43 hx hb htw hown hK hW (by assumption) (by assumption) dX6_isPossible_157 ?_
          refine gf_X6_27 hx hb htw hown hK hW (by assumption) (by assumption) dX6_isPossible_160 ?_
          refine tm_calli (cs_X6_33 hx hb hml hown htw hK hW (by assumption) (c_X0_isZero (by assumption) (fok_L hC).1) ⟨rfl, rfl, Nat.le_of_ble_eq_true rfl, Nat.le_of_ble_eq_true rfl⟩ hl.1 (Nat.le_of_ble_eq_true rfl) dX6_isPossible_163 ⟨Nat.le_of_ble_eq_true rfl, Nat.le_of_ble_eq_true rfl⟩) hS (fun x163 M163 H locs hp163 hW hS => ?_)
          obtain ⟨ex163, eM163⟩ := hp163
          rw [eM163] at hW
          rw [ex163]
          refine ti_if_eq (tgt := 173) hx hb dX6_isPossible_166 (by decide) (tl_b_r _) (fun h166 => ?_) (fun h166 => ?_)
          · refine ti_iconst hx hb dX6_isPossible_173 ?_
            exact tm_zret hx hb hr hlk (by first | exact Or.inl rfl | exact Or.inr rfl | assumption) hK hW hS ⟨by subst h33; first | exact tl_b_f (fun z => tl_b_0.mp h143 z.1) | exact tl_b_f (fun z => tl_b_0.mp h153 z.2.1) | exact tl_b_f (fun z => tl_b_0.mp h166 z.2.2) | exact tl_b_t ⟨tl_b_n.mp h143, tl_b_n.mp h153, tl_b_n.mp h166⟩, rfl⟩ dX6_isPossible_174
          · refine ti_iconst hx hb dX6_isPossible_169 ?_
            refine lv_goto (tgt := 174) hx hb dX6_isPossible_170 (by decide) ?_
            exact tm_zret hx hb hr hlk (by first | exact Or.inl rfl | exact Or.inr rfl | assumption) hK hW hS ⟨by subst h33; first | exact tl_b_f (fun z => tl_b_0.mp h143 z.1) | exact tl_b_f (fun z => tl_b_0.mp h153 z.2.1) | exact tl_b_f (fun z => tl_b_0.mp h166 z.2.2) | exact tl_b_t ⟨tl_b_n.mp h143, tl_b_n.mp h153, tl_b_n.mp h166⟩, rfl⟩ dX6_isPossible_174
    · refine ti_iconst hx hb dX6_isPossible_175 ?_
      exact tm_zret hx hb hr hlk (by first | exact Or.inl rfl | exact Or.inr rfl | assumption) hK hW hS ⟨by rw [tl_poss, if_neg (by omega), if_neg (by omega), if_neg (by omega), if_neg (by omega), if_neg (by omega), if_neg (by omega)], rfl⟩ dX6_isPossible_176
  refine lv_aload_n hx hb dX6_isPossible_0 rfl (lv_at hl 1 rfl) ?_
  refine gf_X6_23 hx hb htw hown hK hW (by assumption) (by assumption) dX6_isPossible_1 ?_
  refine lv_astore_n (lv' := [(2, _), (0, _), (1, _)]) hx hb dX6_isPossible_4 rfl hl (by decide) rfl (fun ls hl => ?_)
  refine lv_aload_n hx hb dX6_isPossible_5 rfl (lv_at hl 0 rfl) ?_
  refine gf_X6_27 hx hb htw hown hK hW (by assumption) (by assumption) dX6_isPossible_6 ?_
  refine tm_calli (cs_X6_33 hx hb hml hown htw hK hW (by assumption) (c_X0_isZero (by assumption) (fok_L hA).1) ⟨rfl, rfl, Nat.le_of_ble_eq_true rfl, Nat.le_of_ble_eq_true rfl⟩ hl.1 (Nat.le_of_ble_eq_true rfl) dX6_isPossible_9 ⟨Nat.le_of_ble_eq_true rfl, Nat.le_of_ble_eq_true rfl⟩) hS (fun x9 M9 H locs hp9 hW hS => ?_)
  obtain ⟨ex9, eM9⟩ := hp9
  rw [eM9] at hW
  rw [ex9]
  refine ti_if_ne (tgt := 30) hx hb dX6_isPossible_12 (by decide) (tl_b_r _) (fun h12 => ?_) (fun h12 => ?_)
  · refine ti_iconst hx hb dX6_isPossible_30 ?_
    refine lv_istore_n (lv' := [(3, _), (2, _), (0, _), (1, _)]) hx hb dX6_isPossible_31 rfl hl (by decide) rfl (fun ls hl => ?_)
    first
    | exact tail _ _ _ hW hS (by rw [show tl_b (¬ (ln M o).1.1.1 = 0 ∧ ¬ (ln M o).1.1 = (1, 1)) = 0 from tl_b_0.mpr (fun z => z.1 (tl_b_n.mp h12))]; exact lv_sub hl [2, 3, 1, 0] rfl)
    | exact tail _ _ _ hW hS (by rw [show tl_b (¬ (ln M o).1.1.1 = 0 ∧ ¬ (ln M o).1.1 = (1, 1)) = 0 from tl_b_0.mpr (fun z => z.2 (tl_b_n.mp h23))]; exact lv_sub hl [2, 3, 1, 0] rfl)
    | exact tail _ _ _ hW hS (by rw [show tl_b (¬ (ln M o).1.1.1 = 0 ∧ ¬ (ln M o).1.1 = (1, 1)) = 1 from (tl_b_t ⟨tl_b_0.mp h12, tl_b_0.mp h23⟩).symm]; exact lv_sub hl [2, 3, 1, 0] rfl)
  · refine lv_aload_n hx hb dX6_isPossible_15 rfl (lv_at hl 0 rfl) ?_
    refine gf_X6_27 hx hb htw hown hK hW (by assumption) (by assumption) dX6_isPossible_16 ?_
    refine ti_lconst1 hx hb dX6_isPossible_19 ?_
    refine tm_calli (cs_X6_39 hx hb hml hown htw hK hW (by assumption) (c_X0_isWhole (by assumption) (fok_L hA) (by decide)) ⟨rfl, rfl, Nat.le_of_ble_eq_true rfl, Nat.le_of_ble_eq_true rfl⟩ hl.1 (Nat.le_of_ble_eq_true rfl) dX6_isPossible_20 ⟨Nat.le_of_ble_eq_true rfl, Nat.le_of_ble_eq_true rfl⟩) hS (fun x20 M20 H locs hp20 hW hS => ?_)
    obtain ⟨ex20, eM20⟩ := hp20
    rw [eM20] at hW
    rw [ex20]
    refine ti_if_ne (tgt := 30) hx hb dX6_isPossible_23 (by decide) (tl_b_r _) (fun h23 => ?_) (fun h23 => ?_)
    · refine ti_iconst hx hb dX6_isPossible_30 ?_
      refine lv_istore_n (lv' := [(3, _), (2, _), (0, _), (1, _)]) hx hb dX6_isPossible_31 rfl hl (by decide) rfl (fun ls hl => ?_)
      first
      | exact tail _ _ _ hW hS (by rw [show tl_b (¬ (ln M o).1.1.1 = 0 ∧ ¬ (ln M o).1.1 = (1, 1)) = 0 from tl_b_0.mpr (fun z => z.1 (tl_b_n.mp h12))]; exact lv_sub hl [2, 3, 1, 0] rfl)
      | exact tail _ _ _ hW hS (by rw [show tl_b (¬ (ln M o).1.1.1 = 0 ∧ ¬ (ln M o).1.1 = (1, 1)) = 0 from tl_b_0.mpr (fun z => z.2 (tl_b_n.mp h23))]; exact lv_sub hl [2, 3, 1, 0] rfl)
      | exact tail _ _ _ hW hS (by rw [show tl_b (¬ (ln M o).1.1.1 = 0 ∧ ¬ (ln M o).1.1 = (1, 1)) = 1 from (tl_b_t ⟨tl_b_0.mp h12, tl_b_0.mp h23⟩).symm]; exact lv_sub hl [2, 3, 1, 0] rfl)
    · refine ti_iconst hx hb dX6_isPossible_26 ?_
      refine lv_goto (tgt := 31) hx hb dX6_isPossible_27 (by decide) ?_
      refine lv_istore_n (lv' := [(3, _), (2, _), (0, _), (1, _)]) hx hb dX6_isPossible_31 rfl hl (by decide) rfl (fun ls hl => ?_)
      first
      | exact tail _ _ _ hW hS (by rw [show tl_b (¬ (ln M o).1.1.1 = 0 ∧ ¬ (ln M o).1.1 = (1, 1)) = 0 from tl_b_0.mpr (fun z => z.1 (tl_b_n.mp h12))]; exact lv_sub hl [2, 3, 1, 0] rfl)
      | exact tail _ _ _ hW hS (by rw [show tl_b (¬ (ln M o).1.1.1 = 0 ∧ ¬ (ln M o).1.1 = (1, 1)) = 0 from tl_b_0.mpr (fun z => z.2 (tl_b_n.mp h23))]; exact lv_sub hl [2, 3, 1, 0] rfl)
      | exact tail _ _ _ hW hS (by rw [show tl_b (¬ (ln M o).1.1.1 = 0 ∧ ¬ (ln M o).1.1 = (1, 1)) = 1 from (tl_b_t ⟨tl_b_0.mp h12, tl_b_0.mp h23⟩).symm]; exact lv_sub hl [2, 3, 1, 0] rfl)
theorem dX6_write_0 : decode cX6_write 0 = .ok (.aload_n 1, 1) := by decide +kernel
theorem dX6_write_1 : decode cX6_write 1 = .ok (.getfield 23, 3) := by decide +kernel
theorem dX6_write_4 : decode cX6_write 4 = .ok (.astore_n 3, 1) := by decide +kernel
theorem dX6_write_5 : decode cX6_write 5 = .ok (.aload_n 1, 1) := by decide +kernel
theorem dX6_write_6 : decode cX6_write 6 = .ok (.getfield 43, 3) := by decide +kernel
theorem dX6_write_9 : decode cX6_write 9 = .ok (.astore 4, 2) := by decide +kernel
theorem dX6_write_11 : decode cX6_write 11 = .ok (.aload_n 2, 1) := by decide +kernel
theorem dX6_write_12 : decode cX6_write 12 = .ok (.aload_n 1, 1) := by decide +kernel
theorem dX6_write_13 : decode cX6_write 13 = .ok (.invokevirtual 53, 3) := by decide +kernel
theorem dX6_write_16 : decode cX6_write 16 = .ok (.iload_n 0, 1) := by decide +kernel
theorem dX6_write_17 : decode cX6_write 17 = .ok (.tableswitch 212 1 6 #[39, 72, 105, 137, 162, 179], 39) := by decide +kernel
theorem dX6_write_56 : decode cX6_write 56 = .ok (.aload_n 2, 1) := by decide +kernel
theorem dX6_write_57 : decode cX6_write 57 = .ok (.getfield 23, 3) := by decide +kernel
theorem dX6_write_60 : decode cX6_write 60 = .ok (.getfield 27, 3) := by decide +kernel
theorem dX6_write_63 : decode cX6_write 63 = .ok (.aload_n 3, 1) := by decide +kernel
theorem dX6_write_64 : decode cX6_write 64 = .ok (.getfield 27, 3) := by decide +kernel
theorem dX6_write_67 : decode cX6_write 67 = .ok (.aload 4, 2) := by decide +kernel
theorem dX6_write_69 : decode cX6_write 69 = .ok (.getfield 27, 3) := by decide +kernel
theorem dX6_write_72 : decode cX6_write 72 = .ok (.invokevirtual 57, 3) := by decide +kernel
theorem dX6_write_75 : decode cX6_write 75 = .ok (.aload_n 2, 1) := by decide +kernel
theorem dX6_write_76 : decode cX6_write 76 = .ok (.getfield 43, 3) := by decide +kernel
theorem dX6_write_79 : decode cX6_write 79 = .ok (.getfield 27, 3) := by decide +kernel
theorem dX6_write_82 : decode cX6_write 82 = .ok (.lconst 0, 1) := by decide +kernel
theorem dX6_write_83 : decode cX6_write 83 = .ok (.invokevirtual 61, 3) := by decide +kernel
theorem dX6_write_86 : decode cX6_write 86 = .ok (.goto 143, 3) := by decide +kernel
theorem dX6_write_89 : decode cX6_write 89 = .ok (.aload_n 2, 1) := by decide +kernel
theorem dX6_write_90 : decode cX6_write 90 = .ok (.getfield 23, 3) := by decide +kernel
theorem dX6_write_93 : decode cX6_write 93 = .ok (.getfield 46, 3) := by decide +kernel
theorem dX6_write_96 : decode cX6_write 96 = .ok (.lconst 0, 1) := by decide +kernel
theorem dX6_write_97 : decode cX6_write 97 = .ok (.invokevirtual 61, 3) := by decide +kernel
theorem dX6_write_100 : decode cX6_write 100 = .ok (.aload_n 2, 1) := by decide +kernel
theorem dX6_write_101 : decode cX6_write 101 = .ok (.getfield 43, 3) := by decide +kernel
theorem dX6_write_104 : decode cX6_write 104 = .ok (.getfield 46, 3) := by decide +kernel
theorem dX6_write_107 : decode cX6_write 107 = .ok (.aload_n 3, 1) := by decide +kernel
theorem dX6_write_108 : decode cX6_write 108 = .ok (.getfield 46, 3) := by decide +kernel
theorem dX6_write_111 : decode cX6_write 111 = .ok (.aload 4, 2) := by decide +kernel
theorem dX6_write_113 : decode cX6_write 113 = .ok (.getfield 46, 3) := by decide +kernel
theorem dX6_write_116 : decode cX6_write 116 = .ok (.invokevirtual 57, 3) := by decide +kernel
theorem dX6_write_119 : decode cX6_write 119 = .ok (.goto 110, 3) := by decide +kernel
theorem dX6_write_122 : decode cX6_write 122 = .ok (.aload_n 2, 1) := by decide +kernel
theorem dX6_write_123 : decode cX6_write 123 = .ok (.getfield 23, 3) := by decide +kernel
theorem dX6_write_126 : decode cX6_write 126 = .ok (.getfield 27, 3) := by decide +kernel
theorem dX6_write_129 : decode cX6_write 129 = .ok (.lconst 1, 1) := by decide +kernel
theorem dX6_write_130 : decode cX6_write 130 = .ok (.invokevirtual 61, 3) := by decide +kernel
theorem dX6_write_133 : decode cX6_write 133 = .ok (.aload_n 2, 1) := by decide +kernel
theorem dX6_write_134 : decode cX6_write 134 = .ok (.getfield 23, 3) := by decide +kernel
theorem dX6_write_137 : decode cX6_write 137 = .ok (.getfield 46, 3) := by decide +kernel
theorem dX6_write_140 : decode cX6_write 140 = .ok (.aload_n 3, 1) := by decide +kernel
theorem dX6_write_141 : decode cX6_write 141 = .ok (.getfield 46, 3) := by decide +kernel
theorem dX6_write_144 : decode cX6_write 144 = .ok (.aload_n 3, 1) := by decide +kernel
theorem dX6_write_145 : decode cX6_write 145 = .ok (.getfield 27, 3) := by decide +kernel
theorem dX6_write_148 : decode cX6_write 148 = .ok (.invokevirtual 65, 3) := by decide +kernel
theorem dX6_write_151 : decode cX6_write 151 = .ok (.goto 78, 3) := by decide +kernel
theorem dX6_write_154 : decode cX6_write 154 = .ok (.aload_n 2, 1) := by decide +kernel
theorem dX6_write_155 : decode cX6_write 155 = .ok (.getfield 23, 3) := by decide +kernel
theorem dX6_write_158 : decode cX6_write 158 = .ok (.getfield 27, 3) := by decide +kernel
theorem dX6_write_161 : decode cX6_write 161 = .ok (.lconst 1, 1) := by decide +kernel
theorem dX6_write_162 : decode cX6_write 162 = .ok (.invokevirtual 61, 3) := by decide +kernel
theorem dX6_write_165 : decode cX6_write 165 = .ok (.aload_n 2, 1) := by decide +kernel
theorem dX6_write_166 : decode cX6_write 166 = .ok (.getfield 43, 3) := by decide +kernel
theorem dX6_write_169 : decode cX6_write 169 = .ok (.aload_n 3, 1) := by decide +kernel
theorem dX6_write_170 : decode cX6_write 170 = .ok (.getfield 27, 3) := by decide +kernel
theorem dX6_write_173 : decode cX6_write 173 = .ok (.invokevirtual 68, 3) := by decide +kernel
theorem dX6_write_176 : decode cX6_write 176 = .ok (.goto 53, 3) := by decide +kernel
theorem dX6_write_179 : decode cX6_write 179 = .ok (.aload_n 2, 1) := by decide +kernel
theorem dX6_write_180 : decode cX6_write 180 = .ok (.getfield 23, 3) := by decide +kernel
theorem dX6_write_183 : decode cX6_write 183 = .ok (.invokevirtual 72, 3) := by decide +kernel
theorem dX6_write_186 : decode cX6_write 186 = .ok (.aload_n 2, 1) := by decide +kernel
theorem dX6_write_187 : decode cX6_write 187 = .ok (.getfield 43, 3) := by decide +kernel
theorem dX6_write_190 : decode cX6_write 190 = .ok (.invokevirtual 72, 3) := by decide +kernel
theorem dX6_write_193 : decode cX6_write 193 = .ok (.goto 36, 3) := by decide +kernel
theorem dX6_write_196 : decode cX6_write 196 = .ok (.aload_n 2, 1) := by decide +kernel
theorem dX6_write_197 : decode cX6_write 197 = .ok (.getfield 23, 3) := by decide +kernel
theorem dX6_write_200 : decode cX6_write 200 = .ok (.getfield 27, 3) := by decide +kernel
theorem dX6_write_203 : decode cX6_write 203 = .ok (.lconst 1, 1) := by decide +kernel
theorem dX6_write_204 : decode cX6_write 204 = .ok (.invokevirtual 61, 3) := by decide +kernel
theorem dX6_write_207 : decode cX6_write 207 = .ok (.aload_n 2, 1) := by decide +kernel
theorem dX6_write_208 : decode cX6_write 208 = .ok (.getfield 43, 3) := by decide +kernel
theorem dX6_write_211 : decode cX6_write 211 = .ok (.getfield 46, 3) := by decide +kernel
theorem dX6_write_214 : decode cX6_write 214 = .ok (.aload 4, 2) := by decide +kernel
theorem dX6_write_216 : decode cX6_write 216 = .ok (.getfield 46, 3) := by decide +kernel
theorem dX6_write_219 : decode cX6_write 219 = .ok (.aload_n 3, 1) := by decide +kernel
theorem dX6_write_220 : decode cX6_write 220 = .ok (.getfield 27, 3) := by decide +kernel
theorem dX6_write_223 : decode cX6_write 223 = .ok (.invokevirtual 75, 3) := by decide +kernel
theorem dX6_write_226 : decode cX6_write 226 = .ok (.goto 3, 3) := by decide +kernel
theorem dX6_write_229 : decode cX6_write 229 = .ok (.return_, 1) := by decide +kernel
set_option maxHeartbeats 4000000 in
set_option maxRecDepth 100000 in
/-- Slips.write -/
theorem c_X6_write {l : Launch} {G : tm_G} {Hb : Heap} {sh : tm_sh} {M : tm_M} {q o : Nat} {n : Int} (ht : isLn sh M o) (hs : isLn sh M q) (hne : o + 7 ≤ q ∨ q + 7 ≤ o) (hv : lok (ln M o)) (hn : inI n) (hps : ¬ tl_poss n (ln M o) = 0) : Met l yX6_write (tws yX6_write cX6_write 5 none) ({ frames := 4, cells := 0, slots := 0, locals := 96 }) (va_Pc [ji n, .ref o, .ref q] (tm_St G Hb sh M)) (tm_Qv G Hb sh (fun M1 => ln M1 q = tl_slipv n (ln M o) ∧ tm_fr q (q + 7) M M1)) 0 0 (tm_A Hb) := by
  refine tm_begin (by decide) (Nat.le_of_ble_eq_true rfl) (fun p e s m below meth c ls hx hb hr hml hown htw hlk hnm hK hW hl => ?_)
  have hS : va_S (tm_A Hb) s.heap s.heap [] := va_S.rf
  have hl : lv_has ls 5 [(0, ji n), (1, .ref o), (2, .ref q)] := hl
  have hs0 := hs
  have ht0 := ht
  obtain ⟨t0, t1, t2, ⟨t3, t4, t5, t6, t7⟩, ⟨u3, u4, u5, u6, u7⟩⟩ := ht
  obtain ⟨s0, s1, s2, ⟨s3, s4, s5, s6, s7⟩, ⟨r3, r4, r5, r6, r7⟩⟩ := hs
  obtain ⟨⟨hA, hB⟩, ⟨hC, hD⟩, hR1, hR2⟩ := hv
  refine lv_aload_n hx hb dX6_write_0 rfl (lv_at hl 1 rfl) ?_
  refine gf_X6_23 hx hb htw hown hK hW (by assumption) (by assumption) dX6_write_1 ?_
  refine lv_astore_n (lv' := [(3, _), (0, _), (1, _), (2, _)]) hx hb dX6_write_4 rfl hl (by decide) rfl (fun ls hl => ?_)
  refine lv_aload_n hx hb dX6_write_5 rfl (lv_at hl 2 rfl) ?_
  refine gf_X6_43 hx hb htw hown hK hW (by assumption) (by assumption) dX6_write_6 ?_
  refine lv_astore (lv' := [(4, _), (3, _), (0, _), (1, _), (2, _)]) hx hb dX6_write_9 hl (by decide) rfl (fun ls hl => ?_)
  refine lv_aload_n hx hb dX6_write_11 rfl (lv_at hl 4 rfl) ?_
  refine lv_aload_n hx hb dX6_write_12 rfl (lv_at hl 3 rfl) ?_
  refine tm_callv (cs_X6_53 hx hb hml hown htw hK hW (by assumption) (c_X1_copy hs0 ht0 hne) ⟨rfl, rfl, Nat.le_of_ble_eq_true rfl, Nat.le_of_ble_eq_true rfl⟩ hl.1 (Nat.le_of_ble_eq_true rfl) dX6_write_13 ⟨Nat.le_of_ble_eq_true rfl, Nat.le_of_ble_eq_true rfl⟩) hS (fun M13 H locs hp13 hW hS => ?_)
  rw [hp13] at hW
  have e0 : ln (lS M q (ln M o)) q = ln M o := ln_self _ _ _
  have f0 : tm_fr q (q + 7) M (lS M q (ln M o)) := fw_lS _
  generalize hg : lS M q (ln M o) = M0 at hW e0 f0
  have em := f0.1
  have sA : mR M0 q 0 = some (q + 1) := by rw [em]; exact s1
  have sB : mR M0 q 1 = some (q + 4) := by rw [em]; exact s2
  have sC := isSd_m hs0.2.2.2.1 em
  have sD := isSd_m hs0.2.2.2.2 em
  have sC9 := sC
  have sD9 := sD
  obtain ⟨-, -, -, sC1, sC2⟩ := sC
  obtain ⟨-, -, -, sD1, sD2⟩ := sD
  have tC := isSd_m ht0.2.2.2.1 em
  have tD := isSd_m ht0.2.2.2.2 em
  obtain ⟨-, -, -, tC1, tC2⟩ := tC
  obtain ⟨-, -, -, tD1, tD2⟩ := tD
  obtain ⟨a1, a2, a3, a4, a5⟩ := ln_at e0
  have b1 : fr M0 (o + 2) = (ln M o).1.1 := fw_fr f0 (by omega)
  have b2 : fr M0 (o + 3) = (ln M o).1.2 := fw_fr f0 (by omega)
  have b3 : fr M0 (o + 5) = (ln M o).2.1.1 := fw_fr f0 (by omega)
  have b4 : fr M0 (o + 6) = (ln M o).2.1.2 := fw_fr f0 (by omega)
  refine lv_iload_n hx hb dX6_write_16 rfl (lv_at hl 2 rfl) ?_
  refine ti_ts_1_6 (td := 229) (t1 := 56) (t2 := 89) (t3 := 122) (t4 := 154) (t5 := 179) (t6 := 196) hx hb dX6_write_17 (by omega) (by decide) (by decide) (by decide) (by decide) (by decide) (by decide) (by decide) (fun h17 => ?_) (fun h17 => ?_) (fun h17 => ?_) (fun h17 => ?_) (fun h17 => ?_) (fun h17 => ?_) (fun h17 => ?_)
  · refine lv_aload_n hx hb dX6_write_56 rfl (lv_at hl 4 rfl) ?_
    refine gf_X6_23 hx hb htw hown hK hW (by assumption) (by assumption) dX6_write_57 ?_
    refine gf_X6_27 hx hb htw hown hK hW (by assumption) (by assumption) dX6_write_60 ?_
    refine lv_aload_n hx hb dX6_write_63 rfl (lv_at hl 1 rfl) ?_
    refine gf_X6_27 hx hb htw hown hK hW (by assumption) (by assumption) dX6_write_64 ?_
    refine lv_aload hx hb dX6_write_67 (lv_at hl 0 rfl) ?_
    refine gf_X6_27 hx hb htw hown hK hW (by assumption) (by assumption) dX6_write_69 ?_
    refine tm_callv (cs_X6_57 hx hb hml hown htw hK hW (by assumption) (v_setSum (f := (ln M o).1.1) (g := (ln M o).2.1.1) (by assumption) (by assumption) (by assumption) b1 b3 hA hC) ⟨rfl, rfl, Nat.le_of_ble_eq_true rfl, Nat.le_of_ble_eq_true rfl⟩ hl.1 (Nat.le_of_ble_eq_true rfl) dX6_write_72 ⟨Nat.le_of_ble_eq_true rfl, Nat.le_of_ble_eq_true rfl⟩) hS (fun M72 H locs hp72 hW hS => ?_)
    rw [hp72] at hW
    refine lv_aload_n hx hb dX6_write_75 rfl (lv_at hl 4 rfl) ?_
    refine gf_X6_43 hx hb htw hown hK hW (by assumption) (by assumption) dX6_write_76 ?_
    refine gf_X6_27 hx hb htw hown hK hW (by assumption) (by assumption) dX6_write_79 ?_
    refine ti_lconst0 hx hb dX6_write_82 ?_
    refine tm_callv (cs_X6_61 hx hb hml hown htw hK hW (by assumption) (c_X0_setWhole (by assumption)) ⟨rfl, rfl, Nat.le_of_ble_eq_true rfl, Nat.le_of_ble_eq_true rfl⟩ hl.1 (Nat.le_of_ble_eq_true rfl) dX6_write_83 ⟨Nat.le_of_ble_eq_true rfl, Nat.le_of_ble_eq_true rfl⟩) hS (fun M83 H locs hp83 hW hS => ?_)
    rw [hp83] at hW
    refine lv_goto (tgt := 229) hx hb dX6_write_86 (by decide) ?_
    exact tm_vret hx hb hr hlk hK hW hS (by subst h17; exact ⟨ln_ext ((fr_n _ _ (by omega)).trans (fr_s _ _ _)) (((fr_n _ _ (by omega)).trans (fr_n _ _ (by omega))).trans a2) (fr_s _ _ _) (((fr_n _ _ (by omega)).trans (fr_n _ _ (by omega))).trans a4) a5, fw_tr (fw_tr f0 (fw_fS _ (by omega) (by omega))) (fw_fS _ (by omega) (by omega))⟩) dX6_write_229
  · refine lv_aload_n hx hb dX6_write_89 rfl (lv_at hl 4 rfl) ?_
    refine gf_X6_23 hx hb htw hown hK hW (by assumption) (by assumption) dX6_write_90 ?_
    refine gf_X6_46 hx hb htw hown hK hW (by assumption) (by assumption) dX6_write_93 ?_
    refine ti_lconst0 hx hb dX6_write_96 ?_
    refine tm_callv (cs_X6_61 hx hb hml hown htw hK hW (by assumption) (c_X0_setWhole (by assumption)) ⟨rfl, rfl, Nat.le_of_ble_eq_true rfl, Nat.le_of_ble_eq_true rfl⟩ hl.1 (Nat.le_of_ble_eq_true rfl) dX6_write_97 ⟨Nat.le_of_ble_eq_true rfl, Nat.le_of_ble_eq_true rfl⟩) hS (fun M97 H locs hp97 hW hS => ?_)
    rw [hp97] at hW
    refine lv_aload_n hx hb dX6_write_100 rfl (lv_at hl 4 rfl) ?_
    refine gf_X6_43 hx hb htw hown hK hW (by assumption) (by assumption) dX6_write_101 ?_
    refine gf_X6_46 hx hb htw hown hK hW (by assumption) (by assumption) dX6_write_104 ?_
    refine lv_aload_n hx hb dX6_write_107 rfl (lv_at hl 1 rfl) ?_
    refine gf_X6_46 hx hb htw hown hK hW (by assumption) (by assumption) dX6_write_108 ?_
    refine lv_aload hx hb dX6_write_111 (lv_at hl 0 rfl) ?_
    refine gf_X6_46 hx hb htw hown hK hW (by assumption) (by assumption) dX6_write_113 ?_
    refine tm_callv (cs_X6_57 hx hb hml hown htw hK hW (by assumption) (v_setSum (f := (ln M o).1.2) (g := (ln M o).2.1.2) (by assumption) (by assumption) (by assumption) ((fr_n _ _ (by omega)).trans b2) ((fr_n _ _ (by omega)).trans b4) hB hD) ⟨rfl, rfl, Nat.le_of_ble_eq_true rfl, Nat.le_of_ble_eq_true rfl⟩ hl.1 (Nat.le_of_ble_eq_true rfl) dX6_write_116 ⟨Nat.le_of_ble_eq_true rfl, Nat.le_of_ble_eq_true rfl⟩) hS (fun M116 H locs hp116 hW hS => ?_)
    rw [hp116] at hW
    refine lv_goto (tgt := 229) hx hb dX6_write_119 (by decide) ?_
    exact tm_vret hx hb hr hlk hK hW hS (by subst h17; exact ⟨ln_ext (((fr_n _ _ (by omega)).trans (fr_n _ _ (by omega))).trans a1) ((fr_n _ _ (by omega)).trans (fr_s _ _ _)) (((fr_n _ _ (by omega)).trans (fr_n _ _ (by omega))).trans a3) (fr_s _ _ _) a5, fw_tr (fw_tr f0 (fw_fS _ (by omega) (by omega))) (fw_fS _ (by omega) (by omega))⟩) dX6_write_229
  · refine lv_aload_n hx hb dX6_write_122 rfl (lv_at hl 4 rfl) ?_
    refine gf_X6_23 hx hb htw hown hK hW (by assumption) (by assumption) dX6_write_123 ?_
    refine gf_X6_27 hx hb htw hown hK hW (by assumption) (by assumption) dX6_write_126 ?_
    refine ti_lconst1 hx hb dX6_write_129 ?_
    refine tm_callv (cs_X6_61 hx hb hml hown htw hK hW (by assumption) (c_X0_setWhole (by assumption)) ⟨rfl, rfl, Nat.le_of_ble_eq_true rfl, Nat.le_of_ble_eq_true rfl⟩ hl.1 (Nat.le_of_ble_eq_true rfl) dX6_write_130 ⟨Nat.le_of_ble_eq_true rfl, Nat.le_of_ble_eq_true rfl⟩) hS (fun M130 H locs hp130 hW hS => ?_)
    rw [hp130] at hW
    refine lv_aload_n hx hb dX6_write_133 rfl (lv_at hl 4 rfl) ?_
    refine gf_X6_23 hx hb htw hown hK hW (by assumption) (by assumption) dX6_write_134 ?_
    refine gf_X6_46 hx hb htw hown hK hW (by assumption) (by assumption) dX6_write_137 ?_
    refine lv_aload_n hx hb dX6_write_140 rfl (lv_at hl 1 rfl) ?_
    refine gf_X6_46 hx hb htw hown hK hW (by assumption) (by assumption) dX6_write_141 ?_
    refine lv_aload_n hx hb dX6_write_144 rfl (lv_at hl 1 rfl) ?_
    refine gf_X6_27 hx hb htw hown hK hW (by assumption) (by assumption) dX6_write_145 ?_
    refine tm_callv (cs_X6_65 hx hb hml hown htw hK hW (by assumption) (v_setQuotient (f := (ln M o).1.2) (g := (ln M o).1.1) (by assumption) (by assumption) (by assumption) ((fr_n _ _ (by omega)).trans b2) ((fr_n _ _ (by omega)).trans b1) hB hA (tl_poss_A (by omega) hps)) ⟨rfl, rfl, Nat.le_of_ble_eq_true rfl, Nat.le_of_ble_eq_true rfl⟩ hl.1 (Nat.le_of_ble_eq_true rfl) dX6_write_148 ⟨Nat.le_of_ble_eq_true rfl, Nat.le_of_ble_eq_true rfl⟩) hS (fun M148 H locs hp148 hW hS => ?_)
    rw [hp148] at hW
    refine lv_goto (tgt := 229) hx hb dX6_write_151 (by decide) ?_
    exact tm_vret hx hb hr hlk hK hW hS (by subst h17; exact ⟨ln_ext ((fr_n _ _ (by omega)).trans (fr_s _ _ _)) (fr_s _ _ _) (((fr_n _ _ (by omega)).trans (fr_n _ _ (by omega))).trans a3) (((fr_n _ _ (by omega)).trans (fr_n _ _ (by omega))).trans a4) a5, fw_tr (fw_tr f0 (fw_fS _ (by omega) (by omega))) (fw_fS _ (by omega) (by omega))⟩) dX6_write_229
  · refine lv_aload_n hx hb dX6_write_154 rfl (lv_at hl 4 rfl) ?_
    refine gf_X6_23 hx hb htw hown hK hW (by assumption) (by assumption) dX6_write_155 ?_
    refine gf_X6_27 hx hb htw hown hK hW (by assumption) (by assumption) dX6_write_158 ?_
    refine ti_lconst1 hx hb dX6_write_161 ?_
    refine tm_callv (cs_X6_61 hx hb hml hown htw hK hW (by assumption) (c_X0_setWhole (by assumption)) ⟨rfl, rfl, Nat.le_of_ble_eq_true rfl, Nat.le_of_ble_eq_true rfl⟩ hl.1 (Nat.le_of_ble_eq_true rfl) dX6_write_162 ⟨Nat.le_of_ble_eq_true rfl, Nat.le_of_ble_eq_true rfl⟩) hS (fun M162 H locs hp162 hW hS => ?_)
    have g1 : fr M162 (o + 2) = (ln M o).1.1 := by rw [hp162]; exact (fr_n _ _ (by omega)).trans b1
    have g2 : fr M162 (q + 3) = (ln M o).1.2 := by rw [hp162]; exact (fr_n _ _ (by omega)).trans a2
    have g0 : fr M162 (q + 2) = (1, 1) := by rw [hp162]; exact fr_s _ _ _
    have g3 : fr M162 (q + 5) = (ln M o).2.1.1 := by rw [hp162]; exact (fr_n _ _ (by omega)).trans a3
    have g4 : fr M162 (q + 6) = (ln M o).2.1.2 := by rw [hp162]; exact (fr_n _ _ (by omega)).trans a4
    have g5 : mI M162 q 2 = (ln M o).2.2 := by rw [hp162]; exact a5
    have gf : tm_fr q (q + 7) M M162 := by rw [hp162]; exact fw_tr f0 (fw_fS _ (by omega) (by omega))
    have gm : mR M162 = mR M0 := by rw [hp162]
    have gB : mR M162 q 1 = some (q + 4) := by rw [gm]; exact sB
    have gt : mR M162 (o + 1) 0 = some (o + 2) := by rw [gm]; exact tC1
    refine lv_aload_n hx hb dX6_write_165 rfl (lv_at hl 4 rfl) ?_
    refine gf_X6_43 hx hb htw hown hK hW (by assumption) (by assumption) dX6_write_166 ?_
    refine lv_aload_n hx hb dX6_write_169 rfl (lv_at hl 1 rfl) ?_
    refine gf_X6_27 hx hb htw hown hK hW (by assumption) (by assumption) dX6_write_170 ?_
    refine tm_callv (cs_X6_68 hx hb hml hown htw hK hW (by assumption) (c_X5_divide (isSd_m sD9 gm) (by assumption) (by omega) (by rw [show sd M162 (q + 4) = (ln M o).2.1 from Prod.ext g3 g4]; exact ⟨hC, hD⟩) (by rw [g1]; exact hA) (by rw [g1]; exact tl_poss_A (by omega) hps)) ⟨rfl, rfl, Nat.le_of_ble_eq_true rfl, Nat.le_of_ble_eq_true rfl⟩ hl.1 (Nat.le_of_ble_eq_true rfl) dX6_write_173 ⟨Nat.le_of_ble_eq_true rfl, Nat.le_of_ble_eq_true rfl⟩) hS (fun M173 H locs hp173 hW hS => ?_)
    have c1 : fr M173 (q + 2) = (1, 1) := by rw [hp173]; exact (fr_sS _ _ (by omega) (by omega)).trans g0
    have c2 : fr M173 (q + 3) = (ln M o).1.2 := by rw [hp173]; exact (fr_sS _ _ (by omega) (by omega)).trans g2
    have c3 : fr M173 (q + 5) = fdiv (ln M o).2.1.1 (ln M o).1.1 := by rw [hp173]; exact ((fr_n _ _ (by omega)).trans (fr_s _ _ _)).trans (congr (congrArg fdiv g3) g1)
    have c4 : fr M173 (q + 6) = fdiv (ln M o).2.1.2 (ln M o).1.1 := by rw [hp173]; exact (fr_s _ _ _).trans (congr (congrArg fdiv g4) g1)
    have c5 : mI M173 q 2 = (ln M o).2.2 := by rw [hp173]; exact g5
    have cf : tm_fr q (q + 7) M M173 := by rw [hp173]; exact fw_tr (fw_tr gf (fw_fS _ (by omega) (by omega))) (fw_fS _ (by omega) (by omega))
    refine lv_goto (tgt := 229) hx hb dX6_write_176 (by decide) ?_
    exact tm_vret hx hb hr hlk hK hW hS (by subst h17; exact ⟨ln_ext c1 c2 c3 c4 c5, cf⟩) dX6_write_229
  · refine lv_aload_n hx hb dX6_write_179 rfl (lv_at hl 4 rfl) ?_
    refine gf_X6_23 hx hb htw hown hK hW (by assumption) (by assumption) dX6_write_180 ?_
    refine tm_callv (cs_X6_72 hx hb hml hown htw hK hW (by assumption) (c_X5_turnToOpposite sC9) ⟨rfl, rfl, Nat.le_of_ble_eq_true rfl, Nat.le_of_ble_eq_true rfl⟩ hl.1 (Nat.le_of_ble_eq_true rfl) dX6_write_183 ⟨Nat.le_of_ble_eq_true rfl, Nat.le_of_ble_eq_true rfl⟩) hS (fun M183 H locs hp183 hW hS => ?_)
    have c1 : fr M183 (q + 2) = fneg (ln M o).1.1 := by rw [hp183]; exact ((fr_n _ _ (by omega)).trans (fr_s _ _ _)).trans (congrArg fneg a1)
    have c2 : fr M183 (q + 3) = fneg (ln M o).1.2 := by rw [hp183]; exact (fr_s _ _ _).trans (congrArg fneg a2)
    have c3 : fr M183 (q + 5) = (ln M o).2.1.1 := by rw [hp183]; exact (fr_sS _ _ (by omega) (by omega)).trans a3
    have c4 : fr M183 (q + 6) = (ln M o).2.1.2 := by rw [hp183]; exact (fr_sS _ _ (by omega) (by omega)).trans a4
    have c5 : mI M183 q 2 = (ln M o).2.2 := by rw [hp183]; exact a5
    have cf : tm_fr q (q + 7) M M183 := by rw [hp183]; exact fw_tr (fw_tr f0 (fw_fS _ (by omega) (by omega))) (fw_fS _ (by omega) (by omega))
    have gm : mR M183 = mR M0 := by rw [hp183]
    have gB : mR M183 q 1 = some (q + 4) := by rw [gm]; exact sB
    refine lv_aload_n hx hb dX6_write_186 rfl (lv_at hl 4 rfl) ?_
    refine gf_X6_43 hx hb htw hown hK hW (by assumption) (by assumption) dX6_write_187 ?_
    refine tm_callv (cs_X6_72 hx hb hml hown htw hK hW (by assumption) (c_X5_turnToOpposite (isSd_m sD9 gm)) ⟨rfl, rfl, Nat.le_of_ble_eq_true rfl, Nat.le_of_ble_eq_true rfl⟩ hl.1 (Nat.le_of_ble_eq_true rfl) dX6_write_190 ⟨Nat.le_of_ble_eq_true rfl, Nat.le_of_ble_eq_true rfl⟩) hS (fun M190 H locs hp190 hW hS => ?_)
    have d1 : fr M190 (q + 2) = fneg (ln M o).1.1 := by rw [hp190]; exact (fr_sS _ _ (by omega) (by omega)).trans c1
    have d2 : fr M190 (q + 3) = fneg (ln M o).1.2 := by rw [hp190]; exact (fr_sS _ _ (by omega) (by omega)).trans c2
    have d3 : fr M190 (q + 5) = fneg (ln M o).2.1.1 := by rw [hp190]; exact ((fr_n _ _ (by omega)).trans (fr_s _ _ _)).trans (congrArg fneg c3)
    have d4 : fr M190 (q + 6) = fneg (ln M o).2.1.2 := by rw [hp190]; exact (fr_s _ _ _).trans (congrArg fneg c4)
    have d5 : mI M190 q 2 = (ln M o).2.2 := by rw [hp190]; exact c5
    have df : tm_fr q (q + 7) M M190 := by rw [hp190]; exact fw_tr (fw_tr cf (fw_fS _ (by omega) (by omega))) (fw_fS _ (by omega) (by omega))
    refine lv_goto (tgt := 229) hx hb dX6_write_193 (by decide) ?_
    exact tm_vret hx hb hr hlk hK hW hS (by subst h17; exact ⟨ln_ext d1 d2 d3 d4 d5, df⟩) dX6_write_229
  · refine lv_aload_n hx hb dX6_write_196 rfl (lv_at hl 4 rfl) ?_
    refine gf_X6_23 hx hb htw hown hK hW (by assumption) (by assumption) dX6_write_197 ?_
    refine gf_X6_27 hx hb htw hown hK hW (by assumption) (by assumption) dX6_write_200 ?_
    refine ti_lconst1 hx hb dX6_write_203 ?_
    refine tm_callv (cs_X6_61 hx hb hml hown htw hK hW (by assumption) (c_X0_setWhole (by assumption)) ⟨rfl, rfl, Nat.le_of_ble_eq_true rfl, Nat.le_of_ble_eq_true rfl⟩ hl.1 (Nat.le_of_ble_eq_true rfl) dX6_write_204 ⟨Nat.le_of_ble_eq_true rfl, Nat.le_of_ble_eq_true rfl⟩) hS (fun M204 H locs hp204 hW hS => ?_)
    rw [hp204] at hW
    refine lv_aload_n hx hb dX6_write_207 rfl (lv_at hl 4 rfl) ?_
    refine gf_X6_43 hx hb htw hown hK hW (by assumption) (by assumption) dX6_write_208 ?_
    refine gf_X6_46 hx hb htw hown hK hW (by assumption) (by assumption) dX6_write_211 ?_
    refine lv_aload hx hb dX6_write_214 (lv_at hl 0 rfl) ?_
    refine gf_X6_46 hx hb htw hown hK hW (by assumption) (by assumption) dX6_write_216 ?_
    refine lv_aload_n hx hb dX6_write_219 rfl (lv_at hl 1 rfl) ?_
    refine gf_X6_27 hx hb htw hown hK hW (by assumption) (by assumption) dX6_write_220 ?_
    refine tm_callv (cs_X6_75 hx hb hml hown htw hK hW (by assumption) (v_setDifference (f := (ln M o).2.1.2) (g := (ln M o).1.1) (by assumption) (by assumption) (by assumption) ((fr_n _ _ (by omega)).trans b4) ((fr_n _ _ (by omega)).trans b1) hD hA) ⟨rfl, rfl, Nat.le_of_ble_eq_true rfl, Nat.le_of_ble_eq_true rfl⟩ hl.1 (Nat.le_of_ble_eq_true rfl) dX6_write_223 ⟨Nat.le_of_ble_eq_true rfl, Nat.le_of_ble_eq_true rfl⟩) hS (fun M223 H locs hp223 hW hS => ?_)
    rw [hp223] at hW
    refine lv_goto (tgt := 229) hx hb dX6_write_226 (by decide) ?_
    exact tm_vret hx hb hr hlk hK hW hS (by subst h17; exact ⟨ln_ext ((fr_n _ _ (by omega)).trans (fr_s _ _ _)) (((fr_n _ _ (by omega)).trans (fr_n _ _ (by omega))).trans a2) (((fr_n _ _ (by omega)).trans (fr_n _ _ (by omega))).trans a3) (fr_s _ _ _) a5, fw_tr (fw_tr f0 (fw_fS _ (by omega) (by omega))) (fw_fS _ (by omega) (by omega))⟩) dX6_write_229
  · exact tm_vret hx hb hr hlk hK hW hS ⟨by rw [tl_slipv, if_neg (by omega), if_neg (by omega), if_neg (by omega), if_neg (by omega), if_neg (by omega), if_neg (by omega)]; exact e0, f0⟩ dX6_write_229
end
section
/-! Slips.explain (by program: wip/whole/gen/slips2.py) -/
theorem dX6_explain_0 : decode cX6_explain 0 = .ok (.iconst 1, 1) := by decide +kernel
theorem dX6_explain_1 : decode cX6_explain 1 = .ok (.istore_n 3, 1) := by decide +kernel
theorem dX6_explain_2 : decode cX6_explain 2 = .ok (.iload_n 3, 1) := by decide +kernel
theorem dX6_explain_3 : decode cX6_explain 3 = .ok (.bipush 6, 2) := by decide +kernel
theorem dX6_explain_5 : decode cX6_explain 5 = .ok (.if_icmp .gt 33, 3) := by decide +kernel
theorem dX6_explain_8 : decode cX6_explain 8 = .ok (.iload_n 3, 1) := by decide +kernel
theorem dX6_explain_9 : decode cX6_explain 9 = .ok (.aload_n 0, 1) := by decide +kernel
theorem dX6_explain_10 : decode cX6_explain 10 = .ok (.invokestatic 9, 3) := by decide +kernel
theorem dX6_explain_13 : decode cX6_explain 13 = .ok (.ifCond .eq 19, 3) := by decide +kernel
theorem dX6_explain_16 : decode cX6_explain 16 = .ok (.iload_n 3, 1) := by decide +kernel
theorem dX6_explain_17 : decode cX6_explain 17 = .ok (.aload_n 0, 1) := by decide +kernel
theorem dX6_explain_18 : decode cX6_explain 18 = .ok (.aload_n 2, 1) := by decide +kernel
theorem dX6_explain_19 : decode cX6_explain 19 = .ok (.invokestatic 13, 3) := by decide +kernel
theorem dX6_explain_22 : decode cX6_explain 22 = .ok (.aload_n 2, 1) := by decide +kernel
theorem dX6_explain_23 : decode cX6_explain 23 = .ok (.aload_n 1, 1) := by decide +kernel
theorem dX6_explain_24 : decode cX6_explain 24 = .ok (.invokevirtual 17, 3) := by decide +kernel
theorem dX6_explain_27 : decode cX6_explain 27 = .ok (.ifCond .eq 5, 3) := by decide +kernel
theorem dX6_explain_30 : decode cX6_explain 30 = .ok (.iload_n 3, 1) := by decide +kernel
theorem dX6_explain_31 : decode cX6_explain 31 = .ok (.ireturn, 1) := by decide +kernel
theorem dX6_explain_32 : decode cX6_explain 32 = .ok (.iinc 3 1, 3) := by decide +kernel
theorem dX6_explain_35 : decode cX6_explain 35 = .ok (.goto (-33), 3) := by decide +kernel
theorem dX6_explain_38 : decode cX6_explain 38 = .ok (.iconst 0, 1) := by decide +kernel
theorem dX6_explain_39 : decode cX6_explain 39 = .ok (.ireturn, 1) := by decide +kernel
theorem tl_slr (n : Int) (v : tl_L) : (tl_slipv n v).2.2 = v.2.2 := by
  unfold tl_slipv
  repeat' split
  all_goals rfl
set_option maxHeartbeats 4000000 in
set_option maxRecDepth 100000 in
/-- Slips.explain: the lowest slip that leads from the line o to the line w -/
theorem c_X6_explain {l : Launch} {G : tm_G} {Hb : Heap} {sh : tm_sh} {M : tm_M} {q o w : Nat} (ht : isLn sh M o) (hw : isLn sh M w) (hs : isLn sh M q) (hne : o + 7 ≤ q ∨ q + 7 ≤ o) (hne2 : w + 7 ≤ q ∨ q + 7 ≤ w) (hv : lok (ln M o)) (hwv : lLok (ln M w)) (hwr : inI (ln M w).2.2) : Met l yX6_explain (tws yX6_explain cX6_explain 4 (some .int)) ({ frames := 5, cells := 0, slots := 0, locals := 120 }) (va_Pc [.ref o, .ref w, .ref q] (tm_St G Hb sh M)) (tm_Qi G Hb sh (fun r M1 => r = tl_exp (ln M o) (ln M w) 6 1 ∧ tm_fr q (q + 7) M M1)) 0 0 (tm_A Hb) := by
  refine tm_begin (by decide) (Nat.le_of_ble_eq_true rfl) (fun p e s m below meth c ls hx hb hr hml hown htw hlk hnm hK hW hl => ?_)
  have hS : va_S (tm_A Hb) s.heap s.heap [] := va_S.rf
  have hl : lv_has ls 4 [(0, .ref o), (1, .ref w), (2, .ref q)] := hl
  have loop : ∀ (k : Nat) (n : Int) (M1 : tm_M) (H : Heap) (locs : List Loc) (ls : Array Slot), n + k = 7 → 1 ≤ n → tl_exp (ln M o) (ln M w) k n = tl_exp (ln M o) (ln M w) 6 1 → tm_fr q (q + 7) M M1 → tm_W G Hb sh M1 H → va_S (tm_A Hb) s.heap H locs → lv_has ls 4 [(0, .ref o), (1, .ref w), (2, .ref q), (3, ji n)] → W p l e ({ frames := 5, cells := 0, slots := 0, locals := 120 }) s m [.ref o, .ref w, .ref q].toArray below meth c H locs 0 0 (MQ below (tm_Qi G Hb sh (fun r M1 => r = tl_exp (ln M o) (ln M w) 6 1 ∧ tm_fr q (q + 7) M M1)) [.ref o, .ref w, .ref q].toArray s 0 0 (tm_A Hb)) (F0 m 2 ls []) := by
    intro k
    induction k with
    | zero =>
      intro n M1 H locs ls hk hn he hf hW hS hl
      refine lv_iload_n hx hb dX6_explain_2 rfl (lv_at hl 3 rfl) ?_
      refine ti_bipush hx hb dX6_explain_3 (by decide) ?_
      refine ti_icmp_gt (tgt := 38) hx hb dX6_explain_5 (by decide) (by omega) (by omega) (fun h5 => ?_) (fun h5 => ?_)
      · refine ti_iconst hx hb dX6_explain_38 ?_
        exact tm_iret hx hb hr hlk hK hW hS ⟨he, hf⟩ dX6_explain_39
      · exact absurd (show 6 < n by omega) h5
    | succ k ih =>
      intro n M1 H locs ls hk hn he hf hW hS hl
      have eo : ln M1 o = ln M o := fw_ln hf (by omega)
      have ew : ln M1 w = ln M w := fw_ln hf (by omega)
      have s0 := hs.1
      refine lv_iload_n hx hb dX6_explain_2 rfl (lv_at hl 3 rfl) ?_
      refine ti_bipush hx hb dX6_explain_3 (by decide) ?_
      refine ti_icmp_gt (tgt := 38) hx hb dX6_explain_5 (by decide) (by omega) (by omega) (fun h5 => ?_) (fun h5 => ?_)
      · exact absurd h5 (by omega)
      · refine lv_iload_n hx hb dX6_explain_8 rfl (lv_at hl 3 rfl) ?_
        refine lv_aload_n hx hb dX6_explain_9 rfl (lv_at hl 0 rfl) ?_
        refine tm_calli (cs_X6_9 hx hb hml hown htw hK hW (c_X6_isPossible (isLn_m ht hf.1) (by rw [eo]; exact hv) (by omega)) ⟨rfl, rfl, Nat.le_of_ble_eq_true rfl, Nat.le_of_ble_eq_true rfl⟩ hl.1 (Nat.le_of_ble_eq_true rfl) dX6_explain_10 ⟨Nat.le_of_ble_eq_true rfl, Nat.le_of_ble_eq_true rfl⟩) hS (fun x10 M10 H locs hp10 hW hS => ?_)
        obtain ⟨ex10, eM10⟩ := hp10
        rw [eM10] at hW
        rw [ex10, eo]
        refine ti_if_eq (tgt := 32) hx hb dX6_explain_13 (by decide) (by rcases tl_poss_z n (ln M o) with z | z <;> omega) (fun h13 => ?_) (fun h13 => ?_)
        · refine ti_iinc (k := 3) (lv' := [(3, _), (0, _), (1, _), (2, _)]) hx hb dX6_explain_32 hl rfl (by decide) rfl (fun ls hl => ?_)
          refine lv_goto (tgt := 2) hx hb dX6_explain_35 (by decide) ?_
          first
          | exact ih (n + 1) M19 _ _ _ (by omega) (by omega) (by rw [← he]; exact (if_neg (fun z => tl_b_0.mp h27 (by rw [e19, f19, z.2]))).symm) g19 hW hS (lv_sub hl [1, 2, 3, 0] rfl)
          | exact ih (n + 1) M1 _ _ _ (by omega) (by omega) (by rw [← he]; exact (if_neg (fun z => z.1 h13)).symm) hf hW hS (lv_sub hl [1, 2, 3, 0] rfl)
        · refine lv_iload_n hx hb dX6_explain_16 rfl (lv_at hl 3 rfl) ?_
          refine lv_aload_n hx hb dX6_explain_17 rfl (lv_at hl 0 rfl) ?_
          refine lv_aload_n hx hb dX6_explain_18 rfl (lv_at hl 2 rfl) ?_
          refine tm_callv (cs_X6_13 hx hb hml hown htw hK hW (c_X6_write (isLn_m ht hf.1) (isLn_m hs hf.1) hne (by rw [eo]; exact hv) (by omega) (by rw [eo]; exact h13)) ⟨rfl, rfl, Nat.le_of_ble_eq_true rfl, Nat.le_of_ble_eq_true rfl⟩ hl.1 (Nat.le_of_ble_eq_true rfl) dX6_explain_19 ⟨Nat.le_of_ble_eq_true rfl, Nat.le_of_ble_eq_true rfl⟩) hS (fun M19 H locs hp19 hW hS => ?_)
          obtain ⟨e19, h19⟩ := hp19
          rw [eo] at e19
          have g19 := fw_tr hf h19
          have f19 : ln M19 w = ln M w := fw_ln g19 (by omega)
          have hL := lLok_slip (n := n) hv h13
          rw [← e19] at hL
          have hL2 := hwv
          rw [← f19] at hL2
          have hr1 : inI (mI M19 q 2) := by
            have z := congrArg (fun v => v.2.2) e19
            have z2 : mI M19 q 2 = (tl_slipv n (ln M o)).2.2 := z
            rw [z2, tl_slr]
            have := hv.2.2
            omega
          have hr2 : inI (mI M19 w 2) := by
            have z2 : mI M19 w 2 = (ln M w).2.2 := congrArg (fun v => v.2.2) f19
            rw [z2]
            exact hwr
          refine lv_aload_n hx hb dX6_explain_22 rfl (lv_at hl 2 rfl) ?_
          refine lv_aload_n hx hb dX6_explain_23 rfl (lv_at hl 1 rfl) ?_
          refine tm_calli (cs_X6_17 hx hb hml hown htw hK hW (by assumption) (c_X1_sameAs (isLn_m hs g19.1) (isLn_m hw g19.1) hL hL2 hr1 hr2) ⟨rfl, rfl, Nat.le_of_ble_eq_true rfl, Nat.le_of_ble_eq_true rfl⟩ hl.1 (Nat.le_of_ble_eq_true rfl) dX6_explain_24 ⟨Nat.le_of_ble_eq_true rfl, Nat.le_of_ble_eq_true rfl⟩) hS (fun x24 M24 H locs hp24 hW hS => ?_)
          obtain ⟨ex24, eM24⟩ := hp24
          rw [eM24] at hW
          rw [ex24]
          refine ti_if_eq (tgt := 32) hx hb dX6_explain_27 (by decide) (tl_b_r _) (fun h27 => ?_) (fun h27 => ?_)
          · refine ti_iinc (k := 3) (lv' := [(3, _), (0, _), (1, _), (2, _)]) hx hb dX6_explain_32 hl rfl (by decide) rfl (fun ls hl => ?_)
            refine lv_goto (tgt := 2) hx hb dX6_explain_35 (by decide) ?_
            first
            | exact ih (n + 1) M19 _ _ _ (by omega) (by omega) (by rw [← he]; exact (if_neg (fun z => tl_b_0.mp h27 (by rw [e19, f19, z.2]))).symm) g19 hW hS (lv_sub hl [1, 2, 3, 0] rfl)
            | exact ih (n + 1) M1 _ _ _ (by omega) (by omega) (by rw [← he]; exact (if_neg (fun z => z.1 h13)).symm) hf hW hS (lv_sub hl [1, 2, 3, 0] rfl)
          · refine lv_iload_n hx hb dX6_explain_30 rfl (lv_at hl 3 rfl) ?_
            exact tm_iret hx hb hr hlk hK hW hS ⟨by rw [← he]; exact (if_pos ⟨h13, by rw [← e19, ← f19]; exact tl_b_n.mp h27⟩).symm, g19⟩ dX6_explain_31
  refine ti_iconst hx hb dX6_explain_0 ?_
  refine lv_istore_n (lv' := [(3, _), (0, _), (1, _), (2, _)]) hx hb dX6_explain_1 rfl hl (by decide) rfl (fun ls hl => ?_)
  exact loop 6 1 M _ _ _ (by omega) (by omega) rfl fw_rf hW hS (lv_sub hl [1, 2, 3, 0] rfl)
end
section
/-! reading a text: what a line's text means, by levels of parentheses (t: bytes 0 .. 255, n: how many) -/
def tp_sk (t : Nat → Int) (n : Nat) : Nat → Nat → Nat
  | 0, p => p
  | k + 1, p => if p < n ∧ t p = 32 then tp_sk t n k (p + 1) else p
def tp_nx (t : Nat → Int) (n p : Nat) : Nat := tp_sk t n (n - p) p
def tp_ch (t : Nat → Int) (n p : Nat) : Int := if p < n then t p else -1
abbrev tp_R : Type := (Nat × tl_S) ⊕ Nat
def tp_isd (c : Int) : Prop := 48 ≤ c ∧ c ≤ 57
def tp_dig (t : Nat → Int) (n : Nat) : Nat → Int → Nat → Nat → Int × Nat × Nat
  | 0, x, ld, p => (x, ld, p)
  | k + 1, x, ld, p => if 48 ≤ tp_ch t n (tp_nx t n p) ∧ tp_ch t n (tp_nx t n p) ≤ 57 then tp_dig t n k (x * 10 + (tp_ch t n (tp_nx t n p) - 48)) (tp_nx t n p) (tp_nx t n p + 1) else (x, ld, tp_nx t n p)
/-- a NUMBER: where it ends, the number, its last digit's place; or the fault -/
def tp_num (t : Nat → Int) (n p : Nat) : (Nat × Int × Nat) ⊕ Nat := if 48 ≤ tp_ch t n (tp_nx t n p) ∧ tp_ch t n (tp_nx t n p) ≤ 57 then .inl ((tp_dig t n 4 0 0 (tp_nx t n p)).2.2, (tp_dig t n 4 0 0 (tp_nx t n p)).1, (tp_dig t n 4 0 0 (tp_nx t n p)).2.1) else .inr (tp_nx t n p)
def tp_numS (r : (Nat × Int × Nat) ⊕ Nat) : tp_R := match r with
  | .inl x => .inl (x.1, ((0, 1), (x.2.1, 1)))
  | .inr f => .inr f
def tp_close (t : Nat → Int) (n : Nat) (r : tp_R) : tp_R := match r with
  | .inl x => if tp_ch t n (tp_nx t n x.1) = 41 then .inl (tp_nx t n x.1 + 1, x.2) else .inr (tp_nx t n x.1)
  | .inr f => .inr f
def tp_pars (t : Nat → Int) (n : Nat) (inn : Option (Nat → tp_R)) (p : Nat) : tp_R := match inn with
  | none => .inr p
  | some g => tp_close t n (g (p + 1))
def tp_factor (t : Nat → Int) (n : Nat) (inn : Option (Nat → tp_R)) (p : Nat) : tp_R :=
  if tp_ch t n (tp_nx t n p) = 40 then tp_pars t n inn (tp_nx t n p)
  else if tp_ch t n (tp_nx t n p) = 120 then .inl (tp_nx t n p + 1, ((1, 1), (0, 1)))
  else tp_numS (tp_num t n p)
def tp_mul (v : tl_S) (place : Nat) (r : tp_R) : tp_R := match r with
  | .inl x => if ¬ v.1.1 = 0 ∧ ¬ x.2.1.1 = 0 then .inr place else .inl (x.1, smul v x.2)
  | .inr f => .inr f
def tp_dvd (v : tl_S) (r : (Nat × Int × Nat) ⊕ Nat) : tp_R := match r with
  | .inl x => if x.2.1 = 0 then .inr x.2.2 else .inl (x.1, sdiv v (x.2.1, 1))
  | .inr f => .inr f
def tp_op (t : Nat → Int) (n : Nat) (inn : Option (Nat → tp_R)) (c : Int) (place p : Nat) (v : tl_S) : tp_R := if c = 42 then tp_mul v place (tp_factor t n inn p) else tp_dvd v (tp_num t n p)
abbrev sfit (v : tl_S) : Prop := ffit v.1 ∧ ffit v.2
/-- what comes behind, if the value is small enough -/
def tp_fit (place : Nat) (r : tp_R) (g : Nat → tl_S → tp_R) : tp_R := match r with
  | .inl x => if sfit x.2 then g x.1 x.2 else .inr place
  | .inr f => .inr f
def tp_tl (t : Nat → Int) (n : Nat) (inn : Option (Nat → tp_R)) : Nat → Nat → tl_S → tp_R
  | 0, p, v => .inl (p, v)
  | k + 1, p, v => if tp_ch t n (tp_nx t n p) = 42 ∨ tp_ch t n (tp_nx t n p) = 47 then tp_fit (tp_nx t n p) (tp_op t n inn (tp_ch t n (tp_nx t n p)) (tp_nx t n p) (tp_nx t n p + 1) v) (tp_tl t n inn k) else .inl (tp_nx t n p, v)
def tp_bind (r : tp_R) (g : Nat → tl_S → tp_R) : tp_R := match r with
  | .inl x => g x.1 x.2
  | .inr f => .inr f
def tp_term (t : Nat → Int) (n : Nat) (inn : Option (Nat → tp_R)) (p : Nat) : tp_R := tp_bind (tp_factor t n inn p) (tp_tl t n inn 80)
abbrev sadd (v w : tl_S) : tl_S := (fadd v.1 w.1, fadd v.2 w.2)
abbrev ssub (v w : tl_S) : tl_S := (fsub v.1 w.1, fsub v.2 w.2)
abbrev sneg (v : tl_S) : tl_S := (fneg v.1, fneg v.2)
def tp_sum (c : Int) (v : tl_S) (r : tp_R) : tp_R := match r with
  | .inl x => .inl (x.1, if c = 43 then sadd v x.2 else ssub v x.2)
  | .inr f => .inr f
def tp_sl (t : Nat → Int) (n : Nat) (inn : Option (Nat → tp_R)) : Nat → Nat → tl_S → tp_R
  | 0, p, v => .inl (p, v)
  | k + 1, p, v => if tp_ch t n (tp_nx t n p) = 43 ∨ tp_ch t n (tp_nx t n p) = 45 then tp_fit (tp_nx t n p) (tp_sum (tp_ch t n (tp_nx t n p)) v (tp_term t n inn (tp_nx t n p + 1))) (tp_sl t n inn k) else .inl (tp_nx t n p, v)
def tp_side (t : Nat → Int) (n : Nat) (inn : Option (Nat → tp_R)) (p : Nat) : tp_R :=
  if tp_ch t n (tp_nx t n p) = 45 then tp_bind (tp_term t n inn (tp_nx t n p + 1)) (fun q v => tp_sl t n inn 80 q (sneg v))
  else tp_bind (tp_term t n inn (tp_nx t n p)) (fun q v => tp_sl t n inn 80 q v)
def tp_par (t : Nat → Int) (n : Nat) : Nat → Nat → tp_R
  | 0 => tp_side t n none
  | r + 1 => tp_side t n (some (tp_par t n r))
def tp_in (t : Nat → Int) (n : Nat) : Nat → Option (Nat → tp_R)
  | 0 => none
  | r + 1 => some (tp_par t n r)
theorem tp_par_in (t : Nat → Int) (n r : Nat) : tp_par t n r = tp_side t n (tp_in t n r) := by
  cases r <;> rfl
theorem tp_sk_le (t : Nat → Int) (n : Nat) : ∀ (k p : Nat), p ≤ n → p ≤ tp_sk t n k p ∧ tp_sk t n k p ≤ n
  | 0, p, h => ⟨Nat.le_refl p, h⟩
  | k + 1, p, h => by
    unfold tp_sk
    split
    · rename_i z
      have := tp_sk_le t n k (p + 1) (by omega)
      omega
    · omega
theorem tp_nx_le {t : Nat → Int} {n p : Nat} (h : p ≤ n) : p ≤ tp_nx t n p ∧ tp_nx t n p ≤ n := tp_sk_le t n _ p h
theorem tp_nx_end {t : Nat → Int} {n p : Nat} (h : ¬ (p < n ∧ t p = 32)) : tp_nx t n p = p := by
  unfold tp_nx
  cases n - p with
  | zero => rfl
  | succ k => exact if_neg h
theorem tp_nx_go {t : Nat → Int} {n p : Nat} (h : p < n) (h2 : t p = 32) : tp_nx t n p = tp_nx t n (p + 1) := by
  unfold tp_nx
  rw [show n - p = (n - (p + 1)) + 1 by omega]
  exact if_pos ⟨h, h2⟩
theorem tp_nx_not {t : Nat → Int} {n : Nat} : ∀ (k p : Nat), n - p = k → p ≤ n → ¬ (tp_nx t n p < n ∧ t (tp_nx t n p) = 32)
  | 0, p, hk, h => by
    have := tp_nx_le (t := t) h
    omega
  | k + 1, p, hk, h => by
    by_cases z : p < n ∧ t p = 32
    · rw [tp_nx_go z.1 z.2]
      exact tp_nx_not k (p + 1) (by omega) (by omega)
    · rw [tp_nx_end z]
      exact z
theorem tp_nx_nx {t : Nat → Int} {n p : Nat} (h : p ≤ n) : tp_nx t n (tp_nx t n p) = tp_nx t n p := tp_nx_end (tp_nx_not _ p rfl h)
theorem tp_ch_lt {t : Nat → Int} {n p : Nat} (h : 0 ≤ tp_ch t n p) : p < n := by
  unfold tp_ch at h
  split at h
  · assumption
  · omega
theorem tp_ch_r {t : Nat → Int} {n p : Nat} (h : ∀ j, 0 ≤ t j ∧ t j < 256) : -1 ≤ tp_ch t n p ∧ tp_ch t n p < 256 := by
  unfold tp_ch
  have := h p
  split <;> omega
/-- the digits: the place stays within, the number within ten's powers -/
theorem tp_dig_ok (t : Nat → Int) (n : Nat) : ∀ (k : Nat) (x : Int) (ld p : Nat) (B : Int), p ≤ n → ld ≤ n → 0 ≤ x → x < B → (tp_dig t n k x ld p).2.2 ≤ n ∧ (tp_dig t n k x ld p).2.1 ≤ n ∧ 0 ≤ (tp_dig t n k x ld p).1 ∧ (tp_dig t n k x ld p).1 < B * 10 ^ k
  | 0, x, ld, p, B, h1, h2, h3, h4 => ⟨h1, h2, h3, by show x < B * 10 ^ 0; omega⟩
  | k + 1, x, ld, p, B, h1, h2, h3, h4 => by
    have hq := tp_nx_le (t := t) h1
    have e : B * 10 ^ (k + 1) = B * 10 * 10 ^ k := by rw [Int.pow_succ, Int.mul_comm (10 ^ k) 10, Int.mul_assoc]
    unfold tp_dig
    split
    · rename_i z
      have hl := tp_ch_lt (t := t) (n := n) (p := tp_nx t n p) (by omega)
      rw [e]
      exact tp_dig_ok t n k _ _ _ (B * 10) (by omega) hq.2 (by omega) (by omega)
    · refine ⟨hq.2, h2, h3, ?_⟩
      show x < B * 10 ^ (k + 1)
      have : (0 : Int) < 10 ^ (k + 1) := Int.pow_pos (by decide)
      have h5 := Int.mul_le_mul_of_nonneg_left (show (1 : Int) ≤ 10 ^ (k + 1) by omega) (show 0 ≤ B by omega)
      omega
theorem fok_num {x : Int} (h0 : 0 ≤ x) (h : x ≤ 9999) : fok (x, 1) := by
  unfold fok
  omega
theorem fok_norm {a b : Int} (hb : b ≠ 0) (h : ffit (tl_norm a b)) : fok (tl_norm a b) := ⟨h.1, h.2.1, tl_norm_pos hb, h.2.2⟩
theorem fok_nG {f : tl_F} (h : fok f) : fok (fneg f) := by
  obtain ⟨h1, h2, h3, h4⟩ := h
  exact ⟨by show -9999 ≤ -f.1; omega, by show -f.1 ≤ 9999; omega, h3, h4⟩
theorem sok_smul {v w : tl_S} (hv : sok v) (hw : sok w) (h : sfit (smul v w)) : sok (smul v w) := by
  refine ⟨?_, fok_norm (tl_bd hv.2 hw.2).1 h.2⟩
  have h1 := h.1
  by_cases z : v.1.1 = 0
  · rw [show (smul v w).1 = fmul v.2 w.1 from if_pos z] at h1 ⊢
    exact fok_norm (tl_bd hv.2 hw.1).1 h1
  · rw [show (smul v w).1 = fmul v.1 w.2 from if_neg z] at h1 ⊢
    exact fok_norm (tl_bd hv.1 hw.2).1 h1
theorem sok_sdiv {v : tl_S} {f : tl_F} (hv : sok v) (hf : fok f) (hz : f.1 ≠ 0) (h : sfit (sdiv v f)) : sok (sdiv v f) := ⟨fok_norm (tl_n0 (fok_ab hv.1).2.2 hz) h.1, fok_norm (tl_n0 (fok_ab hv.2).2.2 hz) h.2⟩
theorem sok_sadd {v w : tl_S} (hv : sok v) (hw : sok w) (h : sfit (sadd v w)) : sok (sadd v w) := ⟨fok_norm (tl_bd hv.1 hw.1).1 h.1, fok_norm (tl_bd hv.2 hw.2).1 h.2⟩
theorem sok_ssub {v w : tl_S} (hv : sok v) (hw : sok w) (h : sfit (ssub v w)) : sok (ssub v w) := ⟨fok_norm (tl_bd hv.1 hw.1).1 h.1, fok_norm (tl_bd hv.2 hw.2).1 h.2⟩
theorem sok_sneg {v : tl_S} (h : sok v) : sok (sneg v) := ⟨fok_nG h.1, fok_nG h.2⟩
def sLok (v : tl_S) : Prop := fLok v.1 ∧ fLok v.2
theorem sLok_of {v : tl_S} (h : sok v) : sLok v := ⟨fLok_of h.1, fLok_of h.2⟩
theorem sLok_smul {v w : tl_S} (hv : sok v) (hw : sok w) : sLok (smul v w) := by
  refine ⟨?_, fLok_mul hv.2 hw.2⟩
  by_cases z : v.1.1 = 0
  · rw [show (smul v w).1 = fmul v.2 w.1 from if_pos z]
    exact fLok_mul hv.2 hw.1
  · rw [show (smul v w).1 = fmul v.1 w.2 from if_neg z]
    exact fLok_mul hv.1 hw.2
theorem sLok_sdiv {v : tl_S} {f : tl_F} (hv : sok v) (hf : fok f) (hz : f.1 ≠ 0) : sLok (sdiv v f) := ⟨fLok_div hv.1 hf hz, fLok_div hv.2 hf hz⟩
theorem sLok_sadd {v w : tl_S} (hv : sok v) (hw : sok w) : sLok (sadd v w) := ⟨fLok_add hv.1 hw.1, fLok_add hv.2 hw.2⟩
theorem sLok_ssub {v w : tl_S} (hv : sok v) (hw : sok w) : sLok (ssub v w) := ⟨fLok_sub hv.1 hw.1, fLok_sub hv.2 hw.2⟩
end
section
/-! Reader: its small methods (by program: wip/whole/gen/reader.py) -/
/-- the reader at rd: its text array ta; sums, terms, factors at rd + 2, + 3, + 4, their sides nine cells a level from rd + 5 on -/
def isRd (sh : tm_sh) (M : tm_M) (rd ta : Nat) : Prop := sh rd = some (5, 0) ∧ mR M rd 0 = some ta ∧ sh ta = some (22, 80) ∧ (mR M rd 5 = some (rd + 2) ∧ mR M rd 6 = some (rd + 3) ∧ mR M rd 7 = some (rd + 4)) ∧ (sh (rd + 2) = some (24, 9) ∧ sh (rd + 3) = some (24, 9) ∧ sh (rd + 4) = some (24, 9)) ∧ ∀ i, i < 9 → (mR M (rd + 2) i = some (rd + 5 + 9 * i) ∧ mR M (rd + 3) i = some (rd + 8 + 9 * i) ∧ mR M (rd + 4) i = some (rd + 11 + 9 * i)) ∧ isSd sh M (rd + 5 + 9 * i) ∧ isSd sh M (rd + 8 + 9 * i) ∧ isSd sh M (rd + 11 + 9 * i)
/-- what it reads: the bytes t, n of them, from p on -/
def RS (sh : tm_sh) (M : tm_M) (rd ta : Nat) (t : Nat → Int) (n p : Nat) : Prop := isRd sh M rd ta ∧ ta ≠ rd ∧ (∀ j, mI M ta j % 256 = t j ∧ -128 ≤ mI M ta j ∧ mI M ta j < 128) ∧ mI M rd 1 = n ∧ n ≤ 80 ∧ mI M rd 2 = p ∧ p ≤ n
/-- what it may change: its place, fault, last digit; the longs of cells lo .. rd + 85 -/
def rdf (rd lo : Nat) (M M1 : tm_M) : Prop := mR M1 = mR M ∧ (∀ a k, a ≠ rd → mI M1 a k = mI M a k) ∧ mI M1 rd 1 = mI M rd 1 ∧ ∀ a k, (a < lo ∨ rd + 86 ≤ a) → mL M1 a k = mL M a k
theorem rdf_rf {rd lo : Nat} {M : tm_M} : rdf rd lo M M := ⟨rfl, fun _ _ _ => rfl, rfl, fun _ _ _ => rfl⟩
theorem rdf_tr {rd lo : Nat} {M M1 M2 : tm_M} (h : rdf rd lo M M1) (g : rdf rd lo M1 M2) : rdf rd lo M M2 := ⟨g.1.trans h.1, fun a k q => (g.2.1 a k q).trans (h.2.1 a k q), g.2.2.1.trans h.2.2.1, fun a k q => (g.2.2.2 a k q).trans (h.2.2.2 a k q)⟩
theorem rdf_wd {rd lo lo' : Nat} {M M1 : tm_M} (h : rdf rd lo M M1) (hl : lo' ≤ lo) : rdf rd lo' M M1 := ⟨h.1, h.2.1, h.2.2.1, fun a k q => h.2.2.2 a k (by omega)⟩
theorem rdf_sI {rd lo k : Nat} {M : tm_M} {v : Int} (hk : k ≠ 1) : rdf rd lo M (sI M rd k v) := ⟨rfl, fun a j h => tm_up_a _ _ h, tm_up_k _ _ (Ne.symm hk), fun _ _ _ => rfl⟩
theorem rdf_fS {rd lo q : Nat} {M : tm_M} {f : tl_F} (h1 : lo ≤ q) (h2 : q < rd + 86) : rdf rd lo M (fS M q f) := ⟨rfl, fun _ _ _ => rfl, rfl, fun a k h => fL_n M f (by omega)⟩
theorem rdf_sS {rd lo q : Nat} {M : tm_M} {v : tl_S} (h1 : lo ≤ q + 1) (h2 : q + 2 < rd + 86) : rdf rd lo M (sS M q v) := rdf_tr (rdf_fS h1 (by omega)) (rdf_fS (by omega) h2)
theorem rdf_fr {rd lo a : Nat} {M M1 : tm_M} (h : rdf rd lo M M1) (g : a < lo ∨ rd + 86 ≤ a) : fr M1 a = fr M a := by
  show (mL M1 a 0, mL M1 a 1) = _
  rw [h.2.2.2 a 0 g, h.2.2.2 a 1 g]
theorem rdf_sd {rd lo a : Nat} {M M1 : tm_M} (h : rdf rd lo M M1) (g : a + 3 ≤ lo ∨ rd + 86 ≤ a) : sd M1 a = sd M a := by
  show (fr M1 (a + 1), fr M1 (a + 2)) = _
  rw [rdf_fr h (by omega), rdf_fr h (by omega)]
theorem isRd_m {sh : tm_sh} {M M1 : tm_M} {rd ta : Nat} (h : isRd sh M rd ta) (e : mR M1 = mR M) : isRd sh M1 rd ta := by
  obtain ⟨h1, h2, h3, h4, h5, h6⟩ := h
  refine ⟨h1, by rw [e]; exact h2, h3, by rw [e]; exact h4, h5, fun i hi => ?_⟩
  obtain ⟨a1, a2, a3, a4⟩ := h6 i hi
  exact ⟨by rw [e]; exact a1, isSd_m a2 e, isSd_m a3 e, isSd_m a4 e⟩
theorem RS_m {sh : tm_sh} {M M1 : tm_M} {rd ta lo : Nat} {t : Nat → Int} {n p p1 : Nat} (h : RS sh M rd ta t n p) (f : rdf rd lo M M1) (hp : mI M1 rd 2 = p1) (hl : p1 ≤ n) : RS sh M1 rd ta t n p1 :=
  ⟨isRd_m h.1 f.1, h.2.1, fun j => by rw [f.2.1 ta j h.2.1]; exact h.2.2.1 j, f.2.2.1.trans h.2.2.2.1, h.2.2.2.2.1, hp, hl⟩
theorem RS_t {sh : tm_sh} {M : tm_M} {rd ta : Nat} {t : Nat → Int} {n p : Nat} (h : RS sh M rd ta t n p) (j : Nat) : 0 ≤ t j ∧ t j < 256 := by
  have := h.2.2.1 j
  omega
theorem tn_and255 (x : Int) : Int32.ofInt x &&& Int32.ofInt 255 = Int32.ofInt (x % 256) := by
  apply Int32.toInt_inj.mp
  have h1 := pk_and (Int32.ofInt x) (m := Int32.ofInt 255) 8 (by decide)
  rw [h1]
  have h2 : (Int32.ofInt x).toBitVec.toNat % 2 ^ 8 < 2 ^ 31 := Nat.lt_of_lt_of_le (Nat.mod_lt _ (by decide)) (by decide)
  rw [nI_toInt h2, tn_i (x := x % 256) (by omega)]
  have h3 : (Int32.ofInt x).toBitVec = BitVec.ofInt 32 x := rfl
  rw [h3, BitVec.toNat_ofInt]
  omega
section TIA
variable {p : Program} {l : Launch} {e : Env} {R : Room} {s : State} {m : MethodId} {args : Array Value} {below : List Frame} {meth : Method} {c : Code} {H : Heap} {locs : List Loc} {cells slots : Nat} {Q : State → Prop}
variable {cc : ByteArray} {pc : Nat} {ls : Array Slot} {rest : List Value}
theorem ti_and255 (hexec : p.tables.exec = Jvm.exec) (hb : c.code = cc) {x : Int} (hdg : decode cc pc = .ok (.iand, 1)) (k : W p l e R s m args below meth c H locs cells slots Q (F0 m (pc + 1) ls (ji (x % 256) :: rest))) : W p l e R s m args below meth c H locs cells slots Q (F0 m pc ls (ji 255 :: ji x :: rest)) := lv_iand hexec hb hdg (by rw [tn_and255]; exact k)
end TIA
/-- the place alone has moved -/
def rdn (rd : Nat) (M M1 : tm_M) : Prop := mR M1 = mR M ∧ mL M1 = mL M ∧ ∀ a k, ¬ (a = rd ∧ k = 2) → mI M1 a k = mI M a k
theorem rdn_f {rd lo : Nat} {M M1 : tm_M} (h : rdn rd M M1) : rdf rd lo M M1 := ⟨h.1, fun a k q => h.2.2 a k (fun z => q z.1), h.2.2 rd 1 (fun z => absurd z.2 (by decide)), fun a k _ => by rw [h.2.1]⟩
theorem dX4_failAt_0 : decode cX4_failAt 0 = .ok (.aload_n 0, 1) := by decide +kernel
theorem dX4_failAt_1 : decode cX4_failAt 1 = .ok (.iload_n 1, 1) := by decide +kernel
theorem dX4_failAt_2 : decode cX4_failAt 2 = .ok (.putfield 41, 3) := by decide +kernel
theorem dX4_failAt_5 : decode cX4_failAt 5 = .ok (.iconst 0, 1) := by decide +kernel
theorem dX4_failAt_6 : decode cX4_failAt 6 = .ok (.ireturn, 1) := by decide +kernel
set_option maxHeartbeats 4000000 in
set_option maxRecDepth 100000 in
/-- Reader.failAt -/
theorem c_X4_failAt {l : Launch} {G : tm_G} {Hb : Heap} {sh : tm_sh} {M : tm_M} {rd : Nat} {x : Int} (h0 : sh rd = some (5, 0)) : Met l yX4_failAt (tws yX4_failAt cX4_failAt 2 (some .boolean)) ({ frames := 0, cells := 0, slots := 0, locals := 0 }) (va_Pc [.ref rd, ji x] (tm_St G Hb sh M)) (tm_Qi G Hb sh (fun r M1 => r = 0 ∧ M1 = sI M rd 3 x)) 0 0 (tm_A Hb) := by
  refine tm_begin (by decide) (Nat.le_of_ble_eq_true rfl) (fun p e s m below meth c ls hx hb hr hml hown htw hlk hnm hK hW hl => ?_)
  have hS : va_S (tm_A Hb) s.heap s.heap [] := va_S.rf
  have hl : lv_has ls 2 [(0, .ref rd), (1, ji x)] := hl
  refine lv_aload_n hx hb dX4_failAt_0 rfl (lv_at hl 0 rfl) ?_
  refine lv_iload_n hx hb dX4_failAt_1 rfl (lv_at hl 1 rfl) ?_
  refine pf_X4_41 hx hb htw hown hK hW (by assumption) hS dX4_failAt_2 (fun H locs hW hS => ?_)
  refine ti_iconst hx hb dX4_failAt_5 ?_
  exact tm_zret hx hb hr hlk (by first | exact Or.inl rfl | exact Or.inr rfl | assumption) hK hW hS ⟨rfl, rfl⟩ dX4_failAt_6
theorem dX4_isDigit_0 : decode cX4_isDigit 0 = .ok (.iload_n 0, 1) := by decide +kernel
theorem dX4_isDigit_1 : decode cX4_isDigit 1 = .ok (.bipush 48, 2) := by decide +kernel
theorem dX4_isDigit_3 : decode cX4_isDigit 3 = .ok (.if_icmp .lt 13, 3) := by decide +kernel
theorem dX4_isDigit_6 : decode cX4_isDigit 6 = .ok (.iload_n 0, 1) := by decide +kernel
theorem dX4_isDigit_7 : decode cX4_isDigit 7 = .ok (.bipush 57, 2) := by decide +kernel
theorem dX4_isDigit_9 : decode cX4_isDigit 9 = .ok (.if_icmp .gt 7, 3) := by decide +kernel
theorem dX4_isDigit_12 : decode cX4_isDigit 12 = .ok (.iconst 1, 1) := by decide +kernel
theorem dX4_isDigit_13 : decode cX4_isDigit 13 = .ok (.goto 4, 3) := by decide +kernel
theorem dX4_isDigit_16 : decode cX4_isDigit 16 = .ok (.iconst 0, 1) := by decide +kernel
theorem dX4_isDigit_17 : decode cX4_isDigit 17 = .ok (.ireturn, 1) := by decide +kernel
set_option maxHeartbeats 4000000 in
set_option maxRecDepth 100000 in
/-- Reader.isDigit -/
theorem c_X4_isDigit {l : Launch} {G : tm_G} {Hb : Heap} {sh : tm_sh} {M : tm_M} {x : Int} (hx0 : inI x) : Met l yX4_isDigit (tws yX4_isDigit cX4_isDigit 1 (some .boolean)) ({ frames := 0, cells := 0, slots := 0, locals := 0 }) (va_Pc [ji x] (tm_St G Hb sh M)) (tm_Qi G Hb sh (fun r M1 => r = tl_b (48 ≤ x ∧ x ≤ 57) ∧ M1 = M)) 0 0 (tm_A Hb) := by
  refine tm_begin (by decide) (Nat.le_of_ble_eq_true rfl) (fun p e s m below meth c ls hx hb hr hml hown htw hlk hnm hK hW hl => ?_)
  have hS : va_S (tm_A Hb) s.heap s.heap [] := va_S.rf
  have hl : lv_has ls 1 [(0, ji x)] := hl
  refine lv_iload_n hx hb dX4_isDigit_0 rfl (lv_at hl 0 rfl) ?_
  refine ti_bipush hx hb dX4_isDigit_1 (by decide) ?_
  refine ti_icmp_lt (tgt := 16) hx hb dX4_isDigit_3 (by decide) (by omega) (by omega) (fun h3 => ?_) (fun h3 => ?_)
  · refine ti_iconst hx hb dX4_isDigit_16 ?_
    exact tm_zret hx hb hr hlk (by first | exact Or.inl rfl | exact Or.inr rfl | assumption) hK hW hS ⟨by first | exact tl_b_t (by omega) | exact tl_b_f (by omega), rfl⟩ dX4_isDigit_17
  · refine lv_iload_n hx hb dX4_isDigit_6 rfl (lv_at hl 0 rfl) ?_
    refine ti_bipush hx hb dX4_isDigit_7 (by decide) ?_
    refine ti_icmp_gt (tgt := 16) hx hb dX4_isDigit_9 (by decide) (by omega) (by omega) (fun h9 => ?_) (fun h9 => ?_)
    · refine ti_iconst hx hb dX4_isDigit_16 ?_
      exact tm_zret hx hb hr hlk (by first | exact Or.inl rfl | exact Or.inr rfl | assumption) hK hW hS ⟨by first | exact tl_b_t (by omega) | exact tl_b_f (by omega), rfl⟩ dX4_isDigit_17
    · refine ti_iconst hx hb dX4_isDigit_12 ?_
      refine lv_goto (tgt := 17) hx hb dX4_isDigit_13 (by decide) ?_
      exact tm_zret hx hb hr hlk (by first | exact Or.inl rfl | exact Or.inr rfl | assumption) hK hW hS ⟨by first | exact tl_b_t (by omega) | exact tl_b_f (by omega), rfl⟩ dX4_isDigit_17
theorem dX4_next_0 : decode cX4_next 0 = .ok (.aload_n 0, 1) := by decide +kernel
theorem dX4_next_1 : decode cX4_next 1 = .ok (.getfield 38, 3) := by decide +kernel
theorem dX4_next_4 : decode cX4_next 4 = .ok (.aload_n 0, 1) := by decide +kernel
theorem dX4_next_5 : decode cX4_next 5 = .ok (.getfield 34, 3) := by decide +kernel
theorem dX4_next_8 : decode cX4_next 8 = .ok (.if_icmp .ge 30, 3) := by decide +kernel
theorem dX4_next_11 : decode cX4_next 11 = .ok (.aload_n 0, 1) := by decide +kernel
theorem dX4_next_12 : decode cX4_next 12 = .ok (.getfield 9, 3) := by decide +kernel
theorem dX4_next_15 : decode cX4_next 15 = .ok (.aload_n 0, 1) := by decide +kernel
theorem dX4_next_16 : decode cX4_next 16 = .ok (.getfield 38, 3) := by decide +kernel
theorem dX4_next_19 : decode cX4_next 19 = .ok (.baload, 1) := by decide +kernel
theorem dX4_next_20 : decode cX4_next 20 = .ok (.bipush 32, 2) := by decide +kernel
theorem dX4_next_22 : decode cX4_next 22 = .ok (.if_icmp .ne 16, 3) := by decide +kernel
theorem dX4_next_25 : decode cX4_next 25 = .ok (.aload_n 0, 1) := by decide +kernel
theorem dX4_next_26 : decode cX4_next 26 = .ok (.dup, 1) := by decide +kernel
theorem dX4_next_27 : decode cX4_next 27 = .ok (.getfield 38, 3) := by decide +kernel
theorem dX4_next_30 : decode cX4_next 30 = .ok (.iconst 1, 1) := by decide +kernel
theorem dX4_next_31 : decode cX4_next 31 = .ok (.iadd, 1) := by decide +kernel
theorem dX4_next_32 : decode cX4_next 32 = .ok (.putfield 38, 3) := by decide +kernel
theorem dX4_next_35 : decode cX4_next 35 = .ok (.goto (-35), 3) := by decide +kernel
theorem dX4_next_38 : decode cX4_next 38 = .ok (.aload_n 0, 1) := by decide +kernel
theorem dX4_next_39 : decode cX4_next 39 = .ok (.getfield 38, 3) := by decide +kernel
theorem dX4_next_42 : decode cX4_next 42 = .ok (.aload_n 0, 1) := by decide +kernel
theorem dX4_next_43 : decode cX4_next 43 = .ok (.getfield 34, 3) := by decide +kernel
theorem dX4_next_46 : decode cX4_next 46 = .ok (.if_icmp .ge 19, 3) := by decide +kernel
theorem dX4_next_49 : decode cX4_next 49 = .ok (.aload_n 0, 1) := by decide +kernel
theorem dX4_next_50 : decode cX4_next 50 = .ok (.getfield 9, 3) := by decide +kernel
theorem dX4_next_53 : decode cX4_next 53 = .ok (.aload_n 0, 1) := by decide +kernel
theorem dX4_next_54 : decode cX4_next 54 = .ok (.getfield 38, 3) := by decide +kernel
theorem dX4_next_57 : decode cX4_next 57 = .ok (.baload, 1) := by decide +kernel
theorem dX4_next_58 : decode cX4_next 58 = .ok (.sipush 255, 3) := by decide +kernel
theorem dX4_next_61 : decode cX4_next 61 = .ok (.iand, 1) := by decide +kernel
theorem dX4_next_62 : decode cX4_next 62 = .ok (.goto 4, 3) := by decide +kernel
theorem dX4_next_65 : decode cX4_next 65 = .ok (.iconst (-1), 1) := by decide +kernel
theorem dX4_next_66 : decode cX4_next 66 = .ok (.ireturn, 1) := by decide +kernel
theorem tm_un {M : tm_M} {rd a k : Nat} {v : Int} (h : ¬ (a = rd ∧ k = 2)) : mI (sI M rd 2 v) a k = mI M a k := if_neg h
set_option maxHeartbeats 4000000 in
set_option maxRecDepth 100000 in
/-- Reader.next: blanks are passed over -/
theorem c_X4_next {l : Launch} {G : tm_G} {Hb : Heap} {sh : tm_sh} {M : tm_M} {rd ta n p1 : Nat} {t : Nat → Int} (hR : RS sh M rd ta t n p1) : Met l yX4_next (tws yX4_next cX4_next 1 (some .int)) ({ frames := 0, cells := 0, slots := 0, locals := 0 }) (va_Pc [.ref rd] (tm_St G Hb sh M)) (tm_Qi G Hb sh (fun r M1 => r = tp_ch t n (tp_nx t n p1) ∧ mI M1 rd 2 = tp_nx t n p1 ∧ rdn rd M M1)) 0 0 (tm_A Hb) := by
  refine tm_begin (by decide) (Nat.le_of_ble_eq_true rfl) (fun p e s m below meth c ls hx hb hr hml hown htw hlk hnm hK hW hl => ?_)
  have hS : va_S (tm_A Hb) s.heap s.heap [] := va_S.rf
  have hl : lv_has ls 1 [(0, .ref rd)] := hl
  have loop : ∀ (k p2 : Nat) (M1 : tm_M) (H : Heap) (locs : List Loc) (ls : Array Slot), n - p2 = k → tp_nx t n p2 = tp_nx t n p1 → RS sh M1 rd ta t n p2 → rdn rd M M1 → tm_W G Hb sh M1 H → va_S (tm_A Hb) s.heap H locs → lv_has ls 1 [(0, .ref rd)] → W p l e ({ frames := 0, cells := 0, slots := 0, locals := 0 }) s m [.ref rd].toArray below meth c H locs 0 0 (MQ below (tm_Qi G Hb sh (fun r M1 => r = tp_ch t n (tp_nx t n p1) ∧ mI M1 rd 2 = tp_nx t n p1 ∧ rdn rd M M1)) [.ref rd].toArray s 0 0 (tm_A Hb)) (F0 m 0 ls []) := by
    intro k
    induction k with
    | zero =>
      intro p2 M1 H locs ls hk hx2 hR hn hW hS hl
      obtain ⟨⟨r0, r1, r2, -⟩, hta, ht, hL1, hL2, hP1, hP2⟩ := hR
      have h3 := ht p2
      have en : tp_nx t n p2 = p2 := tp_nx_end (by omega)
      refine lv_aload_n hx hb dX4_next_0 rfl (lv_at hl 0 rfl) ?_
      refine gf_X4_38 hx hb htw hown hK hW (by assumption) dX4_next_1 ?_
      refine lv_aload_n hx hb dX4_next_4 rfl (lv_at hl 0 rfl) ?_
      refine gf_X4_34 hx hb htw hown hK hW (by assumption) dX4_next_5 ?_
      refine ti_icmp_ge (tgt := 38) hx hb dX4_next_8 (by decide) (by omega) (by omega) (fun h8 => ?_) (fun h8 => ?_)
      · refine lv_aload_n hx hb dX4_next_38 rfl (lv_at hl 0 rfl) ?_
        refine gf_X4_38 hx hb htw hown hK hW (by assumption) dX4_next_39 ?_
        refine lv_aload_n hx hb dX4_next_42 rfl (lv_at hl 0 rfl) ?_
        refine gf_X4_34 hx hb htw hown hK hW (by assumption) dX4_next_43 ?_
        refine ti_icmp_ge (tgt := 65) hx hb dX4_next_46 (by decide) (by omega) (by omega) (fun h46 => ?_) (fun h46 => ?_)
        · refine ti_iconst hx hb dX4_next_65 ?_
          exact tm_iret hx hb hr hlk hK hW hS ⟨by rw [← hx2, en, tp_ch, if_neg (by omega)], by rw [← hx2, en]; exact hP1, hn⟩ dX4_next_66
        · exact absurd h46 (by omega)
      · exact absurd h8 (by omega)
    | succ k ih =>
      intro p2 M1 H locs ls hk hx2 hR hn hW hS hl
      have hR0 := hR
      obtain ⟨⟨r0, r1, r2, -⟩, hta, ht, hL1, hL2, hP1, hP2⟩ := hR
      have h3 := ht p2
      have eI : mI M1 ta (mI M1 rd 2).toNat = mI M1 ta p2 := by rw [hP1]; rfl
      refine lv_aload_n hx hb dX4_next_0 rfl (lv_at hl 0 rfl) ?_
      refine gf_X4_38 hx hb htw hown hK hW (by assumption) dX4_next_1 ?_
      refine lv_aload_n hx hb dX4_next_4 rfl (lv_at hl 0 rfl) ?_
      refine gf_X4_34 hx hb htw hown hK hW (by assumption) dX4_next_5 ?_
      refine ti_icmp_ge (tgt := 38) hx hb dX4_next_8 (by decide) (by omega) (by omega) (fun h8 => ?_) (fun h8 => ?_)
      · exact absurd h8 (by omega)
      · refine lv_aload_n hx hb dX4_next_11 rfl (lv_at hl 0 rfl) ?_
        refine gf_X4_9 hx hb htw hown hK hW (by assumption) (by assumption) dX4_next_12 ?_
        refine lv_aload_n hx hb dX4_next_15 rfl (lv_at hl 0 rfl) ?_
        refine gf_X4_38 hx hb htw hown hK hW (by assumption) dX4_next_16 ?_
        refine tm_bald hx hb hK hW (by assumption) (by omega) (by omega) (by decide) dX4_next_19 ?_
        refine ti_bipush hx hb dX4_next_20 (by decide) ?_
        refine ti_icmp_ne (tgt := 38) hx hb dX4_next_22 (by decide) (by rw [eI]; omega) (by decide) (fun h22 => ?_) (fun h22 => ?_)
        · rw [eI] at h22
          have en : tp_nx t n p2 = p2 := tp_nx_end (by omega)
          refine lv_aload_n hx hb dX4_next_38 rfl (lv_at hl 0 rfl) ?_
          refine gf_X4_38 hx hb htw hown hK hW (by assumption) dX4_next_39 ?_
          refine lv_aload_n hx hb dX4_next_42 rfl (lv_at hl 0 rfl) ?_
          refine gf_X4_34 hx hb htw hown hK hW (by assumption) dX4_next_43 ?_
          refine ti_icmp_ge (tgt := 65) hx hb dX4_next_46 (by decide) (by omega) (by omega) (fun h46 => ?_) (fun h46 => ?_)
          · exact absurd h46 (by omega)
          · refine lv_aload_n hx hb dX4_next_49 rfl (lv_at hl 0 rfl) ?_
            refine gf_X4_9 hx hb htw hown hK hW (by assumption) (by assumption) dX4_next_50 ?_
            refine lv_aload_n hx hb dX4_next_53 rfl (lv_at hl 0 rfl) ?_
            refine gf_X4_38 hx hb htw hown hK hW (by assumption) dX4_next_54 ?_
            refine tm_bald hx hb hK hW (by assumption) (by omega) (by omega) (by decide) dX4_next_57 ?_
            refine ti_sipush hx hb dX4_next_58 (by decide) ?_
            refine ti_and255 hx hb dX4_next_61 ?_
            refine lv_goto (tgt := 66) hx hb dX4_next_62 (by decide) ?_
            exact tm_iret hx hb hr hlk hK hW hS ⟨by rw [← hx2, en, tp_ch, if_pos (by omega), ← h3.1, eI], by rw [← hx2, en]; exact hP1, hn⟩ dX4_next_66
        · rw [eI] at h22
          refine lv_aload_n hx hb dX4_next_25 rfl (lv_at hl 0 rfl) ?_
          refine lv_dup hx hb dX4_next_26 rfl ?_
          refine gf_X4_38 hx hb htw hown hK hW (by assumption) dX4_next_27 ?_
          refine ti_iconst hx hb dX4_next_30 ?_
          refine ti_iadd hx hb dX4_next_31 ?_
          refine pf_X4_38 hx hb htw hown hK hW (by assumption) hS dX4_next_32 (fun H locs hW hS => ?_)
          refine lv_goto (tgt := 0) hx hb dX4_next_35 (by decide) ?_
          exact ih (p2 + 1) _ _ _ _ (by omega) (by rw [← hx2]; exact (tp_nx_go (by omega) (by omega)).symm) (RS_m (lo := 0) hR0 (rdf_sI (by decide)) (by rw [show mI (sI M1 rd 2 (mI M1 rd 2 + 1)) rd 2 = mI M1 rd 2 + 1 from tm_up_s _ _ _ _, hP1]; rfl) (by omega)) ⟨hn.1, hn.2.1, fun a k q => (tm_un q).trans (hn.2.2 a k q)⟩ hW hS (lv_sub hl [0] rfl)
  exact loop (n - p1) p1 M _ _ _ rfl rfl hR ⟨rfl, rfl, fun _ _ _ => rfl⟩ hW hS hl
end
section
/-! Reader.readNumber (by program: wip/whole/gen/reader2.py) -/
def rdNum (rd sx : Nat) (M M1 : tm_M) (res : (Nat × Int × Nat) ⊕ Nat) (r : Int) : Prop := rdf rd sx M M1 ∧ ((∃ x : Nat × Int × Nat, res = .inl x ∧ r = 1 ∧ mI M1 rd 2 = x.1 ∧ mI M1 rd 4 = x.2.2 ∧ sd M1 sx = ((0, 1), (x.2.1, 1))) ∨ ∃ f : Nat, res = .inr f ∧ r = 0 ∧ mI M1 rd 3 = f)
theorem tp_num_ok {t : Nat → Int} {n p : Nat} {x : Nat × Int × Nat} (hp : p ≤ n) (h : tp_num t n p = .inl x) : x.1 ≤ n ∧ 0 ≤ x.2.1 ∧ x.2.1 ≤ 9999 ∧ x.2.2 ≤ n := by
  unfold tp_num at h
  split at h
  · cases h
    have := tp_dig_ok t n 4 0 0 (tp_nx t n p) 1 (tp_nx_le hp).2 (by omega) (by omega) (by omega)
    refine ⟨this.1, this.2.2.1, ?_, this.2.1⟩
    have h4 := this.2.2.2
    have e : (1 : Int) * 10 ^ 4 = 10000 := by decide
    rw [e] at h4
    show (tp_dig t n 4 0 0 (tp_nx t n p)).1 ≤ 9999
    omega
  · cases h
theorem rdn_4 {rd : Nat} {M M1 : tm_M} (h : rdn rd M M1) : mI M1 rd 4 = mI M rd 4 := h.2.2 rd 4 (fun z => absurd z.2 (by decide))
theorem rdn_sd {rd a : Nat} {M M1 : tm_M} (h : rdn rd M M1) : sd M1 a = sd M a := by
  show ((mL M1 (a + 1) 0, mL M1 (a + 1) 1), (mL M1 (a + 2) 0, mL M1 (a + 2) 1)) = _
  rw [h.2.1]
theorem dX4_readNumber_0 : decode cX4_readNumber 0 = .ok (.aload_n 0, 1) := by decide +kernel
theorem dX4_readNumber_1 : decode cX4_readNumber 1 = .ok (.invokevirtual 65, 3) := by decide +kernel
theorem dX4_readNumber_4 : decode cX4_readNumber 4 = .ok (.invokestatic 132, 3) := by decide +kernel
theorem dX4_readNumber_7 : decode cX4_readNumber 7 = .ok (.ifCond .ne 12, 3) := by decide +kernel
theorem dX4_readNumber_10 : decode cX4_readNumber 10 = .ok (.aload_n 0, 1) := by decide +kernel
theorem dX4_readNumber_11 : decode cX4_readNumber 11 = .ok (.aload_n 0, 1) := by decide +kernel
theorem dX4_readNumber_12 : decode cX4_readNumber 12 = .ok (.getfield 38, 3) := by decide +kernel
theorem dX4_readNumber_15 : decode cX4_readNumber 15 = .ok (.invokevirtual 69, 3) := by decide +kernel
theorem dX4_readNumber_18 : decode cX4_readNumber 18 = .ok (.ireturn, 1) := by decide +kernel
theorem dX4_readNumber_19 : decode cX4_readNumber 19 = .ok (.iconst 0, 1) := by decide +kernel
theorem dX4_readNumber_20 : decode cX4_readNumber 20 = .ok (.istore_n 2, 1) := by decide +kernel
theorem dX4_readNumber_21 : decode cX4_readNumber 21 = .ok (.iconst 0, 1) := by decide +kernel
theorem dX4_readNumber_22 : decode cX4_readNumber 22 = .ok (.istore_n 3, 1) := by decide +kernel
theorem dX4_readNumber_23 : decode cX4_readNumber 23 = .ok (.iload_n 3, 1) := by decide +kernel
theorem dX4_readNumber_24 : decode cX4_readNumber 24 = .ok (.iconst 4, 1) := by decide +kernel
theorem dX4_readNumber_25 : decode cX4_readNumber 25 = .ok (.if_icmp .ge 50, 3) := by decide +kernel
theorem dX4_readNumber_28 : decode cX4_readNumber 28 = .ok (.aload_n 0, 1) := by decide +kernel
theorem dX4_readNumber_29 : decode cX4_readNumber 29 = .ok (.invokevirtual 65, 3) := by decide +kernel
theorem dX4_readNumber_32 : decode cX4_readNumber 32 = .ok (.invokestatic 132, 3) := by decide +kernel
theorem dX4_readNumber_35 : decode cX4_readNumber 35 = .ok (.ifCond .eq 40, 3) := by decide +kernel
theorem dX4_readNumber_38 : decode cX4_readNumber 38 = .ok (.iload_n 2, 1) := by decide +kernel
theorem dX4_readNumber_39 : decode cX4_readNumber 39 = .ok (.bipush 10, 2) := by decide +kernel
theorem dX4_readNumber_41 : decode cX4_readNumber 41 = .ok (.imul, 1) := by decide +kernel
theorem dX4_readNumber_42 : decode cX4_readNumber 42 = .ok (.aload_n 0, 1) := by decide +kernel
theorem dX4_readNumber_43 : decode cX4_readNumber 43 = .ok (.invokevirtual 65, 3) := by decide +kernel
theorem dX4_readNumber_46 : decode cX4_readNumber 46 = .ok (.bipush 48, 2) := by decide +kernel
theorem dX4_readNumber_48 : decode cX4_readNumber 48 = .ok (.isub, 1) := by decide +kernel
theorem dX4_readNumber_49 : decode cX4_readNumber 49 = .ok (.iadd, 1) := by decide +kernel
theorem dX4_readNumber_50 : decode cX4_readNumber 50 = .ok (.istore_n 2, 1) := by decide +kernel
theorem dX4_readNumber_51 : decode cX4_readNumber 51 = .ok (.aload_n 0, 1) := by decide +kernel
theorem dX4_readNumber_52 : decode cX4_readNumber 52 = .ok (.aload_n 0, 1) := by decide +kernel
theorem dX4_readNumber_53 : decode cX4_readNumber 53 = .ok (.getfield 38, 3) := by decide +kernel
theorem dX4_readNumber_56 : decode cX4_readNumber 56 = .ok (.putfield 119, 3) := by decide +kernel
theorem dX4_readNumber_59 : decode cX4_readNumber 59 = .ok (.aload_n 0, 1) := by decide +kernel
theorem dX4_readNumber_60 : decode cX4_readNumber 60 = .ok (.dup, 1) := by decide +kernel
theorem dX4_readNumber_61 : decode cX4_readNumber 61 = .ok (.getfield 38, 3) := by decide +kernel
theorem dX4_readNumber_64 : decode cX4_readNumber 64 = .ok (.iconst 1, 1) := by decide +kernel
theorem dX4_readNumber_65 : decode cX4_readNumber 65 = .ok (.iadd, 1) := by decide +kernel
theorem dX4_readNumber_66 : decode cX4_readNumber 66 = .ok (.putfield 38, 3) := by decide +kernel
theorem dX4_readNumber_69 : decode cX4_readNumber 69 = .ok (.iinc 3 1, 3) := by decide +kernel
theorem dX4_readNumber_72 : decode cX4_readNumber 72 = .ok (.goto (-49), 3) := by decide +kernel
theorem dX4_readNumber_75 : decode cX4_readNumber 75 = .ok (.aload_n 1, 1) := by decide +kernel
theorem dX4_readNumber_76 : decode cX4_readNumber 76 = .ok (.iconst 0, 1) := by decide +kernel
theorem dX4_readNumber_77 : decode cX4_readNumber 77 = .ok (.iload_n 2, 1) := by decide +kernel
theorem dX4_readNumber_78 : decode cX4_readNumber 78 = .ok (.invokevirtual 125, 3) := by decide +kernel
theorem dX4_readNumber_81 : decode cX4_readNumber 81 = .ok (.iconst 1, 1) := by decide +kernel
theorem dX4_readNumber_82 : decode cX4_readNumber 82 = .ok (.ireturn, 1) := by decide +kernel
set_option maxHeartbeats 4000000 in
set_option maxRecDepth 100000 in
/-- Reader.readNumber -/
theorem c_X4_readNumber {l : Launch} {G : tm_G} {Hb : Heap} {sh : tm_sh} {M : tm_M} {rd ta n p1 sx : Nat} {t : Nat → Int} (hR : RS sh M rd ta t n p1) (hs : isSd sh M sx) (hsx : rd + 5 ≤ sx ∧ sx + 3 ≤ rd + 86) : Met l yX4_readNumber (tws yX4_readNumber cX4_readNumber 4 (some .boolean)) ({ frames := 2, cells := 0, slots := 0, locals := 44 }) (va_Pc [.ref rd, .ref sx] (tm_St G Hb sh M)) (tm_Qi G Hb sh (fun r M1 => rdNum rd sx M M1 (tp_num t n p1) r)) 0 0 (tm_A Hb) := by
  refine tm_begin (by decide) (Nat.le_of_ble_eq_true rfl) (fun p e s m below meth c ls hx hb hr hml hown htw hlk hnm hK hW hl => ?_)
  have hS : va_S (tm_A Hb) s.heap s.heap [] := va_S.rf
  have hl : lv_has ls 4 [(0, .ref rd), (1, .ref sx)] := hl
  have htr := RS_t hR
  have hp1 := hR.2.2.2.2.2.2
  have r0 := hR.1.1
  have ex : ∀ (pp ld : Nat) (num : Int) (M1 : tm_M) (H : Heap) (locs : List Loc) (ls : Array Slot), tp_num t n p1 = .inl (pp, num, ld) → mI M1 rd 2 = pp → mI M1 rd 4 = ld → rdf rd sx M M1 → tm_W G Hb sh M1 H → va_S (tm_A Hb) s.heap H locs → lv_has ls 4 [(0, .ref rd), (1, .ref sx), (2, ji num)] → W p l e ({ frames := 2, cells := 0, slots := 0, locals := 44 }) s m [.ref rd, .ref sx].toArray below meth c H locs 0 0 (MQ below (tm_Qi G Hb sh (fun r M1 => rdNum rd sx M M1 (tp_num t n p1) r)) [.ref rd, .ref sx].toArray s 0 0 (tm_A Hb)) (F0 m 75 ls []) := by
    intro pp ld num M1 H locs ls he h2 h4 hf hW hS hl
    have hb1 := tp_num_ok hp1 he
    have s0 := hs.1
    have hb2 : 0 ≤ num ∧ num ≤ 9999 := ⟨hb1.2.1, hb1.2.2.1⟩
    refine lv_aload_n hx hb dX4_readNumber_75 rfl (lv_at hl 1 rfl) ?_
    refine ti_iconst hx hb dX4_readNumber_76 ?_
    refine lv_iload_n hx hb dX4_readNumber_77 rfl (lv_at hl 2 rfl) ?_
    refine tm_callv (cs_X4_125 hx hb hml hown htw hK hW (by assumption) (c_X5_setWhole (isSd_m hs hf.1) (by decide) (by omega)) ⟨rfl, rfl, Nat.le_of_ble_eq_true rfl, Nat.le_of_ble_eq_true rfl⟩ hl.1 (Nat.le_of_ble_eq_true rfl) dX4_readNumber_78 ⟨Nat.le_of_ble_eq_true rfl, Nat.le_of_ble_eq_true rfl⟩) hS (fun M78 H locs hp78 hW hS => ?_)
    refine ti_iconst hx hb dX4_readNumber_81 ?_
    exact tm_zret hx hb hr hlk (by first | exact Or.inl rfl | exact Or.inr rfl | assumption) hK hW hS ⟨by rw [hp78]; exact rdf_tr hf (rdf_sS (by omega) (by omega)), Or.inl ⟨_, he, rfl, by rw [hp78]; exact h2, by rw [hp78]; exact h4, by rw [hp78]; exact sd_self _ _ _⟩⟩ dX4_readNumber_82
  have loop : ∀ (j : Nat) (k num : Int) (ld p2 : Nat) (M1 : tm_M) (H : Heap) (locs : List Loc) (ls : Array Slot), k + j = 4 → 0 ≤ k → tp_num t n p1 = .inl ((tp_dig t n j num ld p2).2.2, (tp_dig t n j num ld p2).1, (tp_dig t n j num ld p2).2.1) → RS sh M1 rd ta t n p2 → mI M1 rd 4 = ld → rdf rd sx M M1 → tm_W G Hb sh M1 H → va_S (tm_A Hb) s.heap H locs → lv_has ls 4 [(0, .ref rd), (1, .ref sx), (2, ji num), (3, ji k)] → W p l e ({ frames := 2, cells := 0, slots := 0, locals := 44 }) s m [.ref rd, .ref sx].toArray below meth c H locs 0 0 (MQ below (tm_Qi G Hb sh (fun r M1 => rdNum rd sx M M1 (tp_num t n p1) r)) [.ref rd, .ref sx].toArray s 0 0 (tm_A Hb)) (F0 m 23 ls []) := by
    intro j
    induction j with
    | zero =>
      intro k num ld p2 M1 H locs ls hk hk0 he hR h4 hf hW hS hl
      refine lv_iload_n hx hb dX4_readNumber_23 rfl (lv_at hl 3 rfl) ?_
      refine ti_iconst hx hb dX4_readNumber_24 ?_
      refine ti_icmp_ge (tgt := 75) hx hb dX4_readNumber_25 (by decide) (by omega) (by omega) (fun h25 => ?_) (fun h25 => ?_)
      · exact ex p2 ld num _ _ _ _ he hR.2.2.2.2.2.1 h4 hf hW hS (lv_sub hl [0, 1, 2] rfl)
      · exact absurd (show 4 ≤ k by omega) h25
    | succ j ih =>
      intro k num ld p2 M1 H locs ls hk hk0 he hR h4 hf hW hS hl
      have q0 := tp_nx_le (t := t) hR.2.2.2.2.2.2
      have cr := tp_ch_r (n := n) (p := tp_nx t n p2) htr
      refine lv_iload_n hx hb dX4_readNumber_23 rfl (lv_at hl 3 rfl) ?_
      refine ti_iconst hx hb dX4_readNumber_24 ?_
      refine ti_icmp_ge (tgt := 75) hx hb dX4_readNumber_25 (by decide) (by omega) (by omega) (fun h25 => ?_) (fun h25 => ?_)
      · exact absurd h25 (by omega)
      · refine lv_aload_n hx hb dX4_readNumber_28 rfl (lv_at hl 0 rfl) ?_
        refine tm_calli (cs_X4_65 hx hb hml hown htw hK hW (by assumption) (c_X4_next hR) ⟨rfl, rfl, Nat.le_of_ble_eq_true rfl, Nat.le_of_ble_eq_true rfl⟩ hl.1 (Nat.le_of_ble_eq_true rfl) dX4_readNumber_29 ⟨Nat.le_of_ble_eq_true rfl, Nat.le_of_ble_eq_true rfl⟩) hS (fun x29 M29 H locs hp29 hW hS => ?_)
        obtain ⟨ex29, e29, n29⟩ := hp29
        rw [ex29]
        have R29 := RS_m hR (rdn_f (lo := sx) n29) e29 q0.2
        refine tm_calli (cs_X4_132 hx hb hml hown htw hK hW (c_X4_isDigit (by omega)) ⟨rfl, rfl, Nat.le_of_ble_eq_true rfl, Nat.le_of_ble_eq_true rfl⟩ hl.1 (Nat.le_of_ble_eq_true rfl) dX4_readNumber_32 ⟨Nat.le_of_ble_eq_true rfl, Nat.le_of_ble_eq_true rfl⟩) hS (fun x32 M32 H locs hp32 hW hS => ?_)
        obtain ⟨ex32, eM32⟩ := hp32
        rw [eM32] at hW
        rw [ex32]
        refine ti_if_eq (tgt := 75) hx hb dX4_readNumber_35 (by decide) (tl_b_r _) (fun h35 => ?_) (fun h35 => ?_)
        · exact ex (tp_nx t n p2) ld num _ _ _ _ (by rw [he, show tp_dig t n (j + 1) num ld p2 = (num, ld, tp_nx t n p2) from if_neg (tl_b_0.mp h35)]) e29 ((rdn_4 n29).trans h4) (rdf_tr hf (rdn_f n29)) hW hS (lv_sub hl [0, 1, 2] rfl)
        · refine lv_iload_n hx hb dX4_readNumber_38 rfl (lv_at hl 2 rfl) ?_
          refine ti_bipush hx hb dX4_readNumber_39 (by decide) ?_
          refine ti_imul hx hb dX4_readNumber_41 ?_
          refine lv_aload_n hx hb dX4_readNumber_42 rfl (lv_at hl 0 rfl) ?_
          refine tm_calli (cs_X4_65 hx hb hml hown htw hK hW (by assumption) (c_X4_next R29) ⟨rfl, rfl, Nat.le_of_ble_eq_true rfl, Nat.le_of_ble_eq_true rfl⟩ hl.1 (Nat.le_of_ble_eq_true rfl) dX4_readNumber_43 ⟨Nat.le_of_ble_eq_true rfl, Nat.le_of_ble_eq_true rfl⟩) hS (fun x43 M43 H locs hp43 hW hS => ?_)
          obtain ⟨ex43, e43, n43⟩ := hp43
          rw [ex43, tp_nx_nx hR.2.2.2.2.2.2]
          rw [tp_nx_nx hR.2.2.2.2.2.2] at e43
          have f43 := rdf_tr hf (rdf_tr (rdn_f (lo := sx) n29) (rdn_f n43))
          have dg := tl_b_n.mp h35
          have lt := tp_ch_lt (t := t) (n := n) (p := tp_nx t n p2) (by omega)
          refine ti_bipush hx hb dX4_readNumber_46 (by decide) ?_
          refine ti_isub hx hb dX4_readNumber_48 ?_
          refine ti_iadd hx hb dX4_readNumber_49 ?_
          refine lv_istore_n (lv' := [(2, _), (0, _), (1, _), (3, _)]) hx hb dX4_readNumber_50 rfl hl (by decide) rfl (fun ls hl => ?_)
          refine lv_aload_n hx hb dX4_readNumber_51 rfl (lv_at hl 1 rfl) ?_
          refine lv_aload_n hx hb dX4_readNumber_52 rfl (lv_at hl 1 rfl) ?_
          refine gf_X4_38 hx hb htw hown hK hW (by assumption) dX4_readNumber_53 ?_
          refine pf_X4_119 hx hb htw hown hK hW (by assumption) hS dX4_readNumber_56 (fun H locs hW hS => ?_)
          refine lv_aload_n hx hb dX4_readNumber_59 rfl (lv_at hl 1 rfl) ?_
          refine lv_dup hx hb dX4_readNumber_60 rfl ?_
          refine gf_X4_38 hx hb htw hown hK hW (by assumption) dX4_readNumber_61 ?_
          refine ti_iconst hx hb dX4_readNumber_64 ?_
          refine ti_iadd hx hb dX4_readNumber_65 ?_
          refine pf_X4_38 hx hb htw hown hK hW (by assumption) hS dX4_readNumber_66 (fun H locs hW hS => ?_)
          refine ti_iinc (k := 3) (lv' := [(3, _), (2, _), (0, _), (1, _)]) hx hb dX4_readNumber_69 hl rfl (by decide) rfl (fun ls hl => ?_)
          refine lv_goto (tgt := 23) hx hb dX4_readNumber_72 (by decide) ?_
          exact ih (k + 1) _ (tp_nx t n p2) (tp_nx t n p2 + 1) _ _ _ _ (by omega) (by omega) (by rw [he, show tp_dig t n (j + 1) num ld p2 = _ from if_pos dg]) (RS_m R29 (rdf_tr (rdn_f (lo := sx) n43) (rdf_tr (rdf_sI (by decide)) (rdf_sI (by decide)))) (by rw [show mI (sI (sI M43 rd 4 (mI M43 rd 2)) rd 2 (mI (sI M43 rd 4 (mI M43 rd 2)) rd 2 + 1)) rd 2 = mI (sI M43 rd 4 (mI M43 rd 2)) rd 2 + 1 from tm_up_s _ _ _ _, show mI (sI M43 rd 4 (mI M43 rd 2)) rd 2 = mI M43 rd 2 from tm_up_k _ _ (by decide), e43]; rfl) lt) (by rw [show mI (sI (sI M43 rd 4 (mI M43 rd 2)) rd 2 (mI (sI M43 rd 4 (mI M43 rd 2)) rd 2 + 1)) rd 4 = mI (sI M43 rd 4 (mI M43 rd 2)) rd 4 from tm_up_k _ _ (by decide), show mI (sI M43 rd 4 (mI M43 rd 2)) rd 4 = mI M43 rd 2 from tm_up_s _ _ _ _, e43]) (rdf_tr f43 (rdf_tr (rdf_sI (by decide)) (rdf_sI (by decide)))) hW hS (lv_sub hl [2, 3, 1, 0] rfl)
  have hp0 := hp1
  have q0 := tp_nx_le (t := t) hp1
  have cr := tp_ch_r (n := n) (p := tp_nx t n p1) htr
  refine lv_aload_n hx hb dX4_readNumber_0 rfl (lv_at hl 0 rfl) ?_
  refine tm_calli (cs_X4_65 hx hb hml hown htw hK hW (by assumption) (c_X4_next hR) ⟨rfl, rfl, Nat.le_of_ble_eq_true rfl, Nat.le_of_ble_eq_true rfl⟩ hl.1 (Nat.le_of_ble_eq_true rfl) dX4_readNumber_1 ⟨Nat.le_of_ble_eq_true rfl, Nat.le_of_ble_eq_true rfl⟩) hS (fun x1 M1 H locs hp1 hW hS => ?_)
  obtain ⟨ex1, e1, n1⟩ := hp1
  rw [ex1]
  have R1 := RS_m hR (rdn_f (lo := sx) n1) e1 q0.2
  refine tm_calli (cs_X4_132 hx hb hml hown htw hK hW (c_X4_isDigit (by omega)) ⟨rfl, rfl, Nat.le_of_ble_eq_true rfl, Nat.le_of_ble_eq_true rfl⟩ hl.1 (Nat.le_of_ble_eq_true rfl) dX4_readNumber_4 ⟨Nat.le_of_ble_eq_true rfl, Nat.le_of_ble_eq_true rfl⟩) hS (fun x4 M4 H locs hp4 hW hS => ?_)
  obtain ⟨ex4, eM4⟩ := hp4
  rw [eM4] at hW
  rw [ex4]
  refine ti_if_ne (tgt := 19) hx hb dX4_readNumber_7 (by decide) (tl_b_r _) (fun h7 => ?_) (fun h7 => ?_)
  · have dg := tl_b_n.mp h7
    refine ti_iconst hx hb dX4_readNumber_19 ?_
    refine lv_istore_n (lv' := [(2, _), (0, _), (1, _)]) hx hb dX4_readNumber_20 rfl hl (by decide) rfl (fun ls hl => ?_)
    refine ti_iconst hx hb dX4_readNumber_21 ?_
    refine lv_istore_n (lv' := [(3, _), (2, _), (0, _), (1, _)]) hx hb dX4_readNumber_22 rfl hl (by decide) rfl (fun ls hl => ?_)
    refine lv_iload_n hx hb dX4_readNumber_23 rfl (lv_at hl 0 rfl) ?_
    refine ti_iconst hx hb dX4_readNumber_24 ?_
    refine ti_icmp_ge (tgt := 75) hx hb dX4_readNumber_25 (by decide) (by omega) (by omega) (fun h25 => ?_) (fun h25 => ?_)
    · exact absurd h25 (by decide)
    · refine lv_aload_n hx hb dX4_readNumber_28 rfl (lv_at hl 2 rfl) ?_
      refine tm_calli (cs_X4_65 hx hb hml hown htw hK hW (by assumption) (c_X4_next R1) ⟨rfl, rfl, Nat.le_of_ble_eq_true rfl, Nat.le_of_ble_eq_true rfl⟩ hl.1 (Nat.le_of_ble_eq_true rfl) dX4_readNumber_29 ⟨Nat.le_of_ble_eq_true rfl, Nat.le_of_ble_eq_true rfl⟩) hS (fun x29 M29 H locs hp29 hW hS => ?_)
      obtain ⟨ex29, e29, n29⟩ := hp29
      rw [tp_nx_nx hp0] at e29
      rw [ex29, tp_nx_nx hp0]
      have R29 := RS_m R1 (rdn_f (lo := sx) n29) e29 q0.2
      refine tm_calli (cs_X4_132 hx hb hml hown htw hK hW (c_X4_isDigit (by omega)) ⟨rfl, rfl, Nat.le_of_ble_eq_true rfl, Nat.le_of_ble_eq_true rfl⟩ hl.1 (Nat.le_of_ble_eq_true rfl) dX4_readNumber_32 ⟨Nat.le_of_ble_eq_true rfl, Nat.le_of_ble_eq_true rfl⟩) hS (fun x32 M32 H locs hp32 hW hS => ?_)
      obtain ⟨ex32, eM32⟩ := hp32
      rw [eM32] at hW
      rw [ex32]
      refine ti_if_eq (tgt := 75) hx hb dX4_readNumber_35 (by decide) (tl_b_r _) (fun h35 => ?_) (fun h35 => ?_)
      · exact absurd h35 (by rw [tl_b_0]; exact fun z => z dg)
      · refine lv_iload_n hx hb dX4_readNumber_38 rfl (lv_at hl 1 rfl) ?_
        refine ti_bipush hx hb dX4_readNumber_39 (by decide) ?_
        refine ti_imul hx hb dX4_readNumber_41 ?_
        refine lv_aload_n hx hb dX4_readNumber_42 rfl (lv_at hl 2 rfl) ?_
        refine tm_calli (cs_X4_65 hx hb hml hown htw hK hW (by assumption) (c_X4_next R29) ⟨rfl, rfl, Nat.le_of_ble_eq_true rfl, Nat.le_of_ble_eq_true rfl⟩ hl.1 (Nat.le_of_ble_eq_true rfl) dX4_readNumber_43 ⟨Nat.le_of_ble_eq_true rfl, Nat.le_of_ble_eq_true rfl⟩) hS (fun x43 M43 H locs hp43 hW hS => ?_)
        obtain ⟨ex43, e43, n43⟩ := hp43
        rw [tp_nx_nx hp0] at e43
        rw [ex43, tp_nx_nx hp0]
        have f43 := rdf_tr (rdn_f (lo := sx) n1) (rdf_tr (rdn_f (lo := sx) n29) (rdn_f n43))
        have lt := tp_ch_lt (t := t) (n := n) (p := tp_nx t n p1) (by omega)
        refine ti_bipush hx hb dX4_readNumber_46 (by decide) ?_
        refine ti_isub hx hb dX4_readNumber_48 ?_
        refine ti_iadd hx hb dX4_readNumber_49 ?_
        refine lv_istore_n (lv' := [(2, _), (3, _), (0, _), (1, _)]) hx hb dX4_readNumber_50 rfl hl (by decide) rfl (fun ls hl => ?_)
        refine lv_aload_n hx hb dX4_readNumber_51 rfl (lv_at hl 2 rfl) ?_
        refine lv_aload_n hx hb dX4_readNumber_52 rfl (lv_at hl 2 rfl) ?_
        refine gf_X4_38 hx hb htw hown hK hW (by assumption) dX4_readNumber_53 ?_
        refine pf_X4_119 hx hb htw hown hK hW (by assumption) hS dX4_readNumber_56 (fun H locs hW hS => ?_)
        refine lv_aload_n hx hb dX4_readNumber_59 rfl (lv_at hl 2 rfl) ?_
        refine lv_dup hx hb dX4_readNumber_60 rfl ?_
        refine gf_X4_38 hx hb htw hown hK hW (by assumption) dX4_readNumber_61 ?_
        refine ti_iconst hx hb dX4_readNumber_64 ?_
        refine ti_iadd hx hb dX4_readNumber_65 ?_
        refine pf_X4_38 hx hb htw hown hK hW (by assumption) hS dX4_readNumber_66 (fun H locs hW hS => ?_)
        refine ti_iinc (k := 1) (lv' := [(3, _), (2, _), (0, _), (1, _)]) hx hb dX4_readNumber_69 hl rfl (by decide) rfl (fun ls hl => ?_)
        refine lv_goto (tgt := 23) hx hb dX4_readNumber_72 (by decide) ?_
        exact loop 3 1 _ (tp_nx t n p1) (tp_nx t n p1 + 1) _ _ _ _ (by omega) (by omega) (by unfold tp_num; rw [if_pos dg, show tp_dig t n 4 0 0 (tp_nx t n p1) = tp_dig t n 3 (0 * 10 + (tp_ch t n (tp_nx t n p1) - 48)) (tp_nx t n p1) (tp_nx t n p1 + 1) from by rw [tp_dig, tp_nx_nx hp0, if_pos dg]]) (RS_m R29 (rdf_tr (rdn_f (lo := sx) n43) (rdf_tr (rdf_sI (by decide)) (rdf_sI (by decide)))) (by rw [show mI (sI (sI M43 rd 4 (mI M43 rd 2)) rd 2 (mI (sI M43 rd 4 (mI M43 rd 2)) rd 2 + 1)) rd 2 = mI (sI M43 rd 4 (mI M43 rd 2)) rd 2 + 1 from tm_up_s _ _ _ _, show mI (sI M43 rd 4 (mI M43 rd 2)) rd 2 = mI M43 rd 2 from tm_up_k _ _ (by decide), e43]; rfl) lt) (by rw [show mI (sI (sI M43 rd 4 (mI M43 rd 2)) rd 2 (mI (sI M43 rd 4 (mI M43 rd 2)) rd 2 + 1)) rd 4 = mI (sI M43 rd 4 (mI M43 rd 2)) rd 4 from tm_up_k _ _ (by decide), show mI (sI M43 rd 4 (mI M43 rd 2)) rd 4 = mI M43 rd 2 from tm_up_s _ _ _ _, e43]) (rdf_tr f43 (rdf_tr (rdf_sI (by decide)) (rdf_sI (by decide)))) hW hS (lv_sub hl [2, 3, 1, 0] rfl)
  · have nd := tl_b_0.mp h7
    refine lv_aload_n hx hb dX4_readNumber_10 rfl (lv_at hl 0 rfl) ?_
    refine lv_aload_n hx hb dX4_readNumber_11 rfl (lv_at hl 0 rfl) ?_
    refine gf_X4_38 hx hb htw hown hK hW (by assumption) dX4_readNumber_12 ?_
    refine tm_calli (cs_X4_69 hx hb hml hown htw hK hW (by assumption) (c_X4_failAt r0) ⟨rfl, rfl, Nat.le_of_ble_eq_true rfl, Nat.le_of_ble_eq_true rfl⟩ hl.1 (Nat.le_of_ble_eq_true rfl) dX4_readNumber_15 ⟨Nat.le_of_ble_eq_true rfl, Nat.le_of_ble_eq_true rfl⟩) hS (fun x15 M15 H locs hp15 hW hS => ?_)
    obtain ⟨ex15, eM15⟩ := hp15
    rw [ex15]
    exact tm_zret hx hb hr hlk (Or.inl rfl) hK hW hS ⟨by rw [eM15]; exact rdf_tr (rdn_f n1) (rdf_sI (by decide)), Or.inr ⟨tp_nx t n p1, by unfold tp_num; rw [if_neg nd], rfl, by rw [eM15]; exact (tm_up_s _ _ _ _).trans e1⟩⟩ dX4_readNumber_18
end
