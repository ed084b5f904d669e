section
-- ===== PART A: goes FIRST, ahead of the names: the tables' words, and 'selects' of the private methods out of them =====
/-- a private method of a class that the tables say can be made, by its rows of tables_1 -/
def lw_okq (q : MethodName × Nat) : Prop := (q.1.cls ≠ "java/lang/invoke/MethodHandle" ∧ q.1.cls ≠ "java/lang/invoke/VarHandle") ∧ Cond.instantiable q.1.cls q.2 ∈ tables_1 ∧ Cond.privateMethod q.1 ∈ tables_1 ∧ Cond.instanceMethod q.1 ∈ tables_1
theorem lw_p0 : lw_okq (⟨"BentPlain", "tell", "(I)I"⟩, 13) := ⟨⟨by decide +kernel, by decide +kernel⟩, List.mem_of_getElem? (i := 18) (by decide +kernel), List.mem_of_getElem? (i := 193) (by decide +kernel), List.mem_of_getElem? (i := 194) (by decide +kernel)⟩
theorem lw_p1 : lw_okq (⟨"BentPlain", "numberOrNone", "(I)I"⟩, 13) := ⟨⟨by decide +kernel, by decide +kernel⟩, List.mem_of_getElem? (i := 18) (by decide +kernel), List.mem_of_getElem? (i := 277) (by decide +kernel), List.mem_of_getElem? (i := 278) (by decide +kernel)⟩
theorem lw_p2 : lw_okq (⟨"BentPlain", "reached", "(I)I"⟩, 13) := ⟨⟨by decide +kernel, by decide +kernel⟩, List.mem_of_getElem? (i := 18) (by decide +kernel), List.mem_of_getElem? (i := 487) (by decide +kernel), List.mem_of_getElem? (i := 488) (by decide +kernel)⟩
theorem lw_p3 : lw_okq (⟨"BentPlain", "least", "(IIZ)I"⟩, 13) := ⟨⟨by decide +kernel, by decide +kernel⟩, List.mem_of_getElem? (i := 18) (by decide +kernel), List.mem_of_getElem? (i := 495) (by decide +kernel), List.mem_of_getElem? (i := 496) (by decide +kernel)⟩
theorem lw_p4 : lw_okq (⟨"BentPlain", "farThrough", "(II)I"⟩, 13) := ⟨⟨by decide +kernel, by decide +kernel⟩, List.mem_of_getElem? (i := 18) (by decide +kernel), List.mem_of_getElem? (i := 523) (by decide +kernel), List.mem_of_getElem? (i := 524) (by decide +kernel)⟩
theorem lw_p5 : lw_okq (⟨"BentPlain$Teller", "tellItem", "()Z"⟩, 2) := ⟨⟨by decide +kernel, by decide +kernel⟩, List.mem_of_getElem? (i := 111) (by decide +kernel), List.mem_of_getElem? (i := 570) (by decide +kernel), List.mem_of_getElem? (i := 571) (by decide +kernel)⟩
theorem lw_p6 : lw_okq (⟨"BentPlain$Teller", "tellField", "()Z"⟩, 2) := ⟨⟨by decide +kernel, by decide +kernel⟩, List.mem_of_getElem? (i := 111) (by decide +kernel), List.mem_of_getElem? (i := 627) (by decide +kernel), List.mem_of_getElem? (i := 628) (by decide +kernel)⟩
theorem lw_p7 : lw_okq (⟨"BentPlain$Teller", "tellGlue", "()Z"⟩, 2) := ⟨⟨by decide +kernel, by decide +kernel⟩, List.mem_of_getElem? (i := 111) (by decide +kernel), List.mem_of_getElem? (i := 639) (by decide +kernel), List.mem_of_getElem? (i := 640) (by decide +kernel)⟩
theorem lw_p8 : lw_okq (⟨"BentPlain$Teller", "lookAtSide", "()I"⟩, 2) := ⟨⟨by decide +kernel, by decide +kernel⟩, List.mem_of_getElem? (i := 111) (by decide +kernel), List.mem_of_getElem? (i := 643) (by decide +kernel), List.mem_of_getElem? (i := 644) (by decide +kernel)⟩
theorem lw_p9 : lw_okq (⟨"BentPlain$Teller", "sideNamed", "()I"⟩, 2) := ⟨⟨by decide +kernel, by decide +kernel⟩, List.mem_of_getElem? (i := 111) (by decide +kernel), List.mem_of_getElem? (i := 647) (by decide +kernel), List.mem_of_getElem? (i := 648) (by decide +kernel)⟩
theorem lw_p10 : lw_okq (⟨"BentPlain$Teller", "tellCut", "()Z"⟩, 2) := ⟨⟨by decide +kernel, by decide +kernel⟩, List.mem_of_getElem? (i := 111) (by decide +kernel), List.mem_of_getElem? (i := 662) (by decide +kernel), List.mem_of_getElem? (i := 663) (by decide +kernel)⟩
theorem lw_p11 : lw_okq (⟨"BentPlain$Teller", "tellWalker", "()Z"⟩, 2) := ⟨⟨by decide +kernel, by decide +kernel⟩, List.mem_of_getElem? (i := 111) (by decide +kernel), List.mem_of_getElem? (i := 667) (by decide +kernel), List.mem_of_getElem? (i := 668) (by decide +kernel)⟩
theorem lw_p12 : lw_okq (⟨"BentPlain$Teller", "kindNamed", "()I"⟩, 2) := ⟨⟨by decide +kernel, by decide +kernel⟩, List.mem_of_getElem? (i := 111) (by decide +kernel), List.mem_of_getElem? (i := 671) (by decide +kernel), List.mem_of_getElem? (i := 672) (by decide +kernel)⟩
theorem lw_p13 : lw_okq (⟨"BentPlain", "sheetFinding", "(I)I"⟩, 13) := ⟨⟨by decide +kernel, by decide +kernel⟩, List.mem_of_getElem? (i := 18) (by decide +kernel), List.mem_of_getElem? (i := 706) (by decide +kernel), List.mem_of_getElem? (i := 707) (by decide +kernel)⟩
theorem lw_p14 : lw_okq (⟨"BentPlain", "bookFinding", "(II)I"⟩, 13) := ⟨⟨by decide +kernel, by decide +kernel⟩, List.mem_of_getElem? (i := 18) (by decide +kernel), List.mem_of_getElem? (i := 733) (by decide +kernel), List.mem_of_getElem? (i := 734) (by decide +kernel)⟩
theorem lw_p15 : lw_okq (⟨"BentPlain", "goesByBook", "(LBentPlain$Sheet;)Z"⟩, 13) := ⟨⟨by decide +kernel, by decide +kernel⟩, List.mem_of_getElem? (i := 18) (by decide +kernel), List.mem_of_getElem? (i := 741) (by decide +kernel), List.mem_of_getElem? (i := 742) (by decide +kernel)⟩
def lw_privs_1 : List (MethodName × Nat) := [(⟨"BentPlain", "tell", "(I)I"⟩, 13), (⟨"BentPlain", "numberOrNone", "(I)I"⟩, 13), (⟨"BentPlain", "reached", "(I)I"⟩, 13), (⟨"BentPlain", "least", "(IIZ)I"⟩, 13), (⟨"BentPlain", "farThrough", "(II)I"⟩, 13), (⟨"BentPlain$Teller", "tellItem", "()Z"⟩, 2), (⟨"BentPlain$Teller", "tellField", "()Z"⟩, 2), (⟨"BentPlain$Teller", "tellGlue", "()Z"⟩, 2), (⟨"BentPlain$Teller", "lookAtSide", "()I"⟩, 2), (⟨"BentPlain$Teller", "sideNamed", "()I"⟩, 2), (⟨"BentPlain$Teller", "tellCut", "()Z"⟩, 2), (⟨"BentPlain$Teller", "tellWalker", "()Z"⟩, 2), (⟨"BentPlain$Teller", "kindNamed", "()I"⟩, 2), (⟨"BentPlain", "sheetFinding", "(I)I"⟩, 13), (⟨"BentPlain", "bookFinding", "(II)I"⟩, 13), (⟨"BentPlain", "goesByBook", "(LBentPlain$Sheet;)Z"⟩, 13)]
theorem lw_r1 : ∀ q ∈ lw_privs_1, lw_okq q := List.forall_mem_cons.mpr ⟨lw_p0, List.forall_mem_cons.mpr ⟨lw_p1, List.forall_mem_cons.mpr ⟨lw_p2, List.forall_mem_cons.mpr ⟨lw_p3, List.forall_mem_cons.mpr ⟨lw_p4, List.forall_mem_cons.mpr ⟨lw_p5, List.forall_mem_cons.mpr ⟨lw_p6, List.forall_mem_cons.mpr ⟨lw_p7, List.forall_mem_cons.mpr ⟨lw_p8, List.forall_mem_cons.mpr ⟨lw_p9, List.forall_mem_cons.mpr ⟨lw_p10, List.forall_mem_cons.mpr ⟨lw_p11, List.forall_mem_cons.mpr ⟨lw_p12, List.forall_mem_cons.mpr ⟨lw_p13, List.forall_mem_cons.mpr ⟨lw_p14, List.forall_mem_cons.mpr ⟨lw_p15, fun _ h => absurd h List.not_mem_nil⟩⟩⟩⟩⟩⟩⟩⟩⟩⟩⟩⟩⟩⟩⟩⟩
theorem lw_p16 : lw_okq (⟨"BentPlainModel", "finds", "(I)I"⟩, 17) := ⟨⟨by decide +kernel, by decide +kernel⟩, List.mem_of_getElem? (i := 769) (by decide +kernel), List.mem_of_getElem? (i := 836) (by decide +kernel), List.mem_of_getElem? (i := 837) (by decide +kernel)⟩
theorem lw_p17 : lw_okq (⟨"BentPlainModel", "adds", "(I)I"⟩, 17) := ⟨⟨by decide +kernel, by decide +kernel⟩, List.mem_of_getElem? (i := 769) (by decide +kernel), List.mem_of_getElem? (i := 841) (by decide +kernel), List.mem_of_getElem? (i := 842) (by decide +kernel)⟩
theorem lw_p18 : lw_okq (⟨"BentPlainModel", "isField", "(I)Z"⟩, 17) := ⟨⟨by decide +kernel, by decide +kernel⟩, List.mem_of_getElem? (i := 769) (by decide +kernel), List.mem_of_getElem? (i := 849) (by decide +kernel), List.mem_of_getElem? (i := 850) (by decide +kernel)⟩
theorem lw_p19 : lw_okq (⟨"BentPlainModel", "gluedOf", "(I)I"⟩, 17) := ⟨⟨by decide +kernel, by decide +kernel⟩, List.mem_of_getElem? (i := 769) (by decide +kernel), List.mem_of_getElem? (i := 854) (by decide +kernel), List.mem_of_getElem? (i := 855) (by decide +kernel)⟩
theorem lw_p20 : lw_okq (⟨"BentPlainModel", "those", "(I)I"⟩, 17) := ⟨⟨by decide +kernel, by decide +kernel⟩, List.mem_of_getElem? (i := 769) (by decide +kernel), List.mem_of_getElem? (i := 858) (by decide +kernel), List.mem_of_getElem? (i := 859) (by decide +kernel)⟩
theorem lw_p21 : lw_okq (⟨"BentPlainModel", "partOf", "(II)I"⟩, 17) := ⟨⟨by decide +kernel, by decide +kernel⟩, List.mem_of_getElem? (i := 769) (by decide +kernel), List.mem_of_getElem? (i := 862) (by decide +kernel), List.mem_of_getElem? (i := 863) (by decide +kernel)⟩
theorem lw_p22 : lw_okq (⟨"BentPlainModel", "becomes", "(II)I"⟩, 17) := ⟨⟨by decide +kernel, by decide +kernel⟩, List.mem_of_getElem? (i := 769) (by decide +kernel), List.mem_of_getElem? (i := 873) (by decide +kernel), List.mem_of_getElem? (i := 874) (by decide +kernel)⟩
theorem lw_p23 : lw_okq (⟨"BentPlainModel", "isWay", "(II)Z"⟩, 17) := ⟨⟨by decide +kernel, by decide +kernel⟩, List.mem_of_getElem? (i := 769) (by decide +kernel), List.mem_of_getElem? (i := 881) (by decide +kernel), List.mem_of_getElem? (i := 882) (by decide +kernel)⟩
theorem lw_p24 : lw_okq (⟨"BentPlainModel", "glues", "(II)V"⟩, 17) := ⟨⟨by decide +kernel, by decide +kernel⟩, List.mem_of_getElem? (i := 769) (by decide +kernel), List.mem_of_getElem? (i := 890) (by decide +kernel), List.mem_of_getElem? (i := 891) (by decide +kernel)⟩
theorem lw_p25 : lw_okq (⟨"BentPlainModel", "cuts", "(I)V"⟩, 17) := ⟨⟨by decide +kernel, by decide +kernel⟩, List.mem_of_getElem? (i := 769) (by decide +kernel), List.mem_of_getElem? (i := 898) (by decide +kernel), List.mem_of_getElem? (i := 899) (by decide +kernel)⟩
theorem lw_p26 : lw_okq (⟨"BentPlainModel", "comes", "(III)I"⟩, 17) := ⟨⟨by decide +kernel, by decide +kernel⟩, List.mem_of_getElem? (i := 769) (by decide +kernel), List.mem_of_getElem? (i := 915) (by decide +kernel), List.mem_of_getElem? (i := 916) (by decide +kernel)⟩
theorem lw_p27 : lw_okq (⟨"BentPlainModel", "isWalker", "(I)Z"⟩, 17) := ⟨⟨by decide +kernel, by decide +kernel⟩, List.mem_of_getElem? (i := 769) (by decide +kernel), List.mem_of_getElem? (i := 923) (by decide +kernel), List.mem_of_getElem? (i := 924) (by decide +kernel)⟩
theorem lw_p28 : lw_okq (⟨"BentPlainModel", "wayOf", "(I)I"⟩, 17) := ⟨⟨by decide +kernel, by decide +kernel⟩, List.mem_of_getElem? (i := 769) (by decide +kernel), List.mem_of_getElem? (i := 934) (by decide +kernel), List.mem_of_getElem? (i := 935) (by decide +kernel)⟩
theorem lw_p29 : lw_okq (⟨"BentPlainModel", "stands", "(II)V"⟩, 17) := ⟨⟨by decide +kernel, by decide +kernel⟩, List.mem_of_getElem? (i := 769) (by decide +kernel), List.mem_of_getElem? (i := 938) (by decide +kernel), List.mem_of_getElem? (i := 939) (by decide +kernel)⟩
theorem lw_p30 : lw_okq (⟨"BentPlainModel", "goes", "(I)V"⟩, 17) := ⟨⟨by decide +kernel, by decide +kernel⟩, List.mem_of_getElem? (i := 769) (by decide +kernel), List.mem_of_getElem? (i := 958) (by decide +kernel), List.mem_of_getElem? (i := 959) (by decide +kernel)⟩
theorem lw_p31 : lw_okq (⟨"BentPlainModel", "onward", "(I)I"⟩, 17) := ⟨⟨by decide +kernel, by decide +kernel⟩, List.mem_of_getElem? (i := 769) (by decide +kernel), List.mem_of_getElem? (i := 962) (by decide +kernel), List.mem_of_getElem? (i := 963) (by decide +kernel)⟩
def lw_privs_2 : List (MethodName × Nat) := [(⟨"BentPlainModel", "finds", "(I)I"⟩, 17), (⟨"BentPlainModel", "adds", "(I)I"⟩, 17), (⟨"BentPlainModel", "isField", "(I)Z"⟩, 17), (⟨"BentPlainModel", "gluedOf", "(I)I"⟩, 17), (⟨"BentPlainModel", "those", "(I)I"⟩, 17), (⟨"BentPlainModel", "partOf", "(II)I"⟩, 17), (⟨"BentPlainModel", "becomes", "(II)I"⟩, 17), (⟨"BentPlainModel", "isWay", "(II)Z"⟩, 17), (⟨"BentPlainModel", "glues", "(II)V"⟩, 17), (⟨"BentPlainModel", "cuts", "(I)V"⟩, 17), (⟨"BentPlainModel", "comes", "(III)I"⟩, 17), (⟨"BentPlainModel", "isWalker", "(I)Z"⟩, 17), (⟨"BentPlainModel", "wayOf", "(I)I"⟩, 17), (⟨"BentPlainModel", "stands", "(II)V"⟩, 17), (⟨"BentPlainModel", "goes", "(I)V"⟩, 17), (⟨"BentPlainModel", "onward", "(I)I"⟩, 17)]
theorem lw_r2 : ∀ q ∈ lw_privs_2, lw_okq q := List.forall_mem_cons.mpr ⟨lw_p16, List.forall_mem_cons.mpr ⟨lw_p17, List.forall_mem_cons.mpr ⟨lw_p18, List.forall_mem_cons.mpr ⟨lw_p19, List.forall_mem_cons.mpr ⟨lw_p20, List.forall_mem_cons.mpr ⟨lw_p21, List.forall_mem_cons.mpr ⟨lw_p22, List.forall_mem_cons.mpr ⟨lw_p23, List.forall_mem_cons.mpr ⟨lw_p24, List.forall_mem_cons.mpr ⟨lw_p25, List.forall_mem_cons.mpr ⟨lw_p26, List.forall_mem_cons.mpr ⟨lw_p27, List.forall_mem_cons.mpr ⟨lw_p28, List.forall_mem_cons.mpr ⟨lw_p29, List.forall_mem_cons.mpr ⟨lw_p30, List.forall_mem_cons.mpr ⟨lw_p31, fun _ h => absurd h List.not_mem_nil⟩⟩⟩⟩⟩⟩⟩⟩⟩⟩⟩⟩⟩⟩⟩⟩
theorem lw_p32 : lw_okq (⟨"BentPlainModel", "all", "()V"⟩, 17) := ⟨⟨by decide +kernel, by decide +kernel⟩, List.mem_of_getElem? (i := 769) (by decide +kernel), List.mem_of_getElem? (i := 977) (by decide +kernel), List.mem_of_getElem? (i := 978) (by decide +kernel)⟩
theorem lw_p33 : lw_okq (⟨"BentPlainModel", "allMiles", "()I"⟩, 17) := ⟨⟨by decide +kernel, by decide +kernel⟩, List.mem_of_getElem? (i := 769) (by decide +kernel), List.mem_of_getElem? (i := 981) (by decide +kernel), List.mem_of_getElem? (i := 982) (by decide +kernel)⟩
theorem lw_p34 : lw_okq (⟨"BentPlainModel", "laysAside", "()V"⟩, 17) := ⟨⟨by decide +kernel, by decide +kernel⟩, List.mem_of_getElem? (i := 769) (by decide +kernel), List.mem_of_getElem? (i := 989) (by decide +kernel), List.mem_of_getElem? (i := 990) (by decide +kernel)⟩
theorem lw_p35 : lw_okq (⟨"BentPlainModel", "takesBack", "(I)I"⟩, 17) := ⟨⟨by decide +kernel, by decide +kernel⟩, List.mem_of_getElem? (i := 769) (by decide +kernel), List.mem_of_getElem? (i := 993) (by decide +kernel), List.mem_of_getElem? (i := 994) (by decide +kernel)⟩
theorem lw_p36 : lw_okq (⟨"BentPlainModel", "orNone", "(II)I"⟩, 17) := ⟨⟨by decide +kernel, by decide +kernel⟩, List.mem_of_getElem? (i := 769) (by decide +kernel), List.mem_of_getElem? (i := 1001) (by decide +kernel), List.mem_of_getElem? (i := 1002) (by decide +kernel)⟩
theorem lw_p37 : lw_okq (⟨"BentPlainModel", "seen", "(I)I"⟩, 17) := ⟨⟨by decide +kernel, by decide +kernel⟩, List.mem_of_getElem? (i := 769) (by decide +kernel), List.mem_of_getElem? (i := 1037) (by decide +kernel), List.mem_of_getElem? (i := 1038) (by decide +kernel)⟩
theorem lw_p38 : lw_okq (⟨"BentPlainModel", "aboutOf", "(I)I"⟩, 17) := ⟨⟨by decide +kernel, by decide +kernel⟩, List.mem_of_getElem? (i := 769) (by decide +kernel), List.mem_of_getElem? (i := 1052) (by decide +kernel), List.mem_of_getElem? (i := 1053) (by decide +kernel)⟩
theorem lw_p39 : lw_okq (⟨"BentPlainModel", "beside", "(I)I"⟩, 17) := ⟨⟨by decide +kernel, by decide +kernel⟩, List.mem_of_getElem? (i := 769) (by decide +kernel), List.mem_of_getElem? (i := 1056) (by decide +kernel), List.mem_of_getElem? (i := 1057) (by decide +kernel)⟩
theorem lw_p40 : lw_okq (⟨"BentPlainModel", "isFirst", "(I)Z"⟩, 17) := ⟨⟨by decide +kernel, by decide +kernel⟩, List.mem_of_getElem? (i := 769) (by decide +kernel), List.mem_of_getElem? (i := 1064) (by decide +kernel), List.mem_of_getElem? (i := 1065) (by decide +kernel)⟩
theorem lw_p41 : lw_okq (⟨"BentPlainModel", "spread", "(I)I"⟩, 17) := ⟨⟨by decide +kernel, by decide +kernel⟩, List.mem_of_getElem? (i := 769) (by decide +kernel), List.mem_of_getElem? (i := 1080) (by decide +kernel), List.mem_of_getElem? (i := 1081) (by decide +kernel)⟩
theorem lw_p42 : lw_okq (⟨"BentPlainModel", "farOf", "(II)I"⟩, 17) := ⟨⟨by decide +kernel, by decide +kernel⟩, List.mem_of_getElem? (i := 769) (by decide +kernel), List.mem_of_getElem? (i := 1088) (by decide +kernel), List.mem_of_getElem? (i := 1089) (by decide +kernel)⟩
theorem lw_p43 : lw_okq (⟨"BentPlainModel", "saves", "()V"⟩, 17) := ⟨⟨by decide +kernel, by decide +kernel⟩, List.mem_of_getElem? (i := 769) (by decide +kernel), List.mem_of_getElem? (i := 1124) (by decide +kernel), List.mem_of_getElem? (i := 1125) (by decide +kernel)⟩
theorem lw_p44 : lw_okq (⟨"BentPlainModel", "token", "()V"⟩, 17) := ⟨⟨by decide +kernel, by decide +kernel⟩, List.mem_of_getElem? (i := 769) (by decide +kernel), List.mem_of_getElem? (i := 1128) (by decide +kernel), List.mem_of_getElem? (i := 1129) (by decide +kernel)⟩
theorem lw_p45 : lw_okq (⟨"BentPlainModel", "byteAt", "(I)I"⟩, 17) := ⟨⟨by decide +kernel, by decide +kernel⟩, List.mem_of_getElem? (i := 769) (by decide +kernel), List.mem_of_getElem? (i := 1132) (by decide +kernel), List.mem_of_getElem? (i := 1133) (by decide +kernel)⟩
theorem lw_p46 : lw_okq (⟨"BentPlainModel", "item", "()V"⟩, 17) := ⟨⟨by decide +kernel, by decide +kernel⟩, List.mem_of_getElem? (i := 769) (by decide +kernel), List.mem_of_getElem? (i := 1146) (by decide +kernel), List.mem_of_getElem? (i := 1147) (by decide +kernel)⟩
theorem lw_p47 : lw_okq (⟨"BentPlainModel", "kindHere", "()I"⟩, 17) := ⟨⟨by decide +kernel, by decide +kernel⟩, List.mem_of_getElem? (i := 769) (by decide +kernel), List.mem_of_getElem? (i := 1150) (by decide +kernel), List.mem_of_getElem? (i := 1151) (by decide +kernel)⟩
def lw_privs_3 : List (MethodName × Nat) := [(⟨"BentPlainModel", "all", "()V"⟩, 17), (⟨"BentPlainModel", "allMiles", "()I"⟩, 17), (⟨"BentPlainModel", "laysAside", "()V"⟩, 17), (⟨"BentPlainModel", "takesBack", "(I)I"⟩, 17), (⟨"BentPlainModel", "orNone", "(II)I"⟩, 17), (⟨"BentPlainModel", "seen", "(I)I"⟩, 17), (⟨"BentPlainModel", "aboutOf", "(I)I"⟩, 17), (⟨"BentPlainModel", "beside", "(I)I"⟩, 17), (⟨"BentPlainModel", "isFirst", "(I)Z"⟩, 17), (⟨"BentPlainModel", "spread", "(I)I"⟩, 17), (⟨"BentPlainModel", "farOf", "(II)I"⟩, 17), (⟨"BentPlainModel", "saves", "()V"⟩, 17), (⟨"BentPlainModel", "token", "()V"⟩, 17), (⟨"BentPlainModel", "byteAt", "(I)I"⟩, 17), (⟨"BentPlainModel", "item", "()V"⟩, 17), (⟨"BentPlainModel", "kindHere", "()I"⟩, 17)]
theorem lw_r3 : ∀ q ∈ lw_privs_3, lw_okq q := List.forall_mem_cons.mpr ⟨lw_p32, List.forall_mem_cons.mpr ⟨lw_p33, List.forall_mem_cons.mpr ⟨lw_p34, List.forall_mem_cons.mpr ⟨lw_p35, List.forall_mem_cons.mpr ⟨lw_p36, List.forall_mem_cons.mpr ⟨lw_p37, List.forall_mem_cons.mpr ⟨lw_p38, List.forall_mem_cons.mpr ⟨lw_p39, List.forall_mem_cons.mpr ⟨lw_p40, List.forall_mem_cons.mpr ⟨lw_p41, List.forall_mem_cons.mpr ⟨lw_p42, List.forall_mem_cons.mpr ⟨lw_p43, List.forall_mem_cons.mpr ⟨lw_p44, List.forall_mem_cons.mpr ⟨lw_p45, List.forall_mem_cons.mpr ⟨lw_p46, List.forall_mem_cons.mpr ⟨lw_p47, fun _ h => absurd h List.not_mem_nil⟩⟩⟩⟩⟩⟩⟩⟩⟩⟩⟩⟩⟩⟩⟩⟩
theorem lw_p48 : lw_okq (⟨"BentPlainModel", "word", "()J"⟩, 17) := ⟨⟨by decide +kernel, by decide +kernel⟩, List.mem_of_getElem? (i := 769) (by decide +kernel), List.mem_of_getElem? (i := 1154) (by decide +kernel), List.mem_of_getElem? (i := 1155) (by decide +kernel)⟩
theorem lw_p49 : lw_okq (⟨"BentPlainModel", "walkerItem", "(I)V"⟩, 17) := ⟨⟨by decide +kernel, by decide +kernel⟩, List.mem_of_getElem? (i := 769) (by decide +kernel), List.mem_of_getElem? (i := 1166) (by decide +kernel), List.mem_of_getElem? (i := 1167) (by decide +kernel)⟩
theorem lw_p50 : lw_okq (⟨"BentPlainModel", "wants", "(Z)V"⟩, 17) := ⟨⟨by decide +kernel, by decide +kernel⟩, List.mem_of_getElem? (i := 769) (by decide +kernel), List.mem_of_getElem? (i := 1170) (by decide +kernel), List.mem_of_getElem? (i := 1171) (by decide +kernel)⟩
theorem lw_p51 : lw_okq (⟨"BentPlainModel", "fieldHere", "()V"⟩, 17) := ⟨⟨by decide +kernel, by decide +kernel⟩, List.mem_of_getElem? (i := 769) (by decide +kernel), List.mem_of_getElem? (i := 1175) (by decide +kernel), List.mem_of_getElem? (i := 1176) (by decide +kernel)⟩
theorem lw_p52 : lw_okq (⟨"BentPlainModel", "number", "(II)V"⟩, 17) := ⟨⟨by decide +kernel, by decide +kernel⟩, List.mem_of_getElem? (i := 769) (by decide +kernel), List.mem_of_getElem? (i := 1179) (by decide +kernel), List.mem_of_getElem? (i := 1180) (by decide +kernel)⟩
theorem lw_p53 : lw_okq (⟨"BentPlainModel", "sideNamed", "()I"⟩, 17) := ⟨⟨by decide +kernel, by decide +kernel⟩, List.mem_of_getElem? (i := 769) (by decide +kernel), List.mem_of_getElem? (i := 1183) (by decide +kernel), List.mem_of_getElem? (i := 1184) (by decide +kernel)⟩
theorem lw_p54 : lw_okq (⟨"BentPlainModel", "fieldItem", "()V"⟩, 17) := ⟨⟨by decide +kernel, by decide +kernel⟩, List.mem_of_getElem? (i := 769) (by decide +kernel), List.mem_of_getElem? (i := 1192) (by decide +kernel), List.mem_of_getElem? (i := 1193) (by decide +kernel)⟩
theorem lw_p55 : lw_okq (⟨"BentPlainModel", "glueItem", "()V"⟩, 17) := ⟨⟨by decide +kernel, by decide +kernel⟩, List.mem_of_getElem? (i := 769) (by decide +kernel), List.mem_of_getElem? (i := 1198) (by decide +kernel), List.mem_of_getElem? (i := 1199) (by decide +kernel)⟩
theorem lw_p56 : lw_okq (⟨"BentPlainModel", "sideHere", "(IZI)I"⟩, 17) := ⟨⟨by decide +kernel, by decide +kernel⟩, List.mem_of_getElem? (i := 769) (by decide +kernel), List.mem_of_getElem? (i := 1202) (by decide +kernel), List.mem_of_getElem? (i := 1203) (by decide +kernel)⟩
theorem lw_p57 : lw_okq (⟨"BentPlainModel", "cutItem", "()V"⟩, 17) := ⟨⟨by decide +kernel, by decide +kernel⟩, List.mem_of_getElem? (i := 769) (by decide +kernel), List.mem_of_getElem? (i := 1207) (by decide +kernel), List.mem_of_getElem? (i := 1208) (by decide +kernel)⟩
theorem lw_p58 : lw_okq (⟨"BentPlainModel", "putsBack", "()V"⟩, 17) := ⟨⟨by decide +kernel, by decide +kernel⟩, List.mem_of_getElem? (i := 769) (by decide +kernel), List.mem_of_getElem? (i := 1211) (by decide +kernel), List.mem_of_getElem? (i := 1212) (by decide +kernel)⟩
theorem lw_p59 : lw_okq (⟨"BentPlainModel", "wrong", "(I)I"⟩, 17) := ⟨⟨by decide +kernel, by decide +kernel⟩, List.mem_of_getElem? (i := 769) (by decide +kernel), List.mem_of_getElem? (i := 1227) (by decide +kernel), List.mem_of_getElem? (i := 1228) (by decide +kernel)⟩
theorem lw_p60 : lw_okq (⟨"BentPlainModel", "wrongBook", "(II)I"⟩, 17) := ⟨⟨by decide +kernel, by decide +kernel⟩, List.mem_of_getElem? (i := 769) (by decide +kernel), List.mem_of_getElem? (i := 1247) (by decide +kernel), List.mem_of_getElem? (i := 1248) (by decide +kernel)⟩
theorem lw_p61 : lw_okq (⟨"BentPlainModel", "isSo", "(II)I"⟩, 17) := ⟨⟨by decide +kernel, by decide +kernel⟩, List.mem_of_getElem? (i := 769) (by decide +kernel), List.mem_of_getElem? (i := 1255) (by decide +kernel), List.mem_of_getElem? (i := 1256) (by decide +kernel)⟩
theorem lw_p62 : lw_okq (⟨"BentPlainModel", "gluedSides", "()I"⟩, 17) := ⟨⟨by decide +kernel, by decide +kernel⟩, List.mem_of_getElem? (i := 769) (by decide +kernel), List.mem_of_getElem? (i := 1275) (by decide +kernel), List.mem_of_getElem? (i := 1276) (by decide +kernel)⟩
def lw_privs_4 : List (MethodName × Nat) := [(⟨"BentPlainModel", "word", "()J"⟩, 17), (⟨"BentPlainModel", "walkerItem", "(I)V"⟩, 17), (⟨"BentPlainModel", "wants", "(Z)V"⟩, 17), (⟨"BentPlainModel", "fieldHere", "()V"⟩, 17), (⟨"BentPlainModel", "number", "(II)V"⟩, 17), (⟨"BentPlainModel", "sideNamed", "()I"⟩, 17), (⟨"BentPlainModel", "fieldItem", "()V"⟩, 17), (⟨"BentPlainModel", "glueItem", "()V"⟩, 17), (⟨"BentPlainModel", "sideHere", "(IZI)I"⟩, 17), (⟨"BentPlainModel", "cutItem", "()V"⟩, 17), (⟨"BentPlainModel", "putsBack", "()V"⟩, 17), (⟨"BentPlainModel", "wrong", "(I)I"⟩, 17), (⟨"BentPlainModel", "wrongBook", "(II)I"⟩, 17), (⟨"BentPlainModel", "isSo", "(II)I"⟩, 17), (⟨"BentPlainModel", "gluedSides", "()I"⟩, 17)]
theorem lw_r4 : ∀ q ∈ lw_privs_4, lw_okq q := List.forall_mem_cons.mpr ⟨lw_p48, List.forall_mem_cons.mpr ⟨lw_p49, List.forall_mem_cons.mpr ⟨lw_p50, List.forall_mem_cons.mpr ⟨lw_p51, List.forall_mem_cons.mpr ⟨lw_p52, List.forall_mem_cons.mpr ⟨lw_p53, List.forall_mem_cons.mpr ⟨lw_p54, List.forall_mem_cons.mpr ⟨lw_p55, List.forall_mem_cons.mpr ⟨lw_p56, List.forall_mem_cons.mpr ⟨lw_p57, List.forall_mem_cons.mpr ⟨lw_p58, List.forall_mem_cons.mpr ⟨lw_p59, List.forall_mem_cons.mpr ⟨lw_p60, List.forall_mem_cons.mpr ⟨lw_p61, List.forall_mem_cons.mpr ⟨lw_p62, fun _ h => absurd h List.not_mem_nil⟩⟩⟩⟩⟩⟩⟩⟩⟩⟩⟩⟩⟩⟩⟩
def lw_privs : List (MethodName × Nat) := lw_privs_1 ++ (lw_privs_2 ++ (lw_privs_3 ++ (lw_privs_4)))
def lw_tbl : List Cond := k2_sels lw_privs ++ tables_1
theorem lw_privs_ok : ∀ q ∈ lw_privs, lw_okq q := by
  show ∀ q ∈ lw_privs_1 ++ (lw_privs_2 ++ (lw_privs_3 ++ (lw_privs_4))), lw_okq q
  exact List.forall_mem_append.mpr ⟨lw_r1, List.forall_mem_append.mpr ⟨lw_r2, List.forall_mem_append.mpr ⟨lw_r3, lw_r4⟩⟩⟩
def RX0 : String := "BentPlain$Ground"
def TX0 : u_T := fun k => match k with
  | 0 => ("BentPlain$Ground", "fields", "I", false)
  | 1 => ("BentPlain$Ground", "walkers", "I", false)
  | 2 => ("BentPlain$Ground", "people", "[LBentPlain$Walker;", true)
  | 3 => ("BentPlain$Ground", "roughs", "[I", true)
  | _ => ("BentPlain$Ground", "glued", "[I", true)
def tyX0 : Nat → FieldType := fun k => match k with
  | 0 => .int
  | 1 => .int
  | 2 => .array (.object "BentPlain$Walker")
  | 3 => .array .int
  | _ => .array .int
theorem nmX0 : ∀ a, a < 5 → ∀ b, b < 5 → a ≠ b → (TX0 a).2.1 ≠ (TX0 b).2.1 := by decide +kernel
theorem tyX0_ok : ∀ k, k < 5 → parseFieldDescriptor (TX0 k).2.2.1 = some (tyX0 k) := by decide +kernel
abbrev cX0_init : ByteArray := prog_2_method_1_code
def yX0_init : MethodName := ⟨RX0, "<init>", "()V"⟩
abbrev cX0_become : ByteArray := prog_2_method_2_code
def yX0_become : MethodName := ⟨RX0, "become", "(LBentPlain$Ground;)V"⟩
abbrev cX0_hasField : ByteArray := prog_2_method_3_code
def yX0_hasField : MethodName := ⟨RX0, "hasField", "(I)Z"⟩
abbrev cX0_hasWay : ByteArray := prog_2_method_4_code
def yX0_hasWay : MethodName := ⟨RX0, "hasWay", "(II)Z"⟩
abbrev cX0_hasWalker : ByteArray := prog_2_method_5_code
def yX0_hasWalker : MethodName := ⟨RX0, "hasWalker", "(I)Z"⟩
abbrev cX0_ways : ByteArray := prog_2_method_6_code
def yX0_ways : MethodName := ⟨RX0, "ways", "()I"⟩
abbrev cX0_addField : ByteArray := prog_2_method_7_code
def yX0_addField : MethodName := ⟨RX0, "addField", "(I)I"⟩
abbrev cX0_addWalker : ByteArray := prog_2_method_8_code
def yX0_addWalker : MethodName := ⟨RX0, "addWalker", "(II)I"⟩
abbrev cX0_roughOf : ByteArray := prog_2_method_9_code
def yX0_roughOf : MethodName := ⟨RX0, "roughOf", "(I)I"⟩
abbrev cX0_makeRough : ByteArray := prog_2_method_10_code
def yX0_makeRough : MethodName := ⟨RX0, "makeRough", "(II)V"⟩
abbrev cX0_gluedTo : ByteArray := prog_2_method_11_code
def yX0_gluedTo : MethodName := ⟨RX0, "gluedTo", "(I)I"⟩
abbrev cX0_isFree : ByteArray := prog_2_method_12_code
def yX0_isFree : MethodName := ⟨RX0, "isFree", "(I)Z"⟩
abbrev cX0_join : ByteArray := prog_2_method_13_code
def yX0_join : MethodName := ⟨RX0, "join", "(II)V"⟩
abbrev cX0_sever : ByteArray := prog_2_method_14_code
def yX0_sever : MethodName := ⟨RX0, "sever", "(I)V"⟩
abbrev cX0_gluedSidesOf : ByteArray := prog_2_method_15_code
def yX0_gluedSidesOf : MethodName := ⟨RX0, "gluedSidesOf", "(I)I"⟩
abbrev cX0_gluedSides : ByteArray := prog_2_method_16_code
def yX0_gluedSides : MethodName := ⟨RX0, "gluedSides", "()I"⟩
abbrev cX0_walkersOn : ByteArray := prog_2_method_17_code
def yX0_walkersOn : MethodName := ⟨RX0, "walkersOn", "(I)I"⟩
abbrev cX0_milesOfAll : ByteArray := prog_2_method_18_code
def yX0_milesOfAll : MethodName := ⟨RX0, "milesOfAll", "()I"⟩
abbrev cX0_goOn : ByteArray := prog_2_method_19_code
def yX0_goOn : MethodName := ⟨RX0, "goOn", "(I)I"⟩
abbrev cX0_goOnOften : ByteArray := prog_2_method_20_code
def yX0_goOnOften : MethodName := ⟨RX0, "goOnOften", "(II)I"⟩
abbrev cX0_seenFrom : ByteArray := prog_2_method_21_code
def yX0_seenFrom : MethodName := ⟨RX0, "seenFrom", "(I)I"⟩
abbrev cX0_roundCorner : ByteArray := prog_2_method_22_code
def yX0_roundCorner : MethodName := ⟨RX0, "roundCorner", "(I)J"⟩
abbrev cX0_sumOfCorners : ByteArray := prog_2_method_23_code
def yX0_sumOfCorners : MethodName := ⟨RX0, "sumOfCorners", "(II)I"⟩
abbrev cX0_spread : ByteArray := prog_2_method_24_code
def yX0_spread : MethodName := ⟨RX0, "spread", "([IIZ)V"⟩
abbrev cX0_spreadTurning : ByteArray := prog_2_method_25_code
def yX0_spreadTurning : MethodName := ⟨RX0, "spreadTurning", "([II)V"⟩
abbrev cX0_lower : ByteArray := prog_2_method_26_code
def yX0_lower : MethodName := ⟨RX0, "lower", "([III)Z"⟩
def RX1 : String := "BentPlain$Sheet"
def TX1 : u_T := fun k => match k with
  | 0 => ("BentPlain$Sheet", "bits", "I", false)
  | 1 => ("BentPlain$Sheet", "size", "I", false)
  | _ => ("BentPlain$Sheet", "numbers", "[J", true)
def tyX1 : Nat → FieldType := fun k => match k with
  | 0 => .int
  | 1 => .int
  | _ => .array .long
theorem nmX1 : ∀ a, a < 3 → ∀ b, b < 3 → a ≠ b → (TX1 a).2.1 ≠ (TX1 b).2.1 := by decide +kernel
theorem tyX1_ok : ∀ k, k < 3 → parseFieldDescriptor (TX1 k).2.2.1 = some (tyX1 k) := by decide +kernel
abbrev cX1_init : ByteArray := prog_3_method_1_code
def yX1_init : MethodName := ⟨RX1, "<init>", "()V"⟩
abbrev cX1_begin : ByteArray := prog_3_method_2_code
def yX1_begin : MethodName := ⟨RX1, "begin", "(II)V"⟩
abbrev cX1_hasRow : ByteArray := prog_3_method_3_code
def yX1_hasRow : MethodName := ⟨RX1, "hasRow", "(II)Z"⟩
abbrev cX1_lowestBits : ByteArray := prog_3_method_4_code
def yX1_lowestBits : MethodName := ⟨RX1, "lowestBits", "(J)J"⟩
def RX2 : String := "BentPlain$Tape"
def TX2 : u_T := fun k => match k with
  | 0 => ("BentPlain$Tape", "length", "I", false)
  | 1 => ("BentPlain$Tape", "sort", "I", false)
  | 2 => ("BentPlain$Tape", "start", "I", false)
  | 3 => ("BentPlain$Tape", "number", "I", false)
  | 4 => ("BentPlain$Tape", "end", "I", false)
  | _ => ("BentPlain$Tape", "bytes", "[I", true)
def tyX2 : Nat → FieldType := fun k => match k with
  | 0 => .int
  | 1 => .int
  | 2 => .int
  | 3 => .int
  | 4 => .int
  | _ => .array .int
theorem nmX2 : ∀ a, a < 6 → ∀ b, b < 6 → a ≠ b → (TX2 a).2.1 ≠ (TX2 b).2.1 := by decide +kernel
theorem tyX2_ok : ∀ k, k < 6 → parseFieldDescriptor (TX2 k).2.2.1 = some (tyX2 k) := by decide +kernel
abbrev cX2_init : ByteArray := prog_4_method_1_code
def yX2_init : MethodName := ⟨RX2, "<init>", "()V"⟩
abbrev cX2_add : ByteArray := prog_4_method_2_code
def yX2_add : MethodName := ⟨RX2, "add", "(I)V"⟩
abbrev cX2_begin : ByteArray := prog_4_method_3_code
def yX2_begin : MethodName := ⟨RX2, "begin", "()V"⟩
abbrev cX2_advance : ByteArray := prog_4_method_4_code
def yX2_advance : MethodName := ⟨RX2, "advance", "()V"⟩
abbrev cX2_isNumberBelow : ByteArray := prog_4_method_5_code
def yX2_isNumberBelow : MethodName := ⟨RX2, "isNumberBelow", "(I)Z"⟩
abbrev cX2_isWord : ByteArray := prog_4_method_6_code
def yX2_isWord : MethodName := ⟨RX2, "isWord", "(Ljava/lang/String;)Z"⟩
abbrev cX2_isLetter : ByteArray := prog_4_method_7_code
def yX2_isLetter : MethodName := ⟨RX2, "isLetter", "(I)Z"⟩
abbrev cX2_isDigit : ByteArray := prog_4_method_8_code
def yX2_isDigit : MethodName := ⟨RX2, "isDigit", "(I)Z"⟩
def RX3 : String := "BentPlain$Teller"
def TX3 : u_T := fun k => match k with
  | 0 => ("BentPlain$Teller", "tape", "LBentPlain$Tape;", true)
  | _ => ("BentPlain$Teller", "ground", "LBentPlain$Ground;", true)
def tyX3 : Nat → FieldType := fun k => match k with
  | 0 => .object "BentPlain$Tape"
  | _ => .object "BentPlain$Ground"
theorem nmX3 : ∀ a, a < 2 → ∀ b, b < 2 → a ≠ b → (TX3 a).2.1 ≠ (TX3 b).2.1 := by decide +kernel
theorem tyX3_ok : ∀ k, k < 2 → parseFieldDescriptor (TX3 k).2.2.1 = some (tyX3 k) := by decide +kernel
abbrev cX3_init : ByteArray := prog_5_method_1_code
def yX3_init : MethodName := ⟨RX3, "<init>", "(LBentPlain$Tape;LBentPlain$Ground;)V"⟩
abbrev cX3_tellAll : ByteArray := prog_5_method_2_code
def yX3_tellAll : MethodName := ⟨RX3, "tellAll", "()I"⟩
abbrev cX3_tellItem : ByteArray := prog_5_method_3_code
def yX3_tellItem : MethodName := ⟨RX3, "tellItem", "()Z"⟩
abbrev cX3_tellField : ByteArray := prog_5_method_4_code
def yX3_tellField : MethodName := ⟨RX3, "tellField", "()Z"⟩
abbrev cX3_tellGlue : ByteArray := prog_5_method_5_code
def yX3_tellGlue : MethodName := ⟨RX3, "tellGlue", "()Z"⟩
abbrev cX3_tellCut : ByteArray := prog_5_method_6_code
def yX3_tellCut : MethodName := ⟨RX3, "tellCut", "()Z"⟩
abbrev cX3_tellWalker : ByteArray := prog_5_method_7_code
def yX3_tellWalker : MethodName := ⟨RX3, "tellWalker", "()Z"⟩
abbrev cX3_lookAtSide : ByteArray := prog_5_method_8_code
def yX3_lookAtSide : MethodName := ⟨RX3, "lookAtSide", "()I"⟩
abbrev cX3_sideNamed : ByteArray := prog_5_method_9_code
def yX3_sideNamed : MethodName := ⟨RX3, "sideNamed", "()I"⟩
abbrev cX3_kindNamed : ByteArray := prog_5_method_10_code
def yX3_kindNamed : MethodName := ⟨RX3, "kindNamed", "()I"⟩
abbrev cX3_sideName : ByteArray := prog_5_method_11_code
def yX3_sideName : MethodName := ⟨RX3, "sideName", "(I)Ljava/lang/String;"⟩
abbrev cX3_kindName : ByteArray := prog_5_method_12_code
def yX3_kindName : MethodName := ⟨RX3, "kindName", "(I)Ljava/lang/String;"⟩
def RX4 : String := "BentPlain$Walker"
def TX4 : u_T := fun k => match k with
  | 0 => ("BentPlain$Walker", "kind", "I", false)
  | 1 => ("BentPlain$Walker", "way", "I", false)
  | 2 => ("BentPlain$Walker", "miles", "I", false)
  | _ => ("BentPlain$Walker", "bumped", "I", false)
def tyX4 : Nat → FieldType := fun k => match k with
  | 0 => .int
  | 1 => .int
  | 2 => .int
  | _ => .int
theorem nmX4 : ∀ a, a < 4 → ∀ b, b < 4 → a ≠ b → (TX4 a).2.1 ≠ (TX4 b).2.1 := by decide +kernel
theorem tyX4_ok : ∀ k, k < 4 → parseFieldDescriptor (TX4 k).2.2.1 = some (tyX4 k) := by decide +kernel
abbrev cX4_init : ByteArray := prog_6_method_1_code
def yX4_init : MethodName := ⟨RX4, "<init>", "()V"⟩
abbrev cX4_begin : ByteArray := prog_6_method_2_code
def yX4_begin : MethodName := ⟨RX4, "begin", "(II)V"⟩
abbrev cX4_become : ByteArray := prog_6_method_3_code
def yX4_become : MethodName := ⟨RX4, "become", "(LBentPlain$Walker;)V"⟩
abbrev cX4_move : ByteArray := prog_6_method_4_code
def yX4_move : MethodName := ⟨RX4, "move", "(LBentPlain$Ground;)V"⟩
abbrev cX4_moveOften : ByteArray := prog_6_method_5_code
def yX4_moveOften : MethodName := ⟨RX4, "moveOften", "(LBentPlain$Ground;I)V"⟩
abbrev cX4_above : ByteArray := prog_6_method_6_code
def yX4_above : MethodName := ⟨RX4, "above", "(I)I"⟩
abbrev cX4_isUnder : ByteArray := prog_6_method_7_code
def yX4_isUnder : MethodName := ⟨RX4, "isUnder", "(II)Z"⟩
abbrev cX4_payOf : ByteArray := prog_6_method_8_code
def yX4_payOf : MethodName := ⟨RX4, "payOf", "(II)I"⟩
abbrev cX4_quartersOnComing : ByteArray := prog_6_method_9_code
def yX4_quartersOnComing : MethodName := ⟨RX4, "quartersOnComing", "(III)I"⟩
abbrev cX4_quartersAtBump : ByteArray := prog_6_method_10_code
def yX4_quartersAtBump : MethodName := ⟨RX4, "quartersAtBump", "(I)I"⟩
def RX5 : String := "BentPlain"
def TX5 : u_T := fun k => match k with
  | 0 => ("BentPlain", "now", "LBentPlain$Ground;", true)
  | 1 => ("BentPlain", "kept", "LBentPlain$Ground;", true)
  | 2 => ("BentPlain", "before", "LBentPlain$Ground;", true)
  | 3 => ("BentPlain", "probe", "LBentPlain$Walker;", true)
  | 4 => ("BentPlain", "otherProbe", "LBentPlain$Walker;", true)
  | 5 => ("BentPlain", "distances", "[I", true)
  | 6 => ("BentPlain", "otherDistances", "[I", true)
  | 7 => ("BentPlain", "quarters", "[I", true)
  | 8 => ("BentPlain", "tape", "LBentPlain$Tape;", true)
  | 9 => ("BentPlain", "teller", "LBentPlain$Teller;", true)
  | 10 => ("BentPlain", "sheets", "[LBentPlain$Sheet;", true)
  | 11 => ("BentPlain", "found", "[I", true)
  | _ => ("BentPlain", "hasKept", "Z", false)
def tyX5 : Nat → FieldType := fun k => match k with
  | 0 => .object "BentPlain$Ground"
  | 1 => .object "BentPlain$Ground"
  | 2 => .object "BentPlain$Ground"
  | 3 => .object "BentPlain$Walker"
  | 4 => .object "BentPlain$Walker"
  | 5 => .array .int
  | 6 => .array .int
  | 7 => .array .int
  | 8 => .object "BentPlain$Tape"
  | 9 => .object "BentPlain$Teller"
  | 10 => .array (.object "BentPlain$Sheet")
  | 11 => .array .int
  | _ => .boolean
theorem nmX5 : ∀ a, a < 13 → ∀ b, b < 13 → a ≠ b → (TX5 a).2.1 ≠ (TX5 b).2.1 := by decide +kernel
theorem tyX5_ok : ∀ k, k < 13 → parseFieldDescriptor (TX5 k).2.2.1 = some (tyX5 k) := by decide +kernel
abbrev cX5_init : ByteArray := prog_1_method_1_code
def yX5_init : MethodName := ⟨RX5, "<init>", "()V"⟩
abbrev cX5_field : ByteArray := prog_1_method_2_code
def yX5_field : MethodName := ⟨RX5, "field", "(I)I"⟩
abbrev cX5_of : ByteArray := prog_1_method_3_code
def yX5_of : MethodName := ⟨RX5, "of", "(II)I"⟩
abbrev cX5_rough : ByteArray := prog_1_method_4_code
def yX5_rough : MethodName := ⟨RX5, "rough", "(II)I"⟩
abbrev cX5_glue : ByteArray := prog_1_method_5_code
def yX5_glue : MethodName := ⟨RX5, "glue", "(IIII)I"⟩
abbrev cX5_cut : ByteArray := prog_1_method_6_code
def yX5_cut : MethodName := ⟨RX5, "cut", "(II)I"⟩
abbrev cX5_over : ByteArray := prog_1_method_7_code
def yX5_over : MethodName := ⟨RX5, "over", "(II)I"⟩
abbrev cX5_walker : ByteArray := prog_1_method_8_code
def yX5_walker : MethodName := ⟨RX5, "walker", "(III)I"⟩
abbrev cX5_its : ByteArray := prog_1_method_9_code
def yX5_its : MethodName := ⟨RX5, "its", "(II)I"⟩
abbrev cX5_place : ByteArray := prog_1_method_10_code
def yX5_place : MethodName := ⟨RX5, "place", "(III)I"⟩
abbrev cX5_turn : ByteArray := prog_1_method_11_code
def yX5_turn : MethodName := ⟨RX5, "turn", "(II)I"⟩
abbrev cX5_as : ByteArray := prog_1_method_12_code
def yX5_as : MethodName := ⟨RX5, "as", "(II)I"⟩
abbrev cX5_step : ByteArray := prog_1_method_13_code
def yX5_step : MethodName := ⟨RX5, "step", "(I)I"⟩
abbrev cX5_steps : ByteArray := prog_1_method_14_code
def yX5_steps : MethodName := ⟨RX5, "steps", "(I)I"⟩
abbrev cX5_on : ByteArray := prog_1_method_15_code
def yX5_on : MethodName := ⟨RX5, "on", "(III)I"⟩
abbrev cX5_when : ByteArray := prog_1_method_16_code
def yX5_when : MethodName := ⟨RX5, "when", "(II)I"⟩
abbrev cX5_back : ByteArray := prog_1_method_17_code
def yX5_back : MethodName := ⟨RX5, "back", "(I)I"⟩
abbrev cX5_meet : ByteArray := prog_1_method_18_code
def yX5_meet : MethodName := ⟨RX5, "meet", "(II)I"⟩
abbrev cX5_spares : ByteArray := prog_1_method_19_code
def yX5_spares : MethodName := ⟨RX5, "spares", "(I)I"⟩
abbrev cX5_closes : ByteArray := prog_1_method_20_code
def yX5_closes : MethodName := ⟨RX5, "closes", "(II)I"⟩
abbrev cX5_bumps : ByteArray := prog_1_method_21_code
def yX5_bumps : MethodName := ⟨RX5, "bumps", "(II)I"⟩
abbrev cX5_square : ByteArray := prog_1_method_22_code
def yX5_square : MethodName := ⟨RX5, "square", "(III)I"⟩
abbrev cX5_dine : ByteArray := prog_1_method_23_code
def yX5_dine : MethodName := ⟨RX5, "dine", "(IIII)I"⟩
abbrev cX5_sees : ByteArray := prog_1_method_24_code
def yX5_sees : MethodName := ⟨RX5, "sees", "(II)I"⟩
abbrev cX5_twice : ByteArray := prog_1_method_25_code
def yX5_twice : MethodName := ⟨RX5, "twice", "(I)I"⟩
abbrev cX5_about : ByteArray := prog_1_method_26_code
def yX5_about : MethodName := ⟨RX5, "about", "(II)I"⟩
abbrev cX5_corners : ByteArray := prog_1_method_27_code
def yX5_corners : MethodName := ⟨RX5, "corners", "()I"⟩
abbrev cX5_excess : ByteArray := prog_1_method_28_code
def yX5_excess : MethodName := ⟨RX5, "excess", "()I"⟩
abbrev cX5_bent : ByteArray := prog_1_method_29_code
def yX5_bent : MethodName := ⟨RX5, "bent", "()I"⟩
abbrev cX5_parts : ByteArray := prog_1_method_30_code
def yX5_parts : MethodName := ⟨RX5, "parts", "()I"⟩
abbrev cX5_far : ByteArray := prog_1_method_31_code
def yX5_far : MethodName := ⟨RX5, "far", "(II)I"⟩
abbrev cX5_smooth : ByteArray := prog_1_method_32_code
def yX5_smooth : MethodName := ⟨RX5, "smooth", "(II)I"⟩
abbrev cX5_turns : ByteArray := prog_1_method_33_code
def yX5_turns : MethodName := ⟨RX5, "turns", "(III)I"⟩
abbrev cX5_within : ByteArray := prog_1_method_34_code
def yX5_within : MethodName := ⟨RX5, "within", "(II)I"⟩
abbrev cX5_mends : ByteArray := prog_1_method_35_code
def yX5_mends : MethodName := ⟨RX5, "mends", "(II)I"⟩
abbrev cX5_feed : ByteArray := prog_1_method_36_code
def yX5_feed : MethodName := ⟨RX5, "feed", "(II)I"⟩
abbrev cX5_wipe : ByteArray := prog_1_method_37_code
def yX5_wipe : MethodName := ⟨RX5, "wipe", "()I"⟩
abbrev cX5_plain : ByteArray := prog_1_method_38_code
def yX5_plain : MethodName := ⟨RX5, "plain", "()I"⟩
abbrev cX5_sheet : ByteArray := prog_1_method_39_code
def yX5_sheet : MethodName := ⟨RX5, "sheet", "(III)I"⟩
abbrev cX5_write : ByteArray := prog_1_method_40_code
def yX5_write : MethodName := ⟨RX5, "write", "(IIJ)J"⟩
abbrev cX5_copy : ByteArray := prog_1_method_41_code
def yX5_copy : MethodName := ⟨RX5, "copy", "(IIIII)I"⟩
abbrev cX5_lays : ByteArray := prog_1_method_42_code
def yX5_lays : MethodName := ⟨RX5, "lays", "(I)I"⟩
abbrev cX5_book : ByteArray := prog_1_method_43_code
def yX5_book : MethodName := ⟨RX5, "book", "(II)I"⟩
abbrev cX5_read : ByteArray := prog_1_method_44_code
def yX5_read : MethodName := ⟨RX5, "read", "(II)I"⟩
abbrev cX5_image : ByteArray := prog_1_method_45_code
def yX5_image : MethodName := ⟨RX5, "image", "()I"⟩
abbrev cX5_undo : ByteArray := prog_1_method_46_code
def yX5_undo : MethodName := ⟨RX5, "undo", "()I"⟩
abbrev cX5_tear : ByteArray := prog_1_method_47_code
def yX5_tear : MethodName := ⟨RX5, "tear", "()I"⟩
abbrev cX5_count : ByteArray := prog_1_method_48_code
def yX5_count : MethodName := ⟨RX5, "count", "(I)I"⟩
abbrev cX5_status : ByteArray := prog_1_method_49_code
def yX5_status : MethodName := ⟨RX5, "status", "(I)I"⟩
abbrev cX5_tell : ByteArray := prog_1_method_50_code
def yX5_tell : MethodName := ⟨RX5, "tell", "(I)I"⟩
abbrev cX5_numberOrNone : ByteArray := prog_1_method_51_code
def yX5_numberOrNone : MethodName := ⟨RX5, "numberOrNone", "(I)I"⟩
abbrev cX5_least : ByteArray := prog_1_method_52_code
def yX5_least : MethodName := ⟨RX5, "least", "(IIZ)I"⟩
abbrev cX5_reached : ByteArray := prog_1_method_53_code
def yX5_reached : MethodName := ⟨RX5, "reached", "(I)I"⟩
abbrev cX5_farThrough : ByteArray := prog_1_method_54_code
def yX5_farThrough : MethodName := ⟨RX5, "farThrough", "(II)I"⟩
abbrev cX5_sheetFinding : ByteArray := prog_1_method_55_code
def yX5_sheetFinding : MethodName := ⟨RX5, "sheetFinding", "(I)I"⟩
abbrev cX5_bookFinding : ByteArray := prog_1_method_56_code
def yX5_bookFinding : MethodName := ⟨RX5, "bookFinding", "(II)I"⟩
abbrev cX5_goesByBook : ByteArray := prog_1_method_57_code
def yX5_goesByBook : MethodName := ⟨RX5, "goesByBook", "(LBentPlain$Sheet;)Z"⟩
abbrev cX5_isRough : ByteArray := prog_1_method_58_code
def yX5_isRough : MethodName := ⟨RX5, "isRough", "(I)Z"⟩
abbrev cX5_isKind : ByteArray := prog_1_method_59_code
def yX5_isKind : MethodName := ⟨RX5, "isKind", "(I)Z"⟩
abbrev cX5_isSheet : ByteArray := prog_1_method_60_code
def yX5_isSheet : MethodName := ⟨RX5, "isSheet", "(I)Z"⟩
abbrev cX5_isStepsOn : ByteArray := prog_1_method_61_code
def yX5_isStepsOn : MethodName := ⟨RX5, "isStepsOn", "(I)Z"⟩
abbrev cX5_wayOf : ByteArray := prog_1_method_62_code
def yX5_wayOf : MethodName := ⟨RX5, "wayOf", "(II)I"⟩
abbrev cX5_fieldOf : ByteArray := prog_1_method_63_code
def yX5_fieldOf : MethodName := ⟨RX5, "fieldOf", "(I)I"⟩
abbrev cX5_headingOf : ByteArray := prog_1_method_64_code
def yX5_headingOf : MethodName := ⟨RX5, "headingOf", "(I)I"⟩
abbrev cX5_turned : ByteArray := prog_1_method_65_code
def yX5_turned : MethodName := ⟨RX5, "turned", "(II)I"⟩
def RX6 : String := "BentPlainModel"
def TX6 : u_T := fun k => match k with
  | 0 => ("BentPlainModel", "s", "[I", true)
  | 1 => ("BentPlainModel", "keptS", "[I", true)
  | 2 => ("BentPlainModel", "other", "[I", true)
  | 3 => ("BentPlainModel", "aside", "[I", true)
  | 4 => ("BentPlainModel", "statuses", "[I", true)
  | 5 => ("BentPlainModel", "isKept", "Z", false)
  | 6 => ("BentPlainModel", "least", "[I", true)
  | 7 => ("BentPlainModel", "tape", "[I", true)
  | 8 => ("BentPlainModel", "taped", "I", false)
  | 9 => ("BentPlainModel", "from", "I", false)
  | 10 => ("BentPlainModel", "to", "I", false)
  | 11 => ("BentPlainModel", "value", "I", false)
  | 12 => ("BentPlainModel", "isWrong", "Z", false)
  | 13 => ("BentPlainModel", "bitsOf", "[I", true)
  | 14 => ("BentPlainModel", "sizeOf", "[I", true)
  | 15 => ("BentPlainModel", "numbers", "[J", true)
  | _ => ("BentPlainModel", "moved", "[J", true)
def tyX6 : Nat → FieldType := fun k => match k with
  | 0 => .array .int
  | 1 => .array .int
  | 2 => .array .int
  | 3 => .array .int
  | 4 => .array .int
  | 5 => .boolean
  | 6 => .array .int
  | 7 => .array .int
  | 8 => .int
  | 9 => .int
  | 10 => .int
  | 11 => .int
  | 12 => .boolean
  | 13 => .array .int
  | 14 => .array .int
  | 15 => .array .long
  | _ => .array .long
theorem nmX6 : ∀ a, a < 17 → ∀ b, b < 17 → a ≠ b → (TX6 a).2.1 ≠ (TX6 b).2.1 := by decide +kernel
theorem tyX6_ok : ∀ k, k < 17 → parseFieldDescriptor (TX6 k).2.2.1 = some (tyX6 k) := by decide +kernel
abbrev cX6_init : ByteArray := prog_8_method_1_code
def yX6_init : MethodName := ⟨RX6, "<init>", "()V"⟩
abbrev cX6_in : ByteArray := prog_8_method_2_code
def yX6_in : MethodName := ⟨RX6, "in", "(JJJ)Z"⟩
abbrev cX6_finds : ByteArray := prog_8_method_3_code
def yX6_finds : MethodName := ⟨RX6, "finds", "(I)I"⟩
abbrev cX6_saves : ByteArray := prog_8_method_4_code
def yX6_saves : MethodName := ⟨RX6, "saves", "()V"⟩
abbrev cX6_putsBack : ByteArray := prog_8_method_5_code
def yX6_putsBack : MethodName := ⟨RX6, "putsBack", "()V"⟩
abbrev cX6_laysAside : ByteArray := prog_8_method_6_code
def yX6_laysAside : MethodName := ⟨RX6, "laysAside", "()V"⟩
abbrev cX6_takesBack : ByteArray := prog_8_method_7_code
def yX6_takesBack : MethodName := ⟨RX6, "takesBack", "(I)I"⟩
abbrev cX6_becomes : ByteArray := prog_8_method_8_code
def yX6_becomes : MethodName := ⟨RX6, "becomes", "(II)I"⟩
abbrev cX6_isField : ByteArray := prog_8_method_9_code
def yX6_isField : MethodName := ⟨RX6, "isField", "(I)Z"⟩
abbrev cX6_isSide : ByteArray := prog_8_method_10_code
def yX6_isSide : MethodName := ⟨RX6, "isSide", "(I)Z"⟩
abbrev cX6_isKind : ByteArray := prog_8_method_11_code
def yX6_isKind : MethodName := ⟨RX6, "isKind", "(I)Z"⟩
abbrev cX6_isWay : ByteArray := prog_8_method_12_code
def yX6_isWay : MethodName := ⟨RX6, "isWay", "(II)Z"⟩
abbrev cX6_isWalker : ByteArray := prog_8_method_13_code
def yX6_isWalker : MethodName := ⟨RX6, "isWalker", "(I)Z"⟩
abbrev cX6_spot : ByteArray := prog_8_method_14_code
def yX6_spot : MethodName := ⟨RX6, "spot", "(II)I"⟩
abbrev cX6_partOf : ByteArray := prog_8_method_15_code
def yX6_partOf : MethodName := ⟨RX6, "partOf", "(II)I"⟩
abbrev cX6_wayOf : ByteArray := prog_8_method_16_code
def yX6_wayOf : MethodName := ⟨RX6, "wayOf", "(I)I"⟩
abbrev cX6_adds : ByteArray := prog_8_method_17_code
def yX6_adds : MethodName := ⟨RX6, "adds", "(I)I"⟩
abbrev cX6_field : ByteArray := prog_8_method_18_code
def yX6_field : MethodName := ⟨RX6, "field", "(I)I"⟩
abbrev cX6_gluedOf : ByteArray := prog_8_method_19_code
def yX6_gluedOf : MethodName := ⟨RX6, "gluedOf", "(I)I"⟩
abbrev cX6_those : ByteArray := prog_8_method_20_code
def yX6_those : MethodName := ⟨RX6, "those", "(I)I"⟩
abbrev cX6_of : ByteArray := prog_8_method_21_code
def yX6_of : MethodName := ⟨RX6, "of", "(II)I"⟩
abbrev cX6_rough : ByteArray := prog_8_method_22_code
def yX6_rough : MethodName := ⟨RX6, "rough", "(II)I"⟩
abbrev cX6_glues : ByteArray := prog_8_method_23_code
def yX6_glues : MethodName := ⟨RX6, "glues", "(II)V"⟩
abbrev cX6_cuts : ByteArray := prog_8_method_24_code
def yX6_cuts : MethodName := ⟨RX6, "cuts", "(I)V"⟩
abbrev cX6_glue : ByteArray := prog_8_method_25_code
def yX6_glue : MethodName := ⟨RX6, "glue", "(IIII)I"⟩
abbrev cX6_cut : ByteArray := prog_8_method_26_code
def yX6_cut : MethodName := ⟨RX6, "cut", "(II)I"⟩
abbrev cX6_over : ByteArray := prog_8_method_27_code
def yX6_over : MethodName := ⟨RX6, "over", "(II)I"⟩
abbrev cX6_onward : ByteArray := prog_8_method_28_code
def yX6_onward : MethodName := ⟨RX6, "onward", "(I)I"⟩
abbrev cX6_walker : ByteArray := prog_8_method_29_code
def yX6_walker : MethodName := ⟨RX6, "walker", "(III)I"⟩
abbrev cX6_comes : ByteArray := prog_8_method_30_code
def yX6_comes : MethodName := ⟨RX6, "comes", "(III)I"⟩
abbrev cX6_pays : ByteArray := prog_8_method_31_code
def yX6_pays : MethodName := ⟨RX6, "pays", "(II)I"⟩
abbrev cX6_quarters : ByteArray := prog_8_method_32_code
def yX6_quarters : MethodName := ⟨RX6, "quarters", "(III)I"⟩
abbrev cX6_atBump : ByteArray := prog_8_method_33_code
def yX6_atBump : MethodName := ⟨RX6, "atBump", "(I)I"⟩
abbrev cX6_goes : ByteArray := prog_8_method_34_code
def yX6_goes : MethodName := ⟨RX6, "goes", "(I)V"⟩
abbrev cX6_its : ByteArray := prog_8_method_35_code
def yX6_its : MethodName := ⟨RX6, "its", "(II)I"⟩
abbrev cX6_stands : ByteArray := prog_8_method_36_code
def yX6_stands : MethodName := ⟨RX6, "stands", "(II)V"⟩
abbrev cX6_place : ByteArray := prog_8_method_37_code
def yX6_place : MethodName := ⟨RX6, "place", "(III)I"⟩
abbrev cX6_turn : ByteArray := prog_8_method_38_code
def yX6_turn : MethodName := ⟨RX6, "turn", "(II)I"⟩
abbrev cX6_above : ByteArray := prog_8_method_39_code
def yX6_above : MethodName := ⟨RX6, "above", "(I)I"⟩
abbrev cX6_as : ByteArray := prog_8_method_40_code
def yX6_as : MethodName := ⟨RX6, "as", "(II)I"⟩
abbrev cX6_step : ByteArray := prog_8_method_41_code
def yX6_step : MethodName := ⟨RX6, "step", "(I)I"⟩
abbrev cX6_allMiles : ByteArray := prog_8_method_42_code
def yX6_allMiles : MethodName := ⟨RX6, "allMiles", "()I"⟩
abbrev cX6_all : ByteArray := prog_8_method_43_code
def yX6_all : MethodName := ⟨RX6, "all", "()V"⟩
abbrev cX6_steps : ByteArray := prog_8_method_44_code
def yX6_steps : MethodName := ⟨RX6, "steps", "(I)I"⟩
abbrev cX6_on : ByteArray := prog_8_method_45_code
def yX6_on : MethodName := ⟨RX6, "on", "(III)I"⟩
abbrev cX6_orNone : ByteArray := prog_8_method_46_code
def yX6_orNone : MethodName := ⟨RX6, "orNone", "(II)I"⟩
abbrev cX6_when : ByteArray := prog_8_method_47_code
def yX6_when : MethodName := ⟨RX6, "when", "(II)I"⟩
abbrev cX6_back : ByteArray := prog_8_method_48_code
def yX6_back : MethodName := ⟨RX6, "back", "(I)I"⟩
abbrev cX6_meet : ByteArray := prog_8_method_49_code
def yX6_meet : MethodName := ⟨RX6, "meet", "(II)I"⟩
abbrev cX6_spares : ByteArray := prog_8_method_50_code
def yX6_spares : MethodName := ⟨RX6, "spares", "(I)I"⟩
abbrev cX6_closes : ByteArray := prog_8_method_51_code
def yX6_closes : MethodName := ⟨RX6, "closes", "(II)I"⟩
abbrev cX6_bumps : ByteArray := prog_8_method_52_code
def yX6_bumps : MethodName := ⟨RX6, "bumps", "(II)I"⟩
abbrev cX6_square : ByteArray := prog_8_method_53_code
def yX6_square : MethodName := ⟨RX6, "square", "(III)I"⟩
abbrev cX6_dine : ByteArray := prog_8_method_54_code
def yX6_dine : MethodName := ⟨RX6, "dine", "(IIII)I"⟩
abbrev cX6_seen : ByteArray := prog_8_method_55_code
def yX6_seen : MethodName := ⟨RX6, "seen", "(I)I"⟩
abbrev cX6_sees : ByteArray := prog_8_method_56_code
def yX6_sees : MethodName := ⟨RX6, "sees", "(II)I"⟩
abbrev cX6_ones : ByteArray := prog_8_method_57_code
def yX6_ones : MethodName := ⟨RX6, "ones", "(I)I"⟩
abbrev cX6_twice : ByteArray := prog_8_method_58_code
def yX6_twice : MethodName := ⟨RX6, "twice", "(I)I"⟩
abbrev cX6_beside : ByteArray := prog_8_method_59_code
def yX6_beside : MethodName := ⟨RX6, "beside", "(I)I"⟩
abbrev cX6_aboutOf : ByteArray := prog_8_method_60_code
def yX6_aboutOf : MethodName := ⟨RX6, "aboutOf", "(I)I"⟩
abbrev cX6_isFirst : ByteArray := prog_8_method_61_code
def yX6_isFirst : MethodName := ⟨RX6, "isFirst", "(I)Z"⟩
abbrev cX6_about : ByteArray := prog_8_method_62_code
def yX6_about : MethodName := ⟨RX6, "about", "(II)I"⟩
abbrev cX6_corners : ByteArray := prog_8_method_63_code
def yX6_corners : MethodName := ⟨RX6, "corners", "()I"⟩
abbrev cX6_excess : ByteArray := prog_8_method_64_code
def yX6_excess : MethodName := ⟨RX6, "excess", "()I"⟩
abbrev cX6_bent : ByteArray := prog_8_method_65_code
def yX6_bent : MethodName := ⟨RX6, "bent", "()I"⟩
abbrev cX6_spread : ByteArray := prog_8_method_66_code
def yX6_spread : MethodName := ⟨RX6, "spread", "(I)I"⟩
abbrev cX6_parts : ByteArray := prog_8_method_67_code
def yX6_parts : MethodName := ⟨RX6, "parts", "()I"⟩
abbrev cX6_farOf : ByteArray := prog_8_method_68_code
def yX6_farOf : MethodName := ⟨RX6, "farOf", "(II)I"⟩
abbrev cX6_far : ByteArray := prog_8_method_69_code
def yX6_far : MethodName := ⟨RX6, "far", "(II)I"⟩
abbrev cX6_smooth : ByteArray := prog_8_method_70_code
def yX6_smooth : MethodName := ⟨RX6, "smooth", "(II)I"⟩
abbrev cX6_turns : ByteArray := prog_8_method_71_code
def yX6_turns : MethodName := ⟨RX6, "turns", "(III)I"⟩
abbrev cX6_within : ByteArray := prog_8_method_72_code
def yX6_within : MethodName := ⟨RX6, "within", "(II)I"⟩
abbrev cX6_mends : ByteArray := prog_8_method_73_code
def yX6_mends : MethodName := ⟨RX6, "mends", "(II)I"⟩
abbrev cX6_feed : ByteArray := prog_8_method_74_code
def yX6_feed : MethodName := ⟨RX6, "feed", "(II)I"⟩
abbrev cX6_wipe : ByteArray := prog_8_method_75_code
def yX6_wipe : MethodName := ⟨RX6, "wipe", "()I"⟩
abbrev cX6_byteAt : ByteArray := prog_8_method_76_code
def yX6_byteAt : MethodName := ⟨RX6, "byteAt", "(I)I"⟩
abbrev cX6_isLetter : ByteArray := prog_8_method_77_code
def yX6_isLetter : MethodName := ⟨RX6, "isLetter", "(I)Z"⟩
abbrev cX6_isDigit : ByteArray := prog_8_method_78_code
def yX6_isDigit : MethodName := ⟨RX6, "isDigit", "(I)Z"⟩
abbrev cX6_token : ByteArray := prog_8_method_79_code
def yX6_token : MethodName := ⟨RX6, "token", "()V"⟩
abbrev cX6_wants : ByteArray := prog_8_method_80_code
def yX6_wants : MethodName := ⟨RX6, "wants", "(Z)V"⟩
abbrev cX6_word : ByteArray := prog_8_method_81_code
def yX6_word : MethodName := ⟨RX6, "word", "()J"⟩
abbrev cX6_number : ByteArray := prog_8_method_82_code
def yX6_number : MethodName := ⟨RX6, "number", "(II)V"⟩
abbrev cX6_kindHere : ByteArray := prog_8_method_83_code
def yX6_kindHere : MethodName := ⟨RX6, "kindHere", "()I"⟩
abbrev cX6_fieldHere : ByteArray := prog_8_method_84_code
def yX6_fieldHere : MethodName := ⟨RX6, "fieldHere", "()V"⟩
abbrev cX6_sideNamed : ByteArray := prog_8_method_85_code
def yX6_sideNamed : MethodName := ⟨RX6, "sideNamed", "()I"⟩
abbrev cX6_sideHere : ByteArray := prog_8_method_86_code
def yX6_sideHere : MethodName := ⟨RX6, "sideHere", "(IZI)I"⟩
abbrev cX6_fieldItem : ByteArray := prog_8_method_87_code
def yX6_fieldItem : MethodName := ⟨RX6, "fieldItem", "()V"⟩
abbrev cX6_glueItem : ByteArray := prog_8_method_88_code
def yX6_glueItem : MethodName := ⟨RX6, "glueItem", "()V"⟩
abbrev cX6_cutItem : ByteArray := prog_8_method_89_code
def yX6_cutItem : MethodName := ⟨RX6, "cutItem", "()V"⟩
abbrev cX6_walkerItem : ByteArray := prog_8_method_90_code
def yX6_walkerItem : MethodName := ⟨RX6, "walkerItem", "(I)V"⟩
abbrev cX6_item : ByteArray := prog_8_method_91_code
def yX6_item : MethodName := ⟨RX6, "item", "()V"⟩
abbrev cX6_plain : ByteArray := prog_8_method_92_code
def yX6_plain : MethodName := ⟨RX6, "plain", "()I"⟩
abbrev cX6_isOne : ByteArray := prog_8_method_93_code
def yX6_isOne : MethodName := ⟨RX6, "isOne", "(I)Z"⟩
abbrev cX6_sheet : ByteArray := prog_8_method_94_code
def yX6_sheet : MethodName := ⟨RX6, "sheet", "(III)I"⟩
abbrev cX6_narrowed : ByteArray := prog_8_method_95_code
def yX6_narrowed : MethodName := ⟨RX6, "narrowed", "(IJ)J"⟩
abbrev cX6_wrong : ByteArray := prog_8_method_96_code
def yX6_wrong : MethodName := ⟨RX6, "wrong", "(I)I"⟩
abbrev cX6_write : ByteArray := prog_8_method_97_code
def yX6_write : MethodName := ⟨RX6, "write", "(IIJ)J"⟩
abbrev cX6_copy : ByteArray := prog_8_method_98_code
def yX6_copy : MethodName := ⟨RX6, "copy", "(IIIII)I"⟩
abbrev cX6_lays : ByteArray := prog_8_method_99_code
def yX6_lays : MethodName := ⟨RX6, "lays", "(I)I"⟩
abbrev cX6_wrongBook : ByteArray := prog_8_method_100_code
def yX6_wrongBook : MethodName := ⟨RX6, "wrongBook", "(II)I"⟩
abbrev cX6_book : ByteArray := prog_8_method_101_code
def yX6_book : MethodName := ⟨RX6, "book", "(II)I"⟩
abbrev cX6_isSo : ByteArray := prog_8_method_102_code
def yX6_isSo : MethodName := ⟨RX6, "isSo", "(II)I"⟩
abbrev cX6_read : ByteArray := prog_8_method_103_code
def yX6_read : MethodName := ⟨RX6, "read", "(II)I"⟩
abbrev cX6_image : ByteArray := prog_8_method_104_code
def yX6_image : MethodName := ⟨RX6, "image", "()I"⟩
abbrev cX6_undo : ByteArray := prog_8_method_105_code
def yX6_undo : MethodName := ⟨RX6, "undo", "()I"⟩
abbrev cX6_tear : ByteArray := prog_8_method_106_code
def yX6_tear : MethodName := ⟨RX6, "tear", "()I"⟩
abbrev cX6_gluedSides : ByteArray := prog_8_method_107_code
def yX6_gluedSides : MethodName := ⟨RX6, "gluedSides", "()I"⟩
abbrev cX6_count : ByteArray := prog_8_method_108_code
def yX6_count : MethodName := ⟨RX6, "count", "(I)I"⟩
abbrev cX6_status : ByteArray := prog_8_method_109_code
def yX6_status : MethodName := ⟨RX6, "status", "(I)I"⟩
def RJ6 : String := "java/lang/Integer"
abbrev cJ6_bitCount_0f7a4 : ByteArray := prog_9_method_49_code
def yJ6_bitCount_0f7a4 : MethodName := ⟨RJ6, "bitCount", "(I)I"⟩
def RJ13 : String := "java/lang/Long"
abbrev cJ13_bitCount_95d88 : ByteArray := prog_10_method_50_code
def yJ13_bitCount_95d88 : MethodName := ⟨RJ13, "bitCount", "(J)I"⟩
def RJ9 : String := "java/lang/Math"
abbrev cJ9_min_7cf53 : ByteArray := prog_11_method_69_code
def yJ9_min_7cf53 : MethodName := ⟨RJ9, "min", "(II)I"⟩
def RJ0 : String := "java/lang/String"
abbrev cJ0_length_8abf5 : ByteArray := prog_12_method_54_code
def yJ0_length_8abf5 : MethodName := ⟨RJ0, "length", "()I"⟩
abbrev cJ0_charAt_5068e : ByteArray := prog_12_method_56_code
def yJ0_charAt_5068e : MethodName := ⟨RJ0, "charAt", "(I)C"⟩
abbrev cJ0_coder_7d493 : ByteArray := prog_12_method_152_code
def yJ0_coder_7d493 : MethodName := ⟨RJ0, "coder", "()B"⟩
abbrev cJ0_isLatin1_aae02 : ByteArray := prog_12_method_154_code
def yJ0_isLatin1_aae02 : MethodName := ⟨RJ0, "isLatin1", "()Z"⟩
abbrev cJ0_checkIndex_df160 : ByteArray := prog_12_method_155_code
def yJ0_checkIndex_df160 : MethodName := ⟨RJ0, "checkIndex", "(II)V"⟩
def RJ1 : String := "java/lang/StringLatin1"
abbrev cJ1_charAt_3b067 : ByteArray := prog_13_method_2_code
def yJ1_charAt_3b067 : MethodName := ⟨RJ1, "charAt", "([BI)C"⟩
def RJ2 : String := "java/lang/StringUTF16"
abbrev cJ2_getChar_3b067 : ByteArray := prog_14_method_5_code
def yJ2_getChar_3b067 : MethodName := ⟨RJ2, "getChar", "([BI)C"⟩
abbrev cJ2_length_9d52b : ByteArray := prog_14_method_6_code
def yJ2_length_9d52b : MethodName := ⟨RJ2, "length", "([B)I"⟩
abbrev cJ2_charAt_3b067 : ByteArray := prog_14_method_83_code
def yJ2_charAt_3b067 : MethodName := ⟨RJ2, "charAt", "([BI)C"⟩
abbrev cJ2_checkIndex_2214a : ByteArray := prog_14_method_91_code
def yJ2_checkIndex_2214a : MethodName := ⟨RJ2, "checkIndex", "(I[B)V"⟩
def RJ10 : String := "java/lang/System"
def RJ7 : String := "java/util/Arrays"
abbrev cJ7_fill_d0a16 : ByteArray := prog_16_method_101_code
def yJ7_fill_d0a16 : MethodName := ⟨RJ7, "fill", "([JJ)V"⟩
abbrev cJ7_fill_53178 : ByteArray := prog_16_method_103_code
def yJ7_fill_53178 : MethodName := ⟨RJ7, "fill", "([II)V"⟩
def RJ3 : String := "jdk/internal/util/Preconditions"
abbrev cJ3_checkIndex_8e157 : ByteArray := prog_17_method_11_code
def yJ3_checkIndex_8e157 : MethodName := ⟨RJ3, "checkIndex", "(IILjava/util/function/BiFunction;)I"⟩
def RL : String := "BentPlainLaw"
abbrev cL_law : ByteArray := code
def yL_law : MethodName := ⟨RL, "law", "([I)Z"⟩
abbrev vwCl : List vw_C := [(RX0, TX0, 5), (RX1, TX1, 3), (RX2, TX2, 6), (RX3, TX3, 2), (RX4, TX4, 4), (RX5, TX5, 13), (RX6, TX6, 17)]
end
section
theorem dJ6_bitCount_0f7a4_0 : decode cJ6_bitCount_0f7a4 0 = .ok (.iload_n 0, 1) := by decide +kernel
theorem dJ6_bitCount_0f7a4_1 : decode cJ6_bitCount_0f7a4 1 = .ok (.iload_n 0, 1) := by decide +kernel
theorem dJ6_bitCount_0f7a4_2 : decode cJ6_bitCount_0f7a4 2 = .ok (.iconst 1, 1) := by decide +kernel
theorem dJ6_bitCount_0f7a4_3 : decode cJ6_bitCount_0f7a4 3 = .ok (.iushr, 1) := by decide +kernel
theorem dJ6_bitCount_0f7a4_4 : decode cJ6_bitCount_0f7a4 4 = .ok (.ldc_w 265, 3) := by decide +kernel
theorem dJ6_bitCount_0f7a4_7 : decode cJ6_bitCount_0f7a4 7 = .ok (.iand, 1) := by decide +kernel
theorem dJ6_bitCount_0f7a4_8 : decode cJ6_bitCount_0f7a4 8 = .ok (.isub, 1) := by decide +kernel
theorem dJ6_bitCount_0f7a4_9 : decode cJ6_bitCount_0f7a4 9 = .ok (.istore_n 0, 1) := by decide +kernel
theorem dJ6_bitCount_0f7a4_10 : decode cJ6_bitCount_0f7a4 10 = .ok (.iload_n 0, 1) := by decide +kernel
theorem dJ6_bitCount_0f7a4_11 : decode cJ6_bitCount_0f7a4 11 = .ok (.ldc_w 266, 3) := by decide +kernel
theorem dJ6_bitCount_0f7a4_14 : decode cJ6_bitCount_0f7a4 14 = .ok (.iand, 1) := by decide +kernel
theorem dJ6_bitCount_0f7a4_15 : decode cJ6_bitCount_0f7a4 15 = .ok (.iload_n 0, 1) := by decide +kernel
theorem dJ6_bitCount_0f7a4_16 : decode cJ6_bitCount_0f7a4 16 = .ok (.iconst 2, 1) := by decide +kernel
theorem dJ6_bitCount_0f7a4_17 : decode cJ6_bitCount_0f7a4 17 = .ok (.iushr, 1) := by decide +kernel
theorem dJ6_bitCount_0f7a4_18 : decode cJ6_bitCount_0f7a4 18 = .ok (.ldc_w 266, 3) := by decide +kernel
theorem dJ6_bitCount_0f7a4_21 : decode cJ6_bitCount_0f7a4 21 = .ok (.iand, 1) := by decide +kernel
theorem dJ6_bitCount_0f7a4_22 : decode cJ6_bitCount_0f7a4 22 = .ok (.iadd, 1) := by decide +kernel
theorem dJ6_bitCount_0f7a4_23 : decode cJ6_bitCount_0f7a4 23 = .ok (.istore_n 0, 1) := by decide +kernel
theorem dJ6_bitCount_0f7a4_24 : decode cJ6_bitCount_0f7a4 24 = .ok (.iload_n 0, 1) := by decide +kernel
theorem dJ6_bitCount_0f7a4_25 : decode cJ6_bitCount_0f7a4 25 = .ok (.iload_n 0, 1) := by decide +kernel
theorem dJ6_bitCount_0f7a4_26 : decode cJ6_bitCount_0f7a4 26 = .ok (.iconst 4, 1) := by decide +kernel
theorem dJ6_bitCount_0f7a4_27 : decode cJ6_bitCount_0f7a4 27 = .ok (.iushr, 1) := by decide +kernel
theorem dJ6_bitCount_0f7a4_28 : decode cJ6_bitCount_0f7a4 28 = .ok (.iadd, 1) := by decide +kernel
theorem dJ6_bitCount_0f7a4_29 : decode cJ6_bitCount_0f7a4 29 = .ok (.ldc_w 267, 3) := by decide +kernel
theorem dJ6_bitCount_0f7a4_32 : decode cJ6_bitCount_0f7a4 32 = .ok (.iand, 1) := by decide +kernel
theorem dJ6_bitCount_0f7a4_33 : decode cJ6_bitCount_0f7a4 33 = .ok (.istore_n 0, 1) := by decide +kernel
theorem dJ6_bitCount_0f7a4_34 : decode cJ6_bitCount_0f7a4 34 = .ok (.iload_n 0, 1) := by decide +kernel
theorem dJ6_bitCount_0f7a4_35 : decode cJ6_bitCount_0f7a4 35 = .ok (.iload_n 0, 1) := by decide +kernel
theorem dJ6_bitCount_0f7a4_36 : decode cJ6_bitCount_0f7a4 36 = .ok (.bipush 8, 2) := by decide +kernel
theorem dJ6_bitCount_0f7a4_38 : decode cJ6_bitCount_0f7a4 38 = .ok (.iushr, 1) := by decide +kernel
theorem dJ6_bitCount_0f7a4_39 : decode cJ6_bitCount_0f7a4 39 = .ok (.iadd, 1) := by decide +kernel
theorem dJ6_bitCount_0f7a4_40 : decode cJ6_bitCount_0f7a4 40 = .ok (.istore_n 0, 1) := by decide +kernel
theorem dJ6_bitCount_0f7a4_41 : decode cJ6_bitCount_0f7a4 41 = .ok (.iload_n 0, 1) := by decide +kernel
theorem dJ6_bitCount_0f7a4_42 : decode cJ6_bitCount_0f7a4 42 = .ok (.iload_n 0, 1) := by decide +kernel
theorem dJ6_bitCount_0f7a4_43 : decode cJ6_bitCount_0f7a4 43 = .ok (.bipush 16, 2) := by decide +kernel
theorem dJ6_bitCount_0f7a4_45 : decode cJ6_bitCount_0f7a4 45 = .ok (.iushr, 1) := by decide +kernel
theorem dJ6_bitCount_0f7a4_46 : decode cJ6_bitCount_0f7a4 46 = .ok (.iadd, 1) := by decide +kernel
theorem dJ6_bitCount_0f7a4_47 : decode cJ6_bitCount_0f7a4 47 = .ok (.istore_n 0, 1) := by decide +kernel
theorem dJ6_bitCount_0f7a4_48 : decode cJ6_bitCount_0f7a4 48 = .ok (.iload_n 0, 1) := by decide +kernel
theorem dJ6_bitCount_0f7a4_49 : decode cJ6_bitCount_0f7a4 49 = .ok (.bipush 63, 2) := by decide +kernel
theorem dJ6_bitCount_0f7a4_51 : decode cJ6_bitCount_0f7a4 51 = .ok (.iand, 1) := by decide +kernel
theorem dJ6_bitCount_0f7a4_52 : decode cJ6_bitCount_0f7a4 52 = .ok (.ireturn, 1) := by decide +kernel
theorem dJ13_bitCount_95d88_0 : decode cJ13_bitCount_95d88 0 = .ok (.lload_n 0, 1) := by decide +kernel
theorem dJ13_bitCount_95d88_1 : decode cJ13_bitCount_95d88 1 = .ok (.lload_n 0, 1) := by decide +kernel
theorem dJ13_bitCount_95d88_2 : decode cJ13_bitCount_95d88 2 = .ok (.iconst 1, 1) := by decide +kernel
theorem dJ13_bitCount_95d88_3 : decode cJ13_bitCount_95d88 3 = .ok (.lushr, 1) := by decide +kernel
theorem dJ13_bitCount_95d88_4 : decode cJ13_bitCount_95d88 4 = .ok (.ldc2_w 314, 3) := by decide +kernel
theorem dJ13_bitCount_95d88_7 : decode cJ13_bitCount_95d88 7 = .ok (.land, 1) := by decide +kernel
theorem dJ13_bitCount_95d88_8 : decode cJ13_bitCount_95d88 8 = .ok (.lsub, 1) := by decide +kernel
theorem dJ13_bitCount_95d88_9 : decode cJ13_bitCount_95d88 9 = .ok (.lstore_n 0, 1) := by decide +kernel
theorem dJ13_bitCount_95d88_10 : decode cJ13_bitCount_95d88 10 = .ok (.lload_n 0, 1) := by decide +kernel
theorem dJ13_bitCount_95d88_11 : decode cJ13_bitCount_95d88 11 = .ok (.ldc2_w 316, 3) := by decide +kernel
theorem dJ13_bitCount_95d88_14 : decode cJ13_bitCount_95d88 14 = .ok (.land, 1) := by decide +kernel
theorem dJ13_bitCount_95d88_15 : decode cJ13_bitCount_95d88 15 = .ok (.lload_n 0, 1) := by decide +kernel
theorem dJ13_bitCount_95d88_16 : decode cJ13_bitCount_95d88 16 = .ok (.iconst 2, 1) := by decide +kernel
theorem dJ13_bitCount_95d88_17 : decode cJ13_bitCount_95d88 17 = .ok (.lushr, 1) := by decide +kernel
theorem dJ13_bitCount_95d88_18 : decode cJ13_bitCount_95d88 18 = .ok (.ldc2_w 316, 3) := by decide +kernel
theorem dJ13_bitCount_95d88_21 : decode cJ13_bitCount_95d88 21 = .ok (.land, 1) := by decide +kernel
theorem dJ13_bitCount_95d88_22 : decode cJ13_bitCount_95d88 22 = .ok (.ladd, 1) := by decide +kernel
theorem dJ13_bitCount_95d88_23 : decode cJ13_bitCount_95d88 23 = .ok (.lstore_n 0, 1) := by decide +kernel
theorem dJ13_bitCount_95d88_24 : decode cJ13_bitCount_95d88 24 = .ok (.lload_n 0, 1) := by decide +kernel
theorem dJ13_bitCount_95d88_25 : decode cJ13_bitCount_95d88 25 = .ok (.lload_n 0, 1) := by decide +kernel
theorem dJ13_bitCount_95d88_26 : decode cJ13_bitCount_95d88 26 = .ok (.iconst 4, 1) := by decide +kernel
theorem dJ13_bitCount_95d88_27 : decode cJ13_bitCount_95d88 27 = .ok (.lushr, 1) := by decide +kernel
theorem dJ13_bitCount_95d88_28 : decode cJ13_bitCount_95d88 28 = .ok (.ladd, 1) := by decide +kernel
theorem dJ13_bitCount_95d88_29 : decode cJ13_bitCount_95d88 29 = .ok (.ldc2_w 318, 3) := by decide +kernel
theorem dJ13_bitCount_95d88_32 : decode cJ13_bitCount_95d88 32 = .ok (.land, 1) := by decide +kernel
theorem dJ13_bitCount_95d88_33 : decode cJ13_bitCount_95d88 33 = .ok (.lstore_n 0, 1) := by decide +kernel
theorem dJ13_bitCount_95d88_34 : decode cJ13_bitCount_95d88 34 = .ok (.lload_n 0, 1) := by decide +kernel
theorem dJ13_bitCount_95d88_35 : decode cJ13_bitCount_95d88 35 = .ok (.lload_n 0, 1) := by decide +kernel
theorem dJ13_bitCount_95d88_36 : decode cJ13_bitCount_95d88 36 = .ok (.bipush 8, 2) := by decide +kernel
theorem dJ13_bitCount_95d88_38 : decode cJ13_bitCount_95d88 38 = .ok (.lushr, 1) := by decide +kernel
theorem dJ13_bitCount_95d88_39 : decode cJ13_bitCount_95d88 39 = .ok (.ladd, 1) := by decide +kernel
theorem dJ13_bitCount_95d88_40 : decode cJ13_bitCount_95d88 40 = .ok (.lstore_n 0, 1) := by decide +kernel
theorem dJ13_bitCount_95d88_41 : decode cJ13_bitCount_95d88 41 = .ok (.lload_n 0, 1) := by decide +kernel
theorem dJ13_bitCount_95d88_42 : decode cJ13_bitCount_95d88 42 = .ok (.lload_n 0, 1) := by decide +kernel
theorem dJ13_bitCount_95d88_43 : decode cJ13_bitCount_95d88 43 = .ok (.bipush 16, 2) := by decide +kernel
theorem dJ13_bitCount_95d88_45 : decode cJ13_bitCount_95d88 45 = .ok (.lushr, 1) := by decide +kernel
theorem dJ13_bitCount_95d88_46 : decode cJ13_bitCount_95d88 46 = .ok (.ladd, 1) := by decide +kernel
theorem dJ13_bitCount_95d88_47 : decode cJ13_bitCount_95d88 47 = .ok (.lstore_n 0, 1) := by decide +kernel
theorem dJ13_bitCount_95d88_48 : decode cJ13_bitCount_95d88 48 = .ok (.lload_n 0, 1) := by decide +kernel
theorem dJ13_bitCount_95d88_49 : decode cJ13_bitCount_95d88 49 = .ok (.lload_n 0, 1) := by decide +kernel
theorem dJ13_bitCount_95d88_50 : decode cJ13_bitCount_95d88 50 = .ok (.bipush 32, 2) := by decide +kernel
theorem dJ13_bitCount_95d88_52 : decode cJ13_bitCount_95d88 52 = .ok (.lushr, 1) := by decide +kernel
theorem dJ13_bitCount_95d88_53 : decode cJ13_bitCount_95d88 53 = .ok (.ladd, 1) := by decide +kernel
theorem dJ13_bitCount_95d88_54 : decode cJ13_bitCount_95d88 54 = .ok (.lstore_n 0, 1) := by decide +kernel
theorem dJ13_bitCount_95d88_55 : decode cJ13_bitCount_95d88 55 = .ok (.lload_n 0, 1) := by decide +kernel
theorem dJ13_bitCount_95d88_56 : decode cJ13_bitCount_95d88 56 = .ok (.l2i, 1) := by decide +kernel
theorem dJ13_bitCount_95d88_57 : decode cJ13_bitCount_95d88 57 = .ok (.bipush 127, 2) := by decide +kernel
theorem dJ13_bitCount_95d88_59 : decode cJ13_bitCount_95d88 59 = .ok (.iand, 1) := by decide +kernel
theorem dJ13_bitCount_95d88_60 : decode cJ13_bitCount_95d88 60 = .ok (.ireturn, 1) := by decide +kernel
theorem dJ9_min_7cf53_0 : decode cJ9_min_7cf53 0 = .ok (.iload_n 0, 1) := by decide +kernel
theorem dJ9_min_7cf53_1 : decode cJ9_min_7cf53 1 = .ok (.iload_n 1, 1) := by decide +kernel
theorem dJ9_min_7cf53_2 : decode cJ9_min_7cf53 2 = .ok (.if_icmp .gt 7, 3) := by decide +kernel
theorem dJ9_min_7cf53_5 : decode cJ9_min_7cf53 5 = .ok (.iload_n 0, 1) := by decide +kernel
theorem dJ9_min_7cf53_6 : decode cJ9_min_7cf53 6 = .ok (.goto 4, 3) := by decide +kernel
theorem dJ9_min_7cf53_9 : decode cJ9_min_7cf53 9 = .ok (.iload_n 1, 1) := by decide +kernel
theorem dJ9_min_7cf53_10 : decode cJ9_min_7cf53 10 = .ok (.ireturn, 1) := by decide +kernel
theorem dJ0_length_8abf5_0 : decode cJ0_length_8abf5 0 = .ok (.aload_n 0, 1) := by decide +kernel
theorem dJ0_length_8abf5_1 : decode cJ0_length_8abf5 1 = .ok (.getfield 9, 3) := by decide +kernel
theorem dJ0_length_8abf5_4 : decode cJ0_length_8abf5 4 = .ok (.arraylength, 1) := by decide +kernel
theorem dJ0_length_8abf5_5 : decode cJ0_length_8abf5 5 = .ok (.aload_n 0, 1) := by decide +kernel
theorem dJ0_length_8abf5_6 : decode cJ0_length_8abf5 6 = .ok (.invokevirtual 335, 3) := by decide +kernel
theorem dJ0_length_8abf5_9 : decode cJ0_length_8abf5 9 = .ok (.ishr, 1) := by decide +kernel
theorem dJ0_length_8abf5_10 : decode cJ0_length_8abf5 10 = .ok (.ireturn, 1) := by decide +kernel
theorem dJ0_charAt_5068e_0 : decode cJ0_charAt_5068e 0 = .ok (.aload_n 0, 1) := by decide +kernel
theorem dJ0_charAt_5068e_1 : decode cJ0_charAt_5068e 1 = .ok (.invokevirtual 492, 3) := by decide +kernel
theorem dJ0_charAt_5068e_4 : decode cJ0_charAt_5068e 4 = .ok (.ifCond .eq 12, 3) := by decide +kernel
theorem dJ0_charAt_5068e_7 : decode cJ0_charAt_5068e 7 = .ok (.aload_n 0, 1) := by decide +kernel
theorem dJ0_charAt_5068e_8 : decode cJ0_charAt_5068e 8 = .ok (.getfield 9, 3) := by decide +kernel
theorem dJ0_charAt_5068e_11 : decode cJ0_charAt_5068e 11 = .ok (.iload_n 1, 1) := by decide +kernel
theorem dJ0_charAt_5068e_12 : decode cJ0_charAt_5068e 12 = .ok (.invokestatic 495, 3) := by decide +kernel
theorem dJ0_charAt_5068e_15 : decode cJ0_charAt_5068e 15 = .ok (.ireturn, 1) := by decide +kernel
theorem dJ0_charAt_5068e_16 : decode cJ0_charAt_5068e 16 = .ok (.aload_n 0, 1) := by decide +kernel
theorem dJ0_charAt_5068e_17 : decode cJ0_charAt_5068e 17 = .ok (.getfield 9, 3) := by decide +kernel
theorem dJ0_charAt_5068e_20 : decode cJ0_charAt_5068e 20 = .ok (.iload_n 1, 1) := by decide +kernel
theorem dJ0_charAt_5068e_21 : decode cJ0_charAt_5068e 21 = .ok (.invokestatic 498, 3) := by decide +kernel
theorem dJ0_charAt_5068e_24 : decode cJ0_charAt_5068e 24 = .ok (.ireturn, 1) := by decide +kernel
theorem dJ0_coder_7d493_0 : decode cJ0_coder_7d493 0 = .ok (.getstatic 38, 3) := by decide +kernel
theorem dJ0_coder_7d493_3 : decode cJ0_coder_7d493 3 = .ok (.ifCond .eq 10, 3) := by decide +kernel
theorem dJ0_coder_7d493_6 : decode cJ0_coder_7d493 6 = .ok (.aload_n 0, 1) := by decide +kernel
theorem dJ0_coder_7d493_7 : decode cJ0_coder_7d493 7 = .ok (.getfield 15, 3) := by decide +kernel
theorem dJ0_coder_7d493_10 : decode cJ0_coder_7d493 10 = .ok (.goto 4, 3) := by decide +kernel
theorem dJ0_coder_7d493_13 : decode cJ0_coder_7d493 13 = .ok (.iconst 1, 1) := by decide +kernel
theorem dJ0_coder_7d493_14 : decode cJ0_coder_7d493 14 = .ok (.ireturn, 1) := by decide +kernel
theorem dJ0_isLatin1_aae02_0 : decode cJ0_isLatin1_aae02 0 = .ok (.getstatic 38, 3) := by decide +kernel
theorem dJ0_isLatin1_aae02_3 : decode cJ0_isLatin1_aae02 3 = .ok (.ifCond .eq 14, 3) := by decide +kernel
theorem dJ0_isLatin1_aae02_6 : decode cJ0_isLatin1_aae02 6 = .ok (.aload_n 0, 1) := by decide +kernel
theorem dJ0_isLatin1_aae02_7 : decode cJ0_isLatin1_aae02 7 = .ok (.getfield 15, 3) := by decide +kernel
theorem dJ0_isLatin1_aae02_10 : decode cJ0_isLatin1_aae02 10 = .ok (.ifCond .ne 7, 3) := by decide +kernel
theorem dJ0_isLatin1_aae02_13 : decode cJ0_isLatin1_aae02 13 = .ok (.iconst 1, 1) := by decide +kernel
theorem dJ0_isLatin1_aae02_14 : decode cJ0_isLatin1_aae02 14 = .ok (.goto 4, 3) := by decide +kernel
theorem dJ0_isLatin1_aae02_17 : decode cJ0_isLatin1_aae02 17 = .ok (.iconst 0, 1) := by decide +kernel
theorem dJ0_isLatin1_aae02_18 : decode cJ0_isLatin1_aae02 18 = .ok (.ireturn, 1) := by decide +kernel
theorem dJ0_checkIndex_df160_0 : decode cJ0_checkIndex_df160 0 = .ok (.iload_n 0, 1) := by decide +kernel
theorem dJ0_checkIndex_df160_1 : decode cJ0_checkIndex_df160 1 = .ok (.iload_n 1, 1) := by decide +kernel
theorem dJ0_checkIndex_df160_2 : decode cJ0_checkIndex_df160 2 = .ok (.getstatic 1053, 3) := by decide +kernel
theorem dJ0_checkIndex_df160_5 : decode cJ0_checkIndex_df160 5 = .ok (.invokestatic 1059, 3) := by decide +kernel
theorem dJ0_checkIndex_df160_8 : decode cJ0_checkIndex_df160 8 = .ok (.pop, 1) := by decide +kernel
theorem dJ0_checkIndex_df160_9 : decode cJ0_checkIndex_df160 9 = .ok (.return_, 1) := by decide +kernel
theorem dJ1_charAt_3b067_0 : decode cJ1_charAt_3b067 0 = .ok (.iload_n 1, 1) := by decide +kernel
theorem dJ1_charAt_3b067_1 : decode cJ1_charAt_3b067 1 = .ok (.aload_n 0, 1) := by decide +kernel
theorem dJ1_charAt_3b067_2 : decode cJ1_charAt_3b067 2 = .ok (.arraylength, 1) := by decide +kernel
theorem dJ1_charAt_3b067_3 : decode cJ1_charAt_3b067 3 = .ok (.invokestatic 9, 3) := by decide +kernel
theorem dJ1_charAt_3b067_6 : decode cJ1_charAt_3b067 6 = .ok (.aload_n 0, 1) := by decide +kernel
theorem dJ1_charAt_3b067_7 : decode cJ1_charAt_3b067 7 = .ok (.iload_n 1, 1) := by decide +kernel
theorem dJ1_charAt_3b067_8 : decode cJ1_charAt_3b067 8 = .ok (.baload, 1) := by decide +kernel
theorem dJ1_charAt_3b067_9 : decode cJ1_charAt_3b067 9 = .ok (.sipush 255, 3) := by decide +kernel
theorem dJ1_charAt_3b067_12 : decode cJ1_charAt_3b067 12 = .ok (.iand, 1) := by decide +kernel
theorem dJ1_charAt_3b067_13 : decode cJ1_charAt_3b067 13 = .ok (.i2c, 1) := by decide +kernel
theorem dJ1_charAt_3b067_14 : decode cJ1_charAt_3b067 14 = .ok (.ireturn, 1) := by decide +kernel
theorem dJ2_getChar_3b067_0 : decode cJ2_getChar_3b067 0 = .ok (.getstatic 44, 3) := by decide +kernel
theorem dJ2_getChar_3b067_3 : decode cJ2_getChar_3b067 3 = .ok (.ifCond .ne 25, 3) := by decide +kernel
theorem dJ2_getChar_3b067_6 : decode cJ2_getChar_3b067 6 = .ok (.iload_n 1, 1) := by decide +kernel
theorem dJ2_getChar_3b067_7 : decode cJ2_getChar_3b067 7 = .ok (.ifCond .lt 11, 3) := by decide +kernel
theorem dJ2_getChar_3b067_10 : decode cJ2_getChar_3b067 10 = .ok (.iload_n 1, 1) := by decide +kernel
theorem dJ2_getChar_3b067_11 : decode cJ2_getChar_3b067 11 = .ok (.aload_n 0, 1) := by decide +kernel
theorem dJ2_getChar_3b067_12 : decode cJ2_getChar_3b067 12 = .ok (.invokestatic 48, 3) := by decide +kernel
theorem dJ2_getChar_3b067_15 : decode cJ2_getChar_3b067 15 = .ok (.if_icmp .lt 13, 3) := by decide +kernel
theorem dJ2_getChar_3b067_18 : decode cJ2_getChar_3b067 18 = .ok (.new 52, 3) := by decide +kernel
theorem dJ2_getChar_3b067_21 : decode cJ2_getChar_3b067 21 = .ok (.dup, 1) := by decide +kernel
theorem dJ2_getChar_3b067_22 : decode cJ2_getChar_3b067 22 = .ok (.ldc 54, 2) := by decide +kernel
theorem dJ2_getChar_3b067_24 : decode cJ2_getChar_3b067 24 = .ok (.invokespecial 56, 3) := by decide +kernel
theorem dJ2_getChar_3b067_27 : decode cJ2_getChar_3b067 27 = .ok (.athrow, 1) := by decide +kernel
theorem dJ2_getChar_3b067_28 : decode cJ2_getChar_3b067 28 = .ok (.iload_n 1, 1) := by decide +kernel
theorem dJ2_getChar_3b067_29 : decode cJ2_getChar_3b067 29 = .ok (.iconst 1, 1) := by decide +kernel
theorem dJ2_getChar_3b067_30 : decode cJ2_getChar_3b067 30 = .ok (.ishl, 1) := by decide +kernel
theorem dJ2_getChar_3b067_31 : decode cJ2_getChar_3b067 31 = .ok (.istore_n 1, 1) := by decide +kernel
theorem dJ2_getChar_3b067_32 : decode cJ2_getChar_3b067 32 = .ok (.aload_n 0, 1) := by decide +kernel
theorem dJ2_getChar_3b067_33 : decode cJ2_getChar_3b067 33 = .ok (.iload_n 1, 1) := by decide +kernel
theorem dJ2_getChar_3b067_34 : decode cJ2_getChar_3b067 34 = .ok (.iinc 1 1, 3) := by decide +kernel
theorem dJ2_getChar_3b067_37 : decode cJ2_getChar_3b067 37 = .ok (.baload, 1) := by decide +kernel
theorem dJ2_getChar_3b067_38 : decode cJ2_getChar_3b067 38 = .ok (.sipush 255, 3) := by decide +kernel
theorem dJ2_getChar_3b067_41 : decode cJ2_getChar_3b067 41 = .ok (.iand, 1) := by decide +kernel
theorem dJ2_getChar_3b067_42 : decode cJ2_getChar_3b067 42 = .ok (.getstatic 59, 3) := by decide +kernel
theorem dJ2_getChar_3b067_45 : decode cJ2_getChar_3b067 45 = .ok (.ishl, 1) := by decide +kernel
theorem dJ2_getChar_3b067_46 : decode cJ2_getChar_3b067 46 = .ok (.aload_n 0, 1) := by decide +kernel
theorem dJ2_getChar_3b067_47 : decode cJ2_getChar_3b067 47 = .ok (.iload_n 1, 1) := by decide +kernel
theorem dJ2_getChar_3b067_48 : decode cJ2_getChar_3b067 48 = .ok (.baload, 1) := by decide +kernel
theorem dJ2_getChar_3b067_49 : decode cJ2_getChar_3b067 49 = .ok (.sipush 255, 3) := by decide +kernel
theorem dJ2_getChar_3b067_52 : decode cJ2_getChar_3b067 52 = .ok (.iand, 1) := by decide +kernel
theorem dJ2_getChar_3b067_53 : decode cJ2_getChar_3b067 53 = .ok (.getstatic 63, 3) := by decide +kernel
theorem dJ2_getChar_3b067_56 : decode cJ2_getChar_3b067 56 = .ok (.ishl, 1) := by decide +kernel
theorem dJ2_getChar_3b067_57 : decode cJ2_getChar_3b067 57 = .ok (.ior, 1) := by decide +kernel
theorem dJ2_getChar_3b067_58 : decode cJ2_getChar_3b067 58 = .ok (.i2c, 1) := by decide +kernel
theorem dJ2_getChar_3b067_59 : decode cJ2_getChar_3b067 59 = .ok (.ireturn, 1) := by decide +kernel
theorem dJ2_length_9d52b_0 : decode cJ2_length_9d52b 0 = .ok (.aload_n 0, 1) := by decide +kernel
theorem dJ2_length_9d52b_1 : decode cJ2_length_9d52b 1 = .ok (.arraylength, 1) := by decide +kernel
theorem dJ2_length_9d52b_2 : decode cJ2_length_9d52b 2 = .ok (.iconst 1, 1) := by decide +kernel
theorem dJ2_length_9d52b_3 : decode cJ2_length_9d52b 3 = .ok (.ishr, 1) := by decide +kernel
theorem dJ2_length_9d52b_4 : decode cJ2_length_9d52b 4 = .ok (.ireturn, 1) := by decide +kernel
theorem dJ2_charAt_3b067_0 : decode cJ2_charAt_3b067 0 = .ok (.iload_n 1, 1) := by decide +kernel
theorem dJ2_charAt_3b067_1 : decode cJ2_charAt_3b067 1 = .ok (.aload_n 0, 1) := by decide +kernel
theorem dJ2_charAt_3b067_2 : decode cJ2_charAt_3b067 2 = .ok (.invokestatic 67, 3) := by decide +kernel
theorem dJ2_charAt_3b067_5 : decode cJ2_charAt_3b067 5 = .ok (.aload_n 0, 1) := by decide +kernel
theorem dJ2_charAt_3b067_6 : decode cJ2_charAt_3b067 6 = .ok (.iload_n 1, 1) := by decide +kernel
theorem dJ2_charAt_3b067_7 : decode cJ2_charAt_3b067 7 = .ok (.invokestatic 71, 3) := by decide +kernel
theorem dJ2_charAt_3b067_10 : decode cJ2_charAt_3b067 10 = .ok (.ireturn, 1) := by decide +kernel
theorem dJ2_checkIndex_2214a_0 : decode cJ2_checkIndex_2214a 0 = .ok (.iload_n 0, 1) := by decide +kernel
theorem dJ2_checkIndex_2214a_1 : decode cJ2_checkIndex_2214a 1 = .ok (.aload_n 1, 1) := by decide +kernel
theorem dJ2_checkIndex_2214a_2 : decode cJ2_checkIndex_2214a 2 = .ok (.invokestatic 48, 3) := by decide +kernel
theorem dJ2_checkIndex_2214a_5 : decode cJ2_checkIndex_2214a 5 = .ok (.invokestatic 414, 3) := by decide +kernel
theorem dJ2_checkIndex_2214a_8 : decode cJ2_checkIndex_2214a 8 = .ok (.return_, 1) := by decide +kernel
theorem dJ7_fill_d0a16_0 : decode cJ7_fill_d0a16 0 = .ok (.iconst 0, 1) := by decide +kernel
theorem dJ7_fill_d0a16_1 : decode cJ7_fill_d0a16 1 = .ok (.istore_n 3, 1) := by decide +kernel
theorem dJ7_fill_d0a16_2 : decode cJ7_fill_d0a16 2 = .ok (.aload_n 0, 1) := by decide +kernel
theorem dJ7_fill_d0a16_3 : decode cJ7_fill_d0a16 3 = .ok (.arraylength, 1) := by decide +kernel
theorem dJ7_fill_d0a16_4 : decode cJ7_fill_d0a16 4 = .ok (.istore 4, 2) := by decide +kernel
theorem dJ7_fill_d0a16_6 : decode cJ7_fill_d0a16 6 = .ok (.iload_n 3, 1) := by decide +kernel
theorem dJ7_fill_d0a16_7 : decode cJ7_fill_d0a16 7 = .ok (.iload 4, 2) := by decide +kernel
theorem dJ7_fill_d0a16_9 : decode cJ7_fill_d0a16 9 = .ok (.if_icmp .ge 13, 3) := by decide +kernel
theorem dJ7_fill_d0a16_12 : decode cJ7_fill_d0a16 12 = .ok (.aload_n 0, 1) := by decide +kernel
theorem dJ7_fill_d0a16_13 : decode cJ7_fill_d0a16 13 = .ok (.iload_n 3, 1) := by decide +kernel
theorem dJ7_fill_d0a16_14 : decode cJ7_fill_d0a16 14 = .ok (.lload_n 1, 1) := by decide +kernel
theorem dJ7_fill_d0a16_15 : decode cJ7_fill_d0a16 15 = .ok (.lastore, 1) := by decide +kernel
theorem dJ7_fill_d0a16_16 : decode cJ7_fill_d0a16 16 = .ok (.iinc 3 1, 3) := by decide +kernel
theorem dJ7_fill_d0a16_19 : decode cJ7_fill_d0a16 19 = .ok (.goto (-13), 3) := by decide +kernel
theorem dJ7_fill_d0a16_22 : decode cJ7_fill_d0a16 22 = .ok (.return_, 1) := by decide +kernel
theorem dJ7_fill_53178_0 : decode cJ7_fill_53178 0 = .ok (.iconst 0, 1) := by decide +kernel
theorem dJ7_fill_53178_1 : decode cJ7_fill_53178 1 = .ok (.istore_n 2, 1) := by decide +kernel
theorem dJ7_fill_53178_2 : decode cJ7_fill_53178 2 = .ok (.aload_n 0, 1) := by decide +kernel
theorem dJ7_fill_53178_3 : decode cJ7_fill_53178 3 = .ok (.arraylength, 1) := by decide +kernel
theorem dJ7_fill_53178_4 : decode cJ7_fill_53178 4 = .ok (.istore_n 3, 1) := by decide +kernel
theorem dJ7_fill_53178_5 : decode cJ7_fill_53178 5 = .ok (.iload_n 2, 1) := by decide +kernel
theorem dJ7_fill_53178_6 : decode cJ7_fill_53178 6 = .ok (.iload_n 3, 1) := by decide +kernel
theorem dJ7_fill_53178_7 : decode cJ7_fill_53178 7 = .ok (.if_icmp .ge 13, 3) := by decide +kernel
theorem dJ7_fill_53178_10 : decode cJ7_fill_53178 10 = .ok (.aload_n 0, 1) := by decide +kernel
theorem dJ7_fill_53178_11 : decode cJ7_fill_53178 11 = .ok (.iload_n 2, 1) := by decide +kernel
theorem dJ7_fill_53178_12 : decode cJ7_fill_53178 12 = .ok (.iload_n 1, 1) := by decide +kernel
theorem dJ7_fill_53178_13 : decode cJ7_fill_53178 13 = .ok (.iastore, 1) := by decide +kernel
theorem dJ7_fill_53178_14 : decode cJ7_fill_53178 14 = .ok (.iinc 2 1, 3) := by decide +kernel
theorem dJ7_fill_53178_17 : decode cJ7_fill_53178 17 = .ok (.goto (-12), 3) := by decide +kernel
theorem dJ7_fill_53178_20 : decode cJ7_fill_53178 20 = .ok (.return_, 1) := by decide +kernel
theorem dJ3_checkIndex_8e157_0 : decode cJ3_checkIndex_8e157 0 = .ok (.iload_n 0, 1) := by decide +kernel
theorem dJ3_checkIndex_8e157_1 : decode cJ3_checkIndex_8e157 1 = .ok (.ifCond .lt 8, 3) := by decide +kernel
theorem dJ3_checkIndex_8e157_4 : decode cJ3_checkIndex_8e157 4 = .ok (.iload_n 0, 1) := by decide +kernel
theorem dJ3_checkIndex_8e157_5 : decode cJ3_checkIndex_8e157 5 = .ok (.iload_n 1, 1) := by decide +kernel
theorem dJ3_checkIndex_8e157_6 : decode cJ3_checkIndex_8e157 6 = .ok (.if_icmp .lt 10, 3) := by decide +kernel
theorem dJ3_checkIndex_8e157_9 : decode cJ3_checkIndex_8e157 9 = .ok (.aload_n 2, 1) := by decide +kernel
theorem dJ3_checkIndex_8e157_10 : decode cJ3_checkIndex_8e157 10 = .ok (.iload_n 0, 1) := by decide +kernel
theorem dJ3_checkIndex_8e157_11 : decode cJ3_checkIndex_8e157 11 = .ok (.iload_n 1, 1) := by decide +kernel
theorem dJ3_checkIndex_8e157_12 : decode cJ3_checkIndex_8e157 12 = .ok (.invokestatic 95, 3) := by decide +kernel
theorem dJ3_checkIndex_8e157_15 : decode cJ3_checkIndex_8e157 15 = .ok (.athrow, 1) := by decide +kernel
theorem dJ3_checkIndex_8e157_16 : decode cJ3_checkIndex_8e157 16 = .ok (.iload_n 0, 1) := by decide +kernel
theorem dJ3_checkIndex_8e157_17 : decode cJ3_checkIndex_8e157 17 = .ok (.ireturn, 1) := by decide +kernel
theorem dX0_init_0 : decode cX0_init 0 = .ok (.aload_n 0, 1) := by decide +kernel
theorem dX0_init_1 : decode cX0_init 1 = .ok (.invokespecial 3, 3) := by decide +kernel
theorem dX0_init_4 : decode cX0_init 4 = .ok (.aload_n 0, 1) := by decide +kernel
theorem dX0_init_5 : decode cX0_init 5 = .ok (.bipush 6, 2) := by decide +kernel
theorem dX0_init_7 : decode cX0_init 7 = .ok (.anewarray 9, 3) := by decide +kernel
theorem dX0_init_10 : decode cX0_init 10 = .ok (.putfield 11, 3) := by decide +kernel
theorem dX0_init_13 : decode cX0_init 13 = .ok (.aload_n 0, 1) := by decide +kernel
theorem dX0_init_14 : decode cX0_init 14 = .ok (.bipush 16, 2) := by decide +kernel
theorem dX0_init_16 : decode cX0_init 16 = .ok (.newarray .int, 2) := by decide +kernel
theorem dX0_init_18 : decode cX0_init 18 = .ok (.putfield 17, 3) := by decide +kernel
theorem dX0_init_21 : decode cX0_init 21 = .ok (.aload_n 0, 1) := by decide +kernel
theorem dX0_init_22 : decode cX0_init 22 = .ok (.bipush 64, 2) := by decide +kernel
theorem dX0_init_24 : decode cX0_init 24 = .ok (.newarray .int, 2) := by decide +kernel
theorem dX0_init_26 : decode cX0_init 26 = .ok (.putfield 21, 3) := by decide +kernel
theorem dX0_init_29 : decode cX0_init 29 = .ok (.iconst 0, 1) := by decide +kernel
theorem dX0_init_30 : decode cX0_init 30 = .ok (.istore_n 1, 1) := by decide +kernel
theorem dX0_init_31 : decode cX0_init 31 = .ok (.iload_n 1, 1) := by decide +kernel
theorem dX0_init_32 : decode cX0_init 32 = .ok (.bipush 6, 2) := by decide +kernel
theorem dX0_init_34 : decode cX0_init 34 = .ok (.if_icmp .ge 22, 3) := by decide +kernel
theorem dX0_init_37 : decode cX0_init 37 = .ok (.aload_n 0, 1) := by decide +kernel
theorem dX0_init_38 : decode cX0_init 38 = .ok (.getfield 11, 3) := by decide +kernel
theorem dX0_init_41 : decode cX0_init 41 = .ok (.iload_n 1, 1) := by decide +kernel
theorem dX0_init_42 : decode cX0_init 42 = .ok (.new 9, 3) := by decide +kernel
theorem dX0_init_45 : decode cX0_init 45 = .ok (.dup, 1) := by decide +kernel
theorem dX0_init_46 : decode cX0_init 46 = .ok (.invokespecial 24, 3) := by decide +kernel
theorem dX0_init_49 : decode cX0_init 49 = .ok (.aastore, 1) := by decide +kernel
theorem dX0_init_50 : decode cX0_init 50 = .ok (.iinc 1 1, 3) := by decide +kernel
theorem dX0_init_53 : decode cX0_init 53 = .ok (.goto (-22), 3) := by decide +kernel
theorem dX0_init_56 : decode cX0_init 56 = .ok (.return_, 1) := by decide +kernel
theorem dX0_become_0 : decode cX0_become 0 = .ok (.aload_n 0, 1) := by decide +kernel
theorem dX0_become_1 : decode cX0_become 1 = .ok (.aload_n 1, 1) := by decide +kernel
theorem dX0_become_2 : decode cX0_become 2 = .ok (.getfield 25, 3) := by decide +kernel
theorem dX0_become_5 : decode cX0_become 5 = .ok (.putfield 25, 3) := by decide +kernel
theorem dX0_become_8 : decode cX0_become 8 = .ok (.aload_n 0, 1) := by decide +kernel
theorem dX0_become_9 : decode cX0_become 9 = .ok (.aload_n 1, 1) := by decide +kernel
theorem dX0_become_10 : decode cX0_become 10 = .ok (.getfield 29, 3) := by decide +kernel
theorem dX0_become_13 : decode cX0_become 13 = .ok (.putfield 29, 3) := by decide +kernel
theorem dX0_become_16 : decode cX0_become 16 = .ok (.aload_n 1, 1) := by decide +kernel
theorem dX0_become_17 : decode cX0_become 17 = .ok (.getfield 17, 3) := by decide +kernel
theorem dX0_become_20 : decode cX0_become 20 = .ok (.iconst 0, 1) := by decide +kernel
theorem dX0_become_21 : decode cX0_become 21 = .ok (.aload_n 0, 1) := by decide +kernel
theorem dX0_become_22 : decode cX0_become 22 = .ok (.getfield 17, 3) := by decide +kernel
theorem dX0_become_25 : decode cX0_become 25 = .ok (.iconst 0, 1) := by decide +kernel
theorem dX0_become_26 : decode cX0_become 26 = .ok (.bipush 16, 2) := by decide +kernel
theorem dX0_become_28 : decode cX0_become 28 = .ok (.invokestatic 32, 3) := by decide +kernel
theorem dX0_become_31 : decode cX0_become 31 = .ok (.aload_n 1, 1) := by decide +kernel
theorem dX0_become_32 : decode cX0_become 32 = .ok (.getfield 21, 3) := by decide +kernel
theorem dX0_become_35 : decode cX0_become 35 = .ok (.iconst 0, 1) := by decide +kernel
theorem dX0_become_36 : decode cX0_become 36 = .ok (.aload_n 0, 1) := by decide +kernel
theorem dX0_become_37 : decode cX0_become 37 = .ok (.getfield 21, 3) := by decide +kernel
theorem dX0_become_40 : decode cX0_become 40 = .ok (.iconst 0, 1) := by decide +kernel
theorem dX0_become_41 : decode cX0_become 41 = .ok (.bipush 64, 2) := by decide +kernel
theorem dX0_become_43 : decode cX0_become 43 = .ok (.invokestatic 32, 3) := by decide +kernel
theorem dX0_become_46 : decode cX0_become 46 = .ok (.iconst 0, 1) := by decide +kernel
theorem dX0_become_47 : decode cX0_become 47 = .ok (.istore_n 2, 1) := by decide +kernel
theorem dX0_become_48 : decode cX0_become 48 = .ok (.iload_n 2, 1) := by decide +kernel
theorem dX0_become_49 : decode cX0_become 49 = .ok (.bipush 6, 2) := by decide +kernel
theorem dX0_become_51 : decode cX0_become 51 = .ok (.if_icmp .ge 24, 3) := by decide +kernel
theorem dX0_become_54 : decode cX0_become 54 = .ok (.aload_n 0, 1) := by decide +kernel
theorem dX0_become_55 : decode cX0_become 55 = .ok (.getfield 11, 3) := by decide +kernel
theorem dX0_become_58 : decode cX0_become 58 = .ok (.iload_n 2, 1) := by decide +kernel
theorem dX0_become_59 : decode cX0_become 59 = .ok (.aaload, 1) := by decide +kernel
theorem dX0_become_60 : decode cX0_become 60 = .ok (.aload_n 1, 1) := by decide +kernel
theorem dX0_become_61 : decode cX0_become 61 = .ok (.getfield 11, 3) := by decide +kernel
theorem dX0_become_64 : decode cX0_become 64 = .ok (.iload_n 2, 1) := by decide +kernel
theorem dX0_become_65 : decode cX0_become 65 = .ok (.aaload, 1) := by decide +kernel
theorem dX0_become_66 : decode cX0_become 66 = .ok (.invokevirtual 38, 3) := by decide +kernel
theorem dX0_become_69 : decode cX0_become 69 = .ok (.iinc 2 1, 3) := by decide +kernel
theorem dX0_become_72 : decode cX0_become 72 = .ok (.goto (-24), 3) := by decide +kernel
theorem dX0_become_75 : decode cX0_become 75 = .ok (.return_, 1) := by decide +kernel
theorem dX0_hasField_0 : decode cX0_hasField 0 = .ok (.iload_n 1, 1) := by decide +kernel
theorem dX0_hasField_1 : decode cX0_hasField 1 = .ok (.ifCond .lt 15, 3) := by decide +kernel
theorem dX0_hasField_4 : decode cX0_hasField 4 = .ok (.iload_n 1, 1) := by decide +kernel
theorem dX0_hasField_5 : decode cX0_hasField 5 = .ok (.aload_n 0, 1) := by decide +kernel
theorem dX0_hasField_6 : decode cX0_hasField 6 = .ok (.getfield 25, 3) := by decide +kernel
theorem dX0_hasField_9 : decode cX0_hasField 9 = .ok (.if_icmp .ge 7, 3) := by decide +kernel
theorem dX0_hasField_12 : decode cX0_hasField 12 = .ok (.iconst 1, 1) := by decide +kernel
theorem dX0_hasField_13 : decode cX0_hasField 13 = .ok (.goto 4, 3) := by decide +kernel
theorem dX0_hasField_16 : decode cX0_hasField 16 = .ok (.iconst 0, 1) := by decide +kernel
theorem dX0_hasField_17 : decode cX0_hasField 17 = .ok (.ireturn, 1) := by decide +kernel
theorem dX0_hasWay_0 : decode cX0_hasWay 0 = .ok (.aload_n 0, 1) := by decide +kernel
theorem dX0_hasWay_1 : decode cX0_hasWay 1 = .ok (.iload_n 1, 1) := by decide +kernel
theorem dX0_hasWay_2 : decode cX0_hasWay 2 = .ok (.invokevirtual 42, 3) := by decide +kernel
theorem dX0_hasWay_5 : decode cX0_hasWay 5 = .ok (.ifCond .eq 16, 3) := by decide +kernel
theorem dX0_hasWay_8 : decode cX0_hasWay 8 = .ok (.iload_n 2, 1) := by decide +kernel
theorem dX0_hasWay_9 : decode cX0_hasWay 9 = .ok (.ifCond .lt 12, 3) := by decide +kernel
theorem dX0_hasWay_12 : decode cX0_hasWay 12 = .ok (.iload_n 2, 1) := by decide +kernel
theorem dX0_hasWay_13 : decode cX0_hasWay 13 = .ok (.iconst 4, 1) := by decide +kernel
theorem dX0_hasWay_14 : decode cX0_hasWay 14 = .ok (.if_icmp .ge 7, 3) := by decide +kernel
theorem dX0_hasWay_17 : decode cX0_hasWay 17 = .ok (.iconst 1, 1) := by decide +kernel
theorem dX0_hasWay_18 : decode cX0_hasWay 18 = .ok (.goto 4, 3) := by decide +kernel
theorem dX0_hasWay_21 : decode cX0_hasWay 21 = .ok (.iconst 0, 1) := by decide +kernel
theorem dX0_hasWay_22 : decode cX0_hasWay 22 = .ok (.ireturn, 1) := by decide +kernel
theorem dX0_hasWalker_0 : decode cX0_hasWalker 0 = .ok (.iload_n 1, 1) := by decide +kernel
theorem dX0_hasWalker_1 : decode cX0_hasWalker 1 = .ok (.ifCond .lt 15, 3) := by decide +kernel
theorem dX0_hasWalker_4 : decode cX0_hasWalker 4 = .ok (.iload_n 1, 1) := by decide +kernel
theorem dX0_hasWalker_5 : decode cX0_hasWalker 5 = .ok (.aload_n 0, 1) := by decide +kernel
theorem dX0_hasWalker_6 : decode cX0_hasWalker 6 = .ok (.getfield 29, 3) := by decide +kernel
theorem dX0_hasWalker_9 : decode cX0_hasWalker 9 = .ok (.if_icmp .ge 7, 3) := by decide +kernel
theorem dX0_hasWalker_12 : decode cX0_hasWalker 12 = .ok (.iconst 1, 1) := by decide +kernel
theorem dX0_hasWalker_13 : decode cX0_hasWalker 13 = .ok (.goto 4, 3) := by decide +kernel
theorem dX0_hasWalker_16 : decode cX0_hasWalker 16 = .ok (.iconst 0, 1) := by decide +kernel
theorem dX0_hasWalker_17 : decode cX0_hasWalker 17 = .ok (.ireturn, 1) := by decide +kernel
theorem dX0_ways_0 : decode cX0_ways 0 = .ok (.aload_n 0, 1) := by decide +kernel
theorem dX0_ways_1 : decode cX0_ways 1 = .ok (.getfield 25, 3) := by decide +kernel
theorem dX0_ways_4 : decode cX0_ways 4 = .ok (.iconst 4, 1) := by decide +kernel
theorem dX0_ways_5 : decode cX0_ways 5 = .ok (.imul, 1) := by decide +kernel
theorem dX0_ways_6 : decode cX0_ways 6 = .ok (.ireturn, 1) := by decide +kernel
theorem dX0_addField_0 : decode cX0_addField 0 = .ok (.aload_n 0, 1) := by decide +kernel
theorem dX0_addField_1 : decode cX0_addField 1 = .ok (.getfield 25, 3) := by decide +kernel
theorem dX0_addField_4 : decode cX0_addField 4 = .ok (.bipush 16, 2) := by decide +kernel
theorem dX0_addField_6 : decode cX0_addField 6 = .ok (.if_icmp .lt 5, 3) := by decide +kernel
theorem dX0_addField_9 : decode cX0_addField 9 = .ok (.iconst (-1), 1) := by decide +kernel
theorem dX0_addField_10 : decode cX0_addField 10 = .ok (.ireturn, 1) := by decide +kernel
theorem dX0_addField_11 : decode cX0_addField 11 = .ok (.aload_n 0, 1) := by decide +kernel
theorem dX0_addField_12 : decode cX0_addField 12 = .ok (.getfield 25, 3) := by decide +kernel
theorem dX0_addField_15 : decode cX0_addField 15 = .ok (.istore_n 2, 1) := by decide +kernel
theorem dX0_addField_16 : decode cX0_addField 16 = .ok (.aload_n 0, 1) := by decide +kernel
theorem dX0_addField_17 : decode cX0_addField 17 = .ok (.getfield 17, 3) := by decide +kernel
theorem dX0_addField_20 : decode cX0_addField 20 = .ok (.iload_n 2, 1) := by decide +kernel
theorem dX0_addField_21 : decode cX0_addField 21 = .ok (.iload_n 1, 1) := by decide +kernel
theorem dX0_addField_22 : decode cX0_addField 22 = .ok (.iastore, 1) := by decide +kernel
theorem dX0_addField_23 : decode cX0_addField 23 = .ok (.iconst 0, 1) := by decide +kernel
theorem dX0_addField_24 : decode cX0_addField 24 = .ok (.istore_n 3, 1) := by decide +kernel
theorem dX0_addField_25 : decode cX0_addField 25 = .ok (.iload_n 3, 1) := by decide +kernel
theorem dX0_addField_26 : decode cX0_addField 26 = .ok (.iconst 4, 1) := by decide +kernel
theorem dX0_addField_27 : decode cX0_addField 27 = .ok (.if_icmp .ge 20, 3) := by decide +kernel
theorem dX0_addField_30 : decode cX0_addField 30 = .ok (.aload_n 0, 1) := by decide +kernel
theorem dX0_addField_31 : decode cX0_addField 31 = .ok (.getfield 21, 3) := by decide +kernel
theorem dX0_addField_34 : decode cX0_addField 34 = .ok (.iload_n 2, 1) := by decide +kernel
theorem dX0_addField_35 : decode cX0_addField 35 = .ok (.iload_n 3, 1) := by decide +kernel
theorem dX0_addField_36 : decode cX0_addField 36 = .ok (.invokestatic 46, 3) := by decide +kernel
theorem dX0_addField_39 : decode cX0_addField 39 = .ok (.iconst (-1), 1) := by decide +kernel
theorem dX0_addField_40 : decode cX0_addField 40 = .ok (.iastore, 1) := by decide +kernel
theorem dX0_addField_41 : decode cX0_addField 41 = .ok (.iinc 3 1, 3) := by decide +kernel
theorem dX0_addField_44 : decode cX0_addField 44 = .ok (.goto (-19), 3) := by decide +kernel
theorem dX0_addField_47 : decode cX0_addField 47 = .ok (.aload_n 0, 1) := by decide +kernel
theorem dX0_addField_48 : decode cX0_addField 48 = .ok (.dup, 1) := by decide +kernel
theorem dX0_addField_49 : decode cX0_addField 49 = .ok (.getfield 25, 3) := by decide +kernel
theorem dX0_addField_52 : decode cX0_addField 52 = .ok (.iconst 1, 1) := by decide +kernel
theorem dX0_addField_53 : decode cX0_addField 53 = .ok (.iadd, 1) := by decide +kernel
theorem dX0_addField_54 : decode cX0_addField 54 = .ok (.putfield 25, 3) := by decide +kernel
theorem dX0_addField_57 : decode cX0_addField 57 = .ok (.iload_n 2, 1) := by decide +kernel
theorem dX0_addField_58 : decode cX0_addField 58 = .ok (.ireturn, 1) := by decide +kernel
theorem dX0_addWalker_0 : decode cX0_addWalker 0 = .ok (.aload_n 0, 1) := by decide +kernel
theorem dX0_addWalker_1 : decode cX0_addWalker 1 = .ok (.getfield 29, 3) := by decide +kernel
theorem dX0_addWalker_4 : decode cX0_addWalker 4 = .ok (.bipush 6, 2) := by decide +kernel
theorem dX0_addWalker_6 : decode cX0_addWalker 6 = .ok (.if_icmp .lt 5, 3) := by decide +kernel
theorem dX0_addWalker_9 : decode cX0_addWalker 9 = .ok (.iconst (-1), 1) := by decide +kernel
theorem dX0_addWalker_10 : decode cX0_addWalker 10 = .ok (.ireturn, 1) := by decide +kernel
theorem dX0_addWalker_11 : decode cX0_addWalker 11 = .ok (.aload_n 0, 1) := by decide +kernel
theorem dX0_addWalker_12 : decode cX0_addWalker 12 = .ok (.getfield 11, 3) := by decide +kernel
theorem dX0_addWalker_15 : decode cX0_addWalker 15 = .ok (.aload_n 0, 1) := by decide +kernel
theorem dX0_addWalker_16 : decode cX0_addWalker 16 = .ok (.getfield 29, 3) := by decide +kernel
theorem dX0_addWalker_19 : decode cX0_addWalker 19 = .ok (.aaload, 1) := by decide +kernel
theorem dX0_addWalker_20 : decode cX0_addWalker 20 = .ok (.iload_n 1, 1) := by decide +kernel
theorem dX0_addWalker_21 : decode cX0_addWalker 21 = .ok (.iload_n 2, 1) := by decide +kernel
theorem dX0_addWalker_22 : decode cX0_addWalker 22 = .ok (.invokevirtual 50, 3) := by decide +kernel
theorem dX0_addWalker_25 : decode cX0_addWalker 25 = .ok (.aload_n 0, 1) := by decide +kernel
theorem dX0_addWalker_26 : decode cX0_addWalker 26 = .ok (.dup, 1) := by decide +kernel
theorem dX0_addWalker_27 : decode cX0_addWalker 27 = .ok (.getfield 29, 3) := by decide +kernel
theorem dX0_addWalker_30 : decode cX0_addWalker 30 = .ok (.iconst 1, 1) := by decide +kernel
theorem dX0_addWalker_31 : decode cX0_addWalker 31 = .ok (.iadd, 1) := by decide +kernel
theorem dX0_addWalker_32 : decode cX0_addWalker 32 = .ok (.putfield 29, 3) := by decide +kernel
theorem dX0_addWalker_35 : decode cX0_addWalker 35 = .ok (.aload_n 0, 1) := by decide +kernel
theorem dX0_addWalker_36 : decode cX0_addWalker 36 = .ok (.getfield 29, 3) := by decide +kernel
theorem dX0_addWalker_39 : decode cX0_addWalker 39 = .ok (.iconst 1, 1) := by decide +kernel
theorem dX0_addWalker_40 : decode cX0_addWalker 40 = .ok (.isub, 1) := by decide +kernel
theorem dX0_addWalker_41 : decode cX0_addWalker 41 = .ok (.ireturn, 1) := by decide +kernel
theorem dX0_roughOf_0 : decode cX0_roughOf 0 = .ok (.aload_n 0, 1) := by decide +kernel
theorem dX0_roughOf_1 : decode cX0_roughOf 1 = .ok (.iload_n 1, 1) := by decide +kernel
theorem dX0_roughOf_2 : decode cX0_roughOf 2 = .ok (.invokevirtual 42, 3) := by decide +kernel
theorem dX0_roughOf_5 : decode cX0_roughOf 5 = .ok (.ifCond .eq 12, 3) := by decide +kernel
theorem dX0_roughOf_8 : decode cX0_roughOf 8 = .ok (.aload_n 0, 1) := by decide +kernel
theorem dX0_roughOf_9 : decode cX0_roughOf 9 = .ok (.getfield 17, 3) := by decide +kernel
theorem dX0_roughOf_12 : decode cX0_roughOf 12 = .ok (.iload_n 1, 1) := by decide +kernel
theorem dX0_roughOf_13 : decode cX0_roughOf 13 = .ok (.iaload, 1) := by decide +kernel
theorem dX0_roughOf_14 : decode cX0_roughOf 14 = .ok (.goto 4, 3) := by decide +kernel
theorem dX0_roughOf_17 : decode cX0_roughOf 17 = .ok (.iconst 0, 1) := by decide +kernel
theorem dX0_roughOf_18 : decode cX0_roughOf 18 = .ok (.ireturn, 1) := by decide +kernel
theorem dX0_makeRough_0 : decode cX0_makeRough 0 = .ok (.aload_n 0, 1) := by decide +kernel
theorem dX0_makeRough_1 : decode cX0_makeRough 1 = .ok (.iload_n 1, 1) := by decide +kernel
theorem dX0_makeRough_2 : decode cX0_makeRough 2 = .ok (.invokevirtual 42, 3) := by decide +kernel
theorem dX0_makeRough_5 : decode cX0_makeRough 5 = .ok (.ifCond .eq 10, 3) := by decide +kernel
theorem dX0_makeRough_8 : decode cX0_makeRough 8 = .ok (.aload_n 0, 1) := by decide +kernel
theorem dX0_makeRough_9 : decode cX0_makeRough 9 = .ok (.getfield 17, 3) := by decide +kernel
theorem dX0_makeRough_12 : decode cX0_makeRough 12 = .ok (.iload_n 1, 1) := by decide +kernel
theorem dX0_makeRough_13 : decode cX0_makeRough 13 = .ok (.iload_n 2, 1) := by decide +kernel
theorem dX0_makeRough_14 : decode cX0_makeRough 14 = .ok (.iastore, 1) := by decide +kernel
theorem dX0_makeRough_15 : decode cX0_makeRough 15 = .ok (.return_, 1) := by decide +kernel
theorem dX0_gluedTo_0 : decode cX0_gluedTo 0 = .ok (.iload_n 1, 1) := by decide +kernel
theorem dX0_gluedTo_1 : decode cX0_gluedTo 1 = .ok (.ifCond .lt 20, 3) := by decide +kernel
theorem dX0_gluedTo_4 : decode cX0_gluedTo 4 = .ok (.iload_n 1, 1) := by decide +kernel
theorem dX0_gluedTo_5 : decode cX0_gluedTo 5 = .ok (.aload_n 0, 1) := by decide +kernel
theorem dX0_gluedTo_6 : decode cX0_gluedTo 6 = .ok (.invokevirtual 54, 3) := by decide +kernel
theorem dX0_gluedTo_9 : decode cX0_gluedTo 9 = .ok (.if_icmp .ge 12, 3) := by decide +kernel
theorem dX0_gluedTo_12 : decode cX0_gluedTo 12 = .ok (.aload_n 0, 1) := by decide +kernel
theorem dX0_gluedTo_13 : decode cX0_gluedTo 13 = .ok (.getfield 21, 3) := by decide +kernel
theorem dX0_gluedTo_16 : decode cX0_gluedTo 16 = .ok (.iload_n 1, 1) := by decide +kernel
theorem dX0_gluedTo_17 : decode cX0_gluedTo 17 = .ok (.iaload, 1) := by decide +kernel
theorem dX0_gluedTo_18 : decode cX0_gluedTo 18 = .ok (.goto 4, 3) := by decide +kernel
theorem dX0_gluedTo_21 : decode cX0_gluedTo 21 = .ok (.iconst (-1), 1) := by decide +kernel
theorem dX0_gluedTo_22 : decode cX0_gluedTo 22 = .ok (.ireturn, 1) := by decide +kernel
theorem dX0_isFree_0 : decode cX0_isFree 0 = .ok (.aload_n 0, 1) := by decide +kernel
theorem dX0_isFree_1 : decode cX0_isFree 1 = .ok (.iload_n 1, 1) := by decide +kernel
theorem dX0_isFree_2 : decode cX0_isFree 2 = .ok (.invokevirtual 58, 3) := by decide +kernel
theorem dX0_isFree_5 : decode cX0_isFree 5 = .ok (.iconst (-1), 1) := by decide +kernel
theorem dX0_isFree_6 : decode cX0_isFree 6 = .ok (.if_icmp .ne 7, 3) := by decide +kernel
theorem dX0_isFree_9 : decode cX0_isFree 9 = .ok (.iconst 1, 1) := by decide +kernel
theorem dX0_isFree_10 : decode cX0_isFree 10 = .ok (.goto 4, 3) := by decide +kernel
theorem dX0_isFree_13 : decode cX0_isFree 13 = .ok (.iconst 0, 1) := by decide +kernel
theorem dX0_isFree_14 : decode cX0_isFree 14 = .ok (.ireturn, 1) := by decide +kernel
theorem dX0_join_0 : decode cX0_join 0 = .ok (.iload_n 1, 1) := by decide +kernel
theorem dX0_join_1 : decode cX0_join 1 = .ok (.ifCond .lt 37, 3) := by decide +kernel
theorem dX0_join_4 : decode cX0_join 4 = .ok (.iload_n 1, 1) := by decide +kernel
theorem dX0_join_5 : decode cX0_join 5 = .ok (.aload_n 0, 1) := by decide +kernel
theorem dX0_join_6 : decode cX0_join 6 = .ok (.invokevirtual 54, 3) := by decide +kernel
theorem dX0_join_9 : decode cX0_join 9 = .ok (.if_icmp .ge 29, 3) := by decide +kernel
theorem dX0_join_12 : decode cX0_join 12 = .ok (.iload_n 2, 1) := by decide +kernel
theorem dX0_join_13 : decode cX0_join 13 = .ok (.ifCond .lt 25, 3) := by decide +kernel
theorem dX0_join_16 : decode cX0_join 16 = .ok (.iload_n 2, 1) := by decide +kernel
theorem dX0_join_17 : decode cX0_join 17 = .ok (.aload_n 0, 1) := by decide +kernel
theorem dX0_join_18 : decode cX0_join 18 = .ok (.invokevirtual 54, 3) := by decide +kernel
theorem dX0_join_21 : decode cX0_join 21 = .ok (.if_icmp .ge 17, 3) := by decide +kernel
theorem dX0_join_24 : decode cX0_join 24 = .ok (.aload_n 0, 1) := by decide +kernel
theorem dX0_join_25 : decode cX0_join 25 = .ok (.getfield 21, 3) := by decide +kernel
theorem dX0_join_28 : decode cX0_join 28 = .ok (.iload_n 1, 1) := by decide +kernel
theorem dX0_join_29 : decode cX0_join 29 = .ok (.iload_n 2, 1) := by decide +kernel
theorem dX0_join_30 : decode cX0_join 30 = .ok (.iastore, 1) := by decide +kernel
theorem dX0_join_31 : decode cX0_join 31 = .ok (.aload_n 0, 1) := by decide +kernel
theorem dX0_join_32 : decode cX0_join 32 = .ok (.getfield 21, 3) := by decide +kernel
theorem dX0_join_35 : decode cX0_join 35 = .ok (.iload_n 2, 1) := by decide +kernel
theorem dX0_join_36 : decode cX0_join 36 = .ok (.iload_n 1, 1) := by decide +kernel
theorem dX0_join_37 : decode cX0_join 37 = .ok (.iastore, 1) := by decide +kernel
theorem dX0_join_38 : decode cX0_join 38 = .ok (.return_, 1) := by decide +kernel
theorem dX0_sever_0 : decode cX0_sever 0 = .ok (.aload_n 0, 1) := by decide +kernel
theorem dX0_sever_1 : decode cX0_sever 1 = .ok (.iload_n 1, 1) := by decide +kernel
theorem dX0_sever_2 : decode cX0_sever 2 = .ok (.invokevirtual 58, 3) := by decide +kernel
theorem dX0_sever_5 : decode cX0_sever 5 = .ok (.istore_n 2, 1) := by decide +kernel
theorem dX0_sever_6 : decode cX0_sever 6 = .ok (.iload_n 2, 1) := by decide +kernel
theorem dX0_sever_7 : decode cX0_sever 7 = .ok (.iconst (-1), 1) := by decide +kernel
theorem dX0_sever_8 : decode cX0_sever 8 = .ok (.if_icmp .eq 17, 3) := by decide +kernel
theorem dX0_sever_11 : decode cX0_sever 11 = .ok (.aload_n 0, 1) := by decide +kernel
theorem dX0_sever_12 : decode cX0_sever 12 = .ok (.getfield 21, 3) := by decide +kernel
theorem dX0_sever_15 : decode cX0_sever 15 = .ok (.iload_n 1, 1) := by decide +kernel
theorem dX0_sever_16 : decode cX0_sever 16 = .ok (.iconst (-1), 1) := by decide +kernel
theorem dX0_sever_17 : decode cX0_sever 17 = .ok (.iastore, 1) := by decide +kernel
theorem dX0_sever_18 : decode cX0_sever 18 = .ok (.aload_n 0, 1) := by decide +kernel
theorem dX0_sever_19 : decode cX0_sever 19 = .ok (.getfield 21, 3) := by decide +kernel
theorem dX0_sever_22 : decode cX0_sever 22 = .ok (.iload_n 2, 1) := by decide +kernel
theorem dX0_sever_23 : decode cX0_sever 23 = .ok (.iconst (-1), 1) := by decide +kernel
theorem dX0_sever_24 : decode cX0_sever 24 = .ok (.iastore, 1) := by decide +kernel
theorem dX0_sever_25 : decode cX0_sever 25 = .ok (.return_, 1) := by decide +kernel
theorem dX0_gluedSidesOf_0 : decode cX0_gluedSidesOf 0 = .ok (.iconst 0, 1) := by decide +kernel
theorem dX0_gluedSidesOf_1 : decode cX0_gluedSidesOf 1 = .ok (.istore_n 2, 1) := by decide +kernel
theorem dX0_gluedSidesOf_2 : decode cX0_gluedSidesOf 2 = .ok (.iconst 0, 1) := by decide +kernel
theorem dX0_gluedSidesOf_3 : decode cX0_gluedSidesOf 3 = .ok (.istore_n 3, 1) := by decide +kernel
theorem dX0_gluedSidesOf_4 : decode cX0_gluedSidesOf 4 = .ok (.iload_n 3, 1) := by decide +kernel
theorem dX0_gluedSidesOf_5 : decode cX0_gluedSidesOf 5 = .ok (.iconst 4, 1) := by decide +kernel
theorem dX0_gluedSidesOf_6 : decode cX0_gluedSidesOf 6 = .ok (.if_icmp .ge 27, 3) := by decide +kernel
theorem dX0_gluedSidesOf_9 : decode cX0_gluedSidesOf 9 = .ok (.aload_n 0, 1) := by decide +kernel
theorem dX0_gluedSidesOf_10 : decode cX0_gluedSidesOf 10 = .ok (.iload_n 1, 1) := by decide +kernel
theorem dX0_gluedSidesOf_11 : decode cX0_gluedSidesOf 11 = .ok (.iload_n 3, 1) := by decide +kernel
theorem dX0_gluedSidesOf_12 : decode cX0_gluedSidesOf 12 = .ok (.invokestatic 46, 3) := by decide +kernel
theorem dX0_gluedSidesOf_15 : decode cX0_gluedSidesOf 15 = .ok (.invokevirtual 62, 3) := by decide +kernel
theorem dX0_gluedSidesOf_18 : decode cX0_gluedSidesOf 18 = .ok (.ifCond .ne 9, 3) := by decide +kernel
theorem dX0_gluedSidesOf_21 : decode cX0_gluedSidesOf 21 = .ok (.iload_n 2, 1) := by decide +kernel
theorem dX0_gluedSidesOf_22 : decode cX0_gluedSidesOf 22 = .ok (.iconst 1, 1) := by decide +kernel
theorem dX0_gluedSidesOf_23 : decode cX0_gluedSidesOf 23 = .ok (.iload_n 3, 1) := by decide +kernel
theorem dX0_gluedSidesOf_24 : decode cX0_gluedSidesOf 24 = .ok (.ishl, 1) := by decide +kernel
theorem dX0_gluedSidesOf_25 : decode cX0_gluedSidesOf 25 = .ok (.ior, 1) := by decide +kernel
theorem dX0_gluedSidesOf_26 : decode cX0_gluedSidesOf 26 = .ok (.istore_n 2, 1) := by decide +kernel
theorem dX0_gluedSidesOf_27 : decode cX0_gluedSidesOf 27 = .ok (.iinc 3 1, 3) := by decide +kernel
theorem dX0_gluedSidesOf_30 : decode cX0_gluedSidesOf 30 = .ok (.goto (-26), 3) := by decide +kernel
theorem dX0_gluedSidesOf_33 : decode cX0_gluedSidesOf 33 = .ok (.iload_n 2, 1) := by decide +kernel
theorem dX0_gluedSidesOf_34 : decode cX0_gluedSidesOf 34 = .ok (.ireturn, 1) := by decide +kernel
theorem dX0_gluedSides_0 : decode cX0_gluedSides 0 = .ok (.iconst 0, 1) := by decide +kernel
theorem dX0_gluedSides_1 : decode cX0_gluedSides 1 = .ok (.istore_n 1, 1) := by decide +kernel
theorem dX0_gluedSides_2 : decode cX0_gluedSides 2 = .ok (.iconst 0, 1) := by decide +kernel
theorem dX0_gluedSides_3 : decode cX0_gluedSides 3 = .ok (.istore_n 2, 1) := by decide +kernel
theorem dX0_gluedSides_4 : decode cX0_gluedSides 4 = .ok (.iload_n 2, 1) := by decide +kernel
theorem dX0_gluedSides_5 : decode cX0_gluedSides 5 = .ok (.aload_n 0, 1) := by decide +kernel
theorem dX0_gluedSides_6 : decode cX0_gluedSides 6 = .ok (.invokevirtual 54, 3) := by decide +kernel
theorem dX0_gluedSides_9 : decode cX0_gluedSides 9 = .ok (.if_icmp .ge 20, 3) := by decide +kernel
theorem dX0_gluedSides_12 : decode cX0_gluedSides 12 = .ok (.aload_n 0, 1) := by decide +kernel
theorem dX0_gluedSides_13 : decode cX0_gluedSides 13 = .ok (.iload_n 2, 1) := by decide +kernel
theorem dX0_gluedSides_14 : decode cX0_gluedSides 14 = .ok (.invokevirtual 62, 3) := by decide +kernel
theorem dX0_gluedSides_17 : decode cX0_gluedSides 17 = .ok (.ifCond .ne 6, 3) := by decide +kernel
theorem dX0_gluedSides_20 : decode cX0_gluedSides 20 = .ok (.iinc 1 1, 3) := by decide +kernel
theorem dX0_gluedSides_23 : decode cX0_gluedSides 23 = .ok (.iinc 2 1, 3) := by decide +kernel
theorem dX0_gluedSides_26 : decode cX0_gluedSides 26 = .ok (.goto (-22), 3) := by decide +kernel
theorem dX0_gluedSides_29 : decode cX0_gluedSides 29 = .ok (.iload_n 1, 1) := by decide +kernel
theorem dX0_gluedSides_30 : decode cX0_gluedSides 30 = .ok (.ireturn, 1) := by decide +kernel
theorem dX0_walkersOn_0 : decode cX0_walkersOn 0 = .ok (.iconst 0, 1) := by decide +kernel
theorem dX0_walkersOn_1 : decode cX0_walkersOn 1 = .ok (.istore_n 2, 1) := by decide +kernel
theorem dX0_walkersOn_2 : decode cX0_walkersOn 2 = .ok (.iconst 0, 1) := by decide +kernel
theorem dX0_walkersOn_3 : decode cX0_walkersOn 3 = .ok (.istore_n 3, 1) := by decide +kernel
theorem dX0_walkersOn_4 : decode cX0_walkersOn 4 = .ok (.iload_n 3, 1) := by decide +kernel
theorem dX0_walkersOn_5 : decode cX0_walkersOn 5 = .ok (.aload_n 0, 1) := by decide +kernel
theorem dX0_walkersOn_6 : decode cX0_walkersOn 6 = .ok (.getfield 29, 3) := by decide +kernel
theorem dX0_walkersOn_9 : decode cX0_walkersOn 9 = .ok (.if_icmp .ge 31, 3) := by decide +kernel
theorem dX0_walkersOn_12 : decode cX0_walkersOn 12 = .ok (.aload_n 0, 1) := by decide +kernel
theorem dX0_walkersOn_13 : decode cX0_walkersOn 13 = .ok (.getfield 11, 3) := by decide +kernel
theorem dX0_walkersOn_16 : decode cX0_walkersOn 16 = .ok (.iload_n 3, 1) := by decide +kernel
theorem dX0_walkersOn_17 : decode cX0_walkersOn 17 = .ok (.aaload, 1) := by decide +kernel
theorem dX0_walkersOn_18 : decode cX0_walkersOn 18 = .ok (.getfield 65, 3) := by decide +kernel
theorem dX0_walkersOn_21 : decode cX0_walkersOn 21 = .ok (.invokestatic 68, 3) := by decide +kernel
theorem dX0_walkersOn_24 : decode cX0_walkersOn 24 = .ok (.iload_n 1, 1) := by decide +kernel
theorem dX0_walkersOn_25 : decode cX0_walkersOn 25 = .ok (.if_icmp .ne 9, 3) := by decide +kernel
theorem dX0_walkersOn_28 : decode cX0_walkersOn 28 = .ok (.iload_n 2, 1) := by decide +kernel
theorem dX0_walkersOn_29 : decode cX0_walkersOn 29 = .ok (.iconst 1, 1) := by decide +kernel
theorem dX0_walkersOn_30 : decode cX0_walkersOn 30 = .ok (.iload_n 3, 1) := by decide +kernel
theorem dX0_walkersOn_31 : decode cX0_walkersOn 31 = .ok (.ishl, 1) := by decide +kernel
theorem dX0_walkersOn_32 : decode cX0_walkersOn 32 = .ok (.ior, 1) := by decide +kernel
theorem dX0_walkersOn_33 : decode cX0_walkersOn 33 = .ok (.istore_n 2, 1) := by decide +kernel
theorem dX0_walkersOn_34 : decode cX0_walkersOn 34 = .ok (.iinc 3 1, 3) := by decide +kernel
theorem dX0_walkersOn_37 : decode cX0_walkersOn 37 = .ok (.goto (-33), 3) := by decide +kernel
theorem dX0_walkersOn_40 : decode cX0_walkersOn 40 = .ok (.iload_n 2, 1) := by decide +kernel
theorem dX0_walkersOn_41 : decode cX0_walkersOn 41 = .ok (.ireturn, 1) := by decide +kernel
theorem dX0_milesOfAll_0 : decode cX0_milesOfAll 0 = .ok (.iconst 0, 1) := by decide +kernel
theorem dX0_milesOfAll_1 : decode cX0_milesOfAll 1 = .ok (.istore_n 1, 1) := by decide +kernel
theorem dX0_milesOfAll_2 : decode cX0_milesOfAll 2 = .ok (.iconst 0, 1) := by decide +kernel
theorem dX0_milesOfAll_3 : decode cX0_milesOfAll 3 = .ok (.istore_n 2, 1) := by decide +kernel
theorem dX0_milesOfAll_4 : decode cX0_milesOfAll 4 = .ok (.iload_n 2, 1) := by decide +kernel
theorem dX0_milesOfAll_5 : decode cX0_milesOfAll 5 = .ok (.aload_n 0, 1) := by decide +kernel
theorem dX0_milesOfAll_6 : decode cX0_milesOfAll 6 = .ok (.getfield 29, 3) := by decide +kernel
theorem dX0_milesOfAll_9 : decode cX0_milesOfAll 9 = .ok (.if_icmp .ge 21, 3) := by decide +kernel
theorem dX0_milesOfAll_12 : decode cX0_milesOfAll 12 = .ok (.iload_n 1, 1) := by decide +kernel
theorem dX0_milesOfAll_13 : decode cX0_milesOfAll 13 = .ok (.aload_n 0, 1) := by decide +kernel
theorem dX0_milesOfAll_14 : decode cX0_milesOfAll 14 = .ok (.getfield 11, 3) := by decide +kernel
theorem dX0_milesOfAll_17 : decode cX0_milesOfAll 17 = .ok (.iload_n 2, 1) := by decide +kernel
theorem dX0_milesOfAll_18 : decode cX0_milesOfAll 18 = .ok (.aaload, 1) := by decide +kernel
theorem dX0_milesOfAll_19 : decode cX0_milesOfAll 19 = .ok (.getfield 71, 3) := by decide +kernel
theorem dX0_milesOfAll_22 : decode cX0_milesOfAll 22 = .ok (.iadd, 1) := by decide +kernel
theorem dX0_milesOfAll_23 : decode cX0_milesOfAll 23 = .ok (.istore_n 1, 1) := by decide +kernel
theorem dX0_milesOfAll_24 : decode cX0_milesOfAll 24 = .ok (.iinc 2 1, 3) := by decide +kernel
theorem dX0_milesOfAll_27 : decode cX0_milesOfAll 27 = .ok (.goto (-23), 3) := by decide +kernel
theorem dX0_milesOfAll_30 : decode cX0_milesOfAll 30 = .ok (.iload_n 1, 1) := by decide +kernel
theorem dX0_milesOfAll_31 : decode cX0_milesOfAll 31 = .ok (.ireturn, 1) := by decide +kernel
theorem dX0_goOn_0 : decode cX0_goOn 0 = .ok (.aload_n 0, 1) := by decide +kernel
theorem dX0_goOn_1 : decode cX0_goOn 1 = .ok (.iload_n 1, 1) := by decide +kernel
theorem dX0_goOn_2 : decode cX0_goOn 2 = .ok (.invokevirtual 58, 3) := by decide +kernel
theorem dX0_goOn_5 : decode cX0_goOn 5 = .ok (.istore_n 2, 1) := by decide +kernel
theorem dX0_goOn_6 : decode cX0_goOn 6 = .ok (.iload_n 2, 1) := by decide +kernel
theorem dX0_goOn_7 : decode cX0_goOn 7 = .ok (.iconst (-1), 1) := by decide +kernel
theorem dX0_goOn_8 : decode cX0_goOn 8 = .ok (.if_icmp .ne 7, 3) := by decide +kernel
theorem dX0_goOn_11 : decode cX0_goOn 11 = .ok (.iconst (-1), 1) := by decide +kernel
theorem dX0_goOn_12 : decode cX0_goOn 12 = .ok (.goto 8, 3) := by decide +kernel
theorem dX0_goOn_15 : decode cX0_goOn 15 = .ok (.iload_n 2, 1) := by decide +kernel
theorem dX0_goOn_16 : decode cX0_goOn 16 = .ok (.iconst 2, 1) := by decide +kernel
theorem dX0_goOn_17 : decode cX0_goOn 17 = .ok (.invokestatic 74, 3) := by decide +kernel
theorem dX0_goOn_20 : decode cX0_goOn 20 = .ok (.ireturn, 1) := by decide +kernel
theorem dX0_goOnOften_0 : decode cX0_goOnOften 0 = .ok (.iload_n 1, 1) := by decide +kernel
theorem dX0_goOnOften_1 : decode cX0_goOnOften 1 = .ok (.istore_n 3, 1) := by decide +kernel
theorem dX0_goOnOften_2 : decode cX0_goOnOften 2 = .ok (.iconst 0, 1) := by decide +kernel
theorem dX0_goOnOften_3 : decode cX0_goOnOften 3 = .ok (.istore 4, 2) := by decide +kernel
theorem dX0_goOnOften_5 : decode cX0_goOnOften 5 = .ok (.iload 4, 2) := by decide +kernel
theorem dX0_goOnOften_7 : decode cX0_goOnOften 7 = .ok (.iload_n 2, 1) := by decide +kernel
theorem dX0_goOnOften_8 : decode cX0_goOnOften 8 = .ok (.if_icmp .ge 15, 3) := by decide +kernel
theorem dX0_goOnOften_11 : decode cX0_goOnOften 11 = .ok (.aload_n 0, 1) := by decide +kernel
theorem dX0_goOnOften_12 : decode cX0_goOnOften 12 = .ok (.iload_n 3, 1) := by decide +kernel
theorem dX0_goOnOften_13 : decode cX0_goOnOften 13 = .ok (.invokevirtual 77, 3) := by decide +kernel
theorem dX0_goOnOften_16 : decode cX0_goOnOften 16 = .ok (.istore_n 3, 1) := by decide +kernel
theorem dX0_goOnOften_17 : decode cX0_goOnOften 17 = .ok (.iinc 4 1, 3) := by decide +kernel
theorem dX0_goOnOften_20 : decode cX0_goOnOften 20 = .ok (.goto (-15), 3) := by decide +kernel
theorem dX0_goOnOften_23 : decode cX0_goOnOften 23 = .ok (.iload_n 3, 1) := by decide +kernel
theorem dX0_goOnOften_24 : decode cX0_goOnOften 24 = .ok (.ireturn, 1) := by decide +kernel
theorem dX0_seenFrom_0 : decode cX0_seenFrom 0 = .ok (.iconst 0, 1) := by decide +kernel
theorem dX0_seenFrom_1 : decode cX0_seenFrom 1 = .ok (.istore_n 2, 1) := by decide +kernel
theorem dX0_seenFrom_2 : decode cX0_seenFrom 2 = .ok (.iload_n 1, 1) := by decide +kernel
theorem dX0_seenFrom_3 : decode cX0_seenFrom 3 = .ok (.istore_n 3, 1) := by decide +kernel
theorem dX0_seenFrom_4 : decode cX0_seenFrom 4 = .ok (.iconst 0, 1) := by decide +kernel
theorem dX0_seenFrom_5 : decode cX0_seenFrom 5 = .ok (.istore 4, 2) := by decide +kernel
theorem dX0_seenFrom_7 : decode cX0_seenFrom 7 = .ok (.iload 4, 2) := by decide +kernel
theorem dX0_seenFrom_9 : decode cX0_seenFrom 9 = .ok (.bipush 64, 2) := by decide +kernel
theorem dX0_seenFrom_11 : decode cX0_seenFrom 11 = .ok (.if_icmp .ge 29, 3) := by decide +kernel
theorem dX0_seenFrom_14 : decode cX0_seenFrom 14 = .ok (.iload_n 3, 1) := by decide +kernel
theorem dX0_seenFrom_15 : decode cX0_seenFrom 15 = .ok (.iconst (-1), 1) := by decide +kernel
theorem dX0_seenFrom_16 : decode cX0_seenFrom 16 = .ok (.if_icmp .eq 24, 3) := by decide +kernel
theorem dX0_seenFrom_19 : decode cX0_seenFrom 19 = .ok (.iload_n 2, 1) := by decide +kernel
theorem dX0_seenFrom_20 : decode cX0_seenFrom 20 = .ok (.iconst 1, 1) := by decide +kernel
theorem dX0_seenFrom_21 : decode cX0_seenFrom 21 = .ok (.iload_n 3, 1) := by decide +kernel
theorem dX0_seenFrom_22 : decode cX0_seenFrom 22 = .ok (.invokestatic 68, 3) := by decide +kernel
theorem dX0_seenFrom_25 : decode cX0_seenFrom 25 = .ok (.ishl, 1) := by decide +kernel
theorem dX0_seenFrom_26 : decode cX0_seenFrom 26 = .ok (.ior, 1) := by decide +kernel
theorem dX0_seenFrom_27 : decode cX0_seenFrom 27 = .ok (.istore_n 2, 1) := by decide +kernel
theorem dX0_seenFrom_28 : decode cX0_seenFrom 28 = .ok (.aload_n 0, 1) := by decide +kernel
theorem dX0_seenFrom_29 : decode cX0_seenFrom 29 = .ok (.iload_n 3, 1) := by decide +kernel
theorem dX0_seenFrom_30 : decode cX0_seenFrom 30 = .ok (.invokevirtual 77, 3) := by decide +kernel
theorem dX0_seenFrom_33 : decode cX0_seenFrom 33 = .ok (.istore_n 3, 1) := by decide +kernel
theorem dX0_seenFrom_34 : decode cX0_seenFrom 34 = .ok (.iinc 4 1, 3) := by decide +kernel
theorem dX0_seenFrom_37 : decode cX0_seenFrom 37 = .ok (.goto (-30), 3) := by decide +kernel
theorem dX0_seenFrom_40 : decode cX0_seenFrom 40 = .ok (.iload_n 2, 1) := by decide +kernel
theorem dX0_seenFrom_41 : decode cX0_seenFrom 41 = .ok (.ireturn, 1) := by decide +kernel
theorem dX0_roundCorner_0 : decode cX0_roundCorner 0 = .ok (.lconst 0, 1) := by decide +kernel
theorem dX0_roundCorner_1 : decode cX0_roundCorner 1 = .ok (.lstore_n 2, 1) := by decide +kernel
theorem dX0_roundCorner_2 : decode cX0_roundCorner 2 = .ok (.iload_n 1, 1) := by decide +kernel
theorem dX0_roundCorner_3 : decode cX0_roundCorner 3 = .ok (.istore 4, 2) := by decide +kernel
theorem dX0_roundCorner_5 : decode cX0_roundCorner 5 = .ok (.iconst 0, 1) := by decide +kernel
theorem dX0_roundCorner_6 : decode cX0_roundCorner 6 = .ok (.istore 5, 2) := by decide +kernel
theorem dX0_roundCorner_8 : decode cX0_roundCorner 8 = .ok (.iload 5, 2) := by decide +kernel
theorem dX0_roundCorner_10 : decode cX0_roundCorner 10 = .ok (.bipush 64, 2) := by decide +kernel
theorem dX0_roundCorner_12 : decode cX0_roundCorner 12 = .ok (.if_icmp .ge 48, 3) := by decide +kernel
theorem dX0_roundCorner_15 : decode cX0_roundCorner 15 = .ok (.lload_n 2, 1) := by decide +kernel
theorem dX0_roundCorner_16 : decode cX0_roundCorner 16 = .ok (.lconst 1, 1) := by decide +kernel
theorem dX0_roundCorner_17 : decode cX0_roundCorner 17 = .ok (.iload 4, 2) := by decide +kernel
theorem dX0_roundCorner_19 : decode cX0_roundCorner 19 = .ok (.lshl, 1) := by decide +kernel
theorem dX0_roundCorner_20 : decode cX0_roundCorner 20 = .ok (.lor, 1) := by decide +kernel
theorem dX0_roundCorner_21 : decode cX0_roundCorner 21 = .ok (.lstore_n 2, 1) := by decide +kernel
theorem dX0_roundCorner_22 : decode cX0_roundCorner 22 = .ok (.aload_n 0, 1) := by decide +kernel
theorem dX0_roundCorner_23 : decode cX0_roundCorner 23 = .ok (.iload 4, 2) := by decide +kernel
theorem dX0_roundCorner_25 : decode cX0_roundCorner 25 = .ok (.invokevirtual 58, 3) := by decide +kernel
theorem dX0_roundCorner_28 : decode cX0_roundCorner 28 = .ok (.istore 6, 2) := by decide +kernel
theorem dX0_roundCorner_30 : decode cX0_roundCorner 30 = .ok (.iload 6, 2) := by decide +kernel
theorem dX0_roundCorner_32 : decode cX0_roundCorner 32 = .ok (.iconst (-1), 1) := by decide +kernel
theorem dX0_roundCorner_33 : decode cX0_roundCorner 33 = .ok (.if_icmp .ne 5, 3) := by decide +kernel
theorem dX0_roundCorner_36 : decode cX0_roundCorner 36 = .ok (.lconst 0, 1) := by decide +kernel
theorem dX0_roundCorner_37 : decode cX0_roundCorner 37 = .ok (.lreturn, 1) := by decide +kernel
theorem dX0_roundCorner_38 : decode cX0_roundCorner 38 = .ok (.iload 6, 2) := by decide +kernel
theorem dX0_roundCorner_40 : decode cX0_roundCorner 40 = .ok (.iconst 3, 1) := by decide +kernel
theorem dX0_roundCorner_41 : decode cX0_roundCorner 41 = .ok (.invokestatic 74, 3) := by decide +kernel
theorem dX0_roundCorner_44 : decode cX0_roundCorner 44 = .ok (.istore 4, 2) := by decide +kernel
theorem dX0_roundCorner_46 : decode cX0_roundCorner 46 = .ok (.iload 4, 2) := by decide +kernel
theorem dX0_roundCorner_48 : decode cX0_roundCorner 48 = .ok (.iload_n 1, 1) := by decide +kernel
theorem dX0_roundCorner_49 : decode cX0_roundCorner 49 = .ok (.if_icmp .ne 5, 3) := by decide +kernel
theorem dX0_roundCorner_52 : decode cX0_roundCorner 52 = .ok (.lload_n 2, 1) := by decide +kernel
theorem dX0_roundCorner_53 : decode cX0_roundCorner 53 = .ok (.lreturn, 1) := by decide +kernel
theorem dX0_roundCorner_54 : decode cX0_roundCorner 54 = .ok (.iinc 5 1, 3) := by decide +kernel
theorem dX0_roundCorner_57 : decode cX0_roundCorner 57 = .ok (.goto (-49), 3) := by decide +kernel
theorem dX0_roundCorner_60 : decode cX0_roundCorner 60 = .ok (.lconst 0, 1) := by decide +kernel
theorem dX0_roundCorner_61 : decode cX0_roundCorner 61 = .ok (.lreturn, 1) := by decide +kernel
theorem dX0_sumOfCorners_0 : decode cX0_sumOfCorners 0 = .ok (.lconst 0, 1) := by decide +kernel
theorem dX0_sumOfCorners_1 : decode cX0_sumOfCorners 1 = .ok (.lstore_n 3, 1) := by decide +kernel
theorem dX0_sumOfCorners_2 : decode cX0_sumOfCorners 2 = .ok (.iconst 0, 1) := by decide +kernel
theorem dX0_sumOfCorners_3 : decode cX0_sumOfCorners 3 = .ok (.istore 5, 2) := by decide +kernel
theorem dX0_sumOfCorners_5 : decode cX0_sumOfCorners 5 = .ok (.iconst 0, 1) := by decide +kernel
theorem dX0_sumOfCorners_6 : decode cX0_sumOfCorners 6 = .ok (.istore 6, 2) := by decide +kernel
theorem dX0_sumOfCorners_8 : decode cX0_sumOfCorners 8 = .ok (.iload 6, 2) := by decide +kernel
theorem dX0_sumOfCorners_10 : decode cX0_sumOfCorners 10 = .ok (.aload_n 0, 1) := by decide +kernel
theorem dX0_sumOfCorners_11 : decode cX0_sumOfCorners 11 = .ok (.invokevirtual 54, 3) := by decide +kernel
theorem dX0_sumOfCorners_14 : decode cX0_sumOfCorners 14 = .ok (.if_icmp .ge 58, 3) := by decide +kernel
theorem dX0_sumOfCorners_17 : decode cX0_sumOfCorners 17 = .ok (.lload_n 3, 1) := by decide +kernel
theorem dX0_sumOfCorners_18 : decode cX0_sumOfCorners 18 = .ok (.iload 6, 2) := by decide +kernel
theorem dX0_sumOfCorners_20 : decode cX0_sumOfCorners 20 = .ok (.lshr, 1) := by decide +kernel
theorem dX0_sumOfCorners_21 : decode cX0_sumOfCorners 21 = .ok (.lconst 1, 1) := by decide +kernel
theorem dX0_sumOfCorners_22 : decode cX0_sumOfCorners 22 = .ok (.land, 1) := by decide +kernel
theorem dX0_sumOfCorners_23 : decode cX0_sumOfCorners 23 = .ok (.lconst 0, 1) := by decide +kernel
theorem dX0_sumOfCorners_24 : decode cX0_sumOfCorners 24 = .ok (.lcmp, 1) := by decide +kernel
theorem dX0_sumOfCorners_25 : decode cX0_sumOfCorners 25 = .ok (.ifCond .ne 41, 3) := by decide +kernel
theorem dX0_sumOfCorners_28 : decode cX0_sumOfCorners 28 = .ok (.aload_n 0, 1) := by decide +kernel
theorem dX0_sumOfCorners_29 : decode cX0_sumOfCorners 29 = .ok (.iload 6, 2) := by decide +kernel
theorem dX0_sumOfCorners_31 : decode cX0_sumOfCorners 31 = .ok (.invokevirtual 80, 3) := by decide +kernel
theorem dX0_sumOfCorners_34 : decode cX0_sumOfCorners 34 = .ok (.lstore 7, 2) := by decide +kernel
theorem dX0_sumOfCorners_36 : decode cX0_sumOfCorners 36 = .ok (.iload 5, 2) := by decide +kernel
theorem dX0_sumOfCorners_38 : decode cX0_sumOfCorners 38 = .ok (.lload 7, 2) := by decide +kernel
theorem dX0_sumOfCorners_40 : decode cX0_sumOfCorners 40 = .ok (.lconst 0, 1) := by decide +kernel
theorem dX0_sumOfCorners_41 : decode cX0_sumOfCorners 41 = .ok (.lcmp, 1) := by decide +kernel
theorem dX0_sumOfCorners_42 : decode cX0_sumOfCorners 42 = .ok (.ifCond .ne 7, 3) := by decide +kernel
theorem dX0_sumOfCorners_45 : decode cX0_sumOfCorners 45 = .ok (.iconst 0, 1) := by decide +kernel
theorem dX0_sumOfCorners_46 : decode cX0_sumOfCorners 46 = .ok (.goto 12, 3) := by decide +kernel
theorem dX0_sumOfCorners_49 : decode cX0_sumOfCorners 49 = .ok (.iload_n 1, 1) := by decide +kernel
theorem dX0_sumOfCorners_50 : decode cX0_sumOfCorners 50 = .ok (.iload_n 2, 1) := by decide +kernel
theorem dX0_sumOfCorners_51 : decode cX0_sumOfCorners 51 = .ok (.lload 7, 2) := by decide +kernel
theorem dX0_sumOfCorners_53 : decode cX0_sumOfCorners 53 = .ok (.invokestatic 84, 3) := by decide +kernel
theorem dX0_sumOfCorners_56 : decode cX0_sumOfCorners 56 = .ok (.imul, 1) := by decide +kernel
theorem dX0_sumOfCorners_57 : decode cX0_sumOfCorners 57 = .ok (.isub, 1) := by decide +kernel
theorem dX0_sumOfCorners_58 : decode cX0_sumOfCorners 58 = .ok (.iadd, 1) := by decide +kernel
theorem dX0_sumOfCorners_59 : decode cX0_sumOfCorners 59 = .ok (.istore 5, 2) := by decide +kernel
theorem dX0_sumOfCorners_61 : decode cX0_sumOfCorners 61 = .ok (.lload_n 3, 1) := by decide +kernel
theorem dX0_sumOfCorners_62 : decode cX0_sumOfCorners 62 = .ok (.lload 7, 2) := by decide +kernel
theorem dX0_sumOfCorners_64 : decode cX0_sumOfCorners 64 = .ok (.lor, 1) := by decide +kernel
theorem dX0_sumOfCorners_65 : decode cX0_sumOfCorners 65 = .ok (.lstore_n 3, 1) := by decide +kernel
theorem dX0_sumOfCorners_66 : decode cX0_sumOfCorners 66 = .ok (.iinc 6 1, 3) := by decide +kernel
theorem dX0_sumOfCorners_69 : decode cX0_sumOfCorners 69 = .ok (.goto (-61), 3) := by decide +kernel
theorem dX0_sumOfCorners_72 : decode cX0_sumOfCorners 72 = .ok (.iload 5, 2) := by decide +kernel
theorem dX0_sumOfCorners_74 : decode cX0_sumOfCorners 74 = .ok (.ireturn, 1) := by decide +kernel
theorem dX0_spread_0 : decode cX0_spread 0 = .ok (.aload_n 1, 1) := by decide +kernel
theorem dX0_spread_1 : decode cX0_spread 1 = .ok (.ldc 90, 2) := by decide +kernel
theorem dX0_spread_3 : decode cX0_spread 3 = .ok (.invokestatic 91, 3) := by decide +kernel
theorem dX0_spread_6 : decode cX0_spread 6 = .ok (.aload_n 1, 1) := by decide +kernel
theorem dX0_spread_7 : decode cX0_spread 7 = .ok (.iload_n 2, 1) := by decide +kernel
theorem dX0_spread_8 : decode cX0_spread 8 = .ok (.iconst 0, 1) := by decide +kernel
theorem dX0_spread_9 : decode cX0_spread 9 = .ok (.invokestatic 97, 3) := by decide +kernel
theorem dX0_spread_12 : decode cX0_spread 12 = .ok (.pop, 1) := by decide +kernel
theorem dX0_spread_13 : decode cX0_spread 13 = .ok (.iconst 1, 1) := by decide +kernel
theorem dX0_spread_14 : decode cX0_spread 14 = .ok (.istore 4, 2) := by decide +kernel
theorem dX0_spread_16 : decode cX0_spread 16 = .ok (.iconst 0, 1) := by decide +kernel
theorem dX0_spread_17 : decode cX0_spread 17 = .ok (.istore 5, 2) := by decide +kernel
theorem dX0_spread_19 : decode cX0_spread 19 = .ok (.iload 5, 2) := by decide +kernel
theorem dX0_spread_21 : decode cX0_spread 21 = .ok (.bipush 16, 2) := by decide +kernel
theorem dX0_spread_23 : decode cX0_spread 23 = .ok (.if_icmp .ge 92, 3) := by decide +kernel
theorem dX0_spread_26 : decode cX0_spread 26 = .ok (.iload 4, 2) := by decide +kernel
theorem dX0_spread_28 : decode cX0_spread 28 = .ok (.ifCond .eq 87, 3) := by decide +kernel
theorem dX0_spread_31 : decode cX0_spread 31 = .ok (.iconst 0, 1) := by decide +kernel
theorem dX0_spread_32 : decode cX0_spread 32 = .ok (.istore 4, 2) := by decide +kernel
theorem dX0_spread_34 : decode cX0_spread 34 = .ok (.iconst 0, 1) := by decide +kernel
theorem dX0_spread_35 : decode cX0_spread 35 = .ok (.istore 6, 2) := by decide +kernel
theorem dX0_spread_37 : decode cX0_spread 37 = .ok (.iload 6, 2) := by decide +kernel
theorem dX0_spread_39 : decode cX0_spread 39 = .ok (.aload_n 0, 1) := by decide +kernel
theorem dX0_spread_40 : decode cX0_spread 40 = .ok (.invokevirtual 54, 3) := by decide +kernel
theorem dX0_spread_43 : decode cX0_spread 43 = .ok (.if_icmp .ge 66, 3) := by decide +kernel
theorem dX0_spread_46 : decode cX0_spread 46 = .ok (.aload_n 0, 1) := by decide +kernel
theorem dX0_spread_47 : decode cX0_spread 47 = .ok (.iload 6, 2) := by decide +kernel
theorem dX0_spread_49 : decode cX0_spread 49 = .ok (.invokevirtual 77, 3) := by decide +kernel
theorem dX0_spread_52 : decode cX0_spread 52 = .ok (.istore 7, 2) := by decide +kernel
theorem dX0_spread_54 : decode cX0_spread 54 = .ok (.iload 7, 2) := by decide +kernel
theorem dX0_spread_56 : decode cX0_spread 56 = .ok (.iconst (-1), 1) := by decide +kernel
theorem dX0_spread_57 : decode cX0_spread 57 = .ok (.if_icmp .eq 46, 3) := by decide +kernel
theorem dX0_spread_60 : decode cX0_spread 60 = .ok (.iload_n 3, 1) := by decide +kernel
theorem dX0_spread_61 : decode cX0_spread 61 = .ok (.ifCond .eq 15, 3) := by decide +kernel
theorem dX0_spread_64 : decode cX0_spread 64 = .ok (.aload_n 0, 1) := by decide +kernel
theorem dX0_spread_65 : decode cX0_spread 65 = .ok (.iload 7, 2) := by decide +kernel
theorem dX0_spread_67 : decode cX0_spread 67 = .ok (.invokestatic 68, 3) := by decide +kernel
theorem dX0_spread_70 : decode cX0_spread 70 = .ok (.invokevirtual 101, 3) := by decide +kernel
theorem dX0_spread_73 : decode cX0_spread 73 = .ok (.goto 4, 3) := by decide +kernel
theorem dX0_spread_76 : decode cX0_spread 76 = .ok (.iconst 1, 1) := by decide +kernel
theorem dX0_spread_77 : decode cX0_spread 77 = .ok (.istore 8, 2) := by decide +kernel
theorem dX0_spread_79 : decode cX0_spread 79 = .ok (.iload 4, 2) := by decide +kernel
theorem dX0_spread_81 : decode cX0_spread 81 = .ok (.aload_n 1, 1) := by decide +kernel
theorem dX0_spread_82 : decode cX0_spread 82 = .ok (.iload 7, 2) := by decide +kernel
theorem dX0_spread_84 : decode cX0_spread 84 = .ok (.invokestatic 68, 3) := by decide +kernel
theorem dX0_spread_87 : decode cX0_spread 87 = .ok (.aload_n 1, 1) := by decide +kernel
theorem dX0_spread_88 : decode cX0_spread 88 = .ok (.iload 6, 2) := by decide +kernel
theorem dX0_spread_90 : decode cX0_spread 90 = .ok (.invokestatic 68, 3) := by decide +kernel
theorem dX0_spread_93 : decode cX0_spread 93 = .ok (.iaload, 1) := by decide +kernel
theorem dX0_spread_94 : decode cX0_spread 94 = .ok (.iload 8, 2) := by decide +kernel
theorem dX0_spread_96 : decode cX0_spread 96 = .ok (.iadd, 1) := by decide +kernel
theorem dX0_spread_97 : decode cX0_spread 97 = .ok (.invokestatic 97, 3) := by decide +kernel
theorem dX0_spread_100 : decode cX0_spread 100 = .ok (.ior, 1) := by decide +kernel
theorem dX0_spread_101 : decode cX0_spread 101 = .ok (.istore 4, 2) := by decide +kernel
theorem dX0_spread_103 : decode cX0_spread 103 = .ok (.iinc 6 1, 3) := by decide +kernel
theorem dX0_spread_106 : decode cX0_spread 106 = .ok (.goto (-69), 3) := by decide +kernel
theorem dX0_spread_109 : decode cX0_spread 109 = .ok (.iinc 5 1, 3) := by decide +kernel
theorem dX0_spread_112 : decode cX0_spread 112 = .ok (.goto (-93), 3) := by decide +kernel
theorem dX0_spread_115 : decode cX0_spread 115 = .ok (.return_, 1) := by decide +kernel
theorem dX0_spreadTurning_0 : decode cX0_spreadTurning 0 = .ok (.aload_n 1, 1) := by decide +kernel
theorem dX0_spreadTurning_1 : decode cX0_spreadTurning 1 = .ok (.ldc 90, 2) := by decide +kernel
theorem dX0_spreadTurning_3 : decode cX0_spreadTurning 3 = .ok (.invokestatic 91, 3) := by decide +kernel
theorem dX0_spreadTurning_6 : decode cX0_spreadTurning 6 = .ok (.aload_n 1, 1) := by decide +kernel
theorem dX0_spreadTurning_7 : decode cX0_spreadTurning 7 = .ok (.iload_n 2, 1) := by decide +kernel
theorem dX0_spreadTurning_8 : decode cX0_spreadTurning 8 = .ok (.iconst 0, 1) := by decide +kernel
theorem dX0_spreadTurning_9 : decode cX0_spreadTurning 9 = .ok (.invokestatic 97, 3) := by decide +kernel
theorem dX0_spreadTurning_12 : decode cX0_spreadTurning 12 = .ok (.pop, 1) := by decide +kernel
theorem dX0_spreadTurning_13 : decode cX0_spreadTurning 13 = .ok (.iconst 1, 1) := by decide +kernel
theorem dX0_spreadTurning_14 : decode cX0_spreadTurning 14 = .ok (.istore_n 3, 1) := by decide +kernel
theorem dX0_spreadTurning_15 : decode cX0_spreadTurning 15 = .ok (.iconst 0, 1) := by decide +kernel
theorem dX0_spreadTurning_16 : decode cX0_spreadTurning 16 = .ok (.istore 4, 2) := by decide +kernel
theorem dX0_spreadTurning_18 : decode cX0_spreadTurning 18 = .ok (.iload 4, 2) := by decide +kernel
theorem dX0_spreadTurning_20 : decode cX0_spreadTurning 20 = .ok (.bipush 64, 2) := by decide +kernel
theorem dX0_spreadTurning_22 : decode cX0_spreadTurning 22 = .ok (.if_icmp .ge 88, 3) := by decide +kernel
theorem dX0_spreadTurning_25 : decode cX0_spreadTurning 25 = .ok (.iload_n 3, 1) := by decide +kernel
theorem dX0_spreadTurning_26 : decode cX0_spreadTurning 26 = .ok (.ifCond .eq 84, 3) := by decide +kernel
theorem dX0_spreadTurning_29 : decode cX0_spreadTurning 29 = .ok (.iconst 0, 1) := by decide +kernel
theorem dX0_spreadTurning_30 : decode cX0_spreadTurning 30 = .ok (.istore_n 3, 1) := by decide +kernel
theorem dX0_spreadTurning_31 : decode cX0_spreadTurning 31 = .ok (.iconst 0, 1) := by decide +kernel
theorem dX0_spreadTurning_32 : decode cX0_spreadTurning 32 = .ok (.istore 5, 2) := by decide +kernel
theorem dX0_spreadTurning_34 : decode cX0_spreadTurning 34 = .ok (.iload 5, 2) := by decide +kernel
theorem dX0_spreadTurning_36 : decode cX0_spreadTurning 36 = .ok (.aload_n 0, 1) := by decide +kernel
theorem dX0_spreadTurning_37 : decode cX0_spreadTurning 37 = .ok (.invokevirtual 54, 3) := by decide +kernel
theorem dX0_spreadTurning_40 : decode cX0_spreadTurning 40 = .ok (.if_icmp .ge 64, 3) := by decide +kernel
theorem dX0_spreadTurning_43 : decode cX0_spreadTurning 43 = .ok (.iload_n 3, 1) := by decide +kernel
theorem dX0_spreadTurning_44 : decode cX0_spreadTurning 44 = .ok (.aload_n 1, 1) := by decide +kernel
theorem dX0_spreadTurning_45 : decode cX0_spreadTurning 45 = .ok (.aload_n 0, 1) := by decide +kernel
theorem dX0_spreadTurning_46 : decode cX0_spreadTurning 46 = .ok (.iload 5, 2) := by decide +kernel
theorem dX0_spreadTurning_48 : decode cX0_spreadTurning 48 = .ok (.invokevirtual 77, 3) := by decide +kernel
theorem dX0_spreadTurning_51 : decode cX0_spreadTurning 51 = .ok (.aload_n 1, 1) := by decide +kernel
theorem dX0_spreadTurning_52 : decode cX0_spreadTurning 52 = .ok (.iload 5, 2) := by decide +kernel
theorem dX0_spreadTurning_54 : decode cX0_spreadTurning 54 = .ok (.iaload, 1) := by decide +kernel
theorem dX0_spreadTurning_55 : decode cX0_spreadTurning 55 = .ok (.invokestatic 97, 3) := by decide +kernel
theorem dX0_spreadTurning_58 : decode cX0_spreadTurning 58 = .ok (.ior, 1) := by decide +kernel
theorem dX0_spreadTurning_59 : decode cX0_spreadTurning 59 = .ok (.istore_n 3, 1) := by decide +kernel
theorem dX0_spreadTurning_60 : decode cX0_spreadTurning 60 = .ok (.iload_n 3, 1) := by decide +kernel
theorem dX0_spreadTurning_61 : decode cX0_spreadTurning 61 = .ok (.aload_n 1, 1) := by decide +kernel
theorem dX0_spreadTurning_62 : decode cX0_spreadTurning 62 = .ok (.iload 5, 2) := by decide +kernel
theorem dX0_spreadTurning_64 : decode cX0_spreadTurning 64 = .ok (.iconst 1, 1) := by decide +kernel
theorem dX0_spreadTurning_65 : decode cX0_spreadTurning 65 = .ok (.invokestatic 74, 3) := by decide +kernel
theorem dX0_spreadTurning_68 : decode cX0_spreadTurning 68 = .ok (.aload_n 1, 1) := by decide +kernel
theorem dX0_spreadTurning_69 : decode cX0_spreadTurning 69 = .ok (.iload 5, 2) := by decide +kernel
theorem dX0_spreadTurning_71 : decode cX0_spreadTurning 71 = .ok (.iaload, 1) := by decide +kernel
theorem dX0_spreadTurning_72 : decode cX0_spreadTurning 72 = .ok (.iconst 1, 1) := by decide +kernel
theorem dX0_spreadTurning_73 : decode cX0_spreadTurning 73 = .ok (.iadd, 1) := by decide +kernel
theorem dX0_spreadTurning_74 : decode cX0_spreadTurning 74 = .ok (.invokestatic 97, 3) := by decide +kernel
theorem dX0_spreadTurning_77 : decode cX0_spreadTurning 77 = .ok (.ior, 1) := by decide +kernel
theorem dX0_spreadTurning_78 : decode cX0_spreadTurning 78 = .ok (.istore_n 3, 1) := by decide +kernel
theorem dX0_spreadTurning_79 : decode cX0_spreadTurning 79 = .ok (.iload_n 3, 1) := by decide +kernel
theorem dX0_spreadTurning_80 : decode cX0_spreadTurning 80 = .ok (.aload_n 1, 1) := by decide +kernel
theorem dX0_spreadTurning_81 : decode cX0_spreadTurning 81 = .ok (.iload 5, 2) := by decide +kernel
theorem dX0_spreadTurning_83 : decode cX0_spreadTurning 83 = .ok (.iconst 3, 1) := by decide +kernel
theorem dX0_spreadTurning_84 : decode cX0_spreadTurning 84 = .ok (.invokestatic 74, 3) := by decide +kernel
theorem dX0_spreadTurning_87 : decode cX0_spreadTurning 87 = .ok (.aload_n 1, 1) := by decide +kernel
theorem dX0_spreadTurning_88 : decode cX0_spreadTurning 88 = .ok (.iload 5, 2) := by decide +kernel
theorem dX0_spreadTurning_90 : decode cX0_spreadTurning 90 = .ok (.iaload, 1) := by decide +kernel
theorem dX0_spreadTurning_91 : decode cX0_spreadTurning 91 = .ok (.iconst 1, 1) := by decide +kernel
theorem dX0_spreadTurning_92 : decode cX0_spreadTurning 92 = .ok (.iadd, 1) := by decide +kernel
theorem dX0_spreadTurning_93 : decode cX0_spreadTurning 93 = .ok (.invokestatic 97, 3) := by decide +kernel
theorem dX0_spreadTurning_96 : decode cX0_spreadTurning 96 = .ok (.ior, 1) := by decide +kernel
theorem dX0_spreadTurning_97 : decode cX0_spreadTurning 97 = .ok (.istore_n 3, 1) := by decide +kernel
theorem dX0_spreadTurning_98 : decode cX0_spreadTurning 98 = .ok (.iinc 5 1, 3) := by decide +kernel
theorem dX0_spreadTurning_101 : decode cX0_spreadTurning 101 = .ok (.goto (-67), 3) := by decide +kernel
theorem dX0_spreadTurning_104 : decode cX0_spreadTurning 104 = .ok (.iinc 4 1, 3) := by decide +kernel
theorem dX0_spreadTurning_107 : decode cX0_spreadTurning 107 = .ok (.goto (-89), 3) := by decide +kernel
theorem dX0_spreadTurning_110 : decode cX0_spreadTurning 110 = .ok (.return_, 1) := by decide +kernel
theorem dX0_lower_0 : decode cX0_lower 0 = .ok (.iload_n 1, 1) := by decide +kernel
theorem dX0_lower_1 : decode cX0_lower 1 = .ok (.ifCond .lt 16, 3) := by decide +kernel
theorem dX0_lower_4 : decode cX0_lower 4 = .ok (.iload_n 1, 1) := by decide +kernel
theorem dX0_lower_5 : decode cX0_lower 5 = .ok (.aload_n 0, 1) := by decide +kernel
theorem dX0_lower_6 : decode cX0_lower 6 = .ok (.arraylength, 1) := by decide +kernel
theorem dX0_lower_7 : decode cX0_lower 7 = .ok (.if_icmp .ge 10, 3) := by decide +kernel
theorem dX0_lower_10 : decode cX0_lower 10 = .ok (.aload_n 0, 1) := by decide +kernel
theorem dX0_lower_11 : decode cX0_lower 11 = .ok (.iload_n 1, 1) := by decide +kernel
theorem dX0_lower_12 : decode cX0_lower 12 = .ok (.iaload, 1) := by decide +kernel
theorem dX0_lower_13 : decode cX0_lower 13 = .ok (.iload_n 2, 1) := by decide +kernel
theorem dX0_lower_14 : decode cX0_lower 14 = .ok (.if_icmp .gt 5, 3) := by decide +kernel
theorem dX0_lower_17 : decode cX0_lower 17 = .ok (.iconst 0, 1) := by decide +kernel
theorem dX0_lower_18 : decode cX0_lower 18 = .ok (.ireturn, 1) := by decide +kernel
theorem dX0_lower_19 : decode cX0_lower 19 = .ok (.aload_n 0, 1) := by decide +kernel
theorem dX0_lower_20 : decode cX0_lower 20 = .ok (.iload_n 1, 1) := by decide +kernel
theorem dX0_lower_21 : decode cX0_lower 21 = .ok (.iload_n 2, 1) := by decide +kernel
theorem dX0_lower_22 : decode cX0_lower 22 = .ok (.iastore, 1) := by decide +kernel
theorem dX0_lower_23 : decode cX0_lower 23 = .ok (.iconst 1, 1) := by decide +kernel
theorem dX0_lower_24 : decode cX0_lower 24 = .ok (.ireturn, 1) := by decide +kernel
theorem dX1_init_0 : decode cX1_init 0 = .ok (.aload_n 0, 1) := by decide +kernel
theorem dX1_init_1 : decode cX1_init 1 = .ok (.invokespecial 3, 3) := by decide +kernel
theorem dX1_init_4 : decode cX1_init 4 = .ok (.aload_n 0, 1) := by decide +kernel
theorem dX1_init_5 : decode cX1_init 5 = .ok (.bipush 40, 2) := by decide +kernel
theorem dX1_init_7 : decode cX1_init 7 = .ok (.newarray .long, 2) := by decide +kernel
theorem dX1_init_9 : decode cX1_init 9 = .ok (.putfield 9, 3) := by decide +kernel
theorem dX1_init_12 : decode cX1_init 12 = .ok (.return_, 1) := by decide +kernel
theorem dX1_begin_0 : decode cX1_begin 0 = .ok (.aload_n 0, 1) := by decide +kernel
theorem dX1_begin_1 : decode cX1_begin 1 = .ok (.iload_n 1, 1) := by decide +kernel
theorem dX1_begin_2 : decode cX1_begin 2 = .ok (.putfield 15, 3) := by decide +kernel
theorem dX1_begin_5 : decode cX1_begin 5 = .ok (.aload_n 0, 1) := by decide +kernel
theorem dX1_begin_6 : decode cX1_begin 6 = .ok (.iload_n 2, 1) := by decide +kernel
theorem dX1_begin_7 : decode cX1_begin 7 = .ok (.putfield 19, 3) := by decide +kernel
theorem dX1_begin_10 : decode cX1_begin 10 = .ok (.aload_n 0, 1) := by decide +kernel
theorem dX1_begin_11 : decode cX1_begin 11 = .ok (.getfield 9, 3) := by decide +kernel
theorem dX1_begin_14 : decode cX1_begin 14 = .ok (.lconst 0, 1) := by decide +kernel
theorem dX1_begin_15 : decode cX1_begin 15 = .ok (.invokestatic 22, 3) := by decide +kernel
theorem dX1_begin_18 : decode cX1_begin 18 = .ok (.return_, 1) := by decide +kernel
theorem dX1_hasRow_0 : decode cX1_hasRow 0 = .ok (.iload_n 1, 1) := by decide +kernel
theorem dX1_hasRow_1 : decode cX1_hasRow 1 = .ok (.ifCond .lt 29, 3) := by decide +kernel
theorem dX1_hasRow_4 : decode cX1_hasRow 4 = .ok (.iload_n 2, 1) := by decide +kernel
theorem dX1_hasRow_5 : decode cX1_hasRow 5 = .ok (.ifCond .lt 25, 3) := by decide +kernel
theorem dX1_hasRow_8 : decode cX1_hasRow 8 = .ok (.iload_n 2, 1) := by decide +kernel
theorem dX1_hasRow_9 : decode cX1_hasRow 9 = .ok (.aload_n 0, 1) := by decide +kernel
theorem dX1_hasRow_10 : decode cX1_hasRow 10 = .ok (.getfield 19, 3) := by decide +kernel
theorem dX1_hasRow_13 : decode cX1_hasRow 13 = .ok (.if_icmp .gt 17, 3) := by decide +kernel
theorem dX1_hasRow_16 : decode cX1_hasRow 16 = .ok (.iload_n 1, 1) := by decide +kernel
theorem dX1_hasRow_17 : decode cX1_hasRow 17 = .ok (.aload_n 0, 1) := by decide +kernel
theorem dX1_hasRow_18 : decode cX1_hasRow 18 = .ok (.getfield 19, 3) := by decide +kernel
theorem dX1_hasRow_21 : decode cX1_hasRow 21 = .ok (.iload_n 2, 1) := by decide +kernel
theorem dX1_hasRow_22 : decode cX1_hasRow 22 = .ok (.isub, 1) := by decide +kernel
theorem dX1_hasRow_23 : decode cX1_hasRow 23 = .ok (.if_icmp .gt 7, 3) := by decide +kernel
theorem dX1_hasRow_26 : decode cX1_hasRow 26 = .ok (.iconst 1, 1) := by decide +kernel
theorem dX1_hasRow_27 : decode cX1_hasRow 27 = .ok (.goto 4, 3) := by decide +kernel
theorem dX1_hasRow_30 : decode cX1_hasRow 30 = .ok (.iconst 0, 1) := by decide +kernel
theorem dX1_hasRow_31 : decode cX1_hasRow 31 = .ok (.ireturn, 1) := by decide +kernel
theorem dX1_lowestBits_0 : decode cX1_lowestBits 0 = .ok (.aload_n 0, 1) := by decide +kernel
theorem dX1_lowestBits_1 : decode cX1_lowestBits 1 = .ok (.getfield 15, 3) := by decide +kernel
theorem dX1_lowestBits_4 : decode cX1_lowestBits 4 = .ok (.lookupswitch 38 #[(8, 28), (16, 33)], 28) := by decide +kernel
theorem dX1_lowestBits_32 : decode cX1_lowestBits 32 = .ok (.lload_n 1, 1) := by decide +kernel
theorem dX1_lowestBits_33 : decode cX1_lowestBits 33 = .ok (.l2i, 1) := by decide +kernel
theorem dX1_lowestBits_34 : decode cX1_lowestBits 34 = .ok (.i2b, 1) := by decide +kernel
theorem dX1_lowestBits_35 : decode cX1_lowestBits 35 = .ok (.i2l, 1) := by decide +kernel
theorem dX1_lowestBits_36 : decode cX1_lowestBits 36 = .ok (.lreturn, 1) := by decide +kernel
theorem dX1_lowestBits_37 : decode cX1_lowestBits 37 = .ok (.lload_n 1, 1) := by decide +kernel
theorem dX1_lowestBits_38 : decode cX1_lowestBits 38 = .ok (.l2i, 1) := by decide +kernel
theorem dX1_lowestBits_39 : decode cX1_lowestBits 39 = .ok (.i2s, 1) := by decide +kernel
theorem dX1_lowestBits_40 : decode cX1_lowestBits 40 = .ok (.i2l, 1) := by decide +kernel
theorem dX1_lowestBits_41 : decode cX1_lowestBits 41 = .ok (.lreturn, 1) := by decide +kernel
theorem dX1_lowestBits_42 : decode cX1_lowestBits 42 = .ok (.lload_n 1, 1) := by decide +kernel
theorem dX1_lowestBits_43 : decode cX1_lowestBits 43 = .ok (.lreturn, 1) := by decide +kernel
theorem dX2_init_0 : decode cX2_init 0 = .ok (.aload_n 0, 1) := by decide +kernel
theorem dX2_init_1 : decode cX2_init 1 = .ok (.invokespecial 3, 3) := by decide +kernel
theorem dX2_init_4 : decode cX2_init 4 = .ok (.aload_n 0, 1) := by decide +kernel
theorem dX2_init_5 : decode cX2_init 5 = .ok (.bipush 120, 2) := by decide +kernel
theorem dX2_init_7 : decode cX2_init 7 = .ok (.newarray .int, 2) := by decide +kernel
theorem dX2_init_9 : decode cX2_init 9 = .ok (.putfield 9, 3) := by decide +kernel
theorem dX2_init_12 : decode cX2_init 12 = .ok (.return_, 1) := by decide +kernel
theorem dX2_add_0 : decode cX2_add 0 = .ok (.aload_n 0, 1) := by decide +kernel
theorem dX2_add_1 : decode cX2_add 1 = .ok (.getfield 15, 3) := by decide +kernel
theorem dX2_add_4 : decode cX2_add 4 = .ok (.bipush 120, 2) := by decide +kernel
theorem dX2_add_6 : decode cX2_add 6 = .ok (.if_icmp .ge 23, 3) := by decide +kernel
theorem dX2_add_9 : decode cX2_add 9 = .ok (.aload_n 0, 1) := by decide +kernel
theorem dX2_add_10 : decode cX2_add 10 = .ok (.getfield 9, 3) := by decide +kernel
theorem dX2_add_13 : decode cX2_add 13 = .ok (.aload_n 0, 1) := by decide +kernel
theorem dX2_add_14 : decode cX2_add 14 = .ok (.getfield 15, 3) := by decide +kernel
theorem dX2_add_17 : decode cX2_add 17 = .ok (.iload_n 1, 1) := by decide +kernel
theorem dX2_add_18 : decode cX2_add 18 = .ok (.iastore, 1) := by decide +kernel
theorem dX2_add_19 : decode cX2_add 19 = .ok (.aload_n 0, 1) := by decide +kernel
theorem dX2_add_20 : decode cX2_add 20 = .ok (.dup, 1) := by decide +kernel
theorem dX2_add_21 : decode cX2_add 21 = .ok (.getfield 15, 3) := by decide +kernel
theorem dX2_add_24 : decode cX2_add 24 = .ok (.iconst 1, 1) := by decide +kernel
theorem dX2_add_25 : decode cX2_add 25 = .ok (.iadd, 1) := by decide +kernel
theorem dX2_add_26 : decode cX2_add 26 = .ok (.putfield 15, 3) := by decide +kernel
theorem dX2_add_29 : decode cX2_add 29 = .ok (.return_, 1) := by decide +kernel
theorem dX2_begin_0 : decode cX2_begin 0 = .ok (.aload_n 0, 1) := by decide +kernel
theorem dX2_begin_1 : decode cX2_begin 1 = .ok (.iconst 0, 1) := by decide +kernel
theorem dX2_begin_2 : decode cX2_begin 2 = .ok (.putfield 19, 3) := by decide +kernel
theorem dX2_begin_5 : decode cX2_begin 5 = .ok (.aload_n 0, 1) := by decide +kernel
theorem dX2_begin_6 : decode cX2_begin 6 = .ok (.invokevirtual 22, 3) := by decide +kernel
theorem dX2_begin_9 : decode cX2_begin 9 = .ok (.return_, 1) := by decide +kernel
theorem dX2_advance_0 : decode cX2_advance 0 = .ok (.aload_n 0, 1) := by decide +kernel
theorem dX2_advance_1 : decode cX2_advance 1 = .ok (.aload_n 0, 1) := by decide +kernel
theorem dX2_advance_2 : decode cX2_advance 2 = .ok (.getfield 19, 3) := by decide +kernel
theorem dX2_advance_5 : decode cX2_advance 5 = .ok (.putfield 25, 3) := by decide +kernel
theorem dX2_advance_8 : decode cX2_advance 8 = .ok (.aload_n 0, 1) := by decide +kernel
theorem dX2_advance_9 : decode cX2_advance 9 = .ok (.getfield 25, 3) := by decide +kernel
theorem dX2_advance_12 : decode cX2_advance 12 = .ok (.aload_n 0, 1) := by decide +kernel
theorem dX2_advance_13 : decode cX2_advance 13 = .ok (.getfield 15, 3) := by decide +kernel
theorem dX2_advance_16 : decode cX2_advance 16 = .ok (.if_icmp .ge 30, 3) := by decide +kernel
theorem dX2_advance_19 : decode cX2_advance 19 = .ok (.aload_n 0, 1) := by decide +kernel
theorem dX2_advance_20 : decode cX2_advance 20 = .ok (.getfield 9, 3) := by decide +kernel
theorem dX2_advance_23 : decode cX2_advance 23 = .ok (.aload_n 0, 1) := by decide +kernel
theorem dX2_advance_24 : decode cX2_advance 24 = .ok (.getfield 25, 3) := by decide +kernel
theorem dX2_advance_27 : decode cX2_advance 27 = .ok (.iaload, 1) := by decide +kernel
theorem dX2_advance_28 : decode cX2_advance 28 = .ok (.bipush 32, 2) := by decide +kernel
theorem dX2_advance_30 : decode cX2_advance 30 = .ok (.if_icmp .ne 16, 3) := by decide +kernel
theorem dX2_advance_33 : decode cX2_advance 33 = .ok (.aload_n 0, 1) := by decide +kernel
theorem dX2_advance_34 : decode cX2_advance 34 = .ok (.dup, 1) := by decide +kernel
theorem dX2_advance_35 : decode cX2_advance 35 = .ok (.getfield 25, 3) := by decide +kernel
theorem dX2_advance_38 : decode cX2_advance 38 = .ok (.iconst 1, 1) := by decide +kernel
theorem dX2_advance_39 : decode cX2_advance 39 = .ok (.iadd, 1) := by decide +kernel
theorem dX2_advance_40 : decode cX2_advance 40 = .ok (.putfield 25, 3) := by decide +kernel
theorem dX2_advance_43 : decode cX2_advance 43 = .ok (.goto (-35), 3) := by decide +kernel
theorem dX2_advance_46 : decode cX2_advance 46 = .ok (.aload_n 0, 1) := by decide +kernel
theorem dX2_advance_47 : decode cX2_advance 47 = .ok (.aload_n 0, 1) := by decide +kernel
theorem dX2_advance_48 : decode cX2_advance 48 = .ok (.getfield 25, 3) := by decide +kernel
theorem dX2_advance_51 : decode cX2_advance 51 = .ok (.putfield 19, 3) := by decide +kernel
theorem dX2_advance_54 : decode cX2_advance 54 = .ok (.aload_n 0, 1) := by decide +kernel
theorem dX2_advance_55 : decode cX2_advance 55 = .ok (.iconst 0, 1) := by decide +kernel
theorem dX2_advance_56 : decode cX2_advance 56 = .ok (.putfield 28, 3) := by decide +kernel
theorem dX2_advance_59 : decode cX2_advance 59 = .ok (.aload_n 0, 1) := by decide +kernel
theorem dX2_advance_60 : decode cX2_advance 60 = .ok (.getfield 19, 3) := by decide +kernel
theorem dX2_advance_63 : decode cX2_advance 63 = .ok (.aload_n 0, 1) := by decide +kernel
theorem dX2_advance_64 : decode cX2_advance 64 = .ok (.getfield 15, 3) := by decide +kernel
theorem dX2_advance_67 : decode cX2_advance 67 = .ok (.if_icmp .ge 31, 3) := by decide +kernel
theorem dX2_advance_70 : decode cX2_advance 70 = .ok (.aload_n 0, 1) := by decide +kernel
theorem dX2_advance_71 : decode cX2_advance 71 = .ok (.getfield 9, 3) := by decide +kernel
theorem dX2_advance_74 : decode cX2_advance 74 = .ok (.aload_n 0, 1) := by decide +kernel
theorem dX2_advance_75 : decode cX2_advance 75 = .ok (.getfield 19, 3) := by decide +kernel
theorem dX2_advance_78 : decode cX2_advance 78 = .ok (.iaload, 1) := by decide +kernel
theorem dX2_advance_79 : decode cX2_advance 79 = .ok (.invokestatic 31, 3) := by decide +kernel
theorem dX2_advance_82 : decode cX2_advance 82 = .ok (.ifCond .eq 16, 3) := by decide +kernel
theorem dX2_advance_85 : decode cX2_advance 85 = .ok (.aload_n 0, 1) := by decide +kernel
theorem dX2_advance_86 : decode cX2_advance 86 = .ok (.dup, 1) := by decide +kernel
theorem dX2_advance_87 : decode cX2_advance 87 = .ok (.getfield 19, 3) := by decide +kernel
theorem dX2_advance_90 : decode cX2_advance 90 = .ok (.iconst 1, 1) := by decide +kernel
theorem dX2_advance_91 : decode cX2_advance 91 = .ok (.iadd, 1) := by decide +kernel
theorem dX2_advance_92 : decode cX2_advance 92 = .ok (.putfield 19, 3) := by decide +kernel
theorem dX2_advance_95 : decode cX2_advance 95 = .ok (.goto (-36), 3) := by decide +kernel
theorem dX2_advance_98 : decode cX2_advance 98 = .ok (.aload_n 0, 1) := by decide +kernel
theorem dX2_advance_99 : decode cX2_advance 99 = .ok (.getfield 19, 3) := by decide +kernel
theorem dX2_advance_102 : decode cX2_advance 102 = .ok (.aload_n 0, 1) := by decide +kernel
theorem dX2_advance_103 : decode cX2_advance 103 = .ok (.getfield 25, 3) := by decide +kernel
theorem dX2_advance_106 : decode cX2_advance 106 = .ok (.if_icmp .le 9, 3) := by decide +kernel
theorem dX2_advance_109 : decode cX2_advance 109 = .ok (.aload_n 0, 1) := by decide +kernel
theorem dX2_advance_110 : decode cX2_advance 110 = .ok (.iconst 2, 1) := by decide +kernel
theorem dX2_advance_111 : decode cX2_advance 111 = .ok (.putfield 35, 3) := by decide +kernel
theorem dX2_advance_114 : decode cX2_advance 114 = .ok (.return_, 1) := by decide +kernel
theorem dX2_advance_115 : decode cX2_advance 115 = .ok (.aload_n 0, 1) := by decide +kernel
theorem dX2_advance_116 : decode cX2_advance 116 = .ok (.getfield 19, 3) := by decide +kernel
theorem dX2_advance_119 : decode cX2_advance 119 = .ok (.aload_n 0, 1) := by decide +kernel
theorem dX2_advance_120 : decode cX2_advance 120 = .ok (.getfield 15, 3) := by decide +kernel
theorem dX2_advance_123 : decode cX2_advance 123 = .ok (.if_icmp .ge 61, 3) := by decide +kernel
theorem dX2_advance_126 : decode cX2_advance 126 = .ok (.aload_n 0, 1) := by decide +kernel
theorem dX2_advance_127 : decode cX2_advance 127 = .ok (.getfield 9, 3) := by decide +kernel
theorem dX2_advance_130 : decode cX2_advance 130 = .ok (.aload_n 0, 1) := by decide +kernel
theorem dX2_advance_131 : decode cX2_advance 131 = .ok (.getfield 19, 3) := by decide +kernel
theorem dX2_advance_134 : decode cX2_advance 134 = .ok (.iaload, 1) := by decide +kernel
theorem dX2_advance_135 : decode cX2_advance 135 = .ok (.invokestatic 38, 3) := by decide +kernel
theorem dX2_advance_138 : decode cX2_advance 138 = .ok (.ifCond .eq 46, 3) := by decide +kernel
theorem dX2_advance_141 : decode cX2_advance 141 = .ok (.aload_n 0, 1) := by decide +kernel
theorem dX2_advance_142 : decode cX2_advance 142 = .ok (.aload_n 0, 1) := by decide +kernel
theorem dX2_advance_143 : decode cX2_advance 143 = .ok (.getfield 28, 3) := by decide +kernel
theorem dX2_advance_146 : decode cX2_advance 146 = .ok (.bipush 10, 2) := by decide +kernel
theorem dX2_advance_148 : decode cX2_advance 148 = .ok (.imul, 1) := by decide +kernel
theorem dX2_advance_149 : decode cX2_advance 149 = .ok (.aload_n 0, 1) := by decide +kernel
theorem dX2_advance_150 : decode cX2_advance 150 = .ok (.getfield 9, 3) := by decide +kernel
theorem dX2_advance_153 : decode cX2_advance 153 = .ok (.aload_n 0, 1) := by decide +kernel
theorem dX2_advance_154 : decode cX2_advance 154 = .ok (.getfield 19, 3) := by decide +kernel
theorem dX2_advance_157 : decode cX2_advance 157 = .ok (.iaload, 1) := by decide +kernel
theorem dX2_advance_158 : decode cX2_advance 158 = .ok (.iadd, 1) := by decide +kernel
theorem dX2_advance_159 : decode cX2_advance 159 = .ok (.bipush 48, 2) := by decide +kernel
theorem dX2_advance_161 : decode cX2_advance 161 = .ok (.isub, 1) := by decide +kernel
theorem dX2_advance_162 : decode cX2_advance 162 = .ok (.sipush 1000, 3) := by decide +kernel
theorem dX2_advance_165 : decode cX2_advance 165 = .ok (.invokestatic 41, 3) := by decide +kernel
theorem dX2_advance_168 : decode cX2_advance 168 = .ok (.putfield 28, 3) := by decide +kernel
theorem dX2_advance_171 : decode cX2_advance 171 = .ok (.aload_n 0, 1) := by decide +kernel
theorem dX2_advance_172 : decode cX2_advance 172 = .ok (.dup, 1) := by decide +kernel
theorem dX2_advance_173 : decode cX2_advance 173 = .ok (.getfield 19, 3) := by decide +kernel
theorem dX2_advance_176 : decode cX2_advance 176 = .ok (.iconst 1, 1) := by decide +kernel
theorem dX2_advance_177 : decode cX2_advance 177 = .ok (.iadd, 1) := by decide +kernel
theorem dX2_advance_178 : decode cX2_advance 178 = .ok (.putfield 19, 3) := by decide +kernel
theorem dX2_advance_181 : decode cX2_advance 181 = .ok (.goto (-66), 3) := by decide +kernel
theorem dX2_advance_184 : decode cX2_advance 184 = .ok (.aload_n 0, 1) := by decide +kernel
theorem dX2_advance_185 : decode cX2_advance 185 = .ok (.getfield 19, 3) := by decide +kernel
theorem dX2_advance_188 : decode cX2_advance 188 = .ok (.aload_n 0, 1) := by decide +kernel
theorem dX2_advance_189 : decode cX2_advance 189 = .ok (.getfield 25, 3) := by decide +kernel
theorem dX2_advance_192 : decode cX2_advance 192 = .ok (.if_icmp .le 9, 3) := by decide +kernel
theorem dX2_advance_195 : decode cX2_advance 195 = .ok (.aload_n 0, 1) := by decide +kernel
theorem dX2_advance_196 : decode cX2_advance 196 = .ok (.iconst 3, 1) := by decide +kernel
theorem dX2_advance_197 : decode cX2_advance 197 = .ok (.putfield 35, 3) := by decide +kernel
theorem dX2_advance_200 : decode cX2_advance 200 = .ok (.return_, 1) := by decide +kernel
theorem dX2_advance_201 : decode cX2_advance 201 = .ok (.aload_n 0, 1) := by decide +kernel
theorem dX2_advance_202 : decode cX2_advance 202 = .ok (.getfield 25, 3) := by decide +kernel
theorem dX2_advance_205 : decode cX2_advance 205 = .ok (.aload_n 0, 1) := by decide +kernel
theorem dX2_advance_206 : decode cX2_advance 206 = .ok (.getfield 15, 3) := by decide +kernel
theorem dX2_advance_209 : decode cX2_advance 209 = .ok (.if_icmp .lt 9, 3) := by decide +kernel
theorem dX2_advance_212 : decode cX2_advance 212 = .ok (.aload_n 0, 1) := by decide +kernel
theorem dX2_advance_213 : decode cX2_advance 213 = .ok (.iconst 0, 1) := by decide +kernel
theorem dX2_advance_214 : decode cX2_advance 214 = .ok (.putfield 35, 3) := by decide +kernel
theorem dX2_advance_217 : decode cX2_advance 217 = .ok (.return_, 1) := by decide +kernel
theorem dX2_advance_218 : decode cX2_advance 218 = .ok (.aload_n 0, 1) := by decide +kernel
theorem dX2_advance_219 : decode cX2_advance 219 = .ok (.aload_n 0, 1) := by decide +kernel
theorem dX2_advance_220 : decode cX2_advance 220 = .ok (.getfield 9, 3) := by decide +kernel
theorem dX2_advance_223 : decode cX2_advance 223 = .ok (.aload_n 0, 1) := by decide +kernel
theorem dX2_advance_224 : decode cX2_advance 224 = .ok (.getfield 25, 3) := by decide +kernel
theorem dX2_advance_227 : decode cX2_advance 227 = .ok (.iaload, 1) := by decide +kernel
theorem dX2_advance_228 : decode cX2_advance 228 = .ok (.bipush 59, 2) := by decide +kernel
theorem dX2_advance_230 : decode cX2_advance 230 = .ok (.if_icmp .ne 7, 3) := by decide +kernel
theorem dX2_advance_233 : decode cX2_advance 233 = .ok (.iconst 1, 1) := by decide +kernel
theorem dX2_advance_234 : decode cX2_advance 234 = .ok (.goto 4, 3) := by decide +kernel
theorem dX2_advance_237 : decode cX2_advance 237 = .ok (.iconst 4, 1) := by decide +kernel
theorem dX2_advance_238 : decode cX2_advance 238 = .ok (.putfield 35, 3) := by decide +kernel
theorem dX2_advance_241 : decode cX2_advance 241 = .ok (.aload_n 0, 1) := by decide +kernel
theorem dX2_advance_242 : decode cX2_advance 242 = .ok (.dup, 1) := by decide +kernel
theorem dX2_advance_243 : decode cX2_advance 243 = .ok (.getfield 19, 3) := by decide +kernel
theorem dX2_advance_246 : decode cX2_advance 246 = .ok (.iconst 1, 1) := by decide +kernel
theorem dX2_advance_247 : decode cX2_advance 247 = .ok (.iadd, 1) := by decide +kernel
theorem dX2_advance_248 : decode cX2_advance 248 = .ok (.putfield 19, 3) := by decide +kernel
theorem dX2_advance_251 : decode cX2_advance 251 = .ok (.return_, 1) := by decide +kernel
theorem dX2_isNumberBelow_0 : decode cX2_isNumberBelow 0 = .ok (.aload_n 0, 1) := by decide +kernel
theorem dX2_isNumberBelow_1 : decode cX2_isNumberBelow 1 = .ok (.getfield 35, 3) := by decide +kernel
theorem dX2_isNumberBelow_4 : decode cX2_isNumberBelow 4 = .ok (.iconst 3, 1) := by decide +kernel
theorem dX2_isNumberBelow_5 : decode cX2_isNumberBelow 5 = .ok (.if_icmp .ne 15, 3) := by decide +kernel
theorem dX2_isNumberBelow_8 : decode cX2_isNumberBelow 8 = .ok (.aload_n 0, 1) := by decide +kernel
theorem dX2_isNumberBelow_9 : decode cX2_isNumberBelow 9 = .ok (.getfield 28, 3) := by decide +kernel
theorem dX2_isNumberBelow_12 : decode cX2_isNumberBelow 12 = .ok (.iload_n 1, 1) := by decide +kernel
theorem dX2_isNumberBelow_13 : decode cX2_isNumberBelow 13 = .ok (.if_icmp .ge 7, 3) := by decide +kernel
theorem dX2_isNumberBelow_16 : decode cX2_isNumberBelow 16 = .ok (.iconst 1, 1) := by decide +kernel
theorem dX2_isNumberBelow_17 : decode cX2_isNumberBelow 17 = .ok (.goto 4, 3) := by decide +kernel
theorem dX2_isNumberBelow_20 : decode cX2_isNumberBelow 20 = .ok (.iconst 0, 1) := by decide +kernel
theorem dX2_isNumberBelow_21 : decode cX2_isNumberBelow 21 = .ok (.ireturn, 1) := by decide +kernel
theorem dX2_isWord_0 : decode cX2_isWord 0 = .ok (.aload_n 0, 1) := by decide +kernel
theorem dX2_isWord_1 : decode cX2_isWord 1 = .ok (.getfield 35, 3) := by decide +kernel
theorem dX2_isWord_4 : decode cX2_isWord 4 = .ok (.iconst 2, 1) := by decide +kernel
theorem dX2_isWord_5 : decode cX2_isWord 5 = .ok (.if_icmp .ne 19, 3) := by decide +kernel
theorem dX2_isWord_8 : decode cX2_isWord 8 = .ok (.aload_n 0, 1) := by decide +kernel
theorem dX2_isWord_9 : decode cX2_isWord 9 = .ok (.getfield 19, 3) := by decide +kernel
theorem dX2_isWord_12 : decode cX2_isWord 12 = .ok (.aload_n 0, 1) := by decide +kernel
theorem dX2_isWord_13 : decode cX2_isWord 13 = .ok (.getfield 25, 3) := by decide +kernel
theorem dX2_isWord_16 : decode cX2_isWord 16 = .ok (.isub, 1) := by decide +kernel
theorem dX2_isWord_17 : decode cX2_isWord 17 = .ok (.aload_n 1, 1) := by decide +kernel
theorem dX2_isWord_18 : decode cX2_isWord 18 = .ok (.invokevirtual 47, 3) := by decide +kernel
theorem dX2_isWord_21 : decode cX2_isWord 21 = .ok (.if_icmp .eq 5, 3) := by decide +kernel
theorem dX2_isWord_24 : decode cX2_isWord 24 = .ok (.iconst 0, 1) := by decide +kernel
theorem dX2_isWord_25 : decode cX2_isWord 25 = .ok (.ireturn, 1) := by decide +kernel
theorem dX2_isWord_26 : decode cX2_isWord 26 = .ok (.iconst 0, 1) := by decide +kernel
theorem dX2_isWord_27 : decode cX2_isWord 27 = .ok (.istore_n 2, 1) := by decide +kernel
theorem dX2_isWord_28 : decode cX2_isWord 28 = .ok (.iload_n 2, 1) := by decide +kernel
theorem dX2_isWord_29 : decode cX2_isWord 29 = .ok (.aload_n 1, 1) := by decide +kernel
theorem dX2_isWord_30 : decode cX2_isWord 30 = .ok (.invokevirtual 47, 3) := by decide +kernel
theorem dX2_isWord_33 : decode cX2_isWord 33 = .ok (.if_icmp .ge 30, 3) := by decide +kernel
theorem dX2_isWord_36 : decode cX2_isWord 36 = .ok (.aload_n 0, 1) := by decide +kernel
theorem dX2_isWord_37 : decode cX2_isWord 37 = .ok (.getfield 9, 3) := by decide +kernel
theorem dX2_isWord_40 : decode cX2_isWord 40 = .ok (.aload_n 0, 1) := by decide +kernel
theorem dX2_isWord_41 : decode cX2_isWord 41 = .ok (.getfield 25, 3) := by decide +kernel
theorem dX2_isWord_44 : decode cX2_isWord 44 = .ok (.iload_n 2, 1) := by decide +kernel
theorem dX2_isWord_45 : decode cX2_isWord 45 = .ok (.iadd, 1) := by decide +kernel
theorem dX2_isWord_46 : decode cX2_isWord 46 = .ok (.iaload, 1) := by decide +kernel
theorem dX2_isWord_47 : decode cX2_isWord 47 = .ok (.aload_n 1, 1) := by decide +kernel
theorem dX2_isWord_48 : decode cX2_isWord 48 = .ok (.iload_n 2, 1) := by decide +kernel
theorem dX2_isWord_49 : decode cX2_isWord 49 = .ok (.invokevirtual 52, 3) := by decide +kernel
theorem dX2_isWord_52 : decode cX2_isWord 52 = .ok (.if_icmp .eq 5, 3) := by decide +kernel
theorem dX2_isWord_55 : decode cX2_isWord 55 = .ok (.iconst 0, 1) := by decide +kernel
theorem dX2_isWord_56 : decode cX2_isWord 56 = .ok (.ireturn, 1) := by decide +kernel
theorem dX2_isWord_57 : decode cX2_isWord 57 = .ok (.iinc 2 1, 3) := by decide +kernel
theorem dX2_isWord_60 : decode cX2_isWord 60 = .ok (.goto (-32), 3) := by decide +kernel
theorem dX2_isWord_63 : decode cX2_isWord 63 = .ok (.iconst 1, 1) := by decide +kernel
theorem dX2_isWord_64 : decode cX2_isWord 64 = .ok (.ireturn, 1) := by decide +kernel
theorem dX2_isLetter_0 : decode cX2_isLetter 0 = .ok (.iload_n 0, 1) := by decide +kernel
theorem dX2_isLetter_1 : decode cX2_isLetter 1 = .ok (.bipush 97, 2) := by decide +kernel
theorem dX2_isLetter_3 : decode cX2_isLetter 3 = .ok (.if_icmp .lt 13, 3) := by decide +kernel
theorem dX2_isLetter_6 : decode cX2_isLetter 6 = .ok (.iload_n 0, 1) := by decide +kernel
theorem dX2_isLetter_7 : decode cX2_isLetter 7 = .ok (.bipush 122, 2) := by decide +kernel
theorem dX2_isLetter_9 : decode cX2_isLetter 9 = .ok (.if_icmp .gt 7, 3) := by decide +kernel
theorem dX2_isLetter_12 : decode cX2_isLetter 12 = .ok (.iconst 1, 1) := by decide +kernel
theorem dX2_isLetter_13 : decode cX2_isLetter 13 = .ok (.goto 4, 3) := by decide +kernel
theorem dX2_isLetter_16 : decode cX2_isLetter 16 = .ok (.iconst 0, 1) := by decide +kernel
theorem dX2_isLetter_17 : decode cX2_isLetter 17 = .ok (.ireturn, 1) := by decide +kernel
theorem dX2_isDigit_0 : decode cX2_isDigit 0 = .ok (.iload_n 0, 1) := by decide +kernel
theorem dX2_isDigit_1 : decode cX2_isDigit 1 = .ok (.bipush 48, 2) := by decide +kernel
theorem dX2_isDigit_3 : decode cX2_isDigit 3 = .ok (.if_icmp .lt 13, 3) := by decide +kernel
theorem dX2_isDigit_6 : decode cX2_isDigit 6 = .ok (.iload_n 0, 1) := by decide +kernel
theorem dX2_isDigit_7 : decode cX2_isDigit 7 = .ok (.bipush 57, 2) := by decide +kernel
theorem dX2_isDigit_9 : decode cX2_isDigit 9 = .ok (.if_icmp .gt 7, 3) := by decide +kernel
theorem dX2_isDigit_12 : decode cX2_isDigit 12 = .ok (.iconst 1, 1) := by decide +kernel
theorem dX2_isDigit_13 : decode cX2_isDigit 13 = .ok (.goto 4, 3) := by decide +kernel
theorem dX2_isDigit_16 : decode cX2_isDigit 16 = .ok (.iconst 0, 1) := by decide +kernel
theorem dX2_isDigit_17 : decode cX2_isDigit 17 = .ok (.ireturn, 1) := by decide +kernel
theorem dX3_init_0 : decode cX3_init 0 = .ok (.aload_n 0, 1) := by decide +kernel
theorem dX3_init_1 : decode cX3_init 1 = .ok (.invokespecial 3, 3) := by decide +kernel
theorem dX3_init_4 : decode cX3_init 4 = .ok (.aload_n 0, 1) := by decide +kernel
theorem dX3_init_5 : decode cX3_init 5 = .ok (.aload_n 1, 1) := by decide +kernel
theorem dX3_init_6 : decode cX3_init 6 = .ok (.putfield 9, 3) := by decide +kernel
theorem dX3_init_9 : decode cX3_init 9 = .ok (.aload_n 0, 1) := by decide +kernel
theorem dX3_init_10 : decode cX3_init 10 = .ok (.aload_n 2, 1) := by decide +kernel
theorem dX3_init_11 : decode cX3_init 11 = .ok (.putfield 15, 3) := by decide +kernel
theorem dX3_init_14 : decode cX3_init 14 = .ok (.return_, 1) := by decide +kernel
theorem dX3_tellAll_0 : decode cX3_tellAll 0 = .ok (.aload_n 0, 1) := by decide +kernel
theorem dX3_tellAll_1 : decode cX3_tellAll 1 = .ok (.getfield 9, 3) := by decide +kernel
theorem dX3_tellAll_4 : decode cX3_tellAll 4 = .ok (.invokevirtual 19, 3) := by decide +kernel
theorem dX3_tellAll_7 : decode cX3_tellAll 7 = .ok (.iconst 1, 1) := by decide +kernel
theorem dX3_tellAll_8 : decode cX3_tellAll 8 = .ok (.istore_n 1, 1) := by decide +kernel
theorem dX3_tellAll_9 : decode cX3_tellAll 9 = .ok (.iload_n 1, 1) := by decide +kernel
theorem dX3_tellAll_10 : decode cX3_tellAll 10 = .ok (.bipush 121, 2) := by decide +kernel
theorem dX3_tellAll_12 : decode cX3_tellAll 12 = .ok (.if_icmp .gt 66, 3) := by decide +kernel
theorem dX3_tellAll_15 : decode cX3_tellAll 15 = .ok (.aload_n 0, 1) := by decide +kernel
theorem dX3_tellAll_16 : decode cX3_tellAll 16 = .ok (.invokevirtual 24, 3) := by decide +kernel
theorem dX3_tellAll_19 : decode cX3_tellAll 19 = .ok (.ifCond .ne 13, 3) := by decide +kernel
theorem dX3_tellAll_22 : decode cX3_tellAll 22 = .ok (.iconst (-1), 1) := by decide +kernel
theorem dX3_tellAll_23 : decode cX3_tellAll 23 = .ok (.aload_n 0, 1) := by decide +kernel
theorem dX3_tellAll_24 : decode cX3_tellAll 24 = .ok (.getfield 9, 3) := by decide +kernel
theorem dX3_tellAll_27 : decode cX3_tellAll 27 = .ok (.getfield 28, 3) := by decide +kernel
theorem dX3_tellAll_30 : decode cX3_tellAll 30 = .ok (.isub, 1) := by decide +kernel
theorem dX3_tellAll_31 : decode cX3_tellAll 31 = .ok (.ireturn, 1) := by decide +kernel
theorem dX3_tellAll_32 : decode cX3_tellAll 32 = .ok (.aload_n 0, 1) := by decide +kernel
theorem dX3_tellAll_33 : decode cX3_tellAll 33 = .ok (.getfield 9, 3) := by decide +kernel
theorem dX3_tellAll_36 : decode cX3_tellAll 36 = .ok (.getfield 32, 3) := by decide +kernel
theorem dX3_tellAll_39 : decode cX3_tellAll 39 = .ok (.ifCond .ne 5, 3) := by decide +kernel
theorem dX3_tellAll_42 : decode cX3_tellAll 42 = .ok (.iload_n 1, 1) := by decide +kernel
theorem dX3_tellAll_43 : decode cX3_tellAll 43 = .ok (.ireturn, 1) := by decide +kernel
theorem dX3_tellAll_44 : decode cX3_tellAll 44 = .ok (.aload_n 0, 1) := by decide +kernel
theorem dX3_tellAll_45 : decode cX3_tellAll 45 = .ok (.getfield 9, 3) := by decide +kernel
theorem dX3_tellAll_48 : decode cX3_tellAll 48 = .ok (.getfield 32, 3) := by decide +kernel
theorem dX3_tellAll_51 : decode cX3_tellAll 51 = .ok (.iconst 1, 1) := by decide +kernel
theorem dX3_tellAll_52 : decode cX3_tellAll 52 = .ok (.if_icmp .eq 13, 3) := by decide +kernel
theorem dX3_tellAll_55 : decode cX3_tellAll 55 = .ok (.iconst (-1), 1) := by decide +kernel
theorem dX3_tellAll_56 : decode cX3_tellAll 56 = .ok (.aload_n 0, 1) := by decide +kernel
theorem dX3_tellAll_57 : decode cX3_tellAll 57 = .ok (.getfield 9, 3) := by decide +kernel
theorem dX3_tellAll_60 : decode cX3_tellAll 60 = .ok (.getfield 28, 3) := by decide +kernel
theorem dX3_tellAll_63 : decode cX3_tellAll 63 = .ok (.isub, 1) := by decide +kernel
theorem dX3_tellAll_64 : decode cX3_tellAll 64 = .ok (.ireturn, 1) := by decide +kernel
theorem dX3_tellAll_65 : decode cX3_tellAll 65 = .ok (.aload_n 0, 1) := by decide +kernel
theorem dX3_tellAll_66 : decode cX3_tellAll 66 = .ok (.getfield 9, 3) := by decide +kernel
theorem dX3_tellAll_69 : decode cX3_tellAll 69 = .ok (.invokevirtual 35, 3) := by decide +kernel
theorem dX3_tellAll_72 : decode cX3_tellAll 72 = .ok (.iinc 1 1, 3) := by decide +kernel
theorem dX3_tellAll_75 : decode cX3_tellAll 75 = .ok (.goto (-66), 3) := by decide +kernel
theorem dX3_tellAll_78 : decode cX3_tellAll 78 = .ok (.iconst (-1), 1) := by decide +kernel
theorem dX3_tellAll_79 : decode cX3_tellAll 79 = .ok (.aload_n 0, 1) := by decide +kernel
theorem dX3_tellAll_80 : decode cX3_tellAll 80 = .ok (.getfield 9, 3) := by decide +kernel
theorem dX3_tellAll_83 : decode cX3_tellAll 83 = .ok (.getfield 28, 3) := by decide +kernel
theorem dX3_tellAll_86 : decode cX3_tellAll 86 = .ok (.isub, 1) := by decide +kernel
theorem dX3_tellAll_87 : decode cX3_tellAll 87 = .ok (.ireturn, 1) := by decide +kernel
theorem dX3_tellItem_0 : decode cX3_tellItem 0 = .ok (.aload_n 0, 1) := by decide +kernel
theorem dX3_tellItem_1 : decode cX3_tellItem 1 = .ok (.getfield 9, 3) := by decide +kernel
theorem dX3_tellItem_4 : decode cX3_tellItem 4 = .ok (.ldc 38, 2) := by decide +kernel
theorem dX3_tellItem_6 : decode cX3_tellItem 6 = .ok (.invokevirtual 40, 3) := by decide +kernel
theorem dX3_tellItem_9 : decode cX3_tellItem 9 = .ok (.ifCond .eq 8, 3) := by decide +kernel
theorem dX3_tellItem_12 : decode cX3_tellItem 12 = .ok (.aload_n 0, 1) := by decide +kernel
theorem dX3_tellItem_13 : decode cX3_tellItem 13 = .ok (.invokevirtual 44, 3) := by decide +kernel
theorem dX3_tellItem_16 : decode cX3_tellItem 16 = .ok (.ireturn, 1) := by decide +kernel
theorem dX3_tellItem_17 : decode cX3_tellItem 17 = .ok (.aload_n 0, 1) := by decide +kernel
theorem dX3_tellItem_18 : decode cX3_tellItem 18 = .ok (.getfield 9, 3) := by decide +kernel
theorem dX3_tellItem_21 : decode cX3_tellItem 21 = .ok (.ldc 47, 2) := by decide +kernel
theorem dX3_tellItem_23 : decode cX3_tellItem 23 = .ok (.invokevirtual 40, 3) := by decide +kernel
theorem dX3_tellItem_26 : decode cX3_tellItem 26 = .ok (.ifCond .eq 8, 3) := by decide +kernel
theorem dX3_tellItem_29 : decode cX3_tellItem 29 = .ok (.aload_n 0, 1) := by decide +kernel
theorem dX3_tellItem_30 : decode cX3_tellItem 30 = .ok (.invokevirtual 49, 3) := by decide +kernel
theorem dX3_tellItem_33 : decode cX3_tellItem 33 = .ok (.ireturn, 1) := by decide +kernel
theorem dX3_tellItem_34 : decode cX3_tellItem 34 = .ok (.aload_n 0, 1) := by decide +kernel
theorem dX3_tellItem_35 : decode cX3_tellItem 35 = .ok (.getfield 9, 3) := by decide +kernel
theorem dX3_tellItem_38 : decode cX3_tellItem 38 = .ok (.ldc 52, 2) := by decide +kernel
theorem dX3_tellItem_40 : decode cX3_tellItem 40 = .ok (.invokevirtual 40, 3) := by decide +kernel
theorem dX3_tellItem_43 : decode cX3_tellItem 43 = .ok (.ifCond .eq 8, 3) := by decide +kernel
theorem dX3_tellItem_46 : decode cX3_tellItem 46 = .ok (.aload_n 0, 1) := by decide +kernel
theorem dX3_tellItem_47 : decode cX3_tellItem 47 = .ok (.invokevirtual 54, 3) := by decide +kernel
theorem dX3_tellItem_50 : decode cX3_tellItem 50 = .ok (.ireturn, 1) := by decide +kernel
theorem dX3_tellItem_51 : decode cX3_tellItem 51 = .ok (.aload_n 0, 1) := by decide +kernel
theorem dX3_tellItem_52 : decode cX3_tellItem 52 = .ok (.invokevirtual 57, 3) := by decide +kernel
theorem dX3_tellItem_55 : decode cX3_tellItem 55 = .ok (.ireturn, 1) := by decide +kernel
theorem dX3_tellField_0 : decode cX3_tellField 0 = .ok (.aload_n 0, 1) := by decide +kernel
theorem dX3_tellField_1 : decode cX3_tellField 1 = .ok (.getfield 15, 3) := by decide +kernel
theorem dX3_tellField_4 : decode cX3_tellField 4 = .ok (.getfield 60, 3) := by decide +kernel
theorem dX3_tellField_7 : decode cX3_tellField 7 = .ok (.bipush 16, 2) := by decide +kernel
theorem dX3_tellField_9 : decode cX3_tellField 9 = .ok (.if_icmp .lt 5, 3) := by decide +kernel
theorem dX3_tellField_12 : decode cX3_tellField 12 = .ok (.iconst 0, 1) := by decide +kernel
theorem dX3_tellField_13 : decode cX3_tellField 13 = .ok (.ireturn, 1) := by decide +kernel
theorem dX3_tellField_14 : decode cX3_tellField 14 = .ok (.aload_n 0, 1) := by decide +kernel
theorem dX3_tellField_15 : decode cX3_tellField 15 = .ok (.getfield 9, 3) := by decide +kernel
theorem dX3_tellField_18 : decode cX3_tellField 18 = .ok (.invokevirtual 35, 3) := by decide +kernel
theorem dX3_tellField_21 : decode cX3_tellField 21 = .ok (.iconst 0, 1) := by decide +kernel
theorem dX3_tellField_22 : decode cX3_tellField 22 = .ok (.istore_n 1, 1) := by decide +kernel
theorem dX3_tellField_23 : decode cX3_tellField 23 = .ok (.aload_n 0, 1) := by decide +kernel
theorem dX3_tellField_24 : decode cX3_tellField 24 = .ok (.getfield 9, 3) := by decide +kernel
theorem dX3_tellField_27 : decode cX3_tellField 27 = .ok (.ldc 65, 2) := by decide +kernel
theorem dX3_tellField_29 : decode cX3_tellField 29 = .ok (.invokevirtual 40, 3) := by decide +kernel
theorem dX3_tellField_32 : decode cX3_tellField 32 = .ok (.ifCond .eq 39, 3) := by decide +kernel
theorem dX3_tellField_35 : decode cX3_tellField 35 = .ok (.aload_n 0, 1) := by decide +kernel
theorem dX3_tellField_36 : decode cX3_tellField 36 = .ok (.getfield 9, 3) := by decide +kernel
theorem dX3_tellField_39 : decode cX3_tellField 39 = .ok (.invokevirtual 35, 3) := by decide +kernel
theorem dX3_tellField_42 : decode cX3_tellField 42 = .ok (.aload_n 0, 1) := by decide +kernel
theorem dX3_tellField_43 : decode cX3_tellField 43 = .ok (.getfield 9, 3) := by decide +kernel
theorem dX3_tellField_46 : decode cX3_tellField 46 = .ok (.bipush 10, 2) := by decide +kernel
theorem dX3_tellField_48 : decode cX3_tellField 48 = .ok (.invokevirtual 67, 3) := by decide +kernel
theorem dX3_tellField_51 : decode cX3_tellField 51 = .ok (.ifCond .ne 5, 3) := by decide +kernel
theorem dX3_tellField_54 : decode cX3_tellField 54 = .ok (.iconst 0, 1) := by decide +kernel
theorem dX3_tellField_55 : decode cX3_tellField 55 = .ok (.ireturn, 1) := by decide +kernel
theorem dX3_tellField_56 : decode cX3_tellField 56 = .ok (.aload_n 0, 1) := by decide +kernel
theorem dX3_tellField_57 : decode cX3_tellField 57 = .ok (.getfield 9, 3) := by decide +kernel
theorem dX3_tellField_60 : decode cX3_tellField 60 = .ok (.getfield 71, 3) := by decide +kernel
theorem dX3_tellField_63 : decode cX3_tellField 63 = .ok (.istore_n 1, 1) := by decide +kernel
theorem dX3_tellField_64 : decode cX3_tellField 64 = .ok (.aload_n 0, 1) := by decide +kernel
theorem dX3_tellField_65 : decode cX3_tellField 65 = .ok (.getfield 9, 3) := by decide +kernel
theorem dX3_tellField_68 : decode cX3_tellField 68 = .ok (.invokevirtual 35, 3) := by decide +kernel
theorem dX3_tellField_71 : decode cX3_tellField 71 = .ok (.aload_n 0, 1) := by decide +kernel
theorem dX3_tellField_72 : decode cX3_tellField 72 = .ok (.getfield 15, 3) := by decide +kernel
theorem dX3_tellField_75 : decode cX3_tellField 75 = .ok (.iload_n 1, 1) := by decide +kernel
theorem dX3_tellField_76 : decode cX3_tellField 76 = .ok (.invokevirtual 74, 3) := by decide +kernel
theorem dX3_tellField_79 : decode cX3_tellField 79 = .ok (.pop, 1) := by decide +kernel
theorem dX3_tellField_80 : decode cX3_tellField 80 = .ok (.iconst 1, 1) := by decide +kernel
theorem dX3_tellField_81 : decode cX3_tellField 81 = .ok (.ireturn, 1) := by decide +kernel
theorem dX3_tellGlue_0 : decode cX3_tellGlue 0 = .ok (.aload_n 0, 1) := by decide +kernel
theorem dX3_tellGlue_1 : decode cX3_tellGlue 1 = .ok (.getfield 9, 3) := by decide +kernel
theorem dX3_tellGlue_4 : decode cX3_tellGlue 4 = .ok (.invokevirtual 35, 3) := by decide +kernel
theorem dX3_tellGlue_7 : decode cX3_tellGlue 7 = .ok (.aload_n 0, 1) := by decide +kernel
theorem dX3_tellGlue_8 : decode cX3_tellGlue 8 = .ok (.invokevirtual 78, 3) := by decide +kernel
theorem dX3_tellGlue_11 : decode cX3_tellGlue 11 = .ok (.istore_n 1, 1) := by decide +kernel
theorem dX3_tellGlue_12 : decode cX3_tellGlue 12 = .ok (.iload_n 1, 1) := by decide +kernel
theorem dX3_tellGlue_13 : decode cX3_tellGlue 13 = .ok (.iconst (-1), 1) := by decide +kernel
theorem dX3_tellGlue_14 : decode cX3_tellGlue 14 = .ok (.if_icmp .eq 14, 3) := by decide +kernel
theorem dX3_tellGlue_17 : decode cX3_tellGlue 17 = .ok (.aload_n 0, 1) := by decide +kernel
theorem dX3_tellGlue_18 : decode cX3_tellGlue 18 = .ok (.getfield 15, 3) := by decide +kernel
theorem dX3_tellGlue_21 : decode cX3_tellGlue 21 = .ok (.iload_n 1, 1) := by decide +kernel
theorem dX3_tellGlue_22 : decode cX3_tellGlue 22 = .ok (.invokevirtual 82, 3) := by decide +kernel
theorem dX3_tellGlue_25 : decode cX3_tellGlue 25 = .ok (.ifCond .ne 5, 3) := by decide +kernel
theorem dX3_tellGlue_28 : decode cX3_tellGlue 28 = .ok (.iconst 0, 1) := by decide +kernel
theorem dX3_tellGlue_29 : decode cX3_tellGlue 29 = .ok (.ireturn, 1) := by decide +kernel
theorem dX3_tellGlue_30 : decode cX3_tellGlue 30 = .ok (.aload_n 0, 1) := by decide +kernel
theorem dX3_tellGlue_31 : decode cX3_tellGlue 31 = .ok (.getfield 9, 3) := by decide +kernel
theorem dX3_tellGlue_34 : decode cX3_tellGlue 34 = .ok (.invokevirtual 35, 3) := by decide +kernel
theorem dX3_tellGlue_37 : decode cX3_tellGlue 37 = .ok (.aload_n 0, 1) := by decide +kernel
theorem dX3_tellGlue_38 : decode cX3_tellGlue 38 = .ok (.invokevirtual 78, 3) := by decide +kernel
theorem dX3_tellGlue_41 : decode cX3_tellGlue 41 = .ok (.istore_n 2, 1) := by decide +kernel
theorem dX3_tellGlue_42 : decode cX3_tellGlue 42 = .ok (.iload_n 2, 1) := by decide +kernel
theorem dX3_tellGlue_43 : decode cX3_tellGlue 43 = .ok (.iconst (-1), 1) := by decide +kernel
theorem dX3_tellGlue_44 : decode cX3_tellGlue 44 = .ok (.if_icmp .eq 19, 3) := by decide +kernel
theorem dX3_tellGlue_47 : decode cX3_tellGlue 47 = .ok (.aload_n 0, 1) := by decide +kernel
theorem dX3_tellGlue_48 : decode cX3_tellGlue 48 = .ok (.getfield 15, 3) := by decide +kernel
theorem dX3_tellGlue_51 : decode cX3_tellGlue 51 = .ok (.iload_n 2, 1) := by decide +kernel
theorem dX3_tellGlue_52 : decode cX3_tellGlue 52 = .ok (.invokevirtual 82, 3) := by decide +kernel
theorem dX3_tellGlue_55 : decode cX3_tellGlue 55 = .ok (.ifCond .eq 8, 3) := by decide +kernel
theorem dX3_tellGlue_58 : decode cX3_tellGlue 58 = .ok (.iload_n 2, 1) := by decide +kernel
theorem dX3_tellGlue_59 : decode cX3_tellGlue 59 = .ok (.iload_n 1, 1) := by decide +kernel
theorem dX3_tellGlue_60 : decode cX3_tellGlue 60 = .ok (.if_icmp .ne 5, 3) := by decide +kernel
theorem dX3_tellGlue_63 : decode cX3_tellGlue 63 = .ok (.iconst 0, 1) := by decide +kernel
theorem dX3_tellGlue_64 : decode cX3_tellGlue 64 = .ok (.ireturn, 1) := by decide +kernel
theorem dX3_tellGlue_65 : decode cX3_tellGlue 65 = .ok (.aload_n 0, 1) := by decide +kernel
theorem dX3_tellGlue_66 : decode cX3_tellGlue 66 = .ok (.getfield 9, 3) := by decide +kernel
theorem dX3_tellGlue_69 : decode cX3_tellGlue 69 = .ok (.invokevirtual 35, 3) := by decide +kernel
theorem dX3_tellGlue_72 : decode cX3_tellGlue 72 = .ok (.aload_n 0, 1) := by decide +kernel
theorem dX3_tellGlue_73 : decode cX3_tellGlue 73 = .ok (.getfield 15, 3) := by decide +kernel
theorem dX3_tellGlue_76 : decode cX3_tellGlue 76 = .ok (.iload_n 1, 1) := by decide +kernel
theorem dX3_tellGlue_77 : decode cX3_tellGlue 77 = .ok (.iload_n 2, 1) := by decide +kernel
theorem dX3_tellGlue_78 : decode cX3_tellGlue 78 = .ok (.invokevirtual 85, 3) := by decide +kernel
theorem dX3_tellGlue_81 : decode cX3_tellGlue 81 = .ok (.iconst 1, 1) := by decide +kernel
theorem dX3_tellGlue_82 : decode cX3_tellGlue 82 = .ok (.ireturn, 1) := by decide +kernel
theorem dX3_tellCut_0 : decode cX3_tellCut 0 = .ok (.aload_n 0, 1) := by decide +kernel
theorem dX3_tellCut_1 : decode cX3_tellCut 1 = .ok (.getfield 9, 3) := by decide +kernel
theorem dX3_tellCut_4 : decode cX3_tellCut 4 = .ok (.invokevirtual 35, 3) := by decide +kernel
theorem dX3_tellCut_7 : decode cX3_tellCut 7 = .ok (.aload_n 0, 1) := by decide +kernel
theorem dX3_tellCut_8 : decode cX3_tellCut 8 = .ok (.invokevirtual 78, 3) := by decide +kernel
theorem dX3_tellCut_11 : decode cX3_tellCut 11 = .ok (.istore_n 1, 1) := by decide +kernel
theorem dX3_tellCut_12 : decode cX3_tellCut 12 = .ok (.iload_n 1, 1) := by decide +kernel
theorem dX3_tellCut_13 : decode cX3_tellCut 13 = .ok (.iconst (-1), 1) := by decide +kernel
theorem dX3_tellCut_14 : decode cX3_tellCut 14 = .ok (.if_icmp .eq 14, 3) := by decide +kernel
theorem dX3_tellCut_17 : decode cX3_tellCut 17 = .ok (.aload_n 0, 1) := by decide +kernel
theorem dX3_tellCut_18 : decode cX3_tellCut 18 = .ok (.getfield 15, 3) := by decide +kernel
theorem dX3_tellCut_21 : decode cX3_tellCut 21 = .ok (.iload_n 1, 1) := by decide +kernel
theorem dX3_tellCut_22 : decode cX3_tellCut 22 = .ok (.invokevirtual 82, 3) := by decide +kernel
theorem dX3_tellCut_25 : decode cX3_tellCut 25 = .ok (.ifCond .eq 5, 3) := by decide +kernel
theorem dX3_tellCut_28 : decode cX3_tellCut 28 = .ok (.iconst 0, 1) := by decide +kernel
theorem dX3_tellCut_29 : decode cX3_tellCut 29 = .ok (.ireturn, 1) := by decide +kernel
theorem dX3_tellCut_30 : decode cX3_tellCut 30 = .ok (.aload_n 0, 1) := by decide +kernel
theorem dX3_tellCut_31 : decode cX3_tellCut 31 = .ok (.getfield 9, 3) := by decide +kernel
theorem dX3_tellCut_34 : decode cX3_tellCut 34 = .ok (.invokevirtual 35, 3) := by decide +kernel
theorem dX3_tellCut_37 : decode cX3_tellCut 37 = .ok (.aload_n 0, 1) := by decide +kernel
theorem dX3_tellCut_38 : decode cX3_tellCut 38 = .ok (.getfield 15, 3) := by decide +kernel
theorem dX3_tellCut_41 : decode cX3_tellCut 41 = .ok (.iload_n 1, 1) := by decide +kernel
theorem dX3_tellCut_42 : decode cX3_tellCut 42 = .ok (.invokevirtual 89, 3) := by decide +kernel
theorem dX3_tellCut_45 : decode cX3_tellCut 45 = .ok (.iconst 1, 1) := by decide +kernel
theorem dX3_tellCut_46 : decode cX3_tellCut 46 = .ok (.ireturn, 1) := by decide +kernel
theorem dX3_tellWalker_0 : decode cX3_tellWalker 0 = .ok (.aload_n 0, 1) := by decide +kernel
theorem dX3_tellWalker_1 : decode cX3_tellWalker 1 = .ok (.invokevirtual 93, 3) := by decide +kernel
theorem dX3_tellWalker_4 : decode cX3_tellWalker 4 = .ok (.istore_n 1, 1) := by decide +kernel
theorem dX3_tellWalker_5 : decode cX3_tellWalker 5 = .ok (.iload_n 1, 1) := by decide +kernel
theorem dX3_tellWalker_6 : decode cX3_tellWalker 6 = .ok (.iconst (-1), 1) := by decide +kernel
theorem dX3_tellWalker_7 : decode cX3_tellWalker 7 = .ok (.if_icmp .eq 15, 3) := by decide +kernel
theorem dX3_tellWalker_10 : decode cX3_tellWalker 10 = .ok (.aload_n 0, 1) := by decide +kernel
theorem dX3_tellWalker_11 : decode cX3_tellWalker 11 = .ok (.getfield 15, 3) := by decide +kernel
theorem dX3_tellWalker_14 : decode cX3_tellWalker 14 = .ok (.getfield 96, 3) := by decide +kernel
theorem dX3_tellWalker_17 : decode cX3_tellWalker 17 = .ok (.bipush 6, 2) := by decide +kernel
theorem dX3_tellWalker_19 : decode cX3_tellWalker 19 = .ok (.if_icmp .lt 5, 3) := by decide +kernel
theorem dX3_tellWalker_22 : decode cX3_tellWalker 22 = .ok (.iconst 0, 1) := by decide +kernel
theorem dX3_tellWalker_23 : decode cX3_tellWalker 23 = .ok (.ireturn, 1) := by decide +kernel
theorem dX3_tellWalker_24 : decode cX3_tellWalker 24 = .ok (.aload_n 0, 1) := by decide +kernel
theorem dX3_tellWalker_25 : decode cX3_tellWalker 25 = .ok (.getfield 9, 3) := by decide +kernel
theorem dX3_tellWalker_28 : decode cX3_tellWalker 28 = .ok (.invokevirtual 35, 3) := by decide +kernel
theorem dX3_tellWalker_31 : decode cX3_tellWalker 31 = .ok (.aload_n 0, 1) := by decide +kernel
theorem dX3_tellWalker_32 : decode cX3_tellWalker 32 = .ok (.getfield 9, 3) := by decide +kernel
theorem dX3_tellWalker_35 : decode cX3_tellWalker 35 = .ok (.ldc 99, 2) := by decide +kernel
theorem dX3_tellWalker_37 : decode cX3_tellWalker 37 = .ok (.invokevirtual 40, 3) := by decide +kernel
theorem dX3_tellWalker_40 : decode cX3_tellWalker 40 = .ok (.ifCond .ne 5, 3) := by decide +kernel
theorem dX3_tellWalker_43 : decode cX3_tellWalker 43 = .ok (.iconst 0, 1) := by decide +kernel
theorem dX3_tellWalker_44 : decode cX3_tellWalker 44 = .ok (.ireturn, 1) := by decide +kernel
theorem dX3_tellWalker_45 : decode cX3_tellWalker 45 = .ok (.aload_n 0, 1) := by decide +kernel
theorem dX3_tellWalker_46 : decode cX3_tellWalker 46 = .ok (.getfield 9, 3) := by decide +kernel
theorem dX3_tellWalker_49 : decode cX3_tellWalker 49 = .ok (.invokevirtual 35, 3) := by decide +kernel
theorem dX3_tellWalker_52 : decode cX3_tellWalker 52 = .ok (.aload_n 0, 1) := by decide +kernel
theorem dX3_tellWalker_53 : decode cX3_tellWalker 53 = .ok (.invokevirtual 78, 3) := by decide +kernel
theorem dX3_tellWalker_56 : decode cX3_tellWalker 56 = .ok (.istore_n 2, 1) := by decide +kernel
theorem dX3_tellWalker_57 : decode cX3_tellWalker 57 = .ok (.iload_n 2, 1) := by decide +kernel
theorem dX3_tellWalker_58 : decode cX3_tellWalker 58 = .ok (.iconst (-1), 1) := by decide +kernel
theorem dX3_tellWalker_59 : decode cX3_tellWalker 59 = .ok (.if_icmp .ne 5, 3) := by decide +kernel
theorem dX3_tellWalker_62 : decode cX3_tellWalker 62 = .ok (.iconst 0, 1) := by decide +kernel
theorem dX3_tellWalker_63 : decode cX3_tellWalker 63 = .ok (.ireturn, 1) := by decide +kernel
theorem dX3_tellWalker_64 : decode cX3_tellWalker 64 = .ok (.aload_n 0, 1) := by decide +kernel
theorem dX3_tellWalker_65 : decode cX3_tellWalker 65 = .ok (.getfield 9, 3) := by decide +kernel
theorem dX3_tellWalker_68 : decode cX3_tellWalker 68 = .ok (.invokevirtual 35, 3) := by decide +kernel
theorem dX3_tellWalker_71 : decode cX3_tellWalker 71 = .ok (.aload_n 0, 1) := by decide +kernel
theorem dX3_tellWalker_72 : decode cX3_tellWalker 72 = .ok (.getfield 15, 3) := by decide +kernel
theorem dX3_tellWalker_75 : decode cX3_tellWalker 75 = .ok (.iload_n 1, 1) := by decide +kernel
theorem dX3_tellWalker_76 : decode cX3_tellWalker 76 = .ok (.iload_n 2, 1) := by decide +kernel
theorem dX3_tellWalker_77 : decode cX3_tellWalker 77 = .ok (.invokevirtual 101, 3) := by decide +kernel
theorem dX3_tellWalker_80 : decode cX3_tellWalker 80 = .ok (.pop, 1) := by decide +kernel
theorem dX3_tellWalker_81 : decode cX3_tellWalker 81 = .ok (.iconst 1, 1) := by decide +kernel
theorem dX3_tellWalker_82 : decode cX3_tellWalker 82 = .ok (.ireturn, 1) := by decide +kernel
theorem dX3_lookAtSide_0 : decode cX3_lookAtSide 0 = .ok (.aload_n 0, 1) := by decide +kernel
theorem dX3_lookAtSide_1 : decode cX3_lookAtSide 1 = .ok (.getfield 9, 3) := by decide +kernel
theorem dX3_lookAtSide_4 : decode cX3_lookAtSide 4 = .ok (.aload_n 0, 1) := by decide +kernel
theorem dX3_lookAtSide_5 : decode cX3_lookAtSide 5 = .ok (.getfield 15, 3) := by decide +kernel
theorem dX3_lookAtSide_8 : decode cX3_lookAtSide 8 = .ok (.getfield 60, 3) := by decide +kernel
theorem dX3_lookAtSide_11 : decode cX3_lookAtSide 11 = .ok (.invokevirtual 67, 3) := by decide +kernel
theorem dX3_lookAtSide_14 : decode cX3_lookAtSide 14 = .ok (.ifCond .ne 5, 3) := by decide +kernel
theorem dX3_lookAtSide_17 : decode cX3_lookAtSide 17 = .ok (.iconst (-1), 1) := by decide +kernel
theorem dX3_lookAtSide_18 : decode cX3_lookAtSide 18 = .ok (.ireturn, 1) := by decide +kernel
theorem dX3_lookAtSide_19 : decode cX3_lookAtSide 19 = .ok (.aload_n 0, 1) := by decide +kernel
theorem dX3_lookAtSide_20 : decode cX3_lookAtSide 20 = .ok (.getfield 9, 3) := by decide +kernel
theorem dX3_lookAtSide_23 : decode cX3_lookAtSide 23 = .ok (.getfield 71, 3) := by decide +kernel
theorem dX3_lookAtSide_26 : decode cX3_lookAtSide 26 = .ok (.istore_n 1, 1) := by decide +kernel
theorem dX3_lookAtSide_27 : decode cX3_lookAtSide 27 = .ok (.aload_n 0, 1) := by decide +kernel
theorem dX3_lookAtSide_28 : decode cX3_lookAtSide 28 = .ok (.getfield 9, 3) := by decide +kernel
theorem dX3_lookAtSide_31 : decode cX3_lookAtSide 31 = .ok (.invokevirtual 35, 3) := by decide +kernel
theorem dX3_lookAtSide_34 : decode cX3_lookAtSide 34 = .ok (.aload_n 0, 1) := by decide +kernel
theorem dX3_lookAtSide_35 : decode cX3_lookAtSide 35 = .ok (.invokevirtual 105, 3) := by decide +kernel
theorem dX3_lookAtSide_38 : decode cX3_lookAtSide 38 = .ok (.istore_n 2, 1) := by decide +kernel
theorem dX3_lookAtSide_39 : decode cX3_lookAtSide 39 = .ok (.iload_n 2, 1) := by decide +kernel
theorem dX3_lookAtSide_40 : decode cX3_lookAtSide 40 = .ok (.iconst (-1), 1) := by decide +kernel
theorem dX3_lookAtSide_41 : decode cX3_lookAtSide 41 = .ok (.if_icmp .ne 7, 3) := by decide +kernel
theorem dX3_lookAtSide_44 : decode cX3_lookAtSide 44 = .ok (.iconst (-1), 1) := by decide +kernel
theorem dX3_lookAtSide_45 : decode cX3_lookAtSide 45 = .ok (.goto 8, 3) := by decide +kernel
theorem dX3_lookAtSide_48 : decode cX3_lookAtSide 48 = .ok (.iload_n 1, 1) := by decide +kernel
theorem dX3_lookAtSide_49 : decode cX3_lookAtSide 49 = .ok (.iload_n 2, 1) := by decide +kernel
theorem dX3_lookAtSide_50 : decode cX3_lookAtSide 50 = .ok (.invokestatic 108, 3) := by decide +kernel
theorem dX3_lookAtSide_53 : decode cX3_lookAtSide 53 = .ok (.ireturn, 1) := by decide +kernel
theorem dX3_sideNamed_0 : decode cX3_sideNamed 0 = .ok (.iconst 0, 1) := by decide +kernel
theorem dX3_sideNamed_1 : decode cX3_sideNamed 1 = .ok (.istore_n 1, 1) := by decide +kernel
theorem dX3_sideNamed_2 : decode cX3_sideNamed 2 = .ok (.iload_n 1, 1) := by decide +kernel
theorem dX3_sideNamed_3 : decode cX3_sideNamed 3 = .ok (.iconst 4, 1) := by decide +kernel
theorem dX3_sideNamed_4 : decode cX3_sideNamed 4 = .ok (.if_icmp .ge 25, 3) := by decide +kernel
theorem dX3_sideNamed_7 : decode cX3_sideNamed 7 = .ok (.aload_n 0, 1) := by decide +kernel
theorem dX3_sideNamed_8 : decode cX3_sideNamed 8 = .ok (.getfield 9, 3) := by decide +kernel
theorem dX3_sideNamed_11 : decode cX3_sideNamed 11 = .ok (.iload_n 1, 1) := by decide +kernel
theorem dX3_sideNamed_12 : decode cX3_sideNamed 12 = .ok (.invokestatic 111, 3) := by decide +kernel
theorem dX3_sideNamed_15 : decode cX3_sideNamed 15 = .ok (.invokevirtual 40, 3) := by decide +kernel
theorem dX3_sideNamed_18 : decode cX3_sideNamed 18 = .ok (.ifCond .eq 5, 3) := by decide +kernel
theorem dX3_sideNamed_21 : decode cX3_sideNamed 21 = .ok (.iload_n 1, 1) := by decide +kernel
theorem dX3_sideNamed_22 : decode cX3_sideNamed 22 = .ok (.ireturn, 1) := by decide +kernel
theorem dX3_sideNamed_23 : decode cX3_sideNamed 23 = .ok (.iinc 1 1, 3) := by decide +kernel
theorem dX3_sideNamed_26 : decode cX3_sideNamed 26 = .ok (.goto (-24), 3) := by decide +kernel
theorem dX3_sideNamed_29 : decode cX3_sideNamed 29 = .ok (.iconst (-1), 1) := by decide +kernel
theorem dX3_sideNamed_30 : decode cX3_sideNamed 30 = .ok (.ireturn, 1) := by decide +kernel
theorem dX3_kindNamed_0 : decode cX3_kindNamed 0 = .ok (.iconst 0, 1) := by decide +kernel
theorem dX3_kindNamed_1 : decode cX3_kindNamed 1 = .ok (.istore_n 1, 1) := by decide +kernel
theorem dX3_kindNamed_2 : decode cX3_kindNamed 2 = .ok (.iload_n 1, 1) := by decide +kernel
theorem dX3_kindNamed_3 : decode cX3_kindNamed 3 = .ok (.bipush 6, 2) := by decide +kernel
theorem dX3_kindNamed_5 : decode cX3_kindNamed 5 = .ok (.if_icmp .ge 25, 3) := by decide +kernel
theorem dX3_kindNamed_8 : decode cX3_kindNamed 8 = .ok (.aload_n 0, 1) := by decide +kernel
theorem dX3_kindNamed_9 : decode cX3_kindNamed 9 = .ok (.getfield 9, 3) := by decide +kernel
theorem dX3_kindNamed_12 : decode cX3_kindNamed 12 = .ok (.iload_n 1, 1) := by decide +kernel
theorem dX3_kindNamed_13 : decode cX3_kindNamed 13 = .ok (.invokestatic 115, 3) := by decide +kernel
theorem dX3_kindNamed_16 : decode cX3_kindNamed 16 = .ok (.invokevirtual 40, 3) := by decide +kernel
theorem dX3_kindNamed_19 : decode cX3_kindNamed 19 = .ok (.ifCond .eq 5, 3) := by decide +kernel
theorem dX3_kindNamed_22 : decode cX3_kindNamed 22 = .ok (.iload_n 1, 1) := by decide +kernel
theorem dX3_kindNamed_23 : decode cX3_kindNamed 23 = .ok (.ireturn, 1) := by decide +kernel
theorem dX3_kindNamed_24 : decode cX3_kindNamed 24 = .ok (.iinc 1 1, 3) := by decide +kernel
theorem dX3_kindNamed_27 : decode cX3_kindNamed 27 = .ok (.goto (-25), 3) := by decide +kernel
theorem dX3_kindNamed_30 : decode cX3_kindNamed 30 = .ok (.iconst (-1), 1) := by decide +kernel
theorem dX3_kindNamed_31 : decode cX3_kindNamed 31 = .ok (.ireturn, 1) := by decide +kernel
theorem dX3_sideName_0 : decode cX3_sideName 0 = .ok (.iload_n 0, 1) := by decide +kernel
theorem dX3_sideName_1 : decode cX3_sideName 1 = .ok (.tableswitch 36 0 2 #[27, 30, 33], 27) := by decide +kernel
theorem dX3_sideName_28 : decode cX3_sideName 28 = .ok (.ldc 118, 2) := by decide +kernel
theorem dX3_sideName_30 : decode cX3_sideName 30 = .ok (.areturn, 1) := by decide +kernel
theorem dX3_sideName_31 : decode cX3_sideName 31 = .ok (.ldc 120, 2) := by decide +kernel
theorem dX3_sideName_33 : decode cX3_sideName 33 = .ok (.areturn, 1) := by decide +kernel
theorem dX3_sideName_34 : decode cX3_sideName 34 = .ok (.ldc 122, 2) := by decide +kernel
theorem dX3_sideName_36 : decode cX3_sideName 36 = .ok (.areturn, 1) := by decide +kernel
theorem dX3_sideName_37 : decode cX3_sideName 37 = .ok (.ldc 124, 2) := by decide +kernel
theorem dX3_sideName_39 : decode cX3_sideName 39 = .ok (.areturn, 1) := by decide +kernel
theorem dX3_kindName_0 : decode cX3_kindName 0 = .ok (.iload_n 0, 1) := by decide +kernel
theorem dX3_kindName_1 : decode cX3_kindName 1 = .ok (.tableswitch 50 0 4 #[35, 38, 41, 44, 47], 35) := by decide +kernel
theorem dX3_kindName_36 : decode cX3_kindName 36 = .ok (.ldc 126, 2) := by decide +kernel
theorem dX3_kindName_38 : decode cX3_kindName 38 = .ok (.areturn, 1) := by decide +kernel
theorem dX3_kindName_39 : decode cX3_kindName 39 = .ok (.ldc 128, 2) := by decide +kernel
theorem dX3_kindName_41 : decode cX3_kindName 41 = .ok (.areturn, 1) := by decide +kernel
theorem dX3_kindName_42 : decode cX3_kindName 42 = .ok (.ldc 130, 2) := by decide +kernel
theorem dX3_kindName_44 : decode cX3_kindName 44 = .ok (.areturn, 1) := by decide +kernel
theorem dX3_kindName_45 : decode cX3_kindName 45 = .ok (.ldc 132, 2) := by decide +kernel
theorem dX3_kindName_47 : decode cX3_kindName 47 = .ok (.areturn, 1) := by decide +kernel
theorem dX3_kindName_48 : decode cX3_kindName 48 = .ok (.ldc 134, 2) := by decide +kernel
theorem dX3_kindName_50 : decode cX3_kindName 50 = .ok (.areturn, 1) := by decide +kernel
theorem dX3_kindName_51 : decode cX3_kindName 51 = .ok (.ldc 136, 2) := by decide +kernel
theorem dX3_kindName_53 : decode cX3_kindName 53 = .ok (.areturn, 1) := by decide +kernel
theorem dX4_init_0 : decode cX4_init 0 = .ok (.aload_n 0, 1) := by decide +kernel
theorem dX4_init_1 : decode cX4_init 1 = .ok (.invokespecial 3, 3) := by decide +kernel
theorem dX4_init_4 : decode cX4_init 4 = .ok (.return_, 1) := by decide +kernel
theorem dX4_begin_0 : decode cX4_begin 0 = .ok (.aload_n 0, 1) := by decide +kernel
theorem dX4_begin_1 : decode cX4_begin 1 = .ok (.iload_n 1, 1) := by decide +kernel
theorem dX4_begin_2 : decode cX4_begin 2 = .ok (.putfield 9, 3) := by decide +kernel
theorem dX4_begin_5 : decode cX4_begin 5 = .ok (.aload_n 0, 1) := by decide +kernel
theorem dX4_begin_6 : decode cX4_begin 6 = .ok (.iload_n 2, 1) := by decide +kernel
theorem dX4_begin_7 : decode cX4_begin 7 = .ok (.putfield 15, 3) := by decide +kernel
theorem dX4_begin_10 : decode cX4_begin 10 = .ok (.aload_n 0, 1) := by decide +kernel
theorem dX4_begin_11 : decode cX4_begin 11 = .ok (.iconst 0, 1) := by decide +kernel
theorem dX4_begin_12 : decode cX4_begin 12 = .ok (.putfield 18, 3) := by decide +kernel
theorem dX4_begin_15 : decode cX4_begin 15 = .ok (.aload_n 0, 1) := by decide +kernel
theorem dX4_begin_16 : decode cX4_begin 16 = .ok (.iconst 0, 1) := by decide +kernel
theorem dX4_begin_17 : decode cX4_begin 17 = .ok (.putfield 21, 3) := by decide +kernel
theorem dX4_begin_20 : decode cX4_begin 20 = .ok (.return_, 1) := by decide +kernel
theorem dX4_become_0 : decode cX4_become 0 = .ok (.aload_n 0, 1) := by decide +kernel
theorem dX4_become_1 : decode cX4_become 1 = .ok (.aload_n 1, 1) := by decide +kernel
theorem dX4_become_2 : decode cX4_become 2 = .ok (.getfield 9, 3) := by decide +kernel
theorem dX4_become_5 : decode cX4_become 5 = .ok (.putfield 9, 3) := by decide +kernel
theorem dX4_become_8 : decode cX4_become 8 = .ok (.aload_n 0, 1) := by decide +kernel
theorem dX4_become_9 : decode cX4_become 9 = .ok (.aload_n 1, 1) := by decide +kernel
theorem dX4_become_10 : decode cX4_become 10 = .ok (.getfield 15, 3) := by decide +kernel
theorem dX4_become_13 : decode cX4_become 13 = .ok (.putfield 15, 3) := by decide +kernel
theorem dX4_become_16 : decode cX4_become 16 = .ok (.aload_n 0, 1) := by decide +kernel
theorem dX4_become_17 : decode cX4_become 17 = .ok (.aload_n 1, 1) := by decide +kernel
theorem dX4_become_18 : decode cX4_become 18 = .ok (.getfield 18, 3) := by decide +kernel
theorem dX4_become_21 : decode cX4_become 21 = .ok (.putfield 18, 3) := by decide +kernel
theorem dX4_become_24 : decode cX4_become 24 = .ok (.aload_n 0, 1) := by decide +kernel
theorem dX4_become_25 : decode cX4_become 25 = .ok (.aload_n 1, 1) := by decide +kernel
theorem dX4_become_26 : decode cX4_become 26 = .ok (.getfield 21, 3) := by decide +kernel
theorem dX4_become_29 : decode cX4_become 29 = .ok (.putfield 21, 3) := by decide +kernel
theorem dX4_become_32 : decode cX4_become 32 = .ok (.return_, 1) := by decide +kernel
theorem dX4_move_0 : decode cX4_move 0 = .ok (.aload_n 1, 1) := by decide +kernel
theorem dX4_move_1 : decode cX4_move 1 = .ok (.aload_n 0, 1) := by decide +kernel
theorem dX4_move_2 : decode cX4_move 2 = .ok (.getfield 15, 3) := by decide +kernel
theorem dX4_move_5 : decode cX4_move 5 = .ok (.invokevirtual 24, 3) := by decide +kernel
theorem dX4_move_8 : decode cX4_move 8 = .ok (.istore_n 2, 1) := by decide +kernel
theorem dX4_move_9 : decode cX4_move 9 = .ok (.iload_n 2, 1) := by decide +kernel
theorem dX4_move_10 : decode cX4_move 10 = .ok (.iconst (-1), 1) := by decide +kernel
theorem dX4_move_11 : decode cX4_move 11 = .ok (.if_icmp .ne 34, 3) := by decide +kernel
theorem dX4_move_14 : decode cX4_move 14 = .ok (.aload_n 0, 1) := by decide +kernel
theorem dX4_move_15 : decode cX4_move 15 = .ok (.dup, 1) := by decide +kernel
theorem dX4_move_16 : decode cX4_move 16 = .ok (.getfield 21, 3) := by decide +kernel
theorem dX4_move_19 : decode cX4_move 19 = .ok (.iconst 1, 1) := by decide +kernel
theorem dX4_move_20 : decode cX4_move 20 = .ok (.iadd, 1) := by decide +kernel
theorem dX4_move_21 : decode cX4_move 21 = .ok (.putfield 21, 3) := by decide +kernel
theorem dX4_move_24 : decode cX4_move 24 = .ok (.aload_n 0, 1) := by decide +kernel
theorem dX4_move_25 : decode cX4_move 25 = .ok (.aload_n 0, 1) := by decide +kernel
theorem dX4_move_26 : decode cX4_move 26 = .ok (.getfield 15, 3) := by decide +kernel
theorem dX4_move_29 : decode cX4_move 29 = .ok (.aload_n 0, 1) := by decide +kernel
theorem dX4_move_30 : decode cX4_move 30 = .ok (.getfield 9, 3) := by decide +kernel
theorem dX4_move_33 : decode cX4_move 33 = .ok (.invokestatic 30, 3) := by decide +kernel
theorem dX4_move_36 : decode cX4_move 36 = .ok (.invokestatic 33, 3) := by decide +kernel
theorem dX4_move_39 : decode cX4_move 39 = .ok (.putfield 15, 3) := by decide +kernel
theorem dX4_move_42 : decode cX4_move 42 = .ok (.goto 49, 3) := by decide +kernel
theorem dX4_move_45 : decode cX4_move 45 = .ok (.aload_n 1, 1) := by decide +kernel
theorem dX4_move_46 : decode cX4_move 46 = .ok (.iload_n 2, 1) := by decide +kernel
theorem dX4_move_47 : decode cX4_move 47 = .ok (.invokestatic 37, 3) := by decide +kernel
theorem dX4_move_50 : decode cX4_move 50 = .ok (.invokevirtual 40, 3) := by decide +kernel
theorem dX4_move_53 : decode cX4_move 53 = .ok (.istore_n 3, 1) := by decide +kernel
theorem dX4_move_54 : decode cX4_move 54 = .ok (.aload_n 0, 1) := by decide +kernel
theorem dX4_move_55 : decode cX4_move 55 = .ok (.dup, 1) := by decide +kernel
theorem dX4_move_56 : decode cX4_move 56 = .ok (.getfield 18, 3) := by decide +kernel
theorem dX4_move_59 : decode cX4_move 59 = .ok (.aload_n 0, 1) := by decide +kernel
theorem dX4_move_60 : decode cX4_move 60 = .ok (.getfield 9, 3) := by decide +kernel
theorem dX4_move_63 : decode cX4_move 63 = .ok (.iload_n 3, 1) := by decide +kernel
theorem dX4_move_64 : decode cX4_move 64 = .ok (.invokestatic 43, 3) := by decide +kernel
theorem dX4_move_67 : decode cX4_move 67 = .ok (.iadd, 1) := by decide +kernel
theorem dX4_move_68 : decode cX4_move 68 = .ok (.putfield 18, 3) := by decide +kernel
theorem dX4_move_71 : decode cX4_move 71 = .ok (.aload_n 0, 1) := by decide +kernel
theorem dX4_move_72 : decode cX4_move 72 = .ok (.iload_n 2, 1) := by decide +kernel
theorem dX4_move_73 : decode cX4_move 73 = .ok (.aload_n 0, 1) := by decide +kernel
theorem dX4_move_74 : decode cX4_move 74 = .ok (.getfield 9, 3) := by decide +kernel
theorem dX4_move_77 : decode cX4_move 77 = .ok (.iload_n 3, 1) := by decide +kernel
theorem dX4_move_78 : decode cX4_move 78 = .ok (.aload_n 0, 1) := by decide +kernel
theorem dX4_move_79 : decode cX4_move 79 = .ok (.getfield 18, 3) := by decide +kernel
theorem dX4_move_82 : decode cX4_move 82 = .ok (.invokestatic 46, 3) := by decide +kernel
theorem dX4_move_85 : decode cX4_move 85 = .ok (.invokestatic 33, 3) := by decide +kernel
theorem dX4_move_88 : decode cX4_move 88 = .ok (.putfield 15, 3) := by decide +kernel
theorem dX4_move_91 : decode cX4_move 91 = .ok (.return_, 1) := by decide +kernel
theorem dX4_moveOften_0 : decode cX4_moveOften 0 = .ok (.iconst 0, 1) := by decide +kernel
theorem dX4_moveOften_1 : decode cX4_moveOften 1 = .ok (.istore_n 3, 1) := by decide +kernel
theorem dX4_moveOften_2 : decode cX4_moveOften 2 = .ok (.iload_n 3, 1) := by decide +kernel
theorem dX4_moveOften_3 : decode cX4_moveOften 3 = .ok (.iload_n 2, 1) := by decide +kernel
theorem dX4_moveOften_4 : decode cX4_moveOften 4 = .ok (.if_icmp .ge 14, 3) := by decide +kernel
theorem dX4_moveOften_7 : decode cX4_moveOften 7 = .ok (.aload_n 0, 1) := by decide +kernel
theorem dX4_moveOften_8 : decode cX4_moveOften 8 = .ok (.aload_n 1, 1) := by decide +kernel
theorem dX4_moveOften_9 : decode cX4_moveOften 9 = .ok (.invokevirtual 50, 3) := by decide +kernel
theorem dX4_moveOften_12 : decode cX4_moveOften 12 = .ok (.iinc 3 1, 3) := by decide +kernel
theorem dX4_moveOften_15 : decode cX4_moveOften 15 = .ok (.goto (-13), 3) := by decide +kernel
theorem dX4_moveOften_18 : decode cX4_moveOften 18 = .ok (.return_, 1) := by decide +kernel
theorem dX4_above_0 : decode cX4_above 0 = .ok (.iload_n 0, 1) := by decide +kernel
theorem dX4_above_1 : decode cX4_above 1 = .ok (.tableswitch 31 3 5 #[27, 29, 27], 27) := by decide +kernel
theorem dX4_above_28 : decode cX4_above 28 = .ok (.iconst 1, 1) := by decide +kernel
theorem dX4_above_29 : decode cX4_above 29 = .ok (.ireturn, 1) := by decide +kernel
theorem dX4_above_30 : decode cX4_above 30 = .ok (.iconst 2, 1) := by decide +kernel
theorem dX4_above_31 : decode cX4_above 31 = .ok (.ireturn, 1) := by decide +kernel
theorem dX4_above_32 : decode cX4_above 32 = .ok (.iconst 0, 1) := by decide +kernel
theorem dX4_above_33 : decode cX4_above 33 = .ok (.ireturn, 1) := by decide +kernel
theorem dX4_isUnder_0 : decode cX4_isUnder 0 = .ok (.iload_n 0, 1) := by decide +kernel
theorem dX4_isUnder_1 : decode cX4_isUnder 1 = .ok (.istore_n 2, 1) := by decide +kernel
theorem dX4_isUnder_2 : decode cX4_isUnder 2 = .ok (.iconst 0, 1) := by decide +kernel
theorem dX4_isUnder_3 : decode cX4_isUnder 3 = .ok (.istore_n 3, 1) := by decide +kernel
theorem dX4_isUnder_4 : decode cX4_isUnder 4 = .ok (.iload_n 3, 1) := by decide +kernel
theorem dX4_isUnder_5 : decode cX4_isUnder 5 = .ok (.bipush 6, 2) := by decide +kernel
theorem dX4_isUnder_7 : decode cX4_isUnder 7 = .ok (.if_icmp .ge 21, 3) := by decide +kernel
theorem dX4_isUnder_10 : decode cX4_isUnder 10 = .ok (.iload_n 2, 1) := by decide +kernel
theorem dX4_isUnder_11 : decode cX4_isUnder 11 = .ok (.iload_n 1, 1) := by decide +kernel
theorem dX4_isUnder_12 : decode cX4_isUnder 12 = .ok (.if_icmp .ne 5, 3) := by decide +kernel
theorem dX4_isUnder_15 : decode cX4_isUnder 15 = .ok (.iconst 1, 1) := by decide +kernel
theorem dX4_isUnder_16 : decode cX4_isUnder 16 = .ok (.ireturn, 1) := by decide +kernel
theorem dX4_isUnder_17 : decode cX4_isUnder 17 = .ok (.iload_n 2, 1) := by decide +kernel
theorem dX4_isUnder_18 : decode cX4_isUnder 18 = .ok (.invokestatic 54, 3) := by decide +kernel
theorem dX4_isUnder_21 : decode cX4_isUnder 21 = .ok (.istore_n 2, 1) := by decide +kernel
theorem dX4_isUnder_22 : decode cX4_isUnder 22 = .ok (.iinc 3 1, 3) := by decide +kernel
theorem dX4_isUnder_25 : decode cX4_isUnder 25 = .ok (.goto (-21), 3) := by decide +kernel
theorem dX4_isUnder_28 : decode cX4_isUnder 28 = .ok (.iconst 0, 1) := by decide +kernel
theorem dX4_isUnder_29 : decode cX4_isUnder 29 = .ok (.ireturn, 1) := by decide +kernel
theorem dX4_payOf_0 : decode cX4_payOf 0 = .ok (.iload_n 0, 1) := by decide +kernel
theorem dX4_payOf_1 : decode cX4_payOf 1 = .ok (.tableswitch 82 0 4 #[35, 82, 37, 61, 50], 35) := by decide +kernel
theorem dX4_payOf_36 : decode cX4_payOf 36 = .ok (.iconst 1, 1) := by decide +kernel
theorem dX4_payOf_37 : decode cX4_payOf 37 = .ok (.ireturn, 1) := by decide +kernel
theorem dX4_payOf_38 : decode cX4_payOf 38 = .ok (.iload_n 0, 1) := by decide +kernel
theorem dX4_payOf_39 : decode cX4_payOf 39 = .ok (.invokestatic 54, 3) := by decide +kernel
theorem dX4_payOf_42 : decode cX4_payOf 42 = .ok (.iload_n 1, 1) := by decide +kernel
theorem dX4_payOf_43 : decode cX4_payOf 43 = .ok (.invokestatic 43, 3) := by decide +kernel
theorem dX4_payOf_46 : decode cX4_payOf 46 = .ok (.iload_n 1, 1) := by decide +kernel
theorem dX4_payOf_47 : decode cX4_payOf 47 = .ok (.iconst 3, 1) := by decide +kernel
theorem dX4_payOf_48 : decode cX4_payOf 48 = .ok (.idiv, 1) := by decide +kernel
theorem dX4_payOf_49 : decode cX4_payOf 49 = .ok (.iadd, 1) := by decide +kernel
theorem dX4_payOf_50 : decode cX4_payOf 50 = .ok (.ireturn, 1) := by decide +kernel
theorem dX4_payOf_51 : decode cX4_payOf 51 = .ok (.iload_n 0, 1) := by decide +kernel
theorem dX4_payOf_52 : decode cX4_payOf 52 = .ok (.invokestatic 54, 3) := by decide +kernel
theorem dX4_payOf_55 : decode cX4_payOf 55 = .ok (.iload_n 1, 1) := by decide +kernel
theorem dX4_payOf_56 : decode cX4_payOf 56 = .ok (.invokestatic 43, 3) := by decide +kernel
theorem dX4_payOf_59 : decode cX4_payOf 59 = .ok (.iload_n 1, 1) := by decide +kernel
theorem dX4_payOf_60 : decode cX4_payOf 60 = .ok (.iadd, 1) := by decide +kernel
theorem dX4_payOf_61 : decode cX4_payOf 61 = .ok (.ireturn, 1) := by decide +kernel
theorem dX4_payOf_62 : decode cX4_payOf 62 = .ok (.iload_n 0, 1) := by decide +kernel
theorem dX4_payOf_63 : decode cX4_payOf 63 = .ok (.invokestatic 54, 3) := by decide +kernel
theorem dX4_payOf_66 : decode cX4_payOf 66 = .ok (.iload_n 1, 1) := by decide +kernel
theorem dX4_payOf_67 : decode cX4_payOf 67 = .ok (.invokestatic 43, 3) := by decide +kernel
theorem dX4_payOf_70 : decode cX4_payOf 70 = .ok (.iload_n 1, 1) := by decide +kernel
theorem dX4_payOf_71 : decode cX4_payOf 71 = .ok (.bipush 9, 2) := by decide +kernel
theorem dX4_payOf_73 : decode cX4_payOf 73 = .ok (.if_icmp .ne 7, 3) := by decide +kernel
theorem dX4_payOf_76 : decode cX4_payOf 76 = .ok (.iconst 1, 1) := by decide +kernel
theorem dX4_payOf_77 : decode cX4_payOf 77 = .ok (.goto 4, 3) := by decide +kernel
theorem dX4_payOf_80 : decode cX4_payOf 80 = .ok (.iconst 0, 1) := by decide +kernel
theorem dX4_payOf_81 : decode cX4_payOf 81 = .ok (.iadd, 1) := by decide +kernel
theorem dX4_payOf_82 : decode cX4_payOf 82 = .ok (.ireturn, 1) := by decide +kernel
theorem dX4_payOf_83 : decode cX4_payOf 83 = .ok (.iload_n 0, 1) := by decide +kernel
theorem dX4_payOf_84 : decode cX4_payOf 84 = .ok (.invokestatic 54, 3) := by decide +kernel
theorem dX4_payOf_87 : decode cX4_payOf 87 = .ok (.iload_n 1, 1) := by decide +kernel
theorem dX4_payOf_88 : decode cX4_payOf 88 = .ok (.invokestatic 43, 3) := by decide +kernel
theorem dX4_payOf_91 : decode cX4_payOf 91 = .ok (.ireturn, 1) := by decide +kernel
theorem dX4_quartersOnComing_0 : decode cX4_quartersOnComing 0 = .ok (.iload_n 0, 1) := by decide +kernel
theorem dX4_quartersOnComing_1 : decode cX4_quartersOnComing 1 = .ok (.tableswitch 94 0 5 #[39, 94, 41, 60, 94, 80], 39) := by decide +kernel
theorem dX4_quartersOnComing_40 : decode cX4_quartersOnComing 40 = .ok (.iconst 0, 1) := by decide +kernel
theorem dX4_quartersOnComing_41 : decode cX4_quartersOnComing 41 = .ok (.ireturn, 1) := by decide +kernel
theorem dX4_quartersOnComing_42 : decode cX4_quartersOnComing 42 = .ok (.iload_n 1, 1) := by decide +kernel
theorem dX4_quartersOnComing_43 : decode cX4_quartersOnComing 43 = .ok (.iconst 5, 1) := by decide +kernel
theorem dX4_quartersOnComing_44 : decode cX4_quartersOnComing 44 = .ok (.if_icmp .lt 7, 3) := by decide +kernel
theorem dX4_quartersOnComing_47 : decode cX4_quartersOnComing 47 = .ok (.iconst 1, 1) := by decide +kernel
theorem dX4_quartersOnComing_48 : decode cX4_quartersOnComing 48 = .ok (.goto 12, 3) := by decide +kernel
theorem dX4_quartersOnComing_51 : decode cX4_quartersOnComing 51 = .ok (.iload_n 0, 1) := by decide +kernel
theorem dX4_quartersOnComing_52 : decode cX4_quartersOnComing 52 = .ok (.invokestatic 54, 3) := by decide +kernel
theorem dX4_quartersOnComing_55 : decode cX4_quartersOnComing 55 = .ok (.iload_n 1, 1) := by decide +kernel
theorem dX4_quartersOnComing_56 : decode cX4_quartersOnComing 56 = .ok (.iload_n 2, 1) := by decide +kernel
theorem dX4_quartersOnComing_57 : decode cX4_quartersOnComing 57 = .ok (.invokestatic 46, 3) := by decide +kernel
theorem dX4_quartersOnComing_60 : decode cX4_quartersOnComing 60 = .ok (.ireturn, 1) := by decide +kernel
theorem dX4_quartersOnComing_61 : decode cX4_quartersOnComing 61 = .ok (.iload_n 2, 1) := by decide +kernel
theorem dX4_quartersOnComing_62 : decode cX4_quartersOnComing 62 = .ok (.iconst 3, 1) := by decide +kernel
theorem dX4_quartersOnComing_63 : decode cX4_quartersOnComing 63 = .ok (.irem, 1) := by decide +kernel
theorem dX4_quartersOnComing_64 : decode cX4_quartersOnComing 64 = .ok (.ifCond .ne 7, 3) := by decide +kernel
theorem dX4_quartersOnComing_67 : decode cX4_quartersOnComing 67 = .ok (.iconst 3, 1) := by decide +kernel
theorem dX4_quartersOnComing_68 : decode cX4_quartersOnComing 68 = .ok (.goto 12, 3) := by decide +kernel
theorem dX4_quartersOnComing_71 : decode cX4_quartersOnComing 71 = .ok (.iload_n 0, 1) := by decide +kernel
theorem dX4_quartersOnComing_72 : decode cX4_quartersOnComing 72 = .ok (.invokestatic 54, 3) := by decide +kernel
theorem dX4_quartersOnComing_75 : decode cX4_quartersOnComing 75 = .ok (.iload_n 1, 1) := by decide +kernel
theorem dX4_quartersOnComing_76 : decode cX4_quartersOnComing 76 = .ok (.iload_n 2, 1) := by decide +kernel
theorem dX4_quartersOnComing_77 : decode cX4_quartersOnComing 77 = .ok (.invokestatic 46, 3) := by decide +kernel
theorem dX4_quartersOnComing_80 : decode cX4_quartersOnComing 80 = .ok (.ireturn, 1) := by decide +kernel
theorem dX4_quartersOnComing_81 : decode cX4_quartersOnComing 81 = .ok (.iload_n 0, 1) := by decide +kernel
theorem dX4_quartersOnComing_82 : decode cX4_quartersOnComing 82 = .ok (.invokestatic 54, 3) := by decide +kernel
theorem dX4_quartersOnComing_85 : decode cX4_quartersOnComing 85 = .ok (.iload_n 1, 1) := by decide +kernel
theorem dX4_quartersOnComing_86 : decode cX4_quartersOnComing 86 = .ok (.iload_n 2, 1) := by decide +kernel
theorem dX4_quartersOnComing_87 : decode cX4_quartersOnComing 87 = .ok (.invokestatic 46, 3) := by decide +kernel
theorem dX4_quartersOnComing_90 : decode cX4_quartersOnComing 90 = .ok (.iload_n 2, 1) := by decide +kernel
theorem dX4_quartersOnComing_91 : decode cX4_quartersOnComing 91 = .ok (.iconst 2, 1) := by decide +kernel
theorem dX4_quartersOnComing_92 : decode cX4_quartersOnComing 92 = .ok (.irem, 1) := by decide +kernel
theorem dX4_quartersOnComing_93 : decode cX4_quartersOnComing 93 = .ok (.iadd, 1) := by decide +kernel
theorem dX4_quartersOnComing_94 : decode cX4_quartersOnComing 94 = .ok (.ireturn, 1) := by decide +kernel
theorem dX4_quartersOnComing_95 : decode cX4_quartersOnComing 95 = .ok (.iload_n 0, 1) := by decide +kernel
theorem dX4_quartersOnComing_96 : decode cX4_quartersOnComing 96 = .ok (.invokestatic 54, 3) := by decide +kernel
theorem dX4_quartersOnComing_99 : decode cX4_quartersOnComing 99 = .ok (.iload_n 1, 1) := by decide +kernel
theorem dX4_quartersOnComing_100 : decode cX4_quartersOnComing 100 = .ok (.iload_n 2, 1) := by decide +kernel
theorem dX4_quartersOnComing_101 : decode cX4_quartersOnComing 101 = .ok (.invokestatic 46, 3) := by decide +kernel
theorem dX4_quartersOnComing_104 : decode cX4_quartersOnComing 104 = .ok (.ireturn, 1) := by decide +kernel
theorem dX4_quartersAtBump_0 : decode cX4_quartersAtBump 0 = .ok (.iload_n 0, 1) := by decide +kernel
theorem dX4_quartersAtBump_1 : decode cX4_quartersAtBump 1 = .ok (.tableswitch 63 0 5 #[39, 41, 63, 63, 43, 53], 39) := by decide +kernel
theorem dX4_quartersAtBump_40 : decode cX4_quartersAtBump 40 = .ok (.iconst 2, 1) := by decide +kernel
theorem dX4_quartersAtBump_41 : decode cX4_quartersAtBump 41 = .ok (.ireturn, 1) := by decide +kernel
theorem dX4_quartersAtBump_42 : decode cX4_quartersAtBump 42 = .ok (.iconst 3, 1) := by decide +kernel
theorem dX4_quartersAtBump_43 : decode cX4_quartersAtBump 43 = .ok (.ireturn, 1) := by decide +kernel
theorem dX4_quartersAtBump_44 : decode cX4_quartersAtBump 44 = .ok (.iload_n 0, 1) := by decide +kernel
theorem dX4_quartersAtBump_45 : decode cX4_quartersAtBump 45 = .ok (.invokestatic 54, 3) := by decide +kernel
theorem dX4_quartersAtBump_48 : decode cX4_quartersAtBump 48 = .ok (.invokestatic 30, 3) := by decide +kernel
theorem dX4_quartersAtBump_51 : decode cX4_quartersAtBump 51 = .ok (.iconst 3, 1) := by decide +kernel
theorem dX4_quartersAtBump_52 : decode cX4_quartersAtBump 52 = .ok (.iadd, 1) := by decide +kernel
theorem dX4_quartersAtBump_53 : decode cX4_quartersAtBump 53 = .ok (.ireturn, 1) := by decide +kernel
theorem dX4_quartersAtBump_54 : decode cX4_quartersAtBump 54 = .ok (.iconst 2, 1) := by decide +kernel
theorem dX4_quartersAtBump_55 : decode cX4_quartersAtBump 55 = .ok (.iload_n 0, 1) := by decide +kernel
theorem dX4_quartersAtBump_56 : decode cX4_quartersAtBump 56 = .ok (.invokestatic 54, 3) := by decide +kernel
theorem dX4_quartersAtBump_59 : decode cX4_quartersAtBump 59 = .ok (.invokestatic 30, 3) := by decide +kernel
theorem dX4_quartersAtBump_62 : decode cX4_quartersAtBump 62 = .ok (.imul, 1) := by decide +kernel
theorem dX4_quartersAtBump_63 : decode cX4_quartersAtBump 63 = .ok (.ireturn, 1) := by decide +kernel
theorem dX4_quartersAtBump_64 : decode cX4_quartersAtBump 64 = .ok (.iload_n 0, 1) := by decide +kernel
theorem dX4_quartersAtBump_65 : decode cX4_quartersAtBump 65 = .ok (.invokestatic 54, 3) := by decide +kernel
theorem dX4_quartersAtBump_68 : decode cX4_quartersAtBump 68 = .ok (.invokestatic 30, 3) := by decide +kernel
theorem dX4_quartersAtBump_71 : decode cX4_quartersAtBump 71 = .ok (.ireturn, 1) := by decide +kernel
end
section
theorem dX5_init_0 : decode cX5_init 0 = .ok (.aload_n 0, 1) := by decide +kernel
theorem dX5_init_1 : decode cX5_init 1 = .ok (.invokespecial 3, 3) := by decide +kernel
theorem dX5_init_4 : decode cX5_init 4 = .ok (.aload_n 0, 1) := by decide +kernel
theorem dX5_init_5 : decode cX5_init 5 = .ok (.new 9, 3) := by decide +kernel
theorem dX5_init_8 : decode cX5_init 8 = .ok (.dup, 1) := by decide +kernel
theorem dX5_init_9 : decode cX5_init 9 = .ok (.invokespecial 11, 3) := by decide +kernel
theorem dX5_init_12 : decode cX5_init 12 = .ok (.putfield 12, 3) := by decide +kernel
theorem dX5_init_15 : decode cX5_init 15 = .ok (.aload_n 0, 1) := by decide +kernel
theorem dX5_init_16 : decode cX5_init 16 = .ok (.new 9, 3) := by decide +kernel
theorem dX5_init_19 : decode cX5_init 19 = .ok (.dup, 1) := by decide +kernel
theorem dX5_init_20 : decode cX5_init 20 = .ok (.invokespecial 11, 3) := by decide +kernel
theorem dX5_init_23 : decode cX5_init 23 = .ok (.putfield 16, 3) := by decide +kernel
theorem dX5_init_26 : decode cX5_init 26 = .ok (.aload_n 0, 1) := by decide +kernel
theorem dX5_init_27 : decode cX5_init 27 = .ok (.new 9, 3) := by decide +kernel
theorem dX5_init_30 : decode cX5_init 30 = .ok (.dup, 1) := by decide +kernel
theorem dX5_init_31 : decode cX5_init 31 = .ok (.invokespecial 11, 3) := by decide +kernel
theorem dX5_init_34 : decode cX5_init 34 = .ok (.putfield 19, 3) := by decide +kernel
theorem dX5_init_37 : decode cX5_init 37 = .ok (.aload_n 0, 1) := by decide +kernel
theorem dX5_init_38 : decode cX5_init 38 = .ok (.new 22, 3) := by decide +kernel
theorem dX5_init_41 : decode cX5_init 41 = .ok (.dup, 1) := by decide +kernel
theorem dX5_init_42 : decode cX5_init 42 = .ok (.invokespecial 24, 3) := by decide +kernel
theorem dX5_init_45 : decode cX5_init 45 = .ok (.putfield 25, 3) := by decide +kernel
theorem dX5_init_48 : decode cX5_init 48 = .ok (.aload_n 0, 1) := by decide +kernel
theorem dX5_init_49 : decode cX5_init 49 = .ok (.new 22, 3) := by decide +kernel
theorem dX5_init_52 : decode cX5_init 52 = .ok (.dup, 1) := by decide +kernel
theorem dX5_init_53 : decode cX5_init 53 = .ok (.invokespecial 24, 3) := by decide +kernel
theorem dX5_init_56 : decode cX5_init 56 = .ok (.putfield 29, 3) := by decide +kernel
theorem dX5_init_59 : decode cX5_init 59 = .ok (.aload_n 0, 1) := by decide +kernel
theorem dX5_init_60 : decode cX5_init 60 = .ok (.bipush 16, 2) := by decide +kernel
theorem dX5_init_62 : decode cX5_init 62 = .ok (.newarray .int, 2) := by decide +kernel
theorem dX5_init_64 : decode cX5_init 64 = .ok (.putfield 32, 3) := by decide +kernel
theorem dX5_init_67 : decode cX5_init 67 = .ok (.aload_n 0, 1) := by decide +kernel
theorem dX5_init_68 : decode cX5_init 68 = .ok (.bipush 16, 2) := by decide +kernel
theorem dX5_init_70 : decode cX5_init 70 = .ok (.newarray .int, 2) := by decide +kernel
theorem dX5_init_72 : decode cX5_init 72 = .ok (.putfield 36, 3) := by decide +kernel
theorem dX5_init_75 : decode cX5_init 75 = .ok (.aload_n 0, 1) := by decide +kernel
theorem dX5_init_76 : decode cX5_init 76 = .ok (.bipush 64, 2) := by decide +kernel
theorem dX5_init_78 : decode cX5_init 78 = .ok (.newarray .int, 2) := by decide +kernel
theorem dX5_init_80 : decode cX5_init 80 = .ok (.putfield 39, 3) := by decide +kernel
theorem dX5_init_83 : decode cX5_init 83 = .ok (.aload_n 0, 1) := by decide +kernel
theorem dX5_init_84 : decode cX5_init 84 = .ok (.new 42, 3) := by decide +kernel
theorem dX5_init_87 : decode cX5_init 87 = .ok (.dup, 1) := by decide +kernel
theorem dX5_init_88 : decode cX5_init 88 = .ok (.invokespecial 44, 3) := by decide +kernel
theorem dX5_init_91 : decode cX5_init 91 = .ok (.putfield 45, 3) := by decide +kernel
theorem dX5_init_94 : decode cX5_init 94 = .ok (.aload_n 0, 1) := by decide +kernel
theorem dX5_init_95 : decode cX5_init 95 = .ok (.new 49, 3) := by decide +kernel
theorem dX5_init_98 : decode cX5_init 98 = .ok (.dup, 1) := by decide +kernel
theorem dX5_init_99 : decode cX5_init 99 = .ok (.aload_n 0, 1) := by decide +kernel
theorem dX5_init_100 : decode cX5_init 100 = .ok (.getfield 45, 3) := by decide +kernel
theorem dX5_init_103 : decode cX5_init 103 = .ok (.aload_n 0, 1) := by decide +kernel
theorem dX5_init_104 : decode cX5_init 104 = .ok (.getfield 12, 3) := by decide +kernel
theorem dX5_init_107 : decode cX5_init 107 = .ok (.invokespecial 51, 3) := by decide +kernel
theorem dX5_init_110 : decode cX5_init 110 = .ok (.putfield 54, 3) := by decide +kernel
theorem dX5_init_113 : decode cX5_init 113 = .ok (.aload_n 0, 1) := by decide +kernel
theorem dX5_init_114 : decode cX5_init 114 = .ok (.iconst 4, 1) := by decide +kernel
theorem dX5_init_115 : decode cX5_init 115 = .ok (.anewarray 58, 3) := by decide +kernel
theorem dX5_init_118 : decode cX5_init 118 = .ok (.putfield 60, 3) := by decide +kernel
theorem dX5_init_121 : decode cX5_init 121 = .ok (.aload_n 0, 1) := by decide +kernel
theorem dX5_init_122 : decode cX5_init 122 = .ok (.bipush 7, 2) := by decide +kernel
theorem dX5_init_124 : decode cX5_init 124 = .ok (.newarray .int, 2) := by decide +kernel
theorem dX5_init_126 : decode cX5_init 126 = .ok (.putfield 64, 3) := by decide +kernel
theorem dX5_init_129 : decode cX5_init 129 = .ok (.iconst 0, 1) := by decide +kernel
theorem dX5_init_130 : decode cX5_init 130 = .ok (.istore_n 1, 1) := by decide +kernel
theorem dX5_init_131 : decode cX5_init 131 = .ok (.iload_n 1, 1) := by decide +kernel
theorem dX5_init_132 : decode cX5_init 132 = .ok (.iconst 4, 1) := by decide +kernel
theorem dX5_init_133 : decode cX5_init 133 = .ok (.if_icmp .ge 22, 3) := by decide +kernel
theorem dX5_init_136 : decode cX5_init 136 = .ok (.aload_n 0, 1) := by decide +kernel
theorem dX5_init_137 : decode cX5_init 137 = .ok (.getfield 60, 3) := by decide +kernel
theorem dX5_init_140 : decode cX5_init 140 = .ok (.iload_n 1, 1) := by decide +kernel
theorem dX5_init_141 : decode cX5_init 141 = .ok (.new 58, 3) := by decide +kernel
theorem dX5_init_144 : decode cX5_init 144 = .ok (.dup, 1) := by decide +kernel
theorem dX5_init_145 : decode cX5_init 145 = .ok (.invokespecial 67, 3) := by decide +kernel
theorem dX5_init_148 : decode cX5_init 148 = .ok (.aastore, 1) := by decide +kernel
theorem dX5_init_149 : decode cX5_init 149 = .ok (.iinc 1 1, 3) := by decide +kernel
theorem dX5_init_152 : decode cX5_init 152 = .ok (.goto (-21), 3) := by decide +kernel
theorem dX5_init_155 : decode cX5_init 155 = .ok (.return_, 1) := by decide +kernel
theorem dX5_field_0 : decode cX5_field 0 = .ok (.iload_n 1, 1) := by decide +kernel
theorem dX5_field_1 : decode cX5_field 1 = .ok (.invokestatic 68, 3) := by decide +kernel
theorem dX5_field_4 : decode cX5_field 4 = .ok (.ifCond .ne 10, 3) := by decide +kernel
theorem dX5_field_7 : decode cX5_field 7 = .ok (.aload_n 0, 1) := by decide +kernel
theorem dX5_field_8 : decode cX5_field 8 = .ok (.ldc 72, 2) := by decide +kernel
theorem dX5_field_10 : decode cX5_field 10 = .ok (.invokevirtual 73, 3) := by decide +kernel
theorem dX5_field_13 : decode cX5_field 13 = .ok (.ireturn, 1) := by decide +kernel
theorem dX5_field_14 : decode cX5_field 14 = .ok (.aload_n 0, 1) := by decide +kernel
theorem dX5_field_15 : decode cX5_field 15 = .ok (.getfield 12, 3) := by decide +kernel
theorem dX5_field_18 : decode cX5_field 18 = .ok (.getfield 77, 3) := by decide +kernel
theorem dX5_field_21 : decode cX5_field 21 = .ok (.bipush 16, 2) := by decide +kernel
theorem dX5_field_23 : decode cX5_field 23 = .ok (.if_icmp .lt 10, 3) := by decide +kernel
theorem dX5_field_26 : decode cX5_field 26 = .ok (.aload_n 0, 1) := by decide +kernel
theorem dX5_field_27 : decode cX5_field 27 = .ok (.ldc 81, 2) := by decide +kernel
theorem dX5_field_29 : decode cX5_field 29 = .ok (.invokevirtual 73, 3) := by decide +kernel
theorem dX5_field_32 : decode cX5_field 32 = .ok (.ireturn, 1) := by decide +kernel
theorem dX5_field_33 : decode cX5_field 33 = .ok (.aload_n 0, 1) := by decide +kernel
theorem dX5_field_34 : decode cX5_field 34 = .ok (.getfield 12, 3) := by decide +kernel
theorem dX5_field_37 : decode cX5_field 37 = .ok (.iload_n 1, 1) := by decide +kernel
theorem dX5_field_38 : decode cX5_field 38 = .ok (.invokevirtual 82, 3) := by decide +kernel
theorem dX5_field_41 : decode cX5_field 41 = .ok (.ireturn, 1) := by decide +kernel
theorem dX5_of_0 : decode cX5_of 0 = .ok (.aload_n 0, 1) := by decide +kernel
theorem dX5_of_1 : decode cX5_of 1 = .ok (.getfield 12, 3) := by decide +kernel
theorem dX5_of_4 : decode cX5_of 4 = .ok (.iload_n 1, 1) := by decide +kernel
theorem dX5_of_5 : decode cX5_of 5 = .ok (.invokevirtual 85, 3) := by decide +kernel
theorem dX5_of_8 : decode cX5_of 8 = .ok (.ifCond .ne 10, 3) := by decide +kernel
theorem dX5_of_11 : decode cX5_of 11 = .ok (.aload_n 0, 1) := by decide +kernel
theorem dX5_of_12 : decode cX5_of 12 = .ok (.ldc 72, 2) := by decide +kernel
theorem dX5_of_14 : decode cX5_of 14 = .ok (.invokevirtual 73, 3) := by decide +kernel
theorem dX5_of_17 : decode cX5_of 17 = .ok (.ireturn, 1) := by decide +kernel
theorem dX5_of_18 : decode cX5_of 18 = .ok (.iload_n 2, 1) := by decide +kernel
theorem dX5_of_19 : decode cX5_of 19 = .ok (.tableswitch 52 0 2 #[25, 34, 43], 25) := by decide +kernel
theorem dX5_of_44 : decode cX5_of 44 = .ok (.aload_n 0, 1) := by decide +kernel
theorem dX5_of_45 : decode cX5_of 45 = .ok (.getfield 12, 3) := by decide +kernel
theorem dX5_of_48 : decode cX5_of 48 = .ok (.iload_n 1, 1) := by decide +kernel
theorem dX5_of_49 : decode cX5_of 49 = .ok (.invokevirtual 88, 3) := by decide +kernel
theorem dX5_of_52 : decode cX5_of 52 = .ok (.ireturn, 1) := by decide +kernel
theorem dX5_of_53 : decode cX5_of 53 = .ok (.aload_n 0, 1) := by decide +kernel
theorem dX5_of_54 : decode cX5_of 54 = .ok (.getfield 12, 3) := by decide +kernel
theorem dX5_of_57 : decode cX5_of 57 = .ok (.iload_n 1, 1) := by decide +kernel
theorem dX5_of_58 : decode cX5_of 58 = .ok (.invokevirtual 91, 3) := by decide +kernel
theorem dX5_of_61 : decode cX5_of 61 = .ok (.ireturn, 1) := by decide +kernel
theorem dX5_of_62 : decode cX5_of 62 = .ok (.aload_n 0, 1) := by decide +kernel
theorem dX5_of_63 : decode cX5_of 63 = .ok (.getfield 12, 3) := by decide +kernel
theorem dX5_of_66 : decode cX5_of 66 = .ok (.iload_n 1, 1) := by decide +kernel
theorem dX5_of_67 : decode cX5_of 67 = .ok (.invokevirtual 94, 3) := by decide +kernel
theorem dX5_of_70 : decode cX5_of 70 = .ok (.ireturn, 1) := by decide +kernel
theorem dX5_of_71 : decode cX5_of 71 = .ok (.aload_n 0, 1) := by decide +kernel
theorem dX5_of_72 : decode cX5_of 72 = .ok (.ldc 72, 2) := by decide +kernel
theorem dX5_of_74 : decode cX5_of 74 = .ok (.invokevirtual 73, 3) := by decide +kernel
theorem dX5_of_77 : decode cX5_of 77 = .ok (.ireturn, 1) := by decide +kernel
theorem dX5_rough_0 : decode cX5_rough 0 = .ok (.aload_n 0, 1) := by decide +kernel
theorem dX5_rough_1 : decode cX5_rough 1 = .ok (.getfield 12, 3) := by decide +kernel
theorem dX5_rough_4 : decode cX5_rough 4 = .ok (.iload_n 1, 1) := by decide +kernel
theorem dX5_rough_5 : decode cX5_rough 5 = .ok (.invokevirtual 85, 3) := by decide +kernel
theorem dX5_rough_8 : decode cX5_rough 8 = .ok (.ifCond .eq 10, 3) := by decide +kernel
theorem dX5_rough_11 : decode cX5_rough 11 = .ok (.iload_n 2, 1) := by decide +kernel
theorem dX5_rough_12 : decode cX5_rough 12 = .ok (.invokestatic 68, 3) := by decide +kernel
theorem dX5_rough_15 : decode cX5_rough 15 = .ok (.ifCond .ne 10, 3) := by decide +kernel
theorem dX5_rough_18 : decode cX5_rough 18 = .ok (.aload_n 0, 1) := by decide +kernel
theorem dX5_rough_19 : decode cX5_rough 19 = .ok (.ldc 72, 2) := by decide +kernel
theorem dX5_rough_21 : decode cX5_rough 21 = .ok (.invokevirtual 73, 3) := by decide +kernel
theorem dX5_rough_24 : decode cX5_rough 24 = .ok (.ireturn, 1) := by decide +kernel
theorem dX5_rough_25 : decode cX5_rough 25 = .ok (.aload_n 0, 1) := by decide +kernel
theorem dX5_rough_26 : decode cX5_rough 26 = .ok (.getfield 12, 3) := by decide +kernel
theorem dX5_rough_29 : decode cX5_rough 29 = .ok (.iload_n 1, 1) := by decide +kernel
theorem dX5_rough_30 : decode cX5_rough 30 = .ok (.invokevirtual 88, 3) := by decide +kernel
theorem dX5_rough_33 : decode cX5_rough 33 = .ok (.istore_n 3, 1) := by decide +kernel
theorem dX5_rough_34 : decode cX5_rough 34 = .ok (.aload_n 0, 1) := by decide +kernel
theorem dX5_rough_35 : decode cX5_rough 35 = .ok (.getfield 12, 3) := by decide +kernel
theorem dX5_rough_38 : decode cX5_rough 38 = .ok (.iload_n 1, 1) := by decide +kernel
theorem dX5_rough_39 : decode cX5_rough 39 = .ok (.iload_n 2, 1) := by decide +kernel
theorem dX5_rough_40 : decode cX5_rough 40 = .ok (.invokevirtual 97, 3) := by decide +kernel
theorem dX5_rough_43 : decode cX5_rough 43 = .ok (.iload_n 3, 1) := by decide +kernel
theorem dX5_rough_44 : decode cX5_rough 44 = .ok (.ireturn, 1) := by decide +kernel
theorem dX5_glue_0 : decode cX5_glue 0 = .ok (.aload_n 0, 1) := by decide +kernel
theorem dX5_glue_1 : decode cX5_glue 1 = .ok (.getfield 12, 3) := by decide +kernel
theorem dX5_glue_4 : decode cX5_glue 4 = .ok (.iload_n 1, 1) := by decide +kernel
theorem dX5_glue_5 : decode cX5_glue 5 = .ok (.iload_n 2, 1) := by decide +kernel
theorem dX5_glue_6 : decode cX5_glue 6 = .ok (.invokevirtual 101, 3) := by decide +kernel
theorem dX5_glue_9 : decode cX5_glue 9 = .ok (.ifCond .eq 16, 3) := by decide +kernel
theorem dX5_glue_12 : decode cX5_glue 12 = .ok (.aload_n 0, 1) := by decide +kernel
theorem dX5_glue_13 : decode cX5_glue 13 = .ok (.getfield 12, 3) := by decide +kernel
theorem dX5_glue_16 : decode cX5_glue 16 = .ok (.iload_n 3, 1) := by decide +kernel
theorem dX5_glue_17 : decode cX5_glue 17 = .ok (.iload 4, 2) := by decide +kernel
theorem dX5_glue_19 : decode cX5_glue 19 = .ok (.invokevirtual 101, 3) := by decide +kernel
theorem dX5_glue_22 : decode cX5_glue 22 = .ok (.ifCond .ne 10, 3) := by decide +kernel
theorem dX5_glue_25 : decode cX5_glue 25 = .ok (.aload_n 0, 1) := by decide +kernel
theorem dX5_glue_26 : decode cX5_glue 26 = .ok (.ldc 72, 2) := by decide +kernel
theorem dX5_glue_28 : decode cX5_glue 28 = .ok (.invokevirtual 73, 3) := by decide +kernel
theorem dX5_glue_31 : decode cX5_glue 31 = .ok (.ireturn, 1) := by decide +kernel
theorem dX5_glue_32 : decode cX5_glue 32 = .ok (.iload_n 1, 1) := by decide +kernel
theorem dX5_glue_33 : decode cX5_glue 33 = .ok (.iload_n 2, 1) := by decide +kernel
theorem dX5_glue_34 : decode cX5_glue 34 = .ok (.invokestatic 105, 3) := by decide +kernel
theorem dX5_glue_37 : decode cX5_glue 37 = .ok (.istore 5, 2) := by decide +kernel
theorem dX5_glue_39 : decode cX5_glue 39 = .ok (.iload_n 3, 1) := by decide +kernel
theorem dX5_glue_40 : decode cX5_glue 40 = .ok (.iload 4, 2) := by decide +kernel
theorem dX5_glue_42 : decode cX5_glue 42 = .ok (.invokestatic 105, 3) := by decide +kernel
theorem dX5_glue_45 : decode cX5_glue 45 = .ok (.istore 6, 2) := by decide +kernel
theorem dX5_glue_47 : decode cX5_glue 47 = .ok (.iload 5, 2) := by decide +kernel
theorem dX5_glue_49 : decode cX5_glue 49 = .ok (.iload 6, 2) := by decide +kernel
theorem dX5_glue_51 : decode cX5_glue 51 = .ok (.if_icmp .ne 10, 3) := by decide +kernel
theorem dX5_glue_54 : decode cX5_glue 54 = .ok (.aload_n 0, 1) := by decide +kernel
theorem dX5_glue_55 : decode cX5_glue 55 = .ok (.ldc 72, 2) := by decide +kernel
theorem dX5_glue_57 : decode cX5_glue 57 = .ok (.invokevirtual 73, 3) := by decide +kernel
theorem dX5_glue_60 : decode cX5_glue 60 = .ok (.ireturn, 1) := by decide +kernel
theorem dX5_glue_61 : decode cX5_glue 61 = .ok (.aload_n 0, 1) := by decide +kernel
theorem dX5_glue_62 : decode cX5_glue 62 = .ok (.getfield 12, 3) := by decide +kernel
theorem dX5_glue_65 : decode cX5_glue 65 = .ok (.iload 5, 2) := by decide +kernel
theorem dX5_glue_67 : decode cX5_glue 67 = .ok (.invokevirtual 109, 3) := by decide +kernel
theorem dX5_glue_70 : decode cX5_glue 70 = .ok (.ifCond .eq 15, 3) := by decide +kernel
theorem dX5_glue_73 : decode cX5_glue 73 = .ok (.aload_n 0, 1) := by decide +kernel
theorem dX5_glue_74 : decode cX5_glue 74 = .ok (.getfield 12, 3) := by decide +kernel
theorem dX5_glue_77 : decode cX5_glue 77 = .ok (.iload 6, 2) := by decide +kernel
theorem dX5_glue_79 : decode cX5_glue 79 = .ok (.invokevirtual 109, 3) := by decide +kernel
theorem dX5_glue_82 : decode cX5_glue 82 = .ok (.ifCond .ne 10, 3) := by decide +kernel
theorem dX5_glue_85 : decode cX5_glue 85 = .ok (.aload_n 0, 1) := by decide +kernel
theorem dX5_glue_86 : decode cX5_glue 86 = .ok (.ldc 112, 2) := by decide +kernel
theorem dX5_glue_88 : decode cX5_glue 88 = .ok (.invokevirtual 73, 3) := by decide +kernel
theorem dX5_glue_91 : decode cX5_glue 91 = .ok (.ireturn, 1) := by decide +kernel
theorem dX5_glue_92 : decode cX5_glue 92 = .ok (.aload_n 0, 1) := by decide +kernel
theorem dX5_glue_93 : decode cX5_glue 93 = .ok (.getfield 12, 3) := by decide +kernel
theorem dX5_glue_96 : decode cX5_glue 96 = .ok (.iload 5, 2) := by decide +kernel
theorem dX5_glue_98 : decode cX5_glue 98 = .ok (.iload 6, 2) := by decide +kernel
theorem dX5_glue_100 : decode cX5_glue 100 = .ok (.invokevirtual 113, 3) := by decide +kernel
theorem dX5_glue_103 : decode cX5_glue 103 = .ok (.iconst 1, 1) := by decide +kernel
theorem dX5_glue_104 : decode cX5_glue 104 = .ok (.ireturn, 1) := by decide +kernel
theorem dX5_cut_0 : decode cX5_cut 0 = .ok (.aload_n 0, 1) := by decide +kernel
theorem dX5_cut_1 : decode cX5_cut 1 = .ok (.getfield 12, 3) := by decide +kernel
theorem dX5_cut_4 : decode cX5_cut 4 = .ok (.iload_n 1, 1) := by decide +kernel
theorem dX5_cut_5 : decode cX5_cut 5 = .ok (.iload_n 2, 1) := by decide +kernel
theorem dX5_cut_6 : decode cX5_cut 6 = .ok (.invokevirtual 101, 3) := by decide +kernel
theorem dX5_cut_9 : decode cX5_cut 9 = .ok (.ifCond .ne 10, 3) := by decide +kernel
theorem dX5_cut_12 : decode cX5_cut 12 = .ok (.aload_n 0, 1) := by decide +kernel
theorem dX5_cut_13 : decode cX5_cut 13 = .ok (.ldc 72, 2) := by decide +kernel
theorem dX5_cut_15 : decode cX5_cut 15 = .ok (.invokevirtual 73, 3) := by decide +kernel
theorem dX5_cut_18 : decode cX5_cut 18 = .ok (.ireturn, 1) := by decide +kernel
theorem dX5_cut_19 : decode cX5_cut 19 = .ok (.iload_n 1, 1) := by decide +kernel
theorem dX5_cut_20 : decode cX5_cut 20 = .ok (.iload_n 2, 1) := by decide +kernel
theorem dX5_cut_21 : decode cX5_cut 21 = .ok (.invokestatic 105, 3) := by decide +kernel
theorem dX5_cut_24 : decode cX5_cut 24 = .ok (.istore_n 3, 1) := by decide +kernel
theorem dX5_cut_25 : decode cX5_cut 25 = .ok (.aload_n 0, 1) := by decide +kernel
theorem dX5_cut_26 : decode cX5_cut 26 = .ok (.getfield 12, 3) := by decide +kernel
theorem dX5_cut_29 : decode cX5_cut 29 = .ok (.iload_n 3, 1) := by decide +kernel
theorem dX5_cut_30 : decode cX5_cut 30 = .ok (.invokevirtual 116, 3) := by decide +kernel
theorem dX5_cut_33 : decode cX5_cut 33 = .ok (.istore 4, 2) := by decide +kernel
theorem dX5_cut_35 : decode cX5_cut 35 = .ok (.iload 4, 2) := by decide +kernel
theorem dX5_cut_37 : decode cX5_cut 37 = .ok (.iconst (-1), 1) := by decide +kernel
theorem dX5_cut_38 : decode cX5_cut 38 = .ok (.if_icmp .ne 10, 3) := by decide +kernel
theorem dX5_cut_41 : decode cX5_cut 41 = .ok (.aload_n 0, 1) := by decide +kernel
theorem dX5_cut_42 : decode cX5_cut 42 = .ok (.ldc 112, 2) := by decide +kernel
theorem dX5_cut_44 : decode cX5_cut 44 = .ok (.invokevirtual 73, 3) := by decide +kernel
theorem dX5_cut_47 : decode cX5_cut 47 = .ok (.ireturn, 1) := by decide +kernel
theorem dX5_cut_48 : decode cX5_cut 48 = .ok (.aload_n 0, 1) := by decide +kernel
theorem dX5_cut_49 : decode cX5_cut 49 = .ok (.getfield 12, 3) := by decide +kernel
theorem dX5_cut_52 : decode cX5_cut 52 = .ok (.iload_n 3, 1) := by decide +kernel
theorem dX5_cut_53 : decode cX5_cut 53 = .ok (.invokevirtual 119, 3) := by decide +kernel
theorem dX5_cut_56 : decode cX5_cut 56 = .ok (.iload 4, 2) := by decide +kernel
theorem dX5_cut_58 : decode cX5_cut 58 = .ok (.ireturn, 1) := by decide +kernel
theorem dX5_over_0 : decode cX5_over 0 = .ok (.aload_n 0, 1) := by decide +kernel
theorem dX5_over_1 : decode cX5_over 1 = .ok (.getfield 12, 3) := by decide +kernel
theorem dX5_over_4 : decode cX5_over 4 = .ok (.iload_n 1, 1) := by decide +kernel
theorem dX5_over_5 : decode cX5_over 5 = .ok (.iload_n 2, 1) := by decide +kernel
theorem dX5_over_6 : decode cX5_over 6 = .ok (.invokevirtual 101, 3) := by decide +kernel
theorem dX5_over_9 : decode cX5_over 9 = .ok (.ifCond .ne 10, 3) := by decide +kernel
theorem dX5_over_12 : decode cX5_over 12 = .ok (.aload_n 0, 1) := by decide +kernel
theorem dX5_over_13 : decode cX5_over 13 = .ok (.ldc 72, 2) := by decide +kernel
theorem dX5_over_15 : decode cX5_over 15 = .ok (.invokevirtual 73, 3) := by decide +kernel
theorem dX5_over_18 : decode cX5_over 18 = .ok (.ireturn, 1) := by decide +kernel
theorem dX5_over_19 : decode cX5_over 19 = .ok (.aload_n 0, 1) := by decide +kernel
theorem dX5_over_20 : decode cX5_over 20 = .ok (.aload_n 0, 1) := by decide +kernel
theorem dX5_over_21 : decode cX5_over 21 = .ok (.getfield 12, 3) := by decide +kernel
theorem dX5_over_24 : decode cX5_over 24 = .ok (.iload_n 1, 1) := by decide +kernel
theorem dX5_over_25 : decode cX5_over 25 = .ok (.iload_n 2, 1) := by decide +kernel
theorem dX5_over_26 : decode cX5_over 26 = .ok (.invokestatic 105, 3) := by decide +kernel
theorem dX5_over_29 : decode cX5_over 29 = .ok (.invokevirtual 116, 3) := by decide +kernel
theorem dX5_over_32 : decode cX5_over 32 = .ok (.invokevirtual 123, 3) := by decide +kernel
theorem dX5_over_35 : decode cX5_over 35 = .ok (.ireturn, 1) := by decide +kernel
theorem dX5_walker_0 : decode cX5_walker 0 = .ok (.iload_n 1, 1) := by decide +kernel
theorem dX5_walker_1 : decode cX5_walker 1 = .ok (.invokestatic 126, 3) := by decide +kernel
theorem dX5_walker_4 : decode cX5_walker 4 = .ok (.ifCond .eq 15, 3) := by decide +kernel
theorem dX5_walker_7 : decode cX5_walker 7 = .ok (.aload_n 0, 1) := by decide +kernel
theorem dX5_walker_8 : decode cX5_walker 8 = .ok (.getfield 12, 3) := by decide +kernel
theorem dX5_walker_11 : decode cX5_walker 11 = .ok (.iload_n 2, 1) := by decide +kernel
theorem dX5_walker_12 : decode cX5_walker 12 = .ok (.iload_n 3, 1) := by decide +kernel
theorem dX5_walker_13 : decode cX5_walker 13 = .ok (.invokevirtual 101, 3) := by decide +kernel
theorem dX5_walker_16 : decode cX5_walker 16 = .ok (.ifCond .ne 10, 3) := by decide +kernel
theorem dX5_walker_19 : decode cX5_walker 19 = .ok (.aload_n 0, 1) := by decide +kernel
theorem dX5_walker_20 : decode cX5_walker 20 = .ok (.ldc 72, 2) := by decide +kernel
theorem dX5_walker_22 : decode cX5_walker 22 = .ok (.invokevirtual 73, 3) := by decide +kernel
theorem dX5_walker_25 : decode cX5_walker 25 = .ok (.ireturn, 1) := by decide +kernel
theorem dX5_walker_26 : decode cX5_walker 26 = .ok (.aload_n 0, 1) := by decide +kernel
theorem dX5_walker_27 : decode cX5_walker 27 = .ok (.getfield 12, 3) := by decide +kernel
theorem dX5_walker_30 : decode cX5_walker 30 = .ok (.getfield 129, 3) := by decide +kernel
theorem dX5_walker_33 : decode cX5_walker 33 = .ok (.bipush 6, 2) := by decide +kernel
theorem dX5_walker_35 : decode cX5_walker 35 = .ok (.if_icmp .lt 10, 3) := by decide +kernel
theorem dX5_walker_38 : decode cX5_walker 38 = .ok (.aload_n 0, 1) := by decide +kernel
theorem dX5_walker_39 : decode cX5_walker 39 = .ok (.ldc 81, 2) := by decide +kernel
theorem dX5_walker_41 : decode cX5_walker 41 = .ok (.invokevirtual 73, 3) := by decide +kernel
theorem dX5_walker_44 : decode cX5_walker 44 = .ok (.ireturn, 1) := by decide +kernel
theorem dX5_walker_45 : decode cX5_walker 45 = .ok (.aload_n 0, 1) := by decide +kernel
theorem dX5_walker_46 : decode cX5_walker 46 = .ok (.getfield 12, 3) := by decide +kernel
theorem dX5_walker_49 : decode cX5_walker 49 = .ok (.iload_n 1, 1) := by decide +kernel
theorem dX5_walker_50 : decode cX5_walker 50 = .ok (.iload_n 2, 1) := by decide +kernel
theorem dX5_walker_51 : decode cX5_walker 51 = .ok (.iload_n 3, 1) := by decide +kernel
theorem dX5_walker_52 : decode cX5_walker 52 = .ok (.invokestatic 105, 3) := by decide +kernel
theorem dX5_walker_55 : decode cX5_walker 55 = .ok (.invokevirtual 132, 3) := by decide +kernel
theorem dX5_walker_58 : decode cX5_walker 58 = .ok (.ireturn, 1) := by decide +kernel
theorem dX5_its_0 : decode cX5_its 0 = .ok (.aload_n 0, 1) := by decide +kernel
theorem dX5_its_1 : decode cX5_its 1 = .ok (.getfield 12, 3) := by decide +kernel
theorem dX5_its_4 : decode cX5_its 4 = .ok (.iload_n 1, 1) := by decide +kernel
theorem dX5_its_5 : decode cX5_its 5 = .ok (.invokevirtual 135, 3) := by decide +kernel
theorem dX5_its_8 : decode cX5_its 8 = .ok (.ifCond .ne 10, 3) := by decide +kernel
theorem dX5_its_11 : decode cX5_its 11 = .ok (.aload_n 0, 1) := by decide +kernel
theorem dX5_its_12 : decode cX5_its 12 = .ok (.ldc 72, 2) := by decide +kernel
theorem dX5_its_14 : decode cX5_its 14 = .ok (.invokevirtual 73, 3) := by decide +kernel
theorem dX5_its_17 : decode cX5_its 17 = .ok (.ireturn, 1) := by decide +kernel
theorem dX5_its_18 : decode cX5_its 18 = .ok (.aload_n 0, 1) := by decide +kernel
theorem dX5_its_19 : decode cX5_its 19 = .ok (.getfield 12, 3) := by decide +kernel
theorem dX5_its_22 : decode cX5_its 22 = .ok (.getfield 138, 3) := by decide +kernel
theorem dX5_its_25 : decode cX5_its 25 = .ok (.iload_n 1, 1) := by decide +kernel
theorem dX5_its_26 : decode cX5_its 26 = .ok (.aaload, 1) := by decide +kernel
theorem dX5_its_27 : decode cX5_its 27 = .ok (.astore_n 3, 1) := by decide +kernel
theorem dX5_its_28 : decode cX5_its 28 = .ok (.iload_n 2, 1) := by decide +kernel
theorem dX5_its_29 : decode cX5_its 29 = .ok (.tableswitch 92 0 5 #[39, 44, 52, 60, 65, 70], 39) := by decide +kernel
theorem dX5_its_68 : decode cX5_its 68 = .ok (.aload_n 3, 1) := by decide +kernel
theorem dX5_its_69 : decode cX5_its 69 = .ok (.getfield 142, 3) := by decide +kernel
theorem dX5_its_72 : decode cX5_its 72 = .ok (.ireturn, 1) := by decide +kernel
theorem dX5_its_73 : decode cX5_its 73 = .ok (.aload_n 3, 1) := by decide +kernel
theorem dX5_its_74 : decode cX5_its 74 = .ok (.getfield 145, 3) := by decide +kernel
theorem dX5_its_77 : decode cX5_its 77 = .ok (.invokestatic 148, 3) := by decide +kernel
theorem dX5_its_80 : decode cX5_its 80 = .ok (.ireturn, 1) := by decide +kernel
theorem dX5_its_81 : decode cX5_its 81 = .ok (.aload_n 3, 1) := by decide +kernel
theorem dX5_its_82 : decode cX5_its 82 = .ok (.getfield 145, 3) := by decide +kernel
theorem dX5_its_85 : decode cX5_its 85 = .ok (.invokestatic 151, 3) := by decide +kernel
theorem dX5_its_88 : decode cX5_its 88 = .ok (.ireturn, 1) := by decide +kernel
theorem dX5_its_89 : decode cX5_its 89 = .ok (.aload_n 3, 1) := by decide +kernel
theorem dX5_its_90 : decode cX5_its 90 = .ok (.getfield 154, 3) := by decide +kernel
theorem dX5_its_93 : decode cX5_its 93 = .ok (.ireturn, 1) := by decide +kernel
theorem dX5_its_94 : decode cX5_its 94 = .ok (.aload_n 3, 1) := by decide +kernel
theorem dX5_its_95 : decode cX5_its 95 = .ok (.getfield 157, 3) := by decide +kernel
theorem dX5_its_98 : decode cX5_its 98 = .ok (.ireturn, 1) := by decide +kernel
theorem dX5_its_99 : decode cX5_its 99 = .ok (.aload_n 3, 1) := by decide +kernel
theorem dX5_its_100 : decode cX5_its 100 = .ok (.getfield 142, 3) := by decide +kernel
theorem dX5_its_103 : decode cX5_its 103 = .ok (.aload_n 0, 1) := by decide +kernel
theorem dX5_its_104 : decode cX5_its 104 = .ok (.getfield 12, 3) := by decide +kernel
theorem dX5_its_107 : decode cX5_its 107 = .ok (.aload_n 3, 1) := by decide +kernel
theorem dX5_its_108 : decode cX5_its 108 = .ok (.getfield 145, 3) := by decide +kernel
theorem dX5_its_111 : decode cX5_its 111 = .ok (.invokestatic 148, 3) := by decide +kernel
theorem dX5_its_114 : decode cX5_its 114 = .ok (.invokevirtual 88, 3) := by decide +kernel
theorem dX5_its_117 : decode cX5_its 117 = .ok (.invokestatic 160, 3) := by decide +kernel
theorem dX5_its_120 : decode cX5_its 120 = .ok (.ireturn, 1) := by decide +kernel
theorem dX5_its_121 : decode cX5_its 121 = .ok (.aload_n 0, 1) := by decide +kernel
theorem dX5_its_122 : decode cX5_its 122 = .ok (.ldc 72, 2) := by decide +kernel
theorem dX5_its_124 : decode cX5_its 124 = .ok (.invokevirtual 73, 3) := by decide +kernel
theorem dX5_its_127 : decode cX5_its 127 = .ok (.ireturn, 1) := by decide +kernel
theorem dX5_place_0 : decode cX5_place 0 = .ok (.aload_n 0, 1) := by decide +kernel
theorem dX5_place_1 : decode cX5_place 1 = .ok (.getfield 12, 3) := by decide +kernel
theorem dX5_place_4 : decode cX5_place 4 = .ok (.iload_n 1, 1) := by decide +kernel
theorem dX5_place_5 : decode cX5_place 5 = .ok (.invokevirtual 135, 3) := by decide +kernel
theorem dX5_place_8 : decode cX5_place 8 = .ok (.ifCond .eq 15, 3) := by decide +kernel
theorem dX5_place_11 : decode cX5_place 11 = .ok (.aload_n 0, 1) := by decide +kernel
theorem dX5_place_12 : decode cX5_place 12 = .ok (.getfield 12, 3) := by decide +kernel
theorem dX5_place_15 : decode cX5_place 15 = .ok (.iload_n 2, 1) := by decide +kernel
theorem dX5_place_16 : decode cX5_place 16 = .ok (.iload_n 3, 1) := by decide +kernel
theorem dX5_place_17 : decode cX5_place 17 = .ok (.invokevirtual 101, 3) := by decide +kernel
theorem dX5_place_20 : decode cX5_place 20 = .ok (.ifCond .ne 10, 3) := by decide +kernel
theorem dX5_place_23 : decode cX5_place 23 = .ok (.aload_n 0, 1) := by decide +kernel
theorem dX5_place_24 : decode cX5_place 24 = .ok (.ldc 72, 2) := by decide +kernel
theorem dX5_place_26 : decode cX5_place 26 = .ok (.invokevirtual 73, 3) := by decide +kernel
theorem dX5_place_29 : decode cX5_place 29 = .ok (.ireturn, 1) := by decide +kernel
theorem dX5_place_30 : decode cX5_place 30 = .ok (.aload_n 0, 1) := by decide +kernel
theorem dX5_place_31 : decode cX5_place 31 = .ok (.getfield 12, 3) := by decide +kernel
theorem dX5_place_34 : decode cX5_place 34 = .ok (.getfield 138, 3) := by decide +kernel
theorem dX5_place_37 : decode cX5_place 37 = .ok (.iload_n 1, 1) := by decide +kernel
theorem dX5_place_38 : decode cX5_place 38 = .ok (.aaload, 1) := by decide +kernel
theorem dX5_place_39 : decode cX5_place 39 = .ok (.astore 4, 2) := by decide +kernel
theorem dX5_place_41 : decode cX5_place 41 = .ok (.aload 4, 2) := by decide +kernel
theorem dX5_place_43 : decode cX5_place 43 = .ok (.getfield 145, 3) := by decide +kernel
theorem dX5_place_46 : decode cX5_place 46 = .ok (.istore 5, 2) := by decide +kernel
theorem dX5_place_48 : decode cX5_place 48 = .ok (.aload 4, 2) := by decide +kernel
theorem dX5_place_50 : decode cX5_place 50 = .ok (.iload_n 2, 1) := by decide +kernel
theorem dX5_place_51 : decode cX5_place 51 = .ok (.iload_n 3, 1) := by decide +kernel
theorem dX5_place_52 : decode cX5_place 52 = .ok (.invokestatic 105, 3) := by decide +kernel
theorem dX5_place_55 : decode cX5_place 55 = .ok (.putfield 145, 3) := by decide +kernel
theorem dX5_place_58 : decode cX5_place 58 = .ok (.iload 5, 2) := by decide +kernel
theorem dX5_place_60 : decode cX5_place 60 = .ok (.ireturn, 1) := by decide +kernel
theorem dX5_turn_0 : decode cX5_turn 0 = .ok (.aload_n 0, 1) := by decide +kernel
theorem dX5_turn_1 : decode cX5_turn 1 = .ok (.getfield 12, 3) := by decide +kernel
theorem dX5_turn_4 : decode cX5_turn 4 = .ok (.iload_n 1, 1) := by decide +kernel
theorem dX5_turn_5 : decode cX5_turn 5 = .ok (.invokevirtual 135, 3) := by decide +kernel
theorem dX5_turn_8 : decode cX5_turn 8 = .ok (.ifCond .eq 10, 3) := by decide +kernel
theorem dX5_turn_11 : decode cX5_turn 11 = .ok (.iload_n 2, 1) := by decide +kernel
theorem dX5_turn_12 : decode cX5_turn 12 = .ok (.invokestatic 126, 3) := by decide +kernel
theorem dX5_turn_15 : decode cX5_turn 15 = .ok (.ifCond .ne 10, 3) := by decide +kernel
theorem dX5_turn_18 : decode cX5_turn 18 = .ok (.aload_n 0, 1) := by decide +kernel
theorem dX5_turn_19 : decode cX5_turn 19 = .ok (.ldc 72, 2) := by decide +kernel
theorem dX5_turn_21 : decode cX5_turn 21 = .ok (.invokevirtual 73, 3) := by decide +kernel
theorem dX5_turn_24 : decode cX5_turn 24 = .ok (.ireturn, 1) := by decide +kernel
theorem dX5_turn_25 : decode cX5_turn 25 = .ok (.aload_n 0, 1) := by decide +kernel
theorem dX5_turn_26 : decode cX5_turn 26 = .ok (.getfield 12, 3) := by decide +kernel
theorem dX5_turn_29 : decode cX5_turn 29 = .ok (.getfield 138, 3) := by decide +kernel
theorem dX5_turn_32 : decode cX5_turn 32 = .ok (.iload_n 1, 1) := by decide +kernel
theorem dX5_turn_33 : decode cX5_turn 33 = .ok (.aaload, 1) := by decide +kernel
theorem dX5_turn_34 : decode cX5_turn 34 = .ok (.astore_n 3, 1) := by decide +kernel
theorem dX5_turn_35 : decode cX5_turn 35 = .ok (.aload_n 3, 1) := by decide +kernel
theorem dX5_turn_36 : decode cX5_turn 36 = .ok (.getfield 142, 3) := by decide +kernel
theorem dX5_turn_39 : decode cX5_turn 39 = .ok (.istore 4, 2) := by decide +kernel
theorem dX5_turn_41 : decode cX5_turn 41 = .ok (.aload_n 3, 1) := by decide +kernel
theorem dX5_turn_42 : decode cX5_turn 42 = .ok (.iload_n 2, 1) := by decide +kernel
theorem dX5_turn_43 : decode cX5_turn 43 = .ok (.putfield 142, 3) := by decide +kernel
theorem dX5_turn_46 : decode cX5_turn 46 = .ok (.iload 4, 2) := by decide +kernel
theorem dX5_turn_48 : decode cX5_turn 48 = .ok (.ireturn, 1) := by decide +kernel
theorem dX5_as_0 : decode cX5_as 0 = .ok (.aload_n 0, 1) := by decide +kernel
theorem dX5_as_1 : decode cX5_as 1 = .ok (.getfield 12, 3) := by decide +kernel
theorem dX5_as_4 : decode cX5_as 4 = .ok (.iload_n 1, 1) := by decide +kernel
theorem dX5_as_5 : decode cX5_as 5 = .ok (.invokevirtual 135, 3) := by decide +kernel
theorem dX5_as_8 : decode cX5_as 8 = .ok (.ifCond .eq 10, 3) := by decide +kernel
theorem dX5_as_11 : decode cX5_as 11 = .ok (.iload_n 2, 1) := by decide +kernel
theorem dX5_as_12 : decode cX5_as 12 = .ok (.invokestatic 126, 3) := by decide +kernel
theorem dX5_as_15 : decode cX5_as 15 = .ok (.ifCond .ne 10, 3) := by decide +kernel
theorem dX5_as_18 : decode cX5_as 18 = .ok (.aload_n 0, 1) := by decide +kernel
theorem dX5_as_19 : decode cX5_as 19 = .ok (.ldc 72, 2) := by decide +kernel
theorem dX5_as_21 : decode cX5_as 21 = .ok (.invokevirtual 73, 3) := by decide +kernel
theorem dX5_as_24 : decode cX5_as 24 = .ok (.ireturn, 1) := by decide +kernel
theorem dX5_as_25 : decode cX5_as 25 = .ok (.aload_n 0, 1) := by decide +kernel
theorem dX5_as_26 : decode cX5_as 26 = .ok (.getfield 12, 3) := by decide +kernel
theorem dX5_as_29 : decode cX5_as 29 = .ok (.getfield 138, 3) := by decide +kernel
theorem dX5_as_32 : decode cX5_as 32 = .ok (.iload_n 1, 1) := by decide +kernel
theorem dX5_as_33 : decode cX5_as 33 = .ok (.aaload, 1) := by decide +kernel
theorem dX5_as_34 : decode cX5_as 34 = .ok (.astore_n 3, 1) := by decide +kernel
theorem dX5_as_35 : decode cX5_as 35 = .ok (.aload_n 3, 1) := by decide +kernel
theorem dX5_as_36 : decode cX5_as 36 = .ok (.getfield 142, 3) := by decide +kernel
theorem dX5_as_39 : decode cX5_as 39 = .ok (.iload_n 2, 1) := by decide +kernel
theorem dX5_as_40 : decode cX5_as 40 = .ok (.invokestatic 163, 3) := by decide +kernel
theorem dX5_as_43 : decode cX5_as 43 = .ok (.ifCond .ne 10, 3) := by decide +kernel
theorem dX5_as_46 : decode cX5_as 46 = .ok (.aload_n 0, 1) := by decide +kernel
theorem dX5_as_47 : decode cX5_as 47 = .ok (.ldc 166, 2) := by decide +kernel
theorem dX5_as_49 : decode cX5_as 49 = .ok (.invokevirtual 73, 3) := by decide +kernel
theorem dX5_as_52 : decode cX5_as 52 = .ok (.ireturn, 1) := by decide +kernel
theorem dX5_as_53 : decode cX5_as 53 = .ok (.aload_n 3, 1) := by decide +kernel
theorem dX5_as_54 : decode cX5_as 54 = .ok (.getfield 154, 3) := by decide +kernel
theorem dX5_as_57 : decode cX5_as 57 = .ok (.ireturn, 1) := by decide +kernel
theorem dX5_step_0 : decode cX5_step 0 = .ok (.aload_n 0, 1) := by decide +kernel
theorem dX5_step_1 : decode cX5_step 1 = .ok (.getfield 12, 3) := by decide +kernel
theorem dX5_step_4 : decode cX5_step 4 = .ok (.iload_n 1, 1) := by decide +kernel
theorem dX5_step_5 : decode cX5_step 5 = .ok (.invokevirtual 135, 3) := by decide +kernel
theorem dX5_step_8 : decode cX5_step 8 = .ok (.ifCond .ne 10, 3) := by decide +kernel
theorem dX5_step_11 : decode cX5_step 11 = .ok (.aload_n 0, 1) := by decide +kernel
theorem dX5_step_12 : decode cX5_step 12 = .ok (.ldc 72, 2) := by decide +kernel
theorem dX5_step_14 : decode cX5_step 14 = .ok (.invokevirtual 73, 3) := by decide +kernel
theorem dX5_step_17 : decode cX5_step 17 = .ok (.ireturn, 1) := by decide +kernel
theorem dX5_step_18 : decode cX5_step 18 = .ok (.aload_n 0, 1) := by decide +kernel
theorem dX5_step_19 : decode cX5_step 19 = .ok (.getfield 12, 3) := by decide +kernel
theorem dX5_step_22 : decode cX5_step 22 = .ok (.getfield 138, 3) := by decide +kernel
theorem dX5_step_25 : decode cX5_step 25 = .ok (.iload_n 1, 1) := by decide +kernel
theorem dX5_step_26 : decode cX5_step 26 = .ok (.aaload, 1) := by decide +kernel
theorem dX5_step_27 : decode cX5_step 27 = .ok (.astore_n 2, 1) := by decide +kernel
theorem dX5_step_28 : decode cX5_step 28 = .ok (.aload_n 2, 1) := by decide +kernel
theorem dX5_step_29 : decode cX5_step 29 = .ok (.aload_n 0, 1) := by decide +kernel
theorem dX5_step_30 : decode cX5_step 30 = .ok (.getfield 12, 3) := by decide +kernel
theorem dX5_step_33 : decode cX5_step 33 = .ok (.invokevirtual 167, 3) := by decide +kernel
theorem dX5_step_36 : decode cX5_step 36 = .ok (.aload_n 2, 1) := by decide +kernel
theorem dX5_step_37 : decode cX5_step 37 = .ok (.getfield 145, 3) := by decide +kernel
theorem dX5_step_40 : decode cX5_step 40 = .ok (.invokestatic 148, 3) := by decide +kernel
theorem dX5_step_43 : decode cX5_step 43 = .ok (.ireturn, 1) := by decide +kernel
theorem dX5_steps_0 : decode cX5_steps 0 = .ok (.iload_n 1, 1) := by decide +kernel
theorem dX5_steps_1 : decode cX5_steps 1 = .ok (.iconst 1, 1) := by decide +kernel
theorem dX5_steps_2 : decode cX5_steps 2 = .ok (.if_icmp .lt 9, 3) := by decide +kernel
theorem dX5_steps_5 : decode cX5_steps 5 = .ok (.iload_n 1, 1) := by decide +kernel
theorem dX5_steps_6 : decode cX5_steps 6 = .ok (.bipush 100, 2) := by decide +kernel
theorem dX5_steps_8 : decode cX5_steps 8 = .ok (.if_icmp .le 10, 3) := by decide +kernel
theorem dX5_steps_11 : decode cX5_steps 11 = .ok (.aload_n 0, 1) := by decide +kernel
theorem dX5_steps_12 : decode cX5_steps 12 = .ok (.ldc 72, 2) := by decide +kernel
theorem dX5_steps_14 : decode cX5_steps 14 = .ok (.invokevirtual 73, 3) := by decide +kernel
theorem dX5_steps_17 : decode cX5_steps 17 = .ok (.ireturn, 1) := by decide +kernel
theorem dX5_steps_18 : decode cX5_steps 18 = .ok (.iconst 0, 1) := by decide +kernel
theorem dX5_steps_19 : decode cX5_steps 19 = .ok (.istore_n 2, 1) := by decide +kernel
theorem dX5_steps_20 : decode cX5_steps 20 = .ok (.iload_n 2, 1) := by decide +kernel
theorem dX5_steps_21 : decode cX5_steps 21 = .ok (.aload_n 0, 1) := by decide +kernel
theorem dX5_steps_22 : decode cX5_steps 22 = .ok (.getfield 12, 3) := by decide +kernel
theorem dX5_steps_25 : decode cX5_steps 25 = .ok (.getfield 129, 3) := by decide +kernel
theorem dX5_steps_28 : decode cX5_steps 28 = .ok (.if_icmp .ge 26, 3) := by decide +kernel
theorem dX5_steps_31 : decode cX5_steps 31 = .ok (.aload_n 0, 1) := by decide +kernel
theorem dX5_steps_32 : decode cX5_steps 32 = .ok (.getfield 12, 3) := by decide +kernel
theorem dX5_steps_35 : decode cX5_steps 35 = .ok (.getfield 138, 3) := by decide +kernel
theorem dX5_steps_38 : decode cX5_steps 38 = .ok (.iload_n 2, 1) := by decide +kernel
theorem dX5_steps_39 : decode cX5_steps 39 = .ok (.aaload, 1) := by decide +kernel
theorem dX5_steps_40 : decode cX5_steps 40 = .ok (.aload_n 0, 1) := by decide +kernel
theorem dX5_steps_41 : decode cX5_steps 41 = .ok (.getfield 12, 3) := by decide +kernel
theorem dX5_steps_44 : decode cX5_steps 44 = .ok (.iload_n 1, 1) := by decide +kernel
theorem dX5_steps_45 : decode cX5_steps 45 = .ok (.invokevirtual 171, 3) := by decide +kernel
theorem dX5_steps_48 : decode cX5_steps 48 = .ok (.iinc 2 1, 3) := by decide +kernel
theorem dX5_steps_51 : decode cX5_steps 51 = .ok (.goto (-31), 3) := by decide +kernel
theorem dX5_steps_54 : decode cX5_steps 54 = .ok (.aload_n 0, 1) := by decide +kernel
theorem dX5_steps_55 : decode cX5_steps 55 = .ok (.getfield 12, 3) := by decide +kernel
theorem dX5_steps_58 : decode cX5_steps 58 = .ok (.invokevirtual 175, 3) := by decide +kernel
theorem dX5_steps_61 : decode cX5_steps 61 = .ok (.ireturn, 1) := by decide +kernel
theorem dX5_on_0 : decode cX5_on 0 = .ok (.aload_n 0, 1) := by decide +kernel
theorem dX5_on_1 : decode cX5_on 1 = .ok (.getfield 12, 3) := by decide +kernel
theorem dX5_on_4 : decode cX5_on 4 = .ok (.iload_n 1, 1) := by decide +kernel
theorem dX5_on_5 : decode cX5_on 5 = .ok (.invokevirtual 135, 3) := by decide +kernel
theorem dX5_on_8 : decode cX5_on 8 = .ok (.ifCond .eq 10, 3) := by decide +kernel
theorem dX5_on_11 : decode cX5_on 11 = .ok (.iload_n 2, 1) := by decide +kernel
theorem dX5_on_12 : decode cX5_on 12 = .ok (.invokestatic 179, 3) := by decide +kernel
theorem dX5_on_15 : decode cX5_on 15 = .ok (.ifCond .ne 10, 3) := by decide +kernel
theorem dX5_on_18 : decode cX5_on 18 = .ok (.aload_n 0, 1) := by decide +kernel
theorem dX5_on_19 : decode cX5_on 19 = .ok (.ldc 72, 2) := by decide +kernel
theorem dX5_on_21 : decode cX5_on 21 = .ok (.invokevirtual 73, 3) := by decide +kernel
theorem dX5_on_24 : decode cX5_on 24 = .ok (.ireturn, 1) := by decide +kernel
theorem dX5_on_25 : decode cX5_on 25 = .ok (.aload_n 0, 1) := by decide +kernel
theorem dX5_on_26 : decode cX5_on 26 = .ok (.getfield 25, 3) := by decide +kernel
theorem dX5_on_29 : decode cX5_on 29 = .ok (.aload_n 0, 1) := by decide +kernel
theorem dX5_on_30 : decode cX5_on 30 = .ok (.getfield 12, 3) := by decide +kernel
theorem dX5_on_33 : decode cX5_on 33 = .ok (.getfield 138, 3) := by decide +kernel
theorem dX5_on_36 : decode cX5_on 36 = .ok (.iload_n 1, 1) := by decide +kernel
theorem dX5_on_37 : decode cX5_on 37 = .ok (.aaload, 1) := by decide +kernel
theorem dX5_on_38 : decode cX5_on 38 = .ok (.invokevirtual 182, 3) := by decide +kernel
theorem dX5_on_41 : decode cX5_on 41 = .ok (.aload_n 0, 1) := by decide +kernel
theorem dX5_on_42 : decode cX5_on 42 = .ok (.getfield 25, 3) := by decide +kernel
theorem dX5_on_45 : decode cX5_on 45 = .ok (.aload_n 0, 1) := by decide +kernel
theorem dX5_on_46 : decode cX5_on 46 = .ok (.getfield 12, 3) := by decide +kernel
theorem dX5_on_49 : decode cX5_on 49 = .ok (.iload_n 2, 1) := by decide +kernel
theorem dX5_on_50 : decode cX5_on 50 = .ok (.invokevirtual 171, 3) := by decide +kernel
theorem dX5_on_53 : decode cX5_on 53 = .ok (.iload_n 3, 1) := by decide +kernel
theorem dX5_on_54 : decode cX5_on 54 = .ok (.tableswitch 68 0 3 #[30, 41, 52, 60], 30) := by decide +kernel
theorem dX5_on_84 : decode cX5_on 84 = .ok (.aload_n 0, 1) := by decide +kernel
theorem dX5_on_85 : decode cX5_on 85 = .ok (.getfield 25, 3) := by decide +kernel
theorem dX5_on_88 : decode cX5_on 88 = .ok (.getfield 145, 3) := by decide +kernel
theorem dX5_on_91 : decode cX5_on 91 = .ok (.invokestatic 148, 3) := by decide +kernel
theorem dX5_on_94 : decode cX5_on 94 = .ok (.ireturn, 1) := by decide +kernel
theorem dX5_on_95 : decode cX5_on 95 = .ok (.aload_n 0, 1) := by decide +kernel
theorem dX5_on_96 : decode cX5_on 96 = .ok (.getfield 25, 3) := by decide +kernel
theorem dX5_on_99 : decode cX5_on 99 = .ok (.getfield 145, 3) := by decide +kernel
theorem dX5_on_102 : decode cX5_on 102 = .ok (.invokestatic 151, 3) := by decide +kernel
theorem dX5_on_105 : decode cX5_on 105 = .ok (.ireturn, 1) := by decide +kernel
theorem dX5_on_106 : decode cX5_on 106 = .ok (.aload_n 0, 1) := by decide +kernel
theorem dX5_on_107 : decode cX5_on 107 = .ok (.getfield 25, 3) := by decide +kernel
theorem dX5_on_110 : decode cX5_on 110 = .ok (.getfield 154, 3) := by decide +kernel
theorem dX5_on_113 : decode cX5_on 113 = .ok (.ireturn, 1) := by decide +kernel
theorem dX5_on_114 : decode cX5_on 114 = .ok (.aload_n 0, 1) := by decide +kernel
theorem dX5_on_115 : decode cX5_on 115 = .ok (.getfield 25, 3) := by decide +kernel
theorem dX5_on_118 : decode cX5_on 118 = .ok (.getfield 157, 3) := by decide +kernel
theorem dX5_on_121 : decode cX5_on 121 = .ok (.ireturn, 1) := by decide +kernel
theorem dX5_on_122 : decode cX5_on 122 = .ok (.aload_n 0, 1) := by decide +kernel
theorem dX5_on_123 : decode cX5_on 123 = .ok (.ldc 72, 2) := by decide +kernel
theorem dX5_on_125 : decode cX5_on 125 = .ok (.invokevirtual 73, 3) := by decide +kernel
theorem dX5_on_128 : decode cX5_on 128 = .ok (.ireturn, 1) := by decide +kernel
theorem dX5_when_0 : decode cX5_when 0 = .ok (.aload_n 0, 1) := by decide +kernel
theorem dX5_when_1 : decode cX5_when 1 = .ok (.getfield 12, 3) := by decide +kernel
theorem dX5_when_4 : decode cX5_when 4 = .ok (.iload_n 1, 1) := by decide +kernel
theorem dX5_when_5 : decode cX5_when 5 = .ok (.invokevirtual 135, 3) := by decide +kernel
theorem dX5_when_8 : decode cX5_when 8 = .ok (.ifCond .eq 14, 3) := by decide +kernel
theorem dX5_when_11 : decode cX5_when 11 = .ok (.aload_n 0, 1) := by decide +kernel
theorem dX5_when_12 : decode cX5_when 12 = .ok (.getfield 12, 3) := by decide +kernel
theorem dX5_when_15 : decode cX5_when 15 = .ok (.iload_n 2, 1) := by decide +kernel
theorem dX5_when_16 : decode cX5_when 16 = .ok (.invokevirtual 85, 3) := by decide +kernel
theorem dX5_when_19 : decode cX5_when 19 = .ok (.ifCond .ne 10, 3) := by decide +kernel
theorem dX5_when_22 : decode cX5_when 22 = .ok (.aload_n 0, 1) := by decide +kernel
theorem dX5_when_23 : decode cX5_when 23 = .ok (.ldc 72, 2) := by decide +kernel
theorem dX5_when_25 : decode cX5_when 25 = .ok (.invokevirtual 73, 3) := by decide +kernel
theorem dX5_when_28 : decode cX5_when 28 = .ok (.ireturn, 1) := by decide +kernel
theorem dX5_when_29 : decode cX5_when 29 = .ok (.aload_n 0, 1) := by decide +kernel
theorem dX5_when_30 : decode cX5_when 30 = .ok (.getfield 25, 3) := by decide +kernel
theorem dX5_when_33 : decode cX5_when 33 = .ok (.aload_n 0, 1) := by decide +kernel
theorem dX5_when_34 : decode cX5_when 34 = .ok (.getfield 12, 3) := by decide +kernel
theorem dX5_when_37 : decode cX5_when 37 = .ok (.getfield 138, 3) := by decide +kernel
theorem dX5_when_40 : decode cX5_when 40 = .ok (.iload_n 1, 1) := by decide +kernel
theorem dX5_when_41 : decode cX5_when 41 = .ok (.aaload, 1) := by decide +kernel
theorem dX5_when_42 : decode cX5_when 42 = .ok (.invokevirtual 182, 3) := by decide +kernel
theorem dX5_when_45 : decode cX5_when 45 = .ok (.iconst 0, 1) := by decide +kernel
theorem dX5_when_46 : decode cX5_when 46 = .ok (.istore_n 3, 1) := by decide +kernel
theorem dX5_when_47 : decode cX5_when 47 = .ok (.iload_n 3, 1) := by decide +kernel
theorem dX5_when_48 : decode cX5_when 48 = .ok (.bipush 100, 2) := by decide +kernel
theorem dX5_when_50 : decode cX5_when 50 = .ok (.if_icmp .gt 36, 3) := by decide +kernel
theorem dX5_when_53 : decode cX5_when 53 = .ok (.aload_n 0, 1) := by decide +kernel
theorem dX5_when_54 : decode cX5_when 54 = .ok (.getfield 25, 3) := by decide +kernel
theorem dX5_when_57 : decode cX5_when 57 = .ok (.getfield 145, 3) := by decide +kernel
theorem dX5_when_60 : decode cX5_when 60 = .ok (.invokestatic 148, 3) := by decide +kernel
theorem dX5_when_63 : decode cX5_when 63 = .ok (.iload_n 2, 1) := by decide +kernel
theorem dX5_when_64 : decode cX5_when 64 = .ok (.if_icmp .ne 5, 3) := by decide +kernel
theorem dX5_when_67 : decode cX5_when 67 = .ok (.iload_n 3, 1) := by decide +kernel
theorem dX5_when_68 : decode cX5_when 68 = .ok (.ireturn, 1) := by decide +kernel
theorem dX5_when_69 : decode cX5_when 69 = .ok (.aload_n 0, 1) := by decide +kernel
theorem dX5_when_70 : decode cX5_when 70 = .ok (.getfield 25, 3) := by decide +kernel
theorem dX5_when_73 : decode cX5_when 73 = .ok (.aload_n 0, 1) := by decide +kernel
theorem dX5_when_74 : decode cX5_when 74 = .ok (.getfield 12, 3) := by decide +kernel
theorem dX5_when_77 : decode cX5_when 77 = .ok (.invokevirtual 167, 3) := by decide +kernel
theorem dX5_when_80 : decode cX5_when 80 = .ok (.iinc 3 1, 3) := by decide +kernel
theorem dX5_when_83 : decode cX5_when 83 = .ok (.goto (-36), 3) := by decide +kernel
theorem dX5_when_86 : decode cX5_when 86 = .ok (.aload_n 0, 1) := by decide +kernel
theorem dX5_when_87 : decode cX5_when 87 = .ok (.ldc 186, 2) := by decide +kernel
theorem dX5_when_89 : decode cX5_when 89 = .ok (.invokevirtual 73, 3) := by decide +kernel
theorem dX5_when_92 : decode cX5_when 92 = .ok (.ireturn, 1) := by decide +kernel
theorem dX5_back_0 : decode cX5_back 0 = .ok (.aload_n 0, 1) := by decide +kernel
theorem dX5_back_1 : decode cX5_back 1 = .ok (.getfield 12, 3) := by decide +kernel
theorem dX5_back_4 : decode cX5_back 4 = .ok (.iload_n 1, 1) := by decide +kernel
theorem dX5_back_5 : decode cX5_back 5 = .ok (.invokevirtual 135, 3) := by decide +kernel
theorem dX5_back_8 : decode cX5_back 8 = .ok (.ifCond .ne 10, 3) := by decide +kernel
theorem dX5_back_11 : decode cX5_back 11 = .ok (.aload_n 0, 1) := by decide +kernel
theorem dX5_back_12 : decode cX5_back 12 = .ok (.ldc 72, 2) := by decide +kernel
theorem dX5_back_14 : decode cX5_back 14 = .ok (.invokevirtual 73, 3) := by decide +kernel
theorem dX5_back_17 : decode cX5_back 17 = .ok (.ireturn, 1) := by decide +kernel
theorem dX5_back_18 : decode cX5_back 18 = .ok (.aload_n 0, 1) := by decide +kernel
theorem dX5_back_19 : decode cX5_back 19 = .ok (.getfield 25, 3) := by decide +kernel
theorem dX5_back_22 : decode cX5_back 22 = .ok (.aload_n 0, 1) := by decide +kernel
theorem dX5_back_23 : decode cX5_back 23 = .ok (.getfield 12, 3) := by decide +kernel
theorem dX5_back_26 : decode cX5_back 26 = .ok (.getfield 138, 3) := by decide +kernel
theorem dX5_back_29 : decode cX5_back 29 = .ok (.iload_n 1, 1) := by decide +kernel
theorem dX5_back_30 : decode cX5_back 30 = .ok (.aaload, 1) := by decide +kernel
theorem dX5_back_31 : decode cX5_back 31 = .ok (.invokevirtual 182, 3) := by decide +kernel
theorem dX5_back_34 : decode cX5_back 34 = .ok (.aload_n 0, 1) := by decide +kernel
theorem dX5_back_35 : decode cX5_back 35 = .ok (.getfield 25, 3) := by decide +kernel
theorem dX5_back_38 : decode cX5_back 38 = .ok (.getfield 145, 3) := by decide +kernel
theorem dX5_back_41 : decode cX5_back 41 = .ok (.istore_n 2, 1) := by decide +kernel
theorem dX5_back_42 : decode cX5_back 42 = .ok (.iconst 1, 1) := by decide +kernel
theorem dX5_back_43 : decode cX5_back 43 = .ok (.istore_n 3, 1) := by decide +kernel
theorem dX5_back_44 : decode cX5_back 44 = .ok (.iload_n 3, 1) := by decide +kernel
theorem dX5_back_45 : decode cX5_back 45 = .ok (.sipush 200, 3) := by decide +kernel
theorem dX5_back_48 : decode cX5_back 48 = .ok (.if_icmp .gt 33, 3) := by decide +kernel
theorem dX5_back_51 : decode cX5_back 51 = .ok (.aload_n 0, 1) := by decide +kernel
theorem dX5_back_52 : decode cX5_back 52 = .ok (.getfield 25, 3) := by decide +kernel
theorem dX5_back_55 : decode cX5_back 55 = .ok (.aload_n 0, 1) := by decide +kernel
theorem dX5_back_56 : decode cX5_back 56 = .ok (.getfield 12, 3) := by decide +kernel
theorem dX5_back_59 : decode cX5_back 59 = .ok (.invokevirtual 167, 3) := by decide +kernel
theorem dX5_back_62 : decode cX5_back 62 = .ok (.aload_n 0, 1) := by decide +kernel
theorem dX5_back_63 : decode cX5_back 63 = .ok (.getfield 25, 3) := by decide +kernel
theorem dX5_back_66 : decode cX5_back 66 = .ok (.getfield 145, 3) := by decide +kernel
theorem dX5_back_69 : decode cX5_back 69 = .ok (.iload_n 2, 1) := by decide +kernel
theorem dX5_back_70 : decode cX5_back 70 = .ok (.if_icmp .ne 5, 3) := by decide +kernel
theorem dX5_back_73 : decode cX5_back 73 = .ok (.iload_n 3, 1) := by decide +kernel
theorem dX5_back_74 : decode cX5_back 74 = .ok (.ireturn, 1) := by decide +kernel
theorem dX5_back_75 : decode cX5_back 75 = .ok (.iinc 3 1, 3) := by decide +kernel
theorem dX5_back_78 : decode cX5_back 78 = .ok (.goto (-34), 3) := by decide +kernel
theorem dX5_back_81 : decode cX5_back 81 = .ok (.aload_n 0, 1) := by decide +kernel
theorem dX5_back_82 : decode cX5_back 82 = .ok (.ldc 186, 2) := by decide +kernel
theorem dX5_back_84 : decode cX5_back 84 = .ok (.invokevirtual 73, 3) := by decide +kernel
theorem dX5_back_87 : decode cX5_back 87 = .ok (.ireturn, 1) := by decide +kernel
theorem dX5_meet_0 : decode cX5_meet 0 = .ok (.aload_n 0, 1) := by decide +kernel
theorem dX5_meet_1 : decode cX5_meet 1 = .ok (.getfield 12, 3) := by decide +kernel
theorem dX5_meet_4 : decode cX5_meet 4 = .ok (.iload_n 1, 1) := by decide +kernel
theorem dX5_meet_5 : decode cX5_meet 5 = .ok (.invokevirtual 135, 3) := by decide +kernel
theorem dX5_meet_8 : decode cX5_meet 8 = .ok (.ifCond .eq 19, 3) := by decide +kernel
theorem dX5_meet_11 : decode cX5_meet 11 = .ok (.aload_n 0, 1) := by decide +kernel
theorem dX5_meet_12 : decode cX5_meet 12 = .ok (.getfield 12, 3) := by decide +kernel
theorem dX5_meet_15 : decode cX5_meet 15 = .ok (.iload_n 2, 1) := by decide +kernel
theorem dX5_meet_16 : decode cX5_meet 16 = .ok (.invokevirtual 135, 3) := by decide +kernel
theorem dX5_meet_19 : decode cX5_meet 19 = .ok (.ifCond .eq 8, 3) := by decide +kernel
theorem dX5_meet_22 : decode cX5_meet 22 = .ok (.iload_n 1, 1) := by decide +kernel
theorem dX5_meet_23 : decode cX5_meet 23 = .ok (.iload_n 2, 1) := by decide +kernel
theorem dX5_meet_24 : decode cX5_meet 24 = .ok (.if_icmp .ne 10, 3) := by decide +kernel
theorem dX5_meet_27 : decode cX5_meet 27 = .ok (.aload_n 0, 1) := by decide +kernel
theorem dX5_meet_28 : decode cX5_meet 28 = .ok (.ldc 72, 2) := by decide +kernel
theorem dX5_meet_30 : decode cX5_meet 30 = .ok (.invokevirtual 73, 3) := by decide +kernel
theorem dX5_meet_33 : decode cX5_meet 33 = .ok (.ireturn, 1) := by decide +kernel
theorem dX5_meet_34 : decode cX5_meet 34 = .ok (.aload_n 0, 1) := by decide +kernel
theorem dX5_meet_35 : decode cX5_meet 35 = .ok (.getfield 25, 3) := by decide +kernel
theorem dX5_meet_38 : decode cX5_meet 38 = .ok (.aload_n 0, 1) := by decide +kernel
theorem dX5_meet_39 : decode cX5_meet 39 = .ok (.getfield 12, 3) := by decide +kernel
theorem dX5_meet_42 : decode cX5_meet 42 = .ok (.getfield 138, 3) := by decide +kernel
theorem dX5_meet_45 : decode cX5_meet 45 = .ok (.iload_n 1, 1) := by decide +kernel
theorem dX5_meet_46 : decode cX5_meet 46 = .ok (.aaload, 1) := by decide +kernel
theorem dX5_meet_47 : decode cX5_meet 47 = .ok (.invokevirtual 182, 3) := by decide +kernel
theorem dX5_meet_50 : decode cX5_meet 50 = .ok (.aload_n 0, 1) := by decide +kernel
theorem dX5_meet_51 : decode cX5_meet 51 = .ok (.getfield 29, 3) := by decide +kernel
theorem dX5_meet_54 : decode cX5_meet 54 = .ok (.aload_n 0, 1) := by decide +kernel
theorem dX5_meet_55 : decode cX5_meet 55 = .ok (.getfield 12, 3) := by decide +kernel
theorem dX5_meet_58 : decode cX5_meet 58 = .ok (.getfield 138, 3) := by decide +kernel
theorem dX5_meet_61 : decode cX5_meet 61 = .ok (.iload_n 2, 1) := by decide +kernel
theorem dX5_meet_62 : decode cX5_meet 62 = .ok (.aaload, 1) := by decide +kernel
theorem dX5_meet_63 : decode cX5_meet 63 = .ok (.invokevirtual 182, 3) := by decide +kernel
theorem dX5_meet_66 : decode cX5_meet 66 = .ok (.iconst 0, 1) := by decide +kernel
theorem dX5_meet_67 : decode cX5_meet 67 = .ok (.istore_n 3, 1) := by decide +kernel
theorem dX5_meet_68 : decode cX5_meet 68 = .ok (.iload_n 3, 1) := by decide +kernel
theorem dX5_meet_69 : decode cX5_meet 69 = .ok (.bipush 100, 2) := by decide +kernel
theorem dX5_meet_71 : decode cX5_meet 71 = .ok (.if_icmp .gt 56, 3) := by decide +kernel
theorem dX5_meet_74 : decode cX5_meet 74 = .ok (.aload_n 0, 1) := by decide +kernel
theorem dX5_meet_75 : decode cX5_meet 75 = .ok (.getfield 25, 3) := by decide +kernel
theorem dX5_meet_78 : decode cX5_meet 78 = .ok (.getfield 145, 3) := by decide +kernel
theorem dX5_meet_81 : decode cX5_meet 81 = .ok (.invokestatic 148, 3) := by decide +kernel
theorem dX5_meet_84 : decode cX5_meet 84 = .ok (.aload_n 0, 1) := by decide +kernel
theorem dX5_meet_85 : decode cX5_meet 85 = .ok (.getfield 29, 3) := by decide +kernel
theorem dX5_meet_88 : decode cX5_meet 88 = .ok (.getfield 145, 3) := by decide +kernel
theorem dX5_meet_91 : decode cX5_meet 91 = .ok (.invokestatic 148, 3) := by decide +kernel
theorem dX5_meet_94 : decode cX5_meet 94 = .ok (.if_icmp .ne 5, 3) := by decide +kernel
theorem dX5_meet_97 : decode cX5_meet 97 = .ok (.iload_n 3, 1) := by decide +kernel
theorem dX5_meet_98 : decode cX5_meet 98 = .ok (.ireturn, 1) := by decide +kernel
theorem dX5_meet_99 : decode cX5_meet 99 = .ok (.aload_n 0, 1) := by decide +kernel
theorem dX5_meet_100 : decode cX5_meet 100 = .ok (.getfield 25, 3) := by decide +kernel
theorem dX5_meet_103 : decode cX5_meet 103 = .ok (.aload_n 0, 1) := by decide +kernel
theorem dX5_meet_104 : decode cX5_meet 104 = .ok (.getfield 12, 3) := by decide +kernel
theorem dX5_meet_107 : decode cX5_meet 107 = .ok (.invokevirtual 167, 3) := by decide +kernel
theorem dX5_meet_110 : decode cX5_meet 110 = .ok (.aload_n 0, 1) := by decide +kernel
theorem dX5_meet_111 : decode cX5_meet 111 = .ok (.getfield 29, 3) := by decide +kernel
theorem dX5_meet_114 : decode cX5_meet 114 = .ok (.aload_n 0, 1) := by decide +kernel
theorem dX5_meet_115 : decode cX5_meet 115 = .ok (.getfield 12, 3) := by decide +kernel
theorem dX5_meet_118 : decode cX5_meet 118 = .ok (.invokevirtual 167, 3) := by decide +kernel
theorem dX5_meet_121 : decode cX5_meet 121 = .ok (.iinc 3 1, 3) := by decide +kernel
theorem dX5_meet_124 : decode cX5_meet 124 = .ok (.goto (-56), 3) := by decide +kernel
theorem dX5_meet_127 : decode cX5_meet 127 = .ok (.aload_n 0, 1) := by decide +kernel
theorem dX5_meet_128 : decode cX5_meet 128 = .ok (.ldc 186, 2) := by decide +kernel
theorem dX5_meet_130 : decode cX5_meet 130 = .ok (.invokevirtual 73, 3) := by decide +kernel
theorem dX5_meet_133 : decode cX5_meet 133 = .ok (.ireturn, 1) := by decide +kernel
theorem dX5_spares_0 : decode cX5_spares 0 = .ok (.iload_n 1, 1) := by decide +kernel
theorem dX5_spares_1 : decode cX5_spares 1 = .ok (.invokestatic 179, 3) := by decide +kernel
theorem dX5_spares_4 : decode cX5_spares 4 = .ok (.ifCond .ne 10, 3) := by decide +kernel
theorem dX5_spares_7 : decode cX5_spares 7 = .ok (.aload_n 0, 1) := by decide +kernel
theorem dX5_spares_8 : decode cX5_spares 8 = .ok (.ldc 72, 2) := by decide +kernel
theorem dX5_spares_10 : decode cX5_spares 10 = .ok (.invokevirtual 73, 3) := by decide +kernel
theorem dX5_spares_13 : decode cX5_spares 13 = .ok (.ireturn, 1) := by decide +kernel
theorem dX5_spares_14 : decode cX5_spares 14 = .ok (.iconst (-1), 1) := by decide +kernel
theorem dX5_spares_15 : decode cX5_spares 15 = .ok (.istore_n 2, 1) := by decide +kernel
theorem dX5_spares_16 : decode cX5_spares 16 = .ok (.iconst 0, 1) := by decide +kernel
theorem dX5_spares_17 : decode cX5_spares 17 = .ok (.istore_n 3, 1) := by decide +kernel
theorem dX5_spares_18 : decode cX5_spares 18 = .ok (.iconst 0, 1) := by decide +kernel
theorem dX5_spares_19 : decode cX5_spares 19 = .ok (.istore 4, 2) := by decide +kernel
theorem dX5_spares_21 : decode cX5_spares 21 = .ok (.iload 4, 2) := by decide +kernel
theorem dX5_spares_23 : decode cX5_spares 23 = .ok (.aload_n 0, 1) := by decide +kernel
theorem dX5_spares_24 : decode cX5_spares 24 = .ok (.getfield 12, 3) := by decide +kernel
theorem dX5_spares_27 : decode cX5_spares 27 = .ok (.getfield 129, 3) := by decide +kernel
theorem dX5_spares_30 : decode cX5_spares 30 = .ok (.if_icmp .ge 65, 3) := by decide +kernel
theorem dX5_spares_33 : decode cX5_spares 33 = .ok (.aload_n 0, 1) := by decide +kernel
theorem dX5_spares_34 : decode cX5_spares 34 = .ok (.getfield 25, 3) := by decide +kernel
theorem dX5_spares_37 : decode cX5_spares 37 = .ok (.aload_n 0, 1) := by decide +kernel
theorem dX5_spares_38 : decode cX5_spares 38 = .ok (.getfield 12, 3) := by decide +kernel
theorem dX5_spares_41 : decode cX5_spares 41 = .ok (.getfield 138, 3) := by decide +kernel
theorem dX5_spares_44 : decode cX5_spares 44 = .ok (.iload 4, 2) := by decide +kernel
theorem dX5_spares_46 : decode cX5_spares 46 = .ok (.aaload, 1) := by decide +kernel
theorem dX5_spares_47 : decode cX5_spares 47 = .ok (.invokevirtual 182, 3) := by decide +kernel
theorem dX5_spares_50 : decode cX5_spares 50 = .ok (.aload_n 0, 1) := by decide +kernel
theorem dX5_spares_51 : decode cX5_spares 51 = .ok (.getfield 25, 3) := by decide +kernel
theorem dX5_spares_54 : decode cX5_spares 54 = .ok (.aload_n 0, 1) := by decide +kernel
theorem dX5_spares_55 : decode cX5_spares 55 = .ok (.getfield 12, 3) := by decide +kernel
theorem dX5_spares_58 : decode cX5_spares 58 = .ok (.iload_n 1, 1) := by decide +kernel
theorem dX5_spares_59 : decode cX5_spares 59 = .ok (.invokevirtual 171, 3) := by decide +kernel
theorem dX5_spares_62 : decode cX5_spares 62 = .ok (.iload_n 2, 1) := by decide +kernel
theorem dX5_spares_63 : decode cX5_spares 63 = .ok (.iconst (-1), 1) := by decide +kernel
theorem dX5_spares_64 : decode cX5_spares 64 = .ok (.if_icmp .eq 14, 3) := by decide +kernel
theorem dX5_spares_67 : decode cX5_spares 67 = .ok (.aload_n 0, 1) := by decide +kernel
theorem dX5_spares_68 : decode cX5_spares 68 = .ok (.getfield 25, 3) := by decide +kernel
theorem dX5_spares_71 : decode cX5_spares 71 = .ok (.getfield 154, 3) := by decide +kernel
theorem dX5_spares_74 : decode cX5_spares 74 = .ok (.iload_n 3, 1) := by decide +kernel
theorem dX5_spares_75 : decode cX5_spares 75 = .ok (.if_icmp .ge 14, 3) := by decide +kernel
theorem dX5_spares_78 : decode cX5_spares 78 = .ok (.iload 4, 2) := by decide +kernel
theorem dX5_spares_80 : decode cX5_spares 80 = .ok (.istore_n 2, 1) := by decide +kernel
theorem dX5_spares_81 : decode cX5_spares 81 = .ok (.aload_n 0, 1) := by decide +kernel
theorem dX5_spares_82 : decode cX5_spares 82 = .ok (.getfield 25, 3) := by decide +kernel
theorem dX5_spares_85 : decode cX5_spares 85 = .ok (.getfield 154, 3) := by decide +kernel
theorem dX5_spares_88 : decode cX5_spares 88 = .ok (.istore_n 3, 1) := by decide +kernel
theorem dX5_spares_89 : decode cX5_spares 89 = .ok (.iinc 4 1, 3) := by decide +kernel
theorem dX5_spares_92 : decode cX5_spares 92 = .ok (.goto (-71), 3) := by decide +kernel
theorem dX5_spares_95 : decode cX5_spares 95 = .ok (.aload_n 0, 1) := by decide +kernel
theorem dX5_spares_96 : decode cX5_spares 96 = .ok (.iload_n 2, 1) := by decide +kernel
theorem dX5_spares_97 : decode cX5_spares 97 = .ok (.invokevirtual 123, 3) := by decide +kernel
theorem dX5_spares_100 : decode cX5_spares 100 = .ok (.ireturn, 1) := by decide +kernel
theorem dX5_closes_0 : decode cX5_closes 0 = .ok (.aload_n 0, 1) := by decide +kernel
theorem dX5_closes_1 : decode cX5_closes 1 = .ok (.getfield 12, 3) := by decide +kernel
theorem dX5_closes_4 : decode cX5_closes 4 = .ok (.iload_n 1, 1) := by decide +kernel
theorem dX5_closes_5 : decode cX5_closes 5 = .ok (.iload_n 2, 1) := by decide +kernel
theorem dX5_closes_6 : decode cX5_closes 6 = .ok (.invokevirtual 101, 3) := by decide +kernel
theorem dX5_closes_9 : decode cX5_closes 9 = .ok (.ifCond .ne 10, 3) := by decide +kernel
theorem dX5_closes_12 : decode cX5_closes 12 = .ok (.aload_n 0, 1) := by decide +kernel
theorem dX5_closes_13 : decode cX5_closes 13 = .ok (.ldc 72, 2) := by decide +kernel
theorem dX5_closes_15 : decode cX5_closes 15 = .ok (.invokevirtual 73, 3) := by decide +kernel
theorem dX5_closes_18 : decode cX5_closes 18 = .ok (.ireturn, 1) := by decide +kernel
theorem dX5_closes_19 : decode cX5_closes 19 = .ok (.iload_n 1, 1) := by decide +kernel
theorem dX5_closes_20 : decode cX5_closes 20 = .ok (.iload_n 2, 1) := by decide +kernel
theorem dX5_closes_21 : decode cX5_closes 21 = .ok (.invokestatic 105, 3) := by decide +kernel
theorem dX5_closes_24 : decode cX5_closes 24 = .ok (.istore_n 3, 1) := by decide +kernel
theorem dX5_closes_25 : decode cX5_closes 25 = .ok (.iload_n 3, 1) := by decide +kernel
theorem dX5_closes_26 : decode cX5_closes 26 = .ok (.istore 4, 2) := by decide +kernel
theorem dX5_closes_28 : decode cX5_closes 28 = .ok (.iconst 1, 1) := by decide +kernel
theorem dX5_closes_29 : decode cX5_closes 29 = .ok (.istore 5, 2) := by decide +kernel
theorem dX5_closes_31 : decode cX5_closes 31 = .ok (.iload 5, 2) := by decide +kernel
theorem dX5_closes_33 : decode cX5_closes 33 = .ok (.bipush 64, 2) := by decide +kernel
theorem dX5_closes_35 : decode cX5_closes 35 = .ok (.if_icmp .gt 29, 3) := by decide +kernel
theorem dX5_closes_38 : decode cX5_closes 38 = .ok (.aload_n 0, 1) := by decide +kernel
theorem dX5_closes_39 : decode cX5_closes 39 = .ok (.getfield 12, 3) := by decide +kernel
theorem dX5_closes_42 : decode cX5_closes 42 = .ok (.iload 4, 2) := by decide +kernel
theorem dX5_closes_44 : decode cX5_closes 44 = .ok (.invokevirtual 187, 3) := by decide +kernel
theorem dX5_closes_47 : decode cX5_closes 47 = .ok (.istore 4, 2) := by decide +kernel
theorem dX5_closes_49 : decode cX5_closes 49 = .ok (.iload 4, 2) := by decide +kernel
theorem dX5_closes_51 : decode cX5_closes 51 = .ok (.iload_n 3, 1) := by decide +kernel
theorem dX5_closes_52 : decode cX5_closes 52 = .ok (.if_icmp .ne 6, 3) := by decide +kernel
theorem dX5_closes_55 : decode cX5_closes 55 = .ok (.iload 5, 2) := by decide +kernel
theorem dX5_closes_57 : decode cX5_closes 57 = .ok (.ireturn, 1) := by decide +kernel
theorem dX5_closes_58 : decode cX5_closes 58 = .ok (.iinc 5 1, 3) := by decide +kernel
theorem dX5_closes_61 : decode cX5_closes 61 = .ok (.goto (-30), 3) := by decide +kernel
theorem dX5_closes_64 : decode cX5_closes 64 = .ok (.aload_n 0, 1) := by decide +kernel
theorem dX5_closes_65 : decode cX5_closes 65 = .ok (.ldc 186, 2) := by decide +kernel
theorem dX5_closes_67 : decode cX5_closes 67 = .ok (.invokevirtual 73, 3) := by decide +kernel
theorem dX5_closes_70 : decode cX5_closes 70 = .ok (.ireturn, 1) := by decide +kernel
theorem dX5_bumps_0 : decode cX5_bumps 0 = .ok (.aload_n 0, 1) := by decide +kernel
theorem dX5_bumps_1 : decode cX5_bumps 1 = .ok (.getfield 12, 3) := by decide +kernel
theorem dX5_bumps_4 : decode cX5_bumps 4 = .ok (.iload_n 1, 1) := by decide +kernel
theorem dX5_bumps_5 : decode cX5_bumps 5 = .ok (.iload_n 2, 1) := by decide +kernel
theorem dX5_bumps_6 : decode cX5_bumps 6 = .ok (.invokevirtual 101, 3) := by decide +kernel
theorem dX5_bumps_9 : decode cX5_bumps 9 = .ok (.ifCond .ne 10, 3) := by decide +kernel
theorem dX5_bumps_12 : decode cX5_bumps 12 = .ok (.aload_n 0, 1) := by decide +kernel
theorem dX5_bumps_13 : decode cX5_bumps 13 = .ok (.ldc 72, 2) := by decide +kernel
theorem dX5_bumps_15 : decode cX5_bumps 15 = .ok (.invokevirtual 73, 3) := by decide +kernel
theorem dX5_bumps_18 : decode cX5_bumps 18 = .ok (.ireturn, 1) := by decide +kernel
theorem dX5_bumps_19 : decode cX5_bumps 19 = .ok (.iload_n 1, 1) := by decide +kernel
theorem dX5_bumps_20 : decode cX5_bumps 20 = .ok (.iload_n 2, 1) := by decide +kernel
theorem dX5_bumps_21 : decode cX5_bumps 21 = .ok (.invokestatic 105, 3) := by decide +kernel
theorem dX5_bumps_24 : decode cX5_bumps 24 = .ok (.istore_n 3, 1) := by decide +kernel
theorem dX5_bumps_25 : decode cX5_bumps 25 = .ok (.iconst 0, 1) := by decide +kernel
theorem dX5_bumps_26 : decode cX5_bumps 26 = .ok (.istore 4, 2) := by decide +kernel
theorem dX5_bumps_28 : decode cX5_bumps 28 = .ok (.iload 4, 2) := by decide +kernel
theorem dX5_bumps_30 : decode cX5_bumps 30 = .ok (.bipush 64, 2) := by decide +kernel
theorem dX5_bumps_32 : decode cX5_bumps 32 = .ok (.if_icmp .gt 26, 3) := by decide +kernel
theorem dX5_bumps_35 : decode cX5_bumps 35 = .ok (.aload_n 0, 1) := by decide +kernel
theorem dX5_bumps_36 : decode cX5_bumps 36 = .ok (.getfield 12, 3) := by decide +kernel
theorem dX5_bumps_39 : decode cX5_bumps 39 = .ok (.iload_n 3, 1) := by decide +kernel
theorem dX5_bumps_40 : decode cX5_bumps 40 = .ok (.invokevirtual 187, 3) := by decide +kernel
theorem dX5_bumps_43 : decode cX5_bumps 43 = .ok (.istore_n 3, 1) := by decide +kernel
theorem dX5_bumps_44 : decode cX5_bumps 44 = .ok (.iload_n 3, 1) := by decide +kernel
theorem dX5_bumps_45 : decode cX5_bumps 45 = .ok (.iconst (-1), 1) := by decide +kernel
theorem dX5_bumps_46 : decode cX5_bumps 46 = .ok (.if_icmp .ne 6, 3) := by decide +kernel
theorem dX5_bumps_49 : decode cX5_bumps 49 = .ok (.iload 4, 2) := by decide +kernel
theorem dX5_bumps_51 : decode cX5_bumps 51 = .ok (.ireturn, 1) := by decide +kernel
theorem dX5_bumps_52 : decode cX5_bumps 52 = .ok (.iinc 4 1, 3) := by decide +kernel
theorem dX5_bumps_55 : decode cX5_bumps 55 = .ok (.goto (-27), 3) := by decide +kernel
theorem dX5_bumps_58 : decode cX5_bumps 58 = .ok (.aload_n 0, 1) := by decide +kernel
theorem dX5_bumps_59 : decode cX5_bumps 59 = .ok (.ldc 186, 2) := by decide +kernel
theorem dX5_bumps_61 : decode cX5_bumps 61 = .ok (.invokevirtual 73, 3) := by decide +kernel
theorem dX5_bumps_64 : decode cX5_bumps 64 = .ok (.ireturn, 1) := by decide +kernel
theorem dX5_square_0 : decode cX5_square 0 = .ok (.aload_n 0, 1) := by decide +kernel
theorem dX5_square_1 : decode cX5_square 1 = .ok (.getfield 12, 3) := by decide +kernel
theorem dX5_square_4 : decode cX5_square 4 = .ok (.iload_n 1, 1) := by decide +kernel
theorem dX5_square_5 : decode cX5_square 5 = .ok (.iload_n 2, 1) := by decide +kernel
theorem dX5_square_6 : decode cX5_square 6 = .ok (.invokevirtual 101, 3) := by decide +kernel
theorem dX5_square_9 : decode cX5_square 9 = .ok (.ifCond .eq 14, 3) := by decide +kernel
theorem dX5_square_12 : decode cX5_square 12 = .ok (.iload_n 3, 1) := by decide +kernel
theorem dX5_square_13 : decode cX5_square 13 = .ok (.iconst 1, 1) := by decide +kernel
theorem dX5_square_14 : decode cX5_square 14 = .ok (.if_icmp .lt 9, 3) := by decide +kernel
theorem dX5_square_17 : decode cX5_square 17 = .ok (.iload_n 3, 1) := by decide +kernel
theorem dX5_square_18 : decode cX5_square 18 = .ok (.bipush 9, 2) := by decide +kernel
theorem dX5_square_20 : decode cX5_square 20 = .ok (.if_icmp .le 10, 3) := by decide +kernel
theorem dX5_square_23 : decode cX5_square 23 = .ok (.aload_n 0, 1) := by decide +kernel
theorem dX5_square_24 : decode cX5_square 24 = .ok (.ldc 72, 2) := by decide +kernel
theorem dX5_square_26 : decode cX5_square 26 = .ok (.invokevirtual 73, 3) := by decide +kernel
theorem dX5_square_29 : decode cX5_square 29 = .ok (.ireturn, 1) := by decide +kernel
theorem dX5_square_30 : decode cX5_square 30 = .ok (.iload_n 1, 1) := by decide +kernel
theorem dX5_square_31 : decode cX5_square 31 = .ok (.iload_n 2, 1) := by decide +kernel
theorem dX5_square_32 : decode cX5_square 32 = .ok (.invokestatic 105, 3) := by decide +kernel
theorem dX5_square_35 : decode cX5_square 35 = .ok (.istore 4, 2) := by decide +kernel
theorem dX5_square_37 : decode cX5_square 37 = .ok (.iload 4, 2) := by decide +kernel
theorem dX5_square_39 : decode cX5_square 39 = .ok (.istore 5, 2) := by decide +kernel
theorem dX5_square_41 : decode cX5_square 41 = .ok (.iconst 1, 1) := by decide +kernel
theorem dX5_square_42 : decode cX5_square 42 = .ok (.istore 6, 2) := by decide +kernel
theorem dX5_square_44 : decode cX5_square 44 = .ok (.iload 6, 2) := by decide +kernel
theorem dX5_square_46 : decode cX5_square 46 = .ok (.bipush 64, 2) := by decide +kernel
theorem dX5_square_48 : decode cX5_square 48 = .ok (.if_icmp .gt 52, 3) := by decide +kernel
theorem dX5_square_51 : decode cX5_square 51 = .ok (.aload_n 0, 1) := by decide +kernel
theorem dX5_square_52 : decode cX5_square 52 = .ok (.getfield 12, 3) := by decide +kernel
theorem dX5_square_55 : decode cX5_square 55 = .ok (.iload 5, 2) := by decide +kernel
theorem dX5_square_57 : decode cX5_square 57 = .ok (.iload_n 3, 1) := by decide +kernel
theorem dX5_square_58 : decode cX5_square 58 = .ok (.invokevirtual 190, 3) := by decide +kernel
theorem dX5_square_61 : decode cX5_square 61 = .ok (.istore 5, 2) := by decide +kernel
theorem dX5_square_63 : decode cX5_square 63 = .ok (.iload 5, 2) := by decide +kernel
theorem dX5_square_65 : decode cX5_square 65 = .ok (.iconst (-1), 1) := by decide +kernel
theorem dX5_square_66 : decode cX5_square 66 = .ok (.if_icmp .ne 10, 3) := by decide +kernel
theorem dX5_square_69 : decode cX5_square 69 = .ok (.aload_n 0, 1) := by decide +kernel
theorem dX5_square_70 : decode cX5_square 70 = .ok (.ldc 186, 2) := by decide +kernel
theorem dX5_square_72 : decode cX5_square 72 = .ok (.invokevirtual 73, 3) := by decide +kernel
theorem dX5_square_75 : decode cX5_square 75 = .ok (.ireturn, 1) := by decide +kernel
theorem dX5_square_76 : decode cX5_square 76 = .ok (.iload 5, 2) := by decide +kernel
theorem dX5_square_78 : decode cX5_square 78 = .ok (.iconst 1, 1) := by decide +kernel
theorem dX5_square_79 : decode cX5_square 79 = .ok (.invokestatic 193, 3) := by decide +kernel
theorem dX5_square_82 : decode cX5_square 82 = .ok (.istore 5, 2) := by decide +kernel
theorem dX5_square_84 : decode cX5_square 84 = .ok (.iload 5, 2) := by decide +kernel
theorem dX5_square_86 : decode cX5_square 86 = .ok (.iload 4, 2) := by decide +kernel
theorem dX5_square_88 : decode cX5_square 88 = .ok (.if_icmp .ne 6, 3) := by decide +kernel
theorem dX5_square_91 : decode cX5_square 91 = .ok (.iload 6, 2) := by decide +kernel
theorem dX5_square_93 : decode cX5_square 93 = .ok (.ireturn, 1) := by decide +kernel
theorem dX5_square_94 : decode cX5_square 94 = .ok (.iinc 6 1, 3) := by decide +kernel
theorem dX5_square_97 : decode cX5_square 97 = .ok (.goto (-53), 3) := by decide +kernel
theorem dX5_square_100 : decode cX5_square 100 = .ok (.aload_n 0, 1) := by decide +kernel
theorem dX5_square_101 : decode cX5_square 101 = .ok (.ldc 186, 2) := by decide +kernel
theorem dX5_square_103 : decode cX5_square 103 = .ok (.invokevirtual 73, 3) := by decide +kernel
theorem dX5_square_106 : decode cX5_square 106 = .ok (.ireturn, 1) := by decide +kernel
theorem dX5_dine_0 : decode cX5_dine 0 = .ok (.aload_n 0, 1) := by decide +kernel
theorem dX5_dine_1 : decode cX5_dine 1 = .ok (.getfield 12, 3) := by decide +kernel
theorem dX5_dine_4 : decode cX5_dine 4 = .ok (.iload_n 1, 1) := by decide +kernel
theorem dX5_dine_5 : decode cX5_dine 5 = .ok (.iload_n 2, 1) := by decide +kernel
theorem dX5_dine_6 : decode cX5_dine 6 = .ok (.invokevirtual 101, 3) := by decide +kernel
theorem dX5_dine_9 : decode cX5_dine 9 = .ok (.ifCond .eq 16, 3) := by decide +kernel
theorem dX5_dine_12 : decode cX5_dine 12 = .ok (.aload_n 0, 1) := by decide +kernel
theorem dX5_dine_13 : decode cX5_dine 13 = .ok (.getfield 12, 3) := by decide +kernel
theorem dX5_dine_16 : decode cX5_dine 16 = .ok (.iload_n 3, 1) := by decide +kernel
theorem dX5_dine_17 : decode cX5_dine 17 = .ok (.iload 4, 2) := by decide +kernel
theorem dX5_dine_19 : decode cX5_dine 19 = .ok (.invokevirtual 101, 3) := by decide +kernel
theorem dX5_dine_22 : decode cX5_dine 22 = .ok (.ifCond .ne 10, 3) := by decide +kernel
theorem dX5_dine_25 : decode cX5_dine 25 = .ok (.aload_n 0, 1) := by decide +kernel
theorem dX5_dine_26 : decode cX5_dine 26 = .ok (.ldc 72, 2) := by decide +kernel
theorem dX5_dine_28 : decode cX5_dine 28 = .ok (.invokevirtual 73, 3) := by decide +kernel
theorem dX5_dine_31 : decode cX5_dine 31 = .ok (.ireturn, 1) := by decide +kernel
theorem dX5_dine_32 : decode cX5_dine 32 = .ok (.iload_n 1, 1) := by decide +kernel
theorem dX5_dine_33 : decode cX5_dine 33 = .ok (.iload_n 2, 1) := by decide +kernel
theorem dX5_dine_34 : decode cX5_dine 34 = .ok (.invokestatic 105, 3) := by decide +kernel
theorem dX5_dine_37 : decode cX5_dine 37 = .ok (.istore 5, 2) := by decide +kernel
theorem dX5_dine_39 : decode cX5_dine 39 = .ok (.iload_n 3, 1) := by decide +kernel
theorem dX5_dine_40 : decode cX5_dine 40 = .ok (.iload 4, 2) := by decide +kernel
theorem dX5_dine_42 : decode cX5_dine 42 = .ok (.invokestatic 105, 3) := by decide +kernel
theorem dX5_dine_45 : decode cX5_dine 45 = .ok (.istore 6, 2) := by decide +kernel
theorem dX5_dine_47 : decode cX5_dine 47 = .ok (.iconst 0, 1) := by decide +kernel
theorem dX5_dine_48 : decode cX5_dine 48 = .ok (.istore 7, 2) := by decide +kernel
theorem dX5_dine_50 : decode cX5_dine 50 = .ok (.iload 7, 2) := by decide +kernel
theorem dX5_dine_52 : decode cX5_dine 52 = .ok (.bipush 64, 2) := by decide +kernel
theorem dX5_dine_54 : decode cX5_dine 54 = .ok (.if_icmp .gt 66, 3) := by decide +kernel
theorem dX5_dine_57 : decode cX5_dine 57 = .ok (.iload 5, 2) := by decide +kernel
theorem dX5_dine_59 : decode cX5_dine 59 = .ok (.invokestatic 148, 3) := by decide +kernel
theorem dX5_dine_62 : decode cX5_dine 62 = .ok (.iload 6, 2) := by decide +kernel
theorem dX5_dine_64 : decode cX5_dine 64 = .ok (.invokestatic 148, 3) := by decide +kernel
theorem dX5_dine_67 : decode cX5_dine 67 = .ok (.if_icmp .ne 6, 3) := by decide +kernel
theorem dX5_dine_70 : decode cX5_dine 70 = .ok (.iload 7, 2) := by decide +kernel
theorem dX5_dine_72 : decode cX5_dine 72 = .ok (.ireturn, 1) := by decide +kernel
theorem dX5_dine_73 : decode cX5_dine 73 = .ok (.aload_n 0, 1) := by decide +kernel
theorem dX5_dine_74 : decode cX5_dine 74 = .ok (.getfield 12, 3) := by decide +kernel
theorem dX5_dine_77 : decode cX5_dine 77 = .ok (.iload 5, 2) := by decide +kernel
theorem dX5_dine_79 : decode cX5_dine 79 = .ok (.invokevirtual 187, 3) := by decide +kernel
theorem dX5_dine_82 : decode cX5_dine 82 = .ok (.istore 5, 2) := by decide +kernel
theorem dX5_dine_84 : decode cX5_dine 84 = .ok (.aload_n 0, 1) := by decide +kernel
theorem dX5_dine_85 : decode cX5_dine 85 = .ok (.getfield 12, 3) := by decide +kernel
theorem dX5_dine_88 : decode cX5_dine 88 = .ok (.iload 6, 2) := by decide +kernel
theorem dX5_dine_90 : decode cX5_dine 90 = .ok (.invokevirtual 187, 3) := by decide +kernel
theorem dX5_dine_93 : decode cX5_dine 93 = .ok (.istore 6, 2) := by decide +kernel
theorem dX5_dine_95 : decode cX5_dine 95 = .ok (.iload 5, 2) := by decide +kernel
theorem dX5_dine_97 : decode cX5_dine 97 = .ok (.iconst (-1), 1) := by decide +kernel
theorem dX5_dine_98 : decode cX5_dine 98 = .ok (.if_icmp .eq 9, 3) := by decide +kernel
theorem dX5_dine_101 : decode cX5_dine 101 = .ok (.iload 6, 2) := by decide +kernel
theorem dX5_dine_103 : decode cX5_dine 103 = .ok (.iconst (-1), 1) := by decide +kernel
theorem dX5_dine_104 : decode cX5_dine 104 = .ok (.if_icmp .ne 10, 3) := by decide +kernel
theorem dX5_dine_107 : decode cX5_dine 107 = .ok (.aload_n 0, 1) := by decide +kernel
theorem dX5_dine_108 : decode cX5_dine 108 = .ok (.ldc 186, 2) := by decide +kernel
theorem dX5_dine_110 : decode cX5_dine 110 = .ok (.invokevirtual 73, 3) := by decide +kernel
theorem dX5_dine_113 : decode cX5_dine 113 = .ok (.ireturn, 1) := by decide +kernel
theorem dX5_dine_114 : decode cX5_dine 114 = .ok (.iinc 7 1, 3) := by decide +kernel
theorem dX5_dine_117 : decode cX5_dine 117 = .ok (.goto (-67), 3) := by decide +kernel
theorem dX5_dine_120 : decode cX5_dine 120 = .ok (.aload_n 0, 1) := by decide +kernel
theorem dX5_dine_121 : decode cX5_dine 121 = .ok (.ldc 186, 2) := by decide +kernel
theorem dX5_dine_123 : decode cX5_dine 123 = .ok (.invokevirtual 73, 3) := by decide +kernel
theorem dX5_dine_126 : decode cX5_dine 126 = .ok (.ireturn, 1) := by decide +kernel
theorem dX5_sees_0 : decode cX5_sees 0 = .ok (.aload_n 0, 1) := by decide +kernel
theorem dX5_sees_1 : decode cX5_sees 1 = .ok (.getfield 12, 3) := by decide +kernel
theorem dX5_sees_4 : decode cX5_sees 4 = .ok (.iload_n 1, 1) := by decide +kernel
theorem dX5_sees_5 : decode cX5_sees 5 = .ok (.iload_n 2, 1) := by decide +kernel
theorem dX5_sees_6 : decode cX5_sees 6 = .ok (.invokevirtual 101, 3) := by decide +kernel
theorem dX5_sees_9 : decode cX5_sees 9 = .ok (.ifCond .ne 10, 3) := by decide +kernel
theorem dX5_sees_12 : decode cX5_sees 12 = .ok (.aload_n 0, 1) := by decide +kernel
theorem dX5_sees_13 : decode cX5_sees 13 = .ok (.ldc 72, 2) := by decide +kernel
theorem dX5_sees_15 : decode cX5_sees 15 = .ok (.invokevirtual 73, 3) := by decide +kernel
theorem dX5_sees_18 : decode cX5_sees 18 = .ok (.ireturn, 1) := by decide +kernel
theorem dX5_sees_19 : decode cX5_sees 19 = .ok (.aload_n 0, 1) := by decide +kernel
theorem dX5_sees_20 : decode cX5_sees 20 = .ok (.getfield 12, 3) := by decide +kernel
theorem dX5_sees_23 : decode cX5_sees 23 = .ok (.iload_n 1, 1) := by decide +kernel
theorem dX5_sees_24 : decode cX5_sees 24 = .ok (.iload_n 2, 1) := by decide +kernel
theorem dX5_sees_25 : decode cX5_sees 25 = .ok (.invokestatic 105, 3) := by decide +kernel
theorem dX5_sees_28 : decode cX5_sees 28 = .ok (.invokevirtual 196, 3) := by decide +kernel
theorem dX5_sees_31 : decode cX5_sees 31 = .ok (.ireturn, 1) := by decide +kernel
theorem dX5_twice_0 : decode cX5_twice 0 = .ok (.aload_n 0, 1) := by decide +kernel
theorem dX5_twice_1 : decode cX5_twice 1 = .ok (.getfield 12, 3) := by decide +kernel
theorem dX5_twice_4 : decode cX5_twice 4 = .ok (.iload_n 1, 1) := by decide +kernel
theorem dX5_twice_5 : decode cX5_twice 5 = .ok (.invokevirtual 85, 3) := by decide +kernel
theorem dX5_twice_8 : decode cX5_twice 8 = .ok (.ifCond .ne 10, 3) := by decide +kernel
theorem dX5_twice_11 : decode cX5_twice 11 = .ok (.aload_n 0, 1) := by decide +kernel
theorem dX5_twice_12 : decode cX5_twice 12 = .ok (.ldc 72, 2) := by decide +kernel
theorem dX5_twice_14 : decode cX5_twice 14 = .ok (.invokevirtual 73, 3) := by decide +kernel
theorem dX5_twice_17 : decode cX5_twice 17 = .ok (.ireturn, 1) := by decide +kernel
theorem dX5_twice_18 : decode cX5_twice 18 = .ok (.iconst 0, 1) := by decide +kernel
theorem dX5_twice_19 : decode cX5_twice 19 = .ok (.istore_n 2, 1) := by decide +kernel
theorem dX5_twice_20 : decode cX5_twice 20 = .ok (.iconst 0, 1) := by decide +kernel
theorem dX5_twice_21 : decode cX5_twice 21 = .ok (.istore_n 3, 1) := by decide +kernel
theorem dX5_twice_22 : decode cX5_twice 22 = .ok (.iconst 0, 1) := by decide +kernel
theorem dX5_twice_23 : decode cX5_twice 23 = .ok (.istore 4, 2) := by decide +kernel
theorem dX5_twice_25 : decode cX5_twice 25 = .ok (.iload 4, 2) := by decide +kernel
theorem dX5_twice_27 : decode cX5_twice 27 = .ok (.iconst 4, 1) := by decide +kernel
theorem dX5_twice_28 : decode cX5_twice 28 = .ok (.if_icmp .ge 36, 3) := by decide +kernel
theorem dX5_twice_31 : decode cX5_twice 31 = .ok (.aload_n 0, 1) := by decide +kernel
theorem dX5_twice_32 : decode cX5_twice 32 = .ok (.getfield 12, 3) := by decide +kernel
theorem dX5_twice_35 : decode cX5_twice 35 = .ok (.iload_n 1, 1) := by decide +kernel
theorem dX5_twice_36 : decode cX5_twice 36 = .ok (.iload 4, 2) := by decide +kernel
theorem dX5_twice_38 : decode cX5_twice 38 = .ok (.invokestatic 105, 3) := by decide +kernel
theorem dX5_twice_41 : decode cX5_twice 41 = .ok (.invokevirtual 196, 3) := by decide +kernel
theorem dX5_twice_44 : decode cX5_twice 44 = .ok (.istore 5, 2) := by decide +kernel
theorem dX5_twice_46 : decode cX5_twice 46 = .ok (.iload_n 3, 1) := by decide +kernel
theorem dX5_twice_47 : decode cX5_twice 47 = .ok (.iload_n 2, 1) := by decide +kernel
theorem dX5_twice_48 : decode cX5_twice 48 = .ok (.iload 5, 2) := by decide +kernel
theorem dX5_twice_50 : decode cX5_twice 50 = .ok (.iand, 1) := by decide +kernel
theorem dX5_twice_51 : decode cX5_twice 51 = .ok (.ior, 1) := by decide +kernel
theorem dX5_twice_52 : decode cX5_twice 52 = .ok (.istore_n 3, 1) := by decide +kernel
theorem dX5_twice_53 : decode cX5_twice 53 = .ok (.iload_n 2, 1) := by decide +kernel
theorem dX5_twice_54 : decode cX5_twice 54 = .ok (.iload 5, 2) := by decide +kernel
theorem dX5_twice_56 : decode cX5_twice 56 = .ok (.ior, 1) := by decide +kernel
theorem dX5_twice_57 : decode cX5_twice 57 = .ok (.istore_n 2, 1) := by decide +kernel
theorem dX5_twice_58 : decode cX5_twice 58 = .ok (.iinc 4 1, 3) := by decide +kernel
theorem dX5_twice_61 : decode cX5_twice 61 = .ok (.goto (-36), 3) := by decide +kernel
theorem dX5_twice_64 : decode cX5_twice 64 = .ok (.iload_n 3, 1) := by decide +kernel
theorem dX5_twice_65 : decode cX5_twice 65 = .ok (.iconst 1, 1) := by decide +kernel
theorem dX5_twice_66 : decode cX5_twice 66 = .ok (.iload_n 1, 1) := by decide +kernel
theorem dX5_twice_67 : decode cX5_twice 67 = .ok (.ishl, 1) := by decide +kernel
theorem dX5_twice_68 : decode cX5_twice 68 = .ok (.iconst (-1), 1) := by decide +kernel
theorem dX5_twice_69 : decode cX5_twice 69 = .ok (.ixor, 1) := by decide +kernel
theorem dX5_twice_70 : decode cX5_twice 70 = .ok (.iand, 1) := by decide +kernel
theorem dX5_twice_71 : decode cX5_twice 71 = .ok (.invokestatic 199, 3) := by decide +kernel
theorem dX5_twice_74 : decode cX5_twice 74 = .ok (.ireturn, 1) := by decide +kernel
theorem dX5_about_0 : decode cX5_about 0 = .ok (.aload_n 0, 1) := by decide +kernel
theorem dX5_about_1 : decode cX5_about 1 = .ok (.getfield 12, 3) := by decide +kernel
theorem dX5_about_4 : decode cX5_about 4 = .ok (.iload_n 1, 1) := by decide +kernel
theorem dX5_about_5 : decode cX5_about 5 = .ok (.iload_n 2, 1) := by decide +kernel
theorem dX5_about_6 : decode cX5_about 6 = .ok (.invokevirtual 101, 3) := by decide +kernel
theorem dX5_about_9 : decode cX5_about 9 = .ok (.ifCond .ne 10, 3) := by decide +kernel
theorem dX5_about_12 : decode cX5_about 12 = .ok (.aload_n 0, 1) := by decide +kernel
theorem dX5_about_13 : decode cX5_about 13 = .ok (.ldc 72, 2) := by decide +kernel
theorem dX5_about_15 : decode cX5_about 15 = .ok (.invokevirtual 73, 3) := by decide +kernel
theorem dX5_about_18 : decode cX5_about 18 = .ok (.ireturn, 1) := by decide +kernel
theorem dX5_about_19 : decode cX5_about 19 = .ok (.aload_n 0, 1) := by decide +kernel
theorem dX5_about_20 : decode cX5_about 20 = .ok (.getfield 12, 3) := by decide +kernel
theorem dX5_about_23 : decode cX5_about 23 = .ok (.iload_n 1, 1) := by decide +kernel
theorem dX5_about_24 : decode cX5_about 24 = .ok (.iload_n 2, 1) := by decide +kernel
theorem dX5_about_25 : decode cX5_about 25 = .ok (.invokestatic 105, 3) := by decide +kernel
theorem dX5_about_28 : decode cX5_about 28 = .ok (.invokevirtual 204, 3) := by decide +kernel
theorem dX5_about_31 : decode cX5_about 31 = .ok (.lstore_n 3, 1) := by decide +kernel
theorem dX5_about_32 : decode cX5_about 32 = .ok (.lload_n 3, 1) := by decide +kernel
theorem dX5_about_33 : decode cX5_about 33 = .ok (.lconst 0, 1) := by decide +kernel
theorem dX5_about_34 : decode cX5_about 34 = .ok (.lcmp, 1) := by decide +kernel
theorem dX5_about_35 : decode cX5_about 35 = .ok (.ifCond .ne 12, 3) := by decide +kernel
theorem dX5_about_38 : decode cX5_about 38 = .ok (.aload_n 0, 1) := by decide +kernel
theorem dX5_about_39 : decode cX5_about 39 = .ok (.ldc 186, 2) := by decide +kernel
theorem dX5_about_41 : decode cX5_about 41 = .ok (.invokevirtual 73, 3) := by decide +kernel
theorem dX5_about_44 : decode cX5_about 44 = .ok (.goto 7, 3) := by decide +kernel
theorem dX5_about_47 : decode cX5_about 47 = .ok (.lload_n 3, 1) := by decide +kernel
theorem dX5_about_48 : decode cX5_about 48 = .ok (.invokestatic 208, 3) := by decide +kernel
theorem dX5_about_51 : decode cX5_about 51 = .ok (.ireturn, 1) := by decide +kernel
theorem dX5_corners_0 : decode cX5_corners 0 = .ok (.aload_n 0, 1) := by decide +kernel
theorem dX5_corners_1 : decode cX5_corners 1 = .ok (.getfield 12, 3) := by decide +kernel
theorem dX5_corners_4 : decode cX5_corners 4 = .ok (.iconst 1, 1) := by decide +kernel
theorem dX5_corners_5 : decode cX5_corners 5 = .ok (.iconst 0, 1) := by decide +kernel
theorem dX5_corners_6 : decode cX5_corners 6 = .ok (.invokevirtual 213, 3) := by decide +kernel
theorem dX5_corners_9 : decode cX5_corners 9 = .ok (.ireturn, 1) := by decide +kernel
theorem dX5_excess_0 : decode cX5_excess 0 = .ok (.aload_n 0, 1) := by decide +kernel
theorem dX5_excess_1 : decode cX5_excess 1 = .ok (.getfield 12, 3) := by decide +kernel
theorem dX5_excess_4 : decode cX5_excess 4 = .ok (.iconst 4, 1) := by decide +kernel
theorem dX5_excess_5 : decode cX5_excess 5 = .ok (.iconst 1, 1) := by decide +kernel
theorem dX5_excess_6 : decode cX5_excess 6 = .ok (.invokevirtual 213, 3) := by decide +kernel
theorem dX5_excess_9 : decode cX5_excess 9 = .ok (.ireturn, 1) := by decide +kernel
theorem dX5_bent_0 : decode cX5_bent 0 = .ok (.iconst 0, 1) := by decide +kernel
theorem dX5_bent_1 : decode cX5_bent 1 = .ok (.istore_n 1, 1) := by decide +kernel
theorem dX5_bent_2 : decode cX5_bent 2 = .ok (.iconst 0, 1) := by decide +kernel
theorem dX5_bent_3 : decode cX5_bent 3 = .ok (.istore_n 2, 1) := by decide +kernel
theorem dX5_bent_4 : decode cX5_bent 4 = .ok (.iload_n 2, 1) := by decide +kernel
theorem dX5_bent_5 : decode cX5_bent 5 = .ok (.aload_n 0, 1) := by decide +kernel
theorem dX5_bent_6 : decode cX5_bent 6 = .ok (.getfield 12, 3) := by decide +kernel
theorem dX5_bent_9 : decode cX5_bent 9 = .ok (.invokevirtual 216, 3) := by decide +kernel
theorem dX5_bent_12 : decode cX5_bent 12 = .ok (.if_icmp .ge 41, 3) := by decide +kernel
theorem dX5_bent_15 : decode cX5_bent 15 = .ok (.aload_n 0, 1) := by decide +kernel
theorem dX5_bent_16 : decode cX5_bent 16 = .ok (.getfield 12, 3) := by decide +kernel
theorem dX5_bent_19 : decode cX5_bent 19 = .ok (.iload_n 2, 1) := by decide +kernel
theorem dX5_bent_20 : decode cX5_bent 20 = .ok (.invokevirtual 204, 3) := by decide +kernel
theorem dX5_bent_23 : decode cX5_bent 23 = .ok (.lstore_n 3, 1) := by decide +kernel
theorem dX5_bent_24 : decode cX5_bent 24 = .ok (.lload_n 3, 1) := by decide +kernel
theorem dX5_bent_25 : decode cX5_bent 25 = .ok (.lconst 0, 1) := by decide +kernel
theorem dX5_bent_26 : decode cX5_bent 26 = .ok (.lcmp, 1) := by decide +kernel
theorem dX5_bent_27 : decode cX5_bent 27 = .ok (.ifCond .eq 20, 3) := by decide +kernel
theorem dX5_bent_30 : decode cX5_bent 30 = .ok (.lload_n 3, 1) := by decide +kernel
theorem dX5_bent_31 : decode cX5_bent 31 = .ok (.invokestatic 208, 3) := by decide +kernel
theorem dX5_bent_34 : decode cX5_bent 34 = .ok (.iconst 4, 1) := by decide +kernel
theorem dX5_bent_35 : decode cX5_bent 35 = .ok (.if_icmp .eq 12, 3) := by decide +kernel
theorem dX5_bent_38 : decode cX5_bent 38 = .ok (.iload_n 1, 1) := by decide +kernel
theorem dX5_bent_39 : decode cX5_bent 39 = .ok (.iconst 1, 1) := by decide +kernel
theorem dX5_bent_40 : decode cX5_bent 40 = .ok (.iload_n 2, 1) := by decide +kernel
theorem dX5_bent_41 : decode cX5_bent 41 = .ok (.invokestatic 148, 3) := by decide +kernel
theorem dX5_bent_44 : decode cX5_bent 44 = .ok (.ishl, 1) := by decide +kernel
theorem dX5_bent_45 : decode cX5_bent 45 = .ok (.ior, 1) := by decide +kernel
theorem dX5_bent_46 : decode cX5_bent 46 = .ok (.istore_n 1, 1) := by decide +kernel
theorem dX5_bent_47 : decode cX5_bent 47 = .ok (.iinc 2 1, 3) := by decide +kernel
theorem dX5_bent_50 : decode cX5_bent 50 = .ok (.goto (-46), 3) := by decide +kernel
theorem dX5_bent_53 : decode cX5_bent 53 = .ok (.iload_n 1, 1) := by decide +kernel
theorem dX5_bent_54 : decode cX5_bent 54 = .ok (.ireturn, 1) := by decide +kernel
theorem dX5_parts_0 : decode cX5_parts 0 = .ok (.iconst 0, 1) := by decide +kernel
theorem dX5_parts_1 : decode cX5_parts 1 = .ok (.istore_n 1, 1) := by decide +kernel
theorem dX5_parts_2 : decode cX5_parts 2 = .ok (.iconst 0, 1) := by decide +kernel
theorem dX5_parts_3 : decode cX5_parts 3 = .ok (.istore_n 2, 1) := by decide +kernel
theorem dX5_parts_4 : decode cX5_parts 4 = .ok (.iconst 0, 1) := by decide +kernel
theorem dX5_parts_5 : decode cX5_parts 5 = .ok (.istore_n 3, 1) := by decide +kernel
theorem dX5_parts_6 : decode cX5_parts 6 = .ok (.iload_n 3, 1) := by decide +kernel
theorem dX5_parts_7 : decode cX5_parts 7 = .ok (.aload_n 0, 1) := by decide +kernel
theorem dX5_parts_8 : decode cX5_parts 8 = .ok (.getfield 12, 3) := by decide +kernel
theorem dX5_parts_11 : decode cX5_parts 11 = .ok (.getfield 77, 3) := by decide +kernel
theorem dX5_parts_14 : decode cX5_parts 14 = .ok (.if_icmp .ge 42, 3) := by decide +kernel
theorem dX5_parts_17 : decode cX5_parts 17 = .ok (.iload_n 1, 1) := by decide +kernel
theorem dX5_parts_18 : decode cX5_parts 18 = .ok (.iload_n 3, 1) := by decide +kernel
theorem dX5_parts_19 : decode cX5_parts 19 = .ok (.ishr, 1) := by decide +kernel
theorem dX5_parts_20 : decode cX5_parts 20 = .ok (.iconst 1, 1) := by decide +kernel
theorem dX5_parts_21 : decode cX5_parts 21 = .ok (.iand, 1) := by decide +kernel
theorem dX5_parts_22 : decode cX5_parts 22 = .ok (.ifCond .ne 28, 3) := by decide +kernel
theorem dX5_parts_25 : decode cX5_parts 25 = .ok (.iinc 2 1, 3) := by decide +kernel
theorem dX5_parts_28 : decode cX5_parts 28 = .ok (.aload_n 0, 1) := by decide +kernel
theorem dX5_parts_29 : decode cX5_parts 29 = .ok (.getfield 12, 3) := by decide +kernel
theorem dX5_parts_32 : decode cX5_parts 32 = .ok (.aload_n 0, 1) := by decide +kernel
theorem dX5_parts_33 : decode cX5_parts 33 = .ok (.getfield 32, 3) := by decide +kernel
theorem dX5_parts_36 : decode cX5_parts 36 = .ok (.iload_n 3, 1) := by decide +kernel
theorem dX5_parts_37 : decode cX5_parts 37 = .ok (.iconst 0, 1) := by decide +kernel
theorem dX5_parts_38 : decode cX5_parts 38 = .ok (.invokevirtual 219, 3) := by decide +kernel
theorem dX5_parts_41 : decode cX5_parts 41 = .ok (.iload_n 1, 1) := by decide +kernel
theorem dX5_parts_42 : decode cX5_parts 42 = .ok (.aload_n 0, 1) := by decide +kernel
theorem dX5_parts_43 : decode cX5_parts 43 = .ok (.ldc 223, 2) := by decide +kernel
theorem dX5_parts_45 : decode cX5_parts 45 = .ok (.invokevirtual 224, 3) := by decide +kernel
theorem dX5_parts_48 : decode cX5_parts 48 = .ok (.ior, 1) := by decide +kernel
theorem dX5_parts_49 : decode cX5_parts 49 = .ok (.istore_n 1, 1) := by decide +kernel
theorem dX5_parts_50 : decode cX5_parts 50 = .ok (.iinc 3 1, 3) := by decide +kernel
theorem dX5_parts_53 : decode cX5_parts 53 = .ok (.goto (-47), 3) := by decide +kernel
theorem dX5_parts_56 : decode cX5_parts 56 = .ok (.iload_n 2, 1) := by decide +kernel
theorem dX5_parts_57 : decode cX5_parts 57 = .ok (.ireturn, 1) := by decide +kernel
theorem dX5_far_0 : decode cX5_far 0 = .ok (.aload_n 0, 1) := by decide +kernel
theorem dX5_far_1 : decode cX5_far 1 = .ok (.iload_n 1, 1) := by decide +kernel
theorem dX5_far_2 : decode cX5_far 2 = .ok (.iload_n 2, 1) := by decide +kernel
theorem dX5_far_3 : decode cX5_far 3 = .ok (.iconst 0, 1) := by decide +kernel
theorem dX5_far_4 : decode cX5_far 4 = .ok (.invokevirtual 227, 3) := by decide +kernel
theorem dX5_far_7 : decode cX5_far 7 = .ok (.ireturn, 1) := by decide +kernel
theorem dX5_smooth_0 : decode cX5_smooth 0 = .ok (.aload_n 0, 1) := by decide +kernel
theorem dX5_smooth_1 : decode cX5_smooth 1 = .ok (.iload_n 1, 1) := by decide +kernel
theorem dX5_smooth_2 : decode cX5_smooth 2 = .ok (.iload_n 2, 1) := by decide +kernel
theorem dX5_smooth_3 : decode cX5_smooth 3 = .ok (.iconst 1, 1) := by decide +kernel
theorem dX5_smooth_4 : decode cX5_smooth 4 = .ok (.invokevirtual 227, 3) := by decide +kernel
theorem dX5_smooth_7 : decode cX5_smooth 7 = .ok (.ireturn, 1) := by decide +kernel
theorem dX5_turns_0 : decode cX5_turns 0 = .ok (.aload_n 0, 1) := by decide +kernel
theorem dX5_turns_1 : decode cX5_turns 1 = .ok (.getfield 12, 3) := by decide +kernel
theorem dX5_turns_4 : decode cX5_turns 4 = .ok (.iload_n 1, 1) := by decide +kernel
theorem dX5_turns_5 : decode cX5_turns 5 = .ok (.iload_n 2, 1) := by decide +kernel
theorem dX5_turns_6 : decode cX5_turns 6 = .ok (.invokevirtual 101, 3) := by decide +kernel
theorem dX5_turns_9 : decode cX5_turns 9 = .ok (.ifCond .eq 14, 3) := by decide +kernel
theorem dX5_turns_12 : decode cX5_turns 12 = .ok (.aload_n 0, 1) := by decide +kernel
theorem dX5_turns_13 : decode cX5_turns 13 = .ok (.getfield 12, 3) := by decide +kernel
theorem dX5_turns_16 : decode cX5_turns 16 = .ok (.iload_n 3, 1) := by decide +kernel
theorem dX5_turns_17 : decode cX5_turns 17 = .ok (.invokevirtual 85, 3) := by decide +kernel
theorem dX5_turns_20 : decode cX5_turns 20 = .ok (.ifCond .ne 10, 3) := by decide +kernel
theorem dX5_turns_23 : decode cX5_turns 23 = .ok (.aload_n 0, 1) := by decide +kernel
theorem dX5_turns_24 : decode cX5_turns 24 = .ok (.ldc 72, 2) := by decide +kernel
theorem dX5_turns_26 : decode cX5_turns 26 = .ok (.invokevirtual 73, 3) := by decide +kernel
theorem dX5_turns_29 : decode cX5_turns 29 = .ok (.ireturn, 1) := by decide +kernel
theorem dX5_turns_30 : decode cX5_turns 30 = .ok (.aload_n 0, 1) := by decide +kernel
theorem dX5_turns_31 : decode cX5_turns 31 = .ok (.getfield 12, 3) := by decide +kernel
theorem dX5_turns_34 : decode cX5_turns 34 = .ok (.aload_n 0, 1) := by decide +kernel
theorem dX5_turns_35 : decode cX5_turns 35 = .ok (.getfield 39, 3) := by decide +kernel
theorem dX5_turns_38 : decode cX5_turns 38 = .ok (.iload_n 1, 1) := by decide +kernel
theorem dX5_turns_39 : decode cX5_turns 39 = .ok (.iload_n 2, 1) := by decide +kernel
theorem dX5_turns_40 : decode cX5_turns 40 = .ok (.invokestatic 105, 3) := by decide +kernel
theorem dX5_turns_43 : decode cX5_turns 43 = .ok (.invokevirtual 231, 3) := by decide +kernel
theorem dX5_turns_46 : decode cX5_turns 46 = .ok (.ldc 235, 2) := by decide +kernel
theorem dX5_turns_48 : decode cX5_turns 48 = .ok (.istore 4, 2) := by decide +kernel
theorem dX5_turns_50 : decode cX5_turns 50 = .ok (.iconst 0, 1) := by decide +kernel
theorem dX5_turns_51 : decode cX5_turns 51 = .ok (.istore 5, 2) := by decide +kernel
theorem dX5_turns_53 : decode cX5_turns 53 = .ok (.iload 5, 2) := by decide +kernel
theorem dX5_turns_55 : decode cX5_turns 55 = .ok (.iconst 4, 1) := by decide +kernel
theorem dX5_turns_56 : decode cX5_turns 56 = .ok (.if_icmp .ge 27, 3) := by decide +kernel
theorem dX5_turns_59 : decode cX5_turns 59 = .ok (.iload 4, 2) := by decide +kernel
theorem dX5_turns_61 : decode cX5_turns 61 = .ok (.aload_n 0, 1) := by decide +kernel
theorem dX5_turns_62 : decode cX5_turns 62 = .ok (.getfield 39, 3) := by decide +kernel
theorem dX5_turns_65 : decode cX5_turns 65 = .ok (.iload_n 3, 1) := by decide +kernel
theorem dX5_turns_66 : decode cX5_turns 66 = .ok (.iload 5, 2) := by decide +kernel
theorem dX5_turns_68 : decode cX5_turns 68 = .ok (.invokestatic 105, 3) := by decide +kernel
theorem dX5_turns_71 : decode cX5_turns 71 = .ok (.iaload, 1) := by decide +kernel
theorem dX5_turns_72 : decode cX5_turns 72 = .ok (.invokestatic 236, 3) := by decide +kernel
theorem dX5_turns_75 : decode cX5_turns 75 = .ok (.istore 4, 2) := by decide +kernel
theorem dX5_turns_77 : decode cX5_turns 77 = .ok (.iinc 5 1, 3) := by decide +kernel
theorem dX5_turns_80 : decode cX5_turns 80 = .ok (.goto (-27), 3) := by decide +kernel
theorem dX5_turns_83 : decode cX5_turns 83 = .ok (.iload 4, 2) := by decide +kernel
theorem dX5_turns_85 : decode cX5_turns 85 = .ok (.ldc 235, 2) := by decide +kernel
theorem dX5_turns_87 : decode cX5_turns 87 = .ok (.if_icmp .ne 12, 3) := by decide +kernel
theorem dX5_turns_90 : decode cX5_turns 90 = .ok (.aload_n 0, 1) := by decide +kernel
theorem dX5_turns_91 : decode cX5_turns 91 = .ok (.ldc 186, 2) := by decide +kernel
theorem dX5_turns_93 : decode cX5_turns 93 = .ok (.invokevirtual 73, 3) := by decide +kernel
theorem dX5_turns_96 : decode cX5_turns 96 = .ok (.goto 5, 3) := by decide +kernel
theorem dX5_turns_99 : decode cX5_turns 99 = .ok (.iload 4, 2) := by decide +kernel
theorem dX5_turns_101 : decode cX5_turns 101 = .ok (.ireturn, 1) := by decide +kernel
theorem dX5_within_0 : decode cX5_within 0 = .ok (.aload_n 0, 1) := by decide +kernel
theorem dX5_within_1 : decode cX5_within 1 = .ok (.getfield 12, 3) := by decide +kernel
theorem dX5_within_4 : decode cX5_within 4 = .ok (.iload_n 1, 1) := by decide +kernel
theorem dX5_within_5 : decode cX5_within 5 = .ok (.invokevirtual 85, 3) := by decide +kernel
theorem dX5_within_8 : decode cX5_within 8 = .ok (.ifCond .eq 13, 3) := by decide +kernel
theorem dX5_within_11 : decode cX5_within 11 = .ok (.iload_n 2, 1) := by decide +kernel
theorem dX5_within_12 : decode cX5_within 12 = .ok (.ifCond .lt 9, 3) := by decide +kernel
theorem dX5_within_15 : decode cX5_within 15 = .ok (.iload_n 2, 1) := by decide +kernel
theorem dX5_within_16 : decode cX5_within 16 = .ok (.bipush 16, 2) := by decide +kernel
theorem dX5_within_18 : decode cX5_within 18 = .ok (.if_icmp .le 10, 3) := by decide +kernel
theorem dX5_within_21 : decode cX5_within 21 = .ok (.aload_n 0, 1) := by decide +kernel
theorem dX5_within_22 : decode cX5_within 22 = .ok (.ldc 72, 2) := by decide +kernel
theorem dX5_within_24 : decode cX5_within 24 = .ok (.invokevirtual 73, 3) := by decide +kernel
theorem dX5_within_27 : decode cX5_within 27 = .ok (.ireturn, 1) := by decide +kernel
theorem dX5_within_28 : decode cX5_within 28 = .ok (.aload_n 0, 1) := by decide +kernel
theorem dX5_within_29 : decode cX5_within 29 = .ok (.getfield 12, 3) := by decide +kernel
theorem dX5_within_32 : decode cX5_within 32 = .ok (.aload_n 0, 1) := by decide +kernel
theorem dX5_within_33 : decode cX5_within 33 = .ok (.getfield 32, 3) := by decide +kernel
theorem dX5_within_36 : decode cX5_within 36 = .ok (.iload_n 1, 1) := by decide +kernel
theorem dX5_within_37 : decode cX5_within 37 = .ok (.iconst 0, 1) := by decide +kernel
theorem dX5_within_38 : decode cX5_within 38 = .ok (.invokevirtual 219, 3) := by decide +kernel
theorem dX5_within_41 : decode cX5_within 41 = .ok (.aload_n 0, 1) := by decide +kernel
theorem dX5_within_42 : decode cX5_within 42 = .ok (.iload_n 2, 1) := by decide +kernel
theorem dX5_within_43 : decode cX5_within 43 = .ok (.invokevirtual 224, 3) := by decide +kernel
theorem dX5_within_46 : decode cX5_within 46 = .ok (.invokestatic 199, 3) := by decide +kernel
theorem dX5_within_49 : decode cX5_within 49 = .ok (.ireturn, 1) := by decide +kernel
theorem dX5_mends_0 : decode cX5_mends 0 = .ok (.aload_n 0, 1) := by decide +kernel
theorem dX5_mends_1 : decode cX5_mends 1 = .ok (.getfield 12, 3) := by decide +kernel
theorem dX5_mends_4 : decode cX5_mends 4 = .ok (.iload_n 1, 1) := by decide +kernel
theorem dX5_mends_5 : decode cX5_mends 5 = .ok (.invokevirtual 85, 3) := by decide +kernel
theorem dX5_mends_8 : decode cX5_mends 8 = .ok (.ifCond .eq 14, 3) := by decide +kernel
theorem dX5_mends_11 : decode cX5_mends 11 = .ok (.aload_n 0, 1) := by decide +kernel
theorem dX5_mends_12 : decode cX5_mends 12 = .ok (.getfield 12, 3) := by decide +kernel
theorem dX5_mends_15 : decode cX5_mends 15 = .ok (.iload_n 2, 1) := by decide +kernel
theorem dX5_mends_16 : decode cX5_mends 16 = .ok (.invokevirtual 85, 3) := by decide +kernel
theorem dX5_mends_19 : decode cX5_mends 19 = .ok (.ifCond .ne 10, 3) := by decide +kernel
theorem dX5_mends_22 : decode cX5_mends 22 = .ok (.aload_n 0, 1) := by decide +kernel
theorem dX5_mends_23 : decode cX5_mends 23 = .ok (.ldc 72, 2) := by decide +kernel
theorem dX5_mends_25 : decode cX5_mends 25 = .ok (.invokevirtual 73, 3) := by decide +kernel
theorem dX5_mends_28 : decode cX5_mends 28 = .ok (.ireturn, 1) := by decide +kernel
theorem dX5_mends_29 : decode cX5_mends 29 = .ok (.aload_n 0, 1) := by decide +kernel
theorem dX5_mends_30 : decode cX5_mends 30 = .ok (.getfield 12, 3) := by decide +kernel
theorem dX5_mends_33 : decode cX5_mends 33 = .ok (.aload_n 0, 1) := by decide +kernel
theorem dX5_mends_34 : decode cX5_mends 34 = .ok (.getfield 32, 3) := by decide +kernel
theorem dX5_mends_37 : decode cX5_mends 37 = .ok (.iload_n 1, 1) := by decide +kernel
theorem dX5_mends_38 : decode cX5_mends 38 = .ok (.iconst 0, 1) := by decide +kernel
theorem dX5_mends_39 : decode cX5_mends 39 = .ok (.invokevirtual 219, 3) := by decide +kernel
theorem dX5_mends_42 : decode cX5_mends 42 = .ok (.aload_n 0, 1) := by decide +kernel
theorem dX5_mends_43 : decode cX5_mends 43 = .ok (.getfield 12, 3) := by decide +kernel
theorem dX5_mends_46 : decode cX5_mends 46 = .ok (.aload_n 0, 1) := by decide +kernel
theorem dX5_mends_47 : decode cX5_mends 47 = .ok (.getfield 36, 3) := by decide +kernel
theorem dX5_mends_50 : decode cX5_mends 50 = .ok (.iload_n 2, 1) := by decide +kernel
theorem dX5_mends_51 : decode cX5_mends 51 = .ok (.iconst 0, 1) := by decide +kernel
theorem dX5_mends_52 : decode cX5_mends 52 = .ok (.invokevirtual 219, 3) := by decide +kernel
theorem dX5_mends_55 : decode cX5_mends 55 = .ok (.aload_n 0, 1) := by decide +kernel
theorem dX5_mends_56 : decode cX5_mends 56 = .ok (.getfield 32, 3) := by decide +kernel
theorem dX5_mends_59 : decode cX5_mends 59 = .ok (.iload_n 2, 1) := by decide +kernel
theorem dX5_mends_60 : decode cX5_mends 60 = .ok (.iaload, 1) := by decide +kernel
theorem dX5_mends_61 : decode cX5_mends 61 = .ok (.istore_n 3, 1) := by decide +kernel
theorem dX5_mends_62 : decode cX5_mends 62 = .ok (.iconst (-1), 1) := by decide +kernel
theorem dX5_mends_63 : decode cX5_mends 63 = .ok (.istore 4, 2) := by decide +kernel
theorem dX5_mends_65 : decode cX5_mends 65 = .ok (.iconst 0, 1) := by decide +kernel
theorem dX5_mends_66 : decode cX5_mends 66 = .ok (.istore 5, 2) := by decide +kernel
theorem dX5_mends_68 : decode cX5_mends 68 = .ok (.iload 5, 2) := by decide +kernel
theorem dX5_mends_70 : decode cX5_mends 70 = .ok (.aload_n 0, 1) := by decide +kernel
theorem dX5_mends_71 : decode cX5_mends 71 = .ok (.getfield 12, 3) := by decide +kernel
theorem dX5_mends_74 : decode cX5_mends 74 = .ok (.invokevirtual 216, 3) := by decide +kernel
theorem dX5_mends_77 : decode cX5_mends 77 = .ok (.if_icmp .ge 92, 3) := by decide +kernel
theorem dX5_mends_80 : decode cX5_mends 80 = .ok (.iload 5, 2) := by decide +kernel
theorem dX5_mends_82 : decode cX5_mends 82 = .ok (.iconst 1, 1) := by decide +kernel
theorem dX5_mends_83 : decode cX5_mends 83 = .ok (.iadd, 1) := by decide +kernel
theorem dX5_mends_84 : decode cX5_mends 84 = .ok (.istore 6, 2) := by decide +kernel
theorem dX5_mends_86 : decode cX5_mends 86 = .ok (.iload 6, 2) := by decide +kernel
theorem dX5_mends_88 : decode cX5_mends 88 = .ok (.aload_n 0, 1) := by decide +kernel
theorem dX5_mends_89 : decode cX5_mends 89 = .ok (.getfield 12, 3) := by decide +kernel
theorem dX5_mends_92 : decode cX5_mends 92 = .ok (.invokevirtual 216, 3) := by decide +kernel
theorem dX5_mends_95 : decode cX5_mends 95 = .ok (.if_icmp .ge 68, 3) := by decide +kernel
theorem dX5_mends_98 : decode cX5_mends 98 = .ok (.aload_n 0, 1) := by decide +kernel
theorem dX5_mends_99 : decode cX5_mends 99 = .ok (.getfield 12, 3) := by decide +kernel
theorem dX5_mends_102 : decode cX5_mends 102 = .ok (.iload 5, 2) := by decide +kernel
theorem dX5_mends_104 : decode cX5_mends 104 = .ok (.invokevirtual 109, 3) := by decide +kernel
theorem dX5_mends_107 : decode cX5_mends 107 = .ok (.ifCond .eq 56, 3) := by decide +kernel
theorem dX5_mends_110 : decode cX5_mends 110 = .ok (.aload_n 0, 1) := by decide +kernel
theorem dX5_mends_111 : decode cX5_mends 111 = .ok (.iload 5, 2) := by decide +kernel
theorem dX5_mends_113 : decode cX5_mends 113 = .ok (.invokestatic 148, 3) := by decide +kernel
theorem dX5_mends_116 : decode cX5_mends 116 = .ok (.iload 6, 2) := by decide +kernel
theorem dX5_mends_118 : decode cX5_mends 118 = .ok (.invokestatic 148, 3) := by decide +kernel
theorem dX5_mends_121 : decode cX5_mends 121 = .ok (.invokevirtual 241, 3) := by decide +kernel
theorem dX5_mends_124 : decode cX5_mends 124 = .ok (.istore 7, 2) := by decide +kernel
theorem dX5_mends_126 : decode cX5_mends 126 = .ok (.iload 7, 2) := by decide +kernel
theorem dX5_mends_128 : decode cX5_mends 128 = .ok (.iload_n 3, 1) := by decide +kernel
theorem dX5_mends_129 : decode cX5_mends 129 = .ok (.if_icmp .ge 28, 3) := by decide +kernel
theorem dX5_mends_132 : decode cX5_mends 132 = .ok (.aload_n 0, 1) := by decide +kernel
theorem dX5_mends_133 : decode cX5_mends 133 = .ok (.getfield 12, 3) := by decide +kernel
theorem dX5_mends_136 : decode cX5_mends 136 = .ok (.iload 6, 2) := by decide +kernel
theorem dX5_mends_138 : decode cX5_mends 138 = .ok (.invokevirtual 109, 3) := by decide +kernel
theorem dX5_mends_141 : decode cX5_mends 141 = .ok (.ifCond .eq 16, 3) := by decide +kernel
theorem dX5_mends_144 : decode cX5_mends 144 = .ok (.iload 7, 2) := by decide +kernel
theorem dX5_mends_146 : decode cX5_mends 146 = .ok (.istore_n 3, 1) := by decide +kernel
theorem dX5_mends_147 : decode cX5_mends 147 = .ok (.bipush 64, 2) := by decide +kernel
theorem dX5_mends_149 : decode cX5_mends 149 = .ok (.iload 5, 2) := by decide +kernel
theorem dX5_mends_151 : decode cX5_mends 151 = .ok (.imul, 1) := by decide +kernel
theorem dX5_mends_152 : decode cX5_mends 152 = .ok (.iload 6, 2) := by decide +kernel
theorem dX5_mends_154 : decode cX5_mends 154 = .ok (.iadd, 1) := by decide +kernel
theorem dX5_mends_155 : decode cX5_mends 155 = .ok (.istore 4, 2) := by decide +kernel
theorem dX5_mends_157 : decode cX5_mends 157 = .ok (.iinc 6 1, 3) := by decide +kernel
theorem dX5_mends_160 : decode cX5_mends 160 = .ok (.goto (-74), 3) := by decide +kernel
theorem dX5_mends_163 : decode cX5_mends 163 = .ok (.iinc 5 1, 3) := by decide +kernel
theorem dX5_mends_166 : decode cX5_mends 166 = .ok (.goto (-98), 3) := by decide +kernel
theorem dX5_mends_169 : decode cX5_mends 169 = .ok (.aload_n 0, 1) := by decide +kernel
theorem dX5_mends_170 : decode cX5_mends 170 = .ok (.iload 4, 2) := by decide +kernel
theorem dX5_mends_172 : decode cX5_mends 172 = .ok (.invokevirtual 123, 3) := by decide +kernel
theorem dX5_mends_175 : decode cX5_mends 175 = .ok (.ireturn, 1) := by decide +kernel
theorem dX5_feed_0 : decode cX5_feed 0 = .ok (.iload_n 2, 1) := by decide +kernel
theorem dX5_feed_1 : decode cX5_feed 1 = .ok (.iconst 1, 1) := by decide +kernel
theorem dX5_feed_2 : decode cX5_feed 2 = .ok (.if_icmp .lt 8, 3) := by decide +kernel
theorem dX5_feed_5 : decode cX5_feed 5 = .ok (.iload_n 2, 1) := by decide +kernel
theorem dX5_feed_6 : decode cX5_feed 6 = .ok (.iconst 4, 1) := by decide +kernel
theorem dX5_feed_7 : decode cX5_feed 7 = .ok (.if_icmp .le 10, 3) := by decide +kernel
theorem dX5_feed_10 : decode cX5_feed 10 = .ok (.aload_n 0, 1) := by decide +kernel
theorem dX5_feed_11 : decode cX5_feed 11 = .ok (.ldc 72, 2) := by decide +kernel
theorem dX5_feed_13 : decode cX5_feed 13 = .ok (.invokevirtual 73, 3) := by decide +kernel
theorem dX5_feed_16 : decode cX5_feed 16 = .ok (.ireturn, 1) := by decide +kernel
theorem dX5_feed_17 : decode cX5_feed 17 = .ok (.aload_n 0, 1) := by decide +kernel
theorem dX5_feed_18 : decode cX5_feed 18 = .ok (.getfield 45, 3) := by decide +kernel
theorem dX5_feed_21 : decode cX5_feed 21 = .ok (.getfield 244, 3) := by decide +kernel
theorem dX5_feed_24 : decode cX5_feed 24 = .ok (.iload_n 2, 1) := by decide +kernel
theorem dX5_feed_25 : decode cX5_feed 25 = .ok (.iadd, 1) := by decide +kernel
theorem dX5_feed_26 : decode cX5_feed 26 = .ok (.bipush 120, 2) := by decide +kernel
theorem dX5_feed_28 : decode cX5_feed 28 = .ok (.if_icmp .le 10, 3) := by decide +kernel
theorem dX5_feed_31 : decode cX5_feed 31 = .ok (.aload_n 0, 1) := by decide +kernel
theorem dX5_feed_32 : decode cX5_feed 32 = .ok (.ldc 81, 2) := by decide +kernel
theorem dX5_feed_34 : decode cX5_feed 34 = .ok (.invokevirtual 73, 3) := by decide +kernel
theorem dX5_feed_37 : decode cX5_feed 37 = .ok (.ireturn, 1) := by decide +kernel
theorem dX5_feed_38 : decode cX5_feed 38 = .ok (.iload_n 2, 1) := by decide +kernel
theorem dX5_feed_39 : decode cX5_feed 39 = .ok (.iconst 1, 1) := by decide +kernel
theorem dX5_feed_40 : decode cX5_feed 40 = .ok (.isub, 1) := by decide +kernel
theorem dX5_feed_41 : decode cX5_feed 41 = .ok (.istore_n 3, 1) := by decide +kernel
theorem dX5_feed_42 : decode cX5_feed 42 = .ok (.iload_n 3, 1) := by decide +kernel
theorem dX5_feed_43 : decode cX5_feed 43 = .ok (.ifCond .lt 26, 3) := by decide +kernel
theorem dX5_feed_46 : decode cX5_feed 46 = .ok (.aload_n 0, 1) := by decide +kernel
theorem dX5_feed_47 : decode cX5_feed 47 = .ok (.getfield 45, 3) := by decide +kernel
theorem dX5_feed_50 : decode cX5_feed 50 = .ok (.iload_n 1, 1) := by decide +kernel
theorem dX5_feed_51 : decode cX5_feed 51 = .ok (.bipush 8, 2) := by decide +kernel
theorem dX5_feed_53 : decode cX5_feed 53 = .ok (.iload_n 3, 1) := by decide +kernel
theorem dX5_feed_54 : decode cX5_feed 54 = .ok (.imul, 1) := by decide +kernel
theorem dX5_feed_55 : decode cX5_feed 55 = .ok (.ishr, 1) := by decide +kernel
theorem dX5_feed_56 : decode cX5_feed 56 = .ok (.sipush 255, 3) := by decide +kernel
theorem dX5_feed_59 : decode cX5_feed 59 = .ok (.iand, 1) := by decide +kernel
theorem dX5_feed_60 : decode cX5_feed 60 = .ok (.invokevirtual 247, 3) := by decide +kernel
theorem dX5_feed_63 : decode cX5_feed 63 = .ok (.iinc 3 (-1), 3) := by decide +kernel
theorem dX5_feed_66 : decode cX5_feed 66 = .ok (.goto (-24), 3) := by decide +kernel
theorem dX5_feed_69 : decode cX5_feed 69 = .ok (.aload_n 0, 1) := by decide +kernel
theorem dX5_feed_70 : decode cX5_feed 70 = .ok (.getfield 45, 3) := by decide +kernel
theorem dX5_feed_73 : decode cX5_feed 73 = .ok (.getfield 244, 3) := by decide +kernel
theorem dX5_feed_76 : decode cX5_feed 76 = .ok (.ireturn, 1) := by decide +kernel
theorem dX5_wipe_0 : decode cX5_wipe 0 = .ok (.aload_n 0, 1) := by decide +kernel
theorem dX5_wipe_1 : decode cX5_wipe 1 = .ok (.getfield 45, 3) := by decide +kernel
theorem dX5_wipe_4 : decode cX5_wipe 4 = .ok (.getfield 244, 3) := by decide +kernel
theorem dX5_wipe_7 : decode cX5_wipe 7 = .ok (.istore_n 1, 1) := by decide +kernel
theorem dX5_wipe_8 : decode cX5_wipe 8 = .ok (.aload_n 0, 1) := by decide +kernel
theorem dX5_wipe_9 : decode cX5_wipe 9 = .ok (.getfield 45, 3) := by decide +kernel
theorem dX5_wipe_12 : decode cX5_wipe 12 = .ok (.iconst 0, 1) := by decide +kernel
theorem dX5_wipe_13 : decode cX5_wipe 13 = .ok (.putfield 244, 3) := by decide +kernel
theorem dX5_wipe_16 : decode cX5_wipe 16 = .ok (.iload_n 1, 1) := by decide +kernel
theorem dX5_wipe_17 : decode cX5_wipe 17 = .ok (.ireturn, 1) := by decide +kernel
theorem dX5_plain_0 : decode cX5_plain 0 = .ok (.aload_n 0, 1) := by decide +kernel
theorem dX5_plain_1 : decode cX5_plain 1 = .ok (.getfield 19, 3) := by decide +kernel
theorem dX5_plain_4 : decode cX5_plain 4 = .ok (.aload_n 0, 1) := by decide +kernel
theorem dX5_plain_5 : decode cX5_plain 5 = .ok (.getfield 12, 3) := by decide +kernel
theorem dX5_plain_8 : decode cX5_plain 8 = .ok (.invokevirtual 250, 3) := by decide +kernel
theorem dX5_plain_11 : decode cX5_plain 11 = .ok (.aload_n 0, 1) := by decide +kernel
theorem dX5_plain_12 : decode cX5_plain 12 = .ok (.getfield 54, 3) := by decide +kernel
theorem dX5_plain_15 : decode cX5_plain 15 = .ok (.invokevirtual 252, 3) := by decide +kernel
theorem dX5_plain_18 : decode cX5_plain 18 = .ok (.istore_n 1, 1) := by decide +kernel
theorem dX5_plain_19 : decode cX5_plain 19 = .ok (.iload_n 1, 1) := by decide +kernel
theorem dX5_plain_20 : decode cX5_plain 20 = .ok (.ifCond .ge 14, 3) := by decide +kernel
theorem dX5_plain_23 : decode cX5_plain 23 = .ok (.aload_n 0, 1) := by decide +kernel
theorem dX5_plain_24 : decode cX5_plain 24 = .ok (.getfield 12, 3) := by decide +kernel
theorem dX5_plain_27 : decode cX5_plain 27 = .ok (.aload_n 0, 1) := by decide +kernel
theorem dX5_plain_28 : decode cX5_plain 28 = .ok (.getfield 19, 3) := by decide +kernel
theorem dX5_plain_31 : decode cX5_plain 31 = .ok (.invokevirtual 250, 3) := by decide +kernel
theorem dX5_plain_34 : decode cX5_plain 34 = .ok (.aload_n 0, 1) := by decide +kernel
theorem dX5_plain_35 : decode cX5_plain 35 = .ok (.getfield 45, 3) := by decide +kernel
theorem dX5_plain_38 : decode cX5_plain 38 = .ok (.iconst 0, 1) := by decide +kernel
theorem dX5_plain_39 : decode cX5_plain 39 = .ok (.putfield 244, 3) := by decide +kernel
theorem dX5_plain_42 : decode cX5_plain 42 = .ok (.iload_n 1, 1) := by decide +kernel
theorem dX5_plain_43 : decode cX5_plain 43 = .ok (.ireturn, 1) := by decide +kernel
theorem dX5_sheet_0 : decode cX5_sheet 0 = .ok (.iload_n 1, 1) := by decide +kernel
theorem dX5_sheet_1 : decode cX5_sheet 1 = .ok (.invokestatic 255, 3) := by decide +kernel
theorem dX5_sheet_4 : decode cX5_sheet 4 = .ok (.ifCond .eq 25, 3) := by decide +kernel
theorem dX5_sheet_7 : decode cX5_sheet 7 = .ok (.iload_n 2, 1) := by decide +kernel
theorem dX5_sheet_8 : decode cX5_sheet 8 = .ok (.ifCond .eq 28, 3) := by decide +kernel
theorem dX5_sheet_11 : decode cX5_sheet 11 = .ok (.iload_n 2, 1) := by decide +kernel
theorem dX5_sheet_12 : decode cX5_sheet 12 = .ok (.bipush 8, 2) := by decide +kernel
theorem dX5_sheet_14 : decode cX5_sheet 14 = .ok (.if_icmp .eq 22, 3) := by decide +kernel
theorem dX5_sheet_17 : decode cX5_sheet 17 = .ok (.iload_n 2, 1) := by decide +kernel
theorem dX5_sheet_18 : decode cX5_sheet 18 = .ok (.bipush 16, 2) := by decide +kernel
theorem dX5_sheet_20 : decode cX5_sheet 20 = .ok (.if_icmp .eq 16, 3) := by decide +kernel
theorem dX5_sheet_23 : decode cX5_sheet 23 = .ok (.iload_n 2, 1) := by decide +kernel
theorem dX5_sheet_24 : decode cX5_sheet 24 = .ok (.bipush 64, 2) := by decide +kernel
theorem dX5_sheet_26 : decode cX5_sheet 26 = .ok (.if_icmp .eq 10, 3) := by decide +kernel
theorem dX5_sheet_29 : decode cX5_sheet 29 = .ok (.aload_n 0, 1) := by decide +kernel
theorem dX5_sheet_30 : decode cX5_sheet 30 = .ok (.ldc 72, 2) := by decide +kernel
theorem dX5_sheet_32 : decode cX5_sheet 32 = .ok (.invokevirtual 73, 3) := by decide +kernel
theorem dX5_sheet_35 : decode cX5_sheet 35 = .ok (.ireturn, 1) := by decide +kernel
theorem dX5_sheet_36 : decode cX5_sheet 36 = .ok (.iload_n 3, 1) := by decide +kernel
theorem dX5_sheet_37 : decode cX5_sheet 37 = .ok (.ifCond .ge 11, 3) := by decide +kernel
theorem dX5_sheet_40 : decode cX5_sheet 40 = .ok (.aload_n 0, 1) := by decide +kernel
theorem dX5_sheet_41 : decode cX5_sheet 41 = .ok (.ldc_w 258, 3) := by decide +kernel
theorem dX5_sheet_44 : decode cX5_sheet 44 = .ok (.invokevirtual 73, 3) := by decide +kernel
theorem dX5_sheet_47 : decode cX5_sheet 47 = .ok (.ireturn, 1) := by decide +kernel
theorem dX5_sheet_48 : decode cX5_sheet 48 = .ok (.iload_n 3, 1) := by decide +kernel
theorem dX5_sheet_49 : decode cX5_sheet 49 = .ok (.bipush 40, 2) := by decide +kernel
theorem dX5_sheet_51 : decode cX5_sheet 51 = .ok (.if_icmp .le 10, 3) := by decide +kernel
theorem dX5_sheet_54 : decode cX5_sheet 54 = .ok (.aload_n 0, 1) := by decide +kernel
theorem dX5_sheet_55 : decode cX5_sheet 55 = .ok (.ldc 72, 2) := by decide +kernel
theorem dX5_sheet_57 : decode cX5_sheet 57 = .ok (.invokevirtual 73, 3) := by decide +kernel
theorem dX5_sheet_60 : decode cX5_sheet 60 = .ok (.ireturn, 1) := by decide +kernel
theorem dX5_sheet_61 : decode cX5_sheet 61 = .ok (.aload_n 0, 1) := by decide +kernel
theorem dX5_sheet_62 : decode cX5_sheet 62 = .ok (.getfield 60, 3) := by decide +kernel
theorem dX5_sheet_65 : decode cX5_sheet 65 = .ok (.iload_n 1, 1) := by decide +kernel
theorem dX5_sheet_66 : decode cX5_sheet 66 = .ok (.aaload, 1) := by decide +kernel
theorem dX5_sheet_67 : decode cX5_sheet 67 = .ok (.astore 4, 2) := by decide +kernel
theorem dX5_sheet_69 : decode cX5_sheet 69 = .ok (.aload 4, 2) := by decide +kernel
theorem dX5_sheet_71 : decode cX5_sheet 71 = .ok (.iload_n 2, 1) := by decide +kernel
theorem dX5_sheet_72 : decode cX5_sheet 72 = .ok (.iload_n 2, 1) := by decide +kernel
theorem dX5_sheet_73 : decode cX5_sheet 73 = .ok (.ifCond .ne 7, 3) := by decide +kernel
theorem dX5_sheet_76 : decode cX5_sheet 76 = .ok (.iconst 0, 1) := by decide +kernel
theorem dX5_sheet_77 : decode cX5_sheet 77 = .ok (.goto 4, 3) := by decide +kernel
theorem dX5_sheet_80 : decode cX5_sheet 80 = .ok (.iload_n 3, 1) := by decide +kernel
theorem dX5_sheet_81 : decode cX5_sheet 81 = .ok (.invokevirtual 259, 3) := by decide +kernel
theorem dX5_sheet_84 : decode cX5_sheet 84 = .ok (.aload 4, 2) := by decide +kernel
theorem dX5_sheet_86 : decode cX5_sheet 86 = .ok (.getfield 262, 3) := by decide +kernel
theorem dX5_sheet_89 : decode cX5_sheet 89 = .ok (.ireturn, 1) := by decide +kernel
theorem dX5_write_0 : decode cX5_write 0 = .ok (.aload_n 0, 1) := by decide +kernel
theorem dX5_write_1 : decode cX5_write 1 = .ok (.iload_n 1, 1) := by decide +kernel
theorem dX5_write_2 : decode cX5_write 2 = .ok (.invokevirtual 265, 3) := by decide +kernel
theorem dX5_write_5 : decode cX5_write 5 = .ok (.istore 5, 2) := by decide +kernel
theorem dX5_write_7 : decode cX5_write 7 = .ok (.iload 5, 2) := by decide +kernel
theorem dX5_write_9 : decode cX5_write 9 = .ok (.ifCond .eq 11, 3) := by decide +kernel
theorem dX5_write_12 : decode cX5_write 12 = .ok (.aload_n 0, 1) := by decide +kernel
theorem dX5_write_13 : decode cX5_write 13 = .ok (.iload 5, 2) := by decide +kernel
theorem dX5_write_15 : decode cX5_write 15 = .ok (.invokevirtual 73, 3) := by decide +kernel
theorem dX5_write_18 : decode cX5_write 18 = .ok (.i2l, 1) := by decide +kernel
theorem dX5_write_19 : decode cX5_write 19 = .ok (.lreturn, 1) := by decide +kernel
theorem dX5_write_20 : decode cX5_write 20 = .ok (.aload_n 0, 1) := by decide +kernel
theorem dX5_write_21 : decode cX5_write 21 = .ok (.getfield 60, 3) := by decide +kernel
theorem dX5_write_24 : decode cX5_write 24 = .ok (.iload_n 1, 1) := by decide +kernel
theorem dX5_write_25 : decode cX5_write 25 = .ok (.aaload, 1) := by decide +kernel
theorem dX5_write_26 : decode cX5_write 26 = .ok (.astore 6, 2) := by decide +kernel
theorem dX5_write_28 : decode cX5_write 28 = .ok (.iload_n 2, 1) := by decide +kernel
theorem dX5_write_29 : decode cX5_write 29 = .ok (.ifCond .lt 12, 3) := by decide +kernel
theorem dX5_write_32 : decode cX5_write 32 = .ok (.iload_n 2, 1) := by decide +kernel
theorem dX5_write_33 : decode cX5_write 33 = .ok (.aload 6, 2) := by decide +kernel
theorem dX5_write_35 : decode cX5_write 35 = .ok (.getfield 262, 3) := by decide +kernel
theorem dX5_write_38 : decode cX5_write 38 = .ok (.if_icmp .lt 11, 3) := by decide +kernel
theorem dX5_write_41 : decode cX5_write 41 = .ok (.aload_n 0, 1) := by decide +kernel
theorem dX5_write_42 : decode cX5_write 42 = .ok (.ldc 72, 2) := by decide +kernel
theorem dX5_write_44 : decode cX5_write 44 = .ok (.invokevirtual 73, 3) := by decide +kernel
theorem dX5_write_47 : decode cX5_write 47 = .ok (.i2l, 1) := by decide +kernel
theorem dX5_write_48 : decode cX5_write 48 = .ok (.lreturn, 1) := by decide +kernel
theorem dX5_write_49 : decode cX5_write 49 = .ok (.aload 6, 2) := by decide +kernel
theorem dX5_write_51 : decode cX5_write 51 = .ok (.getfield 268, 3) := by decide +kernel
theorem dX5_write_54 : decode cX5_write 54 = .ok (.iload_n 2, 1) := by decide +kernel
theorem dX5_write_55 : decode cX5_write 55 = .ok (.laload, 1) := by decide +kernel
theorem dX5_write_56 : decode cX5_write 56 = .ok (.lstore 7, 2) := by decide +kernel
theorem dX5_write_58 : decode cX5_write 58 = .ok (.aload 6, 2) := by decide +kernel
theorem dX5_write_60 : decode cX5_write 60 = .ok (.getfield 268, 3) := by decide +kernel
theorem dX5_write_63 : decode cX5_write 63 = .ok (.iload_n 2, 1) := by decide +kernel
theorem dX5_write_64 : decode cX5_write 64 = .ok (.aload 6, 2) := by decide +kernel
theorem dX5_write_66 : decode cX5_write 66 = .ok (.lload_n 3, 1) := by decide +kernel
theorem dX5_write_67 : decode cX5_write 67 = .ok (.invokevirtual 272, 3) := by decide +kernel
theorem dX5_write_70 : decode cX5_write 70 = .ok (.lastore, 1) := by decide +kernel
theorem dX5_write_71 : decode cX5_write 71 = .ok (.lload 7, 2) := by decide +kernel
theorem dX5_write_73 : decode cX5_write 73 = .ok (.lreturn, 1) := by decide +kernel
theorem dX5_copy_0 : decode cX5_copy 0 = .ok (.iload_n 1, 1) := by decide +kernel
theorem dX5_copy_1 : decode cX5_copy 1 = .ok (.invokestatic 255, 3) := by decide +kernel
theorem dX5_copy_4 : decode cX5_copy 4 = .ok (.ifCond .eq 10, 3) := by decide +kernel
theorem dX5_copy_7 : decode cX5_copy 7 = .ok (.iload_n 3, 1) := by decide +kernel
theorem dX5_copy_8 : decode cX5_copy 8 = .ok (.invokestatic 255, 3) := by decide +kernel
theorem dX5_copy_11 : decode cX5_copy 11 = .ok (.ifCond .ne 10, 3) := by decide +kernel
theorem dX5_copy_14 : decode cX5_copy 14 = .ok (.aload_n 0, 1) := by decide +kernel
theorem dX5_copy_15 : decode cX5_copy 15 = .ok (.ldc 72, 2) := by decide +kernel
theorem dX5_copy_17 : decode cX5_copy 17 = .ok (.invokevirtual 73, 3) := by decide +kernel
theorem dX5_copy_20 : decode cX5_copy 20 = .ok (.ireturn, 1) := by decide +kernel
theorem dX5_copy_21 : decode cX5_copy 21 = .ok (.aload_n 0, 1) := by decide +kernel
theorem dX5_copy_22 : decode cX5_copy 22 = .ok (.getfield 60, 3) := by decide +kernel
theorem dX5_copy_25 : decode cX5_copy 25 = .ok (.iload_n 1, 1) := by decide +kernel
theorem dX5_copy_26 : decode cX5_copy 26 = .ok (.aaload, 1) := by decide +kernel
theorem dX5_copy_27 : decode cX5_copy 27 = .ok (.astore 6, 2) := by decide +kernel
theorem dX5_copy_29 : decode cX5_copy 29 = .ok (.aload_n 0, 1) := by decide +kernel
theorem dX5_copy_30 : decode cX5_copy 30 = .ok (.getfield 60, 3) := by decide +kernel
theorem dX5_copy_33 : decode cX5_copy 33 = .ok (.iload_n 3, 1) := by decide +kernel
theorem dX5_copy_34 : decode cX5_copy 34 = .ok (.aaload, 1) := by decide +kernel
theorem dX5_copy_35 : decode cX5_copy 35 = .ok (.astore 7, 2) := by decide +kernel
theorem dX5_copy_37 : decode cX5_copy 37 = .ok (.aload 6, 2) := by decide +kernel
theorem dX5_copy_39 : decode cX5_copy 39 = .ok (.getfield 276, 3) := by decide +kernel
theorem dX5_copy_42 : decode cX5_copy 42 = .ok (.ifCond .eq 11, 3) := by decide +kernel
theorem dX5_copy_45 : decode cX5_copy 45 = .ok (.aload 7, 2) := by decide +kernel
theorem dX5_copy_47 : decode cX5_copy 47 = .ok (.getfield 276, 3) := by decide +kernel
theorem dX5_copy_50 : decode cX5_copy 50 = .ok (.ifCond .ne 11, 3) := by decide +kernel
theorem dX5_copy_53 : decode cX5_copy 53 = .ok (.aload_n 0, 1) := by decide +kernel
theorem dX5_copy_54 : decode cX5_copy 54 = .ok (.ldc_w 279, 3) := by decide +kernel
theorem dX5_copy_57 : decode cX5_copy 57 = .ok (.invokevirtual 73, 3) := by decide +kernel
theorem dX5_copy_60 : decode cX5_copy 60 = .ok (.ireturn, 1) := by decide +kernel
theorem dX5_copy_61 : decode cX5_copy 61 = .ok (.aload 6, 2) := by decide +kernel
theorem dX5_copy_63 : decode cX5_copy 63 = .ok (.getfield 276, 3) := by decide +kernel
theorem dX5_copy_66 : decode cX5_copy 66 = .ok (.aload 7, 2) := by decide +kernel
theorem dX5_copy_68 : decode cX5_copy 68 = .ok (.getfield 276, 3) := by decide +kernel
theorem dX5_copy_71 : decode cX5_copy 71 = .ok (.if_icmp .eq 10, 3) := by decide +kernel
theorem dX5_copy_74 : decode cX5_copy 74 = .ok (.aload_n 0, 1) := by decide +kernel
theorem dX5_copy_75 : decode cX5_copy 75 = .ok (.ldc 166, 2) := by decide +kernel
theorem dX5_copy_77 : decode cX5_copy 77 = .ok (.invokevirtual 73, 3) := by decide +kernel
theorem dX5_copy_80 : decode cX5_copy 80 = .ok (.ireturn, 1) := by decide +kernel
theorem dX5_copy_81 : decode cX5_copy 81 = .ok (.aload 6, 2) := by decide +kernel
theorem dX5_copy_83 : decode cX5_copy 83 = .ok (.iload_n 2, 1) := by decide +kernel
theorem dX5_copy_84 : decode cX5_copy 84 = .ok (.iload 5, 2) := by decide +kernel
theorem dX5_copy_86 : decode cX5_copy 86 = .ok (.invokevirtual 280, 3) := by decide +kernel
theorem dX5_copy_89 : decode cX5_copy 89 = .ok (.ifCond .eq 15, 3) := by decide +kernel
theorem dX5_copy_92 : decode cX5_copy 92 = .ok (.aload 7, 2) := by decide +kernel
theorem dX5_copy_94 : decode cX5_copy 94 = .ok (.iload 4, 2) := by decide +kernel
theorem dX5_copy_96 : decode cX5_copy 96 = .ok (.iload 5, 2) := by decide +kernel
theorem dX5_copy_98 : decode cX5_copy 98 = .ok (.invokevirtual 280, 3) := by decide +kernel
theorem dX5_copy_101 : decode cX5_copy 101 = .ok (.ifCond .ne 10, 3) := by decide +kernel
theorem dX5_copy_104 : decode cX5_copy 104 = .ok (.aload_n 0, 1) := by decide +kernel
theorem dX5_copy_105 : decode cX5_copy 105 = .ok (.ldc 72, 2) := by decide +kernel
theorem dX5_copy_107 : decode cX5_copy 107 = .ok (.invokevirtual 73, 3) := by decide +kernel
theorem dX5_copy_110 : decode cX5_copy 110 = .ok (.ireturn, 1) := by decide +kernel
theorem dX5_copy_111 : decode cX5_copy 111 = .ok (.aload 6, 2) := by decide +kernel
theorem dX5_copy_113 : decode cX5_copy 113 = .ok (.getfield 268, 3) := by decide +kernel
theorem dX5_copy_116 : decode cX5_copy 116 = .ok (.iload_n 2, 1) := by decide +kernel
theorem dX5_copy_117 : decode cX5_copy 117 = .ok (.aload 7, 2) := by decide +kernel
theorem dX5_copy_119 : decode cX5_copy 119 = .ok (.getfield 268, 3) := by decide +kernel
theorem dX5_copy_122 : decode cX5_copy 122 = .ok (.iload 4, 2) := by decide +kernel
theorem dX5_copy_124 : decode cX5_copy 124 = .ok (.iload 5, 2) := by decide +kernel
theorem dX5_copy_126 : decode cX5_copy 126 = .ok (.invokestatic 283, 3) := by decide +kernel
theorem dX5_copy_129 : decode cX5_copy 129 = .ok (.iload 5, 2) := by decide +kernel
theorem dX5_copy_131 : decode cX5_copy 131 = .ok (.ireturn, 1) := by decide +kernel
theorem dX5_lays_0 : decode cX5_lays 0 = .ok (.aload_n 0, 1) := by decide +kernel
theorem dX5_lays_1 : decode cX5_lays 1 = .ok (.iload_n 1, 1) := by decide +kernel
theorem dX5_lays_2 : decode cX5_lays 2 = .ok (.invokevirtual 265, 3) := by decide +kernel
theorem dX5_lays_5 : decode cX5_lays 5 = .ok (.istore_n 2, 1) := by decide +kernel
theorem dX5_lays_6 : decode cX5_lays 6 = .ok (.iload_n 2, 1) := by decide +kernel
theorem dX5_lays_7 : decode cX5_lays 7 = .ok (.ifCond .eq 9, 3) := by decide +kernel
theorem dX5_lays_10 : decode cX5_lays 10 = .ok (.aload_n 0, 1) := by decide +kernel
theorem dX5_lays_11 : decode cX5_lays 11 = .ok (.iload_n 2, 1) := by decide +kernel
theorem dX5_lays_12 : decode cX5_lays 12 = .ok (.invokevirtual 73, 3) := by decide +kernel
theorem dX5_lays_15 : decode cX5_lays 15 = .ok (.ireturn, 1) := by decide +kernel
theorem dX5_lays_16 : decode cX5_lays 16 = .ok (.aload_n 0, 1) := by decide +kernel
theorem dX5_lays_17 : decode cX5_lays 17 = .ok (.getfield 60, 3) := by decide +kernel
theorem dX5_lays_20 : decode cX5_lays 20 = .ok (.iload_n 1, 1) := by decide +kernel
theorem dX5_lays_21 : decode cX5_lays 21 = .ok (.aaload, 1) := by decide +kernel
theorem dX5_lays_22 : decode cX5_lays 22 = .ok (.astore_n 3, 1) := by decide +kernel
theorem dX5_lays_23 : decode cX5_lays 23 = .ok (.iconst 0, 1) := by decide +kernel
theorem dX5_lays_24 : decode cX5_lays 24 = .ok (.istore 4, 2) := by decide +kernel
theorem dX5_lays_26 : decode cX5_lays 26 = .ok (.iconst 0, 1) := by decide +kernel
theorem dX5_lays_27 : decode cX5_lays 27 = .ok (.istore 5, 2) := by decide +kernel
theorem dX5_lays_29 : decode cX5_lays 29 = .ok (.iload 5, 2) := by decide +kernel
theorem dX5_lays_31 : decode cX5_lays 31 = .ok (.aload_n 3, 1) := by decide +kernel
theorem dX5_lays_32 : decode cX5_lays 32 = .ok (.getfield 262, 3) := by decide +kernel
theorem dX5_lays_35 : decode cX5_lays 35 = .ok (.if_icmp .ge 61, 3) := by decide +kernel
theorem dX5_lays_38 : decode cX5_lays 38 = .ok (.iload 5, 2) := by decide +kernel
theorem dX5_lays_40 : decode cX5_lays 40 = .ok (.aload_n 0, 1) := by decide +kernel
theorem dX5_lays_41 : decode cX5_lays 41 = .ok (.getfield 12, 3) := by decide +kernel
theorem dX5_lays_44 : decode cX5_lays 44 = .ok (.getfield 77, 3) := by decide +kernel
theorem dX5_lays_47 : decode cX5_lays 47 = .ok (.if_icmp .ge 49, 3) := by decide +kernel
theorem dX5_lays_50 : decode cX5_lays 50 = .ok (.aload_n 3, 1) := by decide +kernel
theorem dX5_lays_51 : decode cX5_lays 51 = .ok (.getfield 268, 3) := by decide +kernel
theorem dX5_lays_54 : decode cX5_lays 54 = .ok (.iload 5, 2) := by decide +kernel
theorem dX5_lays_56 : decode cX5_lays 56 = .ok (.laload, 1) := by decide +kernel
theorem dX5_lays_57 : decode cX5_lays 57 = .ok (.lstore 6, 2) := by decide +kernel
theorem dX5_lays_59 : decode cX5_lays 59 = .ok (.lload 6, 2) := by decide +kernel
theorem dX5_lays_61 : decode cX5_lays 61 = .ok (.lconst 0, 1) := by decide +kernel
theorem dX5_lays_62 : decode cX5_lays 62 = .ok (.lcmp, 1) := by decide +kernel
theorem dX5_lays_63 : decode cX5_lays 63 = .ok (.ifCond .lt 27, 3) := by decide +kernel
theorem dX5_lays_66 : decode cX5_lays 66 = .ok (.lload 6, 2) := by decide +kernel
theorem dX5_lays_68 : decode cX5_lays 68 = .ok (.ldc2_w 289, 3) := by decide +kernel
theorem dX5_lays_71 : decode cX5_lays 71 = .ok (.lcmp, 1) := by decide +kernel
theorem dX5_lays_72 : decode cX5_lays 72 = .ok (.ifCond .gt 18, 3) := by decide +kernel
theorem dX5_lays_75 : decode cX5_lays 75 = .ok (.aload_n 0, 1) := by decide +kernel
theorem dX5_lays_76 : decode cX5_lays 76 = .ok (.getfield 12, 3) := by decide +kernel
theorem dX5_lays_79 : decode cX5_lays 79 = .ok (.iload 5, 2) := by decide +kernel
theorem dX5_lays_81 : decode cX5_lays 81 = .ok (.lload 6, 2) := by decide +kernel
theorem dX5_lays_83 : decode cX5_lays 83 = .ok (.l2i, 1) := by decide +kernel
theorem dX5_lays_84 : decode cX5_lays 84 = .ok (.invokevirtual 97, 3) := by decide +kernel
theorem dX5_lays_87 : decode cX5_lays 87 = .ok (.iinc 4 1, 3) := by decide +kernel
theorem dX5_lays_90 : decode cX5_lays 90 = .ok (.iinc 5 1, 3) := by decide +kernel
theorem dX5_lays_93 : decode cX5_lays 93 = .ok (.goto (-64), 3) := by decide +kernel
theorem dX5_lays_96 : decode cX5_lays 96 = .ok (.iload 4, 2) := by decide +kernel
theorem dX5_lays_98 : decode cX5_lays 98 = .ok (.ireturn, 1) := by decide +kernel
theorem dX5_book_0 : decode cX5_book 0 = .ok (.aload_n 0, 1) := by decide +kernel
theorem dX5_book_1 : decode cX5_book 1 = .ok (.iload_n 1, 1) := by decide +kernel
theorem dX5_book_2 : decode cX5_book 2 = .ok (.iload_n 2, 1) := by decide +kernel
theorem dX5_book_3 : decode cX5_book 3 = .ok (.invokevirtual 291, 3) := by decide +kernel
theorem dX5_book_6 : decode cX5_book 6 = .ok (.istore_n 3, 1) := by decide +kernel
theorem dX5_book_7 : decode cX5_book 7 = .ok (.iload_n 3, 1) := by decide +kernel
theorem dX5_book_8 : decode cX5_book 8 = .ok (.ifCond .eq 9, 3) := by decide +kernel
theorem dX5_book_11 : decode cX5_book 11 = .ok (.aload_n 0, 1) := by decide +kernel
theorem dX5_book_12 : decode cX5_book 12 = .ok (.iload_n 3, 1) := by decide +kernel
theorem dX5_book_13 : decode cX5_book 13 = .ok (.invokevirtual 73, 3) := by decide +kernel
theorem dX5_book_16 : decode cX5_book 16 = .ok (.ireturn, 1) := by decide +kernel
theorem dX5_book_17 : decode cX5_book 17 = .ok (.aload_n 0, 1) := by decide +kernel
theorem dX5_book_18 : decode cX5_book 18 = .ok (.getfield 60, 3) := by decide +kernel
theorem dX5_book_21 : decode cX5_book 21 = .ok (.iload_n 1, 1) := by decide +kernel
theorem dX5_book_22 : decode cX5_book 22 = .ok (.aaload, 1) := by decide +kernel
theorem dX5_book_23 : decode cX5_book 23 = .ok (.astore 4, 2) := by decide +kernel
theorem dX5_book_25 : decode cX5_book 25 = .ok (.aload_n 0, 1) := by decide +kernel
theorem dX5_book_26 : decode cX5_book 26 = .ok (.getfield 25, 3) := by decide +kernel
theorem dX5_book_29 : decode cX5_book 29 = .ok (.aload_n 0, 1) := by decide +kernel
theorem dX5_book_30 : decode cX5_book 30 = .ok (.getfield 12, 3) := by decide +kernel
theorem dX5_book_33 : decode cX5_book 33 = .ok (.getfield 138, 3) := by decide +kernel
theorem dX5_book_36 : decode cX5_book 36 = .ok (.iload_n 2, 1) := by decide +kernel
theorem dX5_book_37 : decode cX5_book 37 = .ok (.aaload, 1) := by decide +kernel
theorem dX5_book_38 : decode cX5_book 38 = .ok (.invokevirtual 182, 3) := by decide +kernel
theorem dX5_book_41 : decode cX5_book 41 = .ok (.iconst 0, 1) := by decide +kernel
theorem dX5_book_42 : decode cX5_book 42 = .ok (.istore 5, 2) := by decide +kernel
theorem dX5_book_44 : decode cX5_book 44 = .ok (.iload 5, 2) := by decide +kernel
theorem dX5_book_46 : decode cX5_book 46 = .ok (.aload 4, 2) := by decide +kernel
theorem dX5_book_48 : decode cX5_book 48 = .ok (.getfield 262, 3) := by decide +kernel
theorem dX5_book_51 : decode cX5_book 51 = .ok (.if_icmp .ge 39, 3) := by decide +kernel
theorem dX5_book_54 : decode cX5_book 54 = .ok (.aload 4, 2) := by decide +kernel
theorem dX5_book_56 : decode cX5_book 56 = .ok (.getfield 268, 3) := by decide +kernel
theorem dX5_book_59 : decode cX5_book 59 = .ok (.iload 5, 2) := by decide +kernel
theorem dX5_book_61 : decode cX5_book 61 = .ok (.aload_n 0, 1) := by decide +kernel
theorem dX5_book_62 : decode cX5_book 62 = .ok (.getfield 25, 3) := by decide +kernel
theorem dX5_book_65 : decode cX5_book 65 = .ok (.getfield 145, 3) := by decide +kernel
theorem dX5_book_68 : decode cX5_book 68 = .ok (.invokestatic 148, 3) := by decide +kernel
theorem dX5_book_71 : decode cX5_book 71 = .ok (.i2l, 1) := by decide +kernel
theorem dX5_book_72 : decode cX5_book 72 = .ok (.lastore, 1) := by decide +kernel
theorem dX5_book_73 : decode cX5_book 73 = .ok (.aload_n 0, 1) := by decide +kernel
theorem dX5_book_74 : decode cX5_book 74 = .ok (.getfield 25, 3) := by decide +kernel
theorem dX5_book_77 : decode cX5_book 77 = .ok (.aload_n 0, 1) := by decide +kernel
theorem dX5_book_78 : decode cX5_book 78 = .ok (.getfield 12, 3) := by decide +kernel
theorem dX5_book_81 : decode cX5_book 81 = .ok (.invokevirtual 167, 3) := by decide +kernel
theorem dX5_book_84 : decode cX5_book 84 = .ok (.iinc 5 1, 3) := by decide +kernel
theorem dX5_book_87 : decode cX5_book 87 = .ok (.goto (-43), 3) := by decide +kernel
theorem dX5_book_90 : decode cX5_book 90 = .ok (.aload 4, 2) := by decide +kernel
theorem dX5_book_92 : decode cX5_book 92 = .ok (.getfield 262, 3) := by decide +kernel
theorem dX5_book_95 : decode cX5_book 95 = .ok (.ireturn, 1) := by decide +kernel
theorem dX5_read_0 : decode cX5_read 0 = .ok (.aload_n 0, 1) := by decide +kernel
theorem dX5_read_1 : decode cX5_read 1 = .ok (.iload_n 1, 1) := by decide +kernel
theorem dX5_read_2 : decode cX5_read 2 = .ok (.iload_n 2, 1) := by decide +kernel
theorem dX5_read_3 : decode cX5_read 3 = .ok (.invokevirtual 291, 3) := by decide +kernel
theorem dX5_read_6 : decode cX5_read 6 = .ok (.istore_n 3, 1) := by decide +kernel
theorem dX5_read_7 : decode cX5_read 7 = .ok (.iload_n 3, 1) := by decide +kernel
theorem dX5_read_8 : decode cX5_read 8 = .ok (.ifCond .eq 9, 3) := by decide +kernel
theorem dX5_read_11 : decode cX5_read 11 = .ok (.aload_n 0, 1) := by decide +kernel
theorem dX5_read_12 : decode cX5_read 12 = .ok (.iload_n 3, 1) := by decide +kernel
theorem dX5_read_13 : decode cX5_read 13 = .ok (.invokevirtual 73, 3) := by decide +kernel
theorem dX5_read_16 : decode cX5_read 16 = .ok (.ireturn, 1) := by decide +kernel
theorem dX5_read_17 : decode cX5_read 17 = .ok (.iconst 0, 1) := by decide +kernel
theorem dX5_read_18 : decode cX5_read 18 = .ok (.istore 4, 2) := by decide +kernel
theorem dX5_read_20 : decode cX5_read 20 = .ok (.iconst 0, 1) := by decide +kernel
theorem dX5_read_21 : decode cX5_read 21 = .ok (.istore 5, 2) := by decide +kernel
theorem dX5_read_23 : decode cX5_read 23 = .ok (.iload 5, 2) := by decide +kernel
theorem dX5_read_25 : decode cX5_read 25 = .ok (.aload_n 0, 1) := by decide +kernel
theorem dX5_read_26 : decode cX5_read 26 = .ok (.getfield 12, 3) := by decide +kernel
theorem dX5_read_29 : decode cX5_read 29 = .ok (.invokevirtual 216, 3) := by decide +kernel
theorem dX5_read_32 : decode cX5_read 32 = .ok (.if_icmp .ge 50, 3) := by decide +kernel
theorem dX5_read_35 : decode cX5_read 35 = .ok (.aload_n 0, 1) := by decide +kernel
theorem dX5_read_36 : decode cX5_read 36 = .ok (.getfield 25, 3) := by decide +kernel
theorem dX5_read_39 : decode cX5_read 39 = .ok (.aload_n 0, 1) := by decide +kernel
theorem dX5_read_40 : decode cX5_read 40 = .ok (.getfield 12, 3) := by decide +kernel
theorem dX5_read_43 : decode cX5_read 43 = .ok (.getfield 138, 3) := by decide +kernel
theorem dX5_read_46 : decode cX5_read 46 = .ok (.iload_n 2, 1) := by decide +kernel
theorem dX5_read_47 : decode cX5_read 47 = .ok (.aaload, 1) := by decide +kernel
theorem dX5_read_48 : decode cX5_read 48 = .ok (.invokevirtual 182, 3) := by decide +kernel
theorem dX5_read_51 : decode cX5_read 51 = .ok (.aload_n 0, 1) := by decide +kernel
theorem dX5_read_52 : decode cX5_read 52 = .ok (.getfield 25, 3) := by decide +kernel
theorem dX5_read_55 : decode cX5_read 55 = .ok (.iload 5, 2) := by decide +kernel
theorem dX5_read_57 : decode cX5_read 57 = .ok (.putfield 145, 3) := by decide +kernel
theorem dX5_read_60 : decode cX5_read 60 = .ok (.aload_n 0, 1) := by decide +kernel
theorem dX5_read_61 : decode cX5_read 61 = .ok (.aload_n 0, 1) := by decide +kernel
theorem dX5_read_62 : decode cX5_read 62 = .ok (.getfield 60, 3) := by decide +kernel
theorem dX5_read_65 : decode cX5_read 65 = .ok (.iload_n 1, 1) := by decide +kernel
theorem dX5_read_66 : decode cX5_read 66 = .ok (.aaload, 1) := by decide +kernel
theorem dX5_read_67 : decode cX5_read 67 = .ok (.invokevirtual 294, 3) := by decide +kernel
theorem dX5_read_70 : decode cX5_read 70 = .ok (.ifCond .eq 6, 3) := by decide +kernel
theorem dX5_read_73 : decode cX5_read 73 = .ok (.iinc 4 1, 3) := by decide +kernel
theorem dX5_read_76 : decode cX5_read 76 = .ok (.iinc 5 1, 3) := by decide +kernel
theorem dX5_read_79 : decode cX5_read 79 = .ok (.goto (-56), 3) := by decide +kernel
theorem dX5_read_82 : decode cX5_read 82 = .ok (.iload 4, 2) := by decide +kernel
theorem dX5_read_84 : decode cX5_read 84 = .ok (.ireturn, 1) := by decide +kernel
theorem dX5_image_0 : decode cX5_image 0 = .ok (.aload_n 0, 1) := by decide +kernel
theorem dX5_image_1 : decode cX5_image 1 = .ok (.getfield 16, 3) := by decide +kernel
theorem dX5_image_4 : decode cX5_image 4 = .ok (.aload_n 0, 1) := by decide +kernel
theorem dX5_image_5 : decode cX5_image 5 = .ok (.getfield 12, 3) := by decide +kernel
theorem dX5_image_8 : decode cX5_image 8 = .ok (.invokevirtual 250, 3) := by decide +kernel
theorem dX5_image_11 : decode cX5_image 11 = .ok (.aload_n 0, 1) := by decide +kernel
theorem dX5_image_12 : decode cX5_image 12 = .ok (.iconst 1, 1) := by decide +kernel
theorem dX5_image_13 : decode cX5_image 13 = .ok (.putfield 298, 3) := by decide +kernel
theorem dX5_image_16 : decode cX5_image 16 = .ok (.iconst 1, 1) := by decide +kernel
theorem dX5_image_17 : decode cX5_image 17 = .ok (.ireturn, 1) := by decide +kernel
theorem dX5_undo_0 : decode cX5_undo 0 = .ok (.aload_n 0, 1) := by decide +kernel
theorem dX5_undo_1 : decode cX5_undo 1 = .ok (.getfield 298, 3) := by decide +kernel
theorem dX5_undo_4 : decode cX5_undo 4 = .ok (.ifCond .ne 10, 3) := by decide +kernel
theorem dX5_undo_7 : decode cX5_undo 7 = .ok (.aload_n 0, 1) := by decide +kernel
theorem dX5_undo_8 : decode cX5_undo 8 = .ok (.ldc 186, 2) := by decide +kernel
theorem dX5_undo_10 : decode cX5_undo 10 = .ok (.invokevirtual 73, 3) := by decide +kernel
theorem dX5_undo_13 : decode cX5_undo 13 = .ok (.ireturn, 1) := by decide +kernel
theorem dX5_undo_14 : decode cX5_undo 14 = .ok (.aload_n 0, 1) := by decide +kernel
theorem dX5_undo_15 : decode cX5_undo 15 = .ok (.getfield 12, 3) := by decide +kernel
theorem dX5_undo_18 : decode cX5_undo 18 = .ok (.aload_n 0, 1) := by decide +kernel
theorem dX5_undo_19 : decode cX5_undo 19 = .ok (.getfield 16, 3) := by decide +kernel
theorem dX5_undo_22 : decode cX5_undo 22 = .ok (.invokevirtual 250, 3) := by decide +kernel
theorem dX5_undo_25 : decode cX5_undo 25 = .ok (.aload_n 0, 1) := by decide +kernel
theorem dX5_undo_26 : decode cX5_undo 26 = .ok (.getfield 12, 3) := by decide +kernel
theorem dX5_undo_29 : decode cX5_undo 29 = .ok (.getfield 77, 3) := by decide +kernel
theorem dX5_undo_32 : decode cX5_undo 32 = .ok (.ireturn, 1) := by decide +kernel
theorem dX5_tear_0 : decode cX5_tear 0 = .ok (.aload_n 0, 1) := by decide +kernel
theorem dX5_tear_1 : decode cX5_tear 1 = .ok (.getfield 298, 3) := by decide +kernel
theorem dX5_tear_4 : decode cX5_tear 4 = .ok (.ifCond .eq 7, 3) := by decide +kernel
theorem dX5_tear_7 : decode cX5_tear 7 = .ok (.iconst 1, 1) := by decide +kernel
theorem dX5_tear_8 : decode cX5_tear 8 = .ok (.goto 4, 3) := by decide +kernel
theorem dX5_tear_11 : decode cX5_tear 11 = .ok (.iconst 0, 1) := by decide +kernel
theorem dX5_tear_12 : decode cX5_tear 12 = .ok (.istore_n 1, 1) := by decide +kernel
theorem dX5_tear_13 : decode cX5_tear 13 = .ok (.aload_n 0, 1) := by decide +kernel
theorem dX5_tear_14 : decode cX5_tear 14 = .ok (.iconst 0, 1) := by decide +kernel
theorem dX5_tear_15 : decode cX5_tear 15 = .ok (.putfield 298, 3) := by decide +kernel
theorem dX5_tear_18 : decode cX5_tear 18 = .ok (.iload_n 1, 1) := by decide +kernel
theorem dX5_tear_19 : decode cX5_tear 19 = .ok (.ireturn, 1) := by decide +kernel
theorem dX5_count_0 : decode cX5_count 0 = .ok (.iload_n 1, 1) := by decide +kernel
theorem dX5_count_1 : decode cX5_count 1 = .ok (.tableswitch 75 0 4 #[35, 43, 51, 59, 67], 35) := by decide +kernel
theorem dX5_count_36 : decode cX5_count 36 = .ok (.aload_n 0, 1) := by decide +kernel
theorem dX5_count_37 : decode cX5_count 37 = .ok (.getfield 12, 3) := by decide +kernel
theorem dX5_count_40 : decode cX5_count 40 = .ok (.getfield 77, 3) := by decide +kernel
theorem dX5_count_43 : decode cX5_count 43 = .ok (.ireturn, 1) := by decide +kernel
theorem dX5_count_44 : decode cX5_count 44 = .ok (.aload_n 0, 1) := by decide +kernel
theorem dX5_count_45 : decode cX5_count 45 = .ok (.getfield 12, 3) := by decide +kernel
theorem dX5_count_48 : decode cX5_count 48 = .ok (.getfield 129, 3) := by decide +kernel
theorem dX5_count_51 : decode cX5_count 51 = .ok (.ireturn, 1) := by decide +kernel
theorem dX5_count_52 : decode cX5_count 52 = .ok (.aload_n 0, 1) := by decide +kernel
theorem dX5_count_53 : decode cX5_count 53 = .ok (.getfield 45, 3) := by decide +kernel
theorem dX5_count_56 : decode cX5_count 56 = .ok (.getfield 244, 3) := by decide +kernel
theorem dX5_count_59 : decode cX5_count 59 = .ok (.ireturn, 1) := by decide +kernel
theorem dX5_count_60 : decode cX5_count 60 = .ok (.aload_n 0, 1) := by decide +kernel
theorem dX5_count_61 : decode cX5_count 61 = .ok (.getfield 12, 3) := by decide +kernel
theorem dX5_count_64 : decode cX5_count 64 = .ok (.invokevirtual 302, 3) := by decide +kernel
theorem dX5_count_67 : decode cX5_count 67 = .ok (.ireturn, 1) := by decide +kernel
theorem dX5_count_68 : decode cX5_count 68 = .ok (.aload_n 0, 1) := by decide +kernel
theorem dX5_count_69 : decode cX5_count 69 = .ok (.getfield 12, 3) := by decide +kernel
theorem dX5_count_72 : decode cX5_count 72 = .ok (.invokevirtual 175, 3) := by decide +kernel
theorem dX5_count_75 : decode cX5_count 75 = .ok (.ireturn, 1) := by decide +kernel
theorem dX5_count_76 : decode cX5_count 76 = .ok (.aload_n 0, 1) := by decide +kernel
theorem dX5_count_77 : decode cX5_count 77 = .ok (.ldc 72, 2) := by decide +kernel
theorem dX5_count_79 : decode cX5_count 79 = .ok (.invokevirtual 73, 3) := by decide +kernel
theorem dX5_count_82 : decode cX5_count 82 = .ok (.ireturn, 1) := by decide +kernel
theorem dX5_status_0 : decode cX5_status 0 = .ok (.iload_n 1, 1) := by decide +kernel
theorem dX5_status_1 : decode cX5_status 1 = .ok (.iconst (-1), 1) := by decide +kernel
theorem dX5_status_2 : decode cX5_status 2 = .ok (.if_icmp .lt 9, 3) := by decide +kernel
theorem dX5_status_5 : decode cX5_status 5 = .ok (.iload_n 1, 1) := by decide +kernel
theorem dX5_status_6 : decode cX5_status 6 = .ok (.bipush 7, 2) := by decide +kernel
theorem dX5_status_8 : decode cX5_status 8 = .ok (.if_icmp .lt 10, 3) := by decide +kernel
theorem dX5_status_11 : decode cX5_status 11 = .ok (.aload_n 0, 1) := by decide +kernel
theorem dX5_status_12 : decode cX5_status 12 = .ok (.ldc 72, 2) := by decide +kernel
theorem dX5_status_14 : decode cX5_status 14 = .ok (.invokevirtual 73, 3) := by decide +kernel
theorem dX5_status_17 : decode cX5_status 17 = .ok (.ireturn, 1) := by decide +kernel
theorem dX5_status_18 : decode cX5_status 18 = .ok (.iload_n 1, 1) := by decide +kernel
theorem dX5_status_19 : decode cX5_status 19 = .ok (.ifCond .lt 10, 3) := by decide +kernel
theorem dX5_status_22 : decode cX5_status 22 = .ok (.aload_n 0, 1) := by decide +kernel
theorem dX5_status_23 : decode cX5_status 23 = .ok (.getfield 64, 3) := by decide +kernel
theorem dX5_status_26 : decode cX5_status 26 = .ok (.iload_n 1, 1) := by decide +kernel
theorem dX5_status_27 : decode cX5_status 27 = .ok (.iaload, 1) := by decide +kernel
theorem dX5_status_28 : decode cX5_status 28 = .ok (.ireturn, 1) := by decide +kernel
theorem dX5_status_29 : decode cX5_status 29 = .ok (.iconst 0, 1) := by decide +kernel
theorem dX5_status_30 : decode cX5_status 30 = .ok (.istore_n 2, 1) := by decide +kernel
theorem dX5_status_31 : decode cX5_status 31 = .ok (.iconst 0, 1) := by decide +kernel
theorem dX5_status_32 : decode cX5_status 32 = .ok (.istore_n 3, 1) := by decide +kernel
theorem dX5_status_33 : decode cX5_status 33 = .ok (.iload_n 3, 1) := by decide +kernel
theorem dX5_status_34 : decode cX5_status 34 = .ok (.bipush 7, 2) := by decide +kernel
theorem dX5_status_36 : decode cX5_status 36 = .ok (.if_icmp .ge 18, 3) := by decide +kernel
theorem dX5_status_39 : decode cX5_status 39 = .ok (.iload_n 2, 1) := by decide +kernel
theorem dX5_status_40 : decode cX5_status 40 = .ok (.aload_n 0, 1) := by decide +kernel
theorem dX5_status_41 : decode cX5_status 41 = .ok (.getfield 64, 3) := by decide +kernel
theorem dX5_status_44 : decode cX5_status 44 = .ok (.iload_n 3, 1) := by decide +kernel
theorem dX5_status_45 : decode cX5_status 45 = .ok (.iaload, 1) := by decide +kernel
theorem dX5_status_46 : decode cX5_status 46 = .ok (.iadd, 1) := by decide +kernel
theorem dX5_status_47 : decode cX5_status 47 = .ok (.istore_n 2, 1) := by decide +kernel
theorem dX5_status_48 : decode cX5_status 48 = .ok (.iinc 3 1, 3) := by decide +kernel
theorem dX5_status_51 : decode cX5_status 51 = .ok (.goto (-18), 3) := by decide +kernel
theorem dX5_status_54 : decode cX5_status 54 = .ok (.iload_n 2, 1) := by decide +kernel
theorem dX5_status_55 : decode cX5_status 55 = .ok (.ireturn, 1) := by decide +kernel
theorem dX5_tell_0 : decode cX5_tell 0 = .ok (.ldc 72, 2) := by decide +kernel
theorem dX5_tell_2 : decode cX5_tell 2 = .ok (.iload_n 1, 1) := by decide +kernel
theorem dX5_tell_3 : decode cX5_tell 3 = .ok (.isub, 1) := by decide +kernel
theorem dX5_tell_4 : decode cX5_tell 4 = .ok (.istore_n 2, 1) := by decide +kernel
theorem dX5_tell_5 : decode cX5_tell 5 = .ok (.iload_n 2, 1) := by decide +kernel
theorem dX5_tell_6 : decode cX5_tell 6 = .ok (.ifCond .lt 19, 3) := by decide +kernel
theorem dX5_tell_9 : decode cX5_tell 9 = .ok (.iload_n 2, 1) := by decide +kernel
theorem dX5_tell_10 : decode cX5_tell 10 = .ok (.bipush 7, 2) := by decide +kernel
theorem dX5_tell_12 : decode cX5_tell 12 = .ok (.if_icmp .ge 13, 3) := by decide +kernel
theorem dX5_tell_15 : decode cX5_tell 15 = .ok (.aload_n 0, 1) := by decide +kernel
theorem dX5_tell_16 : decode cX5_tell 16 = .ok (.getfield 64, 3) := by decide +kernel
theorem dX5_tell_19 : decode cX5_tell 19 = .ok (.iload_n 2, 1) := by decide +kernel
theorem dX5_tell_20 : decode cX5_tell 20 = .ok (.dup2, 1) := by decide +kernel
theorem dX5_tell_21 : decode cX5_tell 21 = .ok (.iaload, 1) := by decide +kernel
theorem dX5_tell_22 : decode cX5_tell 22 = .ok (.iconst 1, 1) := by decide +kernel
theorem dX5_tell_23 : decode cX5_tell 23 = .ok (.iadd, 1) := by decide +kernel
theorem dX5_tell_24 : decode cX5_tell 24 = .ok (.iastore, 1) := by decide +kernel
theorem dX5_tell_25 : decode cX5_tell 25 = .ok (.iload_n 1, 1) := by decide +kernel
theorem dX5_tell_26 : decode cX5_tell 26 = .ok (.ireturn, 1) := by decide +kernel
theorem dX5_numberOrNone_0 : decode cX5_numberOrNone 0 = .ok (.iload_n 1, 1) := by decide +kernel
theorem dX5_numberOrNone_1 : decode cX5_numberOrNone 1 = .ok (.iconst (-1), 1) := by decide +kernel
theorem dX5_numberOrNone_2 : decode cX5_numberOrNone 2 = .ok (.if_icmp .ne 12, 3) := by decide +kernel
theorem dX5_numberOrNone_5 : decode cX5_numberOrNone 5 = .ok (.aload_n 0, 1) := by decide +kernel
theorem dX5_numberOrNone_6 : decode cX5_numberOrNone 6 = .ok (.ldc 186, 2) := by decide +kernel
theorem dX5_numberOrNone_8 : decode cX5_numberOrNone 8 = .ok (.invokevirtual 73, 3) := by decide +kernel
theorem dX5_numberOrNone_11 : decode cX5_numberOrNone 11 = .ok (.goto 4, 3) := by decide +kernel
theorem dX5_numberOrNone_14 : decode cX5_numberOrNone 14 = .ok (.iload_n 1, 1) := by decide +kernel
theorem dX5_numberOrNone_15 : decode cX5_numberOrNone 15 = .ok (.ireturn, 1) := by decide +kernel
theorem dX5_least_0 : decode cX5_least 0 = .ok (.aload_n 0, 1) := by decide +kernel
theorem dX5_least_1 : decode cX5_least 1 = .ok (.getfield 12, 3) := by decide +kernel
theorem dX5_least_4 : decode cX5_least 4 = .ok (.iload_n 1, 1) := by decide +kernel
theorem dX5_least_5 : decode cX5_least 5 = .ok (.invokevirtual 85, 3) := by decide +kernel
theorem dX5_least_8 : decode cX5_least 8 = .ok (.ifCond .eq 14, 3) := by decide +kernel
theorem dX5_least_11 : decode cX5_least 11 = .ok (.aload_n 0, 1) := by decide +kernel
theorem dX5_least_12 : decode cX5_least 12 = .ok (.getfield 12, 3) := by decide +kernel
theorem dX5_least_15 : decode cX5_least 15 = .ok (.iload_n 2, 1) := by decide +kernel
theorem dX5_least_16 : decode cX5_least 16 = .ok (.invokevirtual 85, 3) := by decide +kernel
theorem dX5_least_19 : decode cX5_least 19 = .ok (.ifCond .ne 10, 3) := by decide +kernel
theorem dX5_least_22 : decode cX5_least 22 = .ok (.aload_n 0, 1) := by decide +kernel
theorem dX5_least_23 : decode cX5_least 23 = .ok (.ldc 72, 2) := by decide +kernel
theorem dX5_least_25 : decode cX5_least 25 = .ok (.invokevirtual 73, 3) := by decide +kernel
theorem dX5_least_28 : decode cX5_least 28 = .ok (.ireturn, 1) := by decide +kernel
theorem dX5_least_29 : decode cX5_least 29 = .ok (.aload_n 0, 1) := by decide +kernel
theorem dX5_least_30 : decode cX5_least 30 = .ok (.getfield 12, 3) := by decide +kernel
theorem dX5_least_33 : decode cX5_least 33 = .ok (.aload_n 0, 1) := by decide +kernel
theorem dX5_least_34 : decode cX5_least 34 = .ok (.getfield 32, 3) := by decide +kernel
theorem dX5_least_37 : decode cX5_least 37 = .ok (.iload_n 1, 1) := by decide +kernel
theorem dX5_least_38 : decode cX5_least 38 = .ok (.iload_n 3, 1) := by decide +kernel
theorem dX5_least_39 : decode cX5_least 39 = .ok (.invokevirtual 219, 3) := by decide +kernel
theorem dX5_least_42 : decode cX5_least 42 = .ok (.aload_n 0, 1) := by decide +kernel
theorem dX5_least_43 : decode cX5_least 43 = .ok (.getfield 32, 3) := by decide +kernel
theorem dX5_least_46 : decode cX5_least 46 = .ok (.iload_n 2, 1) := by decide +kernel
theorem dX5_least_47 : decode cX5_least 47 = .ok (.iaload, 1) := by decide +kernel
theorem dX5_least_48 : decode cX5_least 48 = .ok (.istore 4, 2) := by decide +kernel
theorem dX5_least_50 : decode cX5_least 50 = .ok (.iload 4, 2) := by decide +kernel
theorem dX5_least_52 : decode cX5_least 52 = .ok (.ldc 235, 2) := by decide +kernel
theorem dX5_least_54 : decode cX5_least 54 = .ok (.if_icmp .ne 12, 3) := by decide +kernel
theorem dX5_least_57 : decode cX5_least 57 = .ok (.aload_n 0, 1) := by decide +kernel
theorem dX5_least_58 : decode cX5_least 58 = .ok (.ldc 186, 2) := by decide +kernel
theorem dX5_least_60 : decode cX5_least 60 = .ok (.invokevirtual 73, 3) := by decide +kernel
theorem dX5_least_63 : decode cX5_least 63 = .ok (.goto 5, 3) := by decide +kernel
theorem dX5_least_66 : decode cX5_least 66 = .ok (.iload 4, 2) := by decide +kernel
theorem dX5_least_68 : decode cX5_least 68 = .ok (.ireturn, 1) := by decide +kernel
theorem dX5_reached_0 : decode cX5_reached 0 = .ok (.iconst 0, 1) := by decide +kernel
theorem dX5_reached_1 : decode cX5_reached 1 = .ok (.istore_n 2, 1) := by decide +kernel
theorem dX5_reached_2 : decode cX5_reached 2 = .ok (.iconst 0, 1) := by decide +kernel
theorem dX5_reached_3 : decode cX5_reached 3 = .ok (.istore_n 3, 1) := by decide +kernel
theorem dX5_reached_4 : decode cX5_reached 4 = .ok (.iload_n 3, 1) := by decide +kernel
theorem dX5_reached_5 : decode cX5_reached 5 = .ok (.aload_n 0, 1) := by decide +kernel
theorem dX5_reached_6 : decode cX5_reached 6 = .ok (.getfield 12, 3) := by decide +kernel
theorem dX5_reached_9 : decode cX5_reached 9 = .ok (.getfield 77, 3) := by decide +kernel
theorem dX5_reached_12 : decode cX5_reached 12 = .ok (.if_icmp .ge 25, 3) := by decide +kernel
theorem dX5_reached_15 : decode cX5_reached 15 = .ok (.aload_n 0, 1) := by decide +kernel
theorem dX5_reached_16 : decode cX5_reached 16 = .ok (.getfield 32, 3) := by decide +kernel
theorem dX5_reached_19 : decode cX5_reached 19 = .ok (.iload_n 3, 1) := by decide +kernel
theorem dX5_reached_20 : decode cX5_reached 20 = .ok (.iaload, 1) := by decide +kernel
theorem dX5_reached_21 : decode cX5_reached 21 = .ok (.iload_n 1, 1) := by decide +kernel
theorem dX5_reached_22 : decode cX5_reached 22 = .ok (.if_icmp .gt 9, 3) := by decide +kernel
theorem dX5_reached_25 : decode cX5_reached 25 = .ok (.iload_n 2, 1) := by decide +kernel
theorem dX5_reached_26 : decode cX5_reached 26 = .ok (.iconst 1, 1) := by decide +kernel
theorem dX5_reached_27 : decode cX5_reached 27 = .ok (.iload_n 3, 1) := by decide +kernel
theorem dX5_reached_28 : decode cX5_reached 28 = .ok (.ishl, 1) := by decide +kernel
theorem dX5_reached_29 : decode cX5_reached 29 = .ok (.ior, 1) := by decide +kernel
theorem dX5_reached_30 : decode cX5_reached 30 = .ok (.istore_n 2, 1) := by decide +kernel
theorem dX5_reached_31 : decode cX5_reached 31 = .ok (.iinc 3 1, 3) := by decide +kernel
theorem dX5_reached_34 : decode cX5_reached 34 = .ok (.goto (-30), 3) := by decide +kernel
theorem dX5_reached_37 : decode cX5_reached 37 = .ok (.iload_n 2, 1) := by decide +kernel
theorem dX5_reached_38 : decode cX5_reached 38 = .ok (.ireturn, 1) := by decide +kernel
theorem dX5_farThrough_0 : decode cX5_farThrough 0 = .ok (.aload_n 0, 1) := by decide +kernel
theorem dX5_farThrough_1 : decode cX5_farThrough 1 = .ok (.getfield 32, 3) := by decide +kernel
theorem dX5_farThrough_4 : decode cX5_farThrough 4 = .ok (.iload_n 1, 1) := by decide +kernel
theorem dX5_farThrough_5 : decode cX5_farThrough 5 = .ok (.iaload, 1) := by decide +kernel
theorem dX5_farThrough_6 : decode cX5_farThrough 6 = .ok (.aload_n 0, 1) := by decide +kernel
theorem dX5_farThrough_7 : decode cX5_farThrough 7 = .ok (.getfield 36, 3) := by decide +kernel
theorem dX5_farThrough_10 : decode cX5_farThrough 10 = .ok (.iload_n 2, 1) := by decide +kernel
theorem dX5_farThrough_11 : decode cX5_farThrough 11 = .ok (.iaload, 1) := by decide +kernel
theorem dX5_farThrough_12 : decode cX5_farThrough 12 = .ok (.iadd, 1) := by decide +kernel
theorem dX5_farThrough_13 : decode cX5_farThrough 13 = .ok (.istore_n 3, 1) := by decide +kernel
theorem dX5_farThrough_14 : decode cX5_farThrough 14 = .ok (.aload_n 0, 1) := by decide +kernel
theorem dX5_farThrough_15 : decode cX5_farThrough 15 = .ok (.getfield 32, 3) := by decide +kernel
theorem dX5_farThrough_18 : decode cX5_farThrough 18 = .ok (.iload_n 2, 1) := by decide +kernel
theorem dX5_farThrough_19 : decode cX5_farThrough 19 = .ok (.iaload, 1) := by decide +kernel
theorem dX5_farThrough_20 : decode cX5_farThrough 20 = .ok (.aload_n 0, 1) := by decide +kernel
theorem dX5_farThrough_21 : decode cX5_farThrough 21 = .ok (.getfield 36, 3) := by decide +kernel
theorem dX5_farThrough_24 : decode cX5_farThrough 24 = .ok (.iload_n 1, 1) := by decide +kernel
theorem dX5_farThrough_25 : decode cX5_farThrough 25 = .ok (.iaload, 1) := by decide +kernel
theorem dX5_farThrough_26 : decode cX5_farThrough 26 = .ok (.iadd, 1) := by decide +kernel
theorem dX5_farThrough_27 : decode cX5_farThrough 27 = .ok (.istore 4, 2) := by decide +kernel
theorem dX5_farThrough_29 : decode cX5_farThrough 29 = .ok (.iload_n 3, 1) := by decide +kernel
theorem dX5_farThrough_30 : decode cX5_farThrough 30 = .ok (.iload 4, 2) := by decide +kernel
theorem dX5_farThrough_32 : decode cX5_farThrough 32 = .ok (.invokestatic 236, 3) := by decide +kernel
theorem dX5_farThrough_35 : decode cX5_farThrough 35 = .ok (.iconst 1, 1) := by decide +kernel
theorem dX5_farThrough_36 : decode cX5_farThrough 36 = .ok (.iadd, 1) := by decide +kernel
theorem dX5_farThrough_37 : decode cX5_farThrough 37 = .ok (.ireturn, 1) := by decide +kernel
theorem dX5_sheetFinding_0 : decode cX5_sheetFinding 0 = .ok (.iload_n 1, 1) := by decide +kernel
theorem dX5_sheetFinding_1 : decode cX5_sheetFinding 1 = .ok (.invokestatic 255, 3) := by decide +kernel
theorem dX5_sheetFinding_4 : decode cX5_sheetFinding 4 = .ok (.ifCond .ne 6, 3) := by decide +kernel
theorem dX5_sheetFinding_7 : decode cX5_sheetFinding 7 = .ok (.ldc 72, 2) := by decide +kernel
theorem dX5_sheetFinding_9 : decode cX5_sheetFinding 9 = .ok (.ireturn, 1) := by decide +kernel
theorem dX5_sheetFinding_10 : decode cX5_sheetFinding 10 = .ok (.aload_n 0, 1) := by decide +kernel
theorem dX5_sheetFinding_11 : decode cX5_sheetFinding 11 = .ok (.getfield 60, 3) := by decide +kernel
theorem dX5_sheetFinding_14 : decode cX5_sheetFinding 14 = .ok (.iload_n 1, 1) := by decide +kernel
theorem dX5_sheetFinding_15 : decode cX5_sheetFinding 15 = .ok (.aaload, 1) := by decide +kernel
theorem dX5_sheetFinding_16 : decode cX5_sheetFinding 16 = .ok (.getfield 276, 3) := by decide +kernel
theorem dX5_sheetFinding_19 : decode cX5_sheetFinding 19 = .ok (.ifCond .ne 9, 3) := by decide +kernel
theorem dX5_sheetFinding_22 : decode cX5_sheetFinding 22 = .ok (.ldc_w 279, 3) := by decide +kernel
theorem dX5_sheetFinding_25 : decode cX5_sheetFinding 25 = .ok (.goto 4, 3) := by decide +kernel
theorem dX5_sheetFinding_28 : decode cX5_sheetFinding 28 = .ok (.iconst 0, 1) := by decide +kernel
theorem dX5_sheetFinding_29 : decode cX5_sheetFinding 29 = .ok (.ireturn, 1) := by decide +kernel
theorem dX5_bookFinding_0 : decode cX5_bookFinding 0 = .ok (.aload_n 0, 1) := by decide +kernel
theorem dX5_bookFinding_1 : decode cX5_bookFinding 1 = .ok (.iload_n 1, 1) := by decide +kernel
theorem dX5_bookFinding_2 : decode cX5_bookFinding 2 = .ok (.invokevirtual 265, 3) := by decide +kernel
theorem dX5_bookFinding_5 : decode cX5_bookFinding 5 = .ok (.istore_n 3, 1) := by decide +kernel
theorem dX5_bookFinding_6 : decode cX5_bookFinding 6 = .ok (.iload_n 3, 1) := by decide +kernel
theorem dX5_bookFinding_7 : decode cX5_bookFinding 7 = .ok (.ifCond .eq 5, 3) := by decide +kernel
theorem dX5_bookFinding_10 : decode cX5_bookFinding 10 = .ok (.iload_n 3, 1) := by decide +kernel
theorem dX5_bookFinding_11 : decode cX5_bookFinding 11 = .ok (.ireturn, 1) := by decide +kernel
theorem dX5_bookFinding_12 : decode cX5_bookFinding 12 = .ok (.aload_n 0, 1) := by decide +kernel
theorem dX5_bookFinding_13 : decode cX5_bookFinding 13 = .ok (.getfield 12, 3) := by decide +kernel
theorem dX5_bookFinding_16 : decode cX5_bookFinding 16 = .ok (.iload_n 2, 1) := by decide +kernel
theorem dX5_bookFinding_17 : decode cX5_bookFinding 17 = .ok (.invokevirtual 135, 3) := by decide +kernel
theorem dX5_bookFinding_20 : decode cX5_bookFinding 20 = .ok (.ifCond .eq 7, 3) := by decide +kernel
theorem dX5_bookFinding_23 : decode cX5_bookFinding 23 = .ok (.iconst 0, 1) := by decide +kernel
theorem dX5_bookFinding_24 : decode cX5_bookFinding 24 = .ok (.goto 5, 3) := by decide +kernel
theorem dX5_bookFinding_27 : decode cX5_bookFinding 27 = .ok (.ldc 72, 2) := by decide +kernel
theorem dX5_bookFinding_29 : decode cX5_bookFinding 29 = .ok (.ireturn, 1) := by decide +kernel
theorem dX5_goesByBook_0 : decode cX5_goesByBook 0 = .ok (.iconst 0, 1) := by decide +kernel
theorem dX5_goesByBook_1 : decode cX5_goesByBook 1 = .ok (.istore_n 2, 1) := by decide +kernel
theorem dX5_goesByBook_2 : decode cX5_goesByBook 2 = .ok (.iload_n 2, 1) := by decide +kernel
theorem dX5_goesByBook_3 : decode cX5_goesByBook 3 = .ok (.aload_n 1, 1) := by decide +kernel
theorem dX5_goesByBook_4 : decode cX5_goesByBook 4 = .ok (.getfield 262, 3) := by decide +kernel
theorem dX5_goesByBook_7 : decode cX5_goesByBook 7 = .ok (.if_icmp .ge 43, 3) := by decide +kernel
theorem dX5_goesByBook_10 : decode cX5_goesByBook 10 = .ok (.aload_n 1, 1) := by decide +kernel
theorem dX5_goesByBook_11 : decode cX5_goesByBook 11 = .ok (.getfield 268, 3) := by decide +kernel
theorem dX5_goesByBook_14 : decode cX5_goesByBook 14 = .ok (.iload_n 2, 1) := by decide +kernel
theorem dX5_goesByBook_15 : decode cX5_goesByBook 15 = .ok (.laload, 1) := by decide +kernel
theorem dX5_goesByBook_16 : decode cX5_goesByBook 16 = .ok (.aload_n 0, 1) := by decide +kernel
theorem dX5_goesByBook_17 : decode cX5_goesByBook 17 = .ok (.getfield 25, 3) := by decide +kernel
theorem dX5_goesByBook_20 : decode cX5_goesByBook 20 = .ok (.getfield 145, 3) := by decide +kernel
theorem dX5_goesByBook_23 : decode cX5_goesByBook 23 = .ok (.invokestatic 148, 3) := by decide +kernel
theorem dX5_goesByBook_26 : decode cX5_goesByBook 26 = .ok (.i2l, 1) := by decide +kernel
theorem dX5_goesByBook_27 : decode cX5_goesByBook 27 = .ok (.lcmp, 1) := by decide +kernel
theorem dX5_goesByBook_28 : decode cX5_goesByBook 28 = .ok (.ifCond .eq 5, 3) := by decide +kernel
theorem dX5_goesByBook_31 : decode cX5_goesByBook 31 = .ok (.iconst 0, 1) := by decide +kernel
theorem dX5_goesByBook_32 : decode cX5_goesByBook 32 = .ok (.ireturn, 1) := by decide +kernel
theorem dX5_goesByBook_33 : decode cX5_goesByBook 33 = .ok (.aload_n 0, 1) := by decide +kernel
theorem dX5_goesByBook_34 : decode cX5_goesByBook 34 = .ok (.getfield 25, 3) := by decide +kernel
theorem dX5_goesByBook_37 : decode cX5_goesByBook 37 = .ok (.aload_n 0, 1) := by decide +kernel
theorem dX5_goesByBook_38 : decode cX5_goesByBook 38 = .ok (.getfield 12, 3) := by decide +kernel
theorem dX5_goesByBook_41 : decode cX5_goesByBook 41 = .ok (.invokevirtual 167, 3) := by decide +kernel
theorem dX5_goesByBook_44 : decode cX5_goesByBook 44 = .ok (.iinc 2 1, 3) := by decide +kernel
theorem dX5_goesByBook_47 : decode cX5_goesByBook 47 = .ok (.goto (-45), 3) := by decide +kernel
theorem dX5_goesByBook_50 : decode cX5_goesByBook 50 = .ok (.iconst 1, 1) := by decide +kernel
theorem dX5_goesByBook_51 : decode cX5_goesByBook 51 = .ok (.ireturn, 1) := by decide +kernel
theorem dX5_isRough_0 : decode cX5_isRough 0 = .ok (.iload_n 0, 1) := by decide +kernel
theorem dX5_isRough_1 : decode cX5_isRough 1 = .ok (.ifCond .lt 13, 3) := by decide +kernel
theorem dX5_isRough_4 : decode cX5_isRough 4 = .ok (.iload_n 0, 1) := by decide +kernel
theorem dX5_isRough_5 : decode cX5_isRough 5 = .ok (.bipush 9, 2) := by decide +kernel
theorem dX5_isRough_7 : decode cX5_isRough 7 = .ok (.if_icmp .gt 7, 3) := by decide +kernel
theorem dX5_isRough_10 : decode cX5_isRough 10 = .ok (.iconst 1, 1) := by decide +kernel
theorem dX5_isRough_11 : decode cX5_isRough 11 = .ok (.goto 4, 3) := by decide +kernel
theorem dX5_isRough_14 : decode cX5_isRough 14 = .ok (.iconst 0, 1) := by decide +kernel
theorem dX5_isRough_15 : decode cX5_isRough 15 = .ok (.ireturn, 1) := by decide +kernel
theorem dX5_isKind_0 : decode cX5_isKind 0 = .ok (.iload_n 0, 1) := by decide +kernel
theorem dX5_isKind_1 : decode cX5_isKind 1 = .ok (.ifCond .lt 13, 3) := by decide +kernel
theorem dX5_isKind_4 : decode cX5_isKind 4 = .ok (.iload_n 0, 1) := by decide +kernel
theorem dX5_isKind_5 : decode cX5_isKind 5 = .ok (.bipush 6, 2) := by decide +kernel
theorem dX5_isKind_7 : decode cX5_isKind 7 = .ok (.if_icmp .ge 7, 3) := by decide +kernel
theorem dX5_isKind_10 : decode cX5_isKind 10 = .ok (.iconst 1, 1) := by decide +kernel
theorem dX5_isKind_11 : decode cX5_isKind 11 = .ok (.goto 4, 3) := by decide +kernel
theorem dX5_isKind_14 : decode cX5_isKind 14 = .ok (.iconst 0, 1) := by decide +kernel
theorem dX5_isKind_15 : decode cX5_isKind 15 = .ok (.ireturn, 1) := by decide +kernel
theorem dX5_isSheet_0 : decode cX5_isSheet 0 = .ok (.iload_n 0, 1) := by decide +kernel
theorem dX5_isSheet_1 : decode cX5_isSheet 1 = .ok (.ifCond .lt 12, 3) := by decide +kernel
theorem dX5_isSheet_4 : decode cX5_isSheet 4 = .ok (.iload_n 0, 1) := by decide +kernel
theorem dX5_isSheet_5 : decode cX5_isSheet 5 = .ok (.iconst 4, 1) := by decide +kernel
theorem dX5_isSheet_6 : decode cX5_isSheet 6 = .ok (.if_icmp .ge 7, 3) := by decide +kernel
theorem dX5_isSheet_9 : decode cX5_isSheet 9 = .ok (.iconst 1, 1) := by decide +kernel
theorem dX5_isSheet_10 : decode cX5_isSheet 10 = .ok (.goto 4, 3) := by decide +kernel
theorem dX5_isSheet_13 : decode cX5_isSheet 13 = .ok (.iconst 0, 1) := by decide +kernel
theorem dX5_isSheet_14 : decode cX5_isSheet 14 = .ok (.ireturn, 1) := by decide +kernel
theorem dX5_isStepsOn_0 : decode cX5_isStepsOn 0 = .ok (.iload_n 0, 1) := by decide +kernel
theorem dX5_isStepsOn_1 : decode cX5_isStepsOn 1 = .ok (.ifCond .lt 13, 3) := by decide +kernel
theorem dX5_isStepsOn_4 : decode cX5_isStepsOn 4 = .ok (.iload_n 0, 1) := by decide +kernel
theorem dX5_isStepsOn_5 : decode cX5_isStepsOn 5 = .ok (.bipush 100, 2) := by decide +kernel
theorem dX5_isStepsOn_7 : decode cX5_isStepsOn 7 = .ok (.if_icmp .gt 7, 3) := by decide +kernel
theorem dX5_isStepsOn_10 : decode cX5_isStepsOn 10 = .ok (.iconst 1, 1) := by decide +kernel
theorem dX5_isStepsOn_11 : decode cX5_isStepsOn 11 = .ok (.goto 4, 3) := by decide +kernel
theorem dX5_isStepsOn_14 : decode cX5_isStepsOn 14 = .ok (.iconst 0, 1) := by decide +kernel
theorem dX5_isStepsOn_15 : decode cX5_isStepsOn 15 = .ok (.ireturn, 1) := by decide +kernel
theorem dX5_wayOf_0 : decode cX5_wayOf 0 = .ok (.iload_n 0, 1) := by decide +kernel
theorem dX5_wayOf_1 : decode cX5_wayOf 1 = .ok (.iconst 4, 1) := by decide +kernel
theorem dX5_wayOf_2 : decode cX5_wayOf 2 = .ok (.imul, 1) := by decide +kernel
theorem dX5_wayOf_3 : decode cX5_wayOf 3 = .ok (.iload_n 1, 1) := by decide +kernel
theorem dX5_wayOf_4 : decode cX5_wayOf 4 = .ok (.iadd, 1) := by decide +kernel
theorem dX5_wayOf_5 : decode cX5_wayOf 5 = .ok (.ireturn, 1) := by decide +kernel
theorem dX5_fieldOf_0 : decode cX5_fieldOf 0 = .ok (.iload_n 0, 1) := by decide +kernel
theorem dX5_fieldOf_1 : decode cX5_fieldOf 1 = .ok (.iconst 4, 1) := by decide +kernel
theorem dX5_fieldOf_2 : decode cX5_fieldOf 2 = .ok (.idiv, 1) := by decide +kernel
theorem dX5_fieldOf_3 : decode cX5_fieldOf 3 = .ok (.ireturn, 1) := by decide +kernel
theorem dX5_headingOf_0 : decode cX5_headingOf 0 = .ok (.iload_n 0, 1) := by decide +kernel
theorem dX5_headingOf_1 : decode cX5_headingOf 1 = .ok (.iconst 4, 1) := by decide +kernel
theorem dX5_headingOf_2 : decode cX5_headingOf 2 = .ok (.irem, 1) := by decide +kernel
theorem dX5_headingOf_3 : decode cX5_headingOf 3 = .ok (.ireturn, 1) := by decide +kernel
theorem dX5_turned_0 : decode cX5_turned 0 = .ok (.iload_n 0, 1) := by decide +kernel
theorem dX5_turned_1 : decode cX5_turned 1 = .ok (.invokestatic 148, 3) := by decide +kernel
theorem dX5_turned_4 : decode cX5_turned 4 = .ok (.iload_n 0, 1) := by decide +kernel
theorem dX5_turned_5 : decode cX5_turned 5 = .ok (.invokestatic 151, 3) := by decide +kernel
theorem dX5_turned_8 : decode cX5_turned 8 = .ok (.iload_n 1, 1) := by decide +kernel
theorem dX5_turned_9 : decode cX5_turned 9 = .ok (.iadd, 1) := by decide +kernel
theorem dX5_turned_10 : decode cX5_turned 10 = .ok (.iconst 4, 1) := by decide +kernel
theorem dX5_turned_11 : decode cX5_turned 11 = .ok (.irem, 1) := by decide +kernel
theorem dX5_turned_12 : decode cX5_turned 12 = .ok (.invokestatic 105, 3) := by decide +kernel
theorem dX5_turned_15 : decode cX5_turned 15 = .ok (.ireturn, 1) := by decide +kernel
end
section
theorem dX6_init_0 : decode cX6_init 0 = .ok (.aload_n 0, 1) := by decide +kernel
theorem dX6_init_1 : decode cX6_init 1 = .ok (.invokespecial 1, 3) := by decide +kernel
theorem dX6_init_4 : decode cX6_init 4 = .ok (.aload_n 0, 1) := by decide +kernel
theorem dX6_init_5 : decode cX6_init 5 = .ok (.bipush 112, 2) := by decide +kernel
theorem dX6_init_7 : decode cX6_init 7 = .ok (.newarray .int, 2) := by decide +kernel
theorem dX6_init_9 : decode cX6_init 9 = .ok (.putfield 7, 3) := by decide +kernel
theorem dX6_init_12 : decode cX6_init 12 = .ok (.aload_n 0, 1) := by decide +kernel
theorem dX6_init_13 : decode cX6_init 13 = .ok (.bipush 112, 2) := by decide +kernel
theorem dX6_init_15 : decode cX6_init 15 = .ok (.newarray .int, 2) := by decide +kernel
theorem dX6_init_17 : decode cX6_init 17 = .ok (.putfield 13, 3) := by decide +kernel
theorem dX6_init_20 : decode cX6_init 20 = .ok (.aload_n 0, 1) := by decide +kernel
theorem dX6_init_21 : decode cX6_init 21 = .ok (.bipush 112, 2) := by decide +kernel
theorem dX6_init_23 : decode cX6_init 23 = .ok (.newarray .int, 2) := by decide +kernel
theorem dX6_init_25 : decode cX6_init 25 = .ok (.putfield 16, 3) := by decide +kernel
theorem dX6_init_28 : decode cX6_init 28 = .ok (.aload_n 0, 1) := by decide +kernel
theorem dX6_init_29 : decode cX6_init 29 = .ok (.bipush 112, 2) := by decide +kernel
theorem dX6_init_31 : decode cX6_init 31 = .ok (.newarray .int, 2) := by decide +kernel
theorem dX6_init_33 : decode cX6_init 33 = .ok (.putfield 19, 3) := by decide +kernel
theorem dX6_init_36 : decode cX6_init 36 = .ok (.aload_n 0, 1) := by decide +kernel
theorem dX6_init_37 : decode cX6_init 37 = .ok (.bipush 7, 2) := by decide +kernel
theorem dX6_init_39 : decode cX6_init 39 = .ok (.newarray .int, 2) := by decide +kernel
theorem dX6_init_41 : decode cX6_init 41 = .ok (.putfield 22, 3) := by decide +kernel
theorem dX6_init_44 : decode cX6_init 44 = .ok (.aload_n 0, 1) := by decide +kernel
theorem dX6_init_45 : decode cX6_init 45 = .ok (.bipush 64, 2) := by decide +kernel
theorem dX6_init_47 : decode cX6_init 47 = .ok (.newarray .int, 2) := by decide +kernel
theorem dX6_init_49 : decode cX6_init 49 = .ok (.putfield 25, 3) := by decide +kernel
theorem dX6_init_52 : decode cX6_init 52 = .ok (.aload_n 0, 1) := by decide +kernel
theorem dX6_init_53 : decode cX6_init 53 = .ok (.bipush 120, 2) := by decide +kernel
theorem dX6_init_55 : decode cX6_init 55 = .ok (.newarray .int, 2) := by decide +kernel
theorem dX6_init_57 : decode cX6_init 57 = .ok (.putfield 28, 3) := by decide +kernel
theorem dX6_init_60 : decode cX6_init 60 = .ok (.aload_n 0, 1) := by decide +kernel
theorem dX6_init_61 : decode cX6_init 61 = .ok (.iconst 4, 1) := by decide +kernel
theorem dX6_init_62 : decode cX6_init 62 = .ok (.newarray .int, 2) := by decide +kernel
theorem dX6_init_64 : decode cX6_init 64 = .ok (.putfield 31, 3) := by decide +kernel
theorem dX6_init_67 : decode cX6_init 67 = .ok (.aload_n 0, 1) := by decide +kernel
theorem dX6_init_68 : decode cX6_init 68 = .ok (.iconst 4, 1) := by decide +kernel
theorem dX6_init_69 : decode cX6_init 69 = .ok (.newarray .int, 2) := by decide +kernel
theorem dX6_init_71 : decode cX6_init 71 = .ok (.putfield 34, 3) := by decide +kernel
theorem dX6_init_74 : decode cX6_init 74 = .ok (.aload_n 0, 1) := by decide +kernel
theorem dX6_init_75 : decode cX6_init 75 = .ok (.sipush 160, 3) := by decide +kernel
theorem dX6_init_78 : decode cX6_init 78 = .ok (.newarray .long, 2) := by decide +kernel
theorem dX6_init_80 : decode cX6_init 80 = .ok (.putfield 37, 3) := by decide +kernel
theorem dX6_init_83 : decode cX6_init 83 = .ok (.aload_n 0, 1) := by decide +kernel
theorem dX6_init_84 : decode cX6_init 84 = .ok (.bipush 40, 2) := by decide +kernel
theorem dX6_init_86 : decode cX6_init 86 = .ok (.newarray .long, 2) := by decide +kernel
theorem dX6_init_88 : decode cX6_init 88 = .ok (.putfield 41, 3) := by decide +kernel
theorem dX6_init_91 : decode cX6_init 91 = .ok (.return_, 1) := by decide +kernel
theorem dX6_in_0 : decode cX6_in 0 = .ok (.lload_n 0, 1) := by decide +kernel
theorem dX6_in_1 : decode cX6_in 1 = .ok (.lload_n 2, 1) := by decide +kernel
theorem dX6_in_2 : decode cX6_in 2 = .ok (.lcmp, 1) := by decide +kernel
theorem dX6_in_3 : decode cX6_in 3 = .ok (.ifCond .lt 14, 3) := by decide +kernel
theorem dX6_in_6 : decode cX6_in 6 = .ok (.lload_n 0, 1) := by decide +kernel
theorem dX6_in_7 : decode cX6_in 7 = .ok (.lload 4, 2) := by decide +kernel
theorem dX6_in_9 : decode cX6_in 9 = .ok (.lcmp, 1) := by decide +kernel
theorem dX6_in_10 : decode cX6_in 10 = .ok (.ifCond .gt 7, 3) := by decide +kernel
theorem dX6_in_13 : decode cX6_in 13 = .ok (.iconst 1, 1) := by decide +kernel
theorem dX6_in_14 : decode cX6_in 14 = .ok (.goto 4, 3) := by decide +kernel
theorem dX6_in_17 : decode cX6_in 17 = .ok (.iconst 0, 1) := by decide +kernel
theorem dX6_in_18 : decode cX6_in 18 = .ok (.ireturn, 1) := by decide +kernel
theorem dX6_finds_0 : decode cX6_finds 0 = .ok (.aload_n 0, 1) := by decide +kernel
theorem dX6_finds_1 : decode cX6_finds 1 = .ok (.getfield 22, 3) := by decide +kernel
theorem dX6_finds_4 : decode cX6_finds 4 = .ok (.ldc 44, 2) := by decide +kernel
theorem dX6_finds_6 : decode cX6_finds 6 = .ok (.iload_n 1, 1) := by decide +kernel
theorem dX6_finds_7 : decode cX6_finds 7 = .ok (.isub, 1) := by decide +kernel
theorem dX6_finds_8 : decode cX6_finds 8 = .ok (.dup2, 1) := by decide +kernel
theorem dX6_finds_9 : decode cX6_finds 9 = .ok (.iaload, 1) := by decide +kernel
theorem dX6_finds_10 : decode cX6_finds 10 = .ok (.iconst 1, 1) := by decide +kernel
theorem dX6_finds_11 : decode cX6_finds 11 = .ok (.iadd, 1) := by decide +kernel
theorem dX6_finds_12 : decode cX6_finds 12 = .ok (.iastore, 1) := by decide +kernel
theorem dX6_finds_13 : decode cX6_finds 13 = .ok (.iload_n 1, 1) := by decide +kernel
theorem dX6_finds_14 : decode cX6_finds 14 = .ok (.ireturn, 1) := by decide +kernel
theorem dX6_saves_0 : decode cX6_saves 0 = .ok (.iconst 0, 1) := by decide +kernel
theorem dX6_saves_1 : decode cX6_saves 1 = .ok (.istore_n 1, 1) := by decide +kernel
theorem dX6_saves_2 : decode cX6_saves 2 = .ok (.iload_n 1, 1) := by decide +kernel
theorem dX6_saves_3 : decode cX6_saves 3 = .ok (.bipush 112, 2) := by decide +kernel
theorem dX6_saves_5 : decode cX6_saves 5 = .ok (.if_icmp .ge 21, 3) := by decide +kernel
theorem dX6_saves_8 : decode cX6_saves 8 = .ok (.aload_n 0, 1) := by decide +kernel
theorem dX6_saves_9 : decode cX6_saves 9 = .ok (.getfield 16, 3) := by decide +kernel
theorem dX6_saves_12 : decode cX6_saves 12 = .ok (.iload_n 1, 1) := by decide +kernel
theorem dX6_saves_13 : decode cX6_saves 13 = .ok (.aload_n 0, 1) := by decide +kernel
theorem dX6_saves_14 : decode cX6_saves 14 = .ok (.getfield 7, 3) := by decide +kernel
theorem dX6_saves_17 : decode cX6_saves 17 = .ok (.iload_n 1, 1) := by decide +kernel
theorem dX6_saves_18 : decode cX6_saves 18 = .ok (.iaload, 1) := by decide +kernel
theorem dX6_saves_19 : decode cX6_saves 19 = .ok (.iastore, 1) := by decide +kernel
theorem dX6_saves_20 : decode cX6_saves 20 = .ok (.iinc 1 1, 3) := by decide +kernel
theorem dX6_saves_23 : decode cX6_saves 23 = .ok (.goto (-21), 3) := by decide +kernel
theorem dX6_saves_26 : decode cX6_saves 26 = .ok (.return_, 1) := by decide +kernel
theorem dX6_putsBack_0 : decode cX6_putsBack 0 = .ok (.iconst 0, 1) := by decide +kernel
theorem dX6_putsBack_1 : decode cX6_putsBack 1 = .ok (.istore_n 1, 1) := by decide +kernel
theorem dX6_putsBack_2 : decode cX6_putsBack 2 = .ok (.iload_n 1, 1) := by decide +kernel
theorem dX6_putsBack_3 : decode cX6_putsBack 3 = .ok (.bipush 112, 2) := by decide +kernel
theorem dX6_putsBack_5 : decode cX6_putsBack 5 = .ok (.if_icmp .ge 21, 3) := by decide +kernel
theorem dX6_putsBack_8 : decode cX6_putsBack 8 = .ok (.aload_n 0, 1) := by decide +kernel
theorem dX6_putsBack_9 : decode cX6_putsBack 9 = .ok (.getfield 7, 3) := by decide +kernel
theorem dX6_putsBack_12 : decode cX6_putsBack 12 = .ok (.iload_n 1, 1) := by decide +kernel
theorem dX6_putsBack_13 : decode cX6_putsBack 13 = .ok (.aload_n 0, 1) := by decide +kernel
theorem dX6_putsBack_14 : decode cX6_putsBack 14 = .ok (.getfield 16, 3) := by decide +kernel
theorem dX6_putsBack_17 : decode cX6_putsBack 17 = .ok (.iload_n 1, 1) := by decide +kernel
theorem dX6_putsBack_18 : decode cX6_putsBack 18 = .ok (.iaload, 1) := by decide +kernel
theorem dX6_putsBack_19 : decode cX6_putsBack 19 = .ok (.iastore, 1) := by decide +kernel
theorem dX6_putsBack_20 : decode cX6_putsBack 20 = .ok (.iinc 1 1, 3) := by decide +kernel
theorem dX6_putsBack_23 : decode cX6_putsBack 23 = .ok (.goto (-21), 3) := by decide +kernel
theorem dX6_putsBack_26 : decode cX6_putsBack 26 = .ok (.return_, 1) := by decide +kernel
theorem dX6_laysAside_0 : decode cX6_laysAside 0 = .ok (.iconst 0, 1) := by decide +kernel
theorem dX6_laysAside_1 : decode cX6_laysAside 1 = .ok (.istore_n 1, 1) := by decide +kernel
theorem dX6_laysAside_2 : decode cX6_laysAside 2 = .ok (.iload_n 1, 1) := by decide +kernel
theorem dX6_laysAside_3 : decode cX6_laysAside 3 = .ok (.bipush 112, 2) := by decide +kernel
theorem dX6_laysAside_5 : decode cX6_laysAside 5 = .ok (.if_icmp .ge 21, 3) := by decide +kernel
theorem dX6_laysAside_8 : decode cX6_laysAside 8 = .ok (.aload_n 0, 1) := by decide +kernel
theorem dX6_laysAside_9 : decode cX6_laysAside 9 = .ok (.getfield 19, 3) := by decide +kernel
theorem dX6_laysAside_12 : decode cX6_laysAside 12 = .ok (.iload_n 1, 1) := by decide +kernel
theorem dX6_laysAside_13 : decode cX6_laysAside 13 = .ok (.aload_n 0, 1) := by decide +kernel
theorem dX6_laysAside_14 : decode cX6_laysAside 14 = .ok (.getfield 7, 3) := by decide +kernel
theorem dX6_laysAside_17 : decode cX6_laysAside 17 = .ok (.iload_n 1, 1) := by decide +kernel
theorem dX6_laysAside_18 : decode cX6_laysAside 18 = .ok (.iaload, 1) := by decide +kernel
theorem dX6_laysAside_19 : decode cX6_laysAside 19 = .ok (.iastore, 1) := by decide +kernel
theorem dX6_laysAside_20 : decode cX6_laysAside 20 = .ok (.iinc 1 1, 3) := by decide +kernel
theorem dX6_laysAside_23 : decode cX6_laysAside 23 = .ok (.goto (-21), 3) := by decide +kernel
theorem dX6_laysAside_26 : decode cX6_laysAside 26 = .ok (.return_, 1) := by decide +kernel
theorem dX6_takesBack_0 : decode cX6_takesBack 0 = .ok (.iconst 0, 1) := by decide +kernel
theorem dX6_takesBack_1 : decode cX6_takesBack 1 = .ok (.istore_n 2, 1) := by decide +kernel
theorem dX6_takesBack_2 : decode cX6_takesBack 2 = .ok (.iload_n 2, 1) := by decide +kernel
theorem dX6_takesBack_3 : decode cX6_takesBack 3 = .ok (.bipush 112, 2) := by decide +kernel
theorem dX6_takesBack_5 : decode cX6_takesBack 5 = .ok (.if_icmp .ge 21, 3) := by decide +kernel
theorem dX6_takesBack_8 : decode cX6_takesBack 8 = .ok (.aload_n 0, 1) := by decide +kernel
theorem dX6_takesBack_9 : decode cX6_takesBack 9 = .ok (.getfield 7, 3) := by decide +kernel
theorem dX6_takesBack_12 : decode cX6_takesBack 12 = .ok (.iload_n 2, 1) := by decide +kernel
theorem dX6_takesBack_13 : decode cX6_takesBack 13 = .ok (.aload_n 0, 1) := by decide +kernel
theorem dX6_takesBack_14 : decode cX6_takesBack 14 = .ok (.getfield 19, 3) := by decide +kernel
theorem dX6_takesBack_17 : decode cX6_takesBack 17 = .ok (.iload_n 2, 1) := by decide +kernel
theorem dX6_takesBack_18 : decode cX6_takesBack 18 = .ok (.iaload, 1) := by decide +kernel
theorem dX6_takesBack_19 : decode cX6_takesBack 19 = .ok (.iastore, 1) := by decide +kernel
theorem dX6_takesBack_20 : decode cX6_takesBack 20 = .ok (.iinc 2 1, 3) := by decide +kernel
theorem dX6_takesBack_23 : decode cX6_takesBack 23 = .ok (.goto (-21), 3) := by decide +kernel
theorem dX6_takesBack_26 : decode cX6_takesBack 26 = .ok (.iload_n 1, 1) := by decide +kernel
theorem dX6_takesBack_27 : decode cX6_takesBack 27 = .ok (.ireturn, 1) := by decide +kernel
theorem dX6_becomes_0 : decode cX6_becomes 0 = .ok (.aload_n 0, 1) := by decide +kernel
theorem dX6_becomes_1 : decode cX6_becomes 1 = .ok (.getfield 7, 3) := by decide +kernel
theorem dX6_becomes_4 : decode cX6_becomes 4 = .ok (.iload_n 1, 1) := by decide +kernel
theorem dX6_becomes_5 : decode cX6_becomes 5 = .ok (.iaload, 1) := by decide +kernel
theorem dX6_becomes_6 : decode cX6_becomes 6 = .ok (.istore_n 3, 1) := by decide +kernel
theorem dX6_becomes_7 : decode cX6_becomes 7 = .ok (.aload_n 0, 1) := by decide +kernel
theorem dX6_becomes_8 : decode cX6_becomes 8 = .ok (.getfield 7, 3) := by decide +kernel
theorem dX6_becomes_11 : decode cX6_becomes 11 = .ok (.iload_n 1, 1) := by decide +kernel
theorem dX6_becomes_12 : decode cX6_becomes 12 = .ok (.iload_n 2, 1) := by decide +kernel
theorem dX6_becomes_13 : decode cX6_becomes 13 = .ok (.iastore, 1) := by decide +kernel
theorem dX6_becomes_14 : decode cX6_becomes 14 = .ok (.iload_n 3, 1) := by decide +kernel
theorem dX6_becomes_15 : decode cX6_becomes 15 = .ok (.ireturn, 1) := by decide +kernel
theorem dX6_isField_0 : decode cX6_isField 0 = .ok (.iload_n 1, 1) := by decide +kernel
theorem dX6_isField_1 : decode cX6_isField 1 = .ok (.i2l, 1) := by decide +kernel
theorem dX6_isField_2 : decode cX6_isField 2 = .ok (.lconst 0, 1) := by decide +kernel
theorem dX6_isField_3 : decode cX6_isField 3 = .ok (.aload_n 0, 1) := by decide +kernel
theorem dX6_isField_4 : decode cX6_isField 4 = .ok (.getfield 7, 3) := by decide +kernel
theorem dX6_isField_7 : decode cX6_isField 7 = .ok (.iconst 0, 1) := by decide +kernel
theorem dX6_isField_8 : decode cX6_isField 8 = .ok (.iaload, 1) := by decide +kernel
theorem dX6_isField_9 : decode cX6_isField 9 = .ok (.iconst 1, 1) := by decide +kernel
theorem dX6_isField_10 : decode cX6_isField 10 = .ok (.isub, 1) := by decide +kernel
theorem dX6_isField_11 : decode cX6_isField 11 = .ok (.i2l, 1) := by decide +kernel
theorem dX6_isField_12 : decode cX6_isField 12 = .ok (.invokestatic 45, 3) := by decide +kernel
theorem dX6_isField_15 : decode cX6_isField 15 = .ok (.ireturn, 1) := by decide +kernel
theorem dX6_isSide_0 : decode cX6_isSide 0 = .ok (.iload_n 0, 1) := by decide +kernel
theorem dX6_isSide_1 : decode cX6_isSide 1 = .ok (.i2l, 1) := by decide +kernel
theorem dX6_isSide_2 : decode cX6_isSide 2 = .ok (.lconst 0, 1) := by decide +kernel
theorem dX6_isSide_3 : decode cX6_isSide 3 = .ok (.ldc2_w 49, 3) := by decide +kernel
theorem dX6_isSide_6 : decode cX6_isSide 6 = .ok (.invokestatic 45, 3) := by decide +kernel
theorem dX6_isSide_9 : decode cX6_isSide 9 = .ok (.ireturn, 1) := by decide +kernel
theorem dX6_isKind_0 : decode cX6_isKind 0 = .ok (.iload_n 0, 1) := by decide +kernel
theorem dX6_isKind_1 : decode cX6_isKind 1 = .ok (.i2l, 1) := by decide +kernel
theorem dX6_isKind_2 : decode cX6_isKind 2 = .ok (.lconst 0, 1) := by decide +kernel
theorem dX6_isKind_3 : decode cX6_isKind 3 = .ok (.ldc2_w 51, 3) := by decide +kernel
theorem dX6_isKind_6 : decode cX6_isKind 6 = .ok (.invokestatic 45, 3) := by decide +kernel
theorem dX6_isKind_9 : decode cX6_isKind 9 = .ok (.ireturn, 1) := by decide +kernel
theorem dX6_isWay_0 : decode cX6_isWay 0 = .ok (.aload_n 0, 1) := by decide +kernel
theorem dX6_isWay_1 : decode cX6_isWay 1 = .ok (.iload_n 1, 1) := by decide +kernel
theorem dX6_isWay_2 : decode cX6_isWay 2 = .ok (.invokevirtual 53, 3) := by decide +kernel
theorem dX6_isWay_5 : decode cX6_isWay 5 = .ok (.ifCond .eq 14, 3) := by decide +kernel
theorem dX6_isWay_8 : decode cX6_isWay 8 = .ok (.iload_n 2, 1) := by decide +kernel
theorem dX6_isWay_9 : decode cX6_isWay 9 = .ok (.invokestatic 57, 3) := by decide +kernel
theorem dX6_isWay_12 : decode cX6_isWay 12 = .ok (.ifCond .eq 7, 3) := by decide +kernel
theorem dX6_isWay_15 : decode cX6_isWay 15 = .ok (.iconst 1, 1) := by decide +kernel
theorem dX6_isWay_16 : decode cX6_isWay 16 = .ok (.goto 4, 3) := by decide +kernel
theorem dX6_isWay_19 : decode cX6_isWay 19 = .ok (.iconst 0, 1) := by decide +kernel
theorem dX6_isWay_20 : decode cX6_isWay 20 = .ok (.ireturn, 1) := by decide +kernel
theorem dX6_isWalker_0 : decode cX6_isWalker 0 = .ok (.iload_n 1, 1) := by decide +kernel
theorem dX6_isWalker_1 : decode cX6_isWalker 1 = .ok (.i2l, 1) := by decide +kernel
theorem dX6_isWalker_2 : decode cX6_isWalker 2 = .ok (.lconst 0, 1) := by decide +kernel
theorem dX6_isWalker_3 : decode cX6_isWalker 3 = .ok (.aload_n 0, 1) := by decide +kernel
theorem dX6_isWalker_4 : decode cX6_isWalker 4 = .ok (.getfield 7, 3) := by decide +kernel
theorem dX6_isWalker_7 : decode cX6_isWalker 7 = .ok (.iconst 1, 1) := by decide +kernel
theorem dX6_isWalker_8 : decode cX6_isWalker 8 = .ok (.iaload, 1) := by decide +kernel
theorem dX6_isWalker_9 : decode cX6_isWalker 9 = .ok (.iconst 1, 1) := by decide +kernel
theorem dX6_isWalker_10 : decode cX6_isWalker 10 = .ok (.isub, 1) := by decide +kernel
theorem dX6_isWalker_11 : decode cX6_isWalker 11 = .ok (.i2l, 1) := by decide +kernel
theorem dX6_isWalker_12 : decode cX6_isWalker 12 = .ok (.invokestatic 45, 3) := by decide +kernel
theorem dX6_isWalker_15 : decode cX6_isWalker 15 = .ok (.ireturn, 1) := by decide +kernel
theorem dX6_spot_0 : decode cX6_spot 0 = .ok (.bipush 82, 2) := by decide +kernel
theorem dX6_spot_2 : decode cX6_spot 2 = .ok (.iconst 5, 1) := by decide +kernel
theorem dX6_spot_3 : decode cX6_spot 3 = .ok (.iload_n 0, 1) := by decide +kernel
theorem dX6_spot_4 : decode cX6_spot 4 = .ok (.imul, 1) := by decide +kernel
theorem dX6_spot_5 : decode cX6_spot 5 = .ok (.iadd, 1) := by decide +kernel
theorem dX6_spot_6 : decode cX6_spot 6 = .ok (.iload_n 1, 1) := by decide +kernel
theorem dX6_spot_7 : decode cX6_spot 7 = .ok (.iadd, 1) := by decide +kernel
theorem dX6_spot_8 : decode cX6_spot 8 = .ok (.ireturn, 1) := by decide +kernel
theorem dX6_partOf_0 : decode cX6_partOf 0 = .ok (.aload_n 0, 1) := by decide +kernel
theorem dX6_partOf_1 : decode cX6_partOf 1 = .ok (.getfield 7, 3) := by decide +kernel
theorem dX6_partOf_4 : decode cX6_partOf 4 = .ok (.iload_n 1, 1) := by decide +kernel
theorem dX6_partOf_5 : decode cX6_partOf 5 = .ok (.iload_n 2, 1) := by decide +kernel
theorem dX6_partOf_6 : decode cX6_partOf 6 = .ok (.invokestatic 60, 3) := by decide +kernel
theorem dX6_partOf_9 : decode cX6_partOf 9 = .ok (.iaload, 1) := by decide +kernel
theorem dX6_partOf_10 : decode cX6_partOf 10 = .ok (.ireturn, 1) := by decide +kernel
theorem dX6_wayOf_0 : decode cX6_wayOf 0 = .ok (.iconst 4, 1) := by decide +kernel
theorem dX6_wayOf_1 : decode cX6_wayOf 1 = .ok (.aload_n 0, 1) := by decide +kernel
theorem dX6_wayOf_2 : decode cX6_wayOf 2 = .ok (.iload_n 1, 1) := by decide +kernel
theorem dX6_wayOf_3 : decode cX6_wayOf 3 = .ok (.iconst 1, 1) := by decide +kernel
theorem dX6_wayOf_4 : decode cX6_wayOf 4 = .ok (.invokevirtual 64, 3) := by decide +kernel
theorem dX6_wayOf_7 : decode cX6_wayOf 7 = .ok (.imul, 1) := by decide +kernel
theorem dX6_wayOf_8 : decode cX6_wayOf 8 = .ok (.aload_n 0, 1) := by decide +kernel
theorem dX6_wayOf_9 : decode cX6_wayOf 9 = .ok (.iload_n 1, 1) := by decide +kernel
theorem dX6_wayOf_10 : decode cX6_wayOf 10 = .ok (.iconst 2, 1) := by decide +kernel
theorem dX6_wayOf_11 : decode cX6_wayOf 11 = .ok (.invokevirtual 64, 3) := by decide +kernel
theorem dX6_wayOf_14 : decode cX6_wayOf 14 = .ok (.iadd, 1) := by decide +kernel
theorem dX6_wayOf_15 : decode cX6_wayOf 15 = .ok (.ireturn, 1) := by decide +kernel
theorem dX6_adds_0 : decode cX6_adds 0 = .ok (.aload_n 0, 1) := by decide +kernel
theorem dX6_adds_1 : decode cX6_adds 1 = .ok (.getfield 7, 3) := by decide +kernel
theorem dX6_adds_4 : decode cX6_adds 4 = .ok (.iconst 2, 1) := by decide +kernel
theorem dX6_adds_5 : decode cX6_adds 5 = .ok (.aload_n 0, 1) := by decide +kernel
theorem dX6_adds_6 : decode cX6_adds 6 = .ok (.getfield 7, 3) := by decide +kernel
theorem dX6_adds_9 : decode cX6_adds 9 = .ok (.iconst 0, 1) := by decide +kernel
theorem dX6_adds_10 : decode cX6_adds 10 = .ok (.iaload, 1) := by decide +kernel
theorem dX6_adds_11 : decode cX6_adds 11 = .ok (.iadd, 1) := by decide +kernel
theorem dX6_adds_12 : decode cX6_adds 12 = .ok (.iload_n 1, 1) := by decide +kernel
theorem dX6_adds_13 : decode cX6_adds 13 = .ok (.iastore, 1) := by decide +kernel
theorem dX6_adds_14 : decode cX6_adds 14 = .ok (.aload_n 0, 1) := by decide +kernel
theorem dX6_adds_15 : decode cX6_adds 15 = .ok (.getfield 7, 3) := by decide +kernel
theorem dX6_adds_18 : decode cX6_adds 18 = .ok (.iconst 0, 1) := by decide +kernel
theorem dX6_adds_19 : decode cX6_adds 19 = .ok (.dup2, 1) := by decide +kernel
theorem dX6_adds_20 : decode cX6_adds 20 = .ok (.iaload, 1) := by decide +kernel
theorem dX6_adds_21 : decode cX6_adds 21 = .ok (.iconst 1, 1) := by decide +kernel
theorem dX6_adds_22 : decode cX6_adds 22 = .ok (.iadd, 1) := by decide +kernel
theorem dX6_adds_23 : decode cX6_adds 23 = .ok (.iastore, 1) := by decide +kernel
theorem dX6_adds_24 : decode cX6_adds 24 = .ok (.aload_n 0, 1) := by decide +kernel
theorem dX6_adds_25 : decode cX6_adds 25 = .ok (.getfield 7, 3) := by decide +kernel
theorem dX6_adds_28 : decode cX6_adds 28 = .ok (.iconst 0, 1) := by decide +kernel
theorem dX6_adds_29 : decode cX6_adds 29 = .ok (.iaload, 1) := by decide +kernel
theorem dX6_adds_30 : decode cX6_adds 30 = .ok (.iconst 1, 1) := by decide +kernel
theorem dX6_adds_31 : decode cX6_adds 31 = .ok (.isub, 1) := by decide +kernel
theorem dX6_adds_32 : decode cX6_adds 32 = .ok (.ireturn, 1) := by decide +kernel
theorem dX6_field_0 : decode cX6_field 0 = .ok (.iload_n 1, 1) := by decide +kernel
theorem dX6_field_1 : decode cX6_field 1 = .ok (.i2l, 1) := by decide +kernel
theorem dX6_field_2 : decode cX6_field 2 = .ok (.lconst 0, 1) := by decide +kernel
theorem dX6_field_3 : decode cX6_field 3 = .ok (.ldc2_w 67, 3) := by decide +kernel
theorem dX6_field_6 : decode cX6_field 6 = .ok (.invokestatic 45, 3) := by decide +kernel
theorem dX6_field_9 : decode cX6_field 9 = .ok (.ifCond .ne 10, 3) := by decide +kernel
theorem dX6_field_12 : decode cX6_field 12 = .ok (.aload_n 0, 1) := by decide +kernel
theorem dX6_field_13 : decode cX6_field 13 = .ok (.ldc 44, 2) := by decide +kernel
theorem dX6_field_15 : decode cX6_field 15 = .ok (.invokevirtual 69, 3) := by decide +kernel
theorem dX6_field_18 : decode cX6_field 18 = .ok (.ireturn, 1) := by decide +kernel
theorem dX6_field_19 : decode cX6_field 19 = .ok (.aload_n 0, 1) := by decide +kernel
theorem dX6_field_20 : decode cX6_field 20 = .ok (.getfield 7, 3) := by decide +kernel
theorem dX6_field_23 : decode cX6_field 23 = .ok (.iconst 0, 1) := by decide +kernel
theorem dX6_field_24 : decode cX6_field 24 = .ok (.iaload, 1) := by decide +kernel
theorem dX6_field_25 : decode cX6_field 25 = .ok (.bipush 16, 2) := by decide +kernel
theorem dX6_field_27 : decode cX6_field 27 = .ok (.if_icmp .ne 12, 3) := by decide +kernel
theorem dX6_field_30 : decode cX6_field 30 = .ok (.aload_n 0, 1) := by decide +kernel
theorem dX6_field_31 : decode cX6_field 31 = .ok (.ldc 73, 2) := by decide +kernel
theorem dX6_field_33 : decode cX6_field 33 = .ok (.invokevirtual 69, 3) := by decide +kernel
theorem dX6_field_36 : decode cX6_field 36 = .ok (.goto 8, 3) := by decide +kernel
theorem dX6_field_39 : decode cX6_field 39 = .ok (.aload_n 0, 1) := by decide +kernel
theorem dX6_field_40 : decode cX6_field 40 = .ok (.iload_n 1, 1) := by decide +kernel
theorem dX6_field_41 : decode cX6_field 41 = .ok (.invokevirtual 74, 3) := by decide +kernel
theorem dX6_field_44 : decode cX6_field 44 = .ok (.ireturn, 1) := by decide +kernel
theorem dX6_gluedOf_0 : decode cX6_gluedOf 0 = .ok (.iconst 0, 1) := by decide +kernel
theorem dX6_gluedOf_1 : decode cX6_gluedOf 1 = .ok (.istore_n 2, 1) := by decide +kernel
theorem dX6_gluedOf_2 : decode cX6_gluedOf 2 = .ok (.iconst 0, 1) := by decide +kernel
theorem dX6_gluedOf_3 : decode cX6_gluedOf 3 = .ok (.istore_n 3, 1) := by decide +kernel
theorem dX6_gluedOf_4 : decode cX6_gluedOf 4 = .ok (.iload_n 3, 1) := by decide +kernel
theorem dX6_gluedOf_5 : decode cX6_gluedOf 5 = .ok (.iconst 4, 1) := by decide +kernel
theorem dX6_gluedOf_6 : decode cX6_gluedOf 6 = .ok (.if_icmp .ge 35, 3) := by decide +kernel
theorem dX6_gluedOf_9 : decode cX6_gluedOf 9 = .ok (.iload_n 2, 1) := by decide +kernel
theorem dX6_gluedOf_10 : decode cX6_gluedOf 10 = .ok (.aload_n 0, 1) := by decide +kernel
theorem dX6_gluedOf_11 : decode cX6_gluedOf 11 = .ok (.getfield 7, 3) := by decide +kernel
theorem dX6_gluedOf_14 : decode cX6_gluedOf 14 = .ok (.bipush 18, 2) := by decide +kernel
theorem dX6_gluedOf_16 : decode cX6_gluedOf 16 = .ok (.iconst 4, 1) := by decide +kernel
theorem dX6_gluedOf_17 : decode cX6_gluedOf 17 = .ok (.iload_n 1, 1) := by decide +kernel
theorem dX6_gluedOf_18 : decode cX6_gluedOf 18 = .ok (.imul, 1) := by decide +kernel
theorem dX6_gluedOf_19 : decode cX6_gluedOf 19 = .ok (.iadd, 1) := by decide +kernel
theorem dX6_gluedOf_20 : decode cX6_gluedOf 20 = .ok (.iload_n 3, 1) := by decide +kernel
theorem dX6_gluedOf_21 : decode cX6_gluedOf 21 = .ok (.iadd, 1) := by decide +kernel
theorem dX6_gluedOf_22 : decode cX6_gluedOf 22 = .ok (.iaload, 1) := by decide +kernel
theorem dX6_gluedOf_23 : decode cX6_gluedOf 23 = .ok (.ifCond .le 9, 3) := by decide +kernel
theorem dX6_gluedOf_26 : decode cX6_gluedOf 26 = .ok (.iconst 1, 1) := by decide +kernel
theorem dX6_gluedOf_27 : decode cX6_gluedOf 27 = .ok (.iload_n 3, 1) := by decide +kernel
theorem dX6_gluedOf_28 : decode cX6_gluedOf 28 = .ok (.ishl, 1) := by decide +kernel
theorem dX6_gluedOf_29 : decode cX6_gluedOf 29 = .ok (.goto 4, 3) := by decide +kernel
theorem dX6_gluedOf_32 : decode cX6_gluedOf 32 = .ok (.iconst 0, 1) := by decide +kernel
theorem dX6_gluedOf_33 : decode cX6_gluedOf 33 = .ok (.ior, 1) := by decide +kernel
theorem dX6_gluedOf_34 : decode cX6_gluedOf 34 = .ok (.istore_n 2, 1) := by decide +kernel
theorem dX6_gluedOf_35 : decode cX6_gluedOf 35 = .ok (.iinc 3 1, 3) := by decide +kernel
theorem dX6_gluedOf_38 : decode cX6_gluedOf 38 = .ok (.goto (-34), 3) := by decide +kernel
theorem dX6_gluedOf_41 : decode cX6_gluedOf 41 = .ok (.iload_n 2, 1) := by decide +kernel
theorem dX6_gluedOf_42 : decode cX6_gluedOf 42 = .ok (.ireturn, 1) := by decide +kernel
theorem dX6_those_0 : decode cX6_those 0 = .ok (.iconst 0, 1) := by decide +kernel
theorem dX6_those_1 : decode cX6_those 1 = .ok (.istore_n 2, 1) := by decide +kernel
theorem dX6_those_2 : decode cX6_those 2 = .ok (.iconst 0, 1) := by decide +kernel
theorem dX6_those_3 : decode cX6_those 3 = .ok (.istore_n 3, 1) := by decide +kernel
theorem dX6_those_4 : decode cX6_those 4 = .ok (.iload_n 3, 1) := by decide +kernel
theorem dX6_those_5 : decode cX6_those 5 = .ok (.aload_n 0, 1) := by decide +kernel
theorem dX6_those_6 : decode cX6_those 6 = .ok (.getfield 7, 3) := by decide +kernel
theorem dX6_those_9 : decode cX6_those 9 = .ok (.iconst 1, 1) := by decide +kernel
theorem dX6_those_10 : decode cX6_those 10 = .ok (.iaload, 1) := by decide +kernel
theorem dX6_those_11 : decode cX6_those 11 = .ok (.if_icmp .ge 29, 3) := by decide +kernel
theorem dX6_those_14 : decode cX6_those 14 = .ok (.iload_n 2, 1) := by decide +kernel
theorem dX6_those_15 : decode cX6_those 15 = .ok (.aload_n 0, 1) := by decide +kernel
theorem dX6_those_16 : decode cX6_those 16 = .ok (.iload_n 3, 1) := by decide +kernel
theorem dX6_those_17 : decode cX6_those 17 = .ok (.iconst 1, 1) := by decide +kernel
theorem dX6_those_18 : decode cX6_those 18 = .ok (.invokevirtual 64, 3) := by decide +kernel
theorem dX6_those_21 : decode cX6_those 21 = .ok (.iload_n 1, 1) := by decide +kernel
theorem dX6_those_22 : decode cX6_those 22 = .ok (.if_icmp .ne 9, 3) := by decide +kernel
theorem dX6_those_25 : decode cX6_those 25 = .ok (.iconst 1, 1) := by decide +kernel
theorem dX6_those_26 : decode cX6_those 26 = .ok (.iload_n 3, 1) := by decide +kernel
theorem dX6_those_27 : decode cX6_those 27 = .ok (.ishl, 1) := by decide +kernel
theorem dX6_those_28 : decode cX6_those 28 = .ok (.goto 4, 3) := by decide +kernel
theorem dX6_those_31 : decode cX6_those 31 = .ok (.iconst 0, 1) := by decide +kernel
theorem dX6_those_32 : decode cX6_those 32 = .ok (.ior, 1) := by decide +kernel
theorem dX6_those_33 : decode cX6_those 33 = .ok (.istore_n 2, 1) := by decide +kernel
theorem dX6_those_34 : decode cX6_those 34 = .ok (.iinc 3 1, 3) := by decide +kernel
theorem dX6_those_37 : decode cX6_those 37 = .ok (.goto (-33), 3) := by decide +kernel
theorem dX6_those_40 : decode cX6_those 40 = .ok (.iload_n 2, 1) := by decide +kernel
theorem dX6_those_41 : decode cX6_those 41 = .ok (.ireturn, 1) := by decide +kernel
theorem dX6_of_0 : decode cX6_of 0 = .ok (.aload_n 0, 1) := by decide +kernel
theorem dX6_of_1 : decode cX6_of 1 = .ok (.iload_n 1, 1) := by decide +kernel
theorem dX6_of_2 : decode cX6_of 2 = .ok (.invokevirtual 53, 3) := by decide +kernel
theorem dX6_of_5 : decode cX6_of 5 = .ok (.ifCond .eq 15, 3) := by decide +kernel
theorem dX6_of_8 : decode cX6_of 8 = .ok (.iload_n 2, 1) := by decide +kernel
theorem dX6_of_9 : decode cX6_of 9 = .ok (.i2l, 1) := by decide +kernel
theorem dX6_of_10 : decode cX6_of 10 = .ok (.lconst 0, 1) := by decide +kernel
theorem dX6_of_11 : decode cX6_of 11 = .ok (.ldc2_w 77, 3) := by decide +kernel
theorem dX6_of_14 : decode cX6_of 14 = .ok (.invokestatic 45, 3) := by decide +kernel
theorem dX6_of_17 : decode cX6_of 17 = .ok (.ifCond .ne 10, 3) := by decide +kernel
theorem dX6_of_20 : decode cX6_of 20 = .ok (.aload_n 0, 1) := by decide +kernel
theorem dX6_of_21 : decode cX6_of 21 = .ok (.ldc 44, 2) := by decide +kernel
theorem dX6_of_23 : decode cX6_of 23 = .ok (.invokevirtual 69, 3) := by decide +kernel
theorem dX6_of_26 : decode cX6_of 26 = .ok (.ireturn, 1) := by decide +kernel
theorem dX6_of_27 : decode cX6_of 27 = .ok (.iload_n 2, 1) := by decide +kernel
theorem dX6_of_28 : decode cX6_of 28 = .ok (.ifCond .ne 14, 3) := by decide +kernel
theorem dX6_of_31 : decode cX6_of 31 = .ok (.aload_n 0, 1) := by decide +kernel
theorem dX6_of_32 : decode cX6_of 32 = .ok (.getfield 7, 3) := by decide +kernel
theorem dX6_of_35 : decode cX6_of 35 = .ok (.iconst 2, 1) := by decide +kernel
theorem dX6_of_36 : decode cX6_of 36 = .ok (.iload_n 1, 1) := by decide +kernel
theorem dX6_of_37 : decode cX6_of 37 = .ok (.iadd, 1) := by decide +kernel
theorem dX6_of_38 : decode cX6_of 38 = .ok (.iaload, 1) := by decide +kernel
theorem dX6_of_39 : decode cX6_of 39 = .ok (.goto 21, 3) := by decide +kernel
theorem dX6_of_42 : decode cX6_of 42 = .ok (.iload_n 2, 1) := by decide +kernel
theorem dX6_of_43 : decode cX6_of 43 = .ok (.iconst 1, 1) := by decide +kernel
theorem dX6_of_44 : decode cX6_of 44 = .ok (.if_icmp .ne 11, 3) := by decide +kernel
theorem dX6_of_47 : decode cX6_of 47 = .ok (.aload_n 0, 1) := by decide +kernel
theorem dX6_of_48 : decode cX6_of 48 = .ok (.iload_n 1, 1) := by decide +kernel
theorem dX6_of_49 : decode cX6_of 49 = .ok (.invokevirtual 79, 3) := by decide +kernel
theorem dX6_of_52 : decode cX6_of 52 = .ok (.goto 8, 3) := by decide +kernel
theorem dX6_of_55 : decode cX6_of 55 = .ok (.aload_n 0, 1) := by decide +kernel
theorem dX6_of_56 : decode cX6_of 56 = .ok (.iload_n 1, 1) := by decide +kernel
theorem dX6_of_57 : decode cX6_of 57 = .ok (.invokevirtual 82, 3) := by decide +kernel
theorem dX6_of_60 : decode cX6_of 60 = .ok (.ireturn, 1) := by decide +kernel
theorem dX6_rough_0 : decode cX6_rough 0 = .ok (.aload_n 0, 1) := by decide +kernel
theorem dX6_rough_1 : decode cX6_rough 1 = .ok (.iload_n 1, 1) := by decide +kernel
theorem dX6_rough_2 : decode cX6_rough 2 = .ok (.invokevirtual 53, 3) := by decide +kernel
theorem dX6_rough_5 : decode cX6_rough 5 = .ok (.ifCond .eq 26, 3) := by decide +kernel
theorem dX6_rough_8 : decode cX6_rough 8 = .ok (.iload_n 2, 1) := by decide +kernel
theorem dX6_rough_9 : decode cX6_rough 9 = .ok (.i2l, 1) := by decide +kernel
theorem dX6_rough_10 : decode cX6_rough 10 = .ok (.lconst 0, 1) := by decide +kernel
theorem dX6_rough_11 : decode cX6_rough 11 = .ok (.ldc2_w 67, 3) := by decide +kernel
theorem dX6_rough_14 : decode cX6_rough 14 = .ok (.invokestatic 45, 3) := by decide +kernel
theorem dX6_rough_17 : decode cX6_rough 17 = .ok (.ifCond .eq 14, 3) := by decide +kernel
theorem dX6_rough_20 : decode cX6_rough 20 = .ok (.aload_n 0, 1) := by decide +kernel
theorem dX6_rough_21 : decode cX6_rough 21 = .ok (.iconst 2, 1) := by decide +kernel
theorem dX6_rough_22 : decode cX6_rough 22 = .ok (.iload_n 1, 1) := by decide +kernel
theorem dX6_rough_23 : decode cX6_rough 23 = .ok (.iadd, 1) := by decide +kernel
theorem dX6_rough_24 : decode cX6_rough 24 = .ok (.iload_n 2, 1) := by decide +kernel
theorem dX6_rough_25 : decode cX6_rough 25 = .ok (.invokevirtual 85, 3) := by decide +kernel
theorem dX6_rough_28 : decode cX6_rough 28 = .ok (.goto 9, 3) := by decide +kernel
theorem dX6_rough_31 : decode cX6_rough 31 = .ok (.aload_n 0, 1) := by decide +kernel
theorem dX6_rough_32 : decode cX6_rough 32 = .ok (.ldc 44, 2) := by decide +kernel
theorem dX6_rough_34 : decode cX6_rough 34 = .ok (.invokevirtual 69, 3) := by decide +kernel
theorem dX6_rough_37 : decode cX6_rough 37 = .ok (.ireturn, 1) := by decide +kernel
theorem dX6_glues_0 : decode cX6_glues 0 = .ok (.aload_n 0, 1) := by decide +kernel
theorem dX6_glues_1 : decode cX6_glues 1 = .ok (.getfield 7, 3) := by decide +kernel
theorem dX6_glues_4 : decode cX6_glues 4 = .ok (.bipush 18, 2) := by decide +kernel
theorem dX6_glues_6 : decode cX6_glues 6 = .ok (.iload_n 1, 1) := by decide +kernel
theorem dX6_glues_7 : decode cX6_glues 7 = .ok (.iadd, 1) := by decide +kernel
theorem dX6_glues_8 : decode cX6_glues 8 = .ok (.iconst 1, 1) := by decide +kernel
theorem dX6_glues_9 : decode cX6_glues 9 = .ok (.iload_n 2, 1) := by decide +kernel
theorem dX6_glues_10 : decode cX6_glues 10 = .ok (.iadd, 1) := by decide +kernel
theorem dX6_glues_11 : decode cX6_glues 11 = .ok (.iastore, 1) := by decide +kernel
theorem dX6_glues_12 : decode cX6_glues 12 = .ok (.aload_n 0, 1) := by decide +kernel
theorem dX6_glues_13 : decode cX6_glues 13 = .ok (.getfield 7, 3) := by decide +kernel
theorem dX6_glues_16 : decode cX6_glues 16 = .ok (.bipush 18, 2) := by decide +kernel
theorem dX6_glues_18 : decode cX6_glues 18 = .ok (.iload_n 2, 1) := by decide +kernel
theorem dX6_glues_19 : decode cX6_glues 19 = .ok (.iadd, 1) := by decide +kernel
theorem dX6_glues_20 : decode cX6_glues 20 = .ok (.iconst 1, 1) := by decide +kernel
theorem dX6_glues_21 : decode cX6_glues 21 = .ok (.iload_n 1, 1) := by decide +kernel
theorem dX6_glues_22 : decode cX6_glues 22 = .ok (.iadd, 1) := by decide +kernel
theorem dX6_glues_23 : decode cX6_glues 23 = .ok (.iastore, 1) := by decide +kernel
theorem dX6_glues_24 : decode cX6_glues 24 = .ok (.return_, 1) := by decide +kernel
theorem dX6_cuts_0 : decode cX6_cuts 0 = .ok (.aload_n 0, 1) := by decide +kernel
theorem dX6_cuts_1 : decode cX6_cuts 1 = .ok (.getfield 7, 3) := by decide +kernel
theorem dX6_cuts_4 : decode cX6_cuts 4 = .ok (.bipush 18, 2) := by decide +kernel
theorem dX6_cuts_6 : decode cX6_cuts 6 = .ok (.aload_n 0, 1) := by decide +kernel
theorem dX6_cuts_7 : decode cX6_cuts 7 = .ok (.getfield 7, 3) := by decide +kernel
theorem dX6_cuts_10 : decode cX6_cuts 10 = .ok (.bipush 18, 2) := by decide +kernel
theorem dX6_cuts_12 : decode cX6_cuts 12 = .ok (.iload_n 1, 1) := by decide +kernel
theorem dX6_cuts_13 : decode cX6_cuts 13 = .ok (.iadd, 1) := by decide +kernel
theorem dX6_cuts_14 : decode cX6_cuts 14 = .ok (.iaload, 1) := by decide +kernel
theorem dX6_cuts_15 : decode cX6_cuts 15 = .ok (.iadd, 1) := by decide +kernel
theorem dX6_cuts_16 : decode cX6_cuts 16 = .ok (.iconst 1, 1) := by decide +kernel
theorem dX6_cuts_17 : decode cX6_cuts 17 = .ok (.isub, 1) := by decide +kernel
theorem dX6_cuts_18 : decode cX6_cuts 18 = .ok (.iconst 0, 1) := by decide +kernel
theorem dX6_cuts_19 : decode cX6_cuts 19 = .ok (.iastore, 1) := by decide +kernel
theorem dX6_cuts_20 : decode cX6_cuts 20 = .ok (.aload_n 0, 1) := by decide +kernel
theorem dX6_cuts_21 : decode cX6_cuts 21 = .ok (.getfield 7, 3) := by decide +kernel
theorem dX6_cuts_24 : decode cX6_cuts 24 = .ok (.bipush 18, 2) := by decide +kernel
theorem dX6_cuts_26 : decode cX6_cuts 26 = .ok (.iload_n 1, 1) := by decide +kernel
theorem dX6_cuts_27 : decode cX6_cuts 27 = .ok (.iadd, 1) := by decide +kernel
theorem dX6_cuts_28 : decode cX6_cuts 28 = .ok (.iconst 0, 1) := by decide +kernel
theorem dX6_cuts_29 : decode cX6_cuts 29 = .ok (.iastore, 1) := by decide +kernel
theorem dX6_cuts_30 : decode cX6_cuts 30 = .ok (.return_, 1) := by decide +kernel
theorem dX6_glue_0 : decode cX6_glue 0 = .ok (.aload_n 0, 1) := by decide +kernel
theorem dX6_glue_1 : decode cX6_glue 1 = .ok (.iload_n 1, 1) := by decide +kernel
theorem dX6_glue_2 : decode cX6_glue 2 = .ok (.iload_n 2, 1) := by decide +kernel
theorem dX6_glue_3 : decode cX6_glue 3 = .ok (.invokevirtual 88, 3) := by decide +kernel
theorem dX6_glue_6 : decode cX6_glue 6 = .ok (.ifCond .eq 24, 3) := by decide +kernel
theorem dX6_glue_9 : decode cX6_glue 9 = .ok (.aload_n 0, 1) := by decide +kernel
theorem dX6_glue_10 : decode cX6_glue 10 = .ok (.iload_n 3, 1) := by decide +kernel
theorem dX6_glue_11 : decode cX6_glue 11 = .ok (.iload 4, 2) := by decide +kernel
theorem dX6_glue_13 : decode cX6_glue 13 = .ok (.invokevirtual 88, 3) := by decide +kernel
theorem dX6_glue_16 : decode cX6_glue 16 = .ok (.ifCond .eq 14, 3) := by decide +kernel
theorem dX6_glue_19 : decode cX6_glue 19 = .ok (.iload_n 1, 1) := by decide +kernel
theorem dX6_glue_20 : decode cX6_glue 20 = .ok (.iload_n 3, 1) := by decide +kernel
theorem dX6_glue_21 : decode cX6_glue 21 = .ok (.if_icmp .ne 16, 3) := by decide +kernel
theorem dX6_glue_24 : decode cX6_glue 24 = .ok (.iload_n 2, 1) := by decide +kernel
theorem dX6_glue_25 : decode cX6_glue 25 = .ok (.iload 4, 2) := by decide +kernel
theorem dX6_glue_27 : decode cX6_glue 27 = .ok (.if_icmp .ne 10, 3) := by decide +kernel
theorem dX6_glue_30 : decode cX6_glue 30 = .ok (.aload_n 0, 1) := by decide +kernel
theorem dX6_glue_31 : decode cX6_glue 31 = .ok (.ldc 44, 2) := by decide +kernel
theorem dX6_glue_33 : decode cX6_glue 33 = .ok (.invokevirtual 69, 3) := by decide +kernel
theorem dX6_glue_36 : decode cX6_glue 36 = .ok (.ireturn, 1) := by decide +kernel
theorem dX6_glue_37 : decode cX6_glue 37 = .ok (.aload_n 0, 1) := by decide +kernel
theorem dX6_glue_38 : decode cX6_glue 38 = .ok (.getfield 7, 3) := by decide +kernel
theorem dX6_glue_41 : decode cX6_glue 41 = .ok (.bipush 18, 2) := by decide +kernel
theorem dX6_glue_43 : decode cX6_glue 43 = .ok (.iconst 4, 1) := by decide +kernel
theorem dX6_glue_44 : decode cX6_glue 44 = .ok (.iload_n 1, 1) := by decide +kernel
theorem dX6_glue_45 : decode cX6_glue 45 = .ok (.imul, 1) := by decide +kernel
theorem dX6_glue_46 : decode cX6_glue 46 = .ok (.iadd, 1) := by decide +kernel
theorem dX6_glue_47 : decode cX6_glue 47 = .ok (.iload_n 2, 1) := by decide +kernel
theorem dX6_glue_48 : decode cX6_glue 48 = .ok (.iadd, 1) := by decide +kernel
theorem dX6_glue_49 : decode cX6_glue 49 = .ok (.iaload, 1) := by decide +kernel
theorem dX6_glue_50 : decode cX6_glue 50 = .ok (.ifCond .gt 20, 3) := by decide +kernel
theorem dX6_glue_53 : decode cX6_glue 53 = .ok (.aload_n 0, 1) := by decide +kernel
theorem dX6_glue_54 : decode cX6_glue 54 = .ok (.getfield 7, 3) := by decide +kernel
theorem dX6_glue_57 : decode cX6_glue 57 = .ok (.bipush 18, 2) := by decide +kernel
theorem dX6_glue_59 : decode cX6_glue 59 = .ok (.iconst 4, 1) := by decide +kernel
theorem dX6_glue_60 : decode cX6_glue 60 = .ok (.iload_n 3, 1) := by decide +kernel
theorem dX6_glue_61 : decode cX6_glue 61 = .ok (.imul, 1) := by decide +kernel
theorem dX6_glue_62 : decode cX6_glue 62 = .ok (.iadd, 1) := by decide +kernel
theorem dX6_glue_63 : decode cX6_glue 63 = .ok (.iload 4, 2) := by decide +kernel
theorem dX6_glue_65 : decode cX6_glue 65 = .ok (.iadd, 1) := by decide +kernel
theorem dX6_glue_66 : decode cX6_glue 66 = .ok (.iaload, 1) := by decide +kernel
theorem dX6_glue_67 : decode cX6_glue 67 = .ok (.ifCond .le 10, 3) := by decide +kernel
theorem dX6_glue_70 : decode cX6_glue 70 = .ok (.aload_n 0, 1) := by decide +kernel
theorem dX6_glue_71 : decode cX6_glue 71 = .ok (.ldc 92, 2) := by decide +kernel
theorem dX6_glue_73 : decode cX6_glue 73 = .ok (.invokevirtual 69, 3) := by decide +kernel
theorem dX6_glue_76 : decode cX6_glue 76 = .ok (.ireturn, 1) := by decide +kernel
theorem dX6_glue_77 : decode cX6_glue 77 = .ok (.aload_n 0, 1) := by decide +kernel
theorem dX6_glue_78 : decode cX6_glue 78 = .ok (.iconst 4, 1) := by decide +kernel
theorem dX6_glue_79 : decode cX6_glue 79 = .ok (.iload_n 1, 1) := by decide +kernel
theorem dX6_glue_80 : decode cX6_glue 80 = .ok (.imul, 1) := by decide +kernel
theorem dX6_glue_81 : decode cX6_glue 81 = .ok (.iload_n 2, 1) := by decide +kernel
theorem dX6_glue_82 : decode cX6_glue 82 = .ok (.iadd, 1) := by decide +kernel
theorem dX6_glue_83 : decode cX6_glue 83 = .ok (.iconst 4, 1) := by decide +kernel
theorem dX6_glue_84 : decode cX6_glue 84 = .ok (.iload_n 3, 1) := by decide +kernel
theorem dX6_glue_85 : decode cX6_glue 85 = .ok (.imul, 1) := by decide +kernel
theorem dX6_glue_86 : decode cX6_glue 86 = .ok (.iload 4, 2) := by decide +kernel
theorem dX6_glue_88 : decode cX6_glue 88 = .ok (.iadd, 1) := by decide +kernel
theorem dX6_glue_89 : decode cX6_glue 89 = .ok (.invokevirtual 93, 3) := by decide +kernel
theorem dX6_glue_92 : decode cX6_glue 92 = .ok (.iconst 1, 1) := by decide +kernel
theorem dX6_glue_93 : decode cX6_glue 93 = .ok (.ireturn, 1) := by decide +kernel
theorem dX6_cut_0 : decode cX6_cut 0 = .ok (.aload_n 0, 1) := by decide +kernel
theorem dX6_cut_1 : decode cX6_cut 1 = .ok (.iload_n 1, 1) := by decide +kernel
theorem dX6_cut_2 : decode cX6_cut 2 = .ok (.iload_n 2, 1) := by decide +kernel
theorem dX6_cut_3 : decode cX6_cut 3 = .ok (.invokevirtual 88, 3) := by decide +kernel
theorem dX6_cut_6 : decode cX6_cut 6 = .ok (.ifCond .ne 10, 3) := by decide +kernel
theorem dX6_cut_9 : decode cX6_cut 9 = .ok (.aload_n 0, 1) := by decide +kernel
theorem dX6_cut_10 : decode cX6_cut 10 = .ok (.ldc 44, 2) := by decide +kernel
theorem dX6_cut_12 : decode cX6_cut 12 = .ok (.invokevirtual 69, 3) := by decide +kernel
theorem dX6_cut_15 : decode cX6_cut 15 = .ok (.ireturn, 1) := by decide +kernel
theorem dX6_cut_16 : decode cX6_cut 16 = .ok (.aload_n 0, 1) := by decide +kernel
theorem dX6_cut_17 : decode cX6_cut 17 = .ok (.getfield 7, 3) := by decide +kernel
theorem dX6_cut_20 : decode cX6_cut 20 = .ok (.bipush 18, 2) := by decide +kernel
theorem dX6_cut_22 : decode cX6_cut 22 = .ok (.iconst 4, 1) := by decide +kernel
theorem dX6_cut_23 : decode cX6_cut 23 = .ok (.iload_n 1, 1) := by decide +kernel
theorem dX6_cut_24 : decode cX6_cut 24 = .ok (.imul, 1) := by decide +kernel
theorem dX6_cut_25 : decode cX6_cut 25 = .ok (.iadd, 1) := by decide +kernel
theorem dX6_cut_26 : decode cX6_cut 26 = .ok (.iload_n 2, 1) := by decide +kernel
theorem dX6_cut_27 : decode cX6_cut 27 = .ok (.iadd, 1) := by decide +kernel
theorem dX6_cut_28 : decode cX6_cut 28 = .ok (.iaload, 1) := by decide +kernel
theorem dX6_cut_29 : decode cX6_cut 29 = .ok (.istore_n 3, 1) := by decide +kernel
theorem dX6_cut_30 : decode cX6_cut 30 = .ok (.iload_n 3, 1) := by decide +kernel
theorem dX6_cut_31 : decode cX6_cut 31 = .ok (.ifCond .ne 10, 3) := by decide +kernel
theorem dX6_cut_34 : decode cX6_cut 34 = .ok (.aload_n 0, 1) := by decide +kernel
theorem dX6_cut_35 : decode cX6_cut 35 = .ok (.ldc 92, 2) := by decide +kernel
theorem dX6_cut_37 : decode cX6_cut 37 = .ok (.invokevirtual 69, 3) := by decide +kernel
theorem dX6_cut_40 : decode cX6_cut 40 = .ok (.ireturn, 1) := by decide +kernel
theorem dX6_cut_41 : decode cX6_cut 41 = .ok (.aload_n 0, 1) := by decide +kernel
theorem dX6_cut_42 : decode cX6_cut 42 = .ok (.iconst 4, 1) := by decide +kernel
theorem dX6_cut_43 : decode cX6_cut 43 = .ok (.iload_n 1, 1) := by decide +kernel
theorem dX6_cut_44 : decode cX6_cut 44 = .ok (.imul, 1) := by decide +kernel
theorem dX6_cut_45 : decode cX6_cut 45 = .ok (.iload_n 2, 1) := by decide +kernel
theorem dX6_cut_46 : decode cX6_cut 46 = .ok (.iadd, 1) := by decide +kernel
theorem dX6_cut_47 : decode cX6_cut 47 = .ok (.invokevirtual 97, 3) := by decide +kernel
theorem dX6_cut_50 : decode cX6_cut 50 = .ok (.iload_n 3, 1) := by decide +kernel
theorem dX6_cut_51 : decode cX6_cut 51 = .ok (.iconst 1, 1) := by decide +kernel
theorem dX6_cut_52 : decode cX6_cut 52 = .ok (.isub, 1) := by decide +kernel
theorem dX6_cut_53 : decode cX6_cut 53 = .ok (.ireturn, 1) := by decide +kernel
theorem dX6_over_0 : decode cX6_over 0 = .ok (.aload_n 0, 1) := by decide +kernel
theorem dX6_over_1 : decode cX6_over 1 = .ok (.iload_n 1, 1) := by decide +kernel
theorem dX6_over_2 : decode cX6_over 2 = .ok (.iload_n 2, 1) := by decide +kernel
theorem dX6_over_3 : decode cX6_over 3 = .ok (.invokevirtual 88, 3) := by decide +kernel
theorem dX6_over_6 : decode cX6_over 6 = .ok (.ifCond .ne 10, 3) := by decide +kernel
theorem dX6_over_9 : decode cX6_over 9 = .ok (.aload_n 0, 1) := by decide +kernel
theorem dX6_over_10 : decode cX6_over 10 = .ok (.ldc 44, 2) := by decide +kernel
theorem dX6_over_12 : decode cX6_over 12 = .ok (.invokevirtual 69, 3) := by decide +kernel
theorem dX6_over_15 : decode cX6_over 15 = .ok (.ireturn, 1) := by decide +kernel
theorem dX6_over_16 : decode cX6_over 16 = .ok (.aload_n 0, 1) := by decide +kernel
theorem dX6_over_17 : decode cX6_over 17 = .ok (.getfield 7, 3) := by decide +kernel
theorem dX6_over_20 : decode cX6_over 20 = .ok (.bipush 18, 2) := by decide +kernel
theorem dX6_over_22 : decode cX6_over 22 = .ok (.iconst 4, 1) := by decide +kernel
theorem dX6_over_23 : decode cX6_over 23 = .ok (.iload_n 1, 1) := by decide +kernel
theorem dX6_over_24 : decode cX6_over 24 = .ok (.imul, 1) := by decide +kernel
theorem dX6_over_25 : decode cX6_over 25 = .ok (.iadd, 1) := by decide +kernel
theorem dX6_over_26 : decode cX6_over 26 = .ok (.iload_n 2, 1) := by decide +kernel
theorem dX6_over_27 : decode cX6_over 27 = .ok (.iadd, 1) := by decide +kernel
theorem dX6_over_28 : decode cX6_over 28 = .ok (.iaload, 1) := by decide +kernel
theorem dX6_over_29 : decode cX6_over 29 = .ok (.istore_n 3, 1) := by decide +kernel
theorem dX6_over_30 : decode cX6_over 30 = .ok (.iload_n 3, 1) := by decide +kernel
theorem dX6_over_31 : decode cX6_over 31 = .ok (.ifCond .ne 12, 3) := by decide +kernel
theorem dX6_over_34 : decode cX6_over 34 = .ok (.aload_n 0, 1) := by decide +kernel
theorem dX6_over_35 : decode cX6_over 35 = .ok (.ldc 101, 2) := by decide +kernel
theorem dX6_over_37 : decode cX6_over 37 = .ok (.invokevirtual 69, 3) := by decide +kernel
theorem dX6_over_40 : decode cX6_over 40 = .ok (.goto 6, 3) := by decide +kernel
theorem dX6_over_43 : decode cX6_over 43 = .ok (.iload_n 3, 1) := by decide +kernel
theorem dX6_over_44 : decode cX6_over 44 = .ok (.iconst 1, 1) := by decide +kernel
theorem dX6_over_45 : decode cX6_over 45 = .ok (.isub, 1) := by decide +kernel
theorem dX6_over_46 : decode cX6_over 46 = .ok (.ireturn, 1) := by decide +kernel
theorem dX6_onward_0 : decode cX6_onward 0 = .ok (.aload_n 0, 1) := by decide +kernel
theorem dX6_onward_1 : decode cX6_onward 1 = .ok (.getfield 7, 3) := by decide +kernel
theorem dX6_onward_4 : decode cX6_onward 4 = .ok (.bipush 18, 2) := by decide +kernel
theorem dX6_onward_6 : decode cX6_onward 6 = .ok (.iload_n 1, 1) := by decide +kernel
theorem dX6_onward_7 : decode cX6_onward 7 = .ok (.iadd, 1) := by decide +kernel
theorem dX6_onward_8 : decode cX6_onward 8 = .ok (.iaload, 1) := by decide +kernel
theorem dX6_onward_9 : decode cX6_onward 9 = .ok (.iconst 1, 1) := by decide +kernel
theorem dX6_onward_10 : decode cX6_onward 10 = .ok (.isub, 1) := by decide +kernel
theorem dX6_onward_11 : decode cX6_onward 11 = .ok (.istore_n 2, 1) := by decide +kernel
theorem dX6_onward_12 : decode cX6_onward 12 = .ok (.iload_n 2, 1) := by decide +kernel
theorem dX6_onward_13 : decode cX6_onward 13 = .ok (.ifCond .ge 7, 3) := by decide +kernel
theorem dX6_onward_16 : decode cX6_onward 16 = .ok (.iconst (-1), 1) := by decide +kernel
theorem dX6_onward_17 : decode cX6_onward 17 = .ok (.goto 14, 3) := by decide +kernel
theorem dX6_onward_20 : decode cX6_onward 20 = .ok (.iload_n 2, 1) := by decide +kernel
theorem dX6_onward_21 : decode cX6_onward 21 = .ok (.iconst 4, 1) := by decide +kernel
theorem dX6_onward_22 : decode cX6_onward 22 = .ok (.idiv, 1) := by decide +kernel
theorem dX6_onward_23 : decode cX6_onward 23 = .ok (.iconst 4, 1) := by decide +kernel
theorem dX6_onward_24 : decode cX6_onward 24 = .ok (.imul, 1) := by decide +kernel
theorem dX6_onward_25 : decode cX6_onward 25 = .ok (.iload_n 2, 1) := by decide +kernel
theorem dX6_onward_26 : decode cX6_onward 26 = .ok (.iconst 2, 1) := by decide +kernel
theorem dX6_onward_27 : decode cX6_onward 27 = .ok (.iadd, 1) := by decide +kernel
theorem dX6_onward_28 : decode cX6_onward 28 = .ok (.iconst 4, 1) := by decide +kernel
theorem dX6_onward_29 : decode cX6_onward 29 = .ok (.irem, 1) := by decide +kernel
theorem dX6_onward_30 : decode cX6_onward 30 = .ok (.iadd, 1) := by decide +kernel
theorem dX6_onward_31 : decode cX6_onward 31 = .ok (.ireturn, 1) := by decide +kernel
theorem dX6_walker_0 : decode cX6_walker 0 = .ok (.iload_n 1, 1) := by decide +kernel
theorem dX6_walker_1 : decode cX6_walker 1 = .ok (.invokestatic 102, 3) := by decide +kernel
theorem dX6_walker_4 : decode cX6_walker 4 = .ok (.ifCond .eq 12, 3) := by decide +kernel
theorem dX6_walker_7 : decode cX6_walker 7 = .ok (.aload_n 0, 1) := by decide +kernel
theorem dX6_walker_8 : decode cX6_walker 8 = .ok (.iload_n 2, 1) := by decide +kernel
theorem dX6_walker_9 : decode cX6_walker 9 = .ok (.iload_n 3, 1) := by decide +kernel
theorem dX6_walker_10 : decode cX6_walker 10 = .ok (.invokevirtual 88, 3) := by decide +kernel
theorem dX6_walker_13 : decode cX6_walker 13 = .ok (.ifCond .ne 10, 3) := by decide +kernel
theorem dX6_walker_16 : decode cX6_walker 16 = .ok (.aload_n 0, 1) := by decide +kernel
theorem dX6_walker_17 : decode cX6_walker 17 = .ok (.ldc 44, 2) := by decide +kernel
theorem dX6_walker_19 : decode cX6_walker 19 = .ok (.invokevirtual 69, 3) := by decide +kernel
theorem dX6_walker_22 : decode cX6_walker 22 = .ok (.ireturn, 1) := by decide +kernel
theorem dX6_walker_23 : decode cX6_walker 23 = .ok (.aload_n 0, 1) := by decide +kernel
theorem dX6_walker_24 : decode cX6_walker 24 = .ok (.getfield 7, 3) := by decide +kernel
theorem dX6_walker_27 : decode cX6_walker 27 = .ok (.iconst 1, 1) := by decide +kernel
theorem dX6_walker_28 : decode cX6_walker 28 = .ok (.iaload, 1) := by decide +kernel
theorem dX6_walker_29 : decode cX6_walker 29 = .ok (.bipush 6, 2) := by decide +kernel
theorem dX6_walker_31 : decode cX6_walker 31 = .ok (.if_icmp .ne 12, 3) := by decide +kernel
theorem dX6_walker_34 : decode cX6_walker 34 = .ok (.aload_n 0, 1) := by decide +kernel
theorem dX6_walker_35 : decode cX6_walker 35 = .ok (.ldc 73, 2) := by decide +kernel
theorem dX6_walker_37 : decode cX6_walker 37 = .ok (.invokevirtual 69, 3) := by decide +kernel
theorem dX6_walker_40 : decode cX6_walker 40 = .ok (.goto 10, 3) := by decide +kernel
theorem dX6_walker_43 : decode cX6_walker 43 = .ok (.aload_n 0, 1) := by decide +kernel
theorem dX6_walker_44 : decode cX6_walker 44 = .ok (.iload_n 1, 1) := by decide +kernel
theorem dX6_walker_45 : decode cX6_walker 45 = .ok (.iload_n 2, 1) := by decide +kernel
theorem dX6_walker_46 : decode cX6_walker 46 = .ok (.iload_n 3, 1) := by decide +kernel
theorem dX6_walker_47 : decode cX6_walker 47 = .ok (.invokevirtual 105, 3) := by decide +kernel
theorem dX6_walker_50 : decode cX6_walker 50 = .ok (.ireturn, 1) := by decide +kernel
theorem dX6_comes_0 : decode cX6_comes 0 = .ok (.aload_n 0, 1) := by decide +kernel
theorem dX6_comes_1 : decode cX6_comes 1 = .ok (.getfield 7, 3) := by decide +kernel
theorem dX6_comes_4 : decode cX6_comes 4 = .ok (.iconst 1, 1) := by decide +kernel
theorem dX6_comes_5 : decode cX6_comes 5 = .ok (.iaload, 1) := by decide +kernel
theorem dX6_comes_6 : decode cX6_comes 6 = .ok (.istore 4, 2) := by decide +kernel
theorem dX6_comes_8 : decode cX6_comes 8 = .ok (.aload_n 0, 1) := by decide +kernel
theorem dX6_comes_9 : decode cX6_comes 9 = .ok (.getfield 7, 3) := by decide +kernel
theorem dX6_comes_12 : decode cX6_comes 12 = .ok (.iload 4, 2) := by decide +kernel
theorem dX6_comes_14 : decode cX6_comes 14 = .ok (.iconst 0, 1) := by decide +kernel
theorem dX6_comes_15 : decode cX6_comes 15 = .ok (.invokestatic 60, 3) := by decide +kernel
theorem dX6_comes_18 : decode cX6_comes 18 = .ok (.iload_n 1, 1) := by decide +kernel
theorem dX6_comes_19 : decode cX6_comes 19 = .ok (.iastore, 1) := by decide +kernel
theorem dX6_comes_20 : decode cX6_comes 20 = .ok (.aload_n 0, 1) := by decide +kernel
theorem dX6_comes_21 : decode cX6_comes 21 = .ok (.getfield 7, 3) := by decide +kernel
theorem dX6_comes_24 : decode cX6_comes 24 = .ok (.iload 4, 2) := by decide +kernel
theorem dX6_comes_26 : decode cX6_comes 26 = .ok (.iconst 1, 1) := by decide +kernel
theorem dX6_comes_27 : decode cX6_comes 27 = .ok (.invokestatic 60, 3) := by decide +kernel
theorem dX6_comes_30 : decode cX6_comes 30 = .ok (.iload_n 2, 1) := by decide +kernel
theorem dX6_comes_31 : decode cX6_comes 31 = .ok (.iastore, 1) := by decide +kernel
theorem dX6_comes_32 : decode cX6_comes 32 = .ok (.aload_n 0, 1) := by decide +kernel
theorem dX6_comes_33 : decode cX6_comes 33 = .ok (.getfield 7, 3) := by decide +kernel
theorem dX6_comes_36 : decode cX6_comes 36 = .ok (.iload 4, 2) := by decide +kernel
theorem dX6_comes_38 : decode cX6_comes 38 = .ok (.iconst 2, 1) := by decide +kernel
theorem dX6_comes_39 : decode cX6_comes 39 = .ok (.invokestatic 60, 3) := by decide +kernel
theorem dX6_comes_42 : decode cX6_comes 42 = .ok (.iload_n 3, 1) := by decide +kernel
theorem dX6_comes_43 : decode cX6_comes 43 = .ok (.iastore, 1) := by decide +kernel
theorem dX6_comes_44 : decode cX6_comes 44 = .ok (.aload_n 0, 1) := by decide +kernel
theorem dX6_comes_45 : decode cX6_comes 45 = .ok (.getfield 7, 3) := by decide +kernel
theorem dX6_comes_48 : decode cX6_comes 48 = .ok (.iload 4, 2) := by decide +kernel
theorem dX6_comes_50 : decode cX6_comes 50 = .ok (.iconst 3, 1) := by decide +kernel
theorem dX6_comes_51 : decode cX6_comes 51 = .ok (.invokestatic 60, 3) := by decide +kernel
theorem dX6_comes_54 : decode cX6_comes 54 = .ok (.iconst 0, 1) := by decide +kernel
theorem dX6_comes_55 : decode cX6_comes 55 = .ok (.iastore, 1) := by decide +kernel
theorem dX6_comes_56 : decode cX6_comes 56 = .ok (.aload_n 0, 1) := by decide +kernel
theorem dX6_comes_57 : decode cX6_comes 57 = .ok (.getfield 7, 3) := by decide +kernel
theorem dX6_comes_60 : decode cX6_comes 60 = .ok (.iload 4, 2) := by decide +kernel
theorem dX6_comes_62 : decode cX6_comes 62 = .ok (.iconst 4, 1) := by decide +kernel
theorem dX6_comes_63 : decode cX6_comes 63 = .ok (.invokestatic 60, 3) := by decide +kernel
theorem dX6_comes_66 : decode cX6_comes 66 = .ok (.iconst 0, 1) := by decide +kernel
theorem dX6_comes_67 : decode cX6_comes 67 = .ok (.iastore, 1) := by decide +kernel
theorem dX6_comes_68 : decode cX6_comes 68 = .ok (.aload_n 0, 1) := by decide +kernel
theorem dX6_comes_69 : decode cX6_comes 69 = .ok (.getfield 7, 3) := by decide +kernel
theorem dX6_comes_72 : decode cX6_comes 72 = .ok (.iconst 1, 1) := by decide +kernel
theorem dX6_comes_73 : decode cX6_comes 73 = .ok (.dup2, 1) := by decide +kernel
theorem dX6_comes_74 : decode cX6_comes 74 = .ok (.iaload, 1) := by decide +kernel
theorem dX6_comes_75 : decode cX6_comes 75 = .ok (.iconst 1, 1) := by decide +kernel
theorem dX6_comes_76 : decode cX6_comes 76 = .ok (.iadd, 1) := by decide +kernel
theorem dX6_comes_77 : decode cX6_comes 77 = .ok (.iastore, 1) := by decide +kernel
theorem dX6_comes_78 : decode cX6_comes 78 = .ok (.iload 4, 2) := by decide +kernel
theorem dX6_comes_80 : decode cX6_comes 80 = .ok (.ireturn, 1) := by decide +kernel
theorem dX6_pays_0 : decode cX6_pays 0 = .ok (.iload_n 0, 1) := by decide +kernel
theorem dX6_pays_1 : decode cX6_pays 1 = .ok (.tableswitch 53 2 4 #[27, 41, 33], 27) := by decide +kernel
theorem dX6_pays_28 : decode cX6_pays 28 = .ok (.iconst 1, 1) := by decide +kernel
theorem dX6_pays_29 : decode cX6_pays 29 = .ok (.iload_n 1, 1) := by decide +kernel
theorem dX6_pays_30 : decode cX6_pays 30 = .ok (.iconst 3, 1) := by decide +kernel
theorem dX6_pays_31 : decode cX6_pays 31 = .ok (.idiv, 1) := by decide +kernel
theorem dX6_pays_32 : decode cX6_pays 32 = .ok (.iadd, 1) := by decide +kernel
theorem dX6_pays_33 : decode cX6_pays 33 = .ok (.ireturn, 1) := by decide +kernel
theorem dX6_pays_34 : decode cX6_pays 34 = .ok (.iconst 1, 1) := by decide +kernel
theorem dX6_pays_35 : decode cX6_pays 35 = .ok (.iload_n 1, 1) := by decide +kernel
theorem dX6_pays_36 : decode cX6_pays 36 = .ok (.iconst 3, 1) := by decide +kernel
theorem dX6_pays_37 : decode cX6_pays 37 = .ok (.idiv, 1) := by decide +kernel
theorem dX6_pays_38 : decode cX6_pays 38 = .ok (.iadd, 1) := by decide +kernel
theorem dX6_pays_39 : decode cX6_pays 39 = .ok (.iload_n 1, 1) := by decide +kernel
theorem dX6_pays_40 : decode cX6_pays 40 = .ok (.iadd, 1) := by decide +kernel
theorem dX6_pays_41 : decode cX6_pays 41 = .ok (.ireturn, 1) := by decide +kernel
theorem dX6_pays_42 : decode cX6_pays 42 = .ok (.iload_n 1, 1) := by decide +kernel
theorem dX6_pays_43 : decode cX6_pays 43 = .ok (.bipush 9, 2) := by decide +kernel
theorem dX6_pays_45 : decode cX6_pays 45 = .ok (.if_icmp .ne 7, 3) := by decide +kernel
theorem dX6_pays_48 : decode cX6_pays 48 = .ok (.iconst 2, 1) := by decide +kernel
theorem dX6_pays_49 : decode cX6_pays 49 = .ok (.goto 4, 3) := by decide +kernel
theorem dX6_pays_52 : decode cX6_pays 52 = .ok (.iconst 1, 1) := by decide +kernel
theorem dX6_pays_53 : decode cX6_pays 53 = .ok (.ireturn, 1) := by decide +kernel
theorem dX6_pays_54 : decode cX6_pays 54 = .ok (.iconst 1, 1) := by decide +kernel
theorem dX6_pays_55 : decode cX6_pays 55 = .ok (.ireturn, 1) := by decide +kernel
theorem dX6_quarters_0 : decode cX6_quarters 0 = .ok (.iload_n 0, 1) := by decide +kernel
theorem dX6_quarters_1 : decode cX6_quarters 1 = .ok (.tableswitch 58 2 5 #[31, 42, 31, 54], 31) := by decide +kernel
theorem dX6_quarters_32 : decode cX6_quarters 32 = .ok (.iload_n 1, 1) := by decide +kernel
theorem dX6_quarters_33 : decode cX6_quarters 33 = .ok (.iconst 5, 1) := by decide +kernel
theorem dX6_quarters_34 : decode cX6_quarters 34 = .ok (.if_icmp .lt 7, 3) := by decide +kernel
theorem dX6_quarters_37 : decode cX6_quarters 37 = .ok (.iconst 1, 1) := by decide +kernel
theorem dX6_quarters_38 : decode cX6_quarters 38 = .ok (.goto 4, 3) := by decide +kernel
theorem dX6_quarters_41 : decode cX6_quarters 41 = .ok (.iconst 0, 1) := by decide +kernel
theorem dX6_quarters_42 : decode cX6_quarters 42 = .ok (.ireturn, 1) := by decide +kernel
theorem dX6_quarters_43 : decode cX6_quarters 43 = .ok (.iload_n 2, 1) := by decide +kernel
theorem dX6_quarters_44 : decode cX6_quarters 44 = .ok (.iconst 3, 1) := by decide +kernel
theorem dX6_quarters_45 : decode cX6_quarters 45 = .ok (.irem, 1) := by decide +kernel
theorem dX6_quarters_46 : decode cX6_quarters 46 = .ok (.ifCond .ne 7, 3) := by decide +kernel
theorem dX6_quarters_49 : decode cX6_quarters 49 = .ok (.iconst 3, 1) := by decide +kernel
theorem dX6_quarters_50 : decode cX6_quarters 50 = .ok (.goto 4, 3) := by decide +kernel
theorem dX6_quarters_53 : decode cX6_quarters 53 = .ok (.iconst 0, 1) := by decide +kernel
theorem dX6_quarters_54 : decode cX6_quarters 54 = .ok (.ireturn, 1) := by decide +kernel
theorem dX6_quarters_55 : decode cX6_quarters 55 = .ok (.iload_n 2, 1) := by decide +kernel
theorem dX6_quarters_56 : decode cX6_quarters 56 = .ok (.iconst 2, 1) := by decide +kernel
theorem dX6_quarters_57 : decode cX6_quarters 57 = .ok (.irem, 1) := by decide +kernel
theorem dX6_quarters_58 : decode cX6_quarters 58 = .ok (.ireturn, 1) := by decide +kernel
theorem dX6_quarters_59 : decode cX6_quarters 59 = .ok (.iconst 0, 1) := by decide +kernel
theorem dX6_quarters_60 : decode cX6_quarters 60 = .ok (.ireturn, 1) := by decide +kernel
theorem dX6_atBump_0 : decode cX6_atBump 0 = .ok (.iload_n 0, 1) := by decide +kernel
theorem dX6_atBump_1 : decode cX6_atBump 1 = .ok (.tableswitch 42 1 5 #[35, 42, 35, 37, 39], 35) := by decide +kernel
theorem dX6_atBump_36 : decode cX6_atBump 36 = .ok (.iconst 3, 1) := by decide +kernel
theorem dX6_atBump_37 : decode cX6_atBump 37 = .ok (.ireturn, 1) := by decide +kernel
theorem dX6_atBump_38 : decode cX6_atBump 38 = .ok (.iconst 5, 1) := by decide +kernel
theorem dX6_atBump_39 : decode cX6_atBump 39 = .ok (.ireturn, 1) := by decide +kernel
theorem dX6_atBump_40 : decode cX6_atBump 40 = .ok (.bipush 6, 2) := by decide +kernel
theorem dX6_atBump_42 : decode cX6_atBump 42 = .ok (.ireturn, 1) := by decide +kernel
theorem dX6_atBump_43 : decode cX6_atBump 43 = .ok (.iconst 2, 1) := by decide +kernel
theorem dX6_atBump_44 : decode cX6_atBump 44 = .ok (.ireturn, 1) := by decide +kernel
theorem dX6_goes_0 : decode cX6_goes 0 = .ok (.aload_n 0, 1) := by decide +kernel
theorem dX6_goes_1 : decode cX6_goes 1 = .ok (.iload_n 1, 1) := by decide +kernel
theorem dX6_goes_2 : decode cX6_goes 2 = .ok (.iconst 0, 1) := by decide +kernel
theorem dX6_goes_3 : decode cX6_goes 3 = .ok (.invokevirtual 64, 3) := by decide +kernel
theorem dX6_goes_6 : decode cX6_goes 6 = .ok (.istore_n 2, 1) := by decide +kernel
theorem dX6_goes_7 : decode cX6_goes 7 = .ok (.aload_n 0, 1) := by decide +kernel
theorem dX6_goes_8 : decode cX6_goes 8 = .ok (.aload_n 0, 1) := by decide +kernel
theorem dX6_goes_9 : decode cX6_goes 9 = .ok (.iload_n 1, 1) := by decide +kernel
theorem dX6_goes_10 : decode cX6_goes 10 = .ok (.invokevirtual 109, 3) := by decide +kernel
theorem dX6_goes_13 : decode cX6_goes 13 = .ok (.invokevirtual 112, 3) := by decide +kernel
theorem dX6_goes_16 : decode cX6_goes 16 = .ok (.istore_n 3, 1) := by decide +kernel
theorem dX6_goes_17 : decode cX6_goes 17 = .ok (.iload_n 3, 1) := by decide +kernel
theorem dX6_goes_18 : decode cX6_goes 18 = .ok (.ifCond .ge 17, 3) := by decide +kernel
theorem dX6_goes_21 : decode cX6_goes 21 = .ok (.aload_n 0, 1) := by decide +kernel
theorem dX6_goes_22 : decode cX6_goes 22 = .ok (.iload_n 1, 1) := by decide +kernel
theorem dX6_goes_23 : decode cX6_goes 23 = .ok (.iconst 2, 1) := by decide +kernel
theorem dX6_goes_24 : decode cX6_goes 24 = .ok (.invokevirtual 64, 3) := by decide +kernel
theorem dX6_goes_27 : decode cX6_goes 27 = .ok (.iload_n 2, 1) := by decide +kernel
theorem dX6_goes_28 : decode cX6_goes 28 = .ok (.invokestatic 115, 3) := by decide +kernel
theorem dX6_goes_31 : decode cX6_goes 31 = .ok (.iadd, 1) := by decide +kernel
theorem dX6_goes_32 : decode cX6_goes 32 = .ok (.goto 6, 3) := by decide +kernel
theorem dX6_goes_35 : decode cX6_goes 35 = .ok (.iload_n 3, 1) := by decide +kernel
theorem dX6_goes_36 : decode cX6_goes 36 = .ok (.iconst 4, 1) := by decide +kernel
theorem dX6_goes_37 : decode cX6_goes 37 = .ok (.irem, 1) := by decide +kernel
theorem dX6_goes_38 : decode cX6_goes 38 = .ok (.istore 4, 2) := by decide +kernel
theorem dX6_goes_40 : decode cX6_goes 40 = .ok (.iload_n 3, 1) := by decide +kernel
theorem dX6_goes_41 : decode cX6_goes 41 = .ok (.ifCond .ge 20, 3) := by decide +kernel
theorem dX6_goes_44 : decode cX6_goes 44 = .ok (.aload_n 0, 1) := by decide +kernel
theorem dX6_goes_45 : decode cX6_goes 45 = .ok (.getfield 7, 3) := by decide +kernel
theorem dX6_goes_48 : decode cX6_goes 48 = .ok (.iload_n 1, 1) := by decide +kernel
theorem dX6_goes_49 : decode cX6_goes 49 = .ok (.iconst 4, 1) := by decide +kernel
theorem dX6_goes_50 : decode cX6_goes 50 = .ok (.invokestatic 60, 3) := by decide +kernel
theorem dX6_goes_53 : decode cX6_goes 53 = .ok (.dup2, 1) := by decide +kernel
theorem dX6_goes_54 : decode cX6_goes 54 = .ok (.iaload, 1) := by decide +kernel
theorem dX6_goes_55 : decode cX6_goes 55 = .ok (.iconst 1, 1) := by decide +kernel
theorem dX6_goes_56 : decode cX6_goes 56 = .ok (.iadd, 1) := by decide +kernel
theorem dX6_goes_57 : decode cX6_goes 57 = .ok (.iastore, 1) := by decide +kernel
theorem dX6_goes_58 : decode cX6_goes 58 = .ok (.goto 64, 3) := by decide +kernel
theorem dX6_goes_61 : decode cX6_goes 61 = .ok (.aload_n 0, 1) := by decide +kernel
theorem dX6_goes_62 : decode cX6_goes 62 = .ok (.getfield 7, 3) := by decide +kernel
theorem dX6_goes_65 : decode cX6_goes 65 = .ok (.iconst 2, 1) := by decide +kernel
theorem dX6_goes_66 : decode cX6_goes 66 = .ok (.iload_n 3, 1) := by decide +kernel
theorem dX6_goes_67 : decode cX6_goes 67 = .ok (.iconst 4, 1) := by decide +kernel
theorem dX6_goes_68 : decode cX6_goes 68 = .ok (.idiv, 1) := by decide +kernel
theorem dX6_goes_69 : decode cX6_goes 69 = .ok (.iadd, 1) := by decide +kernel
theorem dX6_goes_70 : decode cX6_goes 70 = .ok (.iaload, 1) := by decide +kernel
theorem dX6_goes_71 : decode cX6_goes 71 = .ok (.istore 5, 2) := by decide +kernel
theorem dX6_goes_73 : decode cX6_goes 73 = .ok (.aload_n 0, 1) := by decide +kernel
theorem dX6_goes_74 : decode cX6_goes 74 = .ok (.getfield 7, 3) := by decide +kernel
theorem dX6_goes_77 : decode cX6_goes 77 = .ok (.iload_n 1, 1) := by decide +kernel
theorem dX6_goes_78 : decode cX6_goes 78 = .ok (.iconst 1, 1) := by decide +kernel
theorem dX6_goes_79 : decode cX6_goes 79 = .ok (.invokestatic 60, 3) := by decide +kernel
theorem dX6_goes_82 : decode cX6_goes 82 = .ok (.iload_n 3, 1) := by decide +kernel
theorem dX6_goes_83 : decode cX6_goes 83 = .ok (.iconst 4, 1) := by decide +kernel
theorem dX6_goes_84 : decode cX6_goes 84 = .ok (.idiv, 1) := by decide +kernel
theorem dX6_goes_85 : decode cX6_goes 85 = .ok (.iastore, 1) := by decide +kernel
theorem dX6_goes_86 : decode cX6_goes 86 = .ok (.aload_n 0, 1) := by decide +kernel
theorem dX6_goes_87 : decode cX6_goes 87 = .ok (.getfield 7, 3) := by decide +kernel
theorem dX6_goes_90 : decode cX6_goes 90 = .ok (.iload_n 1, 1) := by decide +kernel
theorem dX6_goes_91 : decode cX6_goes 91 = .ok (.iconst 3, 1) := by decide +kernel
theorem dX6_goes_92 : decode cX6_goes 92 = .ok (.invokestatic 60, 3) := by decide +kernel
theorem dX6_goes_95 : decode cX6_goes 95 = .ok (.dup2, 1) := by decide +kernel
theorem dX6_goes_96 : decode cX6_goes 96 = .ok (.iaload, 1) := by decide +kernel
theorem dX6_goes_97 : decode cX6_goes 97 = .ok (.iload_n 2, 1) := by decide +kernel
theorem dX6_goes_98 : decode cX6_goes 98 = .ok (.iload 5, 2) := by decide +kernel
theorem dX6_goes_100 : decode cX6_goes 100 = .ok (.invokestatic 118, 3) := by decide +kernel
theorem dX6_goes_103 : decode cX6_goes 103 = .ok (.iadd, 1) := by decide +kernel
theorem dX6_goes_104 : decode cX6_goes 104 = .ok (.iastore, 1) := by decide +kernel
theorem dX6_goes_105 : decode cX6_goes 105 = .ok (.iload 4, 2) := by decide +kernel
theorem dX6_goes_107 : decode cX6_goes 107 = .ok (.iload_n 2, 1) := by decide +kernel
theorem dX6_goes_108 : decode cX6_goes 108 = .ok (.iload 5, 2) := by decide +kernel
theorem dX6_goes_110 : decode cX6_goes 110 = .ok (.aload_n 0, 1) := by decide +kernel
theorem dX6_goes_111 : decode cX6_goes 111 = .ok (.iload_n 1, 1) := by decide +kernel
theorem dX6_goes_112 : decode cX6_goes 112 = .ok (.iconst 3, 1) := by decide +kernel
theorem dX6_goes_113 : decode cX6_goes 113 = .ok (.invokevirtual 64, 3) := by decide +kernel
theorem dX6_goes_116 : decode cX6_goes 116 = .ok (.invokestatic 121, 3) := by decide +kernel
theorem dX6_goes_119 : decode cX6_goes 119 = .ok (.iadd, 1) := by decide +kernel
theorem dX6_goes_120 : decode cX6_goes 120 = .ok (.istore 4, 2) := by decide +kernel
theorem dX6_goes_122 : decode cX6_goes 122 = .ok (.aload_n 0, 1) := by decide +kernel
theorem dX6_goes_123 : decode cX6_goes 123 = .ok (.getfield 7, 3) := by decide +kernel
theorem dX6_goes_126 : decode cX6_goes 126 = .ok (.iload_n 1, 1) := by decide +kernel
theorem dX6_goes_127 : decode cX6_goes 127 = .ok (.iconst 2, 1) := by decide +kernel
theorem dX6_goes_128 : decode cX6_goes 128 = .ok (.invokestatic 60, 3) := by decide +kernel
theorem dX6_goes_131 : decode cX6_goes 131 = .ok (.iload 4, 2) := by decide +kernel
theorem dX6_goes_133 : decode cX6_goes 133 = .ok (.iconst 4, 1) := by decide +kernel
theorem dX6_goes_134 : decode cX6_goes 134 = .ok (.irem, 1) := by decide +kernel
theorem dX6_goes_135 : decode cX6_goes 135 = .ok (.iastore, 1) := by decide +kernel
theorem dX6_goes_136 : decode cX6_goes 136 = .ok (.return_, 1) := by decide +kernel
theorem dX6_its_0 : decode cX6_its 0 = .ok (.aload_n 0, 1) := by decide +kernel
theorem dX6_its_1 : decode cX6_its 1 = .ok (.iload_n 1, 1) := by decide +kernel
theorem dX6_its_2 : decode cX6_its 2 = .ok (.invokevirtual 124, 3) := by decide +kernel
theorem dX6_its_5 : decode cX6_its 5 = .ok (.ifCond .eq 15, 3) := by decide +kernel
theorem dX6_its_8 : decode cX6_its 8 = .ok (.iload_n 2, 1) := by decide +kernel
theorem dX6_its_9 : decode cX6_its 9 = .ok (.i2l, 1) := by decide +kernel
theorem dX6_its_10 : decode cX6_its 10 = .ok (.lconst 0, 1) := by decide +kernel
theorem dX6_its_11 : decode cX6_its 11 = .ok (.ldc2_w 51, 3) := by decide +kernel
theorem dX6_its_14 : decode cX6_its 14 = .ok (.invokestatic 45, 3) := by decide +kernel
theorem dX6_its_17 : decode cX6_its 17 = .ok (.ifCond .ne 10, 3) := by decide +kernel
theorem dX6_its_20 : decode cX6_its 20 = .ok (.aload_n 0, 1) := by decide +kernel
theorem dX6_its_21 : decode cX6_its 21 = .ok (.ldc 44, 2) := by decide +kernel
theorem dX6_its_23 : decode cX6_its 23 = .ok (.invokevirtual 69, 3) := by decide +kernel
theorem dX6_its_26 : decode cX6_its 26 = .ok (.ireturn, 1) := by decide +kernel
theorem dX6_its_27 : decode cX6_its 27 = .ok (.iload_n 2, 1) := by decide +kernel
theorem dX6_its_28 : decode cX6_its 28 = .ok (.iconst 5, 1) := by decide +kernel
theorem dX6_its_29 : decode cX6_its 29 = .ok (.if_icmp .ge 12, 3) := by decide +kernel
theorem dX6_its_32 : decode cX6_its 32 = .ok (.aload_n 0, 1) := by decide +kernel
theorem dX6_its_33 : decode cX6_its 33 = .ok (.iload_n 1, 1) := by decide +kernel
theorem dX6_its_34 : decode cX6_its 34 = .ok (.iload_n 2, 1) := by decide +kernel
theorem dX6_its_35 : decode cX6_its 35 = .ok (.invokevirtual 64, 3) := by decide +kernel
theorem dX6_its_38 : decode cX6_its 38 = .ok (.goto 25, 3) := by decide +kernel
theorem dX6_its_41 : decode cX6_its 41 = .ok (.aload_n 0, 1) := by decide +kernel
theorem dX6_its_42 : decode cX6_its 42 = .ok (.iload_n 1, 1) := by decide +kernel
theorem dX6_its_43 : decode cX6_its 43 = .ok (.iconst 0, 1) := by decide +kernel
theorem dX6_its_44 : decode cX6_its 44 = .ok (.invokevirtual 64, 3) := by decide +kernel
theorem dX6_its_47 : decode cX6_its 47 = .ok (.aload_n 0, 1) := by decide +kernel
theorem dX6_its_48 : decode cX6_its 48 = .ok (.getfield 7, 3) := by decide +kernel
theorem dX6_its_51 : decode cX6_its 51 = .ok (.iconst 2, 1) := by decide +kernel
theorem dX6_its_52 : decode cX6_its 52 = .ok (.aload_n 0, 1) := by decide +kernel
theorem dX6_its_53 : decode cX6_its 53 = .ok (.iload_n 1, 1) := by decide +kernel
theorem dX6_its_54 : decode cX6_its 54 = .ok (.iconst 1, 1) := by decide +kernel
theorem dX6_its_55 : decode cX6_its 55 = .ok (.invokevirtual 64, 3) := by decide +kernel
theorem dX6_its_58 : decode cX6_its 58 = .ok (.iadd, 1) := by decide +kernel
theorem dX6_its_59 : decode cX6_its 59 = .ok (.iaload, 1) := by decide +kernel
theorem dX6_its_60 : decode cX6_its 60 = .ok (.invokestatic 118, 3) := by decide +kernel
theorem dX6_its_63 : decode cX6_its 63 = .ok (.ireturn, 1) := by decide +kernel
theorem dX6_stands_0 : decode cX6_stands 0 = .ok (.aload_n 0, 1) := by decide +kernel
theorem dX6_stands_1 : decode cX6_stands 1 = .ok (.getfield 7, 3) := by decide +kernel
theorem dX6_stands_4 : decode cX6_stands 4 = .ok (.iload_n 1, 1) := by decide +kernel
theorem dX6_stands_5 : decode cX6_stands 5 = .ok (.iconst 1, 1) := by decide +kernel
theorem dX6_stands_6 : decode cX6_stands 6 = .ok (.invokestatic 60, 3) := by decide +kernel
theorem dX6_stands_9 : decode cX6_stands 9 = .ok (.iload_n 2, 1) := by decide +kernel
theorem dX6_stands_10 : decode cX6_stands 10 = .ok (.iconst 4, 1) := by decide +kernel
theorem dX6_stands_11 : decode cX6_stands 11 = .ok (.idiv, 1) := by decide +kernel
theorem dX6_stands_12 : decode cX6_stands 12 = .ok (.iastore, 1) := by decide +kernel
theorem dX6_stands_13 : decode cX6_stands 13 = .ok (.aload_n 0, 1) := by decide +kernel
theorem dX6_stands_14 : decode cX6_stands 14 = .ok (.getfield 7, 3) := by decide +kernel
theorem dX6_stands_17 : decode cX6_stands 17 = .ok (.iload_n 1, 1) := by decide +kernel
theorem dX6_stands_18 : decode cX6_stands 18 = .ok (.iconst 2, 1) := by decide +kernel
theorem dX6_stands_19 : decode cX6_stands 19 = .ok (.invokestatic 60, 3) := by decide +kernel
theorem dX6_stands_22 : decode cX6_stands 22 = .ok (.iload_n 2, 1) := by decide +kernel
theorem dX6_stands_23 : decode cX6_stands 23 = .ok (.iconst 4, 1) := by decide +kernel
theorem dX6_stands_24 : decode cX6_stands 24 = .ok (.irem, 1) := by decide +kernel
theorem dX6_stands_25 : decode cX6_stands 25 = .ok (.iastore, 1) := by decide +kernel
theorem dX6_stands_26 : decode cX6_stands 26 = .ok (.return_, 1) := by decide +kernel
theorem dX6_place_0 : decode cX6_place 0 = .ok (.aload_n 0, 1) := by decide +kernel
theorem dX6_place_1 : decode cX6_place 1 = .ok (.iload_n 1, 1) := by decide +kernel
theorem dX6_place_2 : decode cX6_place 2 = .ok (.invokevirtual 124, 3) := by decide +kernel
theorem dX6_place_5 : decode cX6_place 5 = .ok (.ifCond .eq 12, 3) := by decide +kernel
theorem dX6_place_8 : decode cX6_place 8 = .ok (.aload_n 0, 1) := by decide +kernel
theorem dX6_place_9 : decode cX6_place 9 = .ok (.iload_n 2, 1) := by decide +kernel
theorem dX6_place_10 : decode cX6_place 10 = .ok (.iload_n 3, 1) := by decide +kernel
theorem dX6_place_11 : decode cX6_place 11 = .ok (.invokevirtual 88, 3) := by decide +kernel
theorem dX6_place_14 : decode cX6_place 14 = .ok (.ifCond .ne 10, 3) := by decide +kernel
theorem dX6_place_17 : decode cX6_place 17 = .ok (.aload_n 0, 1) := by decide +kernel
theorem dX6_place_18 : decode cX6_place 18 = .ok (.ldc 44, 2) := by decide +kernel
theorem dX6_place_20 : decode cX6_place 20 = .ok (.invokevirtual 69, 3) := by decide +kernel
theorem dX6_place_23 : decode cX6_place 23 = .ok (.ireturn, 1) := by decide +kernel
theorem dX6_place_24 : decode cX6_place 24 = .ok (.aload_n 0, 1) := by decide +kernel
theorem dX6_place_25 : decode cX6_place 25 = .ok (.iload_n 1, 1) := by decide +kernel
theorem dX6_place_26 : decode cX6_place 26 = .ok (.invokevirtual 109, 3) := by decide +kernel
theorem dX6_place_29 : decode cX6_place 29 = .ok (.istore 4, 2) := by decide +kernel
theorem dX6_place_31 : decode cX6_place 31 = .ok (.aload_n 0, 1) := by decide +kernel
theorem dX6_place_32 : decode cX6_place 32 = .ok (.iload_n 1, 1) := by decide +kernel
theorem dX6_place_33 : decode cX6_place 33 = .ok (.iconst 4, 1) := by decide +kernel
theorem dX6_place_34 : decode cX6_place 34 = .ok (.iload_n 2, 1) := by decide +kernel
theorem dX6_place_35 : decode cX6_place 35 = .ok (.imul, 1) := by decide +kernel
theorem dX6_place_36 : decode cX6_place 36 = .ok (.iload_n 3, 1) := by decide +kernel
theorem dX6_place_37 : decode cX6_place 37 = .ok (.iadd, 1) := by decide +kernel
theorem dX6_place_38 : decode cX6_place 38 = .ok (.invokevirtual 127, 3) := by decide +kernel
theorem dX6_place_41 : decode cX6_place 41 = .ok (.iload 4, 2) := by decide +kernel
theorem dX6_place_43 : decode cX6_place 43 = .ok (.ireturn, 1) := by decide +kernel
theorem dX6_turn_0 : decode cX6_turn 0 = .ok (.aload_n 0, 1) := by decide +kernel
theorem dX6_turn_1 : decode cX6_turn 1 = .ok (.iload_n 1, 1) := by decide +kernel
theorem dX6_turn_2 : decode cX6_turn 2 = .ok (.invokevirtual 124, 3) := by decide +kernel
theorem dX6_turn_5 : decode cX6_turn 5 = .ok (.ifCond .eq 23, 3) := by decide +kernel
theorem dX6_turn_8 : decode cX6_turn 8 = .ok (.iload_n 2, 1) := by decide +kernel
theorem dX6_turn_9 : decode cX6_turn 9 = .ok (.invokestatic 102, 3) := by decide +kernel
theorem dX6_turn_12 : decode cX6_turn 12 = .ok (.ifCond .eq 16, 3) := by decide +kernel
theorem dX6_turn_15 : decode cX6_turn 15 = .ok (.aload_n 0, 1) := by decide +kernel
theorem dX6_turn_16 : decode cX6_turn 16 = .ok (.iload_n 1, 1) := by decide +kernel
theorem dX6_turn_17 : decode cX6_turn 17 = .ok (.iconst 0, 1) := by decide +kernel
theorem dX6_turn_18 : decode cX6_turn 18 = .ok (.invokestatic 60, 3) := by decide +kernel
theorem dX6_turn_21 : decode cX6_turn 21 = .ok (.iload_n 2, 1) := by decide +kernel
theorem dX6_turn_22 : decode cX6_turn 22 = .ok (.invokevirtual 85, 3) := by decide +kernel
theorem dX6_turn_25 : decode cX6_turn 25 = .ok (.goto 9, 3) := by decide +kernel
theorem dX6_turn_28 : decode cX6_turn 28 = .ok (.aload_n 0, 1) := by decide +kernel
theorem dX6_turn_29 : decode cX6_turn 29 = .ok (.ldc 44, 2) := by decide +kernel
theorem dX6_turn_31 : decode cX6_turn 31 = .ok (.invokevirtual 69, 3) := by decide +kernel
theorem dX6_turn_34 : decode cX6_turn 34 = .ok (.ireturn, 1) := by decide +kernel
theorem dX6_above_0 : decode cX6_above 0 = .ok (.iload_n 0, 1) := by decide +kernel
theorem dX6_above_1 : decode cX6_above 1 = .ok (.iconst 3, 1) := by decide +kernel
theorem dX6_above_2 : decode cX6_above 2 = .ok (.if_icmp .eq 8, 3) := by decide +kernel
theorem dX6_above_5 : decode cX6_above 5 = .ok (.iload_n 0, 1) := by decide +kernel
theorem dX6_above_6 : decode cX6_above 6 = .ok (.iconst 5, 1) := by decide +kernel
theorem dX6_above_7 : decode cX6_above 7 = .ok (.if_icmp .ne 7, 3) := by decide +kernel
theorem dX6_above_10 : decode cX6_above 10 = .ok (.iconst 1, 1) := by decide +kernel
theorem dX6_above_11 : decode cX6_above 11 = .ok (.goto 13, 3) := by decide +kernel
theorem dX6_above_14 : decode cX6_above 14 = .ok (.iload_n 0, 1) := by decide +kernel
theorem dX6_above_15 : decode cX6_above 15 = .ok (.iconst 4, 1) := by decide +kernel
theorem dX6_above_16 : decode cX6_above 16 = .ok (.if_icmp .ne 7, 3) := by decide +kernel
theorem dX6_above_19 : decode cX6_above 19 = .ok (.iconst 2, 1) := by decide +kernel
theorem dX6_above_20 : decode cX6_above 20 = .ok (.goto 4, 3) := by decide +kernel
theorem dX6_above_23 : decode cX6_above 23 = .ok (.iconst 0, 1) := by decide +kernel
theorem dX6_above_24 : decode cX6_above 24 = .ok (.ireturn, 1) := by decide +kernel
theorem dX6_as_0 : decode cX6_as 0 = .ok (.aload_n 0, 1) := by decide +kernel
theorem dX6_as_1 : decode cX6_as 1 = .ok (.iload_n 1, 1) := by decide +kernel
theorem dX6_as_2 : decode cX6_as 2 = .ok (.invokevirtual 124, 3) := by decide +kernel
theorem dX6_as_5 : decode cX6_as 5 = .ok (.ifCond .eq 10, 3) := by decide +kernel
theorem dX6_as_8 : decode cX6_as 8 = .ok (.iload_n 2, 1) := by decide +kernel
theorem dX6_as_9 : decode cX6_as 9 = .ok (.invokestatic 102, 3) := by decide +kernel
theorem dX6_as_12 : decode cX6_as 12 = .ok (.ifCond .ne 10, 3) := by decide +kernel
theorem dX6_as_15 : decode cX6_as 15 = .ok (.aload_n 0, 1) := by decide +kernel
theorem dX6_as_16 : decode cX6_as 16 = .ok (.ldc 44, 2) := by decide +kernel
theorem dX6_as_18 : decode cX6_as 18 = .ok (.invokevirtual 69, 3) := by decide +kernel
theorem dX6_as_21 : decode cX6_as 21 = .ok (.ireturn, 1) := by decide +kernel
theorem dX6_as_22 : decode cX6_as 22 = .ok (.aload_n 0, 1) := by decide +kernel
theorem dX6_as_23 : decode cX6_as 23 = .ok (.iload_n 1, 1) := by decide +kernel
theorem dX6_as_24 : decode cX6_as 24 = .ok (.iconst 0, 1) := by decide +kernel
theorem dX6_as_25 : decode cX6_as 25 = .ok (.invokevirtual 64, 3) := by decide +kernel
theorem dX6_as_28 : decode cX6_as 28 = .ok (.istore_n 3, 1) := by decide +kernel
theorem dX6_as_29 : decode cX6_as 29 = .ok (.iload_n 3, 1) := by decide +kernel
theorem dX6_as_30 : decode cX6_as 30 = .ok (.iload_n 2, 1) := by decide +kernel
theorem dX6_as_31 : decode cX6_as 31 = .ok (.if_icmp .eq 15, 3) := by decide +kernel
theorem dX6_as_34 : decode cX6_as 34 = .ok (.iload_n 3, 1) := by decide +kernel
theorem dX6_as_35 : decode cX6_as 35 = .ok (.ifCond .eq 11, 3) := by decide +kernel
theorem dX6_as_38 : decode cX6_as 38 = .ok (.iload_n 3, 1) := by decide +kernel
theorem dX6_as_39 : decode cX6_as 39 = .ok (.invokestatic 130, 3) := by decide +kernel
theorem dX6_as_42 : decode cX6_as 42 = .ok (.istore_n 3, 1) := by decide +kernel
theorem dX6_as_43 : decode cX6_as 43 = .ok (.goto (-14), 3) := by decide +kernel
theorem dX6_as_46 : decode cX6_as 46 = .ok (.iload_n 3, 1) := by decide +kernel
theorem dX6_as_47 : decode cX6_as 47 = .ok (.iload_n 2, 1) := by decide +kernel
theorem dX6_as_48 : decode cX6_as 48 = .ok (.if_icmp .ne 12, 3) := by decide +kernel
theorem dX6_as_51 : decode cX6_as 51 = .ok (.aload_n 0, 1) := by decide +kernel
theorem dX6_as_52 : decode cX6_as 52 = .ok (.iload_n 1, 1) := by decide +kernel
theorem dX6_as_53 : decode cX6_as 53 = .ok (.iconst 3, 1) := by decide +kernel
theorem dX6_as_54 : decode cX6_as 54 = .ok (.invokevirtual 64, 3) := by decide +kernel
theorem dX6_as_57 : decode cX6_as 57 = .ok (.goto 9, 3) := by decide +kernel
theorem dX6_as_60 : decode cX6_as 60 = .ok (.aload_n 0, 1) := by decide +kernel
theorem dX6_as_61 : decode cX6_as 61 = .ok (.ldc 133, 2) := by decide +kernel
theorem dX6_as_63 : decode cX6_as 63 = .ok (.invokevirtual 69, 3) := by decide +kernel
theorem dX6_as_66 : decode cX6_as 66 = .ok (.ireturn, 1) := by decide +kernel
theorem dX6_step_0 : decode cX6_step 0 = .ok (.aload_n 0, 1) := by decide +kernel
theorem dX6_step_1 : decode cX6_step 1 = .ok (.iload_n 1, 1) := by decide +kernel
theorem dX6_step_2 : decode cX6_step 2 = .ok (.invokevirtual 124, 3) := by decide +kernel
theorem dX6_step_5 : decode cX6_step 5 = .ok (.ifCond .ne 10, 3) := by decide +kernel
theorem dX6_step_8 : decode cX6_step 8 = .ok (.aload_n 0, 1) := by decide +kernel
theorem dX6_step_9 : decode cX6_step 9 = .ok (.ldc 44, 2) := by decide +kernel
theorem dX6_step_11 : decode cX6_step 11 = .ok (.invokevirtual 69, 3) := by decide +kernel
theorem dX6_step_14 : decode cX6_step 14 = .ok (.ireturn, 1) := by decide +kernel
theorem dX6_step_15 : decode cX6_step 15 = .ok (.aload_n 0, 1) := by decide +kernel
theorem dX6_step_16 : decode cX6_step 16 = .ok (.iload_n 1, 1) := by decide +kernel
theorem dX6_step_17 : decode cX6_step 17 = .ok (.invokevirtual 134, 3) := by decide +kernel
theorem dX6_step_20 : decode cX6_step 20 = .ok (.aload_n 0, 1) := by decide +kernel
theorem dX6_step_21 : decode cX6_step 21 = .ok (.iload_n 1, 1) := by decide +kernel
theorem dX6_step_22 : decode cX6_step 22 = .ok (.iconst 1, 1) := by decide +kernel
theorem dX6_step_23 : decode cX6_step 23 = .ok (.invokevirtual 64, 3) := by decide +kernel
theorem dX6_step_26 : decode cX6_step 26 = .ok (.ireturn, 1) := by decide +kernel
theorem dX6_allMiles_0 : decode cX6_allMiles 0 = .ok (.iconst 0, 1) := by decide +kernel
theorem dX6_allMiles_1 : decode cX6_allMiles 1 = .ok (.istore_n 1, 1) := by decide +kernel
theorem dX6_allMiles_2 : decode cX6_allMiles 2 = .ok (.iconst 0, 1) := by decide +kernel
theorem dX6_allMiles_3 : decode cX6_allMiles 3 = .ok (.istore_n 2, 1) := by decide +kernel
theorem dX6_allMiles_4 : decode cX6_allMiles 4 = .ok (.iload_n 2, 1) := by decide +kernel
theorem dX6_allMiles_5 : decode cX6_allMiles 5 = .ok (.aload_n 0, 1) := by decide +kernel
theorem dX6_allMiles_6 : decode cX6_allMiles 6 = .ok (.getfield 7, 3) := by decide +kernel
theorem dX6_allMiles_9 : decode cX6_allMiles 9 = .ok (.iconst 1, 1) := by decide +kernel
theorem dX6_allMiles_10 : decode cX6_allMiles 10 = .ok (.iaload, 1) := by decide +kernel
theorem dX6_allMiles_11 : decode cX6_allMiles 11 = .ok (.if_icmp .ge 18, 3) := by decide +kernel
theorem dX6_allMiles_14 : decode cX6_allMiles 14 = .ok (.iload_n 1, 1) := by decide +kernel
theorem dX6_allMiles_15 : decode cX6_allMiles 15 = .ok (.aload_n 0, 1) := by decide +kernel
theorem dX6_allMiles_16 : decode cX6_allMiles 16 = .ok (.iload_n 2, 1) := by decide +kernel
theorem dX6_allMiles_17 : decode cX6_allMiles 17 = .ok (.iconst 3, 1) := by decide +kernel
theorem dX6_allMiles_18 : decode cX6_allMiles 18 = .ok (.invokevirtual 64, 3) := by decide +kernel
theorem dX6_allMiles_21 : decode cX6_allMiles 21 = .ok (.iadd, 1) := by decide +kernel
theorem dX6_allMiles_22 : decode cX6_allMiles 22 = .ok (.istore_n 1, 1) := by decide +kernel
theorem dX6_allMiles_23 : decode cX6_allMiles 23 = .ok (.iinc 2 1, 3) := by decide +kernel
theorem dX6_allMiles_26 : decode cX6_allMiles 26 = .ok (.goto (-22), 3) := by decide +kernel
theorem dX6_allMiles_29 : decode cX6_allMiles 29 = .ok (.iload_n 1, 1) := by decide +kernel
theorem dX6_allMiles_30 : decode cX6_allMiles 30 = .ok (.ireturn, 1) := by decide +kernel
theorem dX6_all_0 : decode cX6_all 0 = .ok (.iconst 0, 1) := by decide +kernel
theorem dX6_all_1 : decode cX6_all 1 = .ok (.istore_n 1, 1) := by decide +kernel
theorem dX6_all_2 : decode cX6_all 2 = .ok (.iload_n 1, 1) := by decide +kernel
theorem dX6_all_3 : decode cX6_all 3 = .ok (.aload_n 0, 1) := by decide +kernel
theorem dX6_all_4 : decode cX6_all 4 = .ok (.getfield 7, 3) := by decide +kernel
theorem dX6_all_7 : decode cX6_all 7 = .ok (.iconst 1, 1) := by decide +kernel
theorem dX6_all_8 : decode cX6_all 8 = .ok (.iaload, 1) := by decide +kernel
theorem dX6_all_9 : decode cX6_all 9 = .ok (.if_icmp .ge 14, 3) := by decide +kernel
theorem dX6_all_12 : decode cX6_all 12 = .ok (.aload_n 0, 1) := by decide +kernel
theorem dX6_all_13 : decode cX6_all 13 = .ok (.iload_n 1, 1) := by decide +kernel
theorem dX6_all_14 : decode cX6_all 14 = .ok (.invokevirtual 134, 3) := by decide +kernel
theorem dX6_all_17 : decode cX6_all 17 = .ok (.iinc 1 1, 3) := by decide +kernel
theorem dX6_all_20 : decode cX6_all 20 = .ok (.goto (-18), 3) := by decide +kernel
theorem dX6_all_23 : decode cX6_all 23 = .ok (.return_, 1) := by decide +kernel
theorem dX6_steps_0 : decode cX6_steps 0 = .ok (.iload_n 1, 1) := by decide +kernel
theorem dX6_steps_1 : decode cX6_steps 1 = .ok (.i2l, 1) := by decide +kernel
theorem dX6_steps_2 : decode cX6_steps 2 = .ok (.lconst 1, 1) := by decide +kernel
theorem dX6_steps_3 : decode cX6_steps 3 = .ok (.ldc2_w 137, 3) := by decide +kernel
theorem dX6_steps_6 : decode cX6_steps 6 = .ok (.invokestatic 45, 3) := by decide +kernel
theorem dX6_steps_9 : decode cX6_steps 9 = .ok (.ifCond .ne 10, 3) := by decide +kernel
theorem dX6_steps_12 : decode cX6_steps 12 = .ok (.aload_n 0, 1) := by decide +kernel
theorem dX6_steps_13 : decode cX6_steps 13 = .ok (.ldc 44, 2) := by decide +kernel
theorem dX6_steps_15 : decode cX6_steps 15 = .ok (.invokevirtual 69, 3) := by decide +kernel
theorem dX6_steps_18 : decode cX6_steps 18 = .ok (.ireturn, 1) := by decide +kernel
theorem dX6_steps_19 : decode cX6_steps 19 = .ok (.iconst 0, 1) := by decide +kernel
theorem dX6_steps_20 : decode cX6_steps 20 = .ok (.istore_n 2, 1) := by decide +kernel
theorem dX6_steps_21 : decode cX6_steps 21 = .ok (.iload_n 2, 1) := by decide +kernel
theorem dX6_steps_22 : decode cX6_steps 22 = .ok (.iload_n 1, 1) := by decide +kernel
theorem dX6_steps_23 : decode cX6_steps 23 = .ok (.if_icmp .ge 13, 3) := by decide +kernel
theorem dX6_steps_26 : decode cX6_steps 26 = .ok (.aload_n 0, 1) := by decide +kernel
theorem dX6_steps_27 : decode cX6_steps 27 = .ok (.invokevirtual 139, 3) := by decide +kernel
theorem dX6_steps_30 : decode cX6_steps 30 = .ok (.iinc 2 1, 3) := by decide +kernel
theorem dX6_steps_33 : decode cX6_steps 33 = .ok (.goto (-12), 3) := by decide +kernel
theorem dX6_steps_36 : decode cX6_steps 36 = .ok (.aload_n 0, 1) := by decide +kernel
theorem dX6_steps_37 : decode cX6_steps 37 = .ok (.invokevirtual 142, 3) := by decide +kernel
theorem dX6_steps_40 : decode cX6_steps 40 = .ok (.ireturn, 1) := by decide +kernel
theorem dX6_on_0 : decode cX6_on 0 = .ok (.aload_n 0, 1) := by decide +kernel
theorem dX6_on_1 : decode cX6_on 1 = .ok (.iload_n 1, 1) := by decide +kernel
theorem dX6_on_2 : decode cX6_on 2 = .ok (.invokevirtual 124, 3) := by decide +kernel
theorem dX6_on_5 : decode cX6_on 5 = .ok (.ifCond .eq 27, 3) := by decide +kernel
theorem dX6_on_8 : decode cX6_on 8 = .ok (.iload_n 2, 1) := by decide +kernel
theorem dX6_on_9 : decode cX6_on 9 = .ok (.i2l, 1) := by decide +kernel
theorem dX6_on_10 : decode cX6_on 10 = .ok (.lconst 0, 1) := by decide +kernel
theorem dX6_on_11 : decode cX6_on 11 = .ok (.ldc2_w 137, 3) := by decide +kernel
theorem dX6_on_14 : decode cX6_on 14 = .ok (.invokestatic 45, 3) := by decide +kernel
theorem dX6_on_17 : decode cX6_on 17 = .ok (.ifCond .eq 15, 3) := by decide +kernel
theorem dX6_on_20 : decode cX6_on 20 = .ok (.iload_n 3, 1) := by decide +kernel
theorem dX6_on_21 : decode cX6_on 21 = .ok (.i2l, 1) := by decide +kernel
theorem dX6_on_22 : decode cX6_on 22 = .ok (.lconst 0, 1) := by decide +kernel
theorem dX6_on_23 : decode cX6_on 23 = .ok (.ldc2_w 49, 3) := by decide +kernel
theorem dX6_on_26 : decode cX6_on 26 = .ok (.invokestatic 45, 3) := by decide +kernel
theorem dX6_on_29 : decode cX6_on 29 = .ok (.ifCond .ne 10, 3) := by decide +kernel
theorem dX6_on_32 : decode cX6_on 32 = .ok (.aload_n 0, 1) := by decide +kernel
theorem dX6_on_33 : decode cX6_on 33 = .ok (.ldc 44, 2) := by decide +kernel
theorem dX6_on_35 : decode cX6_on 35 = .ok (.invokevirtual 69, 3) := by decide +kernel
theorem dX6_on_38 : decode cX6_on 38 = .ok (.ireturn, 1) := by decide +kernel
theorem dX6_on_39 : decode cX6_on 39 = .ok (.aload_n 0, 1) := by decide +kernel
theorem dX6_on_40 : decode cX6_on 40 = .ok (.invokevirtual 146, 3) := by decide +kernel
theorem dX6_on_43 : decode cX6_on 43 = .ok (.iconst 0, 1) := by decide +kernel
theorem dX6_on_44 : decode cX6_on 44 = .ok (.istore 4, 2) := by decide +kernel
theorem dX6_on_46 : decode cX6_on 46 = .ok (.iload 4, 2) := by decide +kernel
theorem dX6_on_48 : decode cX6_on 48 = .ok (.iload_n 2, 1) := by decide +kernel
theorem dX6_on_49 : decode cX6_on 49 = .ok (.if_icmp .ge 14, 3) := by decide +kernel
theorem dX6_on_52 : decode cX6_on 52 = .ok (.aload_n 0, 1) := by decide +kernel
theorem dX6_on_53 : decode cX6_on 53 = .ok (.iload_n 1, 1) := by decide +kernel
theorem dX6_on_54 : decode cX6_on 54 = .ok (.invokevirtual 134, 3) := by decide +kernel
theorem dX6_on_57 : decode cX6_on 57 = .ok (.iinc 4 1, 3) := by decide +kernel
theorem dX6_on_60 : decode cX6_on 60 = .ok (.goto (-14), 3) := by decide +kernel
theorem dX6_on_63 : decode cX6_on 63 = .ok (.aload_n 0, 1) := by decide +kernel
theorem dX6_on_64 : decode cX6_on 64 = .ok (.aload_n 0, 1) := by decide +kernel
theorem dX6_on_65 : decode cX6_on 65 = .ok (.iload_n 1, 1) := by decide +kernel
theorem dX6_on_66 : decode cX6_on 66 = .ok (.iload_n 3, 1) := by decide +kernel
theorem dX6_on_67 : decode cX6_on 67 = .ok (.iconst 1, 1) := by decide +kernel
theorem dX6_on_68 : decode cX6_on 68 = .ok (.iadd, 1) := by decide +kernel
theorem dX6_on_69 : decode cX6_on 69 = .ok (.invokevirtual 64, 3) := by decide +kernel
theorem dX6_on_72 : decode cX6_on 72 = .ok (.invokevirtual 149, 3) := by decide +kernel
theorem dX6_on_75 : decode cX6_on 75 = .ok (.ireturn, 1) := by decide +kernel
theorem dX6_orNone_0 : decode cX6_orNone 0 = .ok (.iload_n 1, 1) := by decide +kernel
theorem dX6_orNone_1 : decode cX6_orNone 1 = .ok (.iload_n 2, 1) := by decide +kernel
theorem dX6_orNone_2 : decode cX6_orNone 2 = .ok (.if_icmp .le 12, 3) := by decide +kernel
theorem dX6_orNone_5 : decode cX6_orNone 5 = .ok (.aload_n 0, 1) := by decide +kernel
theorem dX6_orNone_6 : decode cX6_orNone 6 = .ok (.ldc 101, 2) := by decide +kernel
theorem dX6_orNone_8 : decode cX6_orNone 8 = .ok (.invokevirtual 69, 3) := by decide +kernel
theorem dX6_orNone_11 : decode cX6_orNone 11 = .ok (.goto 4, 3) := by decide +kernel
theorem dX6_orNone_14 : decode cX6_orNone 14 = .ok (.iload_n 1, 1) := by decide +kernel
theorem dX6_orNone_15 : decode cX6_orNone 15 = .ok (.ireturn, 1) := by decide +kernel
theorem dX6_when_0 : decode cX6_when 0 = .ok (.aload_n 0, 1) := by decide +kernel
theorem dX6_when_1 : decode cX6_when 1 = .ok (.iload_n 1, 1) := by decide +kernel
theorem dX6_when_2 : decode cX6_when 2 = .ok (.invokevirtual 124, 3) := by decide +kernel
theorem dX6_when_5 : decode cX6_when 5 = .ok (.ifCond .eq 11, 3) := by decide +kernel
theorem dX6_when_8 : decode cX6_when 8 = .ok (.aload_n 0, 1) := by decide +kernel
theorem dX6_when_9 : decode cX6_when 9 = .ok (.iload_n 2, 1) := by decide +kernel
theorem dX6_when_10 : decode cX6_when 10 = .ok (.invokevirtual 53, 3) := by decide +kernel
theorem dX6_when_13 : decode cX6_when 13 = .ok (.ifCond .ne 10, 3) := by decide +kernel
theorem dX6_when_16 : decode cX6_when 16 = .ok (.aload_n 0, 1) := by decide +kernel
theorem dX6_when_17 : decode cX6_when 17 = .ok (.ldc 44, 2) := by decide +kernel
theorem dX6_when_19 : decode cX6_when 19 = .ok (.invokevirtual 69, 3) := by decide +kernel
theorem dX6_when_22 : decode cX6_when 22 = .ok (.ireturn, 1) := by decide +kernel
theorem dX6_when_23 : decode cX6_when 23 = .ok (.aload_n 0, 1) := by decide +kernel
theorem dX6_when_24 : decode cX6_when 24 = .ok (.invokevirtual 146, 3) := by decide +kernel
theorem dX6_when_27 : decode cX6_when 27 = .ok (.iconst 0, 1) := by decide +kernel
theorem dX6_when_28 : decode cX6_when 28 = .ok (.istore_n 3, 1) := by decide +kernel
theorem dX6_when_29 : decode cX6_when 29 = .ok (.iload_n 3, 1) := by decide +kernel
theorem dX6_when_30 : decode cX6_when 30 = .ok (.bipush 100, 2) := by decide +kernel
theorem dX6_when_32 : decode cX6_when 32 = .ok (.if_icmp .gt 24, 3) := by decide +kernel
theorem dX6_when_35 : decode cX6_when 35 = .ok (.aload_n 0, 1) := by decide +kernel
theorem dX6_when_36 : decode cX6_when 36 = .ok (.iload_n 1, 1) := by decide +kernel
theorem dX6_when_37 : decode cX6_when 37 = .ok (.iconst 1, 1) := by decide +kernel
theorem dX6_when_38 : decode cX6_when 38 = .ok (.invokevirtual 64, 3) := by decide +kernel
theorem dX6_when_41 : decode cX6_when 41 = .ok (.iload_n 2, 1) := by decide +kernel
theorem dX6_when_42 : decode cX6_when 42 = .ok (.if_icmp .eq 14, 3) := by decide +kernel
theorem dX6_when_45 : decode cX6_when 45 = .ok (.aload_n 0, 1) := by decide +kernel
theorem dX6_when_46 : decode cX6_when 46 = .ok (.iload_n 1, 1) := by decide +kernel
theorem dX6_when_47 : decode cX6_when 47 = .ok (.invokevirtual 134, 3) := by decide +kernel
theorem dX6_when_50 : decode cX6_when 50 = .ok (.iinc 3 1, 3) := by decide +kernel
theorem dX6_when_53 : decode cX6_when 53 = .ok (.goto (-24), 3) := by decide +kernel
theorem dX6_when_56 : decode cX6_when 56 = .ok (.aload_n 0, 1) := by decide +kernel
theorem dX6_when_57 : decode cX6_when 57 = .ok (.aload_n 0, 1) := by decide +kernel
theorem dX6_when_58 : decode cX6_when 58 = .ok (.iload_n 3, 1) := by decide +kernel
theorem dX6_when_59 : decode cX6_when 59 = .ok (.invokevirtual 149, 3) := by decide +kernel
theorem dX6_when_62 : decode cX6_when 62 = .ok (.bipush 100, 2) := by decide +kernel
theorem dX6_when_64 : decode cX6_when 64 = .ok (.invokevirtual 152, 3) := by decide +kernel
theorem dX6_when_67 : decode cX6_when 67 = .ok (.ireturn, 1) := by decide +kernel
theorem dX6_back_0 : decode cX6_back 0 = .ok (.aload_n 0, 1) := by decide +kernel
theorem dX6_back_1 : decode cX6_back 1 = .ok (.iload_n 1, 1) := by decide +kernel
theorem dX6_back_2 : decode cX6_back 2 = .ok (.invokevirtual 124, 3) := by decide +kernel
theorem dX6_back_5 : decode cX6_back 5 = .ok (.ifCond .ne 10, 3) := by decide +kernel
theorem dX6_back_8 : decode cX6_back 8 = .ok (.aload_n 0, 1) := by decide +kernel
theorem dX6_back_9 : decode cX6_back 9 = .ok (.ldc 44, 2) := by decide +kernel
theorem dX6_back_11 : decode cX6_back 11 = .ok (.invokevirtual 69, 3) := by decide +kernel
theorem dX6_back_14 : decode cX6_back 14 = .ok (.ireturn, 1) := by decide +kernel
theorem dX6_back_15 : decode cX6_back 15 = .ok (.aload_n 0, 1) := by decide +kernel
theorem dX6_back_16 : decode cX6_back 16 = .ok (.invokevirtual 146, 3) := by decide +kernel
theorem dX6_back_19 : decode cX6_back 19 = .ok (.aload_n 0, 1) := by decide +kernel
theorem dX6_back_20 : decode cX6_back 20 = .ok (.iload_n 1, 1) := by decide +kernel
theorem dX6_back_21 : decode cX6_back 21 = .ok (.invokevirtual 109, 3) := by decide +kernel
theorem dX6_back_24 : decode cX6_back 24 = .ok (.istore_n 2, 1) := by decide +kernel
theorem dX6_back_25 : decode cX6_back 25 = .ok (.aload_n 0, 1) := by decide +kernel
theorem dX6_back_26 : decode cX6_back 26 = .ok (.iload_n 1, 1) := by decide +kernel
theorem dX6_back_27 : decode cX6_back 27 = .ok (.invokevirtual 134, 3) := by decide +kernel
theorem dX6_back_30 : decode cX6_back 30 = .ok (.iconst 1, 1) := by decide +kernel
theorem dX6_back_31 : decode cX6_back 31 = .ok (.istore_n 3, 1) := by decide +kernel
theorem dX6_back_32 : decode cX6_back 32 = .ok (.iload_n 3, 1) := by decide +kernel
theorem dX6_back_33 : decode cX6_back 33 = .ok (.sipush 200, 3) := by decide +kernel
theorem dX6_back_36 : decode cX6_back 36 = .ok (.if_icmp .gt 23, 3) := by decide +kernel
theorem dX6_back_39 : decode cX6_back 39 = .ok (.aload_n 0, 1) := by decide +kernel
theorem dX6_back_40 : decode cX6_back 40 = .ok (.iload_n 1, 1) := by decide +kernel
theorem dX6_back_41 : decode cX6_back 41 = .ok (.invokevirtual 109, 3) := by decide +kernel
theorem dX6_back_44 : decode cX6_back 44 = .ok (.iload_n 2, 1) := by decide +kernel
theorem dX6_back_45 : decode cX6_back 45 = .ok (.if_icmp .eq 14, 3) := by decide +kernel
theorem dX6_back_48 : decode cX6_back 48 = .ok (.aload_n 0, 1) := by decide +kernel
theorem dX6_back_49 : decode cX6_back 49 = .ok (.iload_n 1, 1) := by decide +kernel
theorem dX6_back_50 : decode cX6_back 50 = .ok (.invokevirtual 134, 3) := by decide +kernel
theorem dX6_back_53 : decode cX6_back 53 = .ok (.iinc 3 1, 3) := by decide +kernel
theorem dX6_back_56 : decode cX6_back 56 = .ok (.goto (-24), 3) := by decide +kernel
theorem dX6_back_59 : decode cX6_back 59 = .ok (.aload_n 0, 1) := by decide +kernel
theorem dX6_back_60 : decode cX6_back 60 = .ok (.aload_n 0, 1) := by decide +kernel
theorem dX6_back_61 : decode cX6_back 61 = .ok (.iload_n 3, 1) := by decide +kernel
theorem dX6_back_62 : decode cX6_back 62 = .ok (.invokevirtual 149, 3) := by decide +kernel
theorem dX6_back_65 : decode cX6_back 65 = .ok (.sipush 200, 3) := by decide +kernel
theorem dX6_back_68 : decode cX6_back 68 = .ok (.invokevirtual 152, 3) := by decide +kernel
theorem dX6_back_71 : decode cX6_back 71 = .ok (.ireturn, 1) := by decide +kernel
theorem dX6_meet_0 : decode cX6_meet 0 = .ok (.aload_n 0, 1) := by decide +kernel
theorem dX6_meet_1 : decode cX6_meet 1 = .ok (.iload_n 1, 1) := by decide +kernel
theorem dX6_meet_2 : decode cX6_meet 2 = .ok (.invokevirtual 124, 3) := by decide +kernel
theorem dX6_meet_5 : decode cX6_meet 5 = .ok (.ifCond .eq 16, 3) := by decide +kernel
theorem dX6_meet_8 : decode cX6_meet 8 = .ok (.aload_n 0, 1) := by decide +kernel
theorem dX6_meet_9 : decode cX6_meet 9 = .ok (.iload_n 2, 1) := by decide +kernel
theorem dX6_meet_10 : decode cX6_meet 10 = .ok (.invokevirtual 124, 3) := by decide +kernel
theorem dX6_meet_13 : decode cX6_meet 13 = .ok (.ifCond .eq 8, 3) := by decide +kernel
theorem dX6_meet_16 : decode cX6_meet 16 = .ok (.iload_n 1, 1) := by decide +kernel
theorem dX6_meet_17 : decode cX6_meet 17 = .ok (.iload_n 2, 1) := by decide +kernel
theorem dX6_meet_18 : decode cX6_meet 18 = .ok (.if_icmp .ne 10, 3) := by decide +kernel
theorem dX6_meet_21 : decode cX6_meet 21 = .ok (.aload_n 0, 1) := by decide +kernel
theorem dX6_meet_22 : decode cX6_meet 22 = .ok (.ldc 44, 2) := by decide +kernel
theorem dX6_meet_24 : decode cX6_meet 24 = .ok (.invokevirtual 69, 3) := by decide +kernel
theorem dX6_meet_27 : decode cX6_meet 27 = .ok (.ireturn, 1) := by decide +kernel
theorem dX6_meet_28 : decode cX6_meet 28 = .ok (.aload_n 0, 1) := by decide +kernel
theorem dX6_meet_29 : decode cX6_meet 29 = .ok (.invokevirtual 146, 3) := by decide +kernel
theorem dX6_meet_32 : decode cX6_meet 32 = .ok (.iconst 0, 1) := by decide +kernel
theorem dX6_meet_33 : decode cX6_meet 33 = .ok (.istore_n 3, 1) := by decide +kernel
theorem dX6_meet_34 : decode cX6_meet 34 = .ok (.iload_n 3, 1) := by decide +kernel
theorem dX6_meet_35 : decode cX6_meet 35 = .ok (.bipush 100, 2) := by decide +kernel
theorem dX6_meet_37 : decode cX6_meet 37 = .ok (.if_icmp .gt 28, 3) := by decide +kernel
theorem dX6_meet_40 : decode cX6_meet 40 = .ok (.aload_n 0, 1) := by decide +kernel
theorem dX6_meet_41 : decode cX6_meet 41 = .ok (.iload_n 1, 1) := by decide +kernel
theorem dX6_meet_42 : decode cX6_meet 42 = .ok (.iconst 1, 1) := by decide +kernel
theorem dX6_meet_43 : decode cX6_meet 43 = .ok (.invokevirtual 64, 3) := by decide +kernel
theorem dX6_meet_46 : decode cX6_meet 46 = .ok (.aload_n 0, 1) := by decide +kernel
theorem dX6_meet_47 : decode cX6_meet 47 = .ok (.iload_n 2, 1) := by decide +kernel
theorem dX6_meet_48 : decode cX6_meet 48 = .ok (.iconst 1, 1) := by decide +kernel
theorem dX6_meet_49 : decode cX6_meet 49 = .ok (.invokevirtual 64, 3) := by decide +kernel
theorem dX6_meet_52 : decode cX6_meet 52 = .ok (.if_icmp .eq 13, 3) := by decide +kernel
theorem dX6_meet_55 : decode cX6_meet 55 = .ok (.aload_n 0, 1) := by decide +kernel
theorem dX6_meet_56 : decode cX6_meet 56 = .ok (.invokevirtual 139, 3) := by decide +kernel
theorem dX6_meet_59 : decode cX6_meet 59 = .ok (.iinc 3 1, 3) := by decide +kernel
theorem dX6_meet_62 : decode cX6_meet 62 = .ok (.goto (-28), 3) := by decide +kernel
theorem dX6_meet_65 : decode cX6_meet 65 = .ok (.aload_n 0, 1) := by decide +kernel
theorem dX6_meet_66 : decode cX6_meet 66 = .ok (.aload_n 0, 1) := by decide +kernel
theorem dX6_meet_67 : decode cX6_meet 67 = .ok (.iload_n 3, 1) := by decide +kernel
theorem dX6_meet_68 : decode cX6_meet 68 = .ok (.invokevirtual 149, 3) := by decide +kernel
theorem dX6_meet_71 : decode cX6_meet 71 = .ok (.bipush 100, 2) := by decide +kernel
theorem dX6_meet_73 : decode cX6_meet 73 = .ok (.invokevirtual 152, 3) := by decide +kernel
theorem dX6_meet_76 : decode cX6_meet 76 = .ok (.ireturn, 1) := by decide +kernel
theorem dX6_spares_0 : decode cX6_spares 0 = .ok (.iload_n 1, 1) := by decide +kernel
theorem dX6_spares_1 : decode cX6_spares 1 = .ok (.i2l, 1) := by decide +kernel
theorem dX6_spares_2 : decode cX6_spares 2 = .ok (.lconst 0, 1) := by decide +kernel
theorem dX6_spares_3 : decode cX6_spares 3 = .ok (.ldc2_w 137, 3) := by decide +kernel
theorem dX6_spares_6 : decode cX6_spares 6 = .ok (.invokestatic 45, 3) := by decide +kernel
theorem dX6_spares_9 : decode cX6_spares 9 = .ok (.ifCond .ne 10, 3) := by decide +kernel
theorem dX6_spares_12 : decode cX6_spares 12 = .ok (.aload_n 0, 1) := by decide +kernel
theorem dX6_spares_13 : decode cX6_spares 13 = .ok (.ldc 44, 2) := by decide +kernel
theorem dX6_spares_15 : decode cX6_spares 15 = .ok (.invokevirtual 69, 3) := by decide +kernel
theorem dX6_spares_18 : decode cX6_spares 18 = .ok (.ireturn, 1) := by decide +kernel
theorem dX6_spares_19 : decode cX6_spares 19 = .ok (.aload_n 0, 1) := by decide +kernel
theorem dX6_spares_20 : decode cX6_spares 20 = .ok (.invokevirtual 146, 3) := by decide +kernel
theorem dX6_spares_23 : decode cX6_spares 23 = .ok (.iconst 0, 1) := by decide +kernel
theorem dX6_spares_24 : decode cX6_spares 24 = .ok (.istore_n 2, 1) := by decide +kernel
theorem dX6_spares_25 : decode cX6_spares 25 = .ok (.iload_n 2, 1) := by decide +kernel
theorem dX6_spares_26 : decode cX6_spares 26 = .ok (.iload_n 1, 1) := by decide +kernel
theorem dX6_spares_27 : decode cX6_spares 27 = .ok (.if_icmp .ge 13, 3) := by decide +kernel
theorem dX6_spares_30 : decode cX6_spares 30 = .ok (.aload_n 0, 1) := by decide +kernel
theorem dX6_spares_31 : decode cX6_spares 31 = .ok (.invokevirtual 139, 3) := by decide +kernel
theorem dX6_spares_34 : decode cX6_spares 34 = .ok (.iinc 2 1, 3) := by decide +kernel
theorem dX6_spares_37 : decode cX6_spares 37 = .ok (.goto (-12), 3) := by decide +kernel
theorem dX6_spares_40 : decode cX6_spares 40 = .ok (.iconst (-1), 1) := by decide +kernel
theorem dX6_spares_41 : decode cX6_spares 41 = .ok (.istore_n 2, 1) := by decide +kernel
theorem dX6_spares_42 : decode cX6_spares 42 = .ok (.iconst 0, 1) := by decide +kernel
theorem dX6_spares_43 : decode cX6_spares 43 = .ok (.istore_n 3, 1) := by decide +kernel
theorem dX6_spares_44 : decode cX6_spares 44 = .ok (.iload_n 3, 1) := by decide +kernel
theorem dX6_spares_45 : decode cX6_spares 45 = .ok (.aload_n 0, 1) := by decide +kernel
theorem dX6_spares_46 : decode cX6_spares 46 = .ok (.getfield 7, 3) := by decide +kernel
theorem dX6_spares_49 : decode cX6_spares 49 = .ok (.iconst 1, 1) := by decide +kernel
theorem dX6_spares_50 : decode cX6_spares 50 = .ok (.iaload, 1) := by decide +kernel
theorem dX6_spares_51 : decode cX6_spares 51 = .ok (.if_icmp .ge 34, 3) := by decide +kernel
theorem dX6_spares_54 : decode cX6_spares 54 = .ok (.iload_n 2, 1) := by decide +kernel
theorem dX6_spares_55 : decode cX6_spares 55 = .ok (.ifCond .lt 18, 3) := by decide +kernel
theorem dX6_spares_58 : decode cX6_spares 58 = .ok (.aload_n 0, 1) := by decide +kernel
theorem dX6_spares_59 : decode cX6_spares 59 = .ok (.iload_n 3, 1) := by decide +kernel
theorem dX6_spares_60 : decode cX6_spares 60 = .ok (.iconst 3, 1) := by decide +kernel
theorem dX6_spares_61 : decode cX6_spares 61 = .ok (.invokevirtual 64, 3) := by decide +kernel
theorem dX6_spares_64 : decode cX6_spares 64 = .ok (.aload_n 0, 1) := by decide +kernel
theorem dX6_spares_65 : decode cX6_spares 65 = .ok (.iload_n 2, 1) := by decide +kernel
theorem dX6_spares_66 : decode cX6_spares 66 = .ok (.iconst 3, 1) := by decide +kernel
theorem dX6_spares_67 : decode cX6_spares 67 = .ok (.invokevirtual 64, 3) := by decide +kernel
theorem dX6_spares_70 : decode cX6_spares 70 = .ok (.if_icmp .ge 7, 3) := by decide +kernel
theorem dX6_spares_73 : decode cX6_spares 73 = .ok (.iload_n 3, 1) := by decide +kernel
theorem dX6_spares_74 : decode cX6_spares 74 = .ok (.goto 4, 3) := by decide +kernel
theorem dX6_spares_77 : decode cX6_spares 77 = .ok (.iload_n 2, 1) := by decide +kernel
theorem dX6_spares_78 : decode cX6_spares 78 = .ok (.istore_n 2, 1) := by decide +kernel
theorem dX6_spares_79 : decode cX6_spares 79 = .ok (.iinc 3 1, 3) := by decide +kernel
theorem dX6_spares_82 : decode cX6_spares 82 = .ok (.goto (-38), 3) := by decide +kernel
theorem dX6_spares_85 : decode cX6_spares 85 = .ok (.aload_n 0, 1) := by decide +kernel
theorem dX6_spares_86 : decode cX6_spares 86 = .ok (.iload_n 2, 1) := by decide +kernel
theorem dX6_spares_87 : decode cX6_spares 87 = .ok (.invokevirtual 149, 3) := by decide +kernel
theorem dX6_spares_90 : decode cX6_spares 90 = .ok (.istore_n 3, 1) := by decide +kernel
theorem dX6_spares_91 : decode cX6_spares 91 = .ok (.iload_n 3, 1) := by decide +kernel
theorem dX6_spares_92 : decode cX6_spares 92 = .ok (.ifCond .ge 12, 3) := by decide +kernel
theorem dX6_spares_95 : decode cX6_spares 95 = .ok (.aload_n 0, 1) := by decide +kernel
theorem dX6_spares_96 : decode cX6_spares 96 = .ok (.ldc 101, 2) := by decide +kernel
theorem dX6_spares_98 : decode cX6_spares 98 = .ok (.invokevirtual 69, 3) := by decide +kernel
theorem dX6_spares_101 : decode cX6_spares 101 = .ok (.goto 4, 3) := by decide +kernel
theorem dX6_spares_104 : decode cX6_spares 104 = .ok (.iload_n 3, 1) := by decide +kernel
theorem dX6_spares_105 : decode cX6_spares 105 = .ok (.ireturn, 1) := by decide +kernel
theorem dX6_closes_0 : decode cX6_closes 0 = .ok (.aload_n 0, 1) := by decide +kernel
theorem dX6_closes_1 : decode cX6_closes 1 = .ok (.iload_n 1, 1) := by decide +kernel
theorem dX6_closes_2 : decode cX6_closes 2 = .ok (.iload_n 2, 1) := by decide +kernel
theorem dX6_closes_3 : decode cX6_closes 3 = .ok (.invokevirtual 88, 3) := by decide +kernel
theorem dX6_closes_6 : decode cX6_closes 6 = .ok (.ifCond .ne 10, 3) := by decide +kernel
theorem dX6_closes_9 : decode cX6_closes 9 = .ok (.aload_n 0, 1) := by decide +kernel
theorem dX6_closes_10 : decode cX6_closes 10 = .ok (.ldc 44, 2) := by decide +kernel
theorem dX6_closes_12 : decode cX6_closes 12 = .ok (.invokevirtual 69, 3) := by decide +kernel
theorem dX6_closes_15 : decode cX6_closes 15 = .ok (.ireturn, 1) := by decide +kernel
theorem dX6_closes_16 : decode cX6_closes 16 = .ok (.iconst 4, 1) := by decide +kernel
theorem dX6_closes_17 : decode cX6_closes 17 = .ok (.iload_n 1, 1) := by decide +kernel
theorem dX6_closes_18 : decode cX6_closes 18 = .ok (.imul, 1) := by decide +kernel
theorem dX6_closes_19 : decode cX6_closes 19 = .ok (.iload_n 2, 1) := by decide +kernel
theorem dX6_closes_20 : decode cX6_closes 20 = .ok (.iadd, 1) := by decide +kernel
theorem dX6_closes_21 : decode cX6_closes 21 = .ok (.istore_n 3, 1) := by decide +kernel
theorem dX6_closes_22 : decode cX6_closes 22 = .ok (.aload_n 0, 1) := by decide +kernel
theorem dX6_closes_23 : decode cX6_closes 23 = .ok (.iload_n 3, 1) := by decide +kernel
theorem dX6_closes_24 : decode cX6_closes 24 = .ok (.invokevirtual 112, 3) := by decide +kernel
theorem dX6_closes_27 : decode cX6_closes 27 = .ok (.istore 4, 2) := by decide +kernel
theorem dX6_closes_29 : decode cX6_closes 29 = .ok (.iconst 1, 1) := by decide +kernel
theorem dX6_closes_30 : decode cX6_closes 30 = .ok (.istore 5, 2) := by decide +kernel
theorem dX6_closes_32 : decode cX6_closes 32 = .ok (.iload 4, 2) := by decide +kernel
theorem dX6_closes_34 : decode cX6_closes 34 = .ok (.ifCond .lt 23, 3) := by decide +kernel
theorem dX6_closes_37 : decode cX6_closes 37 = .ok (.iload 4, 2) := by decide +kernel
theorem dX6_closes_39 : decode cX6_closes 39 = .ok (.iload_n 3, 1) := by decide +kernel
theorem dX6_closes_40 : decode cX6_closes 40 = .ok (.if_icmp .eq 17, 3) := by decide +kernel
theorem dX6_closes_43 : decode cX6_closes 43 = .ok (.aload_n 0, 1) := by decide +kernel
theorem dX6_closes_44 : decode cX6_closes 44 = .ok (.iload 4, 2) := by decide +kernel
theorem dX6_closes_46 : decode cX6_closes 46 = .ok (.invokevirtual 112, 3) := by decide +kernel
theorem dX6_closes_49 : decode cX6_closes 49 = .ok (.istore 4, 2) := by decide +kernel
theorem dX6_closes_51 : decode cX6_closes 51 = .ok (.iinc 5 1, 3) := by decide +kernel
theorem dX6_closes_54 : decode cX6_closes 54 = .ok (.goto (-22), 3) := by decide +kernel
theorem dX6_closes_57 : decode cX6_closes 57 = .ok (.iload 4, 2) := by decide +kernel
theorem dX6_closes_59 : decode cX6_closes 59 = .ok (.ifCond .ge 12, 3) := by decide +kernel
theorem dX6_closes_62 : decode cX6_closes 62 = .ok (.aload_n 0, 1) := by decide +kernel
theorem dX6_closes_63 : decode cX6_closes 63 = .ok (.ldc 101, 2) := by decide +kernel
theorem dX6_closes_65 : decode cX6_closes 65 = .ok (.invokevirtual 69, 3) := by decide +kernel
theorem dX6_closes_68 : decode cX6_closes 68 = .ok (.goto 5, 3) := by decide +kernel
theorem dX6_closes_71 : decode cX6_closes 71 = .ok (.iload 5, 2) := by decide +kernel
theorem dX6_closes_73 : decode cX6_closes 73 = .ok (.ireturn, 1) := by decide +kernel
theorem dX6_bumps_0 : decode cX6_bumps 0 = .ok (.aload_n 0, 1) := by decide +kernel
theorem dX6_bumps_1 : decode cX6_bumps 1 = .ok (.iload_n 1, 1) := by decide +kernel
theorem dX6_bumps_2 : decode cX6_bumps 2 = .ok (.iload_n 2, 1) := by decide +kernel
theorem dX6_bumps_3 : decode cX6_bumps 3 = .ok (.invokevirtual 88, 3) := by decide +kernel
theorem dX6_bumps_6 : decode cX6_bumps 6 = .ok (.ifCond .ne 10, 3) := by decide +kernel
theorem dX6_bumps_9 : decode cX6_bumps 9 = .ok (.aload_n 0, 1) := by decide +kernel
theorem dX6_bumps_10 : decode cX6_bumps 10 = .ok (.ldc 44, 2) := by decide +kernel
theorem dX6_bumps_12 : decode cX6_bumps 12 = .ok (.invokevirtual 69, 3) := by decide +kernel
theorem dX6_bumps_15 : decode cX6_bumps 15 = .ok (.ireturn, 1) := by decide +kernel
theorem dX6_bumps_16 : decode cX6_bumps 16 = .ok (.aload_n 0, 1) := by decide +kernel
theorem dX6_bumps_17 : decode cX6_bumps 17 = .ok (.iconst 4, 1) := by decide +kernel
theorem dX6_bumps_18 : decode cX6_bumps 18 = .ok (.iload_n 1, 1) := by decide +kernel
theorem dX6_bumps_19 : decode cX6_bumps 19 = .ok (.imul, 1) := by decide +kernel
theorem dX6_bumps_20 : decode cX6_bumps 20 = .ok (.iload_n 2, 1) := by decide +kernel
theorem dX6_bumps_21 : decode cX6_bumps 21 = .ok (.iadd, 1) := by decide +kernel
theorem dX6_bumps_22 : decode cX6_bumps 22 = .ok (.invokevirtual 112, 3) := by decide +kernel
theorem dX6_bumps_25 : decode cX6_bumps 25 = .ok (.istore_n 3, 1) := by decide +kernel
theorem dX6_bumps_26 : decode cX6_bumps 26 = .ok (.iconst 0, 1) := by decide +kernel
theorem dX6_bumps_27 : decode cX6_bumps 27 = .ok (.istore 4, 2) := by decide +kernel
theorem dX6_bumps_29 : decode cX6_bumps 29 = .ok (.iload_n 3, 1) := by decide +kernel
theorem dX6_bumps_30 : decode cX6_bumps 30 = .ok (.ifCond .lt 22, 3) := by decide +kernel
theorem dX6_bumps_33 : decode cX6_bumps 33 = .ok (.iload 4, 2) := by decide +kernel
theorem dX6_bumps_35 : decode cX6_bumps 35 = .ok (.bipush 64, 2) := by decide +kernel
theorem dX6_bumps_37 : decode cX6_bumps 37 = .ok (.if_icmp .gt 15, 3) := by decide +kernel
theorem dX6_bumps_40 : decode cX6_bumps 40 = .ok (.aload_n 0, 1) := by decide +kernel
theorem dX6_bumps_41 : decode cX6_bumps 41 = .ok (.iload_n 3, 1) := by decide +kernel
theorem dX6_bumps_42 : decode cX6_bumps 42 = .ok (.invokevirtual 112, 3) := by decide +kernel
theorem dX6_bumps_45 : decode cX6_bumps 45 = .ok (.istore_n 3, 1) := by decide +kernel
theorem dX6_bumps_46 : decode cX6_bumps 46 = .ok (.iinc 4 1, 3) := by decide +kernel
theorem dX6_bumps_49 : decode cX6_bumps 49 = .ok (.goto (-20), 3) := by decide +kernel
theorem dX6_bumps_52 : decode cX6_bumps 52 = .ok (.iload_n 3, 1) := by decide +kernel
theorem dX6_bumps_53 : decode cX6_bumps 53 = .ok (.ifCond .ge 8, 3) := by decide +kernel
theorem dX6_bumps_56 : decode cX6_bumps 56 = .ok (.iload 4, 2) := by decide +kernel
theorem dX6_bumps_58 : decode cX6_bumps 58 = .ok (.goto 9, 3) := by decide +kernel
theorem dX6_bumps_61 : decode cX6_bumps 61 = .ok (.aload_n 0, 1) := by decide +kernel
theorem dX6_bumps_62 : decode cX6_bumps 62 = .ok (.ldc 101, 2) := by decide +kernel
theorem dX6_bumps_64 : decode cX6_bumps 64 = .ok (.invokevirtual 69, 3) := by decide +kernel
theorem dX6_bumps_67 : decode cX6_bumps 67 = .ok (.ireturn, 1) := by decide +kernel
theorem dX6_square_0 : decode cX6_square 0 = .ok (.aload_n 0, 1) := by decide +kernel
theorem dX6_square_1 : decode cX6_square 1 = .ok (.iload_n 1, 1) := by decide +kernel
theorem dX6_square_2 : decode cX6_square 2 = .ok (.iload_n 2, 1) := by decide +kernel
theorem dX6_square_3 : decode cX6_square 3 = .ok (.invokevirtual 88, 3) := by decide +kernel
theorem dX6_square_6 : decode cX6_square 6 = .ok (.ifCond .eq 15, 3) := by decide +kernel
theorem dX6_square_9 : decode cX6_square 9 = .ok (.iload_n 3, 1) := by decide +kernel
theorem dX6_square_10 : decode cX6_square 10 = .ok (.i2l, 1) := by decide +kernel
theorem dX6_square_11 : decode cX6_square 11 = .ok (.lconst 1, 1) := by decide +kernel
theorem dX6_square_12 : decode cX6_square 12 = .ok (.ldc2_w 67, 3) := by decide +kernel
theorem dX6_square_15 : decode cX6_square 15 = .ok (.invokestatic 45, 3) := by decide +kernel
theorem dX6_square_18 : decode cX6_square 18 = .ok (.ifCond .ne 10, 3) := by decide +kernel
theorem dX6_square_21 : decode cX6_square 21 = .ok (.aload_n 0, 1) := by decide +kernel
theorem dX6_square_22 : decode cX6_square 22 = .ok (.ldc 44, 2) := by decide +kernel
theorem dX6_square_24 : decode cX6_square 24 = .ok (.invokevirtual 69, 3) := by decide +kernel
theorem dX6_square_27 : decode cX6_square 27 = .ok (.ireturn, 1) := by decide +kernel
theorem dX6_square_28 : decode cX6_square 28 = .ok (.iconst 4, 1) := by decide +kernel
theorem dX6_square_29 : decode cX6_square 29 = .ok (.iload_n 1, 1) := by decide +kernel
theorem dX6_square_30 : decode cX6_square 30 = .ok (.imul, 1) := by decide +kernel
theorem dX6_square_31 : decode cX6_square 31 = .ok (.iload_n 2, 1) := by decide +kernel
theorem dX6_square_32 : decode cX6_square 32 = .ok (.iadd, 1) := by decide +kernel
theorem dX6_square_33 : decode cX6_square 33 = .ok (.istore 4, 2) := by decide +kernel
theorem dX6_square_35 : decode cX6_square 35 = .ok (.iload 4, 2) := by decide +kernel
theorem dX6_square_37 : decode cX6_square 37 = .ok (.istore 5, 2) := by decide +kernel
theorem dX6_square_39 : decode cX6_square 39 = .ok (.iconst 1, 1) := by decide +kernel
theorem dX6_square_40 : decode cX6_square 40 = .ok (.istore 6, 2) := by decide +kernel
theorem dX6_square_42 : decode cX6_square 42 = .ok (.iload 6, 2) := by decide +kernel
theorem dX6_square_44 : decode cX6_square 44 = .ok (.bipush 64, 2) := by decide +kernel
theorem dX6_square_46 : decode cX6_square 46 = .ok (.if_icmp .gt 74, 3) := by decide +kernel
theorem dX6_square_49 : decode cX6_square 49 = .ok (.iconst 0, 1) := by decide +kernel
theorem dX6_square_50 : decode cX6_square 50 = .ok (.istore 7, 2) := by decide +kernel
theorem dX6_square_52 : decode cX6_square 52 = .ok (.iload 7, 2) := by decide +kernel
theorem dX6_square_54 : decode cX6_square 54 = .ok (.iload_n 3, 1) := by decide +kernel
theorem dX6_square_55 : decode cX6_square 55 = .ok (.if_icmp .ge 22, 3) := by decide +kernel
theorem dX6_square_58 : decode cX6_square 58 = .ok (.iload 5, 2) := by decide +kernel
theorem dX6_square_60 : decode cX6_square 60 = .ok (.ifCond .lt 17, 3) := by decide +kernel
theorem dX6_square_63 : decode cX6_square 63 = .ok (.aload_n 0, 1) := by decide +kernel
theorem dX6_square_64 : decode cX6_square 64 = .ok (.iload 5, 2) := by decide +kernel
theorem dX6_square_66 : decode cX6_square 66 = .ok (.invokevirtual 112, 3) := by decide +kernel
theorem dX6_square_69 : decode cX6_square 69 = .ok (.istore 5, 2) := by decide +kernel
theorem dX6_square_71 : decode cX6_square 71 = .ok (.iinc 7 1, 3) := by decide +kernel
theorem dX6_square_74 : decode cX6_square 74 = .ok (.goto (-22), 3) := by decide +kernel
theorem dX6_square_77 : decode cX6_square 77 = .ok (.iload 5, 2) := by decide +kernel
theorem dX6_square_79 : decode cX6_square 79 = .ok (.ifCond .ge 10, 3) := by decide +kernel
theorem dX6_square_82 : decode cX6_square 82 = .ok (.aload_n 0, 1) := by decide +kernel
theorem dX6_square_83 : decode cX6_square 83 = .ok (.ldc 101, 2) := by decide +kernel
theorem dX6_square_85 : decode cX6_square 85 = .ok (.invokevirtual 69, 3) := by decide +kernel
theorem dX6_square_88 : decode cX6_square 88 = .ok (.ireturn, 1) := by decide +kernel
theorem dX6_square_89 : decode cX6_square 89 = .ok (.iload 5, 2) := by decide +kernel
theorem dX6_square_91 : decode cX6_square 91 = .ok (.iconst 4, 1) := by decide +kernel
theorem dX6_square_92 : decode cX6_square 92 = .ok (.idiv, 1) := by decide +kernel
theorem dX6_square_93 : decode cX6_square 93 = .ok (.iconst 4, 1) := by decide +kernel
theorem dX6_square_94 : decode cX6_square 94 = .ok (.imul, 1) := by decide +kernel
theorem dX6_square_95 : decode cX6_square 95 = .ok (.iload 5, 2) := by decide +kernel
theorem dX6_square_97 : decode cX6_square 97 = .ok (.iconst 1, 1) := by decide +kernel
theorem dX6_square_98 : decode cX6_square 98 = .ok (.iadd, 1) := by decide +kernel
theorem dX6_square_99 : decode cX6_square 99 = .ok (.iconst 4, 1) := by decide +kernel
theorem dX6_square_100 : decode cX6_square 100 = .ok (.irem, 1) := by decide +kernel
theorem dX6_square_101 : decode cX6_square 101 = .ok (.iadd, 1) := by decide +kernel
theorem dX6_square_102 : decode cX6_square 102 = .ok (.istore 5, 2) := by decide +kernel
theorem dX6_square_104 : decode cX6_square 104 = .ok (.iload 5, 2) := by decide +kernel
theorem dX6_square_106 : decode cX6_square 106 = .ok (.iload 4, 2) := by decide +kernel
theorem dX6_square_108 : decode cX6_square 108 = .ok (.if_icmp .ne 6, 3) := by decide +kernel
theorem dX6_square_111 : decode cX6_square 111 = .ok (.iload 6, 2) := by decide +kernel
theorem dX6_square_113 : decode cX6_square 113 = .ok (.ireturn, 1) := by decide +kernel
theorem dX6_square_114 : decode cX6_square 114 = .ok (.iinc 6 1, 3) := by decide +kernel
theorem dX6_square_117 : decode cX6_square 117 = .ok (.goto (-75), 3) := by decide +kernel
theorem dX6_square_120 : decode cX6_square 120 = .ok (.aload_n 0, 1) := by decide +kernel
theorem dX6_square_121 : decode cX6_square 121 = .ok (.ldc 101, 2) := by decide +kernel
theorem dX6_square_123 : decode cX6_square 123 = .ok (.invokevirtual 69, 3) := by decide +kernel
theorem dX6_square_126 : decode cX6_square 126 = .ok (.ireturn, 1) := by decide +kernel
theorem dX6_dine_0 : decode cX6_dine 0 = .ok (.aload_n 0, 1) := by decide +kernel
theorem dX6_dine_1 : decode cX6_dine 1 = .ok (.iload_n 1, 1) := by decide +kernel
theorem dX6_dine_2 : decode cX6_dine 2 = .ok (.iload_n 2, 1) := by decide +kernel
theorem dX6_dine_3 : decode cX6_dine 3 = .ok (.invokevirtual 88, 3) := by decide +kernel
theorem dX6_dine_6 : decode cX6_dine 6 = .ok (.ifCond .eq 13, 3) := by decide +kernel
theorem dX6_dine_9 : decode cX6_dine 9 = .ok (.aload_n 0, 1) := by decide +kernel
theorem dX6_dine_10 : decode cX6_dine 10 = .ok (.iload_n 3, 1) := by decide +kernel
theorem dX6_dine_11 : decode cX6_dine 11 = .ok (.iload 4, 2) := by decide +kernel
theorem dX6_dine_13 : decode cX6_dine 13 = .ok (.invokevirtual 88, 3) := by decide +kernel
theorem dX6_dine_16 : decode cX6_dine 16 = .ok (.ifCond .ne 10, 3) := by decide +kernel
theorem dX6_dine_19 : decode cX6_dine 19 = .ok (.aload_n 0, 1) := by decide +kernel
theorem dX6_dine_20 : decode cX6_dine 20 = .ok (.ldc 44, 2) := by decide +kernel
theorem dX6_dine_22 : decode cX6_dine 22 = .ok (.invokevirtual 69, 3) := by decide +kernel
theorem dX6_dine_25 : decode cX6_dine 25 = .ok (.ireturn, 1) := by decide +kernel
theorem dX6_dine_26 : decode cX6_dine 26 = .ok (.iconst 4, 1) := by decide +kernel
theorem dX6_dine_27 : decode cX6_dine 27 = .ok (.iload_n 1, 1) := by decide +kernel
theorem dX6_dine_28 : decode cX6_dine 28 = .ok (.imul, 1) := by decide +kernel
theorem dX6_dine_29 : decode cX6_dine 29 = .ok (.iload_n 2, 1) := by decide +kernel
theorem dX6_dine_30 : decode cX6_dine 30 = .ok (.iadd, 1) := by decide +kernel
theorem dX6_dine_31 : decode cX6_dine 31 = .ok (.istore 5, 2) := by decide +kernel
theorem dX6_dine_33 : decode cX6_dine 33 = .ok (.iconst 4, 1) := by decide +kernel
theorem dX6_dine_34 : decode cX6_dine 34 = .ok (.iload_n 3, 1) := by decide +kernel
theorem dX6_dine_35 : decode cX6_dine 35 = .ok (.imul, 1) := by decide +kernel
theorem dX6_dine_36 : decode cX6_dine 36 = .ok (.iload 4, 2) := by decide +kernel
theorem dX6_dine_38 : decode cX6_dine 38 = .ok (.iadd, 1) := by decide +kernel
theorem dX6_dine_39 : decode cX6_dine 39 = .ok (.istore 6, 2) := by decide +kernel
theorem dX6_dine_41 : decode cX6_dine 41 = .ok (.iconst 0, 1) := by decide +kernel
theorem dX6_dine_42 : decode cX6_dine 42 = .ok (.istore 7, 2) := by decide +kernel
theorem dX6_dine_44 : decode cX6_dine 44 = .ok (.iload 7, 2) := by decide +kernel
theorem dX6_dine_46 : decode cX6_dine 46 = .ok (.bipush 64, 2) := by decide +kernel
theorem dX6_dine_48 : decode cX6_dine 48 = .ok (.if_icmp .gt 49, 3) := by decide +kernel
theorem dX6_dine_51 : decode cX6_dine 51 = .ok (.iload 5, 2) := by decide +kernel
theorem dX6_dine_53 : decode cX6_dine 53 = .ok (.ifCond .lt 44, 3) := by decide +kernel
theorem dX6_dine_56 : decode cX6_dine 56 = .ok (.iload 6, 2) := by decide +kernel
theorem dX6_dine_58 : decode cX6_dine 58 = .ok (.ifCond .lt 39, 3) := by decide +kernel
theorem dX6_dine_61 : decode cX6_dine 61 = .ok (.iload 5, 2) := by decide +kernel
theorem dX6_dine_63 : decode cX6_dine 63 = .ok (.iconst 4, 1) := by decide +kernel
theorem dX6_dine_64 : decode cX6_dine 64 = .ok (.idiv, 1) := by decide +kernel
theorem dX6_dine_65 : decode cX6_dine 65 = .ok (.iload 6, 2) := by decide +kernel
theorem dX6_dine_67 : decode cX6_dine 67 = .ok (.iconst 4, 1) := by decide +kernel
theorem dX6_dine_68 : decode cX6_dine 68 = .ok (.idiv, 1) := by decide +kernel
theorem dX6_dine_69 : decode cX6_dine 69 = .ok (.if_icmp .ne 6, 3) := by decide +kernel
theorem dX6_dine_72 : decode cX6_dine 72 = .ok (.iload 7, 2) := by decide +kernel
theorem dX6_dine_74 : decode cX6_dine 74 = .ok (.ireturn, 1) := by decide +kernel
theorem dX6_dine_75 : decode cX6_dine 75 = .ok (.aload_n 0, 1) := by decide +kernel
theorem dX6_dine_76 : decode cX6_dine 76 = .ok (.iload 5, 2) := by decide +kernel
theorem dX6_dine_78 : decode cX6_dine 78 = .ok (.invokevirtual 112, 3) := by decide +kernel
theorem dX6_dine_81 : decode cX6_dine 81 = .ok (.istore 5, 2) := by decide +kernel
theorem dX6_dine_83 : decode cX6_dine 83 = .ok (.aload_n 0, 1) := by decide +kernel
theorem dX6_dine_84 : decode cX6_dine 84 = .ok (.iload 6, 2) := by decide +kernel
theorem dX6_dine_86 : decode cX6_dine 86 = .ok (.invokevirtual 112, 3) := by decide +kernel
theorem dX6_dine_89 : decode cX6_dine 89 = .ok (.istore 6, 2) := by decide +kernel
theorem dX6_dine_91 : decode cX6_dine 91 = .ok (.iinc 7 1, 3) := by decide +kernel
theorem dX6_dine_94 : decode cX6_dine 94 = .ok (.goto (-50), 3) := by decide +kernel
theorem dX6_dine_97 : decode cX6_dine 97 = .ok (.aload_n 0, 1) := by decide +kernel
theorem dX6_dine_98 : decode cX6_dine 98 = .ok (.ldc 101, 2) := by decide +kernel
theorem dX6_dine_100 : decode cX6_dine 100 = .ok (.invokevirtual 69, 3) := by decide +kernel
theorem dX6_dine_103 : decode cX6_dine 103 = .ok (.ireturn, 1) := by decide +kernel
theorem dX6_seen_0 : decode cX6_seen 0 = .ok (.iconst 1, 1) := by decide +kernel
theorem dX6_seen_1 : decode cX6_seen 1 = .ok (.iload_n 1, 1) := by decide +kernel
theorem dX6_seen_2 : decode cX6_seen 2 = .ok (.iconst 4, 1) := by decide +kernel
theorem dX6_seen_3 : decode cX6_seen 3 = .ok (.idiv, 1) := by decide +kernel
theorem dX6_seen_4 : decode cX6_seen 4 = .ok (.ishl, 1) := by decide +kernel
theorem dX6_seen_5 : decode cX6_seen 5 = .ok (.istore_n 2, 1) := by decide +kernel
theorem dX6_seen_6 : decode cX6_seen 6 = .ok (.aload_n 0, 1) := by decide +kernel
theorem dX6_seen_7 : decode cX6_seen 7 = .ok (.iload_n 1, 1) := by decide +kernel
theorem dX6_seen_8 : decode cX6_seen 8 = .ok (.invokevirtual 112, 3) := by decide +kernel
theorem dX6_seen_11 : decode cX6_seen 11 = .ok (.istore_n 3, 1) := by decide +kernel
theorem dX6_seen_12 : decode cX6_seen 12 = .ok (.iload_n 3, 1) := by decide +kernel
theorem dX6_seen_13 : decode cX6_seen 13 = .ok (.ifCond .lt 25, 3) := by decide +kernel
theorem dX6_seen_16 : decode cX6_seen 16 = .ok (.iload_n 3, 1) := by decide +kernel
theorem dX6_seen_17 : decode cX6_seen 17 = .ok (.iload_n 1, 1) := by decide +kernel
theorem dX6_seen_18 : decode cX6_seen 18 = .ok (.if_icmp .eq 20, 3) := by decide +kernel
theorem dX6_seen_21 : decode cX6_seen 21 = .ok (.iload_n 2, 1) := by decide +kernel
theorem dX6_seen_22 : decode cX6_seen 22 = .ok (.iconst 1, 1) := by decide +kernel
theorem dX6_seen_23 : decode cX6_seen 23 = .ok (.iload_n 3, 1) := by decide +kernel
theorem dX6_seen_24 : decode cX6_seen 24 = .ok (.iconst 4, 1) := by decide +kernel
theorem dX6_seen_25 : decode cX6_seen 25 = .ok (.idiv, 1) := by decide +kernel
theorem dX6_seen_26 : decode cX6_seen 26 = .ok (.ishl, 1) := by decide +kernel
theorem dX6_seen_27 : decode cX6_seen 27 = .ok (.ior, 1) := by decide +kernel
theorem dX6_seen_28 : decode cX6_seen 28 = .ok (.istore_n 2, 1) := by decide +kernel
theorem dX6_seen_29 : decode cX6_seen 29 = .ok (.aload_n 0, 1) := by decide +kernel
theorem dX6_seen_30 : decode cX6_seen 30 = .ok (.iload_n 3, 1) := by decide +kernel
theorem dX6_seen_31 : decode cX6_seen 31 = .ok (.invokevirtual 112, 3) := by decide +kernel
theorem dX6_seen_34 : decode cX6_seen 34 = .ok (.istore_n 3, 1) := by decide +kernel
theorem dX6_seen_35 : decode cX6_seen 35 = .ok (.goto (-23), 3) := by decide +kernel
theorem dX6_seen_38 : decode cX6_seen 38 = .ok (.iload_n 2, 1) := by decide +kernel
theorem dX6_seen_39 : decode cX6_seen 39 = .ok (.ireturn, 1) := by decide +kernel
theorem dX6_sees_0 : decode cX6_sees 0 = .ok (.aload_n 0, 1) := by decide +kernel
theorem dX6_sees_1 : decode cX6_sees 1 = .ok (.iload_n 1, 1) := by decide +kernel
theorem dX6_sees_2 : decode cX6_sees 2 = .ok (.iload_n 2, 1) := by decide +kernel
theorem dX6_sees_3 : decode cX6_sees 3 = .ok (.invokevirtual 88, 3) := by decide +kernel
theorem dX6_sees_6 : decode cX6_sees 6 = .ok (.ifCond .eq 15, 3) := by decide +kernel
theorem dX6_sees_9 : decode cX6_sees 9 = .ok (.aload_n 0, 1) := by decide +kernel
theorem dX6_sees_10 : decode cX6_sees 10 = .ok (.iconst 4, 1) := by decide +kernel
theorem dX6_sees_11 : decode cX6_sees 11 = .ok (.iload_n 1, 1) := by decide +kernel
theorem dX6_sees_12 : decode cX6_sees 12 = .ok (.imul, 1) := by decide +kernel
theorem dX6_sees_13 : decode cX6_sees 13 = .ok (.iload_n 2, 1) := by decide +kernel
theorem dX6_sees_14 : decode cX6_sees 14 = .ok (.iadd, 1) := by decide +kernel
theorem dX6_sees_15 : decode cX6_sees 15 = .ok (.invokevirtual 155, 3) := by decide +kernel
theorem dX6_sees_18 : decode cX6_sees 18 = .ok (.goto 9, 3) := by decide +kernel
theorem dX6_sees_21 : decode cX6_sees 21 = .ok (.aload_n 0, 1) := by decide +kernel
theorem dX6_sees_22 : decode cX6_sees 22 = .ok (.ldc 44, 2) := by decide +kernel
theorem dX6_sees_24 : decode cX6_sees 24 = .ok (.invokevirtual 69, 3) := by decide +kernel
theorem dX6_sees_27 : decode cX6_sees 27 = .ok (.ireturn, 1) := by decide +kernel
theorem dX6_ones_0 : decode cX6_ones 0 = .ok (.iconst 0, 1) := by decide +kernel
theorem dX6_ones_1 : decode cX6_ones 1 = .ok (.istore_n 1, 1) := by decide +kernel
theorem dX6_ones_2 : decode cX6_ones 2 = .ok (.iload_n 0, 1) := by decide +kernel
theorem dX6_ones_3 : decode cX6_ones 3 = .ok (.istore_n 2, 1) := by decide +kernel
theorem dX6_ones_4 : decode cX6_ones 4 = .ok (.iload_n 2, 1) := by decide +kernel
theorem dX6_ones_5 : decode cX6_ones 5 = .ok (.ifCond .eq 15, 3) := by decide +kernel
theorem dX6_ones_8 : decode cX6_ones 8 = .ok (.iinc 1 1, 3) := by decide +kernel
theorem dX6_ones_11 : decode cX6_ones 11 = .ok (.iload_n 2, 1) := by decide +kernel
theorem dX6_ones_12 : decode cX6_ones 12 = .ok (.iload_n 2, 1) := by decide +kernel
theorem dX6_ones_13 : decode cX6_ones 13 = .ok (.iconst 1, 1) := by decide +kernel
theorem dX6_ones_14 : decode cX6_ones 14 = .ok (.isub, 1) := by decide +kernel
theorem dX6_ones_15 : decode cX6_ones 15 = .ok (.iand, 1) := by decide +kernel
theorem dX6_ones_16 : decode cX6_ones 16 = .ok (.istore_n 2, 1) := by decide +kernel
theorem dX6_ones_17 : decode cX6_ones 17 = .ok (.goto (-13), 3) := by decide +kernel
theorem dX6_ones_20 : decode cX6_ones 20 = .ok (.iload_n 1, 1) := by decide +kernel
theorem dX6_ones_21 : decode cX6_ones 21 = .ok (.ireturn, 1) := by decide +kernel
theorem dX6_twice_0 : decode cX6_twice 0 = .ok (.aload_n 0, 1) := by decide +kernel
theorem dX6_twice_1 : decode cX6_twice 1 = .ok (.iload_n 1, 1) := by decide +kernel
theorem dX6_twice_2 : decode cX6_twice 2 = .ok (.invokevirtual 53, 3) := by decide +kernel
theorem dX6_twice_5 : decode cX6_twice 5 = .ok (.ifCond .ne 10, 3) := by decide +kernel
theorem dX6_twice_8 : decode cX6_twice 8 = .ok (.aload_n 0, 1) := by decide +kernel
theorem dX6_twice_9 : decode cX6_twice 9 = .ok (.ldc 44, 2) := by decide +kernel
theorem dX6_twice_11 : decode cX6_twice 11 = .ok (.invokevirtual 69, 3) := by decide +kernel
theorem dX6_twice_14 : decode cX6_twice 14 = .ok (.ireturn, 1) := by decide +kernel
theorem dX6_twice_15 : decode cX6_twice 15 = .ok (.iconst 0, 1) := by decide +kernel
theorem dX6_twice_16 : decode cX6_twice 16 = .ok (.istore_n 2, 1) := by decide +kernel
theorem dX6_twice_17 : decode cX6_twice 17 = .ok (.iconst 0, 1) := by decide +kernel
theorem dX6_twice_18 : decode cX6_twice 18 = .ok (.istore_n 3, 1) := by decide +kernel
theorem dX6_twice_19 : decode cX6_twice 19 = .ok (.iconst 0, 1) := by decide +kernel
theorem dX6_twice_20 : decode cX6_twice 20 = .ok (.istore 4, 2) := by decide +kernel
theorem dX6_twice_22 : decode cX6_twice 22 = .ok (.iload 4, 2) := by decide +kernel
theorem dX6_twice_24 : decode cX6_twice 24 = .ok (.iconst 4, 1) := by decide +kernel
theorem dX6_twice_25 : decode cX6_twice 25 = .ok (.if_icmp .ge 39, 3) := by decide +kernel
theorem dX6_twice_28 : decode cX6_twice 28 = .ok (.aload_n 0, 1) := by decide +kernel
theorem dX6_twice_29 : decode cX6_twice 29 = .ok (.iconst 4, 1) := by decide +kernel
theorem dX6_twice_30 : decode cX6_twice 30 = .ok (.iload_n 1, 1) := by decide +kernel
theorem dX6_twice_31 : decode cX6_twice 31 = .ok (.imul, 1) := by decide +kernel
theorem dX6_twice_32 : decode cX6_twice 32 = .ok (.iload 4, 2) := by decide +kernel
theorem dX6_twice_34 : decode cX6_twice 34 = .ok (.iadd, 1) := by decide +kernel
theorem dX6_twice_35 : decode cX6_twice 35 = .ok (.invokevirtual 155, 3) := by decide +kernel
theorem dX6_twice_38 : decode cX6_twice 38 = .ok (.iconst 1, 1) := by decide +kernel
theorem dX6_twice_39 : decode cX6_twice 39 = .ok (.iload_n 1, 1) := by decide +kernel
theorem dX6_twice_40 : decode cX6_twice 40 = .ok (.ishl, 1) := by decide +kernel
theorem dX6_twice_41 : decode cX6_twice 41 = .ok (.iconst (-1), 1) := by decide +kernel
theorem dX6_twice_42 : decode cX6_twice 42 = .ok (.ixor, 1) := by decide +kernel
theorem dX6_twice_43 : decode cX6_twice 43 = .ok (.iand, 1) := by decide +kernel
theorem dX6_twice_44 : decode cX6_twice 44 = .ok (.istore 5, 2) := by decide +kernel
theorem dX6_twice_46 : decode cX6_twice 46 = .ok (.iload_n 3, 1) := by decide +kernel
theorem dX6_twice_47 : decode cX6_twice 47 = .ok (.iload_n 2, 1) := by decide +kernel
theorem dX6_twice_48 : decode cX6_twice 48 = .ok (.iload 5, 2) := by decide +kernel
theorem dX6_twice_50 : decode cX6_twice 50 = .ok (.iand, 1) := by decide +kernel
theorem dX6_twice_51 : decode cX6_twice 51 = .ok (.ior, 1) := by decide +kernel
theorem dX6_twice_52 : decode cX6_twice 52 = .ok (.istore_n 3, 1) := by decide +kernel
theorem dX6_twice_53 : decode cX6_twice 53 = .ok (.iload_n 2, 1) := by decide +kernel
theorem dX6_twice_54 : decode cX6_twice 54 = .ok (.iload 5, 2) := by decide +kernel
theorem dX6_twice_56 : decode cX6_twice 56 = .ok (.ior, 1) := by decide +kernel
theorem dX6_twice_57 : decode cX6_twice 57 = .ok (.istore_n 2, 1) := by decide +kernel
theorem dX6_twice_58 : decode cX6_twice 58 = .ok (.iinc 4 1, 3) := by decide +kernel
theorem dX6_twice_61 : decode cX6_twice 61 = .ok (.goto (-39), 3) := by decide +kernel
theorem dX6_twice_64 : decode cX6_twice 64 = .ok (.iload_n 3, 1) := by decide +kernel
theorem dX6_twice_65 : decode cX6_twice 65 = .ok (.invokestatic 158, 3) := by decide +kernel
theorem dX6_twice_68 : decode cX6_twice 68 = .ok (.ireturn, 1) := by decide +kernel
theorem dX6_beside_0 : decode cX6_beside 0 = .ok (.aload_n 0, 1) := by decide +kernel
theorem dX6_beside_1 : decode cX6_beside 1 = .ok (.getfield 7, 3) := by decide +kernel
theorem dX6_beside_4 : decode cX6_beside 4 = .ok (.bipush 18, 2) := by decide +kernel
theorem dX6_beside_6 : decode cX6_beside 6 = .ok (.iload_n 1, 1) := by decide +kernel
theorem dX6_beside_7 : decode cX6_beside 7 = .ok (.iadd, 1) := by decide +kernel
theorem dX6_beside_8 : decode cX6_beside 8 = .ok (.iaload, 1) := by decide +kernel
theorem dX6_beside_9 : decode cX6_beside 9 = .ok (.iconst 1, 1) := by decide +kernel
theorem dX6_beside_10 : decode cX6_beside 10 = .ok (.isub, 1) := by decide +kernel
theorem dX6_beside_11 : decode cX6_beside 11 = .ok (.istore_n 2, 1) := by decide +kernel
theorem dX6_beside_12 : decode cX6_beside 12 = .ok (.iload_n 2, 1) := by decide +kernel
theorem dX6_beside_13 : decode cX6_beside 13 = .ok (.ifCond .ge 7, 3) := by decide +kernel
theorem dX6_beside_16 : decode cX6_beside 16 = .ok (.iconst (-1), 1) := by decide +kernel
theorem dX6_beside_17 : decode cX6_beside 17 = .ok (.goto 14, 3) := by decide +kernel
theorem dX6_beside_20 : decode cX6_beside 20 = .ok (.iload_n 2, 1) := by decide +kernel
theorem dX6_beside_21 : decode cX6_beside 21 = .ok (.iconst 4, 1) := by decide +kernel
theorem dX6_beside_22 : decode cX6_beside 22 = .ok (.idiv, 1) := by decide +kernel
theorem dX6_beside_23 : decode cX6_beside 23 = .ok (.iconst 4, 1) := by decide +kernel
theorem dX6_beside_24 : decode cX6_beside 24 = .ok (.imul, 1) := by decide +kernel
theorem dX6_beside_25 : decode cX6_beside 25 = .ok (.iload_n 2, 1) := by decide +kernel
theorem dX6_beside_26 : decode cX6_beside 26 = .ok (.iconst 3, 1) := by decide +kernel
theorem dX6_beside_27 : decode cX6_beside 27 = .ok (.iadd, 1) := by decide +kernel
theorem dX6_beside_28 : decode cX6_beside 28 = .ok (.iconst 4, 1) := by decide +kernel
theorem dX6_beside_29 : decode cX6_beside 29 = .ok (.irem, 1) := by decide +kernel
theorem dX6_beside_30 : decode cX6_beside 30 = .ok (.iadd, 1) := by decide +kernel
theorem dX6_beside_31 : decode cX6_beside 31 = .ok (.ireturn, 1) := by decide +kernel
theorem dX6_aboutOf_0 : decode cX6_aboutOf 0 = .ok (.aload_n 0, 1) := by decide +kernel
theorem dX6_aboutOf_1 : decode cX6_aboutOf 1 = .ok (.iload_n 1, 1) := by decide +kernel
theorem dX6_aboutOf_2 : decode cX6_aboutOf 2 = .ok (.invokevirtual 161, 3) := by decide +kernel
theorem dX6_aboutOf_5 : decode cX6_aboutOf 5 = .ok (.istore_n 2, 1) := by decide +kernel
theorem dX6_aboutOf_6 : decode cX6_aboutOf 6 = .ok (.iconst 1, 1) := by decide +kernel
theorem dX6_aboutOf_7 : decode cX6_aboutOf 7 = .ok (.istore_n 3, 1) := by decide +kernel
theorem dX6_aboutOf_8 : decode cX6_aboutOf 8 = .ok (.iload_n 2, 1) := by decide +kernel
theorem dX6_aboutOf_9 : decode cX6_aboutOf 9 = .ok (.ifCond .lt 20, 3) := by decide +kernel
theorem dX6_aboutOf_12 : decode cX6_aboutOf 12 = .ok (.iload_n 2, 1) := by decide +kernel
theorem dX6_aboutOf_13 : decode cX6_aboutOf 13 = .ok (.iload_n 1, 1) := by decide +kernel
theorem dX6_aboutOf_14 : decode cX6_aboutOf 14 = .ok (.if_icmp .eq 15, 3) := by decide +kernel
theorem dX6_aboutOf_17 : decode cX6_aboutOf 17 = .ok (.aload_n 0, 1) := by decide +kernel
theorem dX6_aboutOf_18 : decode cX6_aboutOf 18 = .ok (.iload_n 2, 1) := by decide +kernel
theorem dX6_aboutOf_19 : decode cX6_aboutOf 19 = .ok (.invokevirtual 161, 3) := by decide +kernel
theorem dX6_aboutOf_22 : decode cX6_aboutOf 22 = .ok (.istore_n 2, 1) := by decide +kernel
theorem dX6_aboutOf_23 : decode cX6_aboutOf 23 = .ok (.iinc 3 1, 3) := by decide +kernel
theorem dX6_aboutOf_26 : decode cX6_aboutOf 26 = .ok (.goto (-18), 3) := by decide +kernel
theorem dX6_aboutOf_29 : decode cX6_aboutOf 29 = .ok (.iload_n 2, 1) := by decide +kernel
theorem dX6_aboutOf_30 : decode cX6_aboutOf 30 = .ok (.ifCond .ge 7, 3) := by decide +kernel
theorem dX6_aboutOf_33 : decode cX6_aboutOf 33 = .ok (.iconst 0, 1) := by decide +kernel
theorem dX6_aboutOf_34 : decode cX6_aboutOf 34 = .ok (.goto 4, 3) := by decide +kernel
theorem dX6_aboutOf_37 : decode cX6_aboutOf 37 = .ok (.iload_n 3, 1) := by decide +kernel
theorem dX6_aboutOf_38 : decode cX6_aboutOf 38 = .ok (.ireturn, 1) := by decide +kernel
theorem dX6_isFirst_0 : decode cX6_isFirst 0 = .ok (.iconst 1, 1) := by decide +kernel
theorem dX6_isFirst_1 : decode cX6_isFirst 1 = .ok (.istore_n 2, 1) := by decide +kernel
theorem dX6_isFirst_2 : decode cX6_isFirst 2 = .ok (.aload_n 0, 1) := by decide +kernel
theorem dX6_isFirst_3 : decode cX6_isFirst 3 = .ok (.iload_n 1, 1) := by decide +kernel
theorem dX6_isFirst_4 : decode cX6_isFirst 4 = .ok (.invokevirtual 161, 3) := by decide +kernel
theorem dX6_isFirst_7 : decode cX6_isFirst 7 = .ok (.istore_n 3, 1) := by decide +kernel
theorem dX6_isFirst_8 : decode cX6_isFirst 8 = .ok (.iload_n 3, 1) := by decide +kernel
theorem dX6_isFirst_9 : decode cX6_isFirst 9 = .ok (.iload_n 1, 1) := by decide +kernel
theorem dX6_isFirst_10 : decode cX6_isFirst 10 = .ok (.if_icmp .eq 27, 3) := by decide +kernel
theorem dX6_isFirst_13 : decode cX6_isFirst 13 = .ok (.iload_n 2, 1) := by decide +kernel
theorem dX6_isFirst_14 : decode cX6_isFirst 14 = .ok (.ifCond .eq 23, 3) := by decide +kernel
theorem dX6_isFirst_17 : decode cX6_isFirst 17 = .ok (.iload_n 3, 1) := by decide +kernel
theorem dX6_isFirst_18 : decode cX6_isFirst 18 = .ok (.iload_n 1, 1) := by decide +kernel
theorem dX6_isFirst_19 : decode cX6_isFirst 19 = .ok (.if_icmp .le 7, 3) := by decide +kernel
theorem dX6_isFirst_22 : decode cX6_isFirst 22 = .ok (.iconst 1, 1) := by decide +kernel
theorem dX6_isFirst_23 : decode cX6_isFirst 23 = .ok (.goto 4, 3) := by decide +kernel
theorem dX6_isFirst_26 : decode cX6_isFirst 26 = .ok (.iconst 0, 1) := by decide +kernel
theorem dX6_isFirst_27 : decode cX6_isFirst 27 = .ok (.istore_n 2, 1) := by decide +kernel
theorem dX6_isFirst_28 : decode cX6_isFirst 28 = .ok (.aload_n 0, 1) := by decide +kernel
theorem dX6_isFirst_29 : decode cX6_isFirst 29 = .ok (.iload_n 3, 1) := by decide +kernel
theorem dX6_isFirst_30 : decode cX6_isFirst 30 = .ok (.invokevirtual 161, 3) := by decide +kernel
theorem dX6_isFirst_33 : decode cX6_isFirst 33 = .ok (.istore_n 3, 1) := by decide +kernel
theorem dX6_isFirst_34 : decode cX6_isFirst 34 = .ok (.goto (-26), 3) := by decide +kernel
theorem dX6_isFirst_37 : decode cX6_isFirst 37 = .ok (.iload_n 2, 1) := by decide +kernel
theorem dX6_isFirst_38 : decode cX6_isFirst 38 = .ok (.ireturn, 1) := by decide +kernel
theorem dX6_about_0 : decode cX6_about 0 = .ok (.aload_n 0, 1) := by decide +kernel
theorem dX6_about_1 : decode cX6_about 1 = .ok (.iload_n 1, 1) := by decide +kernel
theorem dX6_about_2 : decode cX6_about 2 = .ok (.iload_n 2, 1) := by decide +kernel
theorem dX6_about_3 : decode cX6_about 3 = .ok (.invokevirtual 88, 3) := by decide +kernel
theorem dX6_about_6 : decode cX6_about 6 = .ok (.ifCond .ne 10, 3) := by decide +kernel
theorem dX6_about_9 : decode cX6_about 9 = .ok (.aload_n 0, 1) := by decide +kernel
theorem dX6_about_10 : decode cX6_about 10 = .ok (.ldc 44, 2) := by decide +kernel
theorem dX6_about_12 : decode cX6_about 12 = .ok (.invokevirtual 69, 3) := by decide +kernel
theorem dX6_about_15 : decode cX6_about 15 = .ok (.ireturn, 1) := by decide +kernel
theorem dX6_about_16 : decode cX6_about 16 = .ok (.aload_n 0, 1) := by decide +kernel
theorem dX6_about_17 : decode cX6_about 17 = .ok (.iconst 4, 1) := by decide +kernel
theorem dX6_about_18 : decode cX6_about 18 = .ok (.iload_n 1, 1) := by decide +kernel
theorem dX6_about_19 : decode cX6_about 19 = .ok (.imul, 1) := by decide +kernel
theorem dX6_about_20 : decode cX6_about 20 = .ok (.iload_n 2, 1) := by decide +kernel
theorem dX6_about_21 : decode cX6_about 21 = .ok (.iadd, 1) := by decide +kernel
theorem dX6_about_22 : decode cX6_about 22 = .ok (.invokevirtual 164, 3) := by decide +kernel
theorem dX6_about_25 : decode cX6_about 25 = .ok (.istore_n 3, 1) := by decide +kernel
theorem dX6_about_26 : decode cX6_about 26 = .ok (.iload_n 3, 1) := by decide +kernel
theorem dX6_about_27 : decode cX6_about 27 = .ok (.ifCond .ne 12, 3) := by decide +kernel
theorem dX6_about_30 : decode cX6_about 30 = .ok (.aload_n 0, 1) := by decide +kernel
theorem dX6_about_31 : decode cX6_about 31 = .ok (.ldc 101, 2) := by decide +kernel
theorem dX6_about_33 : decode cX6_about 33 = .ok (.invokevirtual 69, 3) := by decide +kernel
theorem dX6_about_36 : decode cX6_about 36 = .ok (.goto 4, 3) := by decide +kernel
theorem dX6_about_39 : decode cX6_about 39 = .ok (.iload_n 3, 1) := by decide +kernel
theorem dX6_about_40 : decode cX6_about 40 = .ok (.ireturn, 1) := by decide +kernel
theorem dX6_corners_0 : decode cX6_corners 0 = .ok (.iconst 0, 1) := by decide +kernel
theorem dX6_corners_1 : decode cX6_corners 1 = .ok (.istore_n 1, 1) := by decide +kernel
theorem dX6_corners_2 : decode cX6_corners 2 = .ok (.iconst 0, 1) := by decide +kernel
theorem dX6_corners_3 : decode cX6_corners 3 = .ok (.istore_n 2, 1) := by decide +kernel
theorem dX6_corners_4 : decode cX6_corners 4 = .ok (.iload_n 2, 1) := by decide +kernel
theorem dX6_corners_5 : decode cX6_corners 5 = .ok (.iconst 4, 1) := by decide +kernel
theorem dX6_corners_6 : decode cX6_corners 6 = .ok (.aload_n 0, 1) := by decide +kernel
theorem dX6_corners_7 : decode cX6_corners 7 = .ok (.getfield 7, 3) := by decide +kernel
theorem dX6_corners_10 : decode cX6_corners 10 = .ok (.iconst 0, 1) := by decide +kernel
theorem dX6_corners_11 : decode cX6_corners 11 = .ok (.iaload, 1) := by decide +kernel
theorem dX6_corners_12 : decode cX6_corners 12 = .ok (.imul, 1) := by decide +kernel
theorem dX6_corners_13 : decode cX6_corners 13 = .ok (.if_icmp .ge 33, 3) := by decide +kernel
theorem dX6_corners_16 : decode cX6_corners 16 = .ok (.iload_n 1, 1) := by decide +kernel
theorem dX6_corners_17 : decode cX6_corners 17 = .ok (.aload_n 0, 1) := by decide +kernel
theorem dX6_corners_18 : decode cX6_corners 18 = .ok (.iload_n 2, 1) := by decide +kernel
theorem dX6_corners_19 : decode cX6_corners 19 = .ok (.invokevirtual 164, 3) := by decide +kernel
theorem dX6_corners_22 : decode cX6_corners 22 = .ok (.ifCond .le 15, 3) := by decide +kernel
theorem dX6_corners_25 : decode cX6_corners 25 = .ok (.aload_n 0, 1) := by decide +kernel
theorem dX6_corners_26 : decode cX6_corners 26 = .ok (.iload_n 2, 1) := by decide +kernel
theorem dX6_corners_27 : decode cX6_corners 27 = .ok (.invokevirtual 167, 3) := by decide +kernel
theorem dX6_corners_30 : decode cX6_corners 30 = .ok (.ifCond .eq 7, 3) := by decide +kernel
theorem dX6_corners_33 : decode cX6_corners 33 = .ok (.iconst 1, 1) := by decide +kernel
theorem dX6_corners_34 : decode cX6_corners 34 = .ok (.goto 4, 3) := by decide +kernel
theorem dX6_corners_37 : decode cX6_corners 37 = .ok (.iconst 0, 1) := by decide +kernel
theorem dX6_corners_38 : decode cX6_corners 38 = .ok (.iadd, 1) := by decide +kernel
theorem dX6_corners_39 : decode cX6_corners 39 = .ok (.istore_n 1, 1) := by decide +kernel
theorem dX6_corners_40 : decode cX6_corners 40 = .ok (.iinc 2 1, 3) := by decide +kernel
theorem dX6_corners_43 : decode cX6_corners 43 = .ok (.goto (-39), 3) := by decide +kernel
theorem dX6_corners_46 : decode cX6_corners 46 = .ok (.iload_n 1, 1) := by decide +kernel
theorem dX6_corners_47 : decode cX6_corners 47 = .ok (.ireturn, 1) := by decide +kernel
theorem dX6_excess_0 : decode cX6_excess 0 = .ok (.iconst 0, 1) := by decide +kernel
theorem dX6_excess_1 : decode cX6_excess 1 = .ok (.istore_n 1, 1) := by decide +kernel
theorem dX6_excess_2 : decode cX6_excess 2 = .ok (.iconst 0, 1) := by decide +kernel
theorem dX6_excess_3 : decode cX6_excess 3 = .ok (.istore_n 2, 1) := by decide +kernel
theorem dX6_excess_4 : decode cX6_excess 4 = .ok (.iload_n 2, 1) := by decide +kernel
theorem dX6_excess_5 : decode cX6_excess 5 = .ok (.iconst 4, 1) := by decide +kernel
theorem dX6_excess_6 : decode cX6_excess 6 = .ok (.aload_n 0, 1) := by decide +kernel
theorem dX6_excess_7 : decode cX6_excess 7 = .ok (.getfield 7, 3) := by decide +kernel
theorem dX6_excess_10 : decode cX6_excess 10 = .ok (.iconst 0, 1) := by decide +kernel
theorem dX6_excess_11 : decode cX6_excess 11 = .ok (.iaload, 1) := by decide +kernel
theorem dX6_excess_12 : decode cX6_excess 12 = .ok (.imul, 1) := by decide +kernel
theorem dX6_excess_13 : decode cX6_excess 13 = .ok (.if_icmp .ge 39, 3) := by decide +kernel
theorem dX6_excess_16 : decode cX6_excess 16 = .ok (.iload_n 1, 1) := by decide +kernel
theorem dX6_excess_17 : decode cX6_excess 17 = .ok (.aload_n 0, 1) := by decide +kernel
theorem dX6_excess_18 : decode cX6_excess 18 = .ok (.iload_n 2, 1) := by decide +kernel
theorem dX6_excess_19 : decode cX6_excess 19 = .ok (.invokevirtual 164, 3) := by decide +kernel
theorem dX6_excess_22 : decode cX6_excess 22 = .ok (.ifCond .le 21, 3) := by decide +kernel
theorem dX6_excess_25 : decode cX6_excess 25 = .ok (.aload_n 0, 1) := by decide +kernel
theorem dX6_excess_26 : decode cX6_excess 26 = .ok (.iload_n 2, 1) := by decide +kernel
theorem dX6_excess_27 : decode cX6_excess 27 = .ok (.invokevirtual 167, 3) := by decide +kernel
theorem dX6_excess_30 : decode cX6_excess 30 = .ok (.ifCond .eq 13, 3) := by decide +kernel
theorem dX6_excess_33 : decode cX6_excess 33 = .ok (.iconst 4, 1) := by decide +kernel
theorem dX6_excess_34 : decode cX6_excess 34 = .ok (.aload_n 0, 1) := by decide +kernel
theorem dX6_excess_35 : decode cX6_excess 35 = .ok (.iload_n 2, 1) := by decide +kernel
theorem dX6_excess_36 : decode cX6_excess 36 = .ok (.invokevirtual 164, 3) := by decide +kernel
theorem dX6_excess_39 : decode cX6_excess 39 = .ok (.isub, 1) := by decide +kernel
theorem dX6_excess_40 : decode cX6_excess 40 = .ok (.goto 4, 3) := by decide +kernel
theorem dX6_excess_43 : decode cX6_excess 43 = .ok (.iconst 0, 1) := by decide +kernel
theorem dX6_excess_44 : decode cX6_excess 44 = .ok (.iadd, 1) := by decide +kernel
theorem dX6_excess_45 : decode cX6_excess 45 = .ok (.istore_n 1, 1) := by decide +kernel
theorem dX6_excess_46 : decode cX6_excess 46 = .ok (.iinc 2 1, 3) := by decide +kernel
theorem dX6_excess_49 : decode cX6_excess 49 = .ok (.goto (-45), 3) := by decide +kernel
theorem dX6_excess_52 : decode cX6_excess 52 = .ok (.iload_n 1, 1) := by decide +kernel
theorem dX6_excess_53 : decode cX6_excess 53 = .ok (.ireturn, 1) := by decide +kernel
theorem dX6_bent_0 : decode cX6_bent 0 = .ok (.iconst 0, 1) := by decide +kernel
theorem dX6_bent_1 : decode cX6_bent 1 = .ok (.istore_n 1, 1) := by decide +kernel
theorem dX6_bent_2 : decode cX6_bent 2 = .ok (.iconst 0, 1) := by decide +kernel
theorem dX6_bent_3 : decode cX6_bent 3 = .ok (.istore_n 2, 1) := by decide +kernel
theorem dX6_bent_4 : decode cX6_bent 4 = .ok (.iload_n 2, 1) := by decide +kernel
theorem dX6_bent_5 : decode cX6_bent 5 = .ok (.iconst 4, 1) := by decide +kernel
theorem dX6_bent_6 : decode cX6_bent 6 = .ok (.aload_n 0, 1) := by decide +kernel
theorem dX6_bent_7 : decode cX6_bent 7 = .ok (.getfield 7, 3) := by decide +kernel
theorem dX6_bent_10 : decode cX6_bent 10 = .ok (.iconst 0, 1) := by decide +kernel
theorem dX6_bent_11 : decode cX6_bent 11 = .ok (.iaload, 1) := by decide +kernel
theorem dX6_bent_12 : decode cX6_bent 12 = .ok (.imul, 1) := by decide +kernel
theorem dX6_bent_13 : decode cX6_bent 13 = .ok (.if_icmp .ge 38, 3) := by decide +kernel
theorem dX6_bent_16 : decode cX6_bent 16 = .ok (.iload_n 1, 1) := by decide +kernel
theorem dX6_bent_17 : decode cX6_bent 17 = .ok (.aload_n 0, 1) := by decide +kernel
theorem dX6_bent_18 : decode cX6_bent 18 = .ok (.iload_n 2, 1) := by decide +kernel
theorem dX6_bent_19 : decode cX6_bent 19 = .ok (.invokevirtual 164, 3) := by decide +kernel
theorem dX6_bent_22 : decode cX6_bent 22 = .ok (.ifCond .le 20, 3) := by decide +kernel
theorem dX6_bent_25 : decode cX6_bent 25 = .ok (.aload_n 0, 1) := by decide +kernel
theorem dX6_bent_26 : decode cX6_bent 26 = .ok (.iload_n 2, 1) := by decide +kernel
theorem dX6_bent_27 : decode cX6_bent 27 = .ok (.invokevirtual 164, 3) := by decide +kernel
theorem dX6_bent_30 : decode cX6_bent 30 = .ok (.iconst 4, 1) := by decide +kernel
theorem dX6_bent_31 : decode cX6_bent 31 = .ok (.if_icmp .eq 11, 3) := by decide +kernel
theorem dX6_bent_34 : decode cX6_bent 34 = .ok (.iconst 1, 1) := by decide +kernel
theorem dX6_bent_35 : decode cX6_bent 35 = .ok (.iload_n 2, 1) := by decide +kernel
theorem dX6_bent_36 : decode cX6_bent 36 = .ok (.iconst 4, 1) := by decide +kernel
theorem dX6_bent_37 : decode cX6_bent 37 = .ok (.idiv, 1) := by decide +kernel
theorem dX6_bent_38 : decode cX6_bent 38 = .ok (.ishl, 1) := by decide +kernel
theorem dX6_bent_39 : decode cX6_bent 39 = .ok (.goto 4, 3) := by decide +kernel
theorem dX6_bent_42 : decode cX6_bent 42 = .ok (.iconst 0, 1) := by decide +kernel
theorem dX6_bent_43 : decode cX6_bent 43 = .ok (.ior, 1) := by decide +kernel
theorem dX6_bent_44 : decode cX6_bent 44 = .ok (.istore_n 1, 1) := by decide +kernel
theorem dX6_bent_45 : decode cX6_bent 45 = .ok (.iinc 2 1, 3) := by decide +kernel
theorem dX6_bent_48 : decode cX6_bent 48 = .ok (.goto (-44), 3) := by decide +kernel
theorem dX6_bent_51 : decode cX6_bent 51 = .ok (.iload_n 1, 1) := by decide +kernel
theorem dX6_bent_52 : decode cX6_bent 52 = .ok (.ireturn, 1) := by decide +kernel
theorem dX6_spread_0 : decode cX6_spread 0 = .ok (.iload_n 1, 1) := by decide +kernel
theorem dX6_spread_1 : decode cX6_spread 1 = .ok (.istore_n 2, 1) := by decide +kernel
theorem dX6_spread_2 : decode cX6_spread 2 = .ok (.iconst 0, 1) := by decide +kernel
theorem dX6_spread_3 : decode cX6_spread 3 = .ok (.istore_n 3, 1) := by decide +kernel
theorem dX6_spread_4 : decode cX6_spread 4 = .ok (.iload_n 3, 1) := by decide +kernel
theorem dX6_spread_5 : decode cX6_spread 5 = .ok (.iconst 4, 1) := by decide +kernel
theorem dX6_spread_6 : decode cX6_spread 6 = .ok (.aload_n 0, 1) := by decide +kernel
theorem dX6_spread_7 : decode cX6_spread 7 = .ok (.getfield 7, 3) := by decide +kernel
theorem dX6_spread_10 : decode cX6_spread 10 = .ok (.iconst 0, 1) := by decide +kernel
theorem dX6_spread_11 : decode cX6_spread 11 = .ok (.iaload, 1) := by decide +kernel
theorem dX6_spread_12 : decode cX6_spread 12 = .ok (.imul, 1) := by decide +kernel
theorem dX6_spread_13 : decode cX6_spread 13 = .ok (.if_icmp .ge 54, 3) := by decide +kernel
theorem dX6_spread_16 : decode cX6_spread 16 = .ok (.iload_n 2, 1) := by decide +kernel
theorem dX6_spread_17 : decode cX6_spread 17 = .ok (.iload_n 1, 1) := by decide +kernel
theorem dX6_spread_18 : decode cX6_spread 18 = .ok (.iload_n 3, 1) := by decide +kernel
theorem dX6_spread_19 : decode cX6_spread 19 = .ok (.iconst 4, 1) := by decide +kernel
theorem dX6_spread_20 : decode cX6_spread 20 = .ok (.idiv, 1) := by decide +kernel
theorem dX6_spread_21 : decode cX6_spread 21 = .ok (.ishr, 1) := by decide +kernel
theorem dX6_spread_22 : decode cX6_spread 22 = .ok (.iconst 1, 1) := by decide +kernel
theorem dX6_spread_23 : decode cX6_spread 23 = .ok (.iand, 1) := by decide +kernel
theorem dX6_spread_24 : decode cX6_spread 24 = .ok (.iconst 1, 1) := by decide +kernel
theorem dX6_spread_25 : decode cX6_spread 25 = .ok (.if_icmp .ne 33, 3) := by decide +kernel
theorem dX6_spread_28 : decode cX6_spread 28 = .ok (.aload_n 0, 1) := by decide +kernel
theorem dX6_spread_29 : decode cX6_spread 29 = .ok (.getfield 7, 3) := by decide +kernel
theorem dX6_spread_32 : decode cX6_spread 32 = .ok (.bipush 18, 2) := by decide +kernel
theorem dX6_spread_34 : decode cX6_spread 34 = .ok (.iload_n 3, 1) := by decide +kernel
theorem dX6_spread_35 : decode cX6_spread 35 = .ok (.iadd, 1) := by decide +kernel
theorem dX6_spread_36 : decode cX6_spread 36 = .ok (.iaload, 1) := by decide +kernel
theorem dX6_spread_37 : decode cX6_spread 37 = .ok (.ifCond .le 21, 3) := by decide +kernel
theorem dX6_spread_40 : decode cX6_spread 40 = .ok (.iconst 1, 1) := by decide +kernel
theorem dX6_spread_41 : decode cX6_spread 41 = .ok (.aload_n 0, 1) := by decide +kernel
theorem dX6_spread_42 : decode cX6_spread 42 = .ok (.getfield 7, 3) := by decide +kernel
theorem dX6_spread_45 : decode cX6_spread 45 = .ok (.bipush 18, 2) := by decide +kernel
theorem dX6_spread_47 : decode cX6_spread 47 = .ok (.iload_n 3, 1) := by decide +kernel
theorem dX6_spread_48 : decode cX6_spread 48 = .ok (.iadd, 1) := by decide +kernel
theorem dX6_spread_49 : decode cX6_spread 49 = .ok (.iaload, 1) := by decide +kernel
theorem dX6_spread_50 : decode cX6_spread 50 = .ok (.iconst 1, 1) := by decide +kernel
theorem dX6_spread_51 : decode cX6_spread 51 = .ok (.isub, 1) := by decide +kernel
theorem dX6_spread_52 : decode cX6_spread 52 = .ok (.iconst 4, 1) := by decide +kernel
theorem dX6_spread_53 : decode cX6_spread 53 = .ok (.idiv, 1) := by decide +kernel
theorem dX6_spread_54 : decode cX6_spread 54 = .ok (.ishl, 1) := by decide +kernel
theorem dX6_spread_55 : decode cX6_spread 55 = .ok (.goto 4, 3) := by decide +kernel
theorem dX6_spread_58 : decode cX6_spread 58 = .ok (.iconst 0, 1) := by decide +kernel
theorem dX6_spread_59 : decode cX6_spread 59 = .ok (.ior, 1) := by decide +kernel
theorem dX6_spread_60 : decode cX6_spread 60 = .ok (.istore_n 2, 1) := by decide +kernel
theorem dX6_spread_61 : decode cX6_spread 61 = .ok (.iinc 3 1, 3) := by decide +kernel
theorem dX6_spread_64 : decode cX6_spread 64 = .ok (.goto (-60), 3) := by decide +kernel
theorem dX6_spread_67 : decode cX6_spread 67 = .ok (.iload_n 2, 1) := by decide +kernel
theorem dX6_spread_68 : decode cX6_spread 68 = .ok (.ireturn, 1) := by decide +kernel
theorem dX6_parts_0 : decode cX6_parts 0 = .ok (.iconst 0, 1) := by decide +kernel
theorem dX6_parts_1 : decode cX6_parts 1 = .ok (.istore_n 1, 1) := by decide +kernel
theorem dX6_parts_2 : decode cX6_parts 2 = .ok (.iconst 0, 1) := by decide +kernel
theorem dX6_parts_3 : decode cX6_parts 3 = .ok (.istore_n 2, 1) := by decide +kernel
theorem dX6_parts_4 : decode cX6_parts 4 = .ok (.iconst 0, 1) := by decide +kernel
theorem dX6_parts_5 : decode cX6_parts 5 = .ok (.istore_n 3, 1) := by decide +kernel
theorem dX6_parts_6 : decode cX6_parts 6 = .ok (.iload_n 3, 1) := by decide +kernel
theorem dX6_parts_7 : decode cX6_parts 7 = .ok (.aload_n 0, 1) := by decide +kernel
theorem dX6_parts_8 : decode cX6_parts 8 = .ok (.getfield 7, 3) := by decide +kernel
theorem dX6_parts_11 : decode cX6_parts 11 = .ok (.iconst 0, 1) := by decide +kernel
theorem dX6_parts_12 : decode cX6_parts 12 = .ok (.iaload, 1) := by decide +kernel
theorem dX6_parts_13 : decode cX6_parts 13 = .ok (.if_icmp .ge 54, 3) := by decide +kernel
theorem dX6_parts_16 : decode cX6_parts 16 = .ok (.iload_n 2, 1) := by decide +kernel
theorem dX6_parts_17 : decode cX6_parts 17 = .ok (.iload_n 3, 1) := by decide +kernel
theorem dX6_parts_18 : decode cX6_parts 18 = .ok (.ishr, 1) := by decide +kernel
theorem dX6_parts_19 : decode cX6_parts 19 = .ok (.iconst 1, 1) := by decide +kernel
theorem dX6_parts_20 : decode cX6_parts 20 = .ok (.iand, 1) := by decide +kernel
theorem dX6_parts_21 : decode cX6_parts 21 = .ok (.ifCond .ne 40, 3) := by decide +kernel
theorem dX6_parts_24 : decode cX6_parts 24 = .ok (.iinc 1 1, 3) := by decide +kernel
theorem dX6_parts_27 : decode cX6_parts 27 = .ok (.iconst 1, 1) := by decide +kernel
theorem dX6_parts_28 : decode cX6_parts 28 = .ok (.iload_n 3, 1) := by decide +kernel
theorem dX6_parts_29 : decode cX6_parts 29 = .ok (.ishl, 1) := by decide +kernel
theorem dX6_parts_30 : decode cX6_parts 30 = .ok (.istore 4, 2) := by decide +kernel
theorem dX6_parts_32 : decode cX6_parts 32 = .ok (.iconst 0, 1) := by decide +kernel
theorem dX6_parts_33 : decode cX6_parts 33 = .ok (.istore 5, 2) := by decide +kernel
theorem dX6_parts_35 : decode cX6_parts 35 = .ok (.iload 5, 2) := by decide +kernel
theorem dX6_parts_37 : decode cX6_parts 37 = .ok (.bipush 16, 2) := by decide +kernel
theorem dX6_parts_39 : decode cX6_parts 39 = .ok (.if_icmp .ge 17, 3) := by decide +kernel
theorem dX6_parts_42 : decode cX6_parts 42 = .ok (.aload_n 0, 1) := by decide +kernel
theorem dX6_parts_43 : decode cX6_parts 43 = .ok (.iload 4, 2) := by decide +kernel
theorem dX6_parts_45 : decode cX6_parts 45 = .ok (.invokevirtual 170, 3) := by decide +kernel
theorem dX6_parts_48 : decode cX6_parts 48 = .ok (.istore 4, 2) := by decide +kernel
theorem dX6_parts_50 : decode cX6_parts 50 = .ok (.iinc 5 1, 3) := by decide +kernel
theorem dX6_parts_53 : decode cX6_parts 53 = .ok (.goto (-18), 3) := by decide +kernel
theorem dX6_parts_56 : decode cX6_parts 56 = .ok (.iload_n 2, 1) := by decide +kernel
theorem dX6_parts_57 : decode cX6_parts 57 = .ok (.iload 4, 2) := by decide +kernel
theorem dX6_parts_59 : decode cX6_parts 59 = .ok (.ior, 1) := by decide +kernel
theorem dX6_parts_60 : decode cX6_parts 60 = .ok (.istore_n 2, 1) := by decide +kernel
theorem dX6_parts_61 : decode cX6_parts 61 = .ok (.iinc 3 1, 3) := by decide +kernel
theorem dX6_parts_64 : decode cX6_parts 64 = .ok (.goto (-58), 3) := by decide +kernel
theorem dX6_parts_67 : decode cX6_parts 67 = .ok (.iload_n 1, 1) := by decide +kernel
theorem dX6_parts_68 : decode cX6_parts 68 = .ok (.ireturn, 1) := by decide +kernel
theorem dX6_farOf_0 : decode cX6_farOf 0 = .ok (.iconst 1, 1) := by decide +kernel
theorem dX6_farOf_1 : decode cX6_farOf 1 = .ok (.iload_n 1, 1) := by decide +kernel
theorem dX6_farOf_2 : decode cX6_farOf 2 = .ok (.ishl, 1) := by decide +kernel
theorem dX6_farOf_3 : decode cX6_farOf 3 = .ok (.istore_n 3, 1) := by decide +kernel
theorem dX6_farOf_4 : decode cX6_farOf 4 = .ok (.iconst 0, 1) := by decide +kernel
theorem dX6_farOf_5 : decode cX6_farOf 5 = .ok (.istore 4, 2) := by decide +kernel
theorem dX6_farOf_7 : decode cX6_farOf 7 = .ok (.iload 4, 2) := by decide +kernel
theorem dX6_farOf_9 : decode cX6_farOf 9 = .ok (.bipush 16, 2) := by decide +kernel
theorem dX6_farOf_11 : decode cX6_farOf 11 = .ok (.if_icmp .gt 27, 3) := by decide +kernel
theorem dX6_farOf_14 : decode cX6_farOf 14 = .ok (.iload_n 3, 1) := by decide +kernel
theorem dX6_farOf_15 : decode cX6_farOf 15 = .ok (.iload_n 2, 1) := by decide +kernel
theorem dX6_farOf_16 : decode cX6_farOf 16 = .ok (.ishr, 1) := by decide +kernel
theorem dX6_farOf_17 : decode cX6_farOf 17 = .ok (.iconst 1, 1) := by decide +kernel
theorem dX6_farOf_18 : decode cX6_farOf 18 = .ok (.iand, 1) := by decide +kernel
theorem dX6_farOf_19 : decode cX6_farOf 19 = .ok (.iconst 1, 1) := by decide +kernel
theorem dX6_farOf_20 : decode cX6_farOf 20 = .ok (.if_icmp .ne 6, 3) := by decide +kernel
theorem dX6_farOf_23 : decode cX6_farOf 23 = .ok (.iload 4, 2) := by decide +kernel
theorem dX6_farOf_25 : decode cX6_farOf 25 = .ok (.ireturn, 1) := by decide +kernel
theorem dX6_farOf_26 : decode cX6_farOf 26 = .ok (.aload_n 0, 1) := by decide +kernel
theorem dX6_farOf_27 : decode cX6_farOf 27 = .ok (.iload_n 3, 1) := by decide +kernel
theorem dX6_farOf_28 : decode cX6_farOf 28 = .ok (.invokevirtual 170, 3) := by decide +kernel
theorem dX6_farOf_31 : decode cX6_farOf 31 = .ok (.istore_n 3, 1) := by decide +kernel
theorem dX6_farOf_32 : decode cX6_farOf 32 = .ok (.iinc 4 1, 3) := by decide +kernel
theorem dX6_farOf_35 : decode cX6_farOf 35 = .ok (.goto (-28), 3) := by decide +kernel
theorem dX6_farOf_38 : decode cX6_farOf 38 = .ok (.ldc 173, 2) := by decide +kernel
theorem dX6_farOf_40 : decode cX6_farOf 40 = .ok (.ireturn, 1) := by decide +kernel
theorem dX6_far_0 : decode cX6_far 0 = .ok (.aload_n 0, 1) := by decide +kernel
theorem dX6_far_1 : decode cX6_far 1 = .ok (.iload_n 1, 1) := by decide +kernel
theorem dX6_far_2 : decode cX6_far 2 = .ok (.invokevirtual 53, 3) := by decide +kernel
theorem dX6_far_5 : decode cX6_far 5 = .ok (.ifCond .eq 26, 3) := by decide +kernel
theorem dX6_far_8 : decode cX6_far 8 = .ok (.aload_n 0, 1) := by decide +kernel
theorem dX6_far_9 : decode cX6_far 9 = .ok (.iload_n 2, 1) := by decide +kernel
theorem dX6_far_10 : decode cX6_far 10 = .ok (.invokevirtual 53, 3) := by decide +kernel
theorem dX6_far_13 : decode cX6_far 13 = .ok (.ifCond .eq 18, 3) := by decide +kernel
theorem dX6_far_16 : decode cX6_far 16 = .ok (.aload_n 0, 1) := by decide +kernel
theorem dX6_far_17 : decode cX6_far 17 = .ok (.aload_n 0, 1) := by decide +kernel
theorem dX6_far_18 : decode cX6_far 18 = .ok (.iload_n 1, 1) := by decide +kernel
theorem dX6_far_19 : decode cX6_far 19 = .ok (.iload_n 2, 1) := by decide +kernel
theorem dX6_far_20 : decode cX6_far 20 = .ok (.invokevirtual 174, 3) := by decide +kernel
theorem dX6_far_23 : decode cX6_far 23 = .ok (.ldc 177, 2) := by decide +kernel
theorem dX6_far_25 : decode cX6_far 25 = .ok (.invokevirtual 152, 3) := by decide +kernel
theorem dX6_far_28 : decode cX6_far 28 = .ok (.goto 9, 3) := by decide +kernel
theorem dX6_far_31 : decode cX6_far 31 = .ok (.aload_n 0, 1) := by decide +kernel
theorem dX6_far_32 : decode cX6_far 32 = .ok (.ldc 44, 2) := by decide +kernel
theorem dX6_far_34 : decode cX6_far 34 = .ok (.invokevirtual 69, 3) := by decide +kernel
theorem dX6_far_37 : decode cX6_far 37 = .ok (.ireturn, 1) := by decide +kernel
theorem dX6_smooth_0 : decode cX6_smooth 0 = .ok (.aload_n 0, 1) := by decide +kernel
theorem dX6_smooth_1 : decode cX6_smooth 1 = .ok (.iload_n 1, 1) := by decide +kernel
theorem dX6_smooth_2 : decode cX6_smooth 2 = .ok (.invokevirtual 53, 3) := by decide +kernel
theorem dX6_smooth_5 : decode cX6_smooth 5 = .ok (.ifCond .eq 11, 3) := by decide +kernel
theorem dX6_smooth_8 : decode cX6_smooth 8 = .ok (.aload_n 0, 1) := by decide +kernel
theorem dX6_smooth_9 : decode cX6_smooth 9 = .ok (.iload_n 2, 1) := by decide +kernel
theorem dX6_smooth_10 : decode cX6_smooth 10 = .ok (.invokevirtual 53, 3) := by decide +kernel
theorem dX6_smooth_13 : decode cX6_smooth 13 = .ok (.ifCond .ne 10, 3) := by decide +kernel
theorem dX6_smooth_16 : decode cX6_smooth 16 = .ok (.aload_n 0, 1) := by decide +kernel
theorem dX6_smooth_17 : decode cX6_smooth 17 = .ok (.ldc 44, 2) := by decide +kernel
theorem dX6_smooth_19 : decode cX6_smooth 19 = .ok (.invokevirtual 69, 3) := by decide +kernel
theorem dX6_smooth_22 : decode cX6_smooth 22 = .ok (.ireturn, 1) := by decide +kernel
theorem dX6_smooth_23 : decode cX6_smooth 23 = .ok (.iconst 0, 1) := by decide +kernel
theorem dX6_smooth_24 : decode cX6_smooth 24 = .ok (.istore_n 3, 1) := by decide +kernel
theorem dX6_smooth_25 : decode cX6_smooth 25 = .ok (.iload_n 3, 1) := by decide +kernel
theorem dX6_smooth_26 : decode cX6_smooth 26 = .ok (.aload_n 0, 1) := by decide +kernel
theorem dX6_smooth_27 : decode cX6_smooth 27 = .ok (.getfield 7, 3) := by decide +kernel
theorem dX6_smooth_30 : decode cX6_smooth 30 = .ok (.iconst 0, 1) := by decide +kernel
theorem dX6_smooth_31 : decode cX6_smooth 31 = .ok (.iaload, 1) := by decide +kernel
theorem dX6_smooth_32 : decode cX6_smooth 32 = .ok (.if_icmp .ge 26, 3) := by decide +kernel
theorem dX6_smooth_35 : decode cX6_smooth 35 = .ok (.aload_n 0, 1) := by decide +kernel
theorem dX6_smooth_36 : decode cX6_smooth 36 = .ok (.getfield 25, 3) := by decide +kernel
theorem dX6_smooth_39 : decode cX6_smooth 39 = .ok (.iload_n 3, 1) := by decide +kernel
theorem dX6_smooth_40 : decode cX6_smooth 40 = .ok (.iload_n 3, 1) := by decide +kernel
theorem dX6_smooth_41 : decode cX6_smooth 41 = .ok (.iload_n 1, 1) := by decide +kernel
theorem dX6_smooth_42 : decode cX6_smooth 42 = .ok (.if_icmp .ne 7, 3) := by decide +kernel
theorem dX6_smooth_45 : decode cX6_smooth 45 = .ok (.iconst 0, 1) := by decide +kernel
theorem dX6_smooth_46 : decode cX6_smooth 46 = .ok (.goto 5, 3) := by decide +kernel
theorem dX6_smooth_49 : decode cX6_smooth 49 = .ok (.ldc 173, 2) := by decide +kernel
theorem dX6_smooth_51 : decode cX6_smooth 51 = .ok (.iastore, 1) := by decide +kernel
theorem dX6_smooth_52 : decode cX6_smooth 52 = .ok (.iinc 3 1, 3) := by decide +kernel
theorem dX6_smooth_55 : decode cX6_smooth 55 = .ok (.goto (-30), 3) := by decide +kernel
theorem dX6_smooth_58 : decode cX6_smooth 58 = .ok (.iconst 0, 1) := by decide +kernel
theorem dX6_smooth_59 : decode cX6_smooth 59 = .ok (.istore_n 3, 1) := by decide +kernel
theorem dX6_smooth_60 : decode cX6_smooth 60 = .ok (.iload_n 3, 1) := by decide +kernel
theorem dX6_smooth_61 : decode cX6_smooth 61 = .ok (.bipush 16, 2) := by decide +kernel
theorem dX6_smooth_63 : decode cX6_smooth 63 = .ok (.if_icmp .ge 132, 3) := by decide +kernel
theorem dX6_smooth_66 : decode cX6_smooth 66 = .ok (.iconst 0, 1) := by decide +kernel
theorem dX6_smooth_67 : decode cX6_smooth 67 = .ok (.istore 4, 2) := by decide +kernel
theorem dX6_smooth_69 : decode cX6_smooth 69 = .ok (.iload 4, 2) := by decide +kernel
theorem dX6_smooth_71 : decode cX6_smooth 71 = .ok (.iconst 4, 1) := by decide +kernel
theorem dX6_smooth_72 : decode cX6_smooth 72 = .ok (.aload_n 0, 1) := by decide +kernel
theorem dX6_smooth_73 : decode cX6_smooth 73 = .ok (.getfield 7, 3) := by decide +kernel
theorem dX6_smooth_76 : decode cX6_smooth 76 = .ok (.iconst 0, 1) := by decide +kernel
theorem dX6_smooth_77 : decode cX6_smooth 77 = .ok (.iaload, 1) := by decide +kernel
theorem dX6_smooth_78 : decode cX6_smooth 78 = .ok (.imul, 1) := by decide +kernel
theorem dX6_smooth_79 : decode cX6_smooth 79 = .ok (.if_icmp .ge 110, 3) := by decide +kernel
theorem dX6_smooth_82 : decode cX6_smooth 82 = .ok (.aload_n 0, 1) := by decide +kernel
theorem dX6_smooth_83 : decode cX6_smooth 83 = .ok (.getfield 7, 3) := by decide +kernel
theorem dX6_smooth_86 : decode cX6_smooth 86 = .ok (.bipush 18, 2) := by decide +kernel
theorem dX6_smooth_88 : decode cX6_smooth 88 = .ok (.iload 4, 2) := by decide +kernel
theorem dX6_smooth_90 : decode cX6_smooth 90 = .ok (.iadd, 1) := by decide +kernel
theorem dX6_smooth_91 : decode cX6_smooth 91 = .ok (.iaload, 1) := by decide +kernel
theorem dX6_smooth_92 : decode cX6_smooth 92 = .ok (.ifCond .ne 10, 3) := by decide +kernel
theorem dX6_smooth_95 : decode cX6_smooth 95 = .ok (.iload 4, 2) := by decide +kernel
theorem dX6_smooth_97 : decode cX6_smooth 97 = .ok (.iconst 4, 1) := by decide +kernel
theorem dX6_smooth_98 : decode cX6_smooth 98 = .ok (.idiv, 1) := by decide +kernel
theorem dX6_smooth_99 : decode cX6_smooth 99 = .ok (.goto 17, 3) := by decide +kernel
theorem dX6_smooth_102 : decode cX6_smooth 102 = .ok (.aload_n 0, 1) := by decide +kernel
theorem dX6_smooth_103 : decode cX6_smooth 103 = .ok (.getfield 7, 3) := by decide +kernel
theorem dX6_smooth_106 : decode cX6_smooth 106 = .ok (.bipush 18, 2) := by decide +kernel
theorem dX6_smooth_108 : decode cX6_smooth 108 = .ok (.iload 4, 2) := by decide +kernel
theorem dX6_smooth_110 : decode cX6_smooth 110 = .ok (.iadd, 1) := by decide +kernel
theorem dX6_smooth_111 : decode cX6_smooth 111 = .ok (.iaload, 1) := by decide +kernel
theorem dX6_smooth_112 : decode cX6_smooth 112 = .ok (.iconst 1, 1) := by decide +kernel
theorem dX6_smooth_113 : decode cX6_smooth 113 = .ok (.isub, 1) := by decide +kernel
theorem dX6_smooth_114 : decode cX6_smooth 114 = .ok (.iconst 4, 1) := by decide +kernel
theorem dX6_smooth_115 : decode cX6_smooth 115 = .ok (.idiv, 1) := by decide +kernel
theorem dX6_smooth_116 : decode cX6_smooth 116 = .ok (.istore 5, 2) := by decide +kernel
theorem dX6_smooth_118 : decode cX6_smooth 118 = .ok (.aload_n 0, 1) := by decide +kernel
theorem dX6_smooth_119 : decode cX6_smooth 119 = .ok (.getfield 25, 3) := by decide +kernel
theorem dX6_smooth_122 : decode cX6_smooth 122 = .ok (.iload 4, 2) := by decide +kernel
theorem dX6_smooth_124 : decode cX6_smooth 124 = .ok (.iconst 4, 1) := by decide +kernel
theorem dX6_smooth_125 : decode cX6_smooth 125 = .ok (.idiv, 1) := by decide +kernel
theorem dX6_smooth_126 : decode cX6_smooth 126 = .ok (.iaload, 1) := by decide +kernel
theorem dX6_smooth_127 : decode cX6_smooth 127 = .ok (.aload_n 0, 1) := by decide +kernel
theorem dX6_smooth_128 : decode cX6_smooth 128 = .ok (.getfield 7, 3) := by decide +kernel
theorem dX6_smooth_131 : decode cX6_smooth 131 = .ok (.iconst 2, 1) := by decide +kernel
theorem dX6_smooth_132 : decode cX6_smooth 132 = .ok (.iload 5, 2) := by decide +kernel
theorem dX6_smooth_134 : decode cX6_smooth 134 = .ok (.iadd, 1) := by decide +kernel
theorem dX6_smooth_135 : decode cX6_smooth 135 = .ok (.iaload, 1) := by decide +kernel
theorem dX6_smooth_136 : decode cX6_smooth 136 = .ok (.iadd, 1) := by decide +kernel
theorem dX6_smooth_137 : decode cX6_smooth 137 = .ok (.istore 6, 2) := by decide +kernel
theorem dX6_smooth_139 : decode cX6_smooth 139 = .ok (.aload_n 0, 1) := by decide +kernel
theorem dX6_smooth_140 : decode cX6_smooth 140 = .ok (.getfield 25, 3) := by decide +kernel
theorem dX6_smooth_143 : decode cX6_smooth 143 = .ok (.iload 5, 2) := by decide +kernel
theorem dX6_smooth_145 : decode cX6_smooth 145 = .ok (.aload_n 0, 1) := by decide +kernel
theorem dX6_smooth_146 : decode cX6_smooth 146 = .ok (.getfield 7, 3) := by decide +kernel
theorem dX6_smooth_149 : decode cX6_smooth 149 = .ok (.bipush 18, 2) := by decide +kernel
theorem dX6_smooth_151 : decode cX6_smooth 151 = .ok (.iload 4, 2) := by decide +kernel
theorem dX6_smooth_153 : decode cX6_smooth 153 = .ok (.iadd, 1) := by decide +kernel
theorem dX6_smooth_154 : decode cX6_smooth 154 = .ok (.iaload, 1) := by decide +kernel
theorem dX6_smooth_155 : decode cX6_smooth 155 = .ok (.ifCond .le 20, 3) := by decide +kernel
theorem dX6_smooth_158 : decode cX6_smooth 158 = .ok (.iload 6, 2) := by decide +kernel
theorem dX6_smooth_160 : decode cX6_smooth 160 = .ok (.aload_n 0, 1) := by decide +kernel
theorem dX6_smooth_161 : decode cX6_smooth 161 = .ok (.getfield 25, 3) := by decide +kernel
theorem dX6_smooth_164 : decode cX6_smooth 164 = .ok (.iload 5, 2) := by decide +kernel
theorem dX6_smooth_166 : decode cX6_smooth 166 = .ok (.iaload, 1) := by decide +kernel
theorem dX6_smooth_167 : decode cX6_smooth 167 = .ok (.if_icmp .ge 8, 3) := by decide +kernel
theorem dX6_smooth_170 : decode cX6_smooth 170 = .ok (.iload 6, 2) := by decide +kernel
theorem dX6_smooth_172 : decode cX6_smooth 172 = .ok (.goto 10, 3) := by decide +kernel
theorem dX6_smooth_175 : decode cX6_smooth 175 = .ok (.aload_n 0, 1) := by decide +kernel
theorem dX6_smooth_176 : decode cX6_smooth 176 = .ok (.getfield 25, 3) := by decide +kernel
theorem dX6_smooth_179 : decode cX6_smooth 179 = .ok (.iload 5, 2) := by decide +kernel
theorem dX6_smooth_181 : decode cX6_smooth 181 = .ok (.iaload, 1) := by decide +kernel
theorem dX6_smooth_182 : decode cX6_smooth 182 = .ok (.iastore, 1) := by decide +kernel
theorem dX6_smooth_183 : decode cX6_smooth 183 = .ok (.iinc 4 1, 3) := by decide +kernel
theorem dX6_smooth_186 : decode cX6_smooth 186 = .ok (.goto (-117), 3) := by decide +kernel
theorem dX6_smooth_189 : decode cX6_smooth 189 = .ok (.iinc 3 1, 3) := by decide +kernel
theorem dX6_smooth_192 : decode cX6_smooth 192 = .ok (.goto (-132), 3) := by decide +kernel
theorem dX6_smooth_195 : decode cX6_smooth 195 = .ok (.aload_n 0, 1) := by decide +kernel
theorem dX6_smooth_196 : decode cX6_smooth 196 = .ok (.aload_n 0, 1) := by decide +kernel
theorem dX6_smooth_197 : decode cX6_smooth 197 = .ok (.getfield 25, 3) := by decide +kernel
theorem dX6_smooth_200 : decode cX6_smooth 200 = .ok (.iload_n 2, 1) := by decide +kernel
theorem dX6_smooth_201 : decode cX6_smooth 201 = .ok (.iaload, 1) := by decide +kernel
theorem dX6_smooth_202 : decode cX6_smooth 202 = .ok (.ldc 177, 2) := by decide +kernel
theorem dX6_smooth_204 : decode cX6_smooth 204 = .ok (.invokevirtual 152, 3) := by decide +kernel
theorem dX6_smooth_207 : decode cX6_smooth 207 = .ok (.ireturn, 1) := by decide +kernel
theorem dX6_turns_0 : decode cX6_turns 0 = .ok (.aload_n 0, 1) := by decide +kernel
theorem dX6_turns_1 : decode cX6_turns 1 = .ok (.iload_n 1, 1) := by decide +kernel
theorem dX6_turns_2 : decode cX6_turns 2 = .ok (.iload_n 2, 1) := by decide +kernel
theorem dX6_turns_3 : decode cX6_turns 3 = .ok (.invokevirtual 88, 3) := by decide +kernel
theorem dX6_turns_6 : decode cX6_turns 6 = .ok (.ifCond .eq 11, 3) := by decide +kernel
theorem dX6_turns_9 : decode cX6_turns 9 = .ok (.aload_n 0, 1) := by decide +kernel
theorem dX6_turns_10 : decode cX6_turns 10 = .ok (.iload_n 3, 1) := by decide +kernel
theorem dX6_turns_11 : decode cX6_turns 11 = .ok (.invokevirtual 53, 3) := by decide +kernel
theorem dX6_turns_14 : decode cX6_turns 14 = .ok (.ifCond .ne 10, 3) := by decide +kernel
theorem dX6_turns_17 : decode cX6_turns 17 = .ok (.aload_n 0, 1) := by decide +kernel
theorem dX6_turns_18 : decode cX6_turns 18 = .ok (.ldc 44, 2) := by decide +kernel
theorem dX6_turns_20 : decode cX6_turns 20 = .ok (.invokevirtual 69, 3) := by decide +kernel
theorem dX6_turns_23 : decode cX6_turns 23 = .ok (.ireturn, 1) := by decide +kernel
theorem dX6_turns_24 : decode cX6_turns 24 = .ok (.iconst 0, 1) := by decide +kernel
theorem dX6_turns_25 : decode cX6_turns 25 = .ok (.istore 4, 2) := by decide +kernel
theorem dX6_turns_27 : decode cX6_turns 27 = .ok (.iload 4, 2) := by decide +kernel
theorem dX6_turns_29 : decode cX6_turns 29 = .ok (.iconst 4, 1) := by decide +kernel
theorem dX6_turns_30 : decode cX6_turns 30 = .ok (.aload_n 0, 1) := by decide +kernel
theorem dX6_turns_31 : decode cX6_turns 31 = .ok (.getfield 7, 3) := by decide +kernel
theorem dX6_turns_34 : decode cX6_turns 34 = .ok (.iconst 0, 1) := by decide +kernel
theorem dX6_turns_35 : decode cX6_turns 35 = .ok (.iaload, 1) := by decide +kernel
theorem dX6_turns_36 : decode cX6_turns 36 = .ok (.imul, 1) := by decide +kernel
theorem dX6_turns_37 : decode cX6_turns 37 = .ok (.if_icmp .ge 32, 3) := by decide +kernel
theorem dX6_turns_40 : decode cX6_turns 40 = .ok (.aload_n 0, 1) := by decide +kernel
theorem dX6_turns_41 : decode cX6_turns 41 = .ok (.getfield 25, 3) := by decide +kernel
theorem dX6_turns_44 : decode cX6_turns 44 = .ok (.iload 4, 2) := by decide +kernel
theorem dX6_turns_46 : decode cX6_turns 46 = .ok (.iload 4, 2) := by decide +kernel
theorem dX6_turns_48 : decode cX6_turns 48 = .ok (.iconst 4, 1) := by decide +kernel
theorem dX6_turns_49 : decode cX6_turns 49 = .ok (.iload_n 1, 1) := by decide +kernel
theorem dX6_turns_50 : decode cX6_turns 50 = .ok (.imul, 1) := by decide +kernel
theorem dX6_turns_51 : decode cX6_turns 51 = .ok (.iload_n 2, 1) := by decide +kernel
theorem dX6_turns_52 : decode cX6_turns 52 = .ok (.iadd, 1) := by decide +kernel
theorem dX6_turns_53 : decode cX6_turns 53 = .ok (.if_icmp .ne 7, 3) := by decide +kernel
theorem dX6_turns_56 : decode cX6_turns 56 = .ok (.iconst 0, 1) := by decide +kernel
theorem dX6_turns_57 : decode cX6_turns 57 = .ok (.goto 5, 3) := by decide +kernel
theorem dX6_turns_60 : decode cX6_turns 60 = .ok (.ldc 173, 2) := by decide +kernel
theorem dX6_turns_62 : decode cX6_turns 62 = .ok (.iastore, 1) := by decide +kernel
theorem dX6_turns_63 : decode cX6_turns 63 = .ok (.iinc 4 1, 3) := by decide +kernel
theorem dX6_turns_66 : decode cX6_turns 66 = .ok (.goto (-39), 3) := by decide +kernel
theorem dX6_turns_69 : decode cX6_turns 69 = .ok (.iconst 0, 1) := by decide +kernel
theorem dX6_turns_70 : decode cX6_turns 70 = .ok (.istore 4, 2) := by decide +kernel
theorem dX6_turns_72 : decode cX6_turns 72 = .ok (.iload 4, 2) := by decide +kernel
theorem dX6_turns_74 : decode cX6_turns 74 = .ok (.sipush 128, 3) := by decide +kernel
theorem dX6_turns_77 : decode cX6_turns 77 = .ok (.if_icmp .ge 184, 3) := by decide +kernel
theorem dX6_turns_80 : decode cX6_turns 80 = .ok (.iconst 0, 1) := by decide +kernel
theorem dX6_turns_81 : decode cX6_turns 81 = .ok (.istore 5, 2) := by decide +kernel
theorem dX6_turns_83 : decode cX6_turns 83 = .ok (.iload 5, 2) := by decide +kernel
theorem dX6_turns_85 : decode cX6_turns 85 = .ok (.iconst 4, 1) := by decide +kernel
theorem dX6_turns_86 : decode cX6_turns 86 = .ok (.aload_n 0, 1) := by decide +kernel
theorem dX6_turns_87 : decode cX6_turns 87 = .ok (.getfield 7, 3) := by decide +kernel
theorem dX6_turns_90 : decode cX6_turns 90 = .ok (.iconst 0, 1) := by decide +kernel
theorem dX6_turns_91 : decode cX6_turns 91 = .ok (.iaload, 1) := by decide +kernel
theorem dX6_turns_92 : decode cX6_turns 92 = .ok (.imul, 1) := by decide +kernel
theorem dX6_turns_93 : decode cX6_turns 93 = .ok (.if_icmp .ge 162, 3) := by decide +kernel
theorem dX6_turns_96 : decode cX6_turns 96 = .ok (.aload_n 0, 1) := by decide +kernel
theorem dX6_turns_97 : decode cX6_turns 97 = .ok (.iload 5, 2) := by decide +kernel
theorem dX6_turns_99 : decode cX6_turns 99 = .ok (.invokevirtual 112, 3) := by decide +kernel
theorem dX6_turns_102 : decode cX6_turns 102 = .ok (.istore 6, 2) := by decide +kernel
theorem dX6_turns_104 : decode cX6_turns 104 = .ok (.iload 5, 2) := by decide +kernel
theorem dX6_turns_106 : decode cX6_turns 106 = .ok (.iconst 4, 1) := by decide +kernel
theorem dX6_turns_107 : decode cX6_turns 107 = .ok (.idiv, 1) := by decide +kernel
theorem dX6_turns_108 : decode cX6_turns 108 = .ok (.iconst 4, 1) := by decide +kernel
theorem dX6_turns_109 : decode cX6_turns 109 = .ok (.imul, 1) := by decide +kernel
theorem dX6_turns_110 : decode cX6_turns 110 = .ok (.iload 5, 2) := by decide +kernel
theorem dX6_turns_112 : decode cX6_turns 112 = .ok (.iconst 1, 1) := by decide +kernel
theorem dX6_turns_113 : decode cX6_turns 113 = .ok (.iadd, 1) := by decide +kernel
theorem dX6_turns_114 : decode cX6_turns 114 = .ok (.iconst 4, 1) := by decide +kernel
theorem dX6_turns_115 : decode cX6_turns 115 = .ok (.irem, 1) := by decide +kernel
theorem dX6_turns_116 : decode cX6_turns 116 = .ok (.iadd, 1) := by decide +kernel
theorem dX6_turns_117 : decode cX6_turns 117 = .ok (.istore 7, 2) := by decide +kernel
theorem dX6_turns_119 : decode cX6_turns 119 = .ok (.iload 5, 2) := by decide +kernel
theorem dX6_turns_121 : decode cX6_turns 121 = .ok (.iconst 4, 1) := by decide +kernel
theorem dX6_turns_122 : decode cX6_turns 122 = .ok (.idiv, 1) := by decide +kernel
theorem dX6_turns_123 : decode cX6_turns 123 = .ok (.iconst 4, 1) := by decide +kernel
theorem dX6_turns_124 : decode cX6_turns 124 = .ok (.imul, 1) := by decide +kernel
theorem dX6_turns_125 : decode cX6_turns 125 = .ok (.iload 5, 2) := by decide +kernel
theorem dX6_turns_127 : decode cX6_turns 127 = .ok (.iconst 3, 1) := by decide +kernel
theorem dX6_turns_128 : decode cX6_turns 128 = .ok (.iadd, 1) := by decide +kernel
theorem dX6_turns_129 : decode cX6_turns 129 = .ok (.iconst 4, 1) := by decide +kernel
theorem dX6_turns_130 : decode cX6_turns 130 = .ok (.irem, 1) := by decide +kernel
theorem dX6_turns_131 : decode cX6_turns 131 = .ok (.iadd, 1) := by decide +kernel
theorem dX6_turns_132 : decode cX6_turns 132 = .ok (.istore 8, 2) := by decide +kernel
theorem dX6_turns_134 : decode cX6_turns 134 = .ok (.aload_n 0, 1) := by decide +kernel
theorem dX6_turns_135 : decode cX6_turns 135 = .ok (.getfield 25, 3) := by decide +kernel
theorem dX6_turns_138 : decode cX6_turns 138 = .ok (.iload 5, 2) := by decide +kernel
theorem dX6_turns_140 : decode cX6_turns 140 = .ok (.iaload, 1) := by decide +kernel
theorem dX6_turns_141 : decode cX6_turns 141 = .ok (.istore 9, 2) := by decide +kernel
theorem dX6_turns_143 : decode cX6_turns 143 = .ok (.iload 6, 2) := by decide +kernel
theorem dX6_turns_145 : decode cX6_turns 145 = .ok (.ifCond .lt 34, 3) := by decide +kernel
theorem dX6_turns_148 : decode cX6_turns 148 = .ok (.aload_n 0, 1) := by decide +kernel
theorem dX6_turns_149 : decode cX6_turns 149 = .ok (.getfield 25, 3) := by decide +kernel
theorem dX6_turns_152 : decode cX6_turns 152 = .ok (.iload 6, 2) := by decide +kernel
theorem dX6_turns_154 : decode cX6_turns 154 = .ok (.iload 9, 2) := by decide +kernel
theorem dX6_turns_156 : decode cX6_turns 156 = .ok (.aload_n 0, 1) := by decide +kernel
theorem dX6_turns_157 : decode cX6_turns 157 = .ok (.getfield 25, 3) := by decide +kernel
theorem dX6_turns_160 : decode cX6_turns 160 = .ok (.iload 6, 2) := by decide +kernel
theorem dX6_turns_162 : decode cX6_turns 162 = .ok (.iaload, 1) := by decide +kernel
theorem dX6_turns_163 : decode cX6_turns 163 = .ok (.if_icmp .ge 8, 3) := by decide +kernel
theorem dX6_turns_166 : decode cX6_turns 166 = .ok (.iload 9, 2) := by decide +kernel
theorem dX6_turns_168 : decode cX6_turns 168 = .ok (.goto 10, 3) := by decide +kernel
theorem dX6_turns_171 : decode cX6_turns 171 = .ok (.aload_n 0, 1) := by decide +kernel
theorem dX6_turns_172 : decode cX6_turns 172 = .ok (.getfield 25, 3) := by decide +kernel
theorem dX6_turns_175 : decode cX6_turns 175 = .ok (.iload 6, 2) := by decide +kernel
theorem dX6_turns_177 : decode cX6_turns 177 = .ok (.iaload, 1) := by decide +kernel
theorem dX6_turns_178 : decode cX6_turns 178 = .ok (.iastore, 1) := by decide +kernel
theorem dX6_turns_179 : decode cX6_turns 179 = .ok (.aload_n 0, 1) := by decide +kernel
theorem dX6_turns_180 : decode cX6_turns 180 = .ok (.getfield 25, 3) := by decide +kernel
theorem dX6_turns_183 : decode cX6_turns 183 = .ok (.iload 7, 2) := by decide +kernel
theorem dX6_turns_185 : decode cX6_turns 185 = .ok (.iload 9, 2) := by decide +kernel
theorem dX6_turns_187 : decode cX6_turns 187 = .ok (.iconst 1, 1) := by decide +kernel
theorem dX6_turns_188 : decode cX6_turns 188 = .ok (.iadd, 1) := by decide +kernel
theorem dX6_turns_189 : decode cX6_turns 189 = .ok (.aload_n 0, 1) := by decide +kernel
theorem dX6_turns_190 : decode cX6_turns 190 = .ok (.getfield 25, 3) := by decide +kernel
theorem dX6_turns_193 : decode cX6_turns 193 = .ok (.iload 7, 2) := by decide +kernel
theorem dX6_turns_195 : decode cX6_turns 195 = .ok (.iaload, 1) := by decide +kernel
theorem dX6_turns_196 : decode cX6_turns 196 = .ok (.if_icmp .ge 10, 3) := by decide +kernel
theorem dX6_turns_199 : decode cX6_turns 199 = .ok (.iload 9, 2) := by decide +kernel
theorem dX6_turns_201 : decode cX6_turns 201 = .ok (.iconst 1, 1) := by decide +kernel
theorem dX6_turns_202 : decode cX6_turns 202 = .ok (.iadd, 1) := by decide +kernel
theorem dX6_turns_203 : decode cX6_turns 203 = .ok (.goto 10, 3) := by decide +kernel
theorem dX6_turns_206 : decode cX6_turns 206 = .ok (.aload_n 0, 1) := by decide +kernel
theorem dX6_turns_207 : decode cX6_turns 207 = .ok (.getfield 25, 3) := by decide +kernel
theorem dX6_turns_210 : decode cX6_turns 210 = .ok (.iload 7, 2) := by decide +kernel
theorem dX6_turns_212 : decode cX6_turns 212 = .ok (.iaload, 1) := by decide +kernel
theorem dX6_turns_213 : decode cX6_turns 213 = .ok (.iastore, 1) := by decide +kernel
theorem dX6_turns_214 : decode cX6_turns 214 = .ok (.aload_n 0, 1) := by decide +kernel
theorem dX6_turns_215 : decode cX6_turns 215 = .ok (.getfield 25, 3) := by decide +kernel
theorem dX6_turns_218 : decode cX6_turns 218 = .ok (.iload 8, 2) := by decide +kernel
theorem dX6_turns_220 : decode cX6_turns 220 = .ok (.iload 9, 2) := by decide +kernel
theorem dX6_turns_222 : decode cX6_turns 222 = .ok (.iconst 1, 1) := by decide +kernel
theorem dX6_turns_223 : decode cX6_turns 223 = .ok (.iadd, 1) := by decide +kernel
theorem dX6_turns_224 : decode cX6_turns 224 = .ok (.aload_n 0, 1) := by decide +kernel
theorem dX6_turns_225 : decode cX6_turns 225 = .ok (.getfield 25, 3) := by decide +kernel
theorem dX6_turns_228 : decode cX6_turns 228 = .ok (.iload 8, 2) := by decide +kernel
theorem dX6_turns_230 : decode cX6_turns 230 = .ok (.iaload, 1) := by decide +kernel
theorem dX6_turns_231 : decode cX6_turns 231 = .ok (.if_icmp .ge 10, 3) := by decide +kernel
theorem dX6_turns_234 : decode cX6_turns 234 = .ok (.iload 9, 2) := by decide +kernel
theorem dX6_turns_236 : decode cX6_turns 236 = .ok (.iconst 1, 1) := by decide +kernel
theorem dX6_turns_237 : decode cX6_turns 237 = .ok (.iadd, 1) := by decide +kernel
theorem dX6_turns_238 : decode cX6_turns 238 = .ok (.goto 10, 3) := by decide +kernel
theorem dX6_turns_241 : decode cX6_turns 241 = .ok (.aload_n 0, 1) := by decide +kernel
theorem dX6_turns_242 : decode cX6_turns 242 = .ok (.getfield 25, 3) := by decide +kernel
theorem dX6_turns_245 : decode cX6_turns 245 = .ok (.iload 8, 2) := by decide +kernel
theorem dX6_turns_247 : decode cX6_turns 247 = .ok (.iaload, 1) := by decide +kernel
theorem dX6_turns_248 : decode cX6_turns 248 = .ok (.iastore, 1) := by decide +kernel
theorem dX6_turns_249 : decode cX6_turns 249 = .ok (.iinc 5 1, 3) := by decide +kernel
theorem dX6_turns_252 : decode cX6_turns 252 = .ok (.goto (-169), 3) := by decide +kernel
theorem dX6_turns_255 : decode cX6_turns 255 = .ok (.iinc 4 1, 3) := by decide +kernel
theorem dX6_turns_258 : decode cX6_turns 258 = .ok (.goto (-186), 3) := by decide +kernel
theorem dX6_turns_261 : decode cX6_turns 261 = .ok (.ldc 173, 2) := by decide +kernel
theorem dX6_turns_263 : decode cX6_turns 263 = .ok (.istore 4, 2) := by decide +kernel
theorem dX6_turns_265 : decode cX6_turns 265 = .ok (.iconst 0, 1) := by decide +kernel
theorem dX6_turns_266 : decode cX6_turns 266 = .ok (.istore 5, 2) := by decide +kernel
theorem dX6_turns_268 : decode cX6_turns 268 = .ok (.iload 5, 2) := by decide +kernel
theorem dX6_turns_270 : decode cX6_turns 270 = .ok (.iconst 4, 1) := by decide +kernel
theorem dX6_turns_271 : decode cX6_turns 271 = .ok (.if_icmp .ge 43, 3) := by decide +kernel
theorem dX6_turns_274 : decode cX6_turns 274 = .ok (.aload_n 0, 1) := by decide +kernel
theorem dX6_turns_275 : decode cX6_turns 275 = .ok (.getfield 25, 3) := by decide +kernel
theorem dX6_turns_278 : decode cX6_turns 278 = .ok (.iconst 4, 1) := by decide +kernel
theorem dX6_turns_279 : decode cX6_turns 279 = .ok (.iload_n 3, 1) := by decide +kernel
theorem dX6_turns_280 : decode cX6_turns 280 = .ok (.imul, 1) := by decide +kernel
theorem dX6_turns_281 : decode cX6_turns 281 = .ok (.iload 5, 2) := by decide +kernel
theorem dX6_turns_283 : decode cX6_turns 283 = .ok (.iadd, 1) := by decide +kernel
theorem dX6_turns_284 : decode cX6_turns 284 = .ok (.iaload, 1) := by decide +kernel
theorem dX6_turns_285 : decode cX6_turns 285 = .ok (.iload 4, 2) := by decide +kernel
theorem dX6_turns_287 : decode cX6_turns 287 = .ok (.if_icmp .ge 17, 3) := by decide +kernel
theorem dX6_turns_290 : decode cX6_turns 290 = .ok (.aload_n 0, 1) := by decide +kernel
theorem dX6_turns_291 : decode cX6_turns 291 = .ok (.getfield 25, 3) := by decide +kernel
theorem dX6_turns_294 : decode cX6_turns 294 = .ok (.iconst 4, 1) := by decide +kernel
theorem dX6_turns_295 : decode cX6_turns 295 = .ok (.iload_n 3, 1) := by decide +kernel
theorem dX6_turns_296 : decode cX6_turns 296 = .ok (.imul, 1) := by decide +kernel
theorem dX6_turns_297 : decode cX6_turns 297 = .ok (.iload 5, 2) := by decide +kernel
theorem dX6_turns_299 : decode cX6_turns 299 = .ok (.iadd, 1) := by decide +kernel
theorem dX6_turns_300 : decode cX6_turns 300 = .ok (.iaload, 1) := by decide +kernel
theorem dX6_turns_301 : decode cX6_turns 301 = .ok (.goto 5, 3) := by decide +kernel
theorem dX6_turns_304 : decode cX6_turns 304 = .ok (.iload 4, 2) := by decide +kernel
theorem dX6_turns_306 : decode cX6_turns 306 = .ok (.istore 4, 2) := by decide +kernel
theorem dX6_turns_308 : decode cX6_turns 308 = .ok (.iinc 5 1, 3) := by decide +kernel
theorem dX6_turns_311 : decode cX6_turns 311 = .ok (.goto (-43), 3) := by decide +kernel
theorem dX6_turns_314 : decode cX6_turns 314 = .ok (.aload_n 0, 1) := by decide +kernel
theorem dX6_turns_315 : decode cX6_turns 315 = .ok (.iload 4, 2) := by decide +kernel
theorem dX6_turns_317 : decode cX6_turns 317 = .ok (.ldc 177, 2) := by decide +kernel
theorem dX6_turns_319 : decode cX6_turns 319 = .ok (.invokevirtual 152, 3) := by decide +kernel
theorem dX6_turns_322 : decode cX6_turns 322 = .ok (.ireturn, 1) := by decide +kernel
theorem dX6_within_0 : decode cX6_within 0 = .ok (.aload_n 0, 1) := by decide +kernel
theorem dX6_within_1 : decode cX6_within 1 = .ok (.iload_n 1, 1) := by decide +kernel
theorem dX6_within_2 : decode cX6_within 2 = .ok (.invokevirtual 53, 3) := by decide +kernel
theorem dX6_within_5 : decode cX6_within 5 = .ok (.ifCond .eq 15, 3) := by decide +kernel
theorem dX6_within_8 : decode cX6_within 8 = .ok (.iload_n 2, 1) := by decide +kernel
theorem dX6_within_9 : decode cX6_within 9 = .ok (.i2l, 1) := by decide +kernel
theorem dX6_within_10 : decode cX6_within 10 = .ok (.lconst 0, 1) := by decide +kernel
theorem dX6_within_11 : decode cX6_within 11 = .ok (.ldc2_w 178, 3) := by decide +kernel
theorem dX6_within_14 : decode cX6_within 14 = .ok (.invokestatic 45, 3) := by decide +kernel
theorem dX6_within_17 : decode cX6_within 17 = .ok (.ifCond .ne 10, 3) := by decide +kernel
theorem dX6_within_20 : decode cX6_within 20 = .ok (.aload_n 0, 1) := by decide +kernel
theorem dX6_within_21 : decode cX6_within 21 = .ok (.ldc 44, 2) := by decide +kernel
theorem dX6_within_23 : decode cX6_within 23 = .ok (.invokevirtual 69, 3) := by decide +kernel
theorem dX6_within_26 : decode cX6_within 26 = .ok (.ireturn, 1) := by decide +kernel
theorem dX6_within_27 : decode cX6_within 27 = .ok (.iconst 1, 1) := by decide +kernel
theorem dX6_within_28 : decode cX6_within 28 = .ok (.iload_n 1, 1) := by decide +kernel
theorem dX6_within_29 : decode cX6_within 29 = .ok (.ishl, 1) := by decide +kernel
theorem dX6_within_30 : decode cX6_within 30 = .ok (.istore_n 3, 1) := by decide +kernel
theorem dX6_within_31 : decode cX6_within 31 = .ok (.iconst 0, 1) := by decide +kernel
theorem dX6_within_32 : decode cX6_within 32 = .ok (.istore 4, 2) := by decide +kernel
theorem dX6_within_34 : decode cX6_within 34 = .ok (.iload 4, 2) := by decide +kernel
theorem dX6_within_36 : decode cX6_within 36 = .ok (.iload_n 2, 1) := by decide +kernel
theorem dX6_within_37 : decode cX6_within 37 = .ok (.if_icmp .ge 15, 3) := by decide +kernel
theorem dX6_within_40 : decode cX6_within 40 = .ok (.aload_n 0, 1) := by decide +kernel
theorem dX6_within_41 : decode cX6_within 41 = .ok (.iload_n 3, 1) := by decide +kernel
theorem dX6_within_42 : decode cX6_within 42 = .ok (.invokevirtual 170, 3) := by decide +kernel
theorem dX6_within_45 : decode cX6_within 45 = .ok (.istore_n 3, 1) := by decide +kernel
theorem dX6_within_46 : decode cX6_within 46 = .ok (.iinc 4 1, 3) := by decide +kernel
theorem dX6_within_49 : decode cX6_within 49 = .ok (.goto (-15), 3) := by decide +kernel
theorem dX6_within_52 : decode cX6_within 52 = .ok (.iload_n 3, 1) := by decide +kernel
theorem dX6_within_53 : decode cX6_within 53 = .ok (.invokestatic 158, 3) := by decide +kernel
theorem dX6_within_56 : decode cX6_within 56 = .ok (.ireturn, 1) := by decide +kernel
theorem dX6_mends_0 : decode cX6_mends 0 = .ok (.aload_n 0, 1) := by decide +kernel
theorem dX6_mends_1 : decode cX6_mends 1 = .ok (.iload_n 1, 1) := by decide +kernel
theorem dX6_mends_2 : decode cX6_mends 2 = .ok (.invokevirtual 53, 3) := by decide +kernel
theorem dX6_mends_5 : decode cX6_mends 5 = .ok (.ifCond .eq 11, 3) := by decide +kernel
theorem dX6_mends_8 : decode cX6_mends 8 = .ok (.aload_n 0, 1) := by decide +kernel
theorem dX6_mends_9 : decode cX6_mends 9 = .ok (.iload_n 2, 1) := by decide +kernel
theorem dX6_mends_10 : decode cX6_mends 10 = .ok (.invokevirtual 53, 3) := by decide +kernel
theorem dX6_mends_13 : decode cX6_mends 13 = .ok (.ifCond .ne 10, 3) := by decide +kernel
theorem dX6_mends_16 : decode cX6_mends 16 = .ok (.aload_n 0, 1) := by decide +kernel
theorem dX6_mends_17 : decode cX6_mends 17 = .ok (.ldc 44, 2) := by decide +kernel
theorem dX6_mends_19 : decode cX6_mends 19 = .ok (.invokevirtual 69, 3) := by decide +kernel
theorem dX6_mends_22 : decode cX6_mends 22 = .ok (.ireturn, 1) := by decide +kernel
theorem dX6_mends_23 : decode cX6_mends 23 = .ok (.iconst (-1), 1) := by decide +kernel
theorem dX6_mends_24 : decode cX6_mends 24 = .ok (.istore_n 3, 1) := by decide +kernel
theorem dX6_mends_25 : decode cX6_mends 25 = .ok (.aload_n 0, 1) := by decide +kernel
theorem dX6_mends_26 : decode cX6_mends 26 = .ok (.iload_n 1, 1) := by decide +kernel
theorem dX6_mends_27 : decode cX6_mends 27 = .ok (.iload_n 2, 1) := by decide +kernel
theorem dX6_mends_28 : decode cX6_mends 28 = .ok (.invokevirtual 174, 3) := by decide +kernel
theorem dX6_mends_31 : decode cX6_mends 31 = .ok (.istore 4, 2) := by decide +kernel
theorem dX6_mends_33 : decode cX6_mends 33 = .ok (.iconst 0, 1) := by decide +kernel
theorem dX6_mends_34 : decode cX6_mends 34 = .ok (.istore 5, 2) := by decide +kernel
theorem dX6_mends_36 : decode cX6_mends 36 = .ok (.iload 5, 2) := by decide +kernel
theorem dX6_mends_38 : decode cX6_mends 38 = .ok (.iconst 4, 1) := by decide +kernel
theorem dX6_mends_39 : decode cX6_mends 39 = .ok (.aload_n 0, 1) := by decide +kernel
theorem dX6_mends_40 : decode cX6_mends 40 = .ok (.getfield 7, 3) := by decide +kernel
theorem dX6_mends_43 : decode cX6_mends 43 = .ok (.iconst 0, 1) := by decide +kernel
theorem dX6_mends_44 : decode cX6_mends 44 = .ok (.iaload, 1) := by decide +kernel
theorem dX6_mends_45 : decode cX6_mends 45 = .ok (.imul, 1) := by decide +kernel
theorem dX6_mends_46 : decode cX6_mends 46 = .ok (.if_icmp .ge 121, 3) := by decide +kernel
theorem dX6_mends_49 : decode cX6_mends 49 = .ok (.iload 5, 2) := by decide +kernel
theorem dX6_mends_51 : decode cX6_mends 51 = .ok (.iconst 1, 1) := by decide +kernel
theorem dX6_mends_52 : decode cX6_mends 52 = .ok (.iadd, 1) := by decide +kernel
theorem dX6_mends_53 : decode cX6_mends 53 = .ok (.istore 6, 2) := by decide +kernel
theorem dX6_mends_55 : decode cX6_mends 55 = .ok (.iload 6, 2) := by decide +kernel
theorem dX6_mends_57 : decode cX6_mends 57 = .ok (.iconst 4, 1) := by decide +kernel
theorem dX6_mends_58 : decode cX6_mends 58 = .ok (.aload_n 0, 1) := by decide +kernel
theorem dX6_mends_59 : decode cX6_mends 59 = .ok (.getfield 7, 3) := by decide +kernel
theorem dX6_mends_62 : decode cX6_mends 62 = .ok (.iconst 0, 1) := by decide +kernel
theorem dX6_mends_63 : decode cX6_mends 63 = .ok (.iaload, 1) := by decide +kernel
theorem dX6_mends_64 : decode cX6_mends 64 = .ok (.imul, 1) := by decide +kernel
theorem dX6_mends_65 : decode cX6_mends 65 = .ok (.if_icmp .ge 96, 3) := by decide +kernel
theorem dX6_mends_68 : decode cX6_mends 68 = .ok (.aload_n 0, 1) := by decide +kernel
theorem dX6_mends_69 : decode cX6_mends 69 = .ok (.getfield 7, 3) := by decide +kernel
theorem dX6_mends_72 : decode cX6_mends 72 = .ok (.bipush 18, 2) := by decide +kernel
theorem dX6_mends_74 : decode cX6_mends 74 = .ok (.iload 5, 2) := by decide +kernel
theorem dX6_mends_76 : decode cX6_mends 76 = .ok (.iadd, 1) := by decide +kernel
theorem dX6_mends_77 : decode cX6_mends 77 = .ok (.iaload, 1) := by decide +kernel
theorem dX6_mends_78 : decode cX6_mends 78 = .ok (.ifCond .gt 77, 3) := by decide +kernel
theorem dX6_mends_81 : decode cX6_mends 81 = .ok (.aload_n 0, 1) := by decide +kernel
theorem dX6_mends_82 : decode cX6_mends 82 = .ok (.getfield 7, 3) := by decide +kernel
theorem dX6_mends_85 : decode cX6_mends 85 = .ok (.bipush 18, 2) := by decide +kernel
theorem dX6_mends_87 : decode cX6_mends 87 = .ok (.iload 6, 2) := by decide +kernel
theorem dX6_mends_89 : decode cX6_mends 89 = .ok (.iadd, 1) := by decide +kernel
theorem dX6_mends_90 : decode cX6_mends 90 = .ok (.iaload, 1) := by decide +kernel
theorem dX6_mends_91 : decode cX6_mends 91 = .ok (.ifCond .le 6, 3) := by decide +kernel
theorem dX6_mends_94 : decode cX6_mends 94 = .ok (.goto 61, 3) := by decide +kernel
theorem dX6_mends_97 : decode cX6_mends 97 = .ok (.aload_n 0, 1) := by decide +kernel
theorem dX6_mends_98 : decode cX6_mends 98 = .ok (.iload 5, 2) := by decide +kernel
theorem dX6_mends_100 : decode cX6_mends 100 = .ok (.iload 6, 2) := by decide +kernel
theorem dX6_mends_102 : decode cX6_mends 102 = .ok (.invokevirtual 93, 3) := by decide +kernel
theorem dX6_mends_105 : decode cX6_mends 105 = .ok (.aload_n 0, 1) := by decide +kernel
theorem dX6_mends_106 : decode cX6_mends 106 = .ok (.iload_n 1, 1) := by decide +kernel
theorem dX6_mends_107 : decode cX6_mends 107 = .ok (.iload_n 2, 1) := by decide +kernel
theorem dX6_mends_108 : decode cX6_mends 108 = .ok (.invokevirtual 174, 3) := by decide +kernel
theorem dX6_mends_111 : decode cX6_mends 111 = .ok (.istore 7, 2) := by decide +kernel
theorem dX6_mends_113 : decode cX6_mends 113 = .ok (.aload_n 0, 1) := by decide +kernel
theorem dX6_mends_114 : decode cX6_mends 114 = .ok (.iload 5, 2) := by decide +kernel
theorem dX6_mends_116 : decode cX6_mends 116 = .ok (.invokevirtual 97, 3) := by decide +kernel
theorem dX6_mends_119 : decode cX6_mends 119 = .ok (.iload 7, 2) := by decide +kernel
theorem dX6_mends_121 : decode cX6_mends 121 = .ok (.iload 4, 2) := by decide +kernel
theorem dX6_mends_123 : decode cX6_mends 123 = .ok (.if_icmp .ge 14, 3) := by decide +kernel
theorem dX6_mends_126 : decode cX6_mends 126 = .ok (.bipush 64, 2) := by decide +kernel
theorem dX6_mends_128 : decode cX6_mends 128 = .ok (.iload 5, 2) := by decide +kernel
theorem dX6_mends_130 : decode cX6_mends 130 = .ok (.imul, 1) := by decide +kernel
theorem dX6_mends_131 : decode cX6_mends 131 = .ok (.iload 6, 2) := by decide +kernel
theorem dX6_mends_133 : decode cX6_mends 133 = .ok (.iadd, 1) := by decide +kernel
theorem dX6_mends_134 : decode cX6_mends 134 = .ok (.goto 4, 3) := by decide +kernel
theorem dX6_mends_137 : decode cX6_mends 137 = .ok (.iload_n 3, 1) := by decide +kernel
theorem dX6_mends_138 : decode cX6_mends 138 = .ok (.istore_n 3, 1) := by decide +kernel
theorem dX6_mends_139 : decode cX6_mends 139 = .ok (.iload 7, 2) := by decide +kernel
theorem dX6_mends_141 : decode cX6_mends 141 = .ok (.iload 4, 2) := by decide +kernel
theorem dX6_mends_143 : decode cX6_mends 143 = .ok (.if_icmp .ge 8, 3) := by decide +kernel
theorem dX6_mends_146 : decode cX6_mends 146 = .ok (.iload 7, 2) := by decide +kernel
theorem dX6_mends_148 : decode cX6_mends 148 = .ok (.goto 5, 3) := by decide +kernel
theorem dX6_mends_151 : decode cX6_mends 151 = .ok (.iload 4, 2) := by decide +kernel
theorem dX6_mends_153 : decode cX6_mends 153 = .ok (.istore 4, 2) := by decide +kernel
theorem dX6_mends_155 : decode cX6_mends 155 = .ok (.iinc 6 1, 3) := by decide +kernel
theorem dX6_mends_158 : decode cX6_mends 158 = .ok (.goto (-103), 3) := by decide +kernel
theorem dX6_mends_161 : decode cX6_mends 161 = .ok (.iinc 5 1, 3) := by decide +kernel
theorem dX6_mends_164 : decode cX6_mends 164 = .ok (.goto (-128), 3) := by decide +kernel
theorem dX6_mends_167 : decode cX6_mends 167 = .ok (.iload_n 3, 1) := by decide +kernel
theorem dX6_mends_168 : decode cX6_mends 168 = .ok (.ifCond .ge 12, 3) := by decide +kernel
theorem dX6_mends_171 : decode cX6_mends 171 = .ok (.aload_n 0, 1) := by decide +kernel
theorem dX6_mends_172 : decode cX6_mends 172 = .ok (.ldc 101, 2) := by decide +kernel
theorem dX6_mends_174 : decode cX6_mends 174 = .ok (.invokevirtual 69, 3) := by decide +kernel
theorem dX6_mends_177 : decode cX6_mends 177 = .ok (.goto 4, 3) := by decide +kernel
theorem dX6_mends_180 : decode cX6_mends 180 = .ok (.iload_n 3, 1) := by decide +kernel
theorem dX6_mends_181 : decode cX6_mends 181 = .ok (.ireturn, 1) := by decide +kernel
theorem dX6_feed_0 : decode cX6_feed 0 = .ok (.iload_n 2, 1) := by decide +kernel
theorem dX6_feed_1 : decode cX6_feed 1 = .ok (.i2l, 1) := by decide +kernel
theorem dX6_feed_2 : decode cX6_feed 2 = .ok (.lconst 1, 1) := by decide +kernel
theorem dX6_feed_3 : decode cX6_feed 3 = .ok (.ldc2_w 180, 3) := by decide +kernel
theorem dX6_feed_6 : decode cX6_feed 6 = .ok (.invokestatic 45, 3) := by decide +kernel
theorem dX6_feed_9 : decode cX6_feed 9 = .ok (.ifCond .ne 10, 3) := by decide +kernel
theorem dX6_feed_12 : decode cX6_feed 12 = .ok (.aload_n 0, 1) := by decide +kernel
theorem dX6_feed_13 : decode cX6_feed 13 = .ok (.ldc 44, 2) := by decide +kernel
theorem dX6_feed_15 : decode cX6_feed 15 = .ok (.invokevirtual 69, 3) := by decide +kernel
theorem dX6_feed_18 : decode cX6_feed 18 = .ok (.ireturn, 1) := by decide +kernel
theorem dX6_feed_19 : decode cX6_feed 19 = .ok (.aload_n 0, 1) := by decide +kernel
theorem dX6_feed_20 : decode cX6_feed 20 = .ok (.getfield 182, 3) := by decide +kernel
theorem dX6_feed_23 : decode cX6_feed 23 = .ok (.iload_n 2, 1) := by decide +kernel
theorem dX6_feed_24 : decode cX6_feed 24 = .ok (.iadd, 1) := by decide +kernel
theorem dX6_feed_25 : decode cX6_feed 25 = .ok (.bipush 120, 2) := by decide +kernel
theorem dX6_feed_27 : decode cX6_feed 27 = .ok (.if_icmp .le 10, 3) := by decide +kernel
theorem dX6_feed_30 : decode cX6_feed 30 = .ok (.aload_n 0, 1) := by decide +kernel
theorem dX6_feed_31 : decode cX6_feed 31 = .ok (.ldc 73, 2) := by decide +kernel
theorem dX6_feed_33 : decode cX6_feed 33 = .ok (.invokevirtual 69, 3) := by decide +kernel
theorem dX6_feed_36 : decode cX6_feed 36 = .ok (.ireturn, 1) := by decide +kernel
theorem dX6_feed_37 : decode cX6_feed 37 = .ok (.iload_n 2, 1) := by decide +kernel
theorem dX6_feed_38 : decode cX6_feed 38 = .ok (.iconst 1, 1) := by decide +kernel
theorem dX6_feed_39 : decode cX6_feed 39 = .ok (.isub, 1) := by decide +kernel
theorem dX6_feed_40 : decode cX6_feed 40 = .ok (.istore_n 3, 1) := by decide +kernel
theorem dX6_feed_41 : decode cX6_feed 41 = .ok (.iload_n 3, 1) := by decide +kernel
theorem dX6_feed_42 : decode cX6_feed 42 = .ok (.ifCond .lt 38, 3) := by decide +kernel
theorem dX6_feed_45 : decode cX6_feed 45 = .ok (.aload_n 0, 1) := by decide +kernel
theorem dX6_feed_46 : decode cX6_feed 46 = .ok (.getfield 28, 3) := by decide +kernel
theorem dX6_feed_49 : decode cX6_feed 49 = .ok (.aload_n 0, 1) := by decide +kernel
theorem dX6_feed_50 : decode cX6_feed 50 = .ok (.getfield 182, 3) := by decide +kernel
theorem dX6_feed_53 : decode cX6_feed 53 = .ok (.iload_n 1, 1) := by decide +kernel
theorem dX6_feed_54 : decode cX6_feed 54 = .ok (.bipush 8, 2) := by decide +kernel
theorem dX6_feed_56 : decode cX6_feed 56 = .ok (.iload_n 3, 1) := by decide +kernel
theorem dX6_feed_57 : decode cX6_feed 57 = .ok (.imul, 1) := by decide +kernel
theorem dX6_feed_58 : decode cX6_feed 58 = .ok (.ishr, 1) := by decide +kernel
theorem dX6_feed_59 : decode cX6_feed 59 = .ok (.sipush 255, 3) := by decide +kernel
theorem dX6_feed_62 : decode cX6_feed 62 = .ok (.iand, 1) := by decide +kernel
theorem dX6_feed_63 : decode cX6_feed 63 = .ok (.iastore, 1) := by decide +kernel
theorem dX6_feed_64 : decode cX6_feed 64 = .ok (.aload_n 0, 1) := by decide +kernel
theorem dX6_feed_65 : decode cX6_feed 65 = .ok (.dup, 1) := by decide +kernel
theorem dX6_feed_66 : decode cX6_feed 66 = .ok (.getfield 182, 3) := by decide +kernel
theorem dX6_feed_69 : decode cX6_feed 69 = .ok (.iconst 1, 1) := by decide +kernel
theorem dX6_feed_70 : decode cX6_feed 70 = .ok (.iadd, 1) := by decide +kernel
theorem dX6_feed_71 : decode cX6_feed 71 = .ok (.putfield 182, 3) := by decide +kernel
theorem dX6_feed_74 : decode cX6_feed 74 = .ok (.iinc 3 (-1), 3) := by decide +kernel
theorem dX6_feed_77 : decode cX6_feed 77 = .ok (.goto (-36), 3) := by decide +kernel
theorem dX6_feed_80 : decode cX6_feed 80 = .ok (.aload_n 0, 1) := by decide +kernel
theorem dX6_feed_81 : decode cX6_feed 81 = .ok (.getfield 182, 3) := by decide +kernel
theorem dX6_feed_84 : decode cX6_feed 84 = .ok (.ireturn, 1) := by decide +kernel
theorem dX6_wipe_0 : decode cX6_wipe 0 = .ok (.aload_n 0, 1) := by decide +kernel
theorem dX6_wipe_1 : decode cX6_wipe 1 = .ok (.getfield 182, 3) := by decide +kernel
theorem dX6_wipe_4 : decode cX6_wipe 4 = .ok (.istore_n 1, 1) := by decide +kernel
theorem dX6_wipe_5 : decode cX6_wipe 5 = .ok (.aload_n 0, 1) := by decide +kernel
theorem dX6_wipe_6 : decode cX6_wipe 6 = .ok (.iconst 0, 1) := by decide +kernel
theorem dX6_wipe_7 : decode cX6_wipe 7 = .ok (.putfield 182, 3) := by decide +kernel
theorem dX6_wipe_10 : decode cX6_wipe 10 = .ok (.iload_n 1, 1) := by decide +kernel
theorem dX6_wipe_11 : decode cX6_wipe 11 = .ok (.ireturn, 1) := by decide +kernel
theorem dX6_byteAt_0 : decode cX6_byteAt 0 = .ok (.iload_n 1, 1) := by decide +kernel
theorem dX6_byteAt_1 : decode cX6_byteAt 1 = .ok (.aload_n 0, 1) := by decide +kernel
theorem dX6_byteAt_2 : decode cX6_byteAt 2 = .ok (.getfield 182, 3) := by decide +kernel
theorem dX6_byteAt_5 : decode cX6_byteAt 5 = .ok (.if_icmp .ge 12, 3) := by decide +kernel
theorem dX6_byteAt_8 : decode cX6_byteAt 8 = .ok (.aload_n 0, 1) := by decide +kernel
theorem dX6_byteAt_9 : decode cX6_byteAt 9 = .ok (.getfield 28, 3) := by decide +kernel
theorem dX6_byteAt_12 : decode cX6_byteAt 12 = .ok (.iload_n 1, 1) := by decide +kernel
theorem dX6_byteAt_13 : decode cX6_byteAt 13 = .ok (.iaload, 1) := by decide +kernel
theorem dX6_byteAt_14 : decode cX6_byteAt 14 = .ok (.goto 4, 3) := by decide +kernel
theorem dX6_byteAt_17 : decode cX6_byteAt 17 = .ok (.iconst (-1), 1) := by decide +kernel
theorem dX6_byteAt_18 : decode cX6_byteAt 18 = .ok (.ireturn, 1) := by decide +kernel
theorem dX6_isLetter_0 : decode cX6_isLetter 0 = .ok (.iload_n 0, 1) := by decide +kernel
theorem dX6_isLetter_1 : decode cX6_isLetter 1 = .ok (.i2l, 1) := by decide +kernel
theorem dX6_isLetter_2 : decode cX6_isLetter 2 = .ok (.ldc2_w 186, 3) := by decide +kernel
theorem dX6_isLetter_5 : decode cX6_isLetter 5 = .ok (.ldc2_w 188, 3) := by decide +kernel
theorem dX6_isLetter_8 : decode cX6_isLetter 8 = .ok (.invokestatic 45, 3) := by decide +kernel
theorem dX6_isLetter_11 : decode cX6_isLetter 11 = .ok (.ireturn, 1) := by decide +kernel
theorem dX6_isDigit_0 : decode cX6_isDigit 0 = .ok (.iload_n 0, 1) := by decide +kernel
theorem dX6_isDigit_1 : decode cX6_isDigit 1 = .ok (.i2l, 1) := by decide +kernel
theorem dX6_isDigit_2 : decode cX6_isDigit 2 = .ok (.ldc2_w 190, 3) := by decide +kernel
theorem dX6_isDigit_5 : decode cX6_isDigit 5 = .ok (.ldc2_w 192, 3) := by decide +kernel
theorem dX6_isDigit_8 : decode cX6_isDigit 8 = .ok (.invokestatic 45, 3) := by decide +kernel
theorem dX6_isDigit_11 : decode cX6_isDigit 11 = .ok (.ireturn, 1) := by decide +kernel
theorem dX6_token_0 : decode cX6_token 0 = .ok (.aload_n 0, 1) := by decide +kernel
theorem dX6_token_1 : decode cX6_token 1 = .ok (.aload_n 0, 1) := by decide +kernel
theorem dX6_token_2 : decode cX6_token 2 = .ok (.getfield 194, 3) := by decide +kernel
theorem dX6_token_5 : decode cX6_token 5 = .ok (.putfield 197, 3) := by decide +kernel
theorem dX6_token_8 : decode cX6_token 8 = .ok (.aload_n 0, 1) := by decide +kernel
theorem dX6_token_9 : decode cX6_token 9 = .ok (.aload_n 0, 1) := by decide +kernel
theorem dX6_token_10 : decode cX6_token 10 = .ok (.getfield 197, 3) := by decide +kernel
theorem dX6_token_13 : decode cX6_token 13 = .ok (.invokevirtual 200, 3) := by decide +kernel
theorem dX6_token_16 : decode cX6_token 16 = .ok (.bipush 32, 2) := by decide +kernel
theorem dX6_token_18 : decode cX6_token 18 = .ok (.if_icmp .ne 16, 3) := by decide +kernel
theorem dX6_token_21 : decode cX6_token 21 = .ok (.aload_n 0, 1) := by decide +kernel
theorem dX6_token_22 : decode cX6_token 22 = .ok (.dup, 1) := by decide +kernel
theorem dX6_token_23 : decode cX6_token 23 = .ok (.getfield 197, 3) := by decide +kernel
theorem dX6_token_26 : decode cX6_token 26 = .ok (.iconst 1, 1) := by decide +kernel
theorem dX6_token_27 : decode cX6_token 27 = .ok (.iadd, 1) := by decide +kernel
theorem dX6_token_28 : decode cX6_token 28 = .ok (.putfield 197, 3) := by decide +kernel
theorem dX6_token_31 : decode cX6_token 31 = .ok (.goto (-23), 3) := by decide +kernel
theorem dX6_token_34 : decode cX6_token 34 = .ok (.aload_n 0, 1) := by decide +kernel
theorem dX6_token_35 : decode cX6_token 35 = .ok (.aload_n 0, 1) := by decide +kernel
theorem dX6_token_36 : decode cX6_token 36 = .ok (.getfield 197, 3) := by decide +kernel
theorem dX6_token_39 : decode cX6_token 39 = .ok (.invokevirtual 200, 3) := by decide +kernel
theorem dX6_token_42 : decode cX6_token 42 = .ok (.invokestatic 203, 3) := by decide +kernel
theorem dX6_token_45 : decode cX6_token 45 = .ok (.istore_n 1, 1) := by decide +kernel
theorem dX6_token_46 : decode cX6_token 46 = .ok (.aload_n 0, 1) := by decide +kernel
theorem dX6_token_47 : decode cX6_token 47 = .ok (.aload_n 0, 1) := by decide +kernel
theorem dX6_token_48 : decode cX6_token 48 = .ok (.getfield 197, 3) := by decide +kernel
theorem dX6_token_51 : decode cX6_token 51 = .ok (.invokevirtual 200, 3) := by decide +kernel
theorem dX6_token_54 : decode cX6_token 54 = .ok (.invokestatic 206, 3) := by decide +kernel
theorem dX6_token_57 : decode cX6_token 57 = .ok (.istore_n 2, 1) := by decide +kernel
theorem dX6_token_58 : decode cX6_token 58 = .ok (.aload_n 0, 1) := by decide +kernel
theorem dX6_token_59 : decode cX6_token 59 = .ok (.aload_n 0, 1) := by decide +kernel
theorem dX6_token_60 : decode cX6_token 60 = .ok (.getfield 197, 3) := by decide +kernel
theorem dX6_token_63 : decode cX6_token 63 = .ok (.aload_n 0, 1) := by decide +kernel
theorem dX6_token_64 : decode cX6_token 64 = .ok (.getfield 182, 3) := by decide +kernel
theorem dX6_token_67 : decode cX6_token 67 = .ok (.if_icmp .ge 12, 3) := by decide +kernel
theorem dX6_token_70 : decode cX6_token 70 = .ok (.aload_n 0, 1) := by decide +kernel
theorem dX6_token_71 : decode cX6_token 71 = .ok (.getfield 197, 3) := by decide +kernel
theorem dX6_token_74 : decode cX6_token 74 = .ok (.iconst 1, 1) := by decide +kernel
theorem dX6_token_75 : decode cX6_token 75 = .ok (.iadd, 1) := by decide +kernel
theorem dX6_token_76 : decode cX6_token 76 = .ok (.goto 7, 3) := by decide +kernel
theorem dX6_token_79 : decode cX6_token 79 = .ok (.aload_n 0, 1) := by decide +kernel
theorem dX6_token_80 : decode cX6_token 80 = .ok (.getfield 197, 3) := by decide +kernel
theorem dX6_token_83 : decode cX6_token 83 = .ok (.putfield 194, 3) := by decide +kernel
theorem dX6_token_86 : decode cX6_token 86 = .ok (.iload_n 1, 1) := by decide +kernel
theorem dX6_token_87 : decode cX6_token 87 = .ok (.ifCond .eq 17, 3) := by decide +kernel
theorem dX6_token_90 : decode cX6_token 90 = .ok (.aload_n 0, 1) := by decide +kernel
theorem dX6_token_91 : decode cX6_token 91 = .ok (.aload_n 0, 1) := by decide +kernel
theorem dX6_token_92 : decode cX6_token 92 = .ok (.getfield 194, 3) := by decide +kernel
theorem dX6_token_95 : decode cX6_token 95 = .ok (.invokevirtual 200, 3) := by decide +kernel
theorem dX6_token_98 : decode cX6_token 98 = .ok (.invokestatic 203, 3) := by decide +kernel
theorem dX6_token_101 : decode cX6_token 101 = .ok (.ifCond .ne 21, 3) := by decide +kernel
theorem dX6_token_104 : decode cX6_token 104 = .ok (.iload_n 2, 1) := by decide +kernel
theorem dX6_token_105 : decode cX6_token 105 = .ok (.ifCond .eq 30, 3) := by decide +kernel
theorem dX6_token_108 : decode cX6_token 108 = .ok (.aload_n 0, 1) := by decide +kernel
theorem dX6_token_109 : decode cX6_token 109 = .ok (.aload_n 0, 1) := by decide +kernel
theorem dX6_token_110 : decode cX6_token 110 = .ok (.getfield 194, 3) := by decide +kernel
theorem dX6_token_113 : decode cX6_token 113 = .ok (.invokevirtual 200, 3) := by decide +kernel
theorem dX6_token_116 : decode cX6_token 116 = .ok (.invokestatic 206, 3) := by decide +kernel
theorem dX6_token_119 : decode cX6_token 119 = .ok (.ifCond .eq 16, 3) := by decide +kernel
theorem dX6_token_122 : decode cX6_token 122 = .ok (.aload_n 0, 1) := by decide +kernel
theorem dX6_token_123 : decode cX6_token 123 = .ok (.dup, 1) := by decide +kernel
theorem dX6_token_124 : decode cX6_token 124 = .ok (.getfield 194, 3) := by decide +kernel
theorem dX6_token_127 : decode cX6_token 127 = .ok (.iconst 1, 1) := by decide +kernel
theorem dX6_token_128 : decode cX6_token 128 = .ok (.iadd, 1) := by decide +kernel
theorem dX6_token_129 : decode cX6_token 129 = .ok (.putfield 194, 3) := by decide +kernel
theorem dX6_token_132 : decode cX6_token 132 = .ok (.goto (-46), 3) := by decide +kernel
theorem dX6_token_135 : decode cX6_token 135 = .ok (.return_, 1) := by decide +kernel
theorem dX6_wants_0 : decode cX6_wants 0 = .ok (.aload_n 0, 1) := by decide +kernel
theorem dX6_wants_1 : decode cX6_wants 1 = .ok (.aload_n 0, 1) := by decide +kernel
theorem dX6_wants_2 : decode cX6_wants 2 = .ok (.getfield 209, 3) := by decide +kernel
theorem dX6_wants_5 : decode cX6_wants 5 = .ok (.ifCond .ne 7, 3) := by decide +kernel
theorem dX6_wants_8 : decode cX6_wants 8 = .ok (.iload_n 1, 1) := by decide +kernel
theorem dX6_wants_9 : decode cX6_wants 9 = .ok (.ifCond .ne 7, 3) := by decide +kernel
theorem dX6_wants_12 : decode cX6_wants 12 = .ok (.iconst 1, 1) := by decide +kernel
theorem dX6_wants_13 : decode cX6_wants 13 = .ok (.goto 4, 3) := by decide +kernel
theorem dX6_wants_16 : decode cX6_wants 16 = .ok (.iconst 0, 1) := by decide +kernel
theorem dX6_wants_17 : decode cX6_wants 17 = .ok (.putfield 209, 3) := by decide +kernel
theorem dX6_wants_20 : decode cX6_wants 20 = .ok (.aload_n 0, 1) := by decide +kernel
theorem dX6_wants_21 : decode cX6_wants 21 = .ok (.getfield 209, 3) := by decide +kernel
theorem dX6_wants_24 : decode cX6_wants 24 = .ok (.ifCond .ne 7, 3) := by decide +kernel
theorem dX6_wants_27 : decode cX6_wants 27 = .ok (.aload_n 0, 1) := by decide +kernel
theorem dX6_wants_28 : decode cX6_wants 28 = .ok (.invokevirtual 213, 3) := by decide +kernel
theorem dX6_wants_31 : decode cX6_wants 31 = .ok (.return_, 1) := by decide +kernel
theorem dX6_word_0 : decode cX6_word 0 = .ok (.lconst 0, 1) := by decide +kernel
theorem dX6_word_1 : decode cX6_word 1 = .ok (.lstore_n 1, 1) := by decide +kernel
theorem dX6_word_2 : decode cX6_word 2 = .ok (.aload_n 0, 1) := by decide +kernel
theorem dX6_word_3 : decode cX6_word 3 = .ok (.getfield 197, 3) := by decide +kernel
theorem dX6_word_6 : decode cX6_word 6 = .ok (.istore_n 3, 1) := by decide +kernel
theorem dX6_word_7 : decode cX6_word 7 = .ok (.iload_n 3, 1) := by decide +kernel
theorem dX6_word_8 : decode cX6_word 8 = .ok (.aload_n 0, 1) := by decide +kernel
theorem dX6_word_9 : decode cX6_word 9 = .ok (.getfield 194, 3) := by decide +kernel
theorem dX6_word_12 : decode cX6_word 12 = .ok (.if_icmp .ge 38, 3) := by decide +kernel
theorem dX6_word_15 : decode cX6_word 15 = .ok (.lload_n 1, 1) := by decide +kernel
theorem dX6_word_16 : decode cX6_word 16 = .ok (.ldc2_w 216, 3) := by decide +kernel
theorem dX6_word_19 : decode cX6_word 19 = .ok (.lcmp, 1) := by decide +kernel
theorem dX6_word_20 : decode cX6_word 20 = .ok (.ifCond .le 7, 3) := by decide +kernel
theorem dX6_word_23 : decode cX6_word 23 = .ok (.lload_n 1, 1) := by decide +kernel
theorem dX6_word_24 : decode cX6_word 24 = .ok (.goto 19, 3) := by decide +kernel
theorem dX6_word_27 : decode cX6_word 27 = .ok (.ldc2_w 218, 3) := by decide +kernel
theorem dX6_word_30 : decode cX6_word 30 = .ok (.lload_n 1, 1) := by decide +kernel
theorem dX6_word_31 : decode cX6_word 31 = .ok (.lmul, 1) := by decide +kernel
theorem dX6_word_32 : decode cX6_word 32 = .ok (.aload_n 0, 1) := by decide +kernel
theorem dX6_word_33 : decode cX6_word 33 = .ok (.getfield 28, 3) := by decide +kernel
theorem dX6_word_36 : decode cX6_word 36 = .ok (.iload_n 3, 1) := by decide +kernel
theorem dX6_word_37 : decode cX6_word 37 = .ok (.iaload, 1) := by decide +kernel
theorem dX6_word_38 : decode cX6_word 38 = .ok (.bipush 96, 2) := by decide +kernel
theorem dX6_word_40 : decode cX6_word 40 = .ok (.isub, 1) := by decide +kernel
theorem dX6_word_41 : decode cX6_word 41 = .ok (.i2l, 1) := by decide +kernel
theorem dX6_word_42 : decode cX6_word 42 = .ok (.ladd, 1) := by decide +kernel
theorem dX6_word_43 : decode cX6_word 43 = .ok (.lstore_n 1, 1) := by decide +kernel
theorem dX6_word_44 : decode cX6_word 44 = .ok (.iinc 3 1, 3) := by decide +kernel
theorem dX6_word_47 : decode cX6_word 47 = .ok (.goto (-40), 3) := by decide +kernel
theorem dX6_word_50 : decode cX6_word 50 = .ok (.aload_n 0, 1) := by decide +kernel
theorem dX6_word_51 : decode cX6_word 51 = .ok (.getfield 209, 3) := by decide +kernel
theorem dX6_word_54 : decode cX6_word 54 = .ok (.ifCond .ne 17, 3) := by decide +kernel
theorem dX6_word_57 : decode cX6_word 57 = .ok (.aload_n 0, 1) := by decide +kernel
theorem dX6_word_58 : decode cX6_word 58 = .ok (.aload_n 0, 1) := by decide +kernel
theorem dX6_word_59 : decode cX6_word 59 = .ok (.getfield 197, 3) := by decide +kernel
theorem dX6_word_62 : decode cX6_word 62 = .ok (.invokevirtual 200, 3) := by decide +kernel
theorem dX6_word_65 : decode cX6_word 65 = .ok (.invokestatic 203, 3) := by decide +kernel
theorem dX6_word_68 : decode cX6_word 68 = .ok (.ifCond .ne 7, 3) := by decide +kernel
theorem dX6_word_71 : decode cX6_word 71 = .ok (.lconst 0, 1) := by decide +kernel
theorem dX6_word_72 : decode cX6_word 72 = .ok (.goto 4, 3) := by decide +kernel
theorem dX6_word_75 : decode cX6_word 75 = .ok (.lload_n 1, 1) := by decide +kernel
theorem dX6_word_76 : decode cX6_word 76 = .ok (.lreturn, 1) := by decide +kernel
theorem dX6_number_0 : decode cX6_number 0 = .ok (.aload_n 0, 1) := by decide +kernel
theorem dX6_number_1 : decode cX6_number 1 = .ok (.getfield 209, 3) := by decide +kernel
theorem dX6_number_4 : decode cX6_number 4 = .ok (.ifCond .eq 4, 3) := by decide +kernel
theorem dX6_number_7 : decode cX6_number 7 = .ok (.return_, 1) := by decide +kernel
theorem dX6_number_8 : decode cX6_number 8 = .ok (.aload_n 0, 1) := by decide +kernel
theorem dX6_number_9 : decode cX6_number 9 = .ok (.aload_n 0, 1) := by decide +kernel
theorem dX6_number_10 : decode cX6_number 10 = .ok (.getfield 197, 3) := by decide +kernel
theorem dX6_number_13 : decode cX6_number 13 = .ok (.invokevirtual 200, 3) := by decide +kernel
theorem dX6_number_16 : decode cX6_number 16 = .ok (.invokestatic 206, 3) := by decide +kernel
theorem dX6_number_19 : decode cX6_number 19 = .ok (.istore_n 3, 1) := by decide +kernel
theorem dX6_number_20 : decode cX6_number 20 = .ok (.iconst 0, 1) := by decide +kernel
theorem dX6_number_21 : decode cX6_number 21 = .ok (.istore 4, 2) := by decide +kernel
theorem dX6_number_23 : decode cX6_number 23 = .ok (.aload_n 0, 1) := by decide +kernel
theorem dX6_number_24 : decode cX6_number 24 = .ok (.getfield 197, 3) := by decide +kernel
theorem dX6_number_27 : decode cX6_number 27 = .ok (.istore 5, 2) := by decide +kernel
theorem dX6_number_29 : decode cX6_number 29 = .ok (.iload 5, 2) := by decide +kernel
theorem dX6_number_31 : decode cX6_number 31 = .ok (.aload_n 0, 1) := by decide +kernel
theorem dX6_number_32 : decode cX6_number 32 = .ok (.getfield 194, 3) := by decide +kernel
theorem dX6_number_35 : decode cX6_number 35 = .ok (.if_icmp .ge 44, 3) := by decide +kernel
theorem dX6_number_38 : decode cX6_number 38 = .ok (.iload_n 3, 1) := by decide +kernel
theorem dX6_number_39 : decode cX6_number 39 = .ok (.ifCond .eq 40, 3) := by decide +kernel
theorem dX6_number_42 : decode cX6_number 42 = .ok (.iload 4, 2) := by decide +kernel
theorem dX6_number_44 : decode cX6_number 44 = .ok (.sipush 999, 3) := by decide +kernel
theorem dX6_number_47 : decode cX6_number 47 = .ok (.if_icmp .le 8, 3) := by decide +kernel
theorem dX6_number_50 : decode cX6_number 50 = .ok (.iload 4, 2) := by decide +kernel
theorem dX6_number_52 : decode cX6_number 52 = .ok (.goto 19, 3) := by decide +kernel
theorem dX6_number_55 : decode cX6_number 55 = .ok (.bipush 10, 2) := by decide +kernel
theorem dX6_number_57 : decode cX6_number 57 = .ok (.iload 4, 2) := by decide +kernel
theorem dX6_number_59 : decode cX6_number 59 = .ok (.imul, 1) := by decide +kernel
theorem dX6_number_60 : decode cX6_number 60 = .ok (.aload_n 0, 1) := by decide +kernel
theorem dX6_number_61 : decode cX6_number 61 = .ok (.getfield 28, 3) := by decide +kernel
theorem dX6_number_64 : decode cX6_number 64 = .ok (.iload 5, 2) := by decide +kernel
theorem dX6_number_66 : decode cX6_number 66 = .ok (.iaload, 1) := by decide +kernel
theorem dX6_number_67 : decode cX6_number 67 = .ok (.iadd, 1) := by decide +kernel
theorem dX6_number_68 : decode cX6_number 68 = .ok (.bipush 48, 2) := by decide +kernel
theorem dX6_number_70 : decode cX6_number 70 = .ok (.isub, 1) := by decide +kernel
theorem dX6_number_71 : decode cX6_number 71 = .ok (.istore 4, 2) := by decide +kernel
theorem dX6_number_73 : decode cX6_number 73 = .ok (.iinc 5 1, 3) := by decide +kernel
theorem dX6_number_76 : decode cX6_number 76 = .ok (.goto (-47), 3) := by decide +kernel
theorem dX6_number_79 : decode cX6_number 79 = .ok (.aload_n 0, 1) := by decide +kernel
theorem dX6_number_80 : decode cX6_number 80 = .ok (.iload 4, 2) := by decide +kernel
theorem dX6_number_82 : decode cX6_number 82 = .ok (.putfield 220, 3) := by decide +kernel
theorem dX6_number_85 : decode cX6_number 85 = .ok (.aload_n 0, 1) := by decide +kernel
theorem dX6_number_86 : decode cX6_number 86 = .ok (.iload_n 3, 1) := by decide +kernel
theorem dX6_number_87 : decode cX6_number 87 = .ok (.ifCond .eq 20, 3) := by decide +kernel
theorem dX6_number_90 : decode cX6_number 90 = .ok (.iload 4, 2) := by decide +kernel
theorem dX6_number_92 : decode cX6_number 92 = .ok (.i2l, 1) := by decide +kernel
theorem dX6_number_93 : decode cX6_number 93 = .ok (.iload_n 1, 1) := by decide +kernel
theorem dX6_number_94 : decode cX6_number 94 = .ok (.i2l, 1) := by decide +kernel
theorem dX6_number_95 : decode cX6_number 95 = .ok (.iload_n 2, 1) := by decide +kernel
theorem dX6_number_96 : decode cX6_number 96 = .ok (.i2l, 1) := by decide +kernel
theorem dX6_number_97 : decode cX6_number 97 = .ok (.invokestatic 45, 3) := by decide +kernel
theorem dX6_number_100 : decode cX6_number 100 = .ok (.ifCond .eq 7, 3) := by decide +kernel
theorem dX6_number_103 : decode cX6_number 103 = .ok (.iconst 1, 1) := by decide +kernel
theorem dX6_number_104 : decode cX6_number 104 = .ok (.goto 4, 3) := by decide +kernel
theorem dX6_number_107 : decode cX6_number 107 = .ok (.iconst 0, 1) := by decide +kernel
theorem dX6_number_108 : decode cX6_number 108 = .ok (.invokevirtual 223, 3) := by decide +kernel
theorem dX6_number_111 : decode cX6_number 111 = .ok (.return_, 1) := by decide +kernel
theorem dX6_kindHere_0 : decode cX6_kindHere 0 = .ok (.aload_n 0, 1) := by decide +kernel
theorem dX6_kindHere_1 : decode cX6_kindHere 1 = .ok (.invokevirtual 227, 3) := by decide +kernel
theorem dX6_kindHere_4 : decode cX6_kindHere 4 = .ok (.lstore_n 1, 1) := by decide +kernel
theorem dX6_kindHere_5 : decode cX6_kindHere 5 = .ok (.lload_n 1, 1) := by decide +kernel
theorem dX6_kindHere_6 : decode cX6_kindHere 6 = .ok (.ldc2_w 231, 3) := by decide +kernel
theorem dX6_kindHere_9 : decode cX6_kindHere 9 = .ok (.lcmp, 1) := by decide +kernel
theorem dX6_kindHere_10 : decode cX6_kindHere 10 = .ok (.ifCond .ne 7, 3) := by decide +kernel
theorem dX6_kindHere_13 : decode cX6_kindHere 13 = .ok (.iconst 0, 1) := by decide +kernel
theorem dX6_kindHere_14 : decode cX6_kindHere 14 = .ok (.goto 64, 3) := by decide +kernel
theorem dX6_kindHere_17 : decode cX6_kindHere 17 = .ok (.lload_n 1, 1) := by decide +kernel
theorem dX6_kindHere_18 : decode cX6_kindHere 18 = .ok (.ldc2_w 233, 3) := by decide +kernel
theorem dX6_kindHere_21 : decode cX6_kindHere 21 = .ok (.lcmp, 1) := by decide +kernel
theorem dX6_kindHere_22 : decode cX6_kindHere 22 = .ok (.ifCond .ne 7, 3) := by decide +kernel
theorem dX6_kindHere_25 : decode cX6_kindHere 25 = .ok (.iconst 1, 1) := by decide +kernel
theorem dX6_kindHere_26 : decode cX6_kindHere 26 = .ok (.goto 52, 3) := by decide +kernel
theorem dX6_kindHere_29 : decode cX6_kindHere 29 = .ok (.lload_n 1, 1) := by decide +kernel
theorem dX6_kindHere_30 : decode cX6_kindHere 30 = .ok (.ldc2_w 235, 3) := by decide +kernel
theorem dX6_kindHere_33 : decode cX6_kindHere 33 = .ok (.lcmp, 1) := by decide +kernel
theorem dX6_kindHere_34 : decode cX6_kindHere 34 = .ok (.ifCond .ne 7, 3) := by decide +kernel
theorem dX6_kindHere_37 : decode cX6_kindHere 37 = .ok (.iconst 2, 1) := by decide +kernel
theorem dX6_kindHere_38 : decode cX6_kindHere 38 = .ok (.goto 40, 3) := by decide +kernel
theorem dX6_kindHere_41 : decode cX6_kindHere 41 = .ok (.lload_n 1, 1) := by decide +kernel
theorem dX6_kindHere_42 : decode cX6_kindHere 42 = .ok (.ldc2_w 237, 3) := by decide +kernel
theorem dX6_kindHere_45 : decode cX6_kindHere 45 = .ok (.lcmp, 1) := by decide +kernel
theorem dX6_kindHere_46 : decode cX6_kindHere 46 = .ok (.ifCond .ne 7, 3) := by decide +kernel
theorem dX6_kindHere_49 : decode cX6_kindHere 49 = .ok (.iconst 3, 1) := by decide +kernel
theorem dX6_kindHere_50 : decode cX6_kindHere 50 = .ok (.goto 28, 3) := by decide +kernel
theorem dX6_kindHere_53 : decode cX6_kindHere 53 = .ok (.lload_n 1, 1) := by decide +kernel
theorem dX6_kindHere_54 : decode cX6_kindHere 54 = .ok (.ldc2_w 239, 3) := by decide +kernel
theorem dX6_kindHere_57 : decode cX6_kindHere 57 = .ok (.lcmp, 1) := by decide +kernel
theorem dX6_kindHere_58 : decode cX6_kindHere 58 = .ok (.ifCond .ne 7, 3) := by decide +kernel
theorem dX6_kindHere_61 : decode cX6_kindHere 61 = .ok (.iconst 4, 1) := by decide +kernel
theorem dX6_kindHere_62 : decode cX6_kindHere 62 = .ok (.goto 16, 3) := by decide +kernel
theorem dX6_kindHere_65 : decode cX6_kindHere 65 = .ok (.lload_n 1, 1) := by decide +kernel
theorem dX6_kindHere_66 : decode cX6_kindHere 66 = .ok (.ldc2_w 241, 3) := by decide +kernel
theorem dX6_kindHere_69 : decode cX6_kindHere 69 = .ok (.lcmp, 1) := by decide +kernel
theorem dX6_kindHere_70 : decode cX6_kindHere 70 = .ok (.ifCond .ne 7, 3) := by decide +kernel
theorem dX6_kindHere_73 : decode cX6_kindHere 73 = .ok (.iconst 5, 1) := by decide +kernel
theorem dX6_kindHere_74 : decode cX6_kindHere 74 = .ok (.goto 4, 3) := by decide +kernel
theorem dX6_kindHere_77 : decode cX6_kindHere 77 = .ok (.iconst (-1), 1) := by decide +kernel
theorem dX6_kindHere_78 : decode cX6_kindHere 78 = .ok (.ireturn, 1) := by decide +kernel
theorem dX6_fieldHere_0 : decode cX6_fieldHere 0 = .ok (.aload_n 0, 1) := by decide +kernel
theorem dX6_fieldHere_1 : decode cX6_fieldHere 1 = .ok (.iconst 0, 1) := by decide +kernel
theorem dX6_fieldHere_2 : decode cX6_fieldHere 2 = .ok (.aload_n 0, 1) := by decide +kernel
theorem dX6_fieldHere_3 : decode cX6_fieldHere 3 = .ok (.getfield 7, 3) := by decide +kernel
theorem dX6_fieldHere_6 : decode cX6_fieldHere 6 = .ok (.iconst 0, 1) := by decide +kernel
theorem dX6_fieldHere_7 : decode cX6_fieldHere 7 = .ok (.iaload, 1) := by decide +kernel
theorem dX6_fieldHere_8 : decode cX6_fieldHere 8 = .ok (.iconst 1, 1) := by decide +kernel
theorem dX6_fieldHere_9 : decode cX6_fieldHere 9 = .ok (.isub, 1) := by decide +kernel
theorem dX6_fieldHere_10 : decode cX6_fieldHere 10 = .ok (.invokevirtual 243, 3) := by decide +kernel
theorem dX6_fieldHere_13 : decode cX6_fieldHere 13 = .ok (.return_, 1) := by decide +kernel
theorem dX6_sideNamed_0 : decode cX6_sideNamed 0 = .ok (.aload_n 0, 1) := by decide +kernel
theorem dX6_sideNamed_1 : decode cX6_sideNamed 1 = .ok (.invokevirtual 227, 3) := by decide +kernel
theorem dX6_sideNamed_4 : decode cX6_sideNamed 4 = .ok (.lstore_n 1, 1) := by decide +kernel
theorem dX6_sideNamed_5 : decode cX6_sideNamed 5 = .ok (.lload_n 1, 1) := by decide +kernel
theorem dX6_sideNamed_6 : decode cX6_sideNamed 6 = .ok (.ldc2_w 246, 3) := by decide +kernel
theorem dX6_sideNamed_9 : decode cX6_sideNamed 9 = .ok (.lcmp, 1) := by decide +kernel
theorem dX6_sideNamed_10 : decode cX6_sideNamed 10 = .ok (.ifCond .ne 7, 3) := by decide +kernel
theorem dX6_sideNamed_13 : decode cX6_sideNamed 13 = .ok (.iconst 0, 1) := by decide +kernel
theorem dX6_sideNamed_14 : decode cX6_sideNamed 14 = .ok (.goto 40, 3) := by decide +kernel
theorem dX6_sideNamed_17 : decode cX6_sideNamed 17 = .ok (.lload_n 1, 1) := by decide +kernel
theorem dX6_sideNamed_18 : decode cX6_sideNamed 18 = .ok (.ldc2_w 248, 3) := by decide +kernel
theorem dX6_sideNamed_21 : decode cX6_sideNamed 21 = .ok (.lcmp, 1) := by decide +kernel
theorem dX6_sideNamed_22 : decode cX6_sideNamed 22 = .ok (.ifCond .ne 7, 3) := by decide +kernel
theorem dX6_sideNamed_25 : decode cX6_sideNamed 25 = .ok (.iconst 1, 1) := by decide +kernel
theorem dX6_sideNamed_26 : decode cX6_sideNamed 26 = .ok (.goto 28, 3) := by decide +kernel
theorem dX6_sideNamed_29 : decode cX6_sideNamed 29 = .ok (.lload_n 1, 1) := by decide +kernel
theorem dX6_sideNamed_30 : decode cX6_sideNamed 30 = .ok (.ldc2_w 250, 3) := by decide +kernel
theorem dX6_sideNamed_33 : decode cX6_sideNamed 33 = .ok (.lcmp, 1) := by decide +kernel
theorem dX6_sideNamed_34 : decode cX6_sideNamed 34 = .ok (.ifCond .ne 7, 3) := by decide +kernel
theorem dX6_sideNamed_37 : decode cX6_sideNamed 37 = .ok (.iconst 2, 1) := by decide +kernel
theorem dX6_sideNamed_38 : decode cX6_sideNamed 38 = .ok (.goto 16, 3) := by decide +kernel
theorem dX6_sideNamed_41 : decode cX6_sideNamed 41 = .ok (.lload_n 1, 1) := by decide +kernel
theorem dX6_sideNamed_42 : decode cX6_sideNamed 42 = .ok (.ldc2_w 252, 3) := by decide +kernel
theorem dX6_sideNamed_45 : decode cX6_sideNamed 45 = .ok (.lcmp, 1) := by decide +kernel
theorem dX6_sideNamed_46 : decode cX6_sideNamed 46 = .ok (.ifCond .ne 7, 3) := by decide +kernel
theorem dX6_sideNamed_49 : decode cX6_sideNamed 49 = .ok (.iconst 3, 1) := by decide +kernel
theorem dX6_sideNamed_50 : decode cX6_sideNamed 50 = .ok (.goto 4, 3) := by decide +kernel
theorem dX6_sideNamed_53 : decode cX6_sideNamed 53 = .ok (.iconst (-1), 1) := by decide +kernel
theorem dX6_sideNamed_54 : decode cX6_sideNamed 54 = .ok (.ireturn, 1) := by decide +kernel
theorem dX6_sideHere_0 : decode cX6_sideHere 0 = .ok (.aload_n 0, 1) := by decide +kernel
theorem dX6_sideHere_1 : decode cX6_sideHere 1 = .ok (.invokevirtual 254, 3) := by decide +kernel
theorem dX6_sideHere_4 : decode cX6_sideHere 4 = .ok (.istore 4, 2) := by decide +kernel
theorem dX6_sideHere_6 : decode cX6_sideHere 6 = .ok (.iconst 4, 1) := by decide +kernel
theorem dX6_sideHere_7 : decode cX6_sideHere 7 = .ok (.iload_n 1, 1) := by decide +kernel
theorem dX6_sideHere_8 : decode cX6_sideHere 8 = .ok (.imul, 1) := by decide +kernel
theorem dX6_sideHere_9 : decode cX6_sideHere 9 = .ok (.iload 4, 2) := by decide +kernel
theorem dX6_sideHere_11 : decode cX6_sideHere 11 = .ok (.iadd, 1) := by decide +kernel
theorem dX6_sideHere_12 : decode cX6_sideHere 12 = .ok (.istore 5, 2) := by decide +kernel
theorem dX6_sideHere_14 : decode cX6_sideHere 14 = .ok (.aload_n 0, 1) := by decide +kernel
theorem dX6_sideHere_15 : decode cX6_sideHere 15 = .ok (.iload 4, 2) := by decide +kernel
theorem dX6_sideHere_17 : decode cX6_sideHere 17 = .ok (.ifCond .lt 35, 3) := by decide +kernel
theorem dX6_sideHere_20 : decode cX6_sideHere 20 = .ok (.iload 5, 2) := by decide +kernel
theorem dX6_sideHere_22 : decode cX6_sideHere 22 = .ok (.iload_n 3, 1) := by decide +kernel
theorem dX6_sideHere_23 : decode cX6_sideHere 23 = .ok (.if_icmp .eq 29, 3) := by decide +kernel
theorem dX6_sideHere_26 : decode cX6_sideHere 26 = .ok (.aload_n 0, 1) := by decide +kernel
theorem dX6_sideHere_27 : decode cX6_sideHere 27 = .ok (.getfield 7, 3) := by decide +kernel
theorem dX6_sideHere_30 : decode cX6_sideHere 30 = .ok (.bipush 18, 2) := by decide +kernel
theorem dX6_sideHere_32 : decode cX6_sideHere 32 = .ok (.iload 5, 2) := by decide +kernel
theorem dX6_sideHere_34 : decode cX6_sideHere 34 = .ok (.iadd, 1) := by decide +kernel
theorem dX6_sideHere_35 : decode cX6_sideHere 35 = .ok (.iaload, 1) := by decide +kernel
theorem dX6_sideHere_36 : decode cX6_sideHere 36 = .ok (.ifCond .le 7, 3) := by decide +kernel
theorem dX6_sideHere_39 : decode cX6_sideHere 39 = .ok (.iconst 1, 1) := by decide +kernel
theorem dX6_sideHere_40 : decode cX6_sideHere 40 = .ok (.goto 4, 3) := by decide +kernel
theorem dX6_sideHere_43 : decode cX6_sideHere 43 = .ok (.iconst 0, 1) := by decide +kernel
theorem dX6_sideHere_44 : decode cX6_sideHere 44 = .ok (.iload_n 2, 1) := by decide +kernel
theorem dX6_sideHere_45 : decode cX6_sideHere 45 = .ok (.if_icmp .ne 7, 3) := by decide +kernel
theorem dX6_sideHere_48 : decode cX6_sideHere 48 = .ok (.iconst 1, 1) := by decide +kernel
theorem dX6_sideHere_49 : decode cX6_sideHere 49 = .ok (.goto 4, 3) := by decide +kernel
theorem dX6_sideHere_52 : decode cX6_sideHere 52 = .ok (.iconst 0, 1) := by decide +kernel
theorem dX6_sideHere_53 : decode cX6_sideHere 53 = .ok (.invokevirtual 223, 3) := by decide +kernel
theorem dX6_sideHere_56 : decode cX6_sideHere 56 = .ok (.iload 5, 2) := by decide +kernel
theorem dX6_sideHere_58 : decode cX6_sideHere 58 = .ok (.ireturn, 1) := by decide +kernel
theorem dX6_fieldItem_0 : decode cX6_fieldItem 0 = .ok (.aload_n 0, 1) := by decide +kernel
theorem dX6_fieldItem_1 : decode cX6_fieldItem 1 = .ok (.aload_n 0, 1) := by decide +kernel
theorem dX6_fieldItem_2 : decode cX6_fieldItem 2 = .ok (.getfield 7, 3) := by decide +kernel
theorem dX6_fieldItem_5 : decode cX6_fieldItem 5 = .ok (.iconst 0, 1) := by decide +kernel
theorem dX6_fieldItem_6 : decode cX6_fieldItem 6 = .ok (.iaload, 1) := by decide +kernel
theorem dX6_fieldItem_7 : decode cX6_fieldItem 7 = .ok (.bipush 16, 2) := by decide +kernel
theorem dX6_fieldItem_9 : decode cX6_fieldItem 9 = .ok (.if_icmp .ge 7, 3) := by decide +kernel
theorem dX6_fieldItem_12 : decode cX6_fieldItem 12 = .ok (.iconst 1, 1) := by decide +kernel
theorem dX6_fieldItem_13 : decode cX6_fieldItem 13 = .ok (.goto 4, 3) := by decide +kernel
theorem dX6_fieldItem_16 : decode cX6_fieldItem 16 = .ok (.iconst 0, 1) := by decide +kernel
theorem dX6_fieldItem_17 : decode cX6_fieldItem 17 = .ok (.invokevirtual 223, 3) := by decide +kernel
theorem dX6_fieldItem_20 : decode cX6_fieldItem 20 = .ok (.iconst 0, 1) := by decide +kernel
theorem dX6_fieldItem_21 : decode cX6_fieldItem 21 = .ok (.istore_n 1, 1) := by decide +kernel
theorem dX6_fieldItem_22 : decode cX6_fieldItem 22 = .ok (.aload_n 0, 1) := by decide +kernel
theorem dX6_fieldItem_23 : decode cX6_fieldItem 23 = .ok (.invokevirtual 227, 3) := by decide +kernel
theorem dX6_fieldItem_26 : decode cX6_fieldItem 26 = .ok (.ldc2_w 257, 3) := by decide +kernel
theorem dX6_fieldItem_29 : decode cX6_fieldItem 29 = .ok (.lcmp, 1) := by decide +kernel
theorem dX6_fieldItem_30 : decode cX6_fieldItem 30 = .ok (.ifCond .ne 20, 3) := by decide +kernel
theorem dX6_fieldItem_33 : decode cX6_fieldItem 33 = .ok (.aload_n 0, 1) := by decide +kernel
theorem dX6_fieldItem_34 : decode cX6_fieldItem 34 = .ok (.iconst 1, 1) := by decide +kernel
theorem dX6_fieldItem_35 : decode cX6_fieldItem 35 = .ok (.invokevirtual 223, 3) := by decide +kernel
theorem dX6_fieldItem_38 : decode cX6_fieldItem 38 = .ok (.aload_n 0, 1) := by decide +kernel
theorem dX6_fieldItem_39 : decode cX6_fieldItem 39 = .ok (.iconst 0, 1) := by decide +kernel
theorem dX6_fieldItem_40 : decode cX6_fieldItem 40 = .ok (.bipush 9, 2) := by decide +kernel
theorem dX6_fieldItem_42 : decode cX6_fieldItem 42 = .ok (.invokevirtual 243, 3) := by decide +kernel
theorem dX6_fieldItem_45 : decode cX6_fieldItem 45 = .ok (.aload_n 0, 1) := by decide +kernel
theorem dX6_fieldItem_46 : decode cX6_fieldItem 46 = .ok (.getfield 220, 3) := by decide +kernel
theorem dX6_fieldItem_49 : decode cX6_fieldItem 49 = .ok (.istore_n 1, 1) := by decide +kernel
theorem dX6_fieldItem_50 : decode cX6_fieldItem 50 = .ok (.aload_n 0, 1) := by decide +kernel
theorem dX6_fieldItem_51 : decode cX6_fieldItem 51 = .ok (.getfield 209, 3) := by decide +kernel
theorem dX6_fieldItem_54 : decode cX6_fieldItem 54 = .ok (.ifCond .ne 9, 3) := by decide +kernel
theorem dX6_fieldItem_57 : decode cX6_fieldItem 57 = .ok (.aload_n 0, 1) := by decide +kernel
theorem dX6_fieldItem_58 : decode cX6_fieldItem 58 = .ok (.iload_n 1, 1) := by decide +kernel
theorem dX6_fieldItem_59 : decode cX6_fieldItem 59 = .ok (.invokevirtual 74, 3) := by decide +kernel
theorem dX6_fieldItem_62 : decode cX6_fieldItem 62 = .ok (.istore_n 2, 1) := by decide +kernel
theorem dX6_fieldItem_63 : decode cX6_fieldItem 63 = .ok (.return_, 1) := by decide +kernel
theorem dX6_glueItem_0 : decode cX6_glueItem 0 = .ok (.aload_n 0, 1) := by decide +kernel
theorem dX6_glueItem_1 : decode cX6_glueItem 1 = .ok (.iconst 1, 1) := by decide +kernel
theorem dX6_glueItem_2 : decode cX6_glueItem 2 = .ok (.invokevirtual 223, 3) := by decide +kernel
theorem dX6_glueItem_5 : decode cX6_glueItem 5 = .ok (.aload_n 0, 1) := by decide +kernel
theorem dX6_glueItem_6 : decode cX6_glueItem 6 = .ok (.invokevirtual 259, 3) := by decide +kernel
theorem dX6_glueItem_9 : decode cX6_glueItem 9 = .ok (.aload_n 0, 1) := by decide +kernel
theorem dX6_glueItem_10 : decode cX6_glueItem 10 = .ok (.getfield 209, 3) := by decide +kernel
theorem dX6_glueItem_13 : decode cX6_glueItem 13 = .ok (.ifCond .eq 7, 3) := by decide +kernel
theorem dX6_glueItem_16 : decode cX6_glueItem 16 = .ok (.iconst 0, 1) := by decide +kernel
theorem dX6_glueItem_17 : decode cX6_glueItem 17 = .ok (.goto 13, 3) := by decide +kernel
theorem dX6_glueItem_20 : decode cX6_glueItem 20 = .ok (.aload_n 0, 1) := by decide +kernel
theorem dX6_glueItem_21 : decode cX6_glueItem 21 = .ok (.aload_n 0, 1) := by decide +kernel
theorem dX6_glueItem_22 : decode cX6_glueItem 22 = .ok (.getfield 220, 3) := by decide +kernel
theorem dX6_glueItem_25 : decode cX6_glueItem 25 = .ok (.iconst 0, 1) := by decide +kernel
theorem dX6_glueItem_26 : decode cX6_glueItem 26 = .ok (.iconst (-1), 1) := by decide +kernel
theorem dX6_glueItem_27 : decode cX6_glueItem 27 = .ok (.invokevirtual 262, 3) := by decide +kernel
theorem dX6_glueItem_30 : decode cX6_glueItem 30 = .ok (.istore_n 1, 1) := by decide +kernel
theorem dX6_glueItem_31 : decode cX6_glueItem 31 = .ok (.aload_n 0, 1) := by decide +kernel
theorem dX6_glueItem_32 : decode cX6_glueItem 32 = .ok (.invokevirtual 259, 3) := by decide +kernel
theorem dX6_glueItem_35 : decode cX6_glueItem 35 = .ok (.aload_n 0, 1) := by decide +kernel
theorem dX6_glueItem_36 : decode cX6_glueItem 36 = .ok (.getfield 209, 3) := by decide +kernel
theorem dX6_glueItem_39 : decode cX6_glueItem 39 = .ok (.ifCond .eq 7, 3) := by decide +kernel
theorem dX6_glueItem_42 : decode cX6_glueItem 42 = .ok (.iconst 0, 1) := by decide +kernel
theorem dX6_glueItem_43 : decode cX6_glueItem 43 = .ok (.goto 13, 3) := by decide +kernel
theorem dX6_glueItem_46 : decode cX6_glueItem 46 = .ok (.aload_n 0, 1) := by decide +kernel
theorem dX6_glueItem_47 : decode cX6_glueItem 47 = .ok (.aload_n 0, 1) := by decide +kernel
theorem dX6_glueItem_48 : decode cX6_glueItem 48 = .ok (.getfield 220, 3) := by decide +kernel
theorem dX6_glueItem_51 : decode cX6_glueItem 51 = .ok (.iconst 0, 1) := by decide +kernel
theorem dX6_glueItem_52 : decode cX6_glueItem 52 = .ok (.iload_n 1, 1) := by decide +kernel
theorem dX6_glueItem_53 : decode cX6_glueItem 53 = .ok (.invokevirtual 262, 3) := by decide +kernel
theorem dX6_glueItem_56 : decode cX6_glueItem 56 = .ok (.istore_n 2, 1) := by decide +kernel
theorem dX6_glueItem_57 : decode cX6_glueItem 57 = .ok (.aload_n 0, 1) := by decide +kernel
theorem dX6_glueItem_58 : decode cX6_glueItem 58 = .ok (.getfield 209, 3) := by decide +kernel
theorem dX6_glueItem_61 : decode cX6_glueItem 61 = .ok (.ifCond .ne 9, 3) := by decide +kernel
theorem dX6_glueItem_64 : decode cX6_glueItem 64 = .ok (.aload_n 0, 1) := by decide +kernel
theorem dX6_glueItem_65 : decode cX6_glueItem 65 = .ok (.iload_n 1, 1) := by decide +kernel
theorem dX6_glueItem_66 : decode cX6_glueItem 66 = .ok (.iload_n 2, 1) := by decide +kernel
theorem dX6_glueItem_67 : decode cX6_glueItem 67 = .ok (.invokevirtual 93, 3) := by decide +kernel
theorem dX6_glueItem_70 : decode cX6_glueItem 70 = .ok (.return_, 1) := by decide +kernel
theorem dX6_cutItem_0 : decode cX6_cutItem 0 = .ok (.aload_n 0, 1) := by decide +kernel
theorem dX6_cutItem_1 : decode cX6_cutItem 1 = .ok (.iconst 1, 1) := by decide +kernel
theorem dX6_cutItem_2 : decode cX6_cutItem 2 = .ok (.invokevirtual 223, 3) := by decide +kernel
theorem dX6_cutItem_5 : decode cX6_cutItem 5 = .ok (.aload_n 0, 1) := by decide +kernel
theorem dX6_cutItem_6 : decode cX6_cutItem 6 = .ok (.invokevirtual 259, 3) := by decide +kernel
theorem dX6_cutItem_9 : decode cX6_cutItem 9 = .ok (.aload_n 0, 1) := by decide +kernel
theorem dX6_cutItem_10 : decode cX6_cutItem 10 = .ok (.getfield 209, 3) := by decide +kernel
theorem dX6_cutItem_13 : decode cX6_cutItem 13 = .ok (.ifCond .eq 7, 3) := by decide +kernel
theorem dX6_cutItem_16 : decode cX6_cutItem 16 = .ok (.iconst 0, 1) := by decide +kernel
theorem dX6_cutItem_17 : decode cX6_cutItem 17 = .ok (.goto 13, 3) := by decide +kernel
theorem dX6_cutItem_20 : decode cX6_cutItem 20 = .ok (.aload_n 0, 1) := by decide +kernel
theorem dX6_cutItem_21 : decode cX6_cutItem 21 = .ok (.aload_n 0, 1) := by decide +kernel
theorem dX6_cutItem_22 : decode cX6_cutItem 22 = .ok (.getfield 220, 3) := by decide +kernel
theorem dX6_cutItem_25 : decode cX6_cutItem 25 = .ok (.iconst 1, 1) := by decide +kernel
theorem dX6_cutItem_26 : decode cX6_cutItem 26 = .ok (.iconst (-1), 1) := by decide +kernel
theorem dX6_cutItem_27 : decode cX6_cutItem 27 = .ok (.invokevirtual 262, 3) := by decide +kernel
theorem dX6_cutItem_30 : decode cX6_cutItem 30 = .ok (.istore_n 1, 1) := by decide +kernel
theorem dX6_cutItem_31 : decode cX6_cutItem 31 = .ok (.aload_n 0, 1) := by decide +kernel
theorem dX6_cutItem_32 : decode cX6_cutItem 32 = .ok (.getfield 209, 3) := by decide +kernel
theorem dX6_cutItem_35 : decode cX6_cutItem 35 = .ok (.ifCond .ne 8, 3) := by decide +kernel
theorem dX6_cutItem_38 : decode cX6_cutItem 38 = .ok (.aload_n 0, 1) := by decide +kernel
theorem dX6_cutItem_39 : decode cX6_cutItem 39 = .ok (.iload_n 1, 1) := by decide +kernel
theorem dX6_cutItem_40 : decode cX6_cutItem 40 = .ok (.invokevirtual 97, 3) := by decide +kernel
theorem dX6_cutItem_43 : decode cX6_cutItem 43 = .ok (.return_, 1) := by decide +kernel
theorem dX6_walkerItem_0 : decode cX6_walkerItem 0 = .ok (.aload_n 0, 1) := by decide +kernel
theorem dX6_walkerItem_1 : decode cX6_walkerItem 1 = .ok (.aload_n 0, 1) := by decide +kernel
theorem dX6_walkerItem_2 : decode cX6_walkerItem 2 = .ok (.getfield 7, 3) := by decide +kernel
theorem dX6_walkerItem_5 : decode cX6_walkerItem 5 = .ok (.iconst 1, 1) := by decide +kernel
theorem dX6_walkerItem_6 : decode cX6_walkerItem 6 = .ok (.iaload, 1) := by decide +kernel
theorem dX6_walkerItem_7 : decode cX6_walkerItem 7 = .ok (.bipush 6, 2) := by decide +kernel
theorem dX6_walkerItem_9 : decode cX6_walkerItem 9 = .ok (.if_icmp .ge 7, 3) := by decide +kernel
theorem dX6_walkerItem_12 : decode cX6_walkerItem 12 = .ok (.iconst 1, 1) := by decide +kernel
theorem dX6_walkerItem_13 : decode cX6_walkerItem 13 = .ok (.goto 4, 3) := by decide +kernel
theorem dX6_walkerItem_16 : decode cX6_walkerItem 16 = .ok (.iconst 0, 1) := by decide +kernel
theorem dX6_walkerItem_17 : decode cX6_walkerItem 17 = .ok (.invokevirtual 223, 3) := by decide +kernel
theorem dX6_walkerItem_20 : decode cX6_walkerItem 20 = .ok (.aload_n 0, 1) := by decide +kernel
theorem dX6_walkerItem_21 : decode cX6_walkerItem 21 = .ok (.aload_n 0, 1) := by decide +kernel
theorem dX6_walkerItem_22 : decode cX6_walkerItem 22 = .ok (.invokevirtual 227, 3) := by decide +kernel
theorem dX6_walkerItem_25 : decode cX6_walkerItem 25 = .ok (.ldc2_w 266, 3) := by decide +kernel
theorem dX6_walkerItem_28 : decode cX6_walkerItem 28 = .ok (.lcmp, 1) := by decide +kernel
theorem dX6_walkerItem_29 : decode cX6_walkerItem 29 = .ok (.ifCond .ne 7, 3) := by decide +kernel
theorem dX6_walkerItem_32 : decode cX6_walkerItem 32 = .ok (.iconst 1, 1) := by decide +kernel
theorem dX6_walkerItem_33 : decode cX6_walkerItem 33 = .ok (.goto 4, 3) := by decide +kernel
theorem dX6_walkerItem_36 : decode cX6_walkerItem 36 = .ok (.iconst 0, 1) := by decide +kernel
theorem dX6_walkerItem_37 : decode cX6_walkerItem 37 = .ok (.invokevirtual 223, 3) := by decide +kernel
theorem dX6_walkerItem_40 : decode cX6_walkerItem 40 = .ok (.aload_n 0, 1) := by decide +kernel
theorem dX6_walkerItem_41 : decode cX6_walkerItem 41 = .ok (.invokevirtual 259, 3) := by decide +kernel
theorem dX6_walkerItem_44 : decode cX6_walkerItem 44 = .ok (.aload_n 0, 1) := by decide +kernel
theorem dX6_walkerItem_45 : decode cX6_walkerItem 45 = .ok (.getfield 220, 3) := by decide +kernel
theorem dX6_walkerItem_48 : decode cX6_walkerItem 48 = .ok (.istore_n 2, 1) := by decide +kernel
theorem dX6_walkerItem_49 : decode cX6_walkerItem 49 = .ok (.aload_n 0, 1) := by decide +kernel
theorem dX6_walkerItem_50 : decode cX6_walkerItem 50 = .ok (.getfield 209, 3) := by decide +kernel
theorem dX6_walkerItem_53 : decode cX6_walkerItem 53 = .ok (.ifCond .eq 7, 3) := by decide +kernel
theorem dX6_walkerItem_56 : decode cX6_walkerItem 56 = .ok (.iconst 0, 1) := by decide +kernel
theorem dX6_walkerItem_57 : decode cX6_walkerItem 57 = .ok (.goto 7, 3) := by decide +kernel
theorem dX6_walkerItem_60 : decode cX6_walkerItem 60 = .ok (.aload_n 0, 1) := by decide +kernel
theorem dX6_walkerItem_61 : decode cX6_walkerItem 61 = .ok (.invokevirtual 254, 3) := by decide +kernel
theorem dX6_walkerItem_64 : decode cX6_walkerItem 64 = .ok (.istore_n 3, 1) := by decide +kernel
theorem dX6_walkerItem_65 : decode cX6_walkerItem 65 = .ok (.aload_n 0, 1) := by decide +kernel
theorem dX6_walkerItem_66 : decode cX6_walkerItem 66 = .ok (.iload_n 3, 1) := by decide +kernel
theorem dX6_walkerItem_67 : decode cX6_walkerItem 67 = .ok (.ifCond .lt 7, 3) := by decide +kernel
theorem dX6_walkerItem_70 : decode cX6_walkerItem 70 = .ok (.iconst 1, 1) := by decide +kernel
theorem dX6_walkerItem_71 : decode cX6_walkerItem 71 = .ok (.goto 4, 3) := by decide +kernel
theorem dX6_walkerItem_74 : decode cX6_walkerItem 74 = .ok (.iconst 0, 1) := by decide +kernel
theorem dX6_walkerItem_75 : decode cX6_walkerItem 75 = .ok (.invokevirtual 223, 3) := by decide +kernel
theorem dX6_walkerItem_78 : decode cX6_walkerItem 78 = .ok (.aload_n 0, 1) := by decide +kernel
theorem dX6_walkerItem_79 : decode cX6_walkerItem 79 = .ok (.getfield 209, 3) := by decide +kernel
theorem dX6_walkerItem_82 : decode cX6_walkerItem 82 = .ok (.ifCond .ne 12, 3) := by decide +kernel
theorem dX6_walkerItem_85 : decode cX6_walkerItem 85 = .ok (.aload_n 0, 1) := by decide +kernel
theorem dX6_walkerItem_86 : decode cX6_walkerItem 86 = .ok (.iload_n 1, 1) := by decide +kernel
theorem dX6_walkerItem_87 : decode cX6_walkerItem 87 = .ok (.iload_n 2, 1) := by decide +kernel
theorem dX6_walkerItem_88 : decode cX6_walkerItem 88 = .ok (.iload_n 3, 1) := by decide +kernel
theorem dX6_walkerItem_89 : decode cX6_walkerItem 89 = .ok (.invokevirtual 105, 3) := by decide +kernel
theorem dX6_walkerItem_92 : decode cX6_walkerItem 92 = .ok (.istore 4, 2) := by decide +kernel
theorem dX6_walkerItem_94 : decode cX6_walkerItem 94 = .ok (.return_, 1) := by decide +kernel
theorem dX6_item_0 : decode cX6_item 0 = .ok (.aload_n 0, 1) := by decide +kernel
theorem dX6_item_1 : decode cX6_item 1 = .ok (.invokevirtual 268, 3) := by decide +kernel
theorem dX6_item_4 : decode cX6_item 4 = .ok (.istore_n 1, 1) := by decide +kernel
theorem dX6_item_5 : decode cX6_item 5 = .ok (.aload_n 0, 1) := by decide +kernel
theorem dX6_item_6 : decode cX6_item 6 = .ok (.invokevirtual 227, 3) := by decide +kernel
theorem dX6_item_9 : decode cX6_item 9 = .ok (.lstore_n 2, 1) := by decide +kernel
theorem dX6_item_10 : decode cX6_item 10 = .ok (.iload_n 1, 1) := by decide +kernel
theorem dX6_item_11 : decode cX6_item 11 = .ok (.ifCond .lt 11, 3) := by decide +kernel
theorem dX6_item_14 : decode cX6_item 14 = .ok (.aload_n 0, 1) := by decide +kernel
theorem dX6_item_15 : decode cX6_item 15 = .ok (.iload_n 1, 1) := by decide +kernel
theorem dX6_item_16 : decode cX6_item 16 = .ok (.invokevirtual 271, 3) := by decide +kernel
theorem dX6_item_19 : decode cX6_item 19 = .ok (.goto 53, 3) := by decide +kernel
theorem dX6_item_22 : decode cX6_item 22 = .ok (.lload_n 2, 1) := by decide +kernel
theorem dX6_item_23 : decode cX6_item 23 = .ok (.ldc2_w 274, 3) := by decide +kernel
theorem dX6_item_26 : decode cX6_item 26 = .ok (.lcmp, 1) := by decide +kernel
theorem dX6_item_27 : decode cX6_item 27 = .ok (.ifCond .ne 10, 3) := by decide +kernel
theorem dX6_item_30 : decode cX6_item 30 = .ok (.aload_n 0, 1) := by decide +kernel
theorem dX6_item_31 : decode cX6_item 31 = .ok (.invokevirtual 276, 3) := by decide +kernel
theorem dX6_item_34 : decode cX6_item 34 = .ok (.goto 38, 3) := by decide +kernel
theorem dX6_item_37 : decode cX6_item 37 = .ok (.lload_n 2, 1) := by decide +kernel
theorem dX6_item_38 : decode cX6_item 38 = .ok (.ldc2_w 279, 3) := by decide +kernel
theorem dX6_item_41 : decode cX6_item 41 = .ok (.lcmp, 1) := by decide +kernel
theorem dX6_item_42 : decode cX6_item 42 = .ok (.ifCond .ne 10, 3) := by decide +kernel
theorem dX6_item_45 : decode cX6_item 45 = .ok (.aload_n 0, 1) := by decide +kernel
theorem dX6_item_46 : decode cX6_item 46 = .ok (.invokevirtual 281, 3) := by decide +kernel
theorem dX6_item_49 : decode cX6_item 49 = .ok (.goto 23, 3) := by decide +kernel
theorem dX6_item_52 : decode cX6_item 52 = .ok (.lload_n 2, 1) := by decide +kernel
theorem dX6_item_53 : decode cX6_item 53 = .ok (.ldc2_w 284, 3) := by decide +kernel
theorem dX6_item_56 : decode cX6_item 56 = .ok (.lcmp, 1) := by decide +kernel
theorem dX6_item_57 : decode cX6_item 57 = .ok (.ifCond .ne 10, 3) := by decide +kernel
theorem dX6_item_60 : decode cX6_item 60 = .ok (.aload_n 0, 1) := by decide +kernel
theorem dX6_item_61 : decode cX6_item 61 = .ok (.invokevirtual 286, 3) := by decide +kernel
theorem dX6_item_64 : decode cX6_item 64 = .ok (.goto 8, 3) := by decide +kernel
theorem dX6_item_67 : decode cX6_item 67 = .ok (.aload_n 0, 1) := by decide +kernel
theorem dX6_item_68 : decode cX6_item 68 = .ok (.iconst 0, 1) := by decide +kernel
theorem dX6_item_69 : decode cX6_item 69 = .ok (.invokevirtual 223, 3) := by decide +kernel
theorem dX6_item_72 : decode cX6_item 72 = .ok (.return_, 1) := by decide +kernel
theorem dX6_plain_0 : decode cX6_plain 0 = .ok (.aload_n 0, 1) := by decide +kernel
theorem dX6_plain_1 : decode cX6_plain 1 = .ok (.invokevirtual 289, 3) := by decide +kernel
theorem dX6_plain_4 : decode cX6_plain 4 = .ok (.aload_n 0, 1) := by decide +kernel
theorem dX6_plain_5 : decode cX6_plain 5 = .ok (.iconst 0, 1) := by decide +kernel
theorem dX6_plain_6 : decode cX6_plain 6 = .ok (.putfield 209, 3) := by decide +kernel
theorem dX6_plain_9 : decode cX6_plain 9 = .ok (.aload_n 0, 1) := by decide +kernel
theorem dX6_plain_10 : decode cX6_plain 10 = .ok (.iconst 0, 1) := by decide +kernel
theorem dX6_plain_11 : decode cX6_plain 11 = .ok (.putfield 194, 3) := by decide +kernel
theorem dX6_plain_14 : decode cX6_plain 14 = .ok (.aload_n 0, 1) := by decide +kernel
theorem dX6_plain_15 : decode cX6_plain 15 = .ok (.invokevirtual 213, 3) := by decide +kernel
theorem dX6_plain_18 : decode cX6_plain 18 = .ok (.iconst 1, 1) := by decide +kernel
theorem dX6_plain_19 : decode cX6_plain 19 = .ok (.istore_n 1, 1) := by decide +kernel
theorem dX6_plain_20 : decode cX6_plain 20 = .ok (.aload_n 0, 1) := by decide +kernel
theorem dX6_plain_21 : decode cX6_plain 21 = .ok (.invokevirtual 292, 3) := by decide +kernel
theorem dX6_plain_24 : decode cX6_plain 24 = .ok (.aload_n 0, 1) := by decide +kernel
theorem dX6_plain_25 : decode cX6_plain 25 = .ok (.getfield 209, 3) := by decide +kernel
theorem dX6_plain_28 : decode cX6_plain 28 = .ok (.ifCond .ne 31, 3) := by decide +kernel
theorem dX6_plain_31 : decode cX6_plain 31 = .ok (.aload_n 0, 1) := by decide +kernel
theorem dX6_plain_32 : decode cX6_plain 32 = .ok (.aload_n 0, 1) := by decide +kernel
theorem dX6_plain_33 : decode cX6_plain 33 = .ok (.getfield 197, 3) := by decide +kernel
theorem dX6_plain_36 : decode cX6_plain 36 = .ok (.invokevirtual 200, 3) := by decide +kernel
theorem dX6_plain_39 : decode cX6_plain 39 = .ok (.bipush 59, 2) := by decide +kernel
theorem dX6_plain_41 : decode cX6_plain 41 = .ok (.if_icmp .ne 18, 3) := by decide +kernel
theorem dX6_plain_44 : decode cX6_plain 44 = .ok (.aload_n 0, 1) := by decide +kernel
theorem dX6_plain_45 : decode cX6_plain 45 = .ok (.iconst 1, 1) := by decide +kernel
theorem dX6_plain_46 : decode cX6_plain 46 = .ok (.invokevirtual 223, 3) := by decide +kernel
theorem dX6_plain_49 : decode cX6_plain 49 = .ok (.aload_n 0, 1) := by decide +kernel
theorem dX6_plain_50 : decode cX6_plain 50 = .ok (.invokevirtual 292, 3) := by decide +kernel
theorem dX6_plain_53 : decode cX6_plain 53 = .ok (.iinc 1 1, 3) := by decide +kernel
theorem dX6_plain_56 : decode cX6_plain 56 = .ok (.goto (-32), 3) := by decide +kernel
theorem dX6_plain_59 : decode cX6_plain 59 = .ok (.aload_n 0, 1) := by decide +kernel
theorem dX6_plain_60 : decode cX6_plain 60 = .ok (.aload_n 0, 1) := by decide +kernel
theorem dX6_plain_61 : decode cX6_plain 61 = .ok (.getfield 209, 3) := by decide +kernel
theorem dX6_plain_64 : decode cX6_plain 64 = .ok (.ifCond .ne 14, 3) := by decide +kernel
theorem dX6_plain_67 : decode cX6_plain 67 = .ok (.aload_n 0, 1) := by decide +kernel
theorem dX6_plain_68 : decode cX6_plain 68 = .ok (.getfield 197, 3) := by decide +kernel
theorem dX6_plain_71 : decode cX6_plain 71 = .ok (.aload_n 0, 1) := by decide +kernel
theorem dX6_plain_72 : decode cX6_plain 72 = .ok (.getfield 182, 3) := by decide +kernel
theorem dX6_plain_75 : decode cX6_plain 75 = .ok (.if_icmp .ge 7, 3) := by decide +kernel
theorem dX6_plain_78 : decode cX6_plain 78 = .ok (.iconst 1, 1) := by decide +kernel
theorem dX6_plain_79 : decode cX6_plain 79 = .ok (.goto 4, 3) := by decide +kernel
theorem dX6_plain_82 : decode cX6_plain 82 = .ok (.iconst 0, 1) := by decide +kernel
theorem dX6_plain_83 : decode cX6_plain 83 = .ok (.putfield 209, 3) := by decide +kernel
theorem dX6_plain_86 : decode cX6_plain 86 = .ok (.aload_n 0, 1) := by decide +kernel
theorem dX6_plain_87 : decode cX6_plain 87 = .ok (.getfield 209, 3) := by decide +kernel
theorem dX6_plain_90 : decode cX6_plain 90 = .ok (.ifCond .eq 7, 3) := by decide +kernel
theorem dX6_plain_93 : decode cX6_plain 93 = .ok (.aload_n 0, 1) := by decide +kernel
theorem dX6_plain_94 : decode cX6_plain 94 = .ok (.invokevirtual 295, 3) := by decide +kernel
theorem dX6_plain_97 : decode cX6_plain 97 = .ok (.aload_n 0, 1) := by decide +kernel
theorem dX6_plain_98 : decode cX6_plain 98 = .ok (.iconst 0, 1) := by decide +kernel
theorem dX6_plain_99 : decode cX6_plain 99 = .ok (.putfield 182, 3) := by decide +kernel
theorem dX6_plain_102 : decode cX6_plain 102 = .ok (.aload_n 0, 1) := by decide +kernel
theorem dX6_plain_103 : decode cX6_plain 103 = .ok (.getfield 209, 3) := by decide +kernel
theorem dX6_plain_106 : decode cX6_plain 106 = .ok (.ifCond .eq 12, 3) := by decide +kernel
theorem dX6_plain_109 : decode cX6_plain 109 = .ok (.iconst (-1), 1) := by decide +kernel
theorem dX6_plain_110 : decode cX6_plain 110 = .ok (.aload_n 0, 1) := by decide +kernel
theorem dX6_plain_111 : decode cX6_plain 111 = .ok (.getfield 197, 3) := by decide +kernel
theorem dX6_plain_114 : decode cX6_plain 114 = .ok (.isub, 1) := by decide +kernel
theorem dX6_plain_115 : decode cX6_plain 115 = .ok (.goto 4, 3) := by decide +kernel
theorem dX6_plain_118 : decode cX6_plain 118 = .ok (.iload_n 1, 1) := by decide +kernel
theorem dX6_plain_119 : decode cX6_plain 119 = .ok (.ireturn, 1) := by decide +kernel
theorem dX6_isOne_0 : decode cX6_isOne 0 = .ok (.iload_n 0, 1) := by decide +kernel
theorem dX6_isOne_1 : decode cX6_isOne 1 = .ok (.i2l, 1) := by decide +kernel
theorem dX6_isOne_2 : decode cX6_isOne 2 = .ok (.lconst 0, 1) := by decide +kernel
theorem dX6_isOne_3 : decode cX6_isOne 3 = .ok (.ldc2_w 49, 3) := by decide +kernel
theorem dX6_isOne_6 : decode cX6_isOne 6 = .ok (.invokestatic 45, 3) := by decide +kernel
theorem dX6_isOne_9 : decode cX6_isOne 9 = .ok (.ireturn, 1) := by decide +kernel
theorem dX6_sheet_0 : decode cX6_sheet 0 = .ok (.iload_n 1, 1) := by decide +kernel
theorem dX6_sheet_1 : decode cX6_sheet 1 = .ok (.invokestatic 298, 3) := by decide +kernel
theorem dX6_sheet_4 : decode cX6_sheet 4 = .ok (.ifCond .eq 25, 3) := by decide +kernel
theorem dX6_sheet_7 : decode cX6_sheet 7 = .ok (.iload_n 2, 1) := by decide +kernel
theorem dX6_sheet_8 : decode cX6_sheet 8 = .ok (.ifCond .eq 28, 3) := by decide +kernel
theorem dX6_sheet_11 : decode cX6_sheet 11 = .ok (.iload_n 2, 1) := by decide +kernel
theorem dX6_sheet_12 : decode cX6_sheet 12 = .ok (.bipush 8, 2) := by decide +kernel
theorem dX6_sheet_14 : decode cX6_sheet 14 = .ok (.if_icmp .eq 22, 3) := by decide +kernel
theorem dX6_sheet_17 : decode cX6_sheet 17 = .ok (.iload_n 2, 1) := by decide +kernel
theorem dX6_sheet_18 : decode cX6_sheet 18 = .ok (.bipush 16, 2) := by decide +kernel
theorem dX6_sheet_20 : decode cX6_sheet 20 = .ok (.if_icmp .eq 16, 3) := by decide +kernel
theorem dX6_sheet_23 : decode cX6_sheet 23 = .ok (.iload_n 2, 1) := by decide +kernel
theorem dX6_sheet_24 : decode cX6_sheet 24 = .ok (.bipush 64, 2) := by decide +kernel
theorem dX6_sheet_26 : decode cX6_sheet 26 = .ok (.if_icmp .eq 10, 3) := by decide +kernel
theorem dX6_sheet_29 : decode cX6_sheet 29 = .ok (.aload_n 0, 1) := by decide +kernel
theorem dX6_sheet_30 : decode cX6_sheet 30 = .ok (.ldc 44, 2) := by decide +kernel
theorem dX6_sheet_32 : decode cX6_sheet 32 = .ok (.invokevirtual 69, 3) := by decide +kernel
theorem dX6_sheet_35 : decode cX6_sheet 35 = .ok (.ireturn, 1) := by decide +kernel
theorem dX6_sheet_36 : decode cX6_sheet 36 = .ok (.iload_n 3, 1) := by decide +kernel
theorem dX6_sheet_37 : decode cX6_sheet 37 = .ok (.ifCond .ge 11, 3) := by decide +kernel
theorem dX6_sheet_40 : decode cX6_sheet 40 = .ok (.aload_n 0, 1) := by decide +kernel
theorem dX6_sheet_41 : decode cX6_sheet 41 = .ok (.ldc_w 301, 3) := by decide +kernel
theorem dX6_sheet_44 : decode cX6_sheet 44 = .ok (.invokevirtual 69, 3) := by decide +kernel
theorem dX6_sheet_47 : decode cX6_sheet 47 = .ok (.ireturn, 1) := by decide +kernel
theorem dX6_sheet_48 : decode cX6_sheet 48 = .ok (.iload_n 3, 1) := by decide +kernel
theorem dX6_sheet_49 : decode cX6_sheet 49 = .ok (.bipush 40, 2) := by decide +kernel
theorem dX6_sheet_51 : decode cX6_sheet 51 = .ok (.if_icmp .le 10, 3) := by decide +kernel
theorem dX6_sheet_54 : decode cX6_sheet 54 = .ok (.aload_n 0, 1) := by decide +kernel
theorem dX6_sheet_55 : decode cX6_sheet 55 = .ok (.ldc 44, 2) := by decide +kernel
theorem dX6_sheet_57 : decode cX6_sheet 57 = .ok (.invokevirtual 69, 3) := by decide +kernel
theorem dX6_sheet_60 : decode cX6_sheet 60 = .ok (.ireturn, 1) := by decide +kernel
theorem dX6_sheet_61 : decode cX6_sheet 61 = .ok (.aload_n 0, 1) := by decide +kernel
theorem dX6_sheet_62 : decode cX6_sheet 62 = .ok (.getfield 31, 3) := by decide +kernel
theorem dX6_sheet_65 : decode cX6_sheet 65 = .ok (.iload_n 1, 1) := by decide +kernel
theorem dX6_sheet_66 : decode cX6_sheet 66 = .ok (.iload_n 2, 1) := by decide +kernel
theorem dX6_sheet_67 : decode cX6_sheet 67 = .ok (.iastore, 1) := by decide +kernel
theorem dX6_sheet_68 : decode cX6_sheet 68 = .ok (.aload_n 0, 1) := by decide +kernel
theorem dX6_sheet_69 : decode cX6_sheet 69 = .ok (.getfield 34, 3) := by decide +kernel
theorem dX6_sheet_72 : decode cX6_sheet 72 = .ok (.iload_n 1, 1) := by decide +kernel
theorem dX6_sheet_73 : decode cX6_sheet 73 = .ok (.iload_n 2, 1) := by decide +kernel
theorem dX6_sheet_74 : decode cX6_sheet 74 = .ok (.ifCond .ne 7, 3) := by decide +kernel
theorem dX6_sheet_77 : decode cX6_sheet 77 = .ok (.iconst 0, 1) := by decide +kernel
theorem dX6_sheet_78 : decode cX6_sheet 78 = .ok (.goto 4, 3) := by decide +kernel
theorem dX6_sheet_81 : decode cX6_sheet 81 = .ok (.iload_n 3, 1) := by decide +kernel
theorem dX6_sheet_82 : decode cX6_sheet 82 = .ok (.iastore, 1) := by decide +kernel
theorem dX6_sheet_83 : decode cX6_sheet 83 = .ok (.iconst 0, 1) := by decide +kernel
theorem dX6_sheet_84 : decode cX6_sheet 84 = .ok (.istore 4, 2) := by decide +kernel
theorem dX6_sheet_86 : decode cX6_sheet 86 = .ok (.iload 4, 2) := by decide +kernel
theorem dX6_sheet_88 : decode cX6_sheet 88 = .ok (.bipush 40, 2) := by decide +kernel
theorem dX6_sheet_90 : decode cX6_sheet 90 = .ok (.if_icmp .ge 22, 3) := by decide +kernel
theorem dX6_sheet_93 : decode cX6_sheet 93 = .ok (.aload_n 0, 1) := by decide +kernel
theorem dX6_sheet_94 : decode cX6_sheet 94 = .ok (.getfield 37, 3) := by decide +kernel
theorem dX6_sheet_97 : decode cX6_sheet 97 = .ok (.bipush 40, 2) := by decide +kernel
theorem dX6_sheet_99 : decode cX6_sheet 99 = .ok (.iload_n 1, 1) := by decide +kernel
theorem dX6_sheet_100 : decode cX6_sheet 100 = .ok (.imul, 1) := by decide +kernel
theorem dX6_sheet_101 : decode cX6_sheet 101 = .ok (.iload 4, 2) := by decide +kernel
theorem dX6_sheet_103 : decode cX6_sheet 103 = .ok (.iadd, 1) := by decide +kernel
theorem dX6_sheet_104 : decode cX6_sheet 104 = .ok (.lconst 0, 1) := by decide +kernel
theorem dX6_sheet_105 : decode cX6_sheet 105 = .ok (.lastore, 1) := by decide +kernel
theorem dX6_sheet_106 : decode cX6_sheet 106 = .ok (.iinc 4 1, 3) := by decide +kernel
theorem dX6_sheet_109 : decode cX6_sheet 109 = .ok (.goto (-23), 3) := by decide +kernel
theorem dX6_sheet_112 : decode cX6_sheet 112 = .ok (.aload_n 0, 1) := by decide +kernel
theorem dX6_sheet_113 : decode cX6_sheet 113 = .ok (.getfield 34, 3) := by decide +kernel
theorem dX6_sheet_116 : decode cX6_sheet 116 = .ok (.iload_n 1, 1) := by decide +kernel
theorem dX6_sheet_117 : decode cX6_sheet 117 = .ok (.iaload, 1) := by decide +kernel
theorem dX6_sheet_118 : decode cX6_sheet 118 = .ok (.ireturn, 1) := by decide +kernel
theorem dX6_narrowed_0 : decode cX6_narrowed 0 = .ok (.iload_n 0, 1) := by decide +kernel
theorem dX6_narrowed_1 : decode cX6_narrowed 1 = .ok (.bipush 8, 2) := by decide +kernel
theorem dX6_narrowed_3 : decode cX6_narrowed 3 = .ok (.if_icmp .ne 10, 3) := by decide +kernel
theorem dX6_narrowed_6 : decode cX6_narrowed 6 = .ok (.lload_n 1, 1) := by decide +kernel
theorem dX6_narrowed_7 : decode cX6_narrowed 7 = .ok (.l2i, 1) := by decide +kernel
theorem dX6_narrowed_8 : decode cX6_narrowed 8 = .ok (.i2b, 1) := by decide +kernel
theorem dX6_narrowed_9 : decode cX6_narrowed 9 = .ok (.i2l, 1) := by decide +kernel
theorem dX6_narrowed_10 : decode cX6_narrowed 10 = .ok (.goto 17, 3) := by decide +kernel
theorem dX6_narrowed_13 : decode cX6_narrowed 13 = .ok (.iload_n 0, 1) := by decide +kernel
theorem dX6_narrowed_14 : decode cX6_narrowed 14 = .ok (.bipush 16, 2) := by decide +kernel
theorem dX6_narrowed_16 : decode cX6_narrowed 16 = .ok (.if_icmp .ne 10, 3) := by decide +kernel
theorem dX6_narrowed_19 : decode cX6_narrowed 19 = .ok (.lload_n 1, 1) := by decide +kernel
theorem dX6_narrowed_20 : decode cX6_narrowed 20 = .ok (.l2i, 1) := by decide +kernel
theorem dX6_narrowed_21 : decode cX6_narrowed 21 = .ok (.i2s, 1) := by decide +kernel
theorem dX6_narrowed_22 : decode cX6_narrowed 22 = .ok (.i2l, 1) := by decide +kernel
theorem dX6_narrowed_23 : decode cX6_narrowed 23 = .ok (.goto 4, 3) := by decide +kernel
theorem dX6_narrowed_26 : decode cX6_narrowed 26 = .ok (.lload_n 1, 1) := by decide +kernel
theorem dX6_narrowed_27 : decode cX6_narrowed 27 = .ok (.lreturn, 1) := by decide +kernel
theorem dX6_wrong_0 : decode cX6_wrong 0 = .ok (.iload_n 1, 1) := by decide +kernel
theorem dX6_wrong_1 : decode cX6_wrong 1 = .ok (.invokestatic 298, 3) := by decide +kernel
theorem dX6_wrong_4 : decode cX6_wrong 4 = .ok (.ifCond .ne 8, 3) := by decide +kernel
theorem dX6_wrong_7 : decode cX6_wrong 7 = .ok (.ldc 44, 2) := by decide +kernel
theorem dX6_wrong_9 : decode cX6_wrong 9 = .ok (.goto 19, 3) := by decide +kernel
theorem dX6_wrong_12 : decode cX6_wrong 12 = .ok (.aload_n 0, 1) := by decide +kernel
theorem dX6_wrong_13 : decode cX6_wrong 13 = .ok (.getfield 31, 3) := by decide +kernel
theorem dX6_wrong_16 : decode cX6_wrong 16 = .ok (.iload_n 1, 1) := by decide +kernel
theorem dX6_wrong_17 : decode cX6_wrong 17 = .ok (.iaload, 1) := by decide +kernel
theorem dX6_wrong_18 : decode cX6_wrong 18 = .ok (.ifCond .ne 9, 3) := by decide +kernel
theorem dX6_wrong_21 : decode cX6_wrong 21 = .ok (.ldc_w 302, 3) := by decide +kernel
theorem dX6_wrong_24 : decode cX6_wrong 24 = .ok (.goto 4, 3) := by decide +kernel
theorem dX6_wrong_27 : decode cX6_wrong 27 = .ok (.iconst 0, 1) := by decide +kernel
theorem dX6_wrong_28 : decode cX6_wrong 28 = .ok (.ireturn, 1) := by decide +kernel
theorem dX6_write_0 : decode cX6_write 0 = .ok (.aload_n 0, 1) := by decide +kernel
theorem dX6_write_1 : decode cX6_write 1 = .ok (.iload_n 1, 1) := by decide +kernel
theorem dX6_write_2 : decode cX6_write 2 = .ok (.invokevirtual 303, 3) := by decide +kernel
theorem dX6_write_5 : decode cX6_write 5 = .ok (.istore 5, 2) := by decide +kernel
theorem dX6_write_7 : decode cX6_write 7 = .ok (.iload 5, 2) := by decide +kernel
theorem dX6_write_9 : decode cX6_write 9 = .ok (.ifCond .eq 11, 3) := by decide +kernel
theorem dX6_write_12 : decode cX6_write 12 = .ok (.aload_n 0, 1) := by decide +kernel
theorem dX6_write_13 : decode cX6_write 13 = .ok (.iload 5, 2) := by decide +kernel
theorem dX6_write_15 : decode cX6_write 15 = .ok (.invokevirtual 69, 3) := by decide +kernel
theorem dX6_write_18 : decode cX6_write 18 = .ok (.i2l, 1) := by decide +kernel
theorem dX6_write_19 : decode cX6_write 19 = .ok (.lreturn, 1) := by decide +kernel
theorem dX6_write_20 : decode cX6_write 20 = .ok (.iload_n 2, 1) := by decide +kernel
theorem dX6_write_21 : decode cX6_write 21 = .ok (.i2l, 1) := by decide +kernel
theorem dX6_write_22 : decode cX6_write 22 = .ok (.lconst 0, 1) := by decide +kernel
theorem dX6_write_23 : decode cX6_write 23 = .ok (.aload_n 0, 1) := by decide +kernel
theorem dX6_write_24 : decode cX6_write 24 = .ok (.getfield 34, 3) := by decide +kernel
theorem dX6_write_27 : decode cX6_write 27 = .ok (.iload_n 1, 1) := by decide +kernel
theorem dX6_write_28 : decode cX6_write 28 = .ok (.iaload, 1) := by decide +kernel
theorem dX6_write_29 : decode cX6_write 29 = .ok (.iconst 1, 1) := by decide +kernel
theorem dX6_write_30 : decode cX6_write 30 = .ok (.isub, 1) := by decide +kernel
theorem dX6_write_31 : decode cX6_write 31 = .ok (.i2l, 1) := by decide +kernel
theorem dX6_write_32 : decode cX6_write 32 = .ok (.invokestatic 45, 3) := by decide +kernel
theorem dX6_write_35 : decode cX6_write 35 = .ok (.ifCond .ne 11, 3) := by decide +kernel
theorem dX6_write_38 : decode cX6_write 38 = .ok (.aload_n 0, 1) := by decide +kernel
theorem dX6_write_39 : decode cX6_write 39 = .ok (.ldc 44, 2) := by decide +kernel
theorem dX6_write_41 : decode cX6_write 41 = .ok (.invokevirtual 69, 3) := by decide +kernel
theorem dX6_write_44 : decode cX6_write 44 = .ok (.i2l, 1) := by decide +kernel
theorem dX6_write_45 : decode cX6_write 45 = .ok (.lreturn, 1) := by decide +kernel
theorem dX6_write_46 : decode cX6_write 46 = .ok (.aload_n 0, 1) := by decide +kernel
theorem dX6_write_47 : decode cX6_write 47 = .ok (.getfield 37, 3) := by decide +kernel
theorem dX6_write_50 : decode cX6_write 50 = .ok (.bipush 40, 2) := by decide +kernel
theorem dX6_write_52 : decode cX6_write 52 = .ok (.iload_n 1, 1) := by decide +kernel
theorem dX6_write_53 : decode cX6_write 53 = .ok (.imul, 1) := by decide +kernel
theorem dX6_write_54 : decode cX6_write 54 = .ok (.iload_n 2, 1) := by decide +kernel
theorem dX6_write_55 : decode cX6_write 55 = .ok (.iadd, 1) := by decide +kernel
theorem dX6_write_56 : decode cX6_write 56 = .ok (.laload, 1) := by decide +kernel
theorem dX6_write_57 : decode cX6_write 57 = .ok (.lstore 6, 2) := by decide +kernel
theorem dX6_write_59 : decode cX6_write 59 = .ok (.aload_n 0, 1) := by decide +kernel
theorem dX6_write_60 : decode cX6_write 60 = .ok (.getfield 37, 3) := by decide +kernel
theorem dX6_write_63 : decode cX6_write 63 = .ok (.bipush 40, 2) := by decide +kernel
theorem dX6_write_65 : decode cX6_write 65 = .ok (.iload_n 1, 1) := by decide +kernel
theorem dX6_write_66 : decode cX6_write 66 = .ok (.imul, 1) := by decide +kernel
theorem dX6_write_67 : decode cX6_write 67 = .ok (.iload_n 2, 1) := by decide +kernel
theorem dX6_write_68 : decode cX6_write 68 = .ok (.iadd, 1) := by decide +kernel
theorem dX6_write_69 : decode cX6_write 69 = .ok (.aload_n 0, 1) := by decide +kernel
theorem dX6_write_70 : decode cX6_write 70 = .ok (.getfield 31, 3) := by decide +kernel
theorem dX6_write_73 : decode cX6_write 73 = .ok (.iload_n 1, 1) := by decide +kernel
theorem dX6_write_74 : decode cX6_write 74 = .ok (.iaload, 1) := by decide +kernel
theorem dX6_write_75 : decode cX6_write 75 = .ok (.lload_n 3, 1) := by decide +kernel
theorem dX6_write_76 : decode cX6_write 76 = .ok (.invokestatic 306, 3) := by decide +kernel
theorem dX6_write_79 : decode cX6_write 79 = .ok (.lastore, 1) := by decide +kernel
theorem dX6_write_80 : decode cX6_write 80 = .ok (.lload 6, 2) := by decide +kernel
theorem dX6_write_82 : decode cX6_write 82 = .ok (.lreturn, 1) := by decide +kernel
theorem dX6_copy_0 : decode cX6_copy 0 = .ok (.iload_n 1, 1) := by decide +kernel
theorem dX6_copy_1 : decode cX6_copy 1 = .ok (.invokestatic 298, 3) := by decide +kernel
theorem dX6_copy_4 : decode cX6_copy 4 = .ok (.ifCond .eq 10, 3) := by decide +kernel
theorem dX6_copy_7 : decode cX6_copy 7 = .ok (.iload_n 3, 1) := by decide +kernel
theorem dX6_copy_8 : decode cX6_copy 8 = .ok (.invokestatic 298, 3) := by decide +kernel
theorem dX6_copy_11 : decode cX6_copy 11 = .ok (.ifCond .ne 10, 3) := by decide +kernel
theorem dX6_copy_14 : decode cX6_copy 14 = .ok (.aload_n 0, 1) := by decide +kernel
theorem dX6_copy_15 : decode cX6_copy 15 = .ok (.ldc 44, 2) := by decide +kernel
theorem dX6_copy_17 : decode cX6_copy 17 = .ok (.invokevirtual 69, 3) := by decide +kernel
theorem dX6_copy_20 : decode cX6_copy 20 = .ok (.ireturn, 1) := by decide +kernel
theorem dX6_copy_21 : decode cX6_copy 21 = .ok (.aload_n 0, 1) := by decide +kernel
theorem dX6_copy_22 : decode cX6_copy 22 = .ok (.getfield 31, 3) := by decide +kernel
theorem dX6_copy_25 : decode cX6_copy 25 = .ok (.iload_n 1, 1) := by decide +kernel
theorem dX6_copy_26 : decode cX6_copy 26 = .ok (.iaload, 1) := by decide +kernel
theorem dX6_copy_27 : decode cX6_copy 27 = .ok (.ifCond .eq 12, 3) := by decide +kernel
theorem dX6_copy_30 : decode cX6_copy 30 = .ok (.aload_n 0, 1) := by decide +kernel
theorem dX6_copy_31 : decode cX6_copy 31 = .ok (.getfield 31, 3) := by decide +kernel
theorem dX6_copy_34 : decode cX6_copy 34 = .ok (.iload_n 3, 1) := by decide +kernel
theorem dX6_copy_35 : decode cX6_copy 35 = .ok (.iaload, 1) := by decide +kernel
theorem dX6_copy_36 : decode cX6_copy 36 = .ok (.ifCond .ne 11, 3) := by decide +kernel
theorem dX6_copy_39 : decode cX6_copy 39 = .ok (.aload_n 0, 1) := by decide +kernel
theorem dX6_copy_40 : decode cX6_copy 40 = .ok (.ldc_w 302, 3) := by decide +kernel
theorem dX6_copy_43 : decode cX6_copy 43 = .ok (.invokevirtual 69, 3) := by decide +kernel
theorem dX6_copy_46 : decode cX6_copy 46 = .ok (.ireturn, 1) := by decide +kernel
theorem dX6_copy_47 : decode cX6_copy 47 = .ok (.aload_n 0, 1) := by decide +kernel
theorem dX6_copy_48 : decode cX6_copy 48 = .ok (.getfield 31, 3) := by decide +kernel
theorem dX6_copy_51 : decode cX6_copy 51 = .ok (.iload_n 1, 1) := by decide +kernel
theorem dX6_copy_52 : decode cX6_copy 52 = .ok (.iaload, 1) := by decide +kernel
theorem dX6_copy_53 : decode cX6_copy 53 = .ok (.aload_n 0, 1) := by decide +kernel
theorem dX6_copy_54 : decode cX6_copy 54 = .ok (.getfield 31, 3) := by decide +kernel
theorem dX6_copy_57 : decode cX6_copy 57 = .ok (.iload_n 3, 1) := by decide +kernel
theorem dX6_copy_58 : decode cX6_copy 58 = .ok (.iaload, 1) := by decide +kernel
theorem dX6_copy_59 : decode cX6_copy 59 = .ok (.if_icmp .eq 10, 3) := by decide +kernel
theorem dX6_copy_62 : decode cX6_copy 62 = .ok (.aload_n 0, 1) := by decide +kernel
theorem dX6_copy_63 : decode cX6_copy 63 = .ok (.ldc 133, 2) := by decide +kernel
theorem dX6_copy_65 : decode cX6_copy 65 = .ok (.invokevirtual 69, 3) := by decide +kernel
theorem dX6_copy_68 : decode cX6_copy 68 = .ok (.ireturn, 1) := by decide +kernel
theorem dX6_copy_69 : decode cX6_copy 69 = .ok (.iload_n 2, 1) := by decide +kernel
theorem dX6_copy_70 : decode cX6_copy 70 = .ok (.ifCond .lt 40, 3) := by decide +kernel
theorem dX6_copy_73 : decode cX6_copy 73 = .ok (.iload 4, 2) := by decide +kernel
theorem dX6_copy_75 : decode cX6_copy 75 = .ok (.ifCond .lt 35, 3) := by decide +kernel
theorem dX6_copy_78 : decode cX6_copy 78 = .ok (.iload 5, 2) := by decide +kernel
theorem dX6_copy_80 : decode cX6_copy 80 = .ok (.ifCond .lt 30, 3) := by decide +kernel
theorem dX6_copy_83 : decode cX6_copy 83 = .ok (.iload 5, 2) := by decide +kernel
theorem dX6_copy_85 : decode cX6_copy 85 = .ok (.aload_n 0, 1) := by decide +kernel
theorem dX6_copy_86 : decode cX6_copy 86 = .ok (.getfield 34, 3) := by decide +kernel
theorem dX6_copy_89 : decode cX6_copy 89 = .ok (.iload_n 1, 1) := by decide +kernel
theorem dX6_copy_90 : decode cX6_copy 90 = .ok (.iaload, 1) := by decide +kernel
theorem dX6_copy_91 : decode cX6_copy 91 = .ok (.iload_n 2, 1) := by decide +kernel
theorem dX6_copy_92 : decode cX6_copy 92 = .ok (.isub, 1) := by decide +kernel
theorem dX6_copy_93 : decode cX6_copy 93 = .ok (.if_icmp .gt 17, 3) := by decide +kernel
theorem dX6_copy_96 : decode cX6_copy 96 = .ok (.iload 5, 2) := by decide +kernel
theorem dX6_copy_98 : decode cX6_copy 98 = .ok (.aload_n 0, 1) := by decide +kernel
theorem dX6_copy_99 : decode cX6_copy 99 = .ok (.getfield 34, 3) := by decide +kernel
theorem dX6_copy_102 : decode cX6_copy 102 = .ok (.iload_n 3, 1) := by decide +kernel
theorem dX6_copy_103 : decode cX6_copy 103 = .ok (.iaload, 1) := by decide +kernel
theorem dX6_copy_104 : decode cX6_copy 104 = .ok (.iload 4, 2) := by decide +kernel
theorem dX6_copy_106 : decode cX6_copy 106 = .ok (.isub, 1) := by decide +kernel
theorem dX6_copy_107 : decode cX6_copy 107 = .ok (.if_icmp .le 10, 3) := by decide +kernel
theorem dX6_copy_110 : decode cX6_copy 110 = .ok (.aload_n 0, 1) := by decide +kernel
theorem dX6_copy_111 : decode cX6_copy 111 = .ok (.ldc 44, 2) := by decide +kernel
theorem dX6_copy_113 : decode cX6_copy 113 = .ok (.invokevirtual 69, 3) := by decide +kernel
theorem dX6_copy_116 : decode cX6_copy 116 = .ok (.ireturn, 1) := by decide +kernel
theorem dX6_copy_117 : decode cX6_copy 117 = .ok (.iconst 0, 1) := by decide +kernel
theorem dX6_copy_118 : decode cX6_copy 118 = .ok (.istore 6, 2) := by decide +kernel
theorem dX6_copy_120 : decode cX6_copy 120 = .ok (.iload 6, 2) := by decide +kernel
theorem dX6_copy_122 : decode cX6_copy 122 = .ok (.iload 5, 2) := by decide +kernel
theorem dX6_copy_124 : decode cX6_copy 124 = .ok (.if_icmp .ge 30, 3) := by decide +kernel
theorem dX6_copy_127 : decode cX6_copy 127 = .ok (.aload_n 0, 1) := by decide +kernel
theorem dX6_copy_128 : decode cX6_copy 128 = .ok (.getfield 41, 3) := by decide +kernel
theorem dX6_copy_131 : decode cX6_copy 131 = .ok (.iload 6, 2) := by decide +kernel
theorem dX6_copy_133 : decode cX6_copy 133 = .ok (.aload_n 0, 1) := by decide +kernel
theorem dX6_copy_134 : decode cX6_copy 134 = .ok (.getfield 37, 3) := by decide +kernel
theorem dX6_copy_137 : decode cX6_copy 137 = .ok (.bipush 40, 2) := by decide +kernel
theorem dX6_copy_139 : decode cX6_copy 139 = .ok (.iload_n 1, 1) := by decide +kernel
theorem dX6_copy_140 : decode cX6_copy 140 = .ok (.imul, 1) := by decide +kernel
theorem dX6_copy_141 : decode cX6_copy 141 = .ok (.iload_n 2, 1) := by decide +kernel
theorem dX6_copy_142 : decode cX6_copy 142 = .ok (.iadd, 1) := by decide +kernel
theorem dX6_copy_143 : decode cX6_copy 143 = .ok (.iload 6, 2) := by decide +kernel
theorem dX6_copy_145 : decode cX6_copy 145 = .ok (.iadd, 1) := by decide +kernel
theorem dX6_copy_146 : decode cX6_copy 146 = .ok (.laload, 1) := by decide +kernel
theorem dX6_copy_147 : decode cX6_copy 147 = .ok (.lastore, 1) := by decide +kernel
theorem dX6_copy_148 : decode cX6_copy 148 = .ok (.iinc 6 1, 3) := by decide +kernel
theorem dX6_copy_151 : decode cX6_copy 151 = .ok (.goto (-31), 3) := by decide +kernel
theorem dX6_copy_154 : decode cX6_copy 154 = .ok (.iconst 0, 1) := by decide +kernel
theorem dX6_copy_155 : decode cX6_copy 155 = .ok (.istore 6, 2) := by decide +kernel
theorem dX6_copy_157 : decode cX6_copy 157 = .ok (.iload 6, 2) := by decide +kernel
theorem dX6_copy_159 : decode cX6_copy 159 = .ok (.iload 5, 2) := by decide +kernel
theorem dX6_copy_161 : decode cX6_copy 161 = .ok (.if_icmp .ge 31, 3) := by decide +kernel
theorem dX6_copy_164 : decode cX6_copy 164 = .ok (.aload_n 0, 1) := by decide +kernel
theorem dX6_copy_165 : decode cX6_copy 165 = .ok (.getfield 37, 3) := by decide +kernel
theorem dX6_copy_168 : decode cX6_copy 168 = .ok (.bipush 40, 2) := by decide +kernel
theorem dX6_copy_170 : decode cX6_copy 170 = .ok (.iload_n 3, 1) := by decide +kernel
theorem dX6_copy_171 : decode cX6_copy 171 = .ok (.imul, 1) := by decide +kernel
theorem dX6_copy_172 : decode cX6_copy 172 = .ok (.iload 4, 2) := by decide +kernel
theorem dX6_copy_174 : decode cX6_copy 174 = .ok (.iadd, 1) := by decide +kernel
theorem dX6_copy_175 : decode cX6_copy 175 = .ok (.iload 6, 2) := by decide +kernel
theorem dX6_copy_177 : decode cX6_copy 177 = .ok (.iadd, 1) := by decide +kernel
theorem dX6_copy_178 : decode cX6_copy 178 = .ok (.aload_n 0, 1) := by decide +kernel
theorem dX6_copy_179 : decode cX6_copy 179 = .ok (.getfield 41, 3) := by decide +kernel
theorem dX6_copy_182 : decode cX6_copy 182 = .ok (.iload 6, 2) := by decide +kernel
theorem dX6_copy_184 : decode cX6_copy 184 = .ok (.laload, 1) := by decide +kernel
theorem dX6_copy_185 : decode cX6_copy 185 = .ok (.lastore, 1) := by decide +kernel
theorem dX6_copy_186 : decode cX6_copy 186 = .ok (.iinc 6 1, 3) := by decide +kernel
theorem dX6_copy_189 : decode cX6_copy 189 = .ok (.goto (-32), 3) := by decide +kernel
theorem dX6_copy_192 : decode cX6_copy 192 = .ok (.iload 5, 2) := by decide +kernel
theorem dX6_copy_194 : decode cX6_copy 194 = .ok (.ireturn, 1) := by decide +kernel
theorem dX6_lays_0 : decode cX6_lays 0 = .ok (.aload_n 0, 1) := by decide +kernel
theorem dX6_lays_1 : decode cX6_lays 1 = .ok (.iload_n 1, 1) := by decide +kernel
theorem dX6_lays_2 : decode cX6_lays 2 = .ok (.invokevirtual 303, 3) := by decide +kernel
theorem dX6_lays_5 : decode cX6_lays 5 = .ok (.istore_n 2, 1) := by decide +kernel
theorem dX6_lays_6 : decode cX6_lays 6 = .ok (.iload_n 2, 1) := by decide +kernel
theorem dX6_lays_7 : decode cX6_lays 7 = .ok (.ifCond .eq 9, 3) := by decide +kernel
theorem dX6_lays_10 : decode cX6_lays 10 = .ok (.aload_n 0, 1) := by decide +kernel
theorem dX6_lays_11 : decode cX6_lays 11 = .ok (.iload_n 2, 1) := by decide +kernel
theorem dX6_lays_12 : decode cX6_lays 12 = .ok (.invokevirtual 69, 3) := by decide +kernel
theorem dX6_lays_15 : decode cX6_lays 15 = .ok (.ireturn, 1) := by decide +kernel
theorem dX6_lays_16 : decode cX6_lays 16 = .ok (.iconst 0, 1) := by decide +kernel
theorem dX6_lays_17 : decode cX6_lays 17 = .ok (.istore_n 3, 1) := by decide +kernel
theorem dX6_lays_18 : decode cX6_lays 18 = .ok (.iconst 0, 1) := by decide +kernel
theorem dX6_lays_19 : decode cX6_lays 19 = .ok (.istore 4, 2) := by decide +kernel
theorem dX6_lays_21 : decode cX6_lays 21 = .ok (.iload 4, 2) := by decide +kernel
theorem dX6_lays_23 : decode cX6_lays 23 = .ok (.aload_n 0, 1) := by decide +kernel
theorem dX6_lays_24 : decode cX6_lays 24 = .ok (.getfield 34, 3) := by decide +kernel
theorem dX6_lays_27 : decode cX6_lays 27 = .ok (.iload_n 1, 1) := by decide +kernel
theorem dX6_lays_28 : decode cX6_lays 28 = .ok (.iaload, 1) := by decide +kernel
theorem dX6_lays_29 : decode cX6_lays 29 = .ok (.if_icmp .ge 61, 3) := by decide +kernel
theorem dX6_lays_32 : decode cX6_lays 32 = .ok (.iload 4, 2) := by decide +kernel
theorem dX6_lays_34 : decode cX6_lays 34 = .ok (.aload_n 0, 1) := by decide +kernel
theorem dX6_lays_35 : decode cX6_lays 35 = .ok (.getfield 7, 3) := by decide +kernel
theorem dX6_lays_38 : decode cX6_lays 38 = .ok (.iconst 0, 1) := by decide +kernel
theorem dX6_lays_39 : decode cX6_lays 39 = .ok (.iaload, 1) := by decide +kernel
theorem dX6_lays_40 : decode cX6_lays 40 = .ok (.if_icmp .ge 50, 3) := by decide +kernel
theorem dX6_lays_43 : decode cX6_lays 43 = .ok (.aload_n 0, 1) := by decide +kernel
theorem dX6_lays_44 : decode cX6_lays 44 = .ok (.getfield 37, 3) := by decide +kernel
theorem dX6_lays_47 : decode cX6_lays 47 = .ok (.bipush 40, 2) := by decide +kernel
theorem dX6_lays_49 : decode cX6_lays 49 = .ok (.iload_n 1, 1) := by decide +kernel
theorem dX6_lays_50 : decode cX6_lays 50 = .ok (.imul, 1) := by decide +kernel
theorem dX6_lays_51 : decode cX6_lays 51 = .ok (.iload 4, 2) := by decide +kernel
theorem dX6_lays_53 : decode cX6_lays 53 = .ok (.iadd, 1) := by decide +kernel
theorem dX6_lays_54 : decode cX6_lays 54 = .ok (.laload, 1) := by decide +kernel
theorem dX6_lays_55 : decode cX6_lays 55 = .ok (.lstore 5, 2) := by decide +kernel
theorem dX6_lays_57 : decode cX6_lays 57 = .ok (.lload 5, 2) := by decide +kernel
theorem dX6_lays_59 : decode cX6_lays 59 = .ok (.lconst 0, 1) := by decide +kernel
theorem dX6_lays_60 : decode cX6_lays 60 = .ok (.ldc2_w 67, 3) := by decide +kernel
theorem dX6_lays_63 : decode cX6_lays 63 = .ok (.invokestatic 45, 3) := by decide +kernel
theorem dX6_lays_66 : decode cX6_lays 66 = .ok (.ifCond .eq 18, 3) := by decide +kernel
theorem dX6_lays_69 : decode cX6_lays 69 = .ok (.aload_n 0, 1) := by decide +kernel
theorem dX6_lays_70 : decode cX6_lays 70 = .ok (.getfield 7, 3) := by decide +kernel
theorem dX6_lays_73 : decode cX6_lays 73 = .ok (.iconst 2, 1) := by decide +kernel
theorem dX6_lays_74 : decode cX6_lays 74 = .ok (.iload 4, 2) := by decide +kernel
theorem dX6_lays_76 : decode cX6_lays 76 = .ok (.iadd, 1) := by decide +kernel
theorem dX6_lays_77 : decode cX6_lays 77 = .ok (.lload 5, 2) := by decide +kernel
theorem dX6_lays_79 : decode cX6_lays 79 = .ok (.l2i, 1) := by decide +kernel
theorem dX6_lays_80 : decode cX6_lays 80 = .ok (.iastore, 1) := by decide +kernel
theorem dX6_lays_81 : decode cX6_lays 81 = .ok (.iinc 3 1, 3) := by decide +kernel
theorem dX6_lays_84 : decode cX6_lays 84 = .ok (.iinc 4 1, 3) := by decide +kernel
theorem dX6_lays_87 : decode cX6_lays 87 = .ok (.goto (-66), 3) := by decide +kernel
theorem dX6_lays_90 : decode cX6_lays 90 = .ok (.iload_n 3, 1) := by decide +kernel
theorem dX6_lays_91 : decode cX6_lays 91 = .ok (.ireturn, 1) := by decide +kernel
theorem dX6_wrongBook_0 : decode cX6_wrongBook 0 = .ok (.aload_n 0, 1) := by decide +kernel
theorem dX6_wrongBook_1 : decode cX6_wrongBook 1 = .ok (.iload_n 1, 1) := by decide +kernel
theorem dX6_wrongBook_2 : decode cX6_wrongBook 2 = .ok (.invokevirtual 303, 3) := by decide +kernel
theorem dX6_wrongBook_5 : decode cX6_wrongBook 5 = .ok (.istore_n 3, 1) := by decide +kernel
theorem dX6_wrongBook_6 : decode cX6_wrongBook 6 = .ok (.iload_n 3, 1) := by decide +kernel
theorem dX6_wrongBook_7 : decode cX6_wrongBook 7 = .ok (.ifCond .eq 7, 3) := by decide +kernel
theorem dX6_wrongBook_10 : decode cX6_wrongBook 10 = .ok (.iload_n 3, 1) := by decide +kernel
theorem dX6_wrongBook_11 : decode cX6_wrongBook 11 = .ok (.goto 17, 3) := by decide +kernel
theorem dX6_wrongBook_14 : decode cX6_wrongBook 14 = .ok (.aload_n 0, 1) := by decide +kernel
theorem dX6_wrongBook_15 : decode cX6_wrongBook 15 = .ok (.iload_n 2, 1) := by decide +kernel
theorem dX6_wrongBook_16 : decode cX6_wrongBook 16 = .ok (.invokevirtual 124, 3) := by decide +kernel
theorem dX6_wrongBook_19 : decode cX6_wrongBook 19 = .ok (.ifCond .eq 7, 3) := by decide +kernel
theorem dX6_wrongBook_22 : decode cX6_wrongBook 22 = .ok (.iconst 0, 1) := by decide +kernel
theorem dX6_wrongBook_23 : decode cX6_wrongBook 23 = .ok (.goto 5, 3) := by decide +kernel
theorem dX6_wrongBook_26 : decode cX6_wrongBook 26 = .ok (.ldc 44, 2) := by decide +kernel
theorem dX6_wrongBook_28 : decode cX6_wrongBook 28 = .ok (.ireturn, 1) := by decide +kernel
theorem dX6_book_0 : decode cX6_book 0 = .ok (.aload_n 0, 1) := by decide +kernel
theorem dX6_book_1 : decode cX6_book 1 = .ok (.iload_n 1, 1) := by decide +kernel
theorem dX6_book_2 : decode cX6_book 2 = .ok (.iload_n 2, 1) := by decide +kernel
theorem dX6_book_3 : decode cX6_book 3 = .ok (.invokevirtual 310, 3) := by decide +kernel
theorem dX6_book_6 : decode cX6_book 6 = .ok (.istore_n 3, 1) := by decide +kernel
theorem dX6_book_7 : decode cX6_book 7 = .ok (.iload_n 3, 1) := by decide +kernel
theorem dX6_book_8 : decode cX6_book 8 = .ok (.ifCond .eq 9, 3) := by decide +kernel
theorem dX6_book_11 : decode cX6_book 11 = .ok (.aload_n 0, 1) := by decide +kernel
theorem dX6_book_12 : decode cX6_book 12 = .ok (.iload_n 3, 1) := by decide +kernel
theorem dX6_book_13 : decode cX6_book 13 = .ok (.invokevirtual 69, 3) := by decide +kernel
theorem dX6_book_16 : decode cX6_book 16 = .ok (.ireturn, 1) := by decide +kernel
theorem dX6_book_17 : decode cX6_book 17 = .ok (.aload_n 0, 1) := by decide +kernel
theorem dX6_book_18 : decode cX6_book 18 = .ok (.invokevirtual 146, 3) := by decide +kernel
theorem dX6_book_21 : decode cX6_book 21 = .ok (.iconst 0, 1) := by decide +kernel
theorem dX6_book_22 : decode cX6_book 22 = .ok (.istore 4, 2) := by decide +kernel
theorem dX6_book_24 : decode cX6_book 24 = .ok (.iload 4, 2) := by decide +kernel
theorem dX6_book_26 : decode cX6_book 26 = .ok (.aload_n 0, 1) := by decide +kernel
theorem dX6_book_27 : decode cX6_book 27 = .ok (.getfield 34, 3) := by decide +kernel
theorem dX6_book_30 : decode cX6_book 30 = .ok (.iload_n 1, 1) := by decide +kernel
theorem dX6_book_31 : decode cX6_book 31 = .ok (.iaload, 1) := by decide +kernel
theorem dX6_book_32 : decode cX6_book 32 = .ok (.if_icmp .ge 33, 3) := by decide +kernel
theorem dX6_book_35 : decode cX6_book 35 = .ok (.aload_n 0, 1) := by decide +kernel
theorem dX6_book_36 : decode cX6_book 36 = .ok (.getfield 37, 3) := by decide +kernel
theorem dX6_book_39 : decode cX6_book 39 = .ok (.bipush 40, 2) := by decide +kernel
theorem dX6_book_41 : decode cX6_book 41 = .ok (.iload_n 1, 1) := by decide +kernel
theorem dX6_book_42 : decode cX6_book 42 = .ok (.imul, 1) := by decide +kernel
theorem dX6_book_43 : decode cX6_book 43 = .ok (.iload 4, 2) := by decide +kernel
theorem dX6_book_45 : decode cX6_book 45 = .ok (.iadd, 1) := by decide +kernel
theorem dX6_book_46 : decode cX6_book 46 = .ok (.aload_n 0, 1) := by decide +kernel
theorem dX6_book_47 : decode cX6_book 47 = .ok (.iload_n 2, 1) := by decide +kernel
theorem dX6_book_48 : decode cX6_book 48 = .ok (.iconst 1, 1) := by decide +kernel
theorem dX6_book_49 : decode cX6_book 49 = .ok (.invokevirtual 64, 3) := by decide +kernel
theorem dX6_book_52 : decode cX6_book 52 = .ok (.i2l, 1) := by decide +kernel
theorem dX6_book_53 : decode cX6_book 53 = .ok (.lastore, 1) := by decide +kernel
theorem dX6_book_54 : decode cX6_book 54 = .ok (.aload_n 0, 1) := by decide +kernel
theorem dX6_book_55 : decode cX6_book 55 = .ok (.iload_n 2, 1) := by decide +kernel
theorem dX6_book_56 : decode cX6_book 56 = .ok (.invokevirtual 134, 3) := by decide +kernel
theorem dX6_book_59 : decode cX6_book 59 = .ok (.iinc 4 1, 3) := by decide +kernel
theorem dX6_book_62 : decode cX6_book 62 = .ok (.goto (-38), 3) := by decide +kernel
theorem dX6_book_65 : decode cX6_book 65 = .ok (.aload_n 0, 1) := by decide +kernel
theorem dX6_book_66 : decode cX6_book 66 = .ok (.aload_n 0, 1) := by decide +kernel
theorem dX6_book_67 : decode cX6_book 67 = .ok (.getfield 34, 3) := by decide +kernel
theorem dX6_book_70 : decode cX6_book 70 = .ok (.iload_n 1, 1) := by decide +kernel
theorem dX6_book_71 : decode cX6_book 71 = .ok (.iaload, 1) := by decide +kernel
theorem dX6_book_72 : decode cX6_book 72 = .ok (.invokevirtual 149, 3) := by decide +kernel
theorem dX6_book_75 : decode cX6_book 75 = .ok (.ireturn, 1) := by decide +kernel
theorem dX6_isSo_0 : decode cX6_isSo 0 = .ok (.iconst 1, 1) := by decide +kernel
theorem dX6_isSo_1 : decode cX6_isSo 1 = .ok (.istore_n 3, 1) := by decide +kernel
theorem dX6_isSo_2 : decode cX6_isSo 2 = .ok (.iconst 0, 1) := by decide +kernel
theorem dX6_isSo_3 : decode cX6_isSo 3 = .ok (.istore 4, 2) := by decide +kernel
theorem dX6_isSo_5 : decode cX6_isSo 5 = .ok (.iload 4, 2) := by decide +kernel
theorem dX6_isSo_7 : decode cX6_isSo 7 = .ok (.aload_n 0, 1) := by decide +kernel
theorem dX6_isSo_8 : decode cX6_isSo 8 = .ok (.getfield 34, 3) := by decide +kernel
theorem dX6_isSo_11 : decode cX6_isSo 11 = .ok (.iload_n 1, 1) := by decide +kernel
theorem dX6_isSo_12 : decode cX6_isSo 12 = .ok (.iaload, 1) := by decide +kernel
theorem dX6_isSo_13 : decode cX6_isSo 13 = .ok (.if_icmp .ge 47, 3) := by decide +kernel
theorem dX6_isSo_16 : decode cX6_isSo 16 = .ok (.iload_n 3, 1) := by decide +kernel
theorem dX6_isSo_17 : decode cX6_isSo 17 = .ok (.ifCond .eq 43, 3) := by decide +kernel
theorem dX6_isSo_20 : decode cX6_isSo 20 = .ok (.aload_n 0, 1) := by decide +kernel
theorem dX6_isSo_21 : decode cX6_isSo 21 = .ok (.getfield 37, 3) := by decide +kernel
theorem dX6_isSo_24 : decode cX6_isSo 24 = .ok (.bipush 40, 2) := by decide +kernel
theorem dX6_isSo_26 : decode cX6_isSo 26 = .ok (.iload_n 1, 1) := by decide +kernel
theorem dX6_isSo_27 : decode cX6_isSo 27 = .ok (.imul, 1) := by decide +kernel
theorem dX6_isSo_28 : decode cX6_isSo 28 = .ok (.iload 4, 2) := by decide +kernel
theorem dX6_isSo_30 : decode cX6_isSo 30 = .ok (.iadd, 1) := by decide +kernel
theorem dX6_isSo_31 : decode cX6_isSo 31 = .ok (.laload, 1) := by decide +kernel
theorem dX6_isSo_32 : decode cX6_isSo 32 = .ok (.aload_n 0, 1) := by decide +kernel
theorem dX6_isSo_33 : decode cX6_isSo 33 = .ok (.iload_n 2, 1) := by decide +kernel
theorem dX6_isSo_34 : decode cX6_isSo 34 = .ok (.iconst 1, 1) := by decide +kernel
theorem dX6_isSo_35 : decode cX6_isSo 35 = .ok (.invokevirtual 64, 3) := by decide +kernel
theorem dX6_isSo_38 : decode cX6_isSo 38 = .ok (.i2l, 1) := by decide +kernel
theorem dX6_isSo_39 : decode cX6_isSo 39 = .ok (.lcmp, 1) := by decide +kernel
theorem dX6_isSo_40 : decode cX6_isSo 40 = .ok (.ifCond .ne 7, 3) := by decide +kernel
theorem dX6_isSo_43 : decode cX6_isSo 43 = .ok (.iconst 1, 1) := by decide +kernel
theorem dX6_isSo_44 : decode cX6_isSo 44 = .ok (.goto 4, 3) := by decide +kernel
theorem dX6_isSo_47 : decode cX6_isSo 47 = .ok (.iconst 0, 1) := by decide +kernel
theorem dX6_isSo_48 : decode cX6_isSo 48 = .ok (.istore_n 3, 1) := by decide +kernel
theorem dX6_isSo_49 : decode cX6_isSo 49 = .ok (.aload_n 0, 1) := by decide +kernel
theorem dX6_isSo_50 : decode cX6_isSo 50 = .ok (.iload_n 2, 1) := by decide +kernel
theorem dX6_isSo_51 : decode cX6_isSo 51 = .ok (.invokevirtual 134, 3) := by decide +kernel
theorem dX6_isSo_54 : decode cX6_isSo 54 = .ok (.iinc 4 1, 3) := by decide +kernel
theorem dX6_isSo_57 : decode cX6_isSo 57 = .ok (.goto (-52), 3) := by decide +kernel
theorem dX6_isSo_60 : decode cX6_isSo 60 = .ok (.iload_n 3, 1) := by decide +kernel
theorem dX6_isSo_61 : decode cX6_isSo 61 = .ok (.ifCond .eq 7, 3) := by decide +kernel
theorem dX6_isSo_64 : decode cX6_isSo 64 = .ok (.iconst 1, 1) := by decide +kernel
theorem dX6_isSo_65 : decode cX6_isSo 65 = .ok (.goto 4, 3) := by decide +kernel
theorem dX6_isSo_68 : decode cX6_isSo 68 = .ok (.iconst 0, 1) := by decide +kernel
theorem dX6_isSo_69 : decode cX6_isSo 69 = .ok (.ireturn, 1) := by decide +kernel
theorem dX6_read_0 : decode cX6_read 0 = .ok (.aload_n 0, 1) := by decide +kernel
theorem dX6_read_1 : decode cX6_read 1 = .ok (.iload_n 1, 1) := by decide +kernel
theorem dX6_read_2 : decode cX6_read 2 = .ok (.iload_n 2, 1) := by decide +kernel
theorem dX6_read_3 : decode cX6_read 3 = .ok (.invokevirtual 310, 3) := by decide +kernel
theorem dX6_read_6 : decode cX6_read 6 = .ok (.istore_n 3, 1) := by decide +kernel
theorem dX6_read_7 : decode cX6_read 7 = .ok (.iload_n 3, 1) := by decide +kernel
theorem dX6_read_8 : decode cX6_read 8 = .ok (.ifCond .eq 9, 3) := by decide +kernel
theorem dX6_read_11 : decode cX6_read 11 = .ok (.aload_n 0, 1) := by decide +kernel
theorem dX6_read_12 : decode cX6_read 12 = .ok (.iload_n 3, 1) := by decide +kernel
theorem dX6_read_13 : decode cX6_read 13 = .ok (.invokevirtual 69, 3) := by decide +kernel
theorem dX6_read_16 : decode cX6_read 16 = .ok (.ireturn, 1) := by decide +kernel
theorem dX6_read_17 : decode cX6_read 17 = .ok (.aload_n 0, 1) := by decide +kernel
theorem dX6_read_18 : decode cX6_read 18 = .ok (.invokevirtual 146, 3) := by decide +kernel
theorem dX6_read_21 : decode cX6_read 21 = .ok (.iconst 0, 1) := by decide +kernel
theorem dX6_read_22 : decode cX6_read 22 = .ok (.istore 4, 2) := by decide +kernel
theorem dX6_read_24 : decode cX6_read 24 = .ok (.iconst 0, 1) := by decide +kernel
theorem dX6_read_25 : decode cX6_read 25 = .ok (.istore 5, 2) := by decide +kernel
theorem dX6_read_27 : decode cX6_read 27 = .ok (.iload 5, 2) := by decide +kernel
theorem dX6_read_29 : decode cX6_read 29 = .ok (.iconst 4, 1) := by decide +kernel
theorem dX6_read_30 : decode cX6_read 30 = .ok (.aload_n 0, 1) := by decide +kernel
theorem dX6_read_31 : decode cX6_read 31 = .ok (.getfield 7, 3) := by decide +kernel
theorem dX6_read_34 : decode cX6_read 34 = .ok (.iconst 0, 1) := by decide +kernel
theorem dX6_read_35 : decode cX6_read 35 = .ok (.iaload, 1) := by decide +kernel
theorem dX6_read_36 : decode cX6_read 36 = .ok (.imul, 1) := by decide +kernel
theorem dX6_read_37 : decode cX6_read 37 = .ok (.if_icmp .ge 31, 3) := by decide +kernel
theorem dX6_read_40 : decode cX6_read 40 = .ok (.aload_n 0, 1) := by decide +kernel
theorem dX6_read_41 : decode cX6_read 41 = .ok (.iload_n 2, 1) := by decide +kernel
theorem dX6_read_42 : decode cX6_read 42 = .ok (.iload 5, 2) := by decide +kernel
theorem dX6_read_44 : decode cX6_read 44 = .ok (.invokevirtual 127, 3) := by decide +kernel
theorem dX6_read_47 : decode cX6_read 47 = .ok (.iload 4, 2) := by decide +kernel
theorem dX6_read_49 : decode cX6_read 49 = .ok (.aload_n 0, 1) := by decide +kernel
theorem dX6_read_50 : decode cX6_read 50 = .ok (.aload_n 0, 1) := by decide +kernel
theorem dX6_read_51 : decode cX6_read 51 = .ok (.iload_n 1, 1) := by decide +kernel
theorem dX6_read_52 : decode cX6_read 52 = .ok (.iload_n 2, 1) := by decide +kernel
theorem dX6_read_53 : decode cX6_read 53 = .ok (.invokevirtual 313, 3) := by decide +kernel
theorem dX6_read_56 : decode cX6_read 56 = .ok (.invokevirtual 149, 3) := by decide +kernel
theorem dX6_read_59 : decode cX6_read 59 = .ok (.iadd, 1) := by decide +kernel
theorem dX6_read_60 : decode cX6_read 60 = .ok (.istore 4, 2) := by decide +kernel
theorem dX6_read_62 : decode cX6_read 62 = .ok (.iinc 5 1, 3) := by decide +kernel
theorem dX6_read_65 : decode cX6_read 65 = .ok (.goto (-38), 3) := by decide +kernel
theorem dX6_read_68 : decode cX6_read 68 = .ok (.iload 4, 2) := by decide +kernel
theorem dX6_read_70 : decode cX6_read 70 = .ok (.ireturn, 1) := by decide +kernel
theorem dX6_image_0 : decode cX6_image 0 = .ok (.iconst 0, 1) := by decide +kernel
theorem dX6_image_1 : decode cX6_image 1 = .ok (.istore_n 1, 1) := by decide +kernel
theorem dX6_image_2 : decode cX6_image 2 = .ok (.iload_n 1, 1) := by decide +kernel
theorem dX6_image_3 : decode cX6_image 3 = .ok (.bipush 112, 2) := by decide +kernel
theorem dX6_image_5 : decode cX6_image 5 = .ok (.if_icmp .ge 21, 3) := by decide +kernel
theorem dX6_image_8 : decode cX6_image 8 = .ok (.aload_n 0, 1) := by decide +kernel
theorem dX6_image_9 : decode cX6_image 9 = .ok (.getfield 13, 3) := by decide +kernel
theorem dX6_image_12 : decode cX6_image 12 = .ok (.iload_n 1, 1) := by decide +kernel
theorem dX6_image_13 : decode cX6_image 13 = .ok (.aload_n 0, 1) := by decide +kernel
theorem dX6_image_14 : decode cX6_image 14 = .ok (.getfield 7, 3) := by decide +kernel
theorem dX6_image_17 : decode cX6_image 17 = .ok (.iload_n 1, 1) := by decide +kernel
theorem dX6_image_18 : decode cX6_image 18 = .ok (.iaload, 1) := by decide +kernel
theorem dX6_image_19 : decode cX6_image 19 = .ok (.iastore, 1) := by decide +kernel
theorem dX6_image_20 : decode cX6_image 20 = .ok (.iinc 1 1, 3) := by decide +kernel
theorem dX6_image_23 : decode cX6_image 23 = .ok (.goto (-21), 3) := by decide +kernel
theorem dX6_image_26 : decode cX6_image 26 = .ok (.aload_n 0, 1) := by decide +kernel
theorem dX6_image_27 : decode cX6_image 27 = .ok (.iconst 1, 1) := by decide +kernel
theorem dX6_image_28 : decode cX6_image 28 = .ok (.putfield 316, 3) := by decide +kernel
theorem dX6_image_31 : decode cX6_image 31 = .ok (.iconst 1, 1) := by decide +kernel
theorem dX6_image_32 : decode cX6_image 32 = .ok (.ireturn, 1) := by decide +kernel
theorem dX6_undo_0 : decode cX6_undo 0 = .ok (.aload_n 0, 1) := by decide +kernel
theorem dX6_undo_1 : decode cX6_undo 1 = .ok (.getfield 316, 3) := by decide +kernel
theorem dX6_undo_4 : decode cX6_undo 4 = .ok (.ifCond .ne 10, 3) := by decide +kernel
theorem dX6_undo_7 : decode cX6_undo 7 = .ok (.aload_n 0, 1) := by decide +kernel
theorem dX6_undo_8 : decode cX6_undo 8 = .ok (.ldc 101, 2) := by decide +kernel
theorem dX6_undo_10 : decode cX6_undo 10 = .ok (.invokevirtual 69, 3) := by decide +kernel
theorem dX6_undo_13 : decode cX6_undo 13 = .ok (.ireturn, 1) := by decide +kernel
theorem dX6_undo_14 : decode cX6_undo 14 = .ok (.iconst 0, 1) := by decide +kernel
theorem dX6_undo_15 : decode cX6_undo 15 = .ok (.istore_n 1, 1) := by decide +kernel
theorem dX6_undo_16 : decode cX6_undo 16 = .ok (.iload_n 1, 1) := by decide +kernel
theorem dX6_undo_17 : decode cX6_undo 17 = .ok (.bipush 112, 2) := by decide +kernel
theorem dX6_undo_19 : decode cX6_undo 19 = .ok (.if_icmp .ge 21, 3) := by decide +kernel
theorem dX6_undo_22 : decode cX6_undo 22 = .ok (.aload_n 0, 1) := by decide +kernel
theorem dX6_undo_23 : decode cX6_undo 23 = .ok (.getfield 7, 3) := by decide +kernel
theorem dX6_undo_26 : decode cX6_undo 26 = .ok (.iload_n 1, 1) := by decide +kernel
theorem dX6_undo_27 : decode cX6_undo 27 = .ok (.aload_n 0, 1) := by decide +kernel
theorem dX6_undo_28 : decode cX6_undo 28 = .ok (.getfield 13, 3) := by decide +kernel
theorem dX6_undo_31 : decode cX6_undo 31 = .ok (.iload_n 1, 1) := by decide +kernel
theorem dX6_undo_32 : decode cX6_undo 32 = .ok (.iaload, 1) := by decide +kernel
theorem dX6_undo_33 : decode cX6_undo 33 = .ok (.iastore, 1) := by decide +kernel
theorem dX6_undo_34 : decode cX6_undo 34 = .ok (.iinc 1 1, 3) := by decide +kernel
theorem dX6_undo_37 : decode cX6_undo 37 = .ok (.goto (-21), 3) := by decide +kernel
theorem dX6_undo_40 : decode cX6_undo 40 = .ok (.aload_n 0, 1) := by decide +kernel
theorem dX6_undo_41 : decode cX6_undo 41 = .ok (.getfield 7, 3) := by decide +kernel
theorem dX6_undo_44 : decode cX6_undo 44 = .ok (.iconst 0, 1) := by decide +kernel
theorem dX6_undo_45 : decode cX6_undo 45 = .ok (.iaload, 1) := by decide +kernel
theorem dX6_undo_46 : decode cX6_undo 46 = .ok (.ireturn, 1) := by decide +kernel
theorem dX6_tear_0 : decode cX6_tear 0 = .ok (.aload_n 0, 1) := by decide +kernel
theorem dX6_tear_1 : decode cX6_tear 1 = .ok (.getfield 316, 3) := by decide +kernel
theorem dX6_tear_4 : decode cX6_tear 4 = .ok (.ifCond .eq 7, 3) := by decide +kernel
theorem dX6_tear_7 : decode cX6_tear 7 = .ok (.iconst 1, 1) := by decide +kernel
theorem dX6_tear_8 : decode cX6_tear 8 = .ok (.goto 4, 3) := by decide +kernel
theorem dX6_tear_11 : decode cX6_tear 11 = .ok (.iconst 0, 1) := by decide +kernel
theorem dX6_tear_12 : decode cX6_tear 12 = .ok (.istore_n 1, 1) := by decide +kernel
theorem dX6_tear_13 : decode cX6_tear 13 = .ok (.aload_n 0, 1) := by decide +kernel
theorem dX6_tear_14 : decode cX6_tear 14 = .ok (.iconst 0, 1) := by decide +kernel
theorem dX6_tear_15 : decode cX6_tear 15 = .ok (.putfield 316, 3) := by decide +kernel
theorem dX6_tear_18 : decode cX6_tear 18 = .ok (.iload_n 1, 1) := by decide +kernel
theorem dX6_tear_19 : decode cX6_tear 19 = .ok (.ireturn, 1) := by decide +kernel
theorem dX6_gluedSides_0 : decode cX6_gluedSides 0 = .ok (.iconst 0, 1) := by decide +kernel
theorem dX6_gluedSides_1 : decode cX6_gluedSides 1 = .ok (.istore_n 1, 1) := by decide +kernel
theorem dX6_gluedSides_2 : decode cX6_gluedSides 2 = .ok (.iconst 0, 1) := by decide +kernel
theorem dX6_gluedSides_3 : decode cX6_gluedSides 3 = .ok (.istore_n 2, 1) := by decide +kernel
theorem dX6_gluedSides_4 : decode cX6_gluedSides 4 = .ok (.iload_n 2, 1) := by decide +kernel
theorem dX6_gluedSides_5 : decode cX6_gluedSides 5 = .ok (.bipush 64, 2) := by decide +kernel
theorem dX6_gluedSides_7 : decode cX6_gluedSides 7 = .ok (.if_icmp .ge 29, 3) := by decide +kernel
theorem dX6_gluedSides_10 : decode cX6_gluedSides 10 = .ok (.iload_n 1, 1) := by decide +kernel
theorem dX6_gluedSides_11 : decode cX6_gluedSides 11 = .ok (.aload_n 0, 1) := by decide +kernel
theorem dX6_gluedSides_12 : decode cX6_gluedSides 12 = .ok (.getfield 7, 3) := by decide +kernel
theorem dX6_gluedSides_15 : decode cX6_gluedSides 15 = .ok (.bipush 18, 2) := by decide +kernel
theorem dX6_gluedSides_17 : decode cX6_gluedSides 17 = .ok (.iload_n 2, 1) := by decide +kernel
theorem dX6_gluedSides_18 : decode cX6_gluedSides 18 = .ok (.iadd, 1) := by decide +kernel
theorem dX6_gluedSides_19 : decode cX6_gluedSides 19 = .ok (.iaload, 1) := by decide +kernel
theorem dX6_gluedSides_20 : decode cX6_gluedSides 20 = .ok (.ifCond .le 7, 3) := by decide +kernel
theorem dX6_gluedSides_23 : decode cX6_gluedSides 23 = .ok (.iconst 1, 1) := by decide +kernel
theorem dX6_gluedSides_24 : decode cX6_gluedSides 24 = .ok (.goto 4, 3) := by decide +kernel
theorem dX6_gluedSides_27 : decode cX6_gluedSides 27 = .ok (.iconst 0, 1) := by decide +kernel
theorem dX6_gluedSides_28 : decode cX6_gluedSides 28 = .ok (.iadd, 1) := by decide +kernel
theorem dX6_gluedSides_29 : decode cX6_gluedSides 29 = .ok (.istore_n 1, 1) := by decide +kernel
theorem dX6_gluedSides_30 : decode cX6_gluedSides 30 = .ok (.iinc 2 1, 3) := by decide +kernel
theorem dX6_gluedSides_33 : decode cX6_gluedSides 33 = .ok (.goto (-29), 3) := by decide +kernel
theorem dX6_gluedSides_36 : decode cX6_gluedSides 36 = .ok (.iload_n 1, 1) := by decide +kernel
theorem dX6_gluedSides_37 : decode cX6_gluedSides 37 = .ok (.ireturn, 1) := by decide +kernel
theorem dX6_count_0 : decode cX6_count 0 = .ok (.iload_n 1, 1) := by decide +kernel
theorem dX6_count_1 : decode cX6_count 1 = .ok (.tableswitch 64 0 4 #[35, 42, 49, 54, 59], 35) := by decide +kernel
theorem dX6_count_36 : decode cX6_count 36 = .ok (.aload_n 0, 1) := by decide +kernel
theorem dX6_count_37 : decode cX6_count 37 = .ok (.getfield 7, 3) := by decide +kernel
theorem dX6_count_40 : decode cX6_count 40 = .ok (.iconst 0, 1) := by decide +kernel
theorem dX6_count_41 : decode cX6_count 41 = .ok (.iaload, 1) := by decide +kernel
theorem dX6_count_42 : decode cX6_count 42 = .ok (.ireturn, 1) := by decide +kernel
theorem dX6_count_43 : decode cX6_count 43 = .ok (.aload_n 0, 1) := by decide +kernel
theorem dX6_count_44 : decode cX6_count 44 = .ok (.getfield 7, 3) := by decide +kernel
theorem dX6_count_47 : decode cX6_count 47 = .ok (.iconst 1, 1) := by decide +kernel
theorem dX6_count_48 : decode cX6_count 48 = .ok (.iaload, 1) := by decide +kernel
theorem dX6_count_49 : decode cX6_count 49 = .ok (.ireturn, 1) := by decide +kernel
theorem dX6_count_50 : decode cX6_count 50 = .ok (.aload_n 0, 1) := by decide +kernel
theorem dX6_count_51 : decode cX6_count 51 = .ok (.getfield 182, 3) := by decide +kernel
theorem dX6_count_54 : decode cX6_count 54 = .ok (.ireturn, 1) := by decide +kernel
theorem dX6_count_55 : decode cX6_count 55 = .ok (.aload_n 0, 1) := by decide +kernel
theorem dX6_count_56 : decode cX6_count 56 = .ok (.invokevirtual 319, 3) := by decide +kernel
theorem dX6_count_59 : decode cX6_count 59 = .ok (.ireturn, 1) := by decide +kernel
theorem dX6_count_60 : decode cX6_count 60 = .ok (.aload_n 0, 1) := by decide +kernel
theorem dX6_count_61 : decode cX6_count 61 = .ok (.invokevirtual 142, 3) := by decide +kernel
theorem dX6_count_64 : decode cX6_count 64 = .ok (.ireturn, 1) := by decide +kernel
theorem dX6_count_65 : decode cX6_count 65 = .ok (.aload_n 0, 1) := by decide +kernel
theorem dX6_count_66 : decode cX6_count 66 = .ok (.ldc 44, 2) := by decide +kernel
theorem dX6_count_68 : decode cX6_count 68 = .ok (.invokevirtual 69, 3) := by decide +kernel
theorem dX6_count_71 : decode cX6_count 71 = .ok (.ireturn, 1) := by decide +kernel
theorem dX6_status_0 : decode cX6_status 0 = .ok (.iload_n 1, 1) := by decide +kernel
theorem dX6_status_1 : decode cX6_status 1 = .ok (.i2l, 1) := by decide +kernel
theorem dX6_status_2 : decode cX6_status 2 = .ok (.ldc2_w 322, 3) := by decide +kernel
theorem dX6_status_5 : decode cX6_status 5 = .ok (.ldc2_w 324, 3) := by decide +kernel
theorem dX6_status_8 : decode cX6_status 8 = .ok (.invokestatic 45, 3) := by decide +kernel
theorem dX6_status_11 : decode cX6_status 11 = .ok (.ifCond .ne 10, 3) := by decide +kernel
theorem dX6_status_14 : decode cX6_status 14 = .ok (.aload_n 0, 1) := by decide +kernel
theorem dX6_status_15 : decode cX6_status 15 = .ok (.ldc 44, 2) := by decide +kernel
theorem dX6_status_17 : decode cX6_status 17 = .ok (.invokevirtual 69, 3) := by decide +kernel
theorem dX6_status_20 : decode cX6_status 20 = .ok (.ireturn, 1) := by decide +kernel
theorem dX6_status_21 : decode cX6_status 21 = .ok (.iconst 0, 1) := by decide +kernel
theorem dX6_status_22 : decode cX6_status 22 = .ok (.istore_n 2, 1) := by decide +kernel
theorem dX6_status_23 : decode cX6_status 23 = .ok (.iconst 0, 1) := by decide +kernel
theorem dX6_status_24 : decode cX6_status 24 = .ok (.istore_n 3, 1) := by decide +kernel
theorem dX6_status_25 : decode cX6_status 25 = .ok (.iload_n 3, 1) := by decide +kernel
theorem dX6_status_26 : decode cX6_status 26 = .ok (.bipush 7, 2) := by decide +kernel
theorem dX6_status_28 : decode cX6_status 28 = .ok (.if_icmp .ge 31, 3) := by decide +kernel
theorem dX6_status_31 : decode cX6_status 31 = .ok (.iload_n 2, 1) := by decide +kernel
theorem dX6_status_32 : decode cX6_status 32 = .ok (.iload_n 1, 1) := by decide +kernel
theorem dX6_status_33 : decode cX6_status 33 = .ok (.ifCond .lt 8, 3) := by decide +kernel
theorem dX6_status_36 : decode cX6_status 36 = .ok (.iload_n 3, 1) := by decide +kernel
theorem dX6_status_37 : decode cX6_status 37 = .ok (.iload_n 1, 1) := by decide +kernel
theorem dX6_status_38 : decode cX6_status 38 = .ok (.if_icmp .ne 12, 3) := by decide +kernel
theorem dX6_status_41 : decode cX6_status 41 = .ok (.aload_n 0, 1) := by decide +kernel
theorem dX6_status_42 : decode cX6_status 42 = .ok (.getfield 22, 3) := by decide +kernel
theorem dX6_status_45 : decode cX6_status 45 = .ok (.iload_n 3, 1) := by decide +kernel
theorem dX6_status_46 : decode cX6_status 46 = .ok (.iaload, 1) := by decide +kernel
theorem dX6_status_47 : decode cX6_status 47 = .ok (.goto 4, 3) := by decide +kernel
theorem dX6_status_50 : decode cX6_status 50 = .ok (.iconst 0, 1) := by decide +kernel
theorem dX6_status_51 : decode cX6_status 51 = .ok (.iadd, 1) := by decide +kernel
theorem dX6_status_52 : decode cX6_status 52 = .ok (.istore_n 2, 1) := by decide +kernel
theorem dX6_status_53 : decode cX6_status 53 = .ok (.iinc 3 1, 3) := by decide +kernel
theorem dX6_status_56 : decode cX6_status 56 = .ok (.goto (-31), 3) := by decide +kernel
theorem dX6_status_59 : decode cX6_status 59 = .ok (.iload_n 2, 1) := by decide +kernel
theorem dX6_status_60 : decode cX6_status 60 = .ok (.ireturn, 1) := by decide +kernel
end
section
/-! ===== THE WORLD: 61 cells that never move; their ints and longs are a memory ===== -/
abbrev Mem : Type := (Nat → Nat → Int32) × (Nat → Nat → Int64)
/-- launch, the classes' numbers, the cells' addresses (100.. strings, 130.. their bytes, 150 the formatter, 200 the script), the array classes -/
abbrev Wo : Type := Launch × va_G × (Nat → Nat) × (Nat → ClassId)
/-- a method: name, code, locals, what it returns -/
abbrev Mth : Type := MethodName × ByteArray × Nat × Option FieldType
def Tw : List Cond := lw_tbl.filter goodWord
/-- a cell's shape: (0, class, fields: none an int, some c the cell c), (1, n, _) ints, (2, n, _) longs, (3, n, cells) walkers, (4, n, cells) sheets -/
abbrev Shp : Type := Nat × Nat × List (Option Nat)
def sh_wk : Shp := (0, 4, [none, none, none, none])
def sh_gr (b : Nat) : List Shp := [(0, 0, [none, none, some (b + 1), some (b + 8), some (b + 9)]), (3, 6, [some (b + 2), some (b + 3), some (b + 4), some (b + 5), some (b + 6), some (b + 7)]), sh_wk, sh_wk, sh_wk, sh_wk, sh_wk, sh_wk, (1, 16, []), (1, 64, [])]
def sh_st (b : Nat) : List Shp := [(0, 1, [none, none, some (b + 1)]), (2, 40, [])]
def shL : List Shp :=
  [(0, 5, [some 1, some 11, some 21, some 31, some 32, some 33, some 34, some 35, some 36, some 38, some 39, some 48, none])] ++ sh_gr 1 ++ sh_gr 11 ++ sh_gr 21 ++
  [sh_wk, sh_wk, (1, 16, []), (1, 16, []), (1, 64, []), (0, 2, [none, none, none, none, none, some 37]), (1, 120, []), (0, 3, [some 36, some 1]), (4, 4, [some 40, some 42, some 44, some 46])] ++
  sh_st 40 ++ sh_st 42 ++ sh_st 44 ++ sh_st 46 ++ [(1, 7, [])] ++
  [(0, 6, [some 50, some 51, some 52, some 53, some 54, none, some 55, some 56, none, none, none, none, none, some 57, some 58, some 59, some 60]), (1, 112, []), (1, 112, []), (1, 112, []), (1, 112, []), (1, 7, []), (1, 64, []), (1, 120, []), (1, 4, []), (1, 4, []), (2, 160, []), (2, 40, [])]
def sh (c : Nat) : Shp := shL.getD c (9, 0, [])
theorem shL_len : shL.length = 61 := by decide +kernel
theorem sh_lt {c : Nat} {q : Shp} (h : sh c = q) (hq : q.1 ≠ 9) : c < 61 := by
  refine Nat.lt_of_not_le fun hc => hq ?_
  rw [← h, sh, List.getD_eq_getElem?_getD, List.getElem?_eq_none (by rw [shL_len]; exact hc)]
  rfl
def fvE (g : Wo) (M : Mem) (c k : Nat) : Option Nat → Value
  | none => Value.int (M.1 c k)
  | some r => Value.ref (g.2.2.1 r)
def fldE (g : Wo) (M : Mem) (c : Nat) (fs : List (Option Nat)) : List Value := fs.mapIdx (fun k o => fvE g M c k o)
def cellE (g : Wo) (M : Mem) (c : Nat) : va_E := match sh c with
  | (0, ci, fs) => .inr (ci, fldE g M c fs)
  | (1, n, _) => .inl (g.2.2.2 0, n, .inl (M.1 c))
  | (2, n, _) => .inl (g.2.2.2 1, n, .inr (.inl (M.2 c)))
  | (3, n, fs) => .inl (g.2.2.2 2, n, .inr (.inr (.inr (.inr (fun j => (fs.getD j none).map g.2.2.1)))))
  | (_, n, fs) => .inl (g.2.2.2 3, n, .inr (.inr (.inr (.inr (fun j => (fs.getD j none).map g.2.2.1)))))
theorem fvE_cg {g : Wo} {M M' : Mem} {c : Nat} (h : M'.1 c = M.1 c) (k : Nat) (o : Option Nat) : fvE g M' c k o = fvE g M c k o := by cases o <;> simp [fvE, h]
theorem cell0 {g : Wo} {M : Mem} {c ci : Nat} {fs : List (Option Nat)} (hs : sh c = (0, ci, fs)) : cellE g M c = .inr (ci, fldE g M c fs) := by simp only [cellE, hs]
theorem cell1 {g : Wo} {M : Mem} {c n : Nat} {fs : List (Option Nat)} (hs : sh c = (1, n, fs)) : cellE g M c = .inl (g.2.2.2 0, n, .inl (M.1 c)) := by simp only [cellE, hs]
theorem cell2 {g : Wo} {M : Mem} {c n : Nat} {fs : List (Option Nat)} (hs : sh c = (2, n, fs)) : cellE g M c = .inl (g.2.2.2 1, n, .inr (.inl (M.2 c))) := by simp only [cellE, hs]
theorem cell3 {g : Wo} {M : Mem} {c n : Nat} {fs : List (Option Nat)} (hs : sh c = (3, n, fs)) : cellE g M c = .inl (g.2.2.2 2, n, .inr (.inr (.inr (.inr (fun j => (fs.getD j none).map g.2.2.1))))) := by simp only [cellE, hs]
theorem cell4 {g : Wo} {M : Mem} {c n : Nat} {fs : List (Option Nat)} (hs : sh c = (4, n, fs)) : cellE g M c = .inl (g.2.2.2 3, n, .inr (.inr (.inr (.inr (fun j => (fs.getD j none).map g.2.2.1))))) := by simp only [cellE, hs]
def wsOf (g : Wo) (M : Mem) : va_W := (List.range 61).map (fun c => (g.2.2.1 c, cellE g M c))
def tysOf (g : Wo) : List (ClassId × FieldType) := [(g.2.2.2 0, .int), (g.2.2.2 1, .long), (g.2.2.2 2, .object "BentPlain$Walker"), (g.2.2.2 3, .object "BentPlain$Sheet")]
def inA (g : Wo) : Nat → Prop := fun q => ∃ c, c < 61 ∧ q = g.2.2.1 c
def Pd (g : Wo) (M : Mem) (H : Heap) : Prop := va_P g.2.1 vwCl (wsOf g M) H
theorem ws_at (g : Wo) (M : Mem) {c : Nat} (h : c < 61) : (wsOf g M)[c]? = some (g.2.2.1 c, cellE g M c) := by
  simp [wsOf, h]
def inj61 (g : Wo) : Prop := ∀ a b, a < 61 → b < 61 → g.2.2.1 a = g.2.2.1 b → a = b
theorem ws_D {g : Wo} (h : inj61 g) (M : Mem) : va_D (inA g) (wsOf g M) := by
  have key : ∀ (k : Nat) (q : Nat × va_E), (wsOf g M)[k]? = some q → k < 61 ∧ q = (g.2.2.1 k, cellE g M k) := by
    intro k q hk
    have hl := (List.getElem?_eq_some_iff.mp hk).1
    have hl : k < 61 := by simpa [wsOf] using hl
    rw [ws_at g M hl] at hk
    exact ⟨hl, (Option.some.inj hk).symm⟩
  refine ⟨fun i j p q hi hj e => ?_, fun k q hk => ?_⟩
  · obtain ⟨h1, rfl⟩ := key i p hi
    obtain ⟨h2, rfl⟩ := key j q hj
    exact h i j h1 h2 e
  · obtain ⟨h1, rfl⟩ := key k q hk
    exact ⟨k, h1, rfl⟩
theorem ws_set (g : Wo) {M M' : Mem} {c : Nat} (h : c < 61) (h1 : ∀ a, a ≠ c → M'.1 a = M.1 a) (h2 : ∀ a, a ≠ c → M'.2 a = M.2 a) : (wsOf g M).set c (g.2.2.1 c, cellE g M' c) = wsOf g M' := by
  apply List.ext_getElem?
  intro k
  by_cases hk : k = c
  · subst hk
    rw [List.getElem?_set_self (by simpa [wsOf] using h), ws_at g M' h]
  · rw [List.getElem?_set_ne (Ne.symm hk)]
    by_cases hl : k < 61
    · rw [ws_at g M hl, ws_at g M' hl]
      have e : cellE g M' k = cellE g M k := by simp only [cellE, fldE, fvE_cg (h1 k hk), h1 k hk, h2 k hk]
      rw [e]
    · rw [List.getElem?_eq_none (by simpa [wsOf] using hl), List.getElem?_eq_none (by simpa [wsOf] using hl)]
def setI (M : Mem) (c j : Nat) (v : Int32) : Mem := (fun a => if a = c then upd (M.1 a) j v else M.1 a, M.2)
def setJ (M : Mem) (c j : Nat) (v : Int64) : Mem := (M.1, fun a => if a = c then vp_updL (M.2 a) j v else M.2 a)
def cpyI (M : Mem) (c c' sp dp n : Nat) : Mem := (fun a => if a = c' then va_cpy (M.1 c) (M.1 a) sp dp n else M.1 a, M.2)
def cpyJ (M : Mem) (c c' sp dp n : Nat) : Mem := (M.1, fun a => if a = c' then va_cpy (M.2 c) (M.2 a) sp dp n else M.2 a)
/-! what the state's tables and old cells say, at a method's start -/
def strL : List (String × Nat × String) := [("BentPlain$Teller", 38, "field"), ("BentPlain$Teller", 65, "rough"), ("BentPlain$Teller", 47, "glue"), ("BentPlain$Teller", 118, "north"), ("BentPlain$Teller", 120, "east"), ("BentPlain$Teller", 122, "south"), ("BentPlain$Teller", 124, "west"), ("BentPlain$Teller", 52, "cut"), ("BentPlain$Teller", 126, "walker"), ("BentPlain$Teller", 128, "surveyor"), ("BentPlain$Teller", 130, "soldier"), ("BentPlain$Teller", 132, "boy"), ("BentPlain$Teller", 134, "carter"), ("BentPlain$Teller", 136, "cat"), ("BentPlain$Teller", 99, "at")]
def lenL : List Nat := [5, 5, 4, 5, 4, 5, 4, 3, 6, 8, 7, 3, 6, 3, 2]
def bytL : List (List Int32) := [[102, 105, 101, 108, 100], [114, 111, 117, 103, 104], [103, 108, 117, 101], [110, 111, 114, 116, 104], [101, 97, 115, 116], [115, 111, 117, 116, 104], [119, 101, 115, 116], [99, 117, 116], [119, 97, 108, 107, 101, 114], [115, 117, 114, 118, 101, 121, 111, 114], [115, 111, 108, 100, 105, 101, 114], [98, 111, 121], [99, 97, 114, 116, 101, 114], [99, 97, 116], [97, 116]]
def nestL : List (String × Nat × MethodName × String) := [("BentPlain$Ground", 24, ⟨"BentPlain$Walker", "<init>", "()V"⟩, "BentPlain"), ("BentPlain", 24, ⟨"BentPlain$Walker", "<init>", "()V"⟩, "BentPlain"), ("BentPlain", 44, ⟨"BentPlain$Tape", "<init>", "()V"⟩, "BentPlain"), ("BentPlain", 67, ⟨"BentPlain$Sheet", "<init>", "()V"⟩, "BentPlain"), ("BentPlain$Ground", 46, ⟨"BentPlain", "wayOf", "(II)I"⟩, "BentPlain"), ("BentPlain$Ground", 68, ⟨"BentPlain", "fieldOf", "(I)I"⟩, "BentPlain"), ("BentPlain", 160, ⟨"BentPlain$Walker", "payOf", "(II)I"⟩, "BentPlain"), ("BentPlain$Ground", 74, ⟨"BentPlain", "turned", "(II)I"⟩, "BentPlain"), ("BentPlain$Walker", 33, ⟨"BentPlain", "turned", "(II)I"⟩, "BentPlain"), ("BentPlain$Walker", 37, ⟨"BentPlain", "fieldOf", "(I)I"⟩, "BentPlain"), ("BentPlain$Teller", 108, ⟨"BentPlain", "wayOf", "(II)I"⟩, "BentPlain")]
def Kd (g : Wo) (U : State) : Prop := va_K g.2.1 vwCl (tysOf g) U ∧ inj61 g ∧ vk_S 15 lenL bytL (fun i => g.2.2.1 (100 + i)) (fun i => g.2.2.1 (130 + i)) (inA g) U U.heap ∧
  (∀ i, ∀ q, strL[i]? = some q → vk_R q.1 q.2.1 q.2.2 (g.2.2.1 (100 + i)) U) ∧ (∀ q ∈ nestL, va_Nw (.methodLinkNest q.1 q.2.1 q.2.2.1 q.2.2.2) U) ∧
  va_Z "java/lang/String" "COMPACT_STRINGS" "Z" (.int 1) (inA g) U U.heap ∧ (va_Z "jdk/internal/util/Preconditions" "SIOOBE_FORMATTER" "Ljava/util/function/BiFunction;" .null (inA g) U U.heap ∨ va_Z "jdk/internal/util/Preconditions" "SIOOBE_FORMATTER" "Ljava/util/function/BiFunction;" (.ref (g.2.2.1 150)) (inA g) U U.heap)
theorem Kd_moved {g : Wo} {s U : State} {H : Heap} {locs : List Loc} (h : Kd g s) (hU : U.heap = H) (hS : va_S (inA g) s.heap H locs) (hW : s.WarmedH U.vm) : Kd g U := by
  obtain ⟨h1, h2, h3, h4, h5, h6, h7⟩ := h
  have hk : ∀ a : Nat, a < s.heap.size → ¬ inA g a → U.heap[a]? = s.heap[a]? := fun a q1 q2 => by rw [hU]; exact hS.2.1 a q1 q2
  exact ⟨va_K.moved hW.alike h1, h2, (h3.kept hk).moved hW.alike, fun i q hq => (h4 i q hq).warm hW, fun q hq => va_Nw.warmM hW (h5 q hq), (h6.kept hk).moved hW.alike,
    h7.elim (fun z => Or.inl ((z.kept hk).moved hW.alike)) (fun z => Or.inr ((z.kept hk).moved hW.alike))⟩
theorem Kd_same {g : Wo} {U U' : State} (h : Kd g U) (hv : U'.vm = U.vm) (hh : U'.heap = U.heap) : Kd g U' := by
  have hal : U.vm.Alike U'.vm := by rw [hv]; exact Vm.Alike.refl _
  obtain ⟨h1, h2, h3, h4, h5, h6, h7⟩ := h
  have hk : ∀ a : Nat, a < U.heap.size → ¬ inA g a → U'.heap[a]? = U.heap[a]? := fun a _ _ => by rw [hh]
  exact ⟨va_K.moved hal h1, h2, (h3.kept hk).moved hal, fun i q hq => (h4 i q hq).same hv, fun q hq => va_Nw.same rfl hv.symm (h5 q hq), (h6.kept hk).moved hal,
    h7.elim (fun z => Or.inl ((z.kept hk).moved hal)) (fun z => Or.inr ((z.kept hk).moved hal))⟩
/-! locals -/
def trv (g : Wo) : Value → Value
  | .ref a => .ref (g.2.2.1 a)
  | v => v
theorem trv_cat (g : Wo) (v : Value) : (trv g v).category = v.category := by cases v <;> rfl
def asl (g : Wo) : Nat → List (Option Value) → List (Nat × Value)
  | _, [] => []
  | i, none :: l => asl g (i + 1) l
  | i, some v :: l => (i, trv g v) :: asl g (i + 1) l
theorem asl_mem {g : Wo} {l : List (Option Value)} : ∀ {n i : Nat} {w : Value}, (i, w) ∈ asl g n l ↔ ∃ v, n ≤ i ∧ l[i - n]? = some (some v) ∧ w = trv g v := by
  induction l with
  | nil => intro n i w; simp [asl]
  | cons o l ih =>
    intro n i w
    cases o with
    | none =>
      rw [asl, ih]
      constructor
      · rintro ⟨v, h1, h2, h3⟩
        refine ⟨v, by omega, ?_, h3⟩
        rw [show i - n = (i - (n + 1)) + 1 by omega, List.getElem?_cons_succ]; exact h2
      · rintro ⟨v, h1, h2, h3⟩
        by_cases e : i = n
        · subst e; simp at h2
        · refine ⟨v, by omega, ?_, h3⟩
          rw [show i - n = (i - (n + 1)) + 1 by omega, List.getElem?_cons_succ] at h2; exact h2
    | some u =>
      rw [asl, List.mem_cons, ih]
      constructor
      · rintro (h | ⟨v, h1, h2, h3⟩)
        · cases h
          exact ⟨u, Nat.le_refl _, by simp, rfl⟩
        · refine ⟨v, by omega, ?_, h3⟩
          rw [show i - n = (i - (n + 1)) + 1 by omega, List.getElem?_cons_succ]; exact h2
      · rintro ⟨v, h1, h2, h3⟩
        by_cases e : i = n
        · subst e
          simp at h2
          subst h2
          exact Or.inl (by rw [h3])
        · refine Or.inr ⟨v, by omega, ?_, h3⟩
          rw [show i - n = (i - (n + 1)) + 1 by omega, List.getElem?_cons_succ] at h2; exact h2
def lvH (g : Wo) (LS : Array Slot) (n : Nat) (ls : List (Option Value)) : Prop := lv_has LS n (asl g 0 ls)
theorem lvH_at {g : Wo} {LS : Array Slot} {n i : Nat} {ls : List (Option Value)} {v : Value} (h : lvH g LS n ls) (hi : ls[i]? = some (some v)) : LS[i]? = some (.val (trv g v)) :=
  h.2.2 (i, trv g v) (asl_mem.mpr ⟨v, Nat.zero_le _, hi, rfl⟩)
theorem lvH_of {g : Wo} {LS : Array Slot} {n : Nat} {ls : List (Option Value)} {l : List (Nat × Value)} (h : lv_has LS n l) (hs : ∀ i v, ls[i]? = some (some v) → (i, trv g v) ∈ l) : lvH g LS n ls :=
  ⟨h.1, h.2.1, fun q hq => h.2.2 q (by
    obtain ⟨i, w⟩ := q
    obtain ⟨v, -, h2, h3⟩ := asl_mem.mp hq
    rw [h3]; exact hs i v h2)⟩
/-- storing: one slot (a long ahead of it is gone), two slots -/
def cl2 (o : Option Value) : Option Value := o.filter (fun v => v.category != 2)
def st1 (ls : List (Option Value)) (i : Nat) (v : Value) : List (Option Value) := ls.mapIdx (fun j o => if j = i then some v else if j + 1 = i then cl2 o else o)
def st2 (ls : List (Option Value)) (i : Nat) (v : Value) : List (Option Value) := ls.mapIdx (fun j o => if j = i then some v else if j = i + 1 then none else if j + 1 = i then cl2 o else o)
theorem lvH_st1 {g : Wo} {LS : Array Slot} {n i : Nat} {ls : List (Option Value)} {v : Value} (h' : lv_has LS n ((i, trv g v) :: (asl g 0 ls).filter (fun q => !(q.1 == i) && !(q.1 + 1 == i && q.2.category == 2)))) : lvH g LS n (st1 ls i v) := by
  refine lvH_of h' fun j w hj => ?_
  rw [st1, List.getElem?_mapIdx] at hj
  cases ho : ls[j]? with
  | none => rw [ho] at hj; simp at hj
  | some o =>
    rw [ho] at hj
    simp only [Option.map_some, Option.some.injEq] at hj
    by_cases e : j = i
    · rw [if_pos e] at hj
      cases hj
      rw [e]
      exact List.mem_cons_self
    · rw [if_neg e] at hj
      have hw : o = some w ∧ (j + 1 = i → ¬ w.category = 2) := by
        by_cases e2 : j + 1 = i
        · rw [if_pos e2, cl2, Option.filter_eq_some_iff] at hj
          exact ⟨hj.1, fun _ hc => by simp [hc] at hj⟩
        · rw [if_neg e2] at hj
          exact ⟨hj, fun q => absurd q e2⟩
      refine List.mem_cons_of_mem _ (List.mem_filter.mpr ⟨asl_mem.mpr ⟨w, Nat.zero_le _, by rw [Nat.sub_zero, ho, hw.1], rfl⟩, ?_⟩)
      have h2 := hw.2
      simp only [trv_cat, Bool.and_eq_true, Bool.not_eq_true', beq_eq_false_iff_ne, ne_eq, Bool.and_eq_false_iff]
      exact ⟨e, by by_cases e2 : j + 1 = i; exact Or.inr (h2 e2); exact Or.inl e2⟩
theorem lvH_st2 {g : Wo} {LS : Array Slot} {n i : Nat} {ls : List (Option Value)} {v : Value} (h' : lv_has LS n ((i, trv g v) :: (asl g 0 ls).filter (fun q => !(q.1 == i) && (!(q.1 == i + 1) && !(q.1 + 1 == i && q.2.category == 2))))) : lvH g LS n (st2 ls i v) := by
  refine lvH_of h' fun j w hj => ?_
  rw [st2, List.getElem?_mapIdx] at hj
  cases ho : ls[j]? with
  | none => rw [ho] at hj; simp at hj
  | some o =>
    rw [ho] at hj
    simp only [Option.map_some, Option.some.injEq] at hj
    by_cases e : j = i
    · rw [if_pos e] at hj
      cases hj
      rw [e]
      exact List.mem_cons_self
    · rw [if_neg e] at hj
      by_cases e1 : j = i + 1
      · rw [if_pos e1] at hj
        cases hj
      · rw [if_neg e1] at hj
        have hw : o = some w ∧ (j + 1 = i → ¬ w.category = 2) := by
          by_cases e2 : j + 1 = i
          · rw [if_pos e2, cl2, Option.filter_eq_some_iff] at hj
            exact ⟨hj.1, fun _ hc => by simp [hc] at hj⟩
          · rw [if_neg e2] at hj
            exact ⟨hj, fun q => absurd q e2⟩
        refine List.mem_cons_of_mem _ (List.mem_filter.mpr ⟨asl_mem.mpr ⟨w, Nat.zero_le _, by rw [Nat.sub_zero, ho, hw.1], rfl⟩, ?_⟩)
        have h2 := hw.2
        simp only [trv_cat, Bool.and_eq_true, Bool.not_eq_true', beq_eq_false_iff_ne, ne_eq, Bool.and_eq_false_iff]
        exact ⟨e, e1, by by_cases e2 : j + 1 = i; exact Or.inr (h2 e2); exact Or.inl e2⟩
/-- the locals with which a method begins -/
def enL : List Value → List (Option Value)
  | [] => []
  | v :: l => if v.category = 2 then some v :: none :: enL l else some v :: enL l
theorem enL_args (g : Wo) : ∀ (vs : List Value) (n i : Nat) (v : Value), n ≤ i → (enL vs)[i - n]? = some (some v) → (i, trv g v) ∈ lv_args n (vs.map (trv g))
  | [], n, i, v, hn, h => by simp [enL] at h
  | u :: vs, n, i, v, hn, h => by
    rw [List.map_cons, lv_args, trv_cat]
    rw [enL] at h
    by_cases hc : u.category = 2
    · rw [if_pos hc] at h ⊢
      by_cases e : i = n
      · subst e
        simp at h
        subst h
        exact List.mem_cons_self
      · by_cases e2 : i = n + 1
        · subst e2
          rw [show n + 1 - n = 1 by omega] at h
          simp at h
        · refine List.mem_cons_of_mem _ (enL_args g vs (n + 2) i v (by omega) ?_)
          rw [show i - n = (i - (n + 2)) + 1 + 1 by omega, List.getElem?_cons_succ, List.getElem?_cons_succ] at h
          exact h
    · rw [if_neg hc] at h ⊢
      by_cases e : i = n
      · subst e
        simp at h
        subst h
        exact List.mem_cons_self
      · refine List.mem_cons_of_mem _ (enL_args g vs (n + 1) i v (by omega) ?_)
        rw [show i - n = (i - (n + 1)) + 1 by omega, List.getElem?_cons_succ] at h
        exact h
theorem enL_len (vs : List Value) (g : Wo) : (lg_sl (vs.map (trv g))).length = (enL vs).length := by
  induction vs with
  | nil => rfl
  | cons v vs ih =>
    rw [List.map_cons, enL, lg_sl, List.flatMap_cons, List.length_append, trv_cat]
    have ih : (List.flatMap (fun v => if v.category = 2 then [Slot.val v, Slot.second] else [Slot.val v]) (List.map (trv g) vs)).length = (enL vs).length := ih
    rw [ih]
    by_cases hc : v.category = 2
    · rw [if_pos hc, if_pos hc]; simp; omega
    · rw [if_neg hc, if_neg hc]; simp; omega
/-! THE JUDGEMENT: room, cells, slots, what is known of the start, the end -/
abbrev ZT : Type := List Frame → Array Value → State → State → Prop
abbrev Jd : Type := Room × Nat × Nat × (Array Value → State → Prop) × ZT
def Cx (g : Wo) (k : Mth) (p : Program) (s : State) (m : MethodId) (args : Array Value) (meth : Method) (c : Code) : Prop :=
  p.tables.exec = Jvm.exec ∧ c.code = k.2.1 ∧ meth.sig.returnType = k.2.2.2 ∧ c.maxLocals = k.2.2.1 ∧ s.vm.findClass k.1.cls = some m.cls ∧ (∀ w ∈ Tw, w.before args s = true) ∧ meth.locks = false ∧ Kd g s
def V (g : Wo) (k : Mth) (j : Jd) (pc : Nat) (ls : List (Option Value)) (st : List Value) (M : Mem) : Prop :=
  ∀ (p : Program) (e : Env) (s : State) (m : MethodId) (args : Array Value) (below : List Frame) (meth : Method) (c : Code) (H : Heap) (locs : List Loc) (LS : Array Slot),
    Cx g k p s m args meth c → j.2.2.2.1 args s → va_S (inA g) s.heap H locs → Pd g M H → lvH g LS k.2.2.1 ls →
    W p g.1 e j.1 s m args below meth c H locs j.2.1 j.2.2.1 (j.2.2.2.2 below args s) (F0 m pc LS (st.map (trv g)))
def rmd (d : Nat) : Room := { frames := d, cells := 0, slots := 0, locals := 64 * d }
def Qc (g : Wo) (r : Option Value) (M' : Mem) : Array Value → State → Outcome → State → Prop := fun _ st oc t => oc = .returned (r.map (trv g)) ∧ Pd g M' t.heap ∧ va_F (inA g) st t
def jm (g : Wo) (d : Nat) (r : Option Value) (M' : Mem) : Jd := (rmd d, 0, 0, fun _ _ => True, fun below args s => MQ below (Qc g r M') args s 0 0 (inA g))
def mW (k : Mth) : List Cond := .code k.1 k.2.1 k.2.2.1 k.2.2.2 :: Tw
def Sp (g : Wo) (k : Mth) (d : Nat) (as : List Value) (M : Mem) (r : Option Value) (M' : Mem) : Prop :=
  Met g.1 k.1 (mW k) (rmd d) (va_Pc (as.map (trv g)) (fun U => Pd g M U.heap ∧ Kd g U)) (Qc g r M') 0 0 (inA g)
theorem Sp_intro {g : Wo} {k : Mth} {d : Nat} {as : List Value} {M M' : Mem} {r : Option Value} (hy : plainName k.1.cls = true) (ls : List (Option Value)) (hls : enL as ++ List.replicate (k.2.2.1 - (enL as).length) none = ls) (hn : (enL as).length ≤ k.2.2.1) (h : V g k (jm g d r M') 0 ls [] M) : Sp g k d as M r M' := by
  refine Met.ofW (cc := k.2.1) (maxL := k.2.2.1) (ret := k.2.2.2) hy rfl ?_
  intro p e s m args below meth c s₁ B hml hv
  obtain ⟨rfl, hP, hK⟩ := hv
  have hts := atoms_spec (ws := mW k) B.pre
  have hl := lv_entry (as.map (trv g)) (n := k.2.2.1) (by rw [enL_len]; exact hn)
  rw [lg_entry_eq]
  refine h p e s m _ below meth c s.heap [] _ ⟨B.exec, B.bytes, B.returns, hml, findClass_of_methodNamed B.named, fun w hw => hts w (List.mem_cons_of_mem _ hw), B.notSynchronized, hK⟩ trivial va_S.rf hP ?_
  refine lvH_of hl fun i v hi => ?_
  refine enL_args g as 0 i v (Nat.zero_le _) ?_
  rw [← hls] at hi
  rw [Nat.sub_zero]
  by_cases hlt : i < (enL as).length
  · rw [List.getElem?_append_left hlt] at hi; exact hi
  · rw [List.getElem?_append_right (by omega), List.getElem?_replicate] at hi
    split at hi <;> simp at hi
/-- fewer locals are known -/
def lsub : List (Option Value) → List (Option Value) → Prop
  | [], _ => True
  | none :: a, _ :: b => lsub a b
  | some v :: a, some w :: b => v = w ∧ lsub a b
  | _, _ => False
theorem lsub_at : ∀ {a b : List (Option Value)}, lsub a b → ∀ {i : Nat} {v : Value}, a[i]? = some (some v) → b[i]? = some (some v)
  | [], _, _, i, v, h => by simp at h
  | none :: a, [], h0, _, _, _ => by simp [lsub] at h0
  | none :: a, _ :: b, h0, i, v, h => by
    cases i with
    | zero => simp at h
    | succ i => rw [List.getElem?_cons_succ] at h ⊢; exact lsub_at (a := a) (b := b) (by simpa [lsub] using h0) h
  | some u :: a, [], h0, _, _, _ => by simp [lsub] at h0
  | some u :: a, none :: b, h0, _, _, _ => by simp [lsub] at h0
  | some u :: a, some w :: b, h0, i, v, h => by
    have h0 : u = w ∧ lsub a b := by simpa [lsub] using h0
    cases i with
    | zero => rw [List.getElem?_cons_zero] at h ⊢; rw [← h0.1]; exact h
    | succ i => rw [List.getElem?_cons_succ] at h ⊢; exact lsub_at (a := a) (b := b) h0.2 h
theorem V.sub {g : Wo} {k : Mth} {j : Jd} {pc : Nat} {ls ls' : List (Option Value)} {st : List Value} {M : Mem} (h : lsub ls' ls) (hv : V g k j pc ls' st M) : V g k j pc ls st M := by
  intro p e s m args below meth c H locs LS h1 h2 h3 h4 h5
  exact hv p e s m args below meth c H locs LS h1 h2 h3 h4 ⟨h5.1, h5.2.1, fun q hq => by
    obtain ⟨i, w⟩ := q
    obtain ⟨v, -, q2, rfl⟩ := asl_mem.mp hq
    exact lvH_at h5 (lsub_at h q2)⟩
theorem V.cg {g : Wo} {k : Mth} {j : Jd} {pc pc' : Nat} {ls ls' : List (Option Value)} {st st' : List Value} {M M' : Mem} (h1 : pc = pc') (h2 : ls = ls') (h3 : st = st') (h4 : M = M') (hv : V g k j pc' ls' st' M') : V g k j pc ls st M := by subst h1; subst h2; subst h3; subst h4; exact hv
end
section
theorem v_iconst {g : Wo} {k : Mth} {j : Jd} {pc : Nat} {ls : List (Option Value)} {st : List Value} {M : Mem} {q : Int} {v : Int32} (hd : decode k.2.1 pc = .ok (.iconst q, 1)) (hv : Int32.ofInt q = v) (n : V g k j (pc + 1) ls (.int v :: st) M) : V g k j pc ls (st) M := by
  intro p e s m args below meth c H locs LS C h2 h3 h4 h5
  exact lv_iconst C.1 C.2.1 hd hv (n p e s m args below meth c H locs LS C h2 h3 h4 h5)
theorem v_bipush {g : Wo} {k : Mth} {j : Jd} {pc : Nat} {ls : List (Option Value)} {st : List Value} {M : Mem} {q : Int} {v : Int32} (hd : decode k.2.1 pc = .ok (.bipush q, 2)) (hv : (Int8.ofInt q).toInt32 = v) (n : V g k j (pc + 2) ls (.int v :: st) M) : V g k j pc ls (st) M := by
  intro p e s m args below meth c H locs LS C h2 h3 h4 h5
  exact lv_bipush C.1 C.2.1 hd hv (n p e s m args below meth c H locs LS C h2 h3 h4 h5)
theorem v_sipush {g : Wo} {k : Mth} {j : Jd} {pc : Nat} {ls : List (Option Value)} {st : List Value} {M : Mem} {q : Int} {v : Int32} (hd : decode k.2.1 pc = .ok (.sipush q, 3)) (hv : (Int16.ofInt q).toInt32 = v) (n : V g k j (pc + 3) ls (.int v :: st) M) : V g k j pc ls (st) M := by
  intro p e s m args below meth c H locs LS C h2 h3 h4 h5
  exact lv_sipush C.1 C.2.1 hd hv (n p e s m args below meth c H locs LS C h2 h3 h4 h5)
theorem v_lconst {g : Wo} {k : Mth} {j : Jd} {pc : Nat} {ls : List (Option Value)} {st : List Value} {M : Mem} {q : Fin 2} {v : Int64} (hd : decode k.2.1 pc = .ok (.lconst q, 1)) (hv : Int64.ofNat (q : Nat) = v) (n : V g k j (pc + 1) ls (.long v :: st) M) : V g k j pc ls (st) M := by
  intro p e s m args below meth c H locs LS C h2 h3 h4 h5
  exact lv_lconst C.1 C.2.1 hd hv (n p e s m args below meth c H locs LS C h2 h3 h4 h5)
theorem v_iload_n {g : Wo} {k : Mth} {j : Jd} {pc : Nat} {ls : List (Option Value)} {st : List Value} {M : Mem} {q : Fin 4} {x : Int32} (hd : decode k.2.1 pc = .ok (.iload_n q, 1)) (hl : ls[(q : Nat)]? = some (some (.int x))) (n : V g k j (pc + 1) ls (.int x :: st) M) : V g k j pc ls (st) M := by
  intro p e s m args below meth c H locs LS C h2 h3 h4 h5
  exact lv_iload_n C.1 C.2.1 hd rfl (lvH_at h5 hl) (n p e s m args below meth c H locs LS C h2 h3 h4 h5)
theorem v_iload {g : Wo} {k : Mth} {j : Jd} {pc : Nat} {ls : List (Option Value)} {st : List Value} {M : Mem} {i : Nat} {x : Int32} (hd : decode k.2.1 pc = .ok (.iload i, 2)) (hl : ls[i]? = some (some (.int x))) (n : V g k j (pc + 2) ls (.int x :: st) M) : V g k j pc ls (st) M := by
  intro p e s m args below meth c H locs LS C h2 h3 h4 h5
  exact lv_iload C.1 C.2.1 hd (lvH_at h5 hl) (n p e s m args below meth c H locs LS C h2 h3 h4 h5)
theorem v_lload_n {g : Wo} {k : Mth} {j : Jd} {pc : Nat} {ls : List (Option Value)} {st : List Value} {M : Mem} {q : Fin 4} {x : Int64} (hd : decode k.2.1 pc = .ok (.lload_n q, 1)) (hl : ls[(q : Nat)]? = some (some (.long x))) (n : V g k j (pc + 1) ls (.long x :: st) M) : V g k j pc ls (st) M := by
  intro p e s m args below meth c H locs LS C h2 h3 h4 h5
  exact lv_lload_n C.1 C.2.1 hd rfl (lvH_at h5 hl) (n p e s m args below meth c H locs LS C h2 h3 h4 h5)
theorem v_lload {g : Wo} {k : Mth} {j : Jd} {pc : Nat} {ls : List (Option Value)} {st : List Value} {M : Mem} {i : Nat} {x : Int64} (hd : decode k.2.1 pc = .ok (.lload i, 2)) (hl : ls[i]? = some (some (.long x))) (n : V g k j (pc + 2) ls (.long x :: st) M) : V g k j pc ls (st) M := by
  intro p e s m args below meth c H locs LS C h2 h3 h4 h5
  exact lv_lload C.1 C.2.1 hd (lvH_at h5 hl) (n p e s m args below meth c H locs LS C h2 h3 h4 h5)
theorem v_aload_n {g : Wo} {k : Mth} {j : Jd} {pc : Nat} {ls : List (Option Value)} {st : List Value} {M : Mem} {q : Fin 4} {x : Nat} (hd : decode k.2.1 pc = .ok (.aload_n q, 1)) (hl : ls[(q : Nat)]? = some (some (.ref x))) (n : V g k j (pc + 1) ls (.ref x :: st) M) : V g k j pc ls (st) M := by
  intro p e s m args below meth c H locs LS C h2 h3 h4 h5
  exact lv_aload_n C.1 C.2.1 hd rfl (lvH_at h5 hl) (n p e s m args below meth c H locs LS C h2 h3 h4 h5)
theorem v_aload {g : Wo} {k : Mth} {j : Jd} {pc : Nat} {ls : List (Option Value)} {st : List Value} {M : Mem} {i : Nat} {x : Nat} (hd : decode k.2.1 pc = .ok (.aload i, 2)) (hl : ls[i]? = some (some (.ref x))) (n : V g k j (pc + 2) ls (.ref x :: st) M) : V g k j pc ls (st) M := by
  intro p e s m args below meth c H locs LS C h2 h3 h4 h5
  exact lv_aload C.1 C.2.1 hd (lvH_at h5 hl) (n p e s m args below meth c H locs LS C h2 h3 h4 h5)
theorem v_istore_n {g : Wo} {k : Mth} {j : Jd} {pc : Nat} {ls : List (Option Value)} {st : List Value} {M : Mem} {q : Fin 4} {x : Int32} {ls1 : List (Option Value)} (hd : decode k.2.1 pc = .ok (.istore_n q, 1)) (hn : (q : Nat) < k.2.2.1) (hls : st1 ls q (.int x) = ls1) (n : V g k j (pc + 1) ls1 st M) : V g k j pc ls (.int x :: st) M := by
  intro p e s m args below meth c H locs LS C h2 h3 h4 h5
  subst hls
  exact lv_istore_n C.1 C.2.1 hd rfl h5 hn rfl (fun LS1 h => n p e s m args below meth c H locs LS1 C h2 h3 h4 (lvH_st1 h))
theorem v_istore {g : Wo} {k : Mth} {j : Jd} {pc : Nat} {ls : List (Option Value)} {st : List Value} {M : Mem} {i : Nat} {x : Int32} {ls1 : List (Option Value)} (hd : decode k.2.1 pc = .ok (.istore i, 2)) (hn : i < k.2.2.1) (hls : st1 ls i (.int x) = ls1) (n : V g k j (pc + 2) ls1 st M) : V g k j pc ls (.int x :: st) M := by
  intro p e s m args below meth c H locs LS C h2 h3 h4 h5
  subst hls
  exact lv_istore C.1 C.2.1 hd h5 hn rfl (fun LS1 h => n p e s m args below meth c H locs LS1 C h2 h3 h4 (lvH_st1 h))
theorem v_lstore_n {g : Wo} {k : Mth} {j : Jd} {pc : Nat} {ls : List (Option Value)} {st : List Value} {M : Mem} {q : Fin 4} {x : Int64} {ls1 : List (Option Value)} (hd : decode k.2.1 pc = .ok (.lstore_n q, 1)) (hn : (q : Nat) + 1 < k.2.2.1) (hls : st2 ls q (.long x) = ls1) (n : V g k j (pc + 1) ls1 st M) : V g k j pc ls (.long x :: st) M := by
  intro p e s m args below meth c H locs LS C h2 h3 h4 h5
  subst hls
  exact lv_lstore_n C.1 C.2.1 hd rfl h5 hn rfl (fun LS1 h => n p e s m args below meth c H locs LS1 C h2 h3 h4 (lvH_st2 h))
theorem v_lstore {g : Wo} {k : Mth} {j : Jd} {pc : Nat} {ls : List (Option Value)} {st : List Value} {M : Mem} {i : Nat} {x : Int64} {ls1 : List (Option Value)} (hd : decode k.2.1 pc = .ok (.lstore i, 2)) (hn : i + 1 < k.2.2.1) (hls : st2 ls i (.long x) = ls1) (n : V g k j (pc + 2) ls1 st M) : V g k j pc ls (.long x :: st) M := by
  intro p e s m args below meth c H locs LS C h2 h3 h4 h5
  subst hls
  exact lv_lstore C.1 C.2.1 hd h5 hn rfl (fun LS1 h => n p e s m args below meth c H locs LS1 C h2 h3 h4 (lvH_st2 h))
theorem v_astore_n {g : Wo} {k : Mth} {j : Jd} {pc : Nat} {ls : List (Option Value)} {st : List Value} {M : Mem} {q : Fin 4} {x : Nat} {ls1 : List (Option Value)} (hd : decode k.2.1 pc = .ok (.astore_n q, 1)) (hn : (q : Nat) < k.2.2.1) (hls : st1 ls q (.ref x) = ls1) (n : V g k j (pc + 1) ls1 st M) : V g k j pc ls (.ref x :: st) M := by
  intro p e s m args below meth c H locs LS C h2 h3 h4 h5
  subst hls
  exact lv_astore_n C.1 C.2.1 hd rfl h5 hn rfl (fun LS1 h => n p e s m args below meth c H locs LS1 C h2 h3 h4 (lvH_st1 h))
theorem v_astore {g : Wo} {k : Mth} {j : Jd} {pc : Nat} {ls : List (Option Value)} {st : List Value} {M : Mem} {i : Nat} {x : Nat} {ls1 : List (Option Value)} (hd : decode k.2.1 pc = .ok (.astore i, 2)) (hn : i < k.2.2.1) (hls : st1 ls i (.ref x) = ls1) (n : V g k j (pc + 2) ls1 st M) : V g k j pc ls (.ref x :: st) M := by
  intro p e s m args below meth c H locs LS C h2 h3 h4 h5
  subst hls
  exact lv_astore C.1 C.2.1 hd h5 hn rfl (fun LS1 h => n p e s m args below meth c H locs LS1 C h2 h3 h4 (lvH_st1 h))
theorem v_iinc {g : Wo} {k : Mth} {j : Jd} {pc : Nat} {ls : List (Option Value)} {st : List Value} {M : Mem} {i : Nat} {q : Int} {x v : Int32} {ls1 : List (Option Value)} (hd : decode k.2.1 pc = .ok (.iinc i q, 3)) (hl : ls[i]? = some (some (.int x))) (hv : Int32.ofInt q = v) (hn : i < k.2.2.1) (hls : st1 ls i (.int (x + v)) = ls1) (n : V g k j (pc + 3) ls1 st M) : V g k j pc ls st M := by
  intro p e s m args below meth c H locs LS C h2 h3 h4 h5
  subst hls; subst hv
  obtain ⟨kk, hk⟩ := List.getElem?_of_mem (asl_mem.mpr ⟨_, Nat.zero_le _, hl, rfl⟩ : (i, trv g (.int x)) ∈ asl g 0 ls)
  exact lv_iinc C.1 C.2.1 hd h5 hk rfl hn rfl (fun LS1 h => n p e s m args below meth c H locs LS1 C h2 h3 h4 (lvH_st1 h))
theorem v_iadd {g : Wo} {k : Mth} {j : Jd} {pc : Nat} {ls : List (Option Value)} {st : List Value} {M : Mem} {x y : Int32} (hd : decode k.2.1 pc = .ok (.iadd, 1)) (n : V g k j (pc + 1) ls (.int (x + y) :: st) M) : V g k j pc ls (.int y :: .int x :: st) M := by
  intro p e s m args below meth c H locs LS C h2 h3 h4 h5
  exact lv_iadd C.1 C.2.1 hd (n p e s m args below meth c H locs LS C h2 h3 h4 h5)
theorem v_isub {g : Wo} {k : Mth} {j : Jd} {pc : Nat} {ls : List (Option Value)} {st : List Value} {M : Mem} {x y : Int32} (hd : decode k.2.1 pc = .ok (.isub, 1)) (n : V g k j (pc + 1) ls (.int (x - y) :: st) M) : V g k j pc ls (.int y :: .int x :: st) M := by
  intro p e s m args below meth c H locs LS C h2 h3 h4 h5
  exact lv_isub C.1 C.2.1 hd (n p e s m args below meth c H locs LS C h2 h3 h4 h5)
theorem v_imul {g : Wo} {k : Mth} {j : Jd} {pc : Nat} {ls : List (Option Value)} {st : List Value} {M : Mem} {x y : Int32} (hd : decode k.2.1 pc = .ok (.imul, 1)) (n : V g k j (pc + 1) ls (.int (x * y) :: st) M) : V g k j pc ls (.int y :: .int x :: st) M := by
  intro p e s m args below meth c H locs LS C h2 h3 h4 h5
  exact lv_imul C.1 C.2.1 hd (n p e s m args below meth c H locs LS C h2 h3 h4 h5)
theorem v_iand {g : Wo} {k : Mth} {j : Jd} {pc : Nat} {ls : List (Option Value)} {st : List Value} {M : Mem} {x y : Int32} (hd : decode k.2.1 pc = .ok (.iand, 1)) (n : V g k j (pc + 1) ls (.int (x &&& y) :: st) M) : V g k j pc ls (.int y :: .int x :: st) M := by
  intro p e s m args below meth c H locs LS C h2 h3 h4 h5
  exact lv_iand C.1 C.2.1 hd (n p e s m args below meth c H locs LS C h2 h3 h4 h5)
theorem v_ior {g : Wo} {k : Mth} {j : Jd} {pc : Nat} {ls : List (Option Value)} {st : List Value} {M : Mem} {x y : Int32} (hd : decode k.2.1 pc = .ok (.ior, 1)) (n : V g k j (pc + 1) ls (.int (x ||| y) :: st) M) : V g k j pc ls (.int y :: .int x :: st) M := by
  intro p e s m args below meth c H locs LS C h2 h3 h4 h5
  exact lv_ior C.1 C.2.1 hd (n p e s m args below meth c H locs LS C h2 h3 h4 h5)
theorem v_ixor {g : Wo} {k : Mth} {j : Jd} {pc : Nat} {ls : List (Option Value)} {st : List Value} {M : Mem} {x y : Int32} (hd : decode k.2.1 pc = .ok (.ixor, 1)) (n : V g k j (pc + 1) ls (.int (x ^^^ y) :: st) M) : V g k j pc ls (.int y :: .int x :: st) M := by
  intro p e s m args below meth c H locs LS C h2 h3 h4 h5
  exact lv_ixor C.1 C.2.1 hd (n p e s m args below meth c H locs LS C h2 h3 h4 h5)
theorem v_ishl {g : Wo} {k : Mth} {j : Jd} {pc : Nat} {ls : List (Option Value)} {st : List Value} {M : Mem} {x y : Int32} (hd : decode k.2.1 pc = .ok (.ishl, 1)) (n : V g k j (pc + 1) ls (.int (x <<< (y &&& 31)) :: st) M) : V g k j pc ls (.int y :: .int x :: st) M := by
  intro p e s m args below meth c H locs LS C h2 h3 h4 h5
  exact lv_ishl C.1 C.2.1 hd (n p e s m args below meth c H locs LS C h2 h3 h4 h5)
theorem v_ishr {g : Wo} {k : Mth} {j : Jd} {pc : Nat} {ls : List (Option Value)} {st : List Value} {M : Mem} {x y : Int32} (hd : decode k.2.1 pc = .ok (.ishr, 1)) (n : V g k j (pc + 1) ls (.int (x >>> (y &&& 31)) :: st) M) : V g k j pc ls (.int y :: .int x :: st) M := by
  intro p e s m args below meth c H locs LS C h2 h3 h4 h5
  exact lv_ishr C.1 C.2.1 hd (n p e s m args below meth c H locs LS C h2 h3 h4 h5)
theorem v_iushr {g : Wo} {k : Mth} {j : Jd} {pc : Nat} {ls : List (Option Value)} {st : List Value} {M : Mem} {x y : Int32} (hd : decode k.2.1 pc = .ok (.iushr, 1)) (n : V g k j (pc + 1) ls (.int ((x.toUInt32 >>> (y.toUInt32 &&& Int32.toUInt32 31)).toInt32) :: st) M) : V g k j pc ls (.int y :: .int x :: st) M := by
  intro p e s m args below meth c H locs LS C h2 h3 h4 h5
  exact lv_iushr C.1 C.2.1 hd rfl (n p e s m args below meth c H locs LS C h2 h3 h4 h5)
theorem v_idiv {g : Wo} {k : Mth} {j : Jd} {pc : Nat} {ls : List (Option Value)} {st : List Value} {M : Mem} {x y : Int32} (hd : decode k.2.1 pc = .ok (.idiv, 1)) (hne : ¬ y = 0) (n : V g k j (pc + 1) ls (.int (x / y) :: st) M) : V g k j pc ls (.int y :: .int x :: st) M := by
  intro p e s m args below meth c H locs LS C h2 h3 h4 h5
  exact lv_idiv C.1 C.2.1 hd hne (n p e s m args below meth c H locs LS C h2 h3 h4 h5)
theorem v_irem {g : Wo} {k : Mth} {j : Jd} {pc : Nat} {ls : List (Option Value)} {st : List Value} {M : Mem} {x y : Int32} (hd : decode k.2.1 pc = .ok (.irem, 1)) (hne : ¬ y = 0) (n : V g k j (pc + 1) ls (.int (x - x / y * y) :: st) M) : V g k j pc ls (.int y :: .int x :: st) M := by
  intro p e s m args below meth c H locs LS C h2 h3 h4 h5
  exact lv_irem C.1 C.2.1 hd hne (n p e s m args below meth c H locs LS C h2 h3 h4 h5)
theorem v_ladd {g : Wo} {k : Mth} {j : Jd} {pc : Nat} {ls : List (Option Value)} {st : List Value} {M : Mem} {x y : Int64} (hd : decode k.2.1 pc = .ok (.ladd, 1)) (n : V g k j (pc + 1) ls (.long (x + y) :: st) M) : V g k j pc ls (.long y :: .long x :: st) M := by
  intro p e s m args below meth c H locs LS C h2 h3 h4 h5
  exact lv_ladd C.1 C.2.1 hd (n p e s m args below meth c H locs LS C h2 h3 h4 h5)
theorem v_lsub {g : Wo} {k : Mth} {j : Jd} {pc : Nat} {ls : List (Option Value)} {st : List Value} {M : Mem} {x y : Int64} (hd : decode k.2.1 pc = .ok (.lsub, 1)) (n : V g k j (pc + 1) ls (.long (x - y) :: st) M) : V g k j pc ls (.long y :: .long x :: st) M := by
  intro p e s m args below meth c H locs LS C h2 h3 h4 h5
  exact lv_lsub C.1 C.2.1 hd (n p e s m args below meth c H locs LS C h2 h3 h4 h5)
theorem v_lmul {g : Wo} {k : Mth} {j : Jd} {pc : Nat} {ls : List (Option Value)} {st : List Value} {M : Mem} {x y : Int64} (hd : decode k.2.1 pc = .ok (.lmul, 1)) (n : V g k j (pc + 1) ls (.long (x * y) :: st) M) : V g k j pc ls (.long y :: .long x :: st) M := by
  intro p e s m args below meth c H locs LS C h2 h3 h4 h5
  exact lv_lmul C.1 C.2.1 hd (n p e s m args below meth c H locs LS C h2 h3 h4 h5)
theorem v_land {g : Wo} {k : Mth} {j : Jd} {pc : Nat} {ls : List (Option Value)} {st : List Value} {M : Mem} {x y : Int64} (hd : decode k.2.1 pc = .ok (.land, 1)) (n : V g k j (pc + 1) ls (.long (x &&& y) :: st) M) : V g k j pc ls (.long y :: .long x :: st) M := by
  intro p e s m args below meth c H locs LS C h2 h3 h4 h5
  exact lv_land C.1 C.2.1 hd (n p e s m args below meth c H locs LS C h2 h3 h4 h5)
theorem v_lor {g : Wo} {k : Mth} {j : Jd} {pc : Nat} {ls : List (Option Value)} {st : List Value} {M : Mem} {x y : Int64} (hd : decode k.2.1 pc = .ok (.lor, 1)) (n : V g k j (pc + 1) ls (.long (x ||| y) :: st) M) : V g k j pc ls (.long y :: .long x :: st) M := by
  intro p e s m args below meth c H locs LS C h2 h3 h4 h5
  exact lv_lor C.1 C.2.1 hd (n p e s m args below meth c H locs LS C h2 h3 h4 h5)
theorem v_lshl {g : Wo} {k : Mth} {j : Jd} {pc : Nat} {ls : List (Option Value)} {st : List Value} {M : Mem} {x : Int64} {y : Int32} (hd : decode k.2.1 pc = .ok (.lshl, 1)) (n : V g k j (pc + 1) ls (.long (x <<< (y.toInt64 &&& 63)) :: st) M) : V g k j pc ls (.int y :: .long x :: st) M := by
  intro p e s m args below meth c H locs LS C h2 h3 h4 h5
  exact lv_lshl C.1 C.2.1 hd rfl (n p e s m args below meth c H locs LS C h2 h3 h4 h5)
theorem v_lshr {g : Wo} {k : Mth} {j : Jd} {pc : Nat} {ls : List (Option Value)} {st : List Value} {M : Mem} {x : Int64} {y : Int32} (hd : decode k.2.1 pc = .ok (.lshr, 1)) (n : V g k j (pc + 1) ls (.long (x >>> (y.toInt64 &&& 63)) :: st) M) : V g k j pc ls (.int y :: .long x :: st) M := by
  intro p e s m args below meth c H locs LS C h2 h3 h4 h5
  exact lv_lshr C.1 C.2.1 hd rfl (n p e s m args below meth c H locs LS C h2 h3 h4 h5)
theorem v_lushr {g : Wo} {k : Mth} {j : Jd} {pc : Nat} {ls : List (Option Value)} {st : List Value} {M : Mem} {x : Int64} {y : Int32} (hd : decode k.2.1 pc = .ok (.lushr, 1)) (n : V g k j (pc + 1) ls (.long ((x.toUInt64 >>> (y.toInt64.toUInt64 &&& Int64.toUInt64 63)).toInt64) :: st) M) : V g k j pc ls (.int y :: .long x :: st) M := by
  intro p e s m args below meth c H locs LS C h2 h3 h4 h5
  exact lv_lushr C.1 C.2.1 hd rfl (n p e s m args below meth c H locs LS C h2 h3 h4 h5)
theorem v_i2l {g : Wo} {k : Mth} {j : Jd} {pc : Nat} {ls : List (Option Value)} {st : List Value} {M : Mem} {x : Int32} (hd : decode k.2.1 pc = .ok (.i2l, 1)) (n : V g k j (pc + 1) ls (.long x.toInt64 :: st) M) : V g k j pc ls (.int x :: st) M := by
  intro p e s m args below meth c H locs LS C h2 h3 h4 h5
  exact lv_i2l C.1 C.2.1 hd rfl (n p e s m args below meth c H locs LS C h2 h3 h4 h5)
theorem v_l2i {g : Wo} {k : Mth} {j : Jd} {pc : Nat} {ls : List (Option Value)} {st : List Value} {M : Mem} {x : Int64} (hd : decode k.2.1 pc = .ok (.l2i, 1)) (n : V g k j (pc + 1) ls (.int x.toInt32 :: st) M) : V g k j pc ls (.long x :: st) M := by
  intro p e s m args below meth c H locs LS C h2 h3 h4 h5
  exact lv_l2i C.1 C.2.1 hd rfl (n p e s m args below meth c H locs LS C h2 h3 h4 h5)
theorem v_i2b {g : Wo} {k : Mth} {j : Jd} {pc : Nat} {ls : List (Option Value)} {st : List Value} {M : Mem} {x : Int32} (hd : decode k.2.1 pc = .ok (.i2b, 1)) (n : V g k j (pc + 1) ls (.int x.toInt8.toInt32 :: st) M) : V g k j pc ls (.int x :: st) M := by
  intro p e s m args below meth c H locs LS C h2 h3 h4 h5
  exact lv_i2b C.1 C.2.1 hd rfl (n p e s m args below meth c H locs LS C h2 h3 h4 h5)
theorem v_i2s {g : Wo} {k : Mth} {j : Jd} {pc : Nat} {ls : List (Option Value)} {st : List Value} {M : Mem} {x : Int32} (hd : decode k.2.1 pc = .ok (.i2s, 1)) (n : V g k j (pc + 1) ls (.int x.toInt16.toInt32 :: st) M) : V g k j pc ls (.int x :: st) M := by
  intro p e s m args below meth c H locs LS C h2 h3 h4 h5
  exact lv_i2s C.1 C.2.1 hd rfl (n p e s m args below meth c H locs LS C h2 h3 h4 h5)
theorem v_i2c {g : Wo} {k : Mth} {j : Jd} {pc : Nat} {ls : List (Option Value)} {st : List Value} {M : Mem} {x : Int32} (hd : decode k.2.1 pc = .ok (.i2c, 1)) (n : V g k j (pc + 1) ls (.int (x.toUInt32 % 65536).toInt32 :: st) M) : V g k j pc ls (.int x :: st) M := by
  intro p e s m args below meth c H locs LS C h2 h3 h4 h5
  exact lv_i2c C.1 C.2.1 hd rfl (n p e s m args below meth c H locs LS C h2 h3 h4 h5)
theorem v_lcmp {g : Wo} {k : Mth} {j : Jd} {pc : Nat} {ls : List (Option Value)} {st : List Value} {M : Mem} {x y : Int64} (hd : decode k.2.1 pc = .ok (.lcmp, 1)) (n : V g k j (pc + 1) ls (.int (lg_cmp x y) :: st) M) : V g k j pc ls (.long y :: .long x :: st) M := by
  intro p e s m args below meth c H locs LS C h2 h3 h4 h5
  exact W.lcmp C.1 C.2.1 hd (n p e s m args below meth c H locs LS C h2 h3 h4 h5)
theorem v_dup {g : Wo} {k : Mth} {j : Jd} {pc : Nat} {ls : List (Option Value)} {st : List Value} {M : Mem} {va : Value} (hd : decode k.2.1 pc = .ok (.dup, 1)) (hva : va.category = 1) (n : V g k j (pc + 1) ls (va :: va :: st) M) : V g k j pc ls (va :: st) M := by
  intro p e s m args below meth c H locs LS C h2 h3 h4 h5
  exact lv_dup C.1 C.2.1 hd (by rw [trv_cat]; exact hva) (n p e s m args below meth c H locs LS C h2 h3 h4 h5)
theorem v_pop {g : Wo} {k : Mth} {j : Jd} {pc : Nat} {ls : List (Option Value)} {st : List Value} {M : Mem} {va : Value} (hd : decode k.2.1 pc = .ok (.pop, 1)) (hva : va.category = 1) (n : V g k j (pc + 1) ls (st) M) : V g k j pc ls (va :: st) M := by
  intro p e s m args below meth c H locs LS C h2 h3 h4 h5
  exact lv_pop C.1 C.2.1 hd (by rw [trv_cat]; exact hva) (n p e s m args below meth c H locs LS C h2 h3 h4 h5)
theorem v_dup2 {g : Wo} {k : Mth} {j : Jd} {pc : Nat} {ls : List (Option Value)} {st : List Value} {M : Mem} {va vb : Value} (hd : decode k.2.1 pc = .ok (.dup2, 1)) (hva : va.category = 1) (hvb : vb.category = 1) (n : V g k j (pc + 1) ls (va :: vb :: va :: vb :: st) M) : V g k j pc ls (va :: vb :: st) M := by
  intro p e s m args below meth c H locs LS C h2 h3 h4 h5
  exact lv_dup2_11 C.1 C.2.1 hd (by rw [trv_cat]; exact hva) (by rw [trv_cat]; exact hvb) (n p e s m args below meth c H locs LS C h2 h3 h4 h5)
theorem v_if_eq {g : Wo} {k : Mth} {j : Jd} {pc : Nat} {ls : List (Option Value)} {st : List Value} {M : Mem} {x : Int32} {off : Int} {tgt : Nat} (hd : decode k.2.1 pc = .ok (.ifCond .eq off, 3)) (ht : (pc : Int) + off = (tgt : Int)) (kt : x = 0 → V g k j tgt ls st M) (kf : ¬ x = 0 → V g k j (pc + 3) ls st M) : V g k j pc ls (.int x :: st) M := by
  intro p e s m args below meth c H locs LS C h2 h3 h4 h5
  exact lv_if_eq C.1 C.2.1 hd ht (fun q => kt q p e s m args below meth c H locs LS C h2 h3 h4 h5) (fun q => kf q p e s m args below meth c H locs LS C h2 h3 h4 h5)
theorem v_if_ne {g : Wo} {k : Mth} {j : Jd} {pc : Nat} {ls : List (Option Value)} {st : List Value} {M : Mem} {x : Int32} {off : Int} {tgt : Nat} (hd : decode k.2.1 pc = .ok (.ifCond .ne off, 3)) (ht : (pc : Int) + off = (tgt : Int)) (kt : ¬ x = 0 → V g k j tgt ls st M) (kf : x = 0 → V g k j (pc + 3) ls st M) : V g k j pc ls (.int x :: st) M := by
  intro p e s m args below meth c H locs LS C h2 h3 h4 h5
  exact lv_if_ne C.1 C.2.1 hd ht (fun q => kt q p e s m args below meth c H locs LS C h2 h3 h4 h5) (fun q => kf q p e s m args below meth c H locs LS C h2 h3 h4 h5)
theorem v_if_lt {g : Wo} {k : Mth} {j : Jd} {pc : Nat} {ls : List (Option Value)} {st : List Value} {M : Mem} {x : Int32} {off : Int} {tgt : Nat} (hd : decode k.2.1 pc = .ok (.ifCond .lt off, 3)) (ht : (pc : Int) + off = (tgt : Int)) (kt : x < 0 → V g k j tgt ls st M) (kf : ¬ x < 0 → V g k j (pc + 3) ls st M) : V g k j pc ls (.int x :: st) M := by
  intro p e s m args below meth c H locs LS C h2 h3 h4 h5
  exact lv_if_lt C.1 C.2.1 hd ht (fun q => kt q p e s m args below meth c H locs LS C h2 h3 h4 h5) (fun q => kf q p e s m args below meth c H locs LS C h2 h3 h4 h5)
theorem v_if_ge {g : Wo} {k : Mth} {j : Jd} {pc : Nat} {ls : List (Option Value)} {st : List Value} {M : Mem} {x : Int32} {off : Int} {tgt : Nat} (hd : decode k.2.1 pc = .ok (.ifCond .ge off, 3)) (ht : (pc : Int) + off = (tgt : Int)) (kt : 0 ≤ x → V g k j tgt ls st M) (kf : ¬ 0 ≤ x → V g k j (pc + 3) ls st M) : V g k j pc ls (.int x :: st) M := by
  intro p e s m args below meth c H locs LS C h2 h3 h4 h5
  exact lv_if_ge C.1 C.2.1 hd ht (fun q => kt q p e s m args below meth c H locs LS C h2 h3 h4 h5) (fun q => kf q p e s m args below meth c H locs LS C h2 h3 h4 h5)
theorem v_if_gt {g : Wo} {k : Mth} {j : Jd} {pc : Nat} {ls : List (Option Value)} {st : List Value} {M : Mem} {x : Int32} {off : Int} {tgt : Nat} (hd : decode k.2.1 pc = .ok (.ifCond .gt off, 3)) (ht : (pc : Int) + off = (tgt : Int)) (kt : 0 < x → V g k j tgt ls st M) (kf : ¬ 0 < x → V g k j (pc + 3) ls st M) : V g k j pc ls (.int x :: st) M := by
  intro p e s m args below meth c H locs LS C h2 h3 h4 h5
  exact lv_if_gt C.1 C.2.1 hd ht (fun q => kt q p e s m args below meth c H locs LS C h2 h3 h4 h5) (fun q => kf q p e s m args below meth c H locs LS C h2 h3 h4 h5)
theorem v_if_le {g : Wo} {k : Mth} {j : Jd} {pc : Nat} {ls : List (Option Value)} {st : List Value} {M : Mem} {x : Int32} {off : Int} {tgt : Nat} (hd : decode k.2.1 pc = .ok (.ifCond .le off, 3)) (ht : (pc : Int) + off = (tgt : Int)) (kt : x ≤ 0 → V g k j tgt ls st M) (kf : ¬ x ≤ 0 → V g k j (pc + 3) ls st M) : V g k j pc ls (.int x :: st) M := by
  intro p e s m args below meth c H locs LS C h2 h3 h4 h5
  exact lv_if_le C.1 C.2.1 hd ht (fun q => kt q p e s m args below meth c H locs LS C h2 h3 h4 h5) (fun q => kf q p e s m args below meth c H locs LS C h2 h3 h4 h5)
theorem v_icmp_eq {g : Wo} {k : Mth} {j : Jd} {pc : Nat} {ls : List (Option Value)} {st : List Value} {M : Mem} {x y : Int32} {off : Int} {tgt : Nat} (hd : decode k.2.1 pc = .ok (.if_icmp .eq off, 3)) (ht : (pc : Int) + off = (tgt : Int)) (kt : x = y → V g k j tgt ls st M) (kf : ¬ x = y → V g k j (pc + 3) ls st M) : V g k j pc ls (.int y :: .int x :: st) M := by
  intro p e s m args below meth c H locs LS C h2 h3 h4 h5
  exact lv_icmp_eq C.1 C.2.1 hd ht (fun q => kt q p e s m args below meth c H locs LS C h2 h3 h4 h5) (fun q => kf q p e s m args below meth c H locs LS C h2 h3 h4 h5)
theorem v_icmp_ne {g : Wo} {k : Mth} {j : Jd} {pc : Nat} {ls : List (Option Value)} {st : List Value} {M : Mem} {x y : Int32} {off : Int} {tgt : Nat} (hd : decode k.2.1 pc = .ok (.if_icmp .ne off, 3)) (ht : (pc : Int) + off = (tgt : Int)) (kt : ¬ x = y → V g k j tgt ls st M) (kf : x = y → V g k j (pc + 3) ls st M) : V g k j pc ls (.int y :: .int x :: st) M := by
  intro p e s m args below meth c H locs LS C h2 h3 h4 h5
  exact lv_icmp_ne C.1 C.2.1 hd ht (fun q => kt q p e s m args below meth c H locs LS C h2 h3 h4 h5) (fun q => kf q p e s m args below meth c H locs LS C h2 h3 h4 h5)
theorem v_icmp_lt {g : Wo} {k : Mth} {j : Jd} {pc : Nat} {ls : List (Option Value)} {st : List Value} {M : Mem} {x y : Int32} {off : Int} {tgt : Nat} (hd : decode k.2.1 pc = .ok (.if_icmp .lt off, 3)) (ht : (pc : Int) + off = (tgt : Int)) (kt : x < y → V g k j tgt ls st M) (kf : ¬ x < y → V g k j (pc + 3) ls st M) : V g k j pc ls (.int y :: .int x :: st) M := by
  intro p e s m args below meth c H locs LS C h2 h3 h4 h5
  exact lv_icmp_lt C.1 C.2.1 hd ht (fun q => kt q p e s m args below meth c H locs LS C h2 h3 h4 h5) (fun q => kf q p e s m args below meth c H locs LS C h2 h3 h4 h5)
theorem v_icmp_ge {g : Wo} {k : Mth} {j : Jd} {pc : Nat} {ls : List (Option Value)} {st : List Value} {M : Mem} {x y : Int32} {off : Int} {tgt : Nat} (hd : decode k.2.1 pc = .ok (.if_icmp .ge off, 3)) (ht : (pc : Int) + off = (tgt : Int)) (kt : y ≤ x → V g k j tgt ls st M) (kf : ¬ y ≤ x → V g k j (pc + 3) ls st M) : V g k j pc ls (.int y :: .int x :: st) M := by
  intro p e s m args below meth c H locs LS C h2 h3 h4 h5
  exact lv_icmp_ge C.1 C.2.1 hd ht (fun q => kt q p e s m args below meth c H locs LS C h2 h3 h4 h5) (fun q => kf q p e s m args below meth c H locs LS C h2 h3 h4 h5)
theorem v_icmp_gt {g : Wo} {k : Mth} {j : Jd} {pc : Nat} {ls : List (Option Value)} {st : List Value} {M : Mem} {x y : Int32} {off : Int} {tgt : Nat} (hd : decode k.2.1 pc = .ok (.if_icmp .gt off, 3)) (ht : (pc : Int) + off = (tgt : Int)) (kt : y < x → V g k j tgt ls st M) (kf : ¬ y < x → V g k j (pc + 3) ls st M) : V g k j pc ls (.int y :: .int x :: st) M := by
  intro p e s m args below meth c H locs LS C h2 h3 h4 h5
  exact lv_icmp_gt C.1 C.2.1 hd ht (fun q => kt q p e s m args below meth c H locs LS C h2 h3 h4 h5) (fun q => kf q p e s m args below meth c H locs LS C h2 h3 h4 h5)
theorem v_icmp_le {g : Wo} {k : Mth} {j : Jd} {pc : Nat} {ls : List (Option Value)} {st : List Value} {M : Mem} {x y : Int32} {off : Int} {tgt : Nat} (hd : decode k.2.1 pc = .ok (.if_icmp .le off, 3)) (ht : (pc : Int) + off = (tgt : Int)) (kt : x ≤ y → V g k j tgt ls st M) (kf : ¬ x ≤ y → V g k j (pc + 3) ls st M) : V g k j pc ls (.int y :: .int x :: st) M := by
  intro p e s m args below meth c H locs LS C h2 h3 h4 h5
  exact lv_icmp_le C.1 C.2.1 hd ht (fun q => kt q p e s m args below meth c H locs LS C h2 h3 h4 h5) (fun q => kf q p e s m args below meth c H locs LS C h2 h3 h4 h5)
theorem v_goto {g : Wo} {k : Mth} {j : Jd} {pc : Nat} {ls : List (Option Value)} {st : List Value} {M : Mem} {off : Int} {tgt : Nat} (hd : decode k.2.1 pc = .ok (.goto off, 3)) (ht : (pc : Int) + off = (tgt : Int)) (n : V g k j tgt ls st M) : V g k j pc ls st M := by
  intro p e s m args below meth c H locs LS C h2 h3 h4 h5
  exact lv_goto C.1 C.2.1 hd ht (n p e s m args below meth c H locs LS C h2 h3 h4 h5)
theorem v_tabOut {g : Wo} {k : Mth} {j : Jd} {pc : Nat} {ls : List (Option Value)} {st : List Value} {M : Mem} {dflt lo hi : Int} {offs : Array Int} {len : Nat} {x : Int32} {tgt : Nat} (hd : decode k.2.1 pc = .ok (.tableswitch dflt lo hi offs, len)) (h : x.toInt < lo ∨ hi < x.toInt) (ht : (pc : Int) + dflt = (tgt : Int)) (n : V g k j tgt ls st M) : V g k j pc ls (.int x :: st) M := by
  intro p e s m args below meth c H locs LS C h2 h3 h4 h5
  exact lv_tableOut C.1 C.2.1 hd h ht (n p e s m args below meth c H locs LS C h2 h3 h4 h5)
theorem v_tabIn {g : Wo} {k : Mth} {j : Jd} {pc : Nat} {ls : List (Option Value)} {st : List Value} {M : Mem} {dflt lo hi : Int} {offs : Array Int} {len : Nat} {x : Int32} {off : Int} {tgt : Nat} (hd : decode k.2.1 pc = .ok (.tableswitch dflt lo hi offs, len)) (h1 : ¬ x.toInt < lo) (h2 : ¬ hi < x.toInt) (ho : offs[(x.toInt - lo).toNat]? = some off) (ht : (pc : Int) + off = (tgt : Int)) (n : V g k j tgt ls st M) : V g k j pc ls (.int x :: st) M := by
  intro p e s m args below meth c H locs LS C h2 h3 h4 h5
  exact lv_tableIn C.1 C.2.1 hd h1 ‹¬ hi < x.toInt› ho ht (n p e s m args below meth c H locs LS C h2 h3 h4 h5)
theorem v_lookup {g : Wo} {k : Mth} {j : Jd} {pc : Nat} {ls : List (Option Value)} {st : List Value} {M : Mem} {dflt : Int} {ps : Array (Int × Int)} {len : Nat} {x : Int32} {off : Int} {tgt : Nat} (hd : decode k.2.1 pc = .ok (.lookupswitch dflt ps, len)) (hp : (ps.toList.zip (ps.toList.drop 1)).all (fun (a, next) => a.1 < next.1) = true) (ho : Op.lookupswitch.offset ps.toList dflt x.toInt = off) (ht : (pc : Int) + off = (tgt : Int)) (n : V g k j tgt ls st M) : V g k j pc ls (.int x :: st) M := by
  intro p e s m args below meth c H locs LS C h2 h3 h4 h5
  exact lv_lookup C.1 C.2.1 hd hp ho ht (n p e s m args below meth c H locs LS C h2 h3 h4 h5)
theorem v_ldc {g : Wo} {k : Mth} {j : Jd} {pc : Nat} {ls : List (Option Value)} {st : List Value} {M : Mem} {idx : Nat} {v : Int32} (hd : decode k.2.1 pc = .ok (.ldc idx, 2)) (hw : Cond.constant k.1.cls idx v ∈ Tw) (n : V g k j (pc + 2) ls (.int v :: st) M) : V g k j pc ls st M := by
  intro p e s m args below meth c H locs LS C h2 h3 h4 h5
  exact lv_ldc C.1 C.2.1 C.2.2.2.2.1 (C.2.2.2.2.2.1 _ hw) hd (n p e s m args below meth c H locs LS C h2 h3 h4 h5)
theorem v_ldcw {g : Wo} {k : Mth} {j : Jd} {pc : Nat} {ls : List (Option Value)} {st : List Value} {M : Mem} {idx : Nat} {v : Int32} (hd : decode k.2.1 pc = .ok (.ldc_w idx, 3)) (hw : Cond.constant k.1.cls idx v ∈ Tw) (n : V g k j (pc + 3) ls (.int v :: st) M) : V g k j pc ls st M := by
  intro p e s m args below meth c H locs LS C h2 h3 h4 h5
  exact lv_ldcw C.1 C.2.1 C.2.2.2.2.1 (C.2.2.2.2.2.1 _ hw) hd (n p e s m args below meth c H locs LS C h2 h3 h4 h5)
theorem v_ldc2 {g : Wo} {k : Mth} {j : Jd} {pc : Nat} {ls : List (Option Value)} {st : List Value} {M : Mem} {idx : Nat} {v : Int64} (hd : decode k.2.1 pc = .ok (.ldc2_w idx, 3)) (hw : Cond.constantLong k.1.cls idx v ∈ Tw) (n : V g k j (pc + 3) ls (.long v :: st) M) : V g k j pc ls st M := by
  intro p e s m args below meth c H locs LS C h2 h3 h4 h5
  exact lv_ldc2 C.1 C.2.1 C.2.2.2.2.1 (C.2.2.2.2.2.1 _ hw) hd (n p e s m args below meth c H locs LS C h2 h3 h4 h5)
theorem v_ldcS {g : Wo} {k : Mth} {j : Jd} {pc : Nat} {ls : List (Option Value)} {st : List Value} {M : Mem} {idx : Nat} {i : Nat} {tx : String} (hd : decode k.2.1 pc = .ok (.ldc idx, 2)) (hw : strL[i]? = some (k.1.cls, idx, tx)) (n : V g k j (pc + 2) ls (.ref (100 + i) :: st) M) : V g k j pc ls st M := by
  intro p e s m args below meth c H locs LS C h2 h3 h4 h5
  exact va_ldcS C.1 C.2.1 C.2.2.2.2.1 (C.2.2.2.2.2.2.2.2.2.2.1 i _ hw) hd (n p e s m args below meth c H locs LS C h2 h3 h4 h5)
/-! returns -/
theorem v_vret {g : Wo} {k : Mth} {d : Nat} {pc : Nat} {ls : List (Option Value)} {M : Mem} (hr : k.2.2.2 = none) (hd : decode k.2.1 pc = .ok (.return_, 1)) : V g k (jm g d none M) pc ls [] M := by
  intro p e s m args below meth c H locs LS C h2 h3 h4 h5
  have hlocks : meth.locks = false := C.2.2.2.2.2.2.1
  exact W.vret C.1 C.2.1 (C.2.2.1.trans hr) (fun t ht hW => ⟨rfl, by rw [ht]; exact h4, h3.F ht⟩) h3.2.2 hd
theorem v_iret {g : Wo} {k : Mth} {d : Nat} {pc : Nat} {ls : List (Option Value)} {M : Mem} {v : Int32} (hr : k.2.2.2 = some .int) (hd : decode k.2.1 pc = .ok (.ireturn, 1)) : V g k (jm g d (some (.int v)) M) pc ls [.int v] M := by
  intro p e s m args below meth c H locs LS C h2 h3 h4 h5
  have hlocks : meth.locks = false := C.2.2.2.2.2.2.1
  exact W.iret C.1 C.2.1 (C.2.2.1.trans hr) (fun t ht hW => ⟨rfl, by rw [ht]; exact h4, h3.F ht⟩) h3.2.2 hd
theorem v_lret {g : Wo} {k : Mth} {d : Nat} {pc : Nat} {ls : List (Option Value)} {M : Mem} {v : Int64} (hr : k.2.2.2 = some .long) (hd : decode k.2.1 pc = .ok (.lreturn, 1)) : V g k (jm g d (some (.long v)) M) pc ls [.long v] M := by
  intro p e s m args below meth c H locs LS C h2 h3 h4 h5
  have hlocks : meth.locks = false := C.2.2.2.2.2.2.1
  exact W.lret C.1 C.2.1 (C.2.2.1.trans hr) (fun t ht hW => ⟨rfl, by rw [ht]; exact h4, h3.F ht⟩) h3.2.2 hd
theorem v_zret {g : Wo} {k : Mth} {d : Nat} {pc : Nat} {ls : List (Option Value)} {M : Mem} {v : Int32} {ty : FieldType} (hr : k.2.2.2 = some ty) (hn : narrow ty (.int v) = .int v) (hd : decode k.2.1 pc = .ok (.ireturn, 1)) : V g k (jm g d (some (.int v)) M) pc ls [.int v] M := by
  intro p e s m args below meth c H locs LS C h2 h3 h4 h5
  have hlocks : meth.locks = false := C.2.2.2.2.2.2.1
  exact W.zret C.1 C.2.1 (C.2.2.1.trans hr) hn (fun t ht hW => ⟨rfl, by rw [ht]; exact h4, h3.F ht⟩) h3.2.2 hd
theorem v_aret {g : Wo} {k : Mth} {d : Nat} {pc : Nat} {ls : List (Option Value)} {M : Mem} {r : Nat} {n : String} (hr : k.2.2.2 = some (.object n)) (hd : decode k.2.1 pc = .ok (.areturn, 1)) : V g k (jm g d (some (.ref r)) M) pc ls [.ref r] M := by
  intro p e s m args below meth c H locs LS C h2 h3 h4 h5
  have hlocks : meth.locks = false := C.2.2.2.2.2.2.1
  exact W.aret C.1 C.2.1 (C.2.2.1.trans hr) (Or.inl ⟨n, rfl⟩) (Or.inr ⟨_, rfl⟩) (fun t ht hW => ⟨rfl, by rw [ht]; exact h4, h3.F ht⟩) h3.2.2 hd
/-! fields -/
theorem cls_in : ∀ (ci : Nat) (q : vw_C), vwCl[ci]? = some q → ∀ w ∈ u_ws q.1 q.2.1 q.2.2, w ∈ Tw := by
  intro ci q hq w hw
  have h : ∀ q ∈ vwCl, (u_ws q.1 q.2.1 q.2.2).all (fun w => decide (w ∈ lw_tbl) && goodWord w) = true := by decide +kernel
  have h1 := List.all_eq_true.mp (h q (List.mem_of_getElem? hq)) w hw
  simp only [Bool.and_eq_true, decide_eq_true_eq] at h1
  exact List.mem_filter.mpr h1
def tyO (T : u_T) (k : Nat) : FieldType := (parseFieldDescriptor (T k).2.2.1).getD .int
theorem cls_ty : ∀ (ci : Nat) (q : vw_C), vwCl[ci]? = some q → ∀ k, k < q.2.2 → parseFieldDescriptor (q.2.1 k).2.2.1 = some (tyO q.2.1 k) := by
  intro ci q hq
  have h : ∀ q ∈ vwCl, ∀ k, k < q.2.2 → parseFieldDescriptor (q.2.1 k).2.2.1 = some (tyO q.2.1 k) := by decide +kernel
  exact h q (List.mem_of_getElem? hq)
theorem cls_nm : ∀ (ci : Nat) (q : vw_C), vwCl[ci]? = some q → ∀ a, a < q.2.2 → ∀ b, b < q.2.2 → a ≠ b → (q.2.1 a).2.1 ≠ (q.2.1 b).2.1 := by
  intro ci q hq
  have h : ∀ q ∈ vwCl, ∀ a, a < q.2.2 → ∀ b, b < q.2.2 → a ≠ b → (q.2.1 a).2.1 ≠ (q.2.1 b).2.1 := by decide +kernel
  exact h q (List.mem_of_getElem? hq)
def FL (own : String) (idx ci k : Nat) : Prop := ∃ q : vw_C, vwCl[ci]? = some q ∧ k < q.2.2 ∧ Cond.fieldLink own idx q.1 (q.2.1 k).2.1 (q.2.1 k).2.2.1 ∈ Tw ∧ (q.2.1 k).1 = q.1
/-- a field that isn't final, of an int or a boolean -/
def FP (own : String) (idx ci k : Nat) (ty : FieldType) : Prop := ∃ q : vw_C, vwCl[ci]? = some q ∧ k < q.2.2 ∧ Cond.fieldLink own idx q.1 (q.2.1 k).2.1 (q.2.1 k).2.2.1 ∈ Tw ∧ (q.2.1 k).1 = q.1 ∧ (q.2.1 k).2.2.2 = false ∧ parseFieldDescriptor (q.2.1 k).2.2.1 = some ty
theorem fldE_at {g : Wo} {M : Mem} {c k : Nat} {fs : List (Option Nat)} {o : Option Nat} (h : fs[k]? = some o) : (fldE g M c fs)[k]? = some (fvE g M c k o) := by
  rw [fldE, List.getElem?_mapIdx, h]; rfl
def fvM (M : Mem) (c k : Nat) : Option Nat → Value
  | none => Value.int (M.1 c k)
  | some r => Value.ref r
theorem v_get {g : Wo} {k : Mth} {j : Jd} {pc : Nat} {ls : List (Option Value)} {st : List Value} {M : Mem} {idx c ci f : Nat} {fs : List (Option Nat)} {o : Option Nat} (hd : decode k.2.1 pc = .ok (.getfield idx, 3)) (hf : FL k.1.cls idx ci f) (hs : sh c = (0, ci, fs)) (ho : fs[f]? = some o) (n : V g k j (pc + 3) ls (fvM M c f o :: st) M) : V g k j pc ls (.ref c :: st) M := by
  intro p e s m args below meth c1 H locs LS C h2 h3 h4 h5
  obtain ⟨q, q1, q2, q3, q4⟩ := hf
  have hc : c < 61 := sh_lt hs (by simp)
  have hcell : (wsOf g M)[c]? = some (g.2.2.1 c, .inr (ci, fldE g M c fs)) := by rw [ws_at g M hc, cell0 hs]
  have n := n p e s m args below meth c1 H locs LS C h2 h3 h4 h5
  refine va_get (D := g.2.1) (C := q.1) (T := q.2.1) (N := q.2.2) (ref := q.1) C.1 C.2.1 C.2.2.2.2.2.1 (cls_in ci q q1) C.2.2.2.2.1 C.2.2.2.2.2.2.2.1 h4 c hcell q1 f q2 (C.2.2.2.2.2.1 _ q3) (by rw [q4]; exact fun x hx => hx) (fldE_at ho) hd ?_
  cases o with
  | none => exact n
  | some r => exact n
theorem v_geti {g : Wo} {k : Mth} {j : Jd} {pc : Nat} {ls : List (Option Value)} {st : List Value} {M : Mem} {idx c ci f : Nat} {fs : List (Option Nat)} (hd : decode k.2.1 pc = .ok (.getfield idx, 3)) (hf : FL k.1.cls idx ci f) (hs : sh c = (0, ci, fs)) (ho : fs[f]? = some none) (n : V g k j (pc + 3) ls (Value.int (M.1 c f) :: st) M) : V g k j pc ls (.ref c :: st) M := v_get hd hf hs ho n
theorem v_getr {g : Wo} {k : Mth} {j : Jd} {pc : Nat} {ls : List (Option Value)} {st : List Value} {M : Mem} {idx c ci f r : Nat} {fs : List (Option Nat)} (hd : decode k.2.1 pc = .ok (.getfield idx, 3)) (hf : FL k.1.cls idx ci f) (hs : sh c = (0, ci, fs)) (ho : fs[f]? = some (some r)) (n : V g k j (pc + 3) ls (Value.ref r :: st) M) : V g k j pc ls (.ref c :: st) M := v_get hd hf hs ho n
theorem setI_ne (M : Mem) {c j : Nat} {v : Int32} : ∀ a, a ≠ c → (setI M c j v).1 a = M.1 a := fun a h => by simp [setI, h]
theorem setI_eq (M : Mem) {c j : Nat} {v : Int32} : (setI M c j v).1 c = upd (M.1 c) j v := by simp [setI]
theorem setJ_ne (M : Mem) {c j : Nat} {v : Int64} : ∀ a, a ≠ c → (setJ M c j v).2 a = M.2 a := fun a h => by simp [setJ, h]
theorem setJ_eq (M : Mem) {c j : Nat} {v : Int64} : (setJ M c j v).2 c = vp_updL (M.2 c) j v := by simp [setJ]
theorem v_put {g : Wo} {k : Mth} {j : Jd} {pc : Nat} {ls : List (Option Value)} {st : List Value} {M : Mem} {idx c ci f : Nat} {fs : List (Option Nat)} {x : Int32} {ty : FieldType} (hd : decode k.2.1 pc = .ok (.putfield idx, 3)) (hf : FP k.1.cls idx ci f ty) (hs : sh c = (0, ci, fs)) (ho : fs[f]? = some none) (hn : narrow ty (.int x) = .int x) (hfit : fits ty (.int x) = true) (n : V g k j (pc + 3) ls st (setI M c f x)) : V g k j pc ls (.int x :: .ref c :: st) M := by
  intro p e s m args below meth c1 H locs LS C h2 h3 h4 h5
  obtain ⟨q, q1, q2, q3, q4, q5, q6⟩ := hf
  have hc : c < 61 := sh_lt hs (by simp)
  have hcell : (wsOf g M)[c]? = some (g.2.2.1 c, .inr (ci, fldE g M c fs)) := by rw [ws_at g M hc, cell0 hs]
  have hlen : f < (fldE g M c fs).length := by
    have := (List.getElem?_eq_some_iff.mp ho).1
    simpa [fldE] using this
  have he : (wsOf g M).set c (g.2.2.1 c, .inr (ci, (fldE g M c fs).set f (.int x))) = wsOf g (setI M c f x) := by
    rw [← ws_set g (M := M) (M' := setI M c f x) hc (setI_ne M) (fun _ _ => rfl)]
    have e : cellE g (setI M c f x) c = .inr (ci, (fldE g M c fs).set f (.int x)) := by
      rw [cell0 hs]
      have e2 : fldE g (setI M c f x) c fs = (fldE g M c fs).set f (.int x) := by
        apply List.ext_getElem?
        intro i
        by_cases hi : i = f
        · subst hi
          rw [List.getElem?_set_self hlen, fldE_at ho, fvE, setI_eq]
          simp [upd]
        · rw [List.getElem?_set_ne (Ne.symm hi), fldE, fldE, List.getElem?_mapIdx, List.getElem?_mapIdx]
          cases fs[i]? with
          | none => rfl
          | some o => cases o <;> simp [fvE, setI_eq, upd, hi]
      rw [e2]
    rw [e]
  refine va_put (D := g.2.1) (C := q.1) (T := q.2.1) (N := q.2.2) (ref := q.1) C.1 C.2.1 C.2.2.2.2.2.1 (cls_in ci q q1) (tyO q.2.1) (cls_ty ci q q1) (cls_nm ci q q1) C.2.2.2.2.1 C.2.2.2.2.2.2.2.1 h4 (ws_D C.2.2.2.2.2.2.2.2.1 M) h3 c hcell q1 f q2 (C.2.2.2.2.2.1 _ q3) (by rw [q4]; exact fun x hx => hx) q5 (v := .int x) q6 hn hfit hlen hd (fun H1 locs1 hP hD hS => ?_)
  rw [he] at hP
  exact n p e s m args below meth c1 H1 locs1 LS C h2 hS hP h5
theorem v_puti {g : Wo} {k : Mth} {j : Jd} {pc : Nat} {ls : List (Option Value)} {st : List Value} {M : Mem} {idx c ci f : Nat} {fs : List (Option Nat)} {x : Int32} (hd : decode k.2.1 pc = .ok (.putfield idx, 3)) (hf : FP k.1.cls idx ci f .int) (hs : sh c = (0, ci, fs)) (ho : fs[f]? = some none) (n : V g k j (pc + 3) ls st (setI M c f x)) : V g k j pc ls (.int x :: .ref c :: st) M := v_put hd hf hs ho rfl rfl n
theorem v_putz {g : Wo} {k : Mth} {j : Jd} {pc : Nat} {ls : List (Option Value)} {st : List Value} {M : Mem} {idx c ci f : Nat} {fs : List (Option Nat)} {x : Int32} (hd : decode k.2.1 pc = .ok (.putfield idx, 3)) (hf : FP k.1.cls idx ci f .boolean) (hs : sh c = (0, ci, fs)) (ho : fs[f]? = some none) (hx : x = 0 ∨ x = 1) (n : V g k j (pc + 3) ls st (setI M c f x)) : V g k j pc ls (.int x :: .ref c :: st) M :=
  v_put hd hf hs ho (by rcases hx with rfl | rfl <;> rfl) (by rcases hx with rfl | rfl <;> rfl) n
/-! arrays -/
theorem v_iald {g : Wo} {k : Mth} {j : Jd} {pc : Nat} {ls : List (Option Value)} {st : List Value} {M : Mem} {c N : Nat} {z : List (Option Nat)} {i : Int32} (hd : decode k.2.1 pc = .ok (.iaload, 1)) (hs : sh c = (1, N, z)) (hi : vp_in i N) (n : V g k j (pc + 1) ls (.int (M.1 c i.toNatClampNeg) :: st) M) : V g k j pc ls (.int i :: .ref c :: st) M := by
  intro p e s m args below meth c1 H locs LS C h2 h3 h4 h5
  exact va_iald C.1 C.2.1 C.2.2.2.2.2.2.2.1 h4 c 0 (by rw [ws_at g M (sh_lt hs (by simp)), cell1 hs]) rfl hi hd (n p e s m args below meth c1 H locs LS C h2 h3 h4 h5)
theorem v_lald {g : Wo} {k : Mth} {j : Jd} {pc : Nat} {ls : List (Option Value)} {st : List Value} {M : Mem} {c N : Nat} {z : List (Option Nat)} {i : Int32} (hd : decode k.2.1 pc = .ok (.laload, 1)) (hs : sh c = (2, N, z)) (hi : vp_in i N) (n : V g k j (pc + 1) ls (.long (M.2 c i.toNatClampNeg) :: st) M) : V g k j pc ls (.int i :: .ref c :: st) M := by
  intro p e s m args below meth c1 H locs LS C h2 h3 h4 h5
  exact va_lald C.1 C.2.1 C.2.2.2.2.2.2.2.1 h4 c 1 (by rw [ws_at g M (sh_lt hs (by simp)), cell2 hs]) rfl hi hd (n p e s m args below meth c1 H locs LS C h2 h3 h4 h5)
theorem v_iast {g : Wo} {k : Mth} {j : Jd} {pc : Nat} {ls : List (Option Value)} {st : List Value} {M : Mem} {c N : Nat} {z : List (Option Nat)} {i x : Int32} (hd : decode k.2.1 pc = .ok (.iastore, 1)) (hs : sh c = (1, N, z)) (hi : vp_in i N) (n : V g k j (pc + 1) ls st (setI M c i.toNatClampNeg x)) : V g k j pc ls (.int x :: .int i :: .ref c :: st) M := by
  intro p e s m args below meth c1 H locs LS C h2 h3 h4 h5
  have hc : c < 61 := sh_lt hs (by simp)
  refine va_iast C.1 C.2.1 C.2.2.2.2.2.2.2.1 h4 (ws_D C.2.2.2.2.2.2.2.2.1 M) h3 c 0 (by rw [ws_at g M hc, cell1 hs]) rfl hi hd (fun H1 locs1 hP hD hS => ?_)
  have he : (wsOf g M).set c (g.2.2.1 c, .inl (g.2.2.2 0, N, .inl (upd (M.1 c) i.toNatClampNeg x))) = wsOf g (setI M c i.toNatClampNeg x) := by
    rw [← ws_set g (M := M) (M' := setI M c i.toNatClampNeg x) hc (setI_ne M) (fun _ _ => rfl), cell1 hs]
    simp only [setI_eq]
  rw [he] at hP
  exact n p e s m args below meth c1 H1 locs1 LS C h2 hS hP h5
theorem v_last {g : Wo} {k : Mth} {j : Jd} {pc : Nat} {ls : List (Option Value)} {st : List Value} {M : Mem} {c N : Nat} {z : List (Option Nat)} {i : Int32} {x : Int64} (hd : decode k.2.1 pc = .ok (.lastore, 1)) (hs : sh c = (2, N, z)) (hi : vp_in i N) (n : V g k j (pc + 1) ls st (setJ M c i.toNatClampNeg x)) : V g k j pc ls (.long x :: .int i :: .ref c :: st) M := by
  intro p e s m args below meth c1 H locs LS C h2 h3 h4 h5
  have hc : c < 61 := sh_lt hs (by simp)
  refine va_last C.1 C.2.1 C.2.2.2.2.2.2.2.1 h4 (ws_D C.2.2.2.2.2.2.2.2.1 M) h3 c 1 (by rw [ws_at g M hc, cell2 hs]) rfl hi hd (fun H1 locs1 hP hD hS => ?_)
  have he : (wsOf g M).set c (g.2.2.1 c, .inl (g.2.2.2 1, N, .inr (.inl (vp_updL (M.2 c) i.toNatClampNeg x)))) = wsOf g (setJ M c i.toNatClampNeg x) := by
    rw [← ws_set g (M := M) (M' := setJ M c i.toNatClampNeg x) hc (fun _ _ => rfl) (setJ_ne M), cell2 hs]
    simp only [setJ_eq]
  rw [he] at hP
  exact n p e s m args below meth c1 H1 locs1 LS C h2 hS hP h5
theorem v_aaldW {g : Wo} {k : Mth} {j : Jd} {pc : Nat} {ls : List (Option Value)} {st : List Value} {M : Mem} {c N r : Nat} {z : List (Option Nat)} {i : Int32} (hd : decode k.2.1 pc = .ok (.aaload, 1)) (hs : sh c = (3, N, z)) (hi : vp_in i N) (hr : z.getD i.toNatClampNeg none = some r) (n : V g k j (pc + 1) ls (.ref r :: st) M) : V g k j pc ls (.int i :: .ref c :: st) M := by
  intro p e s m args below meth c1 H locs LS C h2 h3 h4 h5
  refine va_aldq C.1 C.2.1 C.2.2.2.2.2.2.2.1 h4 c 2 (by rw [ws_at g M (sh_lt hs (by simp)), cell3 hs]) rfl hi hd ?_
  rw [hr]
  exact n p e s m args below meth c1 H locs LS C h2 h3 h4 h5
theorem v_aaldS {g : Wo} {k : Mth} {j : Jd} {pc : Nat} {ls : List (Option Value)} {st : List Value} {M : Mem} {c N r : Nat} {z : List (Option Nat)} {i : Int32} (hd : decode k.2.1 pc = .ok (.aaload, 1)) (hs : sh c = (4, N, z)) (hi : vp_in i N) (hr : z.getD i.toNatClampNeg none = some r) (n : V g k j (pc + 1) ls (.ref r :: st) M) : V g k j pc ls (.int i :: .ref c :: st) M := by
  intro p e s m args below meth c1 H locs LS C h2 h3 h4 h5
  refine va_aldq C.1 C.2.1 C.2.2.2.2.2.2.2.1 h4 c 3 (by rw [ws_at g M (sh_lt hs (by simp)), cell4 hs]) rfl hi hd ?_
  rw [hr]
  exact n p e s m args below meth c1 H locs LS C h2 h3 h4 h5
theorem v_alen {g : Wo} {k : Mth} {j : Jd} {pc : Nat} {ls : List (Option Value)} {st : List Value} {M : Mem} {c N : Nat} {z : List (Option Nat)} {v : Int32} (hd : decode k.2.1 pc = .ok (.arraylength, 1)) (hs : sh c = (1, N, z)) (hv : Int32.ofNat N = v) (n : V g k j (pc + 1) ls (.int v :: st) M) : V g k j pc ls (.ref c :: st) M := by
  intro p e s m args below meth c1 H locs LS C h2 h3 h4 h5
  exact va_alen C.1 C.2.1 C.2.2.2.2.2.2.2.1 h4 c 0 (by rw [ws_at g M (sh_lt hs (by simp)), cell1 hs]) rfl hv hd (n p e s m args below meth c1 H locs LS C h2 h3 h4 h5)
theorem v_alenJ {g : Wo} {k : Mth} {j : Jd} {pc : Nat} {ls : List (Option Value)} {st : List Value} {M : Mem} {c N : Nat} {z : List (Option Nat)} {v : Int32} (hd : decode k.2.1 pc = .ok (.arraylength, 1)) (hs : sh c = (2, N, z)) (hv : Int32.ofNat N = v) (n : V g k j (pc + 1) ls (.int v :: st) M) : V g k j pc ls (.ref c :: st) M := by
  intro p e s m args below meth c1 H locs LS C h2 h3 h4 h5
  exact va_alen C.1 C.2.1 C.2.2.2.2.2.2.2.1 h4 c 1 (by rw [ws_at g M (sh_lt hs (by simp)), cell2 hs]) rfl hv hd (n p e s m args below meth c1 H locs LS C h2 h3 h4 h5)
/-! calls -/
theorem tw_good : ∀ w ∈ Tw, goodWord w = true := fun w h => (List.mem_filter.mp h).2
theorem goodTw {y : Mth} (h : Cond.code y.1 y.2.1 y.2.2.1 y.2.2.2 ∈ Tw) : GoodIn Tw (mW y) := by
  intro w hw
  rcases List.mem_cons.mp hw with rfl | hw
  · exact ⟨h, good_of_word (tw_good _ h)⟩
  · exact ⟨hw, good_of_word (tw_good w hw)⟩
theorem run_go {p : Program} {l : Launch} {e : Env} {R : Room} {s : State} {m : MethodId} {args a : Array Value} {below : List Frame} {meth : Method} {c : Code} {H : Heap} {locs : List Loc} {cells slots pc : Nat} {Q : State → Prop} {LS : Array Slot} {st0 rest : List Value} {g : Wo} {r : Option Value} {M1 : Mem}
    (hr : va_Run p l e R s m args below meth c H locs cells slots 0 0 (F0 m pc LS st0) rest (Qc g r M1 a) (inA g)) (hS : va_S (inA g) s.heap H locs)
    (kk : ∀ (H1 : Heap) (locs1 : List Loc), Pd g M1 H1 → va_S (inA g) s.heap H1 locs1 → W p l e R s m args below meth c H1 locs1 cells slots Q (F0 m (pc + 3) LS ((r.map (trv g)).toList ++ rest))) : W p l e R s m args below meth c H locs cells slots Q (F0 m pc LS st0) := by
  intro T hT X
  obtain ⟨v, st₀, t, T', L, h0, X', hL, e1, e2, ⟨hv, hp, hz, hk⟩, st⟩ := hr T hT X
  cases hv
  rw [h0] at hz hk
  obtain ⟨t2, a1, b1⟩ := kk T'.heap (locs ++ L) (by rw [e1]; exact hp)
    ⟨Nat.le_trans hS.1 (by rw [e1]; exact hz), fun q h1 h2 => by rw [e1, hk q (Nat.lt_of_lt_of_le h1 hS.1) h2]; exact hS.2.1 q h1 h2, fun q hq => by
      rcases List.mem_append.mp hq with h | h
      · exact hS.2.2 q h
      · exact hL q h⟩ T' rfl X'
  exact ⟨t2, st t2 a1, b1⟩
def ML (own : String) (idx : Nat) (y : Mth) (n : Nat) : Prop := Cond.methodLink own idx y.1 ∈ Tw ∧ Cond.initialized y.1.cls ∈ Tw ∧ Cond.code y.1 y.2.1 y.2.2.1 y.2.2.2 ∈ Tw ∧ (y.1.cls ≠ "java/lang/invoke/MethodHandle" ∧ y.1.cls ≠ "java/lang/invoke/VarHandle" ∧ (parseMethodDescriptor y.1.desc).map (fun d => d.parameters.length) = some n)
def MLs (own : String) (idx : Nat) (y : Mth) (n : Nat) : Prop := ML own idx y n ∧ Cond.static y.1 ∈ Tw
def MLv (own : String) (idx : Nat) (y : Mth) (n : Nat) : Prop := ML own idx y n ∧ Cond.instanceMethod y.1 ∈ Tw ∧ Cond.selects y.1.cls y.1 y.1 ∈ Tw
def MLn (own : String) (idx : Nat) (y : Mth) (n : Nat) : Prop := (∃ host, (own, idx, y.1, host) ∈ nestL) ∧ Cond.initialized y.1.cls ∈ Tw ∧ Cond.code y.1 y.2.1 y.2.2.1 y.2.2.2 ∈ Tw ∧ (y.1.cls ≠ "java/lang/invoke/MethodHandle" ∧ y.1.cls ≠ "java/lang/invoke/VarHandle" ∧ (parseMethodDescriptor y.1.desc).map (fun d => d.parameters.length) = some n) ∧ Cond.static y.1 ∈ Tw
def CR (R : Room) (y : Mth) (d a b : Nat) : Prop := (d + 1 ≤ R.frames ∧ 8 + (y.2.2.1 + 11) + 64 * d ≤ R.locals) ∧ a + 0 ≤ R.cells ∧ b + 0 ≤ R.slots
theorem blind {g : Wo} {as : List Value} {M : Mem} : FrameBlind (va_Pc (as.map (trv g)) (fun U => Pd g M U.heap ∧ Kd g U)) := fun a U f mk h => ⟨h.1, h.2.1, Kd_same h.2.2 rfl rfl⟩
theorem Sp_pre {g : Wo} {as : List Value} {M : Mem} {s : State} {H : Heap} {locs : List Loc} (hP : Pd g M H) (hS : va_S (inA g) s.heap H locs) (hK : Kd g s) : ∀ U : State, U.heap = H → s.WarmedH U.vm → va_Pc (as.map (trv g)) (fun U => Pd g M U.heap ∧ Kd g U) (as.map (trv g)).toArray U :=
  fun U hU hW => ⟨rfl, by rw [hU]; exact hP, Kd_moved hK hU hS hW⟩
theorem v_callS {g : Wo} {k : Mth} {j : Jd} {pc : Nat} {ls : List (Option Value)} {st stk : List Value} {M M1 : Mem} {r : Option Value} {idx d n : Nat} {y : Mth} {as : List Value} (hM : Sp g y d as M r M1) (hd : decode k.2.1 pc = .ok (.invokestatic idx, 3)) (hl : MLs k.1.cls idx y n) (hR : CR j.1 y d j.2.1 j.2.2.1) (hst : as.reverse ++ st = stk) (hn : as.length = n) (hw : (st.map fun v => v.category).sum ≤ 8) (nx : V g k j (pc + 3) ls (r.toList ++ st) M1) : V g k j pc ls stk M := by
  intro p e s m args below meth c H locs LS C h2 h3 h4 h5
  subst hst
  obtain ⟨hx, hb, hr, hml, hown, hts, hlk, hK⟩ := id C
  obtain ⟨⟨l1, l2, l3, l4⟩, l5⟩ := hl
  refine run_go (va_runS (As := as.map (trv g)) (rest := st.map (trv g)) ⟨hx, hb, hml, hown, hts⟩ hM ⟨callB_of n hts (goodTw l3) rfl rfl rfl (hts _ l2) (hts _ l1) l4 hR.1, hts _ l5⟩ ⟨blind, Sp_pre h4 h3 hK⟩ rfl (by rw [List.length_map]; exact hn) h5.1 (by rw [List.map_append, List.map_reverse]) (lv_room (by rw [List.map_map]; simpa [Function.comp_def, trv_cat] using hw)) hd hR.2) h3 (fun H1 locs1 hP hS => ?_)
  have := nx p e s m args below meth c H1 locs1 LS C h2 hS hP h5
  rw [List.map_append] at this
  cases r <;> exact this
theorem v_callN {g : Wo} {k : Mth} {j : Jd} {pc : Nat} {ls : List (Option Value)} {st stk : List Value} {M M1 : Mem} {r : Option Value} {idx d n : Nat} {y : Mth} {as : List Value} (hM : Sp g y d as M r M1) (hd : decode k.2.1 pc = .ok (.invokestatic idx, 3)) (hl : MLn k.1.cls idx y n) (hR : CR j.1 y d j.2.1 j.2.2.1) (hst : as.reverse ++ st = stk) (hn : as.length = n) (hw : (st.map fun v => v.category).sum ≤ 8) (nx : V g k j (pc + 3) ls (r.toList ++ st) M1) : V g k j pc ls stk M := by
  intro p e s m args below meth c H locs LS C h2 h3 h4 h5
  subst hst
  obtain ⟨hx, hb, hr, hml, hown, hts, hlk, hK⟩ := id C
  obtain ⟨⟨host, l1⟩, l2, l3, l4, l5⟩ := hl
  refine run_go (va_runSN (As := as.map (trv g)) (rest := st.map (trv g)) ⟨hx, hb, hml, hown, hts⟩ hM ⟨va_cnB n hts (goodTw l3) rfl rfl rfl (hK.2.2.2.2.1 _ l1) (hts _ l2) l4 hR.1, hts _ l5, trivial⟩ ⟨blind, Sp_pre h4 h3 hK⟩ rfl (by rw [List.length_map]; exact hn) h5.1 (by rw [List.map_append, List.map_reverse]) (lv_room (by rw [List.map_map]; simpa [Function.comp_def, trv_cat] using hw)) hd hR.2) h3 (fun H1 locs1 hP hS => ?_)
  have := nx p e s m args below meth c H1 locs1 LS C h2 hS hP h5
  rw [List.map_append] at this
  cases r <;> exact this
theorem v_callW {g : Wo} {k : Mth} {j : Jd} {pc : Nat} {ls : List (Option Value)} {st stk : List Value} {M M1 : Mem} {r : Option Value} {idx d n b : Nat} {y : Mth} {as : List Value} (hM : Sp g y d (.ref b :: as) M r M1) (hd : decode k.2.1 pc = .ok (.invokevirtual idx, 3)) (hl : MLv k.1.cls idx y n) (hR : CR j.1 y d j.2.1 j.2.2.1)
    (hrec : ∀ (s : State) (H : Heap) (locs : List Loc), Kd g s → va_S (inA g) s.heap H locs → Pd g M H → ∃ cell : Cell, H[g.2.2.1 b]? = some cell ∧ cell.vm.isStatics = false ∧ s.vm.findClass y.1.cls = some cell.cls) (hst : as.reverse ++ .ref b :: st = stk) (hn : as.length = n) (hw : (st.map fun v => v.category).sum ≤ 8) (nx : V g k j (pc + 3) ls (r.toList ++ st) M1) : V g k j pc ls stk M := by
  intro p e s m args below meth c H locs LS C h2 h3 h4 h5
  subst hst
  obtain ⟨hx, hb, hr, hml, hown, hts, hlk, hK⟩ := id C
  obtain ⟨⟨l1, l2, l3, l4⟩, l5, l6⟩ := hl
  refine run_go (va_runV (C := y.1.cls) (b := g.2.2.1 b) (As := as.map (trv g)) (rest := st.map (trv g)) ⟨hx, hb, hml, hown, hts⟩ hM ⟨callB_of n hts (goodTw l3) rfl rfl rfl (hts _ l2) (hts _ l1) l4 hR.1, hts _ l5, hts _ l6⟩ ⟨blind, hrec s H locs hK h3 h4, Sp_pre (as := .ref b :: as) h4 h3 hK⟩ rfl (by rw [List.length_map]; exact hn) h5.1 (by rw [List.map_append, List.map_reverse]; rfl) (lv_room (by rw [List.map_map]; simpa [Function.comp_def, trv_cat] using hw)) hd hR.2) h3 (fun H1 locs1 hP hS => ?_)
  have := nx p e s m args below meth c H1 locs1 LS C h2 hS hP h5
  rw [List.map_append] at this
  cases r <;> exact this
theorem rec_obj {g : Wo} {M : Mem} {b ci : Nat} {fs : List (Option Nat)} {q : vw_C} (hs : sh b = (0, ci, fs)) (hq : vwCl[ci]? = some q) : ∀ (s : State) (H : Heap) (locs : List Loc), Kd g s → va_S (inA g) s.heap H locs → Pd g M H → ∃ cell : Cell, H[g.2.2.1 b]? = some cell ∧ cell.vm.isStatics = false ∧ s.vm.findClass q.1 = some cell.cls :=
  fun s H locs hK hS hP => va_recv hK.1 hP hq (q0 := b) (by rw [ws_at g M (sh_lt hs (by simp)), cell0 hs])
theorem rec_str {g : Wo} {M : Mem} {i : Nat} (hi : i < 15) : ∀ (s : State) (H : Heap) (locs : List Loc), Kd g s → va_S (inA g) s.heap H locs → Pd g M H → ∃ cell : Cell, H[g.2.2.1 (100 + i)]? = some cell ∧ cell.vm.isStatics = false ∧ s.vm.findClass "java/lang/String" = some cell.cls :=
  fun s H locs hK hS hP => vk_recv (adK := fun i => g.2.2.1 (100 + i)) (i := i) hK.2.2.1 hi hS
theorem v_callV {g : Wo} {k : Mth} {j : Jd} {pc : Nat} {ls : List (Option Value)} {st stk : List Value} {M M1 : Mem} {r : Option Value} {idx d n b ci : Nat} {fs : List (Option Nat)} {y : Mth} {as : List Value} {T : u_T} {N : Nat} (hM : Sp g y d (.ref b :: as) M r M1) (hd : decode k.2.1 pc = .ok (.invokevirtual idx, 3)) (hl : MLv k.1.cls idx y n) (hR : CR j.1 y d j.2.1 j.2.2.1) (hs : sh b = (0, ci, fs)) (hq : vwCl[ci]? = some (y.1.cls, T, N)) (hst : as.reverse ++ .ref b :: st = stk) (hn : as.length = n) (hw : (st.map fun v => v.category).sum ≤ 8) (nx : V g k j (pc + 3) ls (r.toList ++ st) M1) : V g k j pc ls stk M :=
  v_callW hM hd hl hR (rec_obj hs hq) hst hn hw nx
end
section
theorem tw_of {w : Cond} {i : Nat} (h : tables_1[i]? = some w) (hg : goodWord w = true) : w ∈ Tw := List.mem_filter.mpr ⟨List.mem_append_right _ (List.mem_of_getElem? h), hg⟩
theorem tw_sel {q : MethodName × Nat} {i : Nat} (h : lw_privs[i]? = some q) : Cond.selects q.1.cls q.1 q.1 ∈ Tw := List.mem_filter.mpr ⟨List.mem_append_left _ (List.mem_map.mpr ⟨q, List.mem_of_getElem? h, rfl⟩), rfl⟩
abbrev kX5_init : Mth := (yX5_init, cX5_init, 2, none)
abbrev kX0_init : Mth := (yX0_init, cX0_init, 2, none)
abbrev kX4_init : Mth := (yX4_init, cX4_init, 1, none)
abbrev kX2_init : Mth := (yX2_init, cX2_init, 1, none)
abbrev kX3_init : Mth := (yX3_init, cX3_init, 3, none)
abbrev kX1_init : Mth := (yX1_init, cX1_init, 1, none)
abbrev kX5_field : Mth := (yX5_field, cX5_field, 2, (some .int))
abbrev kX5_isRough : Mth := (yX5_isRough, cX5_isRough, 1, (some .boolean))
abbrev kX5_tell : Mth := (yX5_tell, cX5_tell, 3, (some .int))
abbrev kX0_addField : Mth := (yX0_addField, cX0_addField, 4, (some .int))
abbrev kX5_wayOf : Mth := (yX5_wayOf, cX5_wayOf, 2, (some .int))
abbrev kX5_of : Mth := (yX5_of, cX5_of, 3, (some .int))
abbrev kX0_hasField : Mth := (yX0_hasField, cX0_hasField, 2, (some .boolean))
abbrev kX0_roughOf : Mth := (yX0_roughOf, cX0_roughOf, 2, (some .int))
abbrev kX0_gluedSidesOf : Mth := (yX0_gluedSidesOf, cX0_gluedSidesOf, 4, (some .int))
abbrev kX0_isFree : Mth := (yX0_isFree, cX0_isFree, 2, (some .boolean))
abbrev kX0_gluedTo : Mth := (yX0_gluedTo, cX0_gluedTo, 2, (some .int))
abbrev kX0_ways : Mth := (yX0_ways, cX0_ways, 1, (some .int))
abbrev kX0_walkersOn : Mth := (yX0_walkersOn, cX0_walkersOn, 4, (some .int))
abbrev kX5_fieldOf : Mth := (yX5_fieldOf, cX5_fieldOf, 1, (some .int))
abbrev kX5_rough : Mth := (yX5_rough, cX5_rough, 4, (some .int))
abbrev kX0_makeRough : Mth := (yX0_makeRough, cX0_makeRough, 3, none)
abbrev kX5_glue : Mth := (yX5_glue, cX5_glue, 7, (some .int))
abbrev kX0_hasWay : Mth := (yX0_hasWay, cX0_hasWay, 3, (some .boolean))
abbrev kX0_join : Mth := (yX0_join, cX0_join, 3, none)
abbrev kX5_cut : Mth := (yX5_cut, cX5_cut, 5, (some .int))
abbrev kX0_sever : Mth := (yX0_sever, cX0_sever, 3, none)
abbrev kX5_over : Mth := (yX5_over, cX5_over, 3, (some .int))
abbrev kX5_numberOrNone : Mth := (yX5_numberOrNone, cX5_numberOrNone, 2, (some .int))
abbrev kX5_walker : Mth := (yX5_walker, cX5_walker, 4, (some .int))
abbrev kX5_isKind : Mth := (yX5_isKind, cX5_isKind, 1, (some .boolean))
abbrev kX0_addWalker : Mth := (yX0_addWalker, cX0_addWalker, 3, (some .int))
abbrev kX4_begin : Mth := (yX4_begin, cX4_begin, 3, none)
abbrev kX5_its : Mth := (yX5_its, cX5_its, 4, (some .int))
abbrev kX0_hasWalker : Mth := (yX0_hasWalker, cX0_hasWalker, 2, (some .boolean))
abbrev kX5_headingOf : Mth := (yX5_headingOf, cX5_headingOf, 1, (some .int))
abbrev kX4_payOf : Mth := (yX4_payOf, cX4_payOf, 2, (some .int))
abbrev kX4_above : Mth := (yX4_above, cX4_above, 1, (some .int))
abbrev kX5_place : Mth := (yX5_place, cX5_place, 6, (some .int))
abbrev kX5_turn : Mth := (yX5_turn, cX5_turn, 5, (some .int))
abbrev kX5_as : Mth := (yX5_as, cX5_as, 4, (some .int))
abbrev kX4_isUnder : Mth := (yX4_isUnder, cX4_isUnder, 4, (some .boolean))
abbrev kX5_step : Mth := (yX5_step, cX5_step, 3, (some .int))
abbrev kX4_move : Mth := (yX4_move, cX4_move, 4, none)
abbrev kX0_goOn : Mth := (yX0_goOn, cX0_goOn, 3, (some .int))
abbrev kX5_turned : Mth := (yX5_turned, cX5_turned, 2, (some .int))
abbrev kX4_quartersAtBump : Mth := (yX4_quartersAtBump, cX4_quartersAtBump, 1, (some .int))
abbrev kX4_quartersOnComing : Mth := (yX4_quartersOnComing, cX4_quartersOnComing, 3, (some .int))
abbrev kX5_steps : Mth := (yX5_steps, cX5_steps, 3, (some .int))
abbrev kX4_moveOften : Mth := (yX4_moveOften, cX4_moveOften, 4, none)
abbrev kX0_milesOfAll : Mth := (yX0_milesOfAll, cX0_milesOfAll, 3, (some .int))
abbrev kX5_on : Mth := (yX5_on, cX5_on, 4, (some .int))
abbrev kX5_isStepsOn : Mth := (yX5_isStepsOn, cX5_isStepsOn, 1, (some .boolean))
abbrev kX4_become : Mth := (yX4_become, cX4_become, 2, none)
abbrev kX5_when : Mth := (yX5_when, cX5_when, 4, (some .int))
abbrev kX5_back : Mth := (yX5_back, cX5_back, 4, (some .int))
abbrev kX5_meet : Mth := (yX5_meet, cX5_meet, 4, (some .int))
abbrev kX5_spares : Mth := (yX5_spares, cX5_spares, 5, (some .int))
abbrev kX5_closes : Mth := (yX5_closes, cX5_closes, 6, (some .int))
abbrev kX5_bumps : Mth := (yX5_bumps, cX5_bumps, 5, (some .int))
abbrev kX5_square : Mth := (yX5_square, cX5_square, 7, (some .int))
abbrev kX0_goOnOften : Mth := (yX0_goOnOften, cX0_goOnOften, 5, (some .int))
abbrev kX5_dine : Mth := (yX5_dine, cX5_dine, 8, (some .int))
abbrev kX5_sees : Mth := (yX5_sees, cX5_sees, 3, (some .int))
abbrev kX0_seenFrom : Mth := (yX0_seenFrom, cX0_seenFrom, 5, (some .int))
abbrev kX5_twice : Mth := (yX5_twice, cX5_twice, 6, (some .int))
abbrev kJ6_bitCount_0f7a4 : Mth := (yJ6_bitCount_0f7a4, cJ6_bitCount_0f7a4, 1, (some .int))
abbrev kX5_about : Mth := (yX5_about, cX5_about, 5, (some .int))
abbrev kX0_roundCorner : Mth := (yX0_roundCorner, cX0_roundCorner, 7, (some .long))
abbrev kJ13_bitCount_95d88 : Mth := (yJ13_bitCount_95d88, cJ13_bitCount_95d88, 2, (some .int))
abbrev kX5_corners : Mth := (yX5_corners, cX5_corners, 1, (some .int))
abbrev kX0_sumOfCorners : Mth := (yX0_sumOfCorners, cX0_sumOfCorners, 9, (some .int))
abbrev kX5_excess : Mth := (yX5_excess, cX5_excess, 1, (some .int))
abbrev kX5_bent : Mth := (yX5_bent, cX5_bent, 5, (some .int))
abbrev kX5_parts : Mth := (yX5_parts, cX5_parts, 4, (some .int))
abbrev kX0_spread : Mth := (yX0_spread, cX0_spread, 9, none)
abbrev kJ7_fill_53178 : Mth := (yJ7_fill_53178, cJ7_fill_53178, 4, none)
abbrev kX0_lower : Mth := (yX0_lower, cX0_lower, 3, (some .boolean))
abbrev kX5_reached : Mth := (yX5_reached, cX5_reached, 4, (some .int))
abbrev kX5_far : Mth := (yX5_far, cX5_far, 3, (some .int))
abbrev kX5_least : Mth := (yX5_least, cX5_least, 5, (some .int))
abbrev kX5_smooth : Mth := (yX5_smooth, cX5_smooth, 3, (some .int))
abbrev kX5_turns : Mth := (yX5_turns, cX5_turns, 6, (some .int))
abbrev kX0_spreadTurning : Mth := (yX0_spreadTurning, cX0_spreadTurning, 6, none)
abbrev kJ9_min_7cf53 : Mth := (yJ9_min_7cf53, cJ9_min_7cf53, 2, (some .int))
abbrev kX5_within : Mth := (yX5_within, cX5_within, 3, (some .int))
abbrev kX5_mends : Mth := (yX5_mends, cX5_mends, 8, (some .int))
abbrev kX5_farThrough : Mth := (yX5_farThrough, cX5_farThrough, 5, (some .int))
abbrev kX5_feed : Mth := (yX5_feed, cX5_feed, 4, (some .int))
abbrev kX2_add : Mth := (yX2_add, cX2_add, 2, none)
abbrev kX5_wipe : Mth := (yX5_wipe, cX5_wipe, 2, (some .int))
abbrev kX5_plain : Mth := (yX5_plain, cX5_plain, 2, (some .int))
abbrev kX0_become : Mth := (yX0_become, cX0_become, 3, none)
abbrev kX3_tellAll : Mth := (yX3_tellAll, cX3_tellAll, 2, (some .int))
abbrev kX2_begin : Mth := (yX2_begin, cX2_begin, 1, none)
abbrev kX2_advance : Mth := (yX2_advance, cX2_advance, 1, none)
abbrev kX2_isLetter : Mth := (yX2_isLetter, cX2_isLetter, 1, (some .boolean))
abbrev kX2_isDigit : Mth := (yX2_isDigit, cX2_isDigit, 1, (some .boolean))
abbrev kX3_tellItem : Mth := (yX3_tellItem, cX3_tellItem, 1, (some .boolean))
abbrev kX2_isWord : Mth := (yX2_isWord, cX2_isWord, 3, (some .boolean))
abbrev kJ0_length_8abf5 : Mth := (yJ0_length_8abf5, cJ0_length_8abf5, 1, (some .int))
abbrev kJ0_coder_7d493 : Mth := (yJ0_coder_7d493, cJ0_coder_7d493, 1, (some .byte))
abbrev kJ0_charAt_5068e : Mth := (yJ0_charAt_5068e, cJ0_charAt_5068e, 2, (some .char))
abbrev kJ0_isLatin1_aae02 : Mth := (yJ0_isLatin1_aae02, cJ0_isLatin1_aae02, 1, (some .boolean))
abbrev kJ1_charAt_3b067 : Mth := (yJ1_charAt_3b067, cJ1_charAt_3b067, 2, (some .char))
abbrev kJ0_checkIndex_df160 : Mth := (yJ0_checkIndex_df160, cJ0_checkIndex_df160, 2, none)
abbrev kJ3_checkIndex_8e157 : Mth := (yJ3_checkIndex_8e157, cJ3_checkIndex_8e157, 3, (some .int))
abbrev kJ2_charAt_3b067 : Mth := (yJ2_charAt_3b067, cJ2_charAt_3b067, 2, (some .char))
abbrev kJ2_checkIndex_2214a : Mth := (yJ2_checkIndex_2214a, cJ2_checkIndex_2214a, 2, none)
abbrev kJ2_length_9d52b : Mth := (yJ2_length_9d52b, cJ2_length_9d52b, 1, (some .int))
abbrev kJ2_getChar_3b067 : Mth := (yJ2_getChar_3b067, cJ2_getChar_3b067, 2, (some .char))
abbrev kX3_tellField : Mth := (yX3_tellField, cX3_tellField, 2, (some .boolean))
abbrev kX2_isNumberBelow : Mth := (yX2_isNumberBelow, cX2_isNumberBelow, 2, (some .boolean))
abbrev kX3_tellGlue : Mth := (yX3_tellGlue, cX3_tellGlue, 3, (some .boolean))
abbrev kX3_lookAtSide : Mth := (yX3_lookAtSide, cX3_lookAtSide, 3, (some .int))
abbrev kX3_sideNamed : Mth := (yX3_sideNamed, cX3_sideNamed, 2, (some .int))
abbrev kX3_sideName : Mth := (yX3_sideName, cX3_sideName, 1, (some (.object "java/lang/String")))
abbrev kX3_tellCut : Mth := (yX3_tellCut, cX3_tellCut, 2, (some .boolean))
abbrev kX3_tellWalker : Mth := (yX3_tellWalker, cX3_tellWalker, 3, (some .boolean))
abbrev kX3_kindNamed : Mth := (yX3_kindNamed, cX3_kindNamed, 2, (some .int))
abbrev kX3_kindName : Mth := (yX3_kindName, cX3_kindName, 1, (some (.object "java/lang/String")))
abbrev kX5_sheet : Mth := (yX5_sheet, cX5_sheet, 5, (some .int))
abbrev kX5_isSheet : Mth := (yX5_isSheet, cX5_isSheet, 1, (some .boolean))
abbrev kX1_begin : Mth := (yX1_begin, cX1_begin, 3, none)
abbrev kJ7_fill_d0a16 : Mth := (yJ7_fill_d0a16, cJ7_fill_d0a16, 5, none)
abbrev kX5_write : Mth := (yX5_write, cX5_write, 9, (some .long))
abbrev kX5_sheetFinding : Mth := (yX5_sheetFinding, cX5_sheetFinding, 2, (some .int))
abbrev kX1_lowestBits : Mth := (yX1_lowestBits, cX1_lowestBits, 3, (some .long))
abbrev kX5_copy : Mth := (yX5_copy, cX5_copy, 8, (some .int))
abbrev kX1_hasRow : Mth := (yX1_hasRow, cX1_hasRow, 3, (some .boolean))
abbrev kX5_lays : Mth := (yX5_lays, cX5_lays, 8, (some .int))
abbrev kX5_book : Mth := (yX5_book, cX5_book, 6, (some .int))
abbrev kX5_bookFinding : Mth := (yX5_bookFinding, cX5_bookFinding, 4, (some .int))
abbrev kX5_read : Mth := (yX5_read, cX5_read, 6, (some .int))
abbrev kX5_goesByBook : Mth := (yX5_goesByBook, cX5_goesByBook, 3, (some .boolean))
abbrev kX5_image : Mth := (yX5_image, cX5_image, 1, (some .int))
abbrev kX5_undo : Mth := (yX5_undo, cX5_undo, 1, (some .int))
abbrev kX5_tear : Mth := (yX5_tear, cX5_tear, 2, (some .int))
abbrev kX5_count : Mth := (yX5_count, cX5_count, 2, (some .int))
abbrev kX0_gluedSides : Mth := (yX0_gluedSides, cX0_gluedSides, 3, (some .int))
abbrev kX5_status : Mth := (yX5_status, cX5_status, 4, (some .int))
abbrev kX6_init : Mth := (yX6_init, cX6_init, 1, none)
abbrev kX6_field : Mth := (yX6_field, cX6_field, 2, (some .int))
abbrev kX6_in : Mth := (yX6_in, cX6_in, 6, (some .boolean))
abbrev kX6_finds : Mth := (yX6_finds, cX6_finds, 2, (some .int))
abbrev kX6_adds : Mth := (yX6_adds, cX6_adds, 2, (some .int))
abbrev kX6_of : Mth := (yX6_of, cX6_of, 3, (some .int))
abbrev kX6_isField : Mth := (yX6_isField, cX6_isField, 2, (some .boolean))
abbrev kX6_gluedOf : Mth := (yX6_gluedOf, cX6_gluedOf, 4, (some .int))
abbrev kX6_those : Mth := (yX6_those, cX6_those, 4, (some .int))
abbrev kX6_partOf : Mth := (yX6_partOf, cX6_partOf, 3, (some .int))
abbrev kX6_spot : Mth := (yX6_spot, cX6_spot, 2, (some .int))
abbrev kX6_rough : Mth := (yX6_rough, cX6_rough, 3, (some .int))
abbrev kX6_becomes : Mth := (yX6_becomes, cX6_becomes, 4, (some .int))
abbrev kX6_glue : Mth := (yX6_glue, cX6_glue, 5, (some .int))
abbrev kX6_isWay : Mth := (yX6_isWay, cX6_isWay, 3, (some .boolean))
abbrev kX6_isSide : Mth := (yX6_isSide, cX6_isSide, 1, (some .boolean))
abbrev kX6_glues : Mth := (yX6_glues, cX6_glues, 3, none)
abbrev kX6_cut : Mth := (yX6_cut, cX6_cut, 4, (some .int))
abbrev kX6_cuts : Mth := (yX6_cuts, cX6_cuts, 2, none)
abbrev kX6_over : Mth := (yX6_over, cX6_over, 4, (some .int))
abbrev kX6_walker : Mth := (yX6_walker, cX6_walker, 4, (some .int))
abbrev kX6_isKind : Mth := (yX6_isKind, cX6_isKind, 1, (some .boolean))
abbrev kX6_comes : Mth := (yX6_comes, cX6_comes, 5, (some .int))
abbrev kX6_its : Mth := (yX6_its, cX6_its, 3, (some .int))
abbrev kX6_isWalker : Mth := (yX6_isWalker, cX6_isWalker, 2, (some .boolean))
abbrev kX6_pays : Mth := (yX6_pays, cX6_pays, 2, (some .int))
abbrev kX6_place : Mth := (yX6_place, cX6_place, 5, (some .int))
abbrev kX6_wayOf : Mth := (yX6_wayOf, cX6_wayOf, 2, (some .int))
abbrev kX6_stands : Mth := (yX6_stands, cX6_stands, 3, none)
abbrev kX6_turn : Mth := (yX6_turn, cX6_turn, 3, (some .int))
abbrev kX6_as : Mth := (yX6_as, cX6_as, 4, (some .int))
abbrev kX6_above : Mth := (yX6_above, cX6_above, 1, (some .int))
abbrev kX6_step : Mth := (yX6_step, cX6_step, 2, (some .int))
abbrev kX6_goes : Mth := (yX6_goes, cX6_goes, 6, none)
abbrev kX6_onward : Mth := (yX6_onward, cX6_onward, 3, (some .int))
abbrev kX6_atBump : Mth := (yX6_atBump, cX6_atBump, 1, (some .int))
abbrev kX6_quarters : Mth := (yX6_quarters, cX6_quarters, 3, (some .int))
abbrev kX6_steps : Mth := (yX6_steps, cX6_steps, 3, (some .int))
abbrev kX6_all : Mth := (yX6_all, cX6_all, 2, none)
abbrev kX6_allMiles : Mth := (yX6_allMiles, cX6_allMiles, 3, (some .int))
abbrev kX6_on : Mth := (yX6_on, cX6_on, 5, (some .int))
abbrev kX6_laysAside : Mth := (yX6_laysAside, cX6_laysAside, 2, none)
abbrev kX6_takesBack : Mth := (yX6_takesBack, cX6_takesBack, 3, (some .int))
abbrev kX6_when : Mth := (yX6_when, cX6_when, 4, (some .int))
abbrev kX6_orNone : Mth := (yX6_orNone, cX6_orNone, 3, (some .int))
abbrev kX6_back : Mth := (yX6_back, cX6_back, 4, (some .int))
abbrev kX6_meet : Mth := (yX6_meet, cX6_meet, 4, (some .int))
abbrev kX6_spares : Mth := (yX6_spares, cX6_spares, 4, (some .int))
abbrev kX6_closes : Mth := (yX6_closes, cX6_closes, 6, (some .int))
abbrev kX6_bumps : Mth := (yX6_bumps, cX6_bumps, 5, (some .int))
abbrev kX6_square : Mth := (yX6_square, cX6_square, 8, (some .int))
abbrev kX6_dine : Mth := (yX6_dine, cX6_dine, 8, (some .int))
abbrev kX6_sees : Mth := (yX6_sees, cX6_sees, 3, (some .int))
abbrev kX6_seen : Mth := (yX6_seen, cX6_seen, 4, (some .int))
abbrev kX6_twice : Mth := (yX6_twice, cX6_twice, 6, (some .int))
abbrev kX6_ones : Mth := (yX6_ones, cX6_ones, 3, (some .int))
abbrev kX6_about : Mth := (yX6_about, cX6_about, 4, (some .int))
abbrev kX6_aboutOf : Mth := (yX6_aboutOf, cX6_aboutOf, 4, (some .int))
abbrev kX6_beside : Mth := (yX6_beside, cX6_beside, 3, (some .int))
abbrev kX6_corners : Mth := (yX6_corners, cX6_corners, 3, (some .int))
abbrev kX6_isFirst : Mth := (yX6_isFirst, cX6_isFirst, 4, (some .boolean))
abbrev kX6_excess : Mth := (yX6_excess, cX6_excess, 3, (some .int))
abbrev kX6_bent : Mth := (yX6_bent, cX6_bent, 3, (some .int))
abbrev kX6_parts : Mth := (yX6_parts, cX6_parts, 6, (some .int))
abbrev kX6_spread : Mth := (yX6_spread, cX6_spread, 4, (some .int))
abbrev kX6_far : Mth := (yX6_far, cX6_far, 3, (some .int))
abbrev kX6_farOf : Mth := (yX6_farOf, cX6_farOf, 5, (some .int))
abbrev kX6_smooth : Mth := (yX6_smooth, cX6_smooth, 7, (some .int))
abbrev kX6_turns : Mth := (yX6_turns, cX6_turns, 10, (some .int))
abbrev kX6_within : Mth := (yX6_within, cX6_within, 5, (some .int))
abbrev kX6_mends : Mth := (yX6_mends, cX6_mends, 8, (some .int))
abbrev kX6_feed : Mth := (yX6_feed, cX6_feed, 4, (some .int))
abbrev kX6_wipe : Mth := (yX6_wipe, cX6_wipe, 2, (some .int))
abbrev kX6_plain : Mth := (yX6_plain, cX6_plain, 2, (some .int))
abbrev kX6_saves : Mth := (yX6_saves, cX6_saves, 2, none)
abbrev kX6_token : Mth := (yX6_token, cX6_token, 3, none)
abbrev kX6_byteAt : Mth := (yX6_byteAt, cX6_byteAt, 2, (some .int))
abbrev kX6_isLetter : Mth := (yX6_isLetter, cX6_isLetter, 1, (some .boolean))
abbrev kX6_isDigit : Mth := (yX6_isDigit, cX6_isDigit, 1, (some .boolean))
abbrev kX6_item : Mth := (yX6_item, cX6_item, 4, none)
abbrev kX6_kindHere : Mth := (yX6_kindHere, cX6_kindHere, 3, (some .int))
abbrev kX6_word : Mth := (yX6_word, cX6_word, 4, (some .long))
abbrev kX6_walkerItem : Mth := (yX6_walkerItem, cX6_walkerItem, 5, none)
abbrev kX6_wants : Mth := (yX6_wants, cX6_wants, 2, none)
abbrev kX6_fieldHere : Mth := (yX6_fieldHere, cX6_fieldHere, 1, none)
abbrev kX6_number : Mth := (yX6_number, cX6_number, 6, none)
abbrev kX6_sideNamed : Mth := (yX6_sideNamed, cX6_sideNamed, 3, (some .int))
abbrev kX6_fieldItem : Mth := (yX6_fieldItem, cX6_fieldItem, 3, none)
abbrev kX6_glueItem : Mth := (yX6_glueItem, cX6_glueItem, 3, none)
abbrev kX6_sideHere : Mth := (yX6_sideHere, cX6_sideHere, 6, (some .int))
abbrev kX6_cutItem : Mth := (yX6_cutItem, cX6_cutItem, 2, none)
abbrev kX6_putsBack : Mth := (yX6_putsBack, cX6_putsBack, 2, none)
abbrev kX6_sheet : Mth := (yX6_sheet, cX6_sheet, 5, (some .int))
abbrev kX6_isOne : Mth := (yX6_isOne, cX6_isOne, 1, (some .boolean))
abbrev kX6_write : Mth := (yX6_write, cX6_write, 8, (some .long))
abbrev kX6_wrong : Mth := (yX6_wrong, cX6_wrong, 2, (some .int))
abbrev kX6_narrowed : Mth := (yX6_narrowed, cX6_narrowed, 3, (some .long))
abbrev kX6_copy : Mth := (yX6_copy, cX6_copy, 7, (some .int))
abbrev kX6_lays : Mth := (yX6_lays, cX6_lays, 7, (some .int))
abbrev kX6_book : Mth := (yX6_book, cX6_book, 5, (some .int))
abbrev kX6_wrongBook : Mth := (yX6_wrongBook, cX6_wrongBook, 4, (some .int))
abbrev kX6_read : Mth := (yX6_read, cX6_read, 6, (some .int))
abbrev kX6_isSo : Mth := (yX6_isSo, cX6_isSo, 5, (some .int))
abbrev kX6_image : Mth := (yX6_image, cX6_image, 2, (some .int))
abbrev kX6_undo : Mth := (yX6_undo, cX6_undo, 2, (some .int))
abbrev kX6_tear : Mth := (yX6_tear, cX6_tear, 2, (some .int))
abbrev kX6_count : Mth := (yX6_count, cX6_count, 2, (some .int))
abbrev kX6_gluedSides : Mth := (yX6_gluedSides, cX6_gluedSides, 3, (some .int))
abbrev kX6_status : Mth := (yX6_status, cX6_status, 4, (some .int))
theorem w_38 : Cond.fieldLink RX4 9 "BentPlain$Walker" "kind" "I" ∈ Tw := tw_of (i := 38) (by decide +kernel) (by decide +kernel)
theorem flX4_9 : FL RX4 9 4 0 := ⟨_, rfl, by decide, w_38, rfl⟩
theorem fpX4_9 : FP RX4 9 4 0 .int := ⟨_, rfl, by decide, w_38, rfl, rfl, by decide +kernel⟩
theorem w_39 : Cond.fieldLink RX5 142 "BentPlain$Walker" "kind" "I" ∈ Tw := tw_of (i := 39) (by decide +kernel) (by decide +kernel)
theorem flX5_142 : FL RX5 142 4 0 := ⟨_, rfl, by decide, w_39, rfl⟩
theorem fpX5_142 : FP RX5 142 4 0 .int := ⟨_, rfl, by decide, w_39, rfl, rfl, by decide +kernel⟩
theorem w_40 : Cond.fieldLink RX4 15 "BentPlain$Walker" "way" "I" ∈ Tw := tw_of (i := 40) (by decide +kernel) (by decide +kernel)
theorem flX4_15 : FL RX4 15 4 1 := ⟨_, rfl, by decide, w_40, rfl⟩
theorem fpX4_15 : FP RX4 15 4 1 .int := ⟨_, rfl, by decide, w_40, rfl, rfl, by decide +kernel⟩
theorem w_41 : Cond.fieldLink RX5 145 "BentPlain$Walker" "way" "I" ∈ Tw := tw_of (i := 41) (by decide +kernel) (by decide +kernel)
theorem flX5_145 : FL RX5 145 4 1 := ⟨_, rfl, by decide, w_41, rfl⟩
theorem fpX5_145 : FP RX5 145 4 1 .int := ⟨_, rfl, by decide, w_41, rfl, rfl, by decide +kernel⟩
theorem w_42 : Cond.fieldLink RX0 65 "BentPlain$Walker" "way" "I" ∈ Tw := tw_of (i := 42) (by decide +kernel) (by decide +kernel)
theorem flX0_65 : FL RX0 65 4 1 := ⟨_, rfl, by decide, w_42, rfl⟩
theorem fpX0_65 : FP RX0 65 4 1 .int := ⟨_, rfl, by decide, w_42, rfl, rfl, by decide +kernel⟩
theorem w_43 : Cond.fieldLink RX4 18 "BentPlain$Walker" "miles" "I" ∈ Tw := tw_of (i := 43) (by decide +kernel) (by decide +kernel)
theorem flX4_18 : FL RX4 18 4 2 := ⟨_, rfl, by decide, w_43, rfl⟩
theorem fpX4_18 : FP RX4 18 4 2 .int := ⟨_, rfl, by decide, w_43, rfl, rfl, by decide +kernel⟩
theorem w_44 : Cond.fieldLink RX5 154 "BentPlain$Walker" "miles" "I" ∈ Tw := tw_of (i := 44) (by decide +kernel) (by decide +kernel)
theorem flX5_154 : FL RX5 154 4 2 := ⟨_, rfl, by decide, w_44, rfl⟩
theorem fpX5_154 : FP RX5 154 4 2 .int := ⟨_, rfl, by decide, w_44, rfl, rfl, by decide +kernel⟩
theorem w_45 : Cond.fieldLink RX0 71 "BentPlain$Walker" "miles" "I" ∈ Tw := tw_of (i := 45) (by decide +kernel) (by decide +kernel)
theorem flX0_71 : FL RX0 71 4 2 := ⟨_, rfl, by decide, w_45, rfl⟩
theorem fpX0_71 : FP RX0 71 4 2 .int := ⟨_, rfl, by decide, w_45, rfl, rfl, by decide +kernel⟩
theorem w_46 : Cond.fieldLink RX4 21 "BentPlain$Walker" "bumped" "I" ∈ Tw := tw_of (i := 46) (by decide +kernel) (by decide +kernel)
theorem flX4_21 : FL RX4 21 4 3 := ⟨_, rfl, by decide, w_46, rfl⟩
theorem fpX4_21 : FP RX4 21 4 3 .int := ⟨_, rfl, by decide, w_46, rfl, rfl, by decide +kernel⟩
theorem w_47 : Cond.fieldLink RX5 157 "BentPlain$Walker" "bumped" "I" ∈ Tw := tw_of (i := 47) (by decide +kernel) (by decide +kernel)
theorem flX5_157 : FL RX5 157 4 3 := ⟨_, rfl, by decide, w_47, rfl⟩
theorem fpX5_157 : FP RX5 157 4 3 .int := ⟨_, rfl, by decide, w_47, rfl, rfl, by decide +kernel⟩
theorem w_58 : Cond.fieldLink RX0 25 "BentPlain$Ground" "fields" "I" ∈ Tw := tw_of (i := 58) (by decide +kernel) (by decide +kernel)
theorem flX0_25 : FL RX0 25 0 0 := ⟨_, rfl, by decide, w_58, rfl⟩
theorem fpX0_25 : FP RX0 25 0 0 .int := ⟨_, rfl, by decide, w_58, rfl, rfl, by decide +kernel⟩
theorem w_59 : Cond.fieldLink RX5 77 "BentPlain$Ground" "fields" "I" ∈ Tw := tw_of (i := 59) (by decide +kernel) (by decide +kernel)
theorem flX5_77 : FL RX5 77 0 0 := ⟨_, rfl, by decide, w_59, rfl⟩
theorem fpX5_77 : FP RX5 77 0 0 .int := ⟨_, rfl, by decide, w_59, rfl, rfl, by decide +kernel⟩
theorem w_60 : Cond.fieldLink RX3 60 "BentPlain$Ground" "fields" "I" ∈ Tw := tw_of (i := 60) (by decide +kernel) (by decide +kernel)
theorem flX3_60 : FL RX3 60 0 0 := ⟨_, rfl, by decide, w_60, rfl⟩
theorem fpX3_60 : FP RX3 60 0 0 .int := ⟨_, rfl, by decide, w_60, rfl, rfl, by decide +kernel⟩
theorem w_61 : Cond.fieldLink RX0 29 "BentPlain$Ground" "walkers" "I" ∈ Tw := tw_of (i := 61) (by decide +kernel) (by decide +kernel)
theorem flX0_29 : FL RX0 29 0 1 := ⟨_, rfl, by decide, w_61, rfl⟩
theorem fpX0_29 : FP RX0 29 0 1 .int := ⟨_, rfl, by decide, w_61, rfl, rfl, by decide +kernel⟩
theorem w_62 : Cond.fieldLink RX3 96 "BentPlain$Ground" "walkers" "I" ∈ Tw := tw_of (i := 62) (by decide +kernel) (by decide +kernel)
theorem flX3_96 : FL RX3 96 0 1 := ⟨_, rfl, by decide, w_62, rfl⟩
theorem fpX3_96 : FP RX3 96 0 1 .int := ⟨_, rfl, by decide, w_62, rfl, rfl, by decide +kernel⟩
theorem w_63 : Cond.fieldLink RX5 129 "BentPlain$Ground" "walkers" "I" ∈ Tw := tw_of (i := 63) (by decide +kernel) (by decide +kernel)
theorem flX5_129 : FL RX5 129 0 1 := ⟨_, rfl, by decide, w_63, rfl⟩
theorem fpX5_129 : FP RX5 129 0 1 .int := ⟨_, rfl, by decide, w_63, rfl, rfl, by decide +kernel⟩
theorem w_64 : Cond.fieldLink RX0 11 "BentPlain$Ground" "people" "[LBentPlain$Walker;" ∈ Tw := tw_of (i := 64) (by decide +kernel) (by decide +kernel)
theorem flX0_11 : FL RX0 11 0 2 := ⟨_, rfl, by decide, w_64, rfl⟩
theorem w_65 : Cond.fieldLink RX5 138 "BentPlain$Ground" "people" "[LBentPlain$Walker;" ∈ Tw := tw_of (i := 65) (by decide +kernel) (by decide +kernel)
theorem flX5_138 : FL RX5 138 0 2 := ⟨_, rfl, by decide, w_65, rfl⟩
theorem w_66 : Cond.fieldLink RX0 17 "BentPlain$Ground" "roughs" "[I" ∈ Tw := tw_of (i := 66) (by decide +kernel) (by decide +kernel)
theorem flX0_17 : FL RX0 17 0 3 := ⟨_, rfl, by decide, w_66, rfl⟩
theorem w_67 : Cond.fieldLink RX0 21 "BentPlain$Ground" "glued" "[I" ∈ Tw := tw_of (i := 67) (by decide +kernel) (by decide +kernel)
theorem flX0_21 : FL RX0 21 0 4 := ⟨_, rfl, by decide, w_67, rfl⟩
theorem w_87 : Cond.fieldLink RX2 15 "BentPlain$Tape" "length" "I" ∈ Tw := tw_of (i := 87) (by decide +kernel) (by decide +kernel)
theorem flX2_15 : FL RX2 15 2 0 := ⟨_, rfl, by decide, w_87, rfl⟩
theorem fpX2_15 : FP RX2 15 2 0 .int := ⟨_, rfl, by decide, w_87, rfl, rfl, by decide +kernel⟩
theorem w_88 : Cond.fieldLink RX5 244 "BentPlain$Tape" "length" "I" ∈ Tw := tw_of (i := 88) (by decide +kernel) (by decide +kernel)
theorem flX5_244 : FL RX5 244 2 0 := ⟨_, rfl, by decide, w_88, rfl⟩
theorem fpX5_244 : FP RX5 244 2 0 .int := ⟨_, rfl, by decide, w_88, rfl, rfl, by decide +kernel⟩
theorem w_89 : Cond.fieldLink RX3 32 "BentPlain$Tape" "sort" "I" ∈ Tw := tw_of (i := 89) (by decide +kernel) (by decide +kernel)
theorem flX3_32 : FL RX3 32 2 1 := ⟨_, rfl, by decide, w_89, rfl⟩
theorem fpX3_32 : FP RX3 32 2 1 .int := ⟨_, rfl, by decide, w_89, rfl, rfl, by decide +kernel⟩
theorem w_90 : Cond.fieldLink RX2 35 "BentPlain$Tape" "sort" "I" ∈ Tw := tw_of (i := 90) (by decide +kernel) (by decide +kernel)
theorem flX2_35 : FL RX2 35 2 1 := ⟨_, rfl, by decide, w_90, rfl⟩
theorem fpX2_35 : FP RX2 35 2 1 .int := ⟨_, rfl, by decide, w_90, rfl, rfl, by decide +kernel⟩
theorem w_91 : Cond.fieldLink RX3 28 "BentPlain$Tape" "start" "I" ∈ Tw := tw_of (i := 91) (by decide +kernel) (by decide +kernel)
theorem flX3_28 : FL RX3 28 2 2 := ⟨_, rfl, by decide, w_91, rfl⟩
theorem fpX3_28 : FP RX3 28 2 2 .int := ⟨_, rfl, by decide, w_91, rfl, rfl, by decide +kernel⟩
theorem w_92 : Cond.fieldLink RX2 25 "BentPlain$Tape" "start" "I" ∈ Tw := tw_of (i := 92) (by decide +kernel) (by decide +kernel)
theorem flX2_25 : FL RX2 25 2 2 := ⟨_, rfl, by decide, w_92, rfl⟩
theorem fpX2_25 : FP RX2 25 2 2 .int := ⟨_, rfl, by decide, w_92, rfl, rfl, by decide +kernel⟩
theorem w_93 : Cond.fieldLink RX2 28 "BentPlain$Tape" "number" "I" ∈ Tw := tw_of (i := 93) (by decide +kernel) (by decide +kernel)
theorem flX2_28 : FL RX2 28 2 3 := ⟨_, rfl, by decide, w_93, rfl⟩
theorem fpX2_28 : FP RX2 28 2 3 .int := ⟨_, rfl, by decide, w_93, rfl, rfl, by decide +kernel⟩
theorem w_94 : Cond.fieldLink RX3 71 "BentPlain$Tape" "number" "I" ∈ Tw := tw_of (i := 94) (by decide +kernel) (by decide +kernel)
theorem flX3_71 : FL RX3 71 2 3 := ⟨_, rfl, by decide, w_94, rfl⟩
theorem fpX3_71 : FP RX3 71 2 3 .int := ⟨_, rfl, by decide, w_94, rfl, rfl, by decide +kernel⟩
theorem w_95 : Cond.fieldLink RX2 19 "BentPlain$Tape" "end" "I" ∈ Tw := tw_of (i := 95) (by decide +kernel) (by decide +kernel)
theorem flX2_19 : FL RX2 19 2 4 := ⟨_, rfl, by decide, w_95, rfl⟩
theorem fpX2_19 : FP RX2 19 2 4 .int := ⟨_, rfl, by decide, w_95, rfl, rfl, by decide +kernel⟩
theorem w_96 : Cond.fieldLink RX2 9 "BentPlain$Tape" "bytes" "[I" ∈ Tw := tw_of (i := 96) (by decide +kernel) (by decide +kernel)
theorem flX2_9 : FL RX2 9 2 5 := ⟨_, rfl, by decide, w_96, rfl⟩
theorem w_116 : Cond.fieldLink RX3 9 "BentPlain$Teller" "tape" "LBentPlain$Tape;" ∈ Tw := tw_of (i := 116) (by decide +kernel) (by decide +kernel)
theorem flX3_9 : FL RX3 9 3 0 := ⟨_, rfl, by decide, w_116, rfl⟩
theorem w_117 : Cond.fieldLink RX3 15 "BentPlain$Teller" "ground" "LBentPlain$Ground;" ∈ Tw := tw_of (i := 117) (by decide +kernel) (by decide +kernel)
theorem flX3_15 : FL RX3 15 3 1 := ⟨_, rfl, by decide, w_117, rfl⟩
theorem w_130 : Cond.fieldLink RX1 15 "BentPlain$Sheet" "bits" "I" ∈ Tw := tw_of (i := 130) (by decide +kernel) (by decide +kernel)
theorem flX1_15 : FL RX1 15 1 0 := ⟨_, rfl, by decide, w_130, rfl⟩
theorem fpX1_15 : FP RX1 15 1 0 .int := ⟨_, rfl, by decide, w_130, rfl, rfl, by decide +kernel⟩
theorem w_131 : Cond.fieldLink RX5 276 "BentPlain$Sheet" "bits" "I" ∈ Tw := tw_of (i := 131) (by decide +kernel) (by decide +kernel)
theorem flX5_276 : FL RX5 276 1 0 := ⟨_, rfl, by decide, w_131, rfl⟩
theorem fpX5_276 : FP RX5 276 1 0 .int := ⟨_, rfl, by decide, w_131, rfl, rfl, by decide +kernel⟩
theorem w_132 : Cond.fieldLink RX1 19 "BentPlain$Sheet" "size" "I" ∈ Tw := tw_of (i := 132) (by decide +kernel) (by decide +kernel)
theorem flX1_19 : FL RX1 19 1 1 := ⟨_, rfl, by decide, w_132, rfl⟩
theorem fpX1_19 : FP RX1 19 1 1 .int := ⟨_, rfl, by decide, w_132, rfl, rfl, by decide +kernel⟩
theorem w_133 : Cond.fieldLink RX5 262 "BentPlain$Sheet" "size" "I" ∈ Tw := tw_of (i := 133) (by decide +kernel) (by decide +kernel)
theorem flX5_262 : FL RX5 262 1 1 := ⟨_, rfl, by decide, w_133, rfl⟩
theorem fpX5_262 : FP RX5 262 1 1 .int := ⟨_, rfl, by decide, w_133, rfl, rfl, by decide +kernel⟩
theorem w_134 : Cond.fieldLink RX1 9 "BentPlain$Sheet" "numbers" "[J" ∈ Tw := tw_of (i := 134) (by decide +kernel) (by decide +kernel)
theorem flX1_9 : FL RX1 9 1 2 := ⟨_, rfl, by decide, w_134, rfl⟩
theorem w_135 : Cond.fieldLink RX5 268 "BentPlain$Sheet" "numbers" "[J" ∈ Tw := tw_of (i := 135) (by decide +kernel) (by decide +kernel)
theorem flX5_268 : FL RX5 268 1 2 := ⟨_, rfl, by decide, w_135, rfl⟩
theorem w_144 : Cond.fieldLink RX5 12 "BentPlain" "now" "LBentPlain$Ground;" ∈ Tw := tw_of (i := 144) (by decide +kernel) (by decide +kernel)
theorem flX5_12 : FL RX5 12 5 0 := ⟨_, rfl, by decide, w_144, rfl⟩
theorem w_145 : Cond.fieldLink RX5 16 "BentPlain" "kept" "LBentPlain$Ground;" ∈ Tw := tw_of (i := 145) (by decide +kernel) (by decide +kernel)
theorem flX5_16 : FL RX5 16 5 1 := ⟨_, rfl, by decide, w_145, rfl⟩
theorem w_146 : Cond.fieldLink RX5 19 "BentPlain" "before" "LBentPlain$Ground;" ∈ Tw := tw_of (i := 146) (by decide +kernel) (by decide +kernel)
theorem flX5_19 : FL RX5 19 5 2 := ⟨_, rfl, by decide, w_146, rfl⟩
theorem w_147 : Cond.fieldLink RX5 25 "BentPlain" "probe" "LBentPlain$Walker;" ∈ Tw := tw_of (i := 147) (by decide +kernel) (by decide +kernel)
theorem flX5_25 : FL RX5 25 5 3 := ⟨_, rfl, by decide, w_147, rfl⟩
theorem w_148 : Cond.fieldLink RX5 29 "BentPlain" "otherProbe" "LBentPlain$Walker;" ∈ Tw := tw_of (i := 148) (by decide +kernel) (by decide +kernel)
theorem flX5_29 : FL RX5 29 5 4 := ⟨_, rfl, by decide, w_148, rfl⟩
theorem w_149 : Cond.fieldLink RX5 32 "BentPlain" "distances" "[I" ∈ Tw := tw_of (i := 149) (by decide +kernel) (by decide +kernel)
theorem flX5_32 : FL RX5 32 5 5 := ⟨_, rfl, by decide, w_149, rfl⟩
theorem w_150 : Cond.fieldLink RX5 36 "BentPlain" "otherDistances" "[I" ∈ Tw := tw_of (i := 150) (by decide +kernel) (by decide +kernel)
theorem flX5_36 : FL RX5 36 5 6 := ⟨_, rfl, by decide, w_150, rfl⟩
theorem w_151 : Cond.fieldLink RX5 39 "BentPlain" "quarters" "[I" ∈ Tw := tw_of (i := 151) (by decide +kernel) (by decide +kernel)
theorem flX5_39 : FL RX5 39 5 7 := ⟨_, rfl, by decide, w_151, rfl⟩
theorem w_152 : Cond.fieldLink RX5 45 "BentPlain" "tape" "LBentPlain$Tape;" ∈ Tw := tw_of (i := 152) (by decide +kernel) (by decide +kernel)
theorem flX5_45 : FL RX5 45 5 8 := ⟨_, rfl, by decide, w_152, rfl⟩
theorem w_153 : Cond.fieldLink RX5 54 "BentPlain" "teller" "LBentPlain$Teller;" ∈ Tw := tw_of (i := 153) (by decide +kernel) (by decide +kernel)
theorem flX5_54 : FL RX5 54 5 9 := ⟨_, rfl, by decide, w_153, rfl⟩
theorem w_154 : Cond.fieldLink RX5 60 "BentPlain" "sheets" "[LBentPlain$Sheet;" ∈ Tw := tw_of (i := 154) (by decide +kernel) (by decide +kernel)
theorem flX5_60 : FL RX5 60 5 10 := ⟨_, rfl, by decide, w_154, rfl⟩
theorem w_155 : Cond.fieldLink RX5 64 "BentPlain" "found" "[I" ∈ Tw := tw_of (i := 155) (by decide +kernel) (by decide +kernel)
theorem flX5_64 : FL RX5 64 5 11 := ⟨_, rfl, by decide, w_155, rfl⟩
theorem w_156 : Cond.fieldLink RX5 298 "BentPlain" "hasKept" "Z" ∈ Tw := tw_of (i := 156) (by decide +kernel) (by decide +kernel)
theorem flX5_298 : FL RX5 298 5 12 := ⟨_, rfl, by decide, w_156, rfl⟩
theorem fpX5_298 : FP RX5 298 5 12 .boolean := ⟨_, rfl, by decide, w_156, rfl, rfl, by decide +kernel⟩
theorem w_774 : Cond.fieldLink RX6 7 "BentPlainModel" "s" "[I" ∈ Tw := tw_of (i := 774) (by decide +kernel) (by decide +kernel)
theorem flX6_7 : FL RX6 7 6 0 := ⟨_, rfl, by decide, w_774, rfl⟩
theorem w_775 : Cond.fieldLink RX6 13 "BentPlainModel" "keptS" "[I" ∈ Tw := tw_of (i := 775) (by decide +kernel) (by decide +kernel)
theorem flX6_13 : FL RX6 13 6 1 := ⟨_, rfl, by decide, w_775, rfl⟩
theorem w_776 : Cond.fieldLink RX6 16 "BentPlainModel" "other" "[I" ∈ Tw := tw_of (i := 776) (by decide +kernel) (by decide +kernel)
theorem flX6_16 : FL RX6 16 6 2 := ⟨_, rfl, by decide, w_776, rfl⟩
theorem w_777 : Cond.fieldLink RX6 19 "BentPlainModel" "aside" "[I" ∈ Tw := tw_of (i := 777) (by decide +kernel) (by decide +kernel)
theorem flX6_19 : FL RX6 19 6 3 := ⟨_, rfl, by decide, w_777, rfl⟩
theorem w_778 : Cond.fieldLink RX6 22 "BentPlainModel" "statuses" "[I" ∈ Tw := tw_of (i := 778) (by decide +kernel) (by decide +kernel)
theorem flX6_22 : FL RX6 22 6 4 := ⟨_, rfl, by decide, w_778, rfl⟩
theorem w_779 : Cond.fieldLink RX6 316 "BentPlainModel" "isKept" "Z" ∈ Tw := tw_of (i := 779) (by decide +kernel) (by decide +kernel)
theorem flX6_316 : FL RX6 316 6 5 := ⟨_, rfl, by decide, w_779, rfl⟩
theorem fpX6_316 : FP RX6 316 6 5 .boolean := ⟨_, rfl, by decide, w_779, rfl, rfl, by decide +kernel⟩
theorem w_780 : Cond.fieldLink RX6 25 "BentPlainModel" "least" "[I" ∈ Tw := tw_of (i := 780) (by decide +kernel) (by decide +kernel)
theorem flX6_25 : FL RX6 25 6 6 := ⟨_, rfl, by decide, w_780, rfl⟩
theorem w_781 : Cond.fieldLink RX6 28 "BentPlainModel" "tape" "[I" ∈ Tw := tw_of (i := 781) (by decide +kernel) (by decide +kernel)
theorem flX6_28 : FL RX6 28 6 7 := ⟨_, rfl, by decide, w_781, rfl⟩
theorem w_782 : Cond.fieldLink RX6 182 "BentPlainModel" "taped" "I" ∈ Tw := tw_of (i := 782) (by decide +kernel) (by decide +kernel)
theorem flX6_182 : FL RX6 182 6 8 := ⟨_, rfl, by decide, w_782, rfl⟩
theorem fpX6_182 : FP RX6 182 6 8 .int := ⟨_, rfl, by decide, w_782, rfl, rfl, by decide +kernel⟩
theorem w_783 : Cond.fieldLink RX6 197 "BentPlainModel" "from" "I" ∈ Tw := tw_of (i := 783) (by decide +kernel) (by decide +kernel)
theorem flX6_197 : FL RX6 197 6 9 := ⟨_, rfl, by decide, w_783, rfl⟩
theorem fpX6_197 : FP RX6 197 6 9 .int := ⟨_, rfl, by decide, w_783, rfl, rfl, by decide +kernel⟩
theorem w_784 : Cond.fieldLink RX6 194 "BentPlainModel" "to" "I" ∈ Tw := tw_of (i := 784) (by decide +kernel) (by decide +kernel)
theorem flX6_194 : FL RX6 194 6 10 := ⟨_, rfl, by decide, w_784, rfl⟩
theorem fpX6_194 : FP RX6 194 6 10 .int := ⟨_, rfl, by decide, w_784, rfl, rfl, by decide +kernel⟩
theorem w_785 : Cond.fieldLink RX6 220 "BentPlainModel" "value" "I" ∈ Tw := tw_of (i := 785) (by decide +kernel) (by decide +kernel)
theorem flX6_220 : FL RX6 220 6 11 := ⟨_, rfl, by decide, w_785, rfl⟩
theorem fpX6_220 : FP RX6 220 6 11 .int := ⟨_, rfl, by decide, w_785, rfl, rfl, by decide +kernel⟩
theorem w_786 : Cond.fieldLink RX6 209 "BentPlainModel" "isWrong" "Z" ∈ Tw := tw_of (i := 786) (by decide +kernel) (by decide +kernel)
theorem flX6_209 : FL RX6 209 6 12 := ⟨_, rfl, by decide, w_786, rfl⟩
theorem fpX6_209 : FP RX6 209 6 12 .boolean := ⟨_, rfl, by decide, w_786, rfl, rfl, by decide +kernel⟩
theorem w_787 : Cond.fieldLink RX6 31 "BentPlainModel" "bitsOf" "[I" ∈ Tw := tw_of (i := 787) (by decide +kernel) (by decide +kernel)
theorem flX6_31 : FL RX6 31 6 13 := ⟨_, rfl, by decide, w_787, rfl⟩
theorem w_788 : Cond.fieldLink RX6 34 "BentPlainModel" "sizeOf" "[I" ∈ Tw := tw_of (i := 788) (by decide +kernel) (by decide +kernel)
theorem flX6_34 : FL RX6 34 6 14 := ⟨_, rfl, by decide, w_788, rfl⟩
theorem w_789 : Cond.fieldLink RX6 37 "BentPlainModel" "numbers" "[J" ∈ Tw := tw_of (i := 789) (by decide +kernel) (by decide +kernel)
theorem flX6_37 : FL RX6 37 6 15 := ⟨_, rfl, by decide, w_789, rfl⟩
theorem w_790 : Cond.fieldLink RX6 41 "BentPlainModel" "moved" "[J" ∈ Tw := tw_of (i := 790) (by decide +kernel) (by decide +kernel)
theorem flX6_41 : FL RX6 41 6 16 := ⟨_, rfl, by decide, w_790, rfl⟩
theorem w_191 : Cond.constant RX5 72 (-1000000001) ∈ Tw := tw_of (i := 191) (by decide +kernel) (by decide +kernel)
theorem w_196 : Cond.constant RX5 81 (-1000000002) ∈ Tw := tw_of (i := 196) (by decide +kernel) (by decide +kernel)
theorem w_258 : Cond.constant RX5 112 (-1000000005) ∈ Tw := tw_of (i := 258) (by decide +kernel) (by decide +kernel)
theorem w_280 : Cond.constant RX5 186 (-1000000004) ∈ Tw := tw_of (i := 280) (by decide +kernel) (by decide +kernel)
theorem w_330 : Cond.constant RX5 166 (-1000000003) ∈ Tw := tw_of (i := 330) (by decide +kernel) (by decide +kernel)
theorem w_433 : Cond.constant RJ6 265 (1431655765) ∈ Tw := tw_of (i := 433) (by decide +kernel) (by decide +kernel)
theorem w_434 : Cond.constant RJ6 266 (858993459) ∈ Tw := tw_of (i := 434) (by decide +kernel) (by decide +kernel)
theorem w_435 : Cond.constant RJ6 267 (252645135) ∈ Tw := tw_of (i := 435) (by decide +kernel) (by decide +kernel)
theorem w_477 : Cond.constant RX0 90 (1000000) ∈ Tw := tw_of (i := 477) (by decide +kernel) (by decide +kernel)
theorem w_485 : Cond.constant RX5 223 (999999) ∈ Tw := tw_of (i := 485) (by decide +kernel) (by decide +kernel)
theorem w_498 : Cond.constant RX5 235 (1000000) ∈ Tw := tw_of (i := 498) (by decide +kernel) (by decide +kernel)
theorem w_693 : Cond.constant RX5 258 (-1000000007) ∈ Tw := tw_of (i := 693) (by decide +kernel) (by decide +kernel)
theorem w_709 : Cond.constant RX5 279 (-1000000006) ∈ Tw := tw_of (i := 709) (by decide +kernel) (by decide +kernel)
theorem w_834 : Cond.constant RX6 44 (-1000000001) ∈ Tw := tw_of (i := 834) (by decide +kernel) (by decide +kernel)
theorem w_839 : Cond.constant RX6 73 (-1000000002) ∈ Tw := tw_of (i := 839) (by decide +kernel) (by decide +kernel)
theorem w_888 : Cond.constant RX6 92 (-1000000005) ∈ Tw := tw_of (i := 888) (by decide +kernel) (by decide +kernel)
theorem w_905 : Cond.constant RX6 101 (-1000000004) ∈ Tw := tw_of (i := 905) (by decide +kernel) (by decide +kernel)
theorem w_952 : Cond.constant RX6 133 (-1000000003) ∈ Tw := tw_of (i := 952) (by decide +kernel) (by decide +kernel)
theorem w_1091 : Cond.constant RX6 173 (1000000) ∈ Tw := tw_of (i := 1091) (by decide +kernel) (by decide +kernel)
theorem w_1092 : Cond.constant RX6 177 (999999) ∈ Tw := tw_of (i := 1092) (by decide +kernel) (by decide +kernel)
theorem w_1221 : Cond.constant RX6 301 (-1000000007) ∈ Tw := tw_of (i := 1221) (by decide +kernel) (by decide +kernel)
theorem w_1230 : Cond.constant RX6 302 (-1000000006) ∈ Tw := tw_of (i := 1230) (by decide +kernel) (by decide +kernel)
theorem w_447 : Cond.constantLong RJ13 314 (6148914691236517205) ∈ Tw := tw_of (i := 447) (by decide +kernel) (by decide +kernel)
theorem w_448 : Cond.constantLong RJ13 316 (3689348814741910323) ∈ Tw := tw_of (i := 448) (by decide +kernel) (by decide +kernel)
theorem w_449 : Cond.constantLong RJ13 318 (1085102592571150095) ∈ Tw := tw_of (i := 449) (by decide +kernel) (by decide +kernel)
theorem w_727 : Cond.constantLong RX5 289 (9) ∈ Tw := tw_of (i := 727) (by decide +kernel) (by decide +kernel)
theorem w_830 : Cond.constantLong RX6 67 (9) ∈ Tw := tw_of (i := 830) (by decide +kernel) (by decide +kernel)
theorem w_852 : Cond.constantLong RX6 77 (2) ∈ Tw := tw_of (i := 852) (by decide +kernel) (by decide +kernel)
theorem w_887 : Cond.constantLong RX6 49 (3) ∈ Tw := tw_of (i := 887) (by decide +kernel) (by decide +kernel)
theorem w_913 : Cond.constantLong RX6 51 (5) ∈ Tw := tw_of (i := 913) (by decide +kernel) (by decide +kernel)
theorem w_975 : Cond.constantLong RX6 137 (100) ∈ Tw := tw_of (i := 975) (by decide +kernel) (by decide +kernel)
theorem w_1105 : Cond.constantLong RX6 178 (16) ∈ Tw := tw_of (i := 1105) (by decide +kernel) (by decide +kernel)
theorem w_1114 : Cond.constantLong RX6 180 (4) ∈ Tw := tw_of (i := 1114) (by decide +kernel) (by decide +kernel)
theorem w_1138 : Cond.constantLong RX6 186 (97) ∈ Tw := tw_of (i := 1138) (by decide +kernel) (by decide +kernel)
theorem w_1139 : Cond.constantLong RX6 188 (122) ∈ Tw := tw_of (i := 1139) (by decide +kernel) (by decide +kernel)
theorem w_1143 : Cond.constantLong RX6 190 (48) ∈ Tw := tw_of (i := 1143) (by decide +kernel) (by decide +kernel)
theorem w_1144 : Cond.constantLong RX6 192 (57) ∈ Tw := tw_of (i := 1144) (by decide +kernel) (by decide +kernel)
theorem w_1157 : Cond.constantLong RX6 216 (36028797018963967) ∈ Tw := tw_of (i := 1157) (by decide +kernel) (by decide +kernel)
theorem w_1158 : Cond.constantLong RX6 218 (32) ∈ Tw := tw_of (i := 1158) (by decide +kernel) (by decide +kernel)
theorem w_1159 : Cond.constantLong RX6 231 (773205170) ∈ Tw := tw_of (i := 1159) (by decide +kernel) (by decide +kernel)
theorem w_1160 : Cond.constantLong RX6 233 (676010845682) ∈ Tw := tw_of (i := 1160) (by decide +kernel) (by decide +kernel)
theorem w_1161 : Cond.constantLong RX6 235 (20917134514) ∈ Tw := tw_of (i := 1161) (by decide +kernel) (by decide +kernel)
theorem w_1162 : Cond.constantLong RX6 237 (2553) ∈ Tw := tw_of (i := 1162) (by decide +kernel) (by decide +kernel)
theorem w_1163 : Cond.constantLong RX6 239 (102322354) ∈ Tw := tw_of (i := 1163) (by decide +kernel) (by decide +kernel)
theorem w_1164 : Cond.constantLong RX6 241 (3124) ∈ Tw := tw_of (i := 1164) (by decide +kernel) (by decide +kernel)
theorem w_1173 : Cond.constantLong RX6 266 (52) ∈ Tw := tw_of (i := 1173) (by decide +kernel) (by decide +kernel)
theorem w_1186 : Cond.constantLong RX6 246 (15190664) ∈ Tw := tw_of (i := 1186) (by decide +kernel) (by decide +kernel)
theorem w_1187 : Cond.constantLong RX6 248 (165492) ∈ Tw := tw_of (i := 1187) (by decide +kernel) (by decide +kernel)
theorem w_1188 : Cond.constantLong RX6 250 (20436616) ∈ Tw := tw_of (i := 1188) (by decide +kernel) (by decide +kernel)
theorem w_1189 : Cond.constantLong RX6 252 (759412) ∈ Tw := tw_of (i := 1189) (by decide +kernel) (by decide +kernel)
theorem w_1190 : Cond.constantLong RX6 274 (6591876) ∈ Tw := tw_of (i := 1190) (by decide +kernel) (by decide +kernel)
theorem w_1195 : Cond.constantLong RX6 257 (19387624) ∈ Tw := tw_of (i := 1195) (by decide +kernel) (by decide +kernel)
theorem w_1196 : Cond.constantLong RX6 279 (242341) ∈ Tw := tw_of (i := 1196) (by decide +kernel) (by decide +kernel)
theorem w_1205 : Cond.constantLong RX6 284 (3764) ∈ Tw := tw_of (i := 1205) (by decide +kernel) (by decide +kernel)
theorem w_1282 : Cond.constantLong RX6 322 (-1) ∈ Tw := tw_of (i := 1282) (by decide +kernel) (by decide +kernel)
theorem w_1283 : Cond.constantLong RX6 324 (6) ∈ Tw := tw_of (i := 1283) (by decide +kernel) (by decide +kernel)
theorem w_1284 : Cond.constantLong RL 170 (4294967295) ∈ Tw := tw_of (i := 1284) (by decide +kernel) (by decide +kernel)
theorem w_184 : Cond.methodLink RL 13 yX5_field ∈ Tw := tw_of (i := 184) (by decide +kernel) (by decide +kernel)
theorem w_1 : Cond.initialized RX5 ∈ Tw := tw_of (i := 1) (by decide +kernel) (by decide +kernel)
theorem w_187 : Cond.code yX5_field cX5_field 2 (some .int) ∈ Tw := tw_of (i := 187) (by decide +kernel) (by decide +kernel)
theorem w_186 : Cond.selects RX5 yX5_field yX5_field ∈ Tw := tw_of (i := 186) (by decide +kernel) (by decide +kernel)
theorem w_185 : Cond.instanceMethod yX5_field ∈ Tw := tw_of (i := 185) (by decide +kernel) (by decide +kernel)
theorem mlL_13 : MLv RL 13 kX5_field 1 := ⟨⟨w_184, w_1, w_187, by decide, by decide, by decide +kernel⟩, w_185, w_186⟩
theorem w_188 : Cond.methodLink RX5 68 yX5_isRough ∈ Tw := tw_of (i := 188) (by decide +kernel) (by decide +kernel)
theorem w_190 : Cond.code yX5_isRough cX5_isRough 1 (some .boolean) ∈ Tw := tw_of (i := 190) (by decide +kernel) (by decide +kernel)
theorem w_189 : Cond.static yX5_isRough ∈ Tw := tw_of (i := 189) (by decide +kernel) (by decide +kernel)
theorem mlX5_68 : MLs RX5 68 kX5_isRough 1 := ⟨⟨w_188, w_1, w_190, by decide, by decide, by decide +kernel⟩, w_189⟩
theorem w_192 : Cond.methodLink RX5 73 yX5_tell ∈ Tw := tw_of (i := 192) (by decide +kernel) (by decide +kernel)
theorem w_195 : Cond.code yX5_tell cX5_tell 3 (some .int) ∈ Tw := tw_of (i := 195) (by decide +kernel) (by decide +kernel)
theorem ws_mlX5_73 : Cond.selects RX5 yX5_tell yX5_tell ∈ Tw := tw_sel (q := (⟨"BentPlain", "tell", "(I)I"⟩, 13)) (i := 0) (by decide +kernel)
theorem w_194 : Cond.instanceMethod yX5_tell ∈ Tw := tw_of (i := 194) (by decide +kernel) (by decide +kernel)
theorem mlX5_73 : MLv RX5 73 kX5_tell 1 := ⟨⟨w_192, w_1, w_195, by decide, by decide, by decide +kernel⟩, w_194, ws_mlX5_73⟩
theorem w_197 : Cond.methodLink RX5 82 yX0_addField ∈ Tw := tw_of (i := 197) (by decide +kernel) (by decide +kernel)
theorem w_2 : Cond.initialized RX0 ∈ Tw := tw_of (i := 2) (by decide +kernel) (by decide +kernel)
theorem w_200 : Cond.code yX0_addField cX0_addField 4 (some .int) ∈ Tw := tw_of (i := 200) (by decide +kernel) (by decide +kernel)
theorem w_199 : Cond.selects RX0 yX0_addField yX0_addField ∈ Tw := tw_of (i := 199) (by decide +kernel) (by decide +kernel)
theorem w_198 : Cond.instanceMethod yX0_addField ∈ Tw := tw_of (i := 198) (by decide +kernel) (by decide +kernel)
theorem mlX5_82 : MLv RX5 82 kX0_addField 1 := ⟨⟨w_197, w_2, w_200, by decide, by decide, by decide +kernel⟩, w_198, w_199⟩
theorem w_204 : Cond.methodLink RL 18 yX5_of ∈ Tw := tw_of (i := 204) (by decide +kernel) (by decide +kernel)
theorem w_207 : Cond.code yX5_of cX5_of 3 (some .int) ∈ Tw := tw_of (i := 207) (by decide +kernel) (by decide +kernel)
theorem w_206 : Cond.selects RX5 yX5_of yX5_of ∈ Tw := tw_of (i := 206) (by decide +kernel) (by decide +kernel)
theorem w_205 : Cond.instanceMethod yX5_of ∈ Tw := tw_of (i := 205) (by decide +kernel) (by decide +kernel)
theorem mlL_18 : MLv RL 18 kX5_of 2 := ⟨⟨w_204, w_1, w_207, by decide, by decide, by decide +kernel⟩, w_205, w_206⟩
theorem w_208 : Cond.methodLink RX5 85 yX0_hasField ∈ Tw := tw_of (i := 208) (by decide +kernel) (by decide +kernel)
theorem w_211 : Cond.code yX0_hasField cX0_hasField 2 (some .boolean) ∈ Tw := tw_of (i := 211) (by decide +kernel) (by decide +kernel)
theorem w_210 : Cond.selects RX0 yX0_hasField yX0_hasField ∈ Tw := tw_of (i := 210) (by decide +kernel) (by decide +kernel)
theorem w_209 : Cond.instanceMethod yX0_hasField ∈ Tw := tw_of (i := 209) (by decide +kernel) (by decide +kernel)
theorem mlX5_85 : MLv RX5 85 kX0_hasField 1 := ⟨⟨w_208, w_2, w_211, by decide, by decide, by decide +kernel⟩, w_209, w_210⟩
theorem w_212 : Cond.methodLink RX5 88 yX0_roughOf ∈ Tw := tw_of (i := 212) (by decide +kernel) (by decide +kernel)
theorem w_215 : Cond.code yX0_roughOf cX0_roughOf 2 (some .int) ∈ Tw := tw_of (i := 215) (by decide +kernel) (by decide +kernel)
theorem w_214 : Cond.selects RX0 yX0_roughOf yX0_roughOf ∈ Tw := tw_of (i := 214) (by decide +kernel) (by decide +kernel)
theorem w_213 : Cond.instanceMethod yX0_roughOf ∈ Tw := tw_of (i := 213) (by decide +kernel) (by decide +kernel)
theorem mlX5_88 : MLv RX5 88 kX0_roughOf 1 := ⟨⟨w_212, w_2, w_215, by decide, by decide, by decide +kernel⟩, w_213, w_214⟩
theorem w_216 : Cond.methodLink RX0 42 yX0_hasField ∈ Tw := tw_of (i := 216) (by decide +kernel) (by decide +kernel)
theorem mlX0_42 : MLv RX0 42 kX0_hasField 1 := ⟨⟨w_216, w_2, w_211, by decide, by decide, by decide +kernel⟩, w_209, w_210⟩
theorem w_217 : Cond.methodLink RX5 91 yX0_gluedSidesOf ∈ Tw := tw_of (i := 217) (by decide +kernel) (by decide +kernel)
theorem w_220 : Cond.code yX0_gluedSidesOf cX0_gluedSidesOf 4 (some .int) ∈ Tw := tw_of (i := 220) (by decide +kernel) (by decide +kernel)
theorem w_219 : Cond.selects RX0 yX0_gluedSidesOf yX0_gluedSidesOf ∈ Tw := tw_of (i := 219) (by decide +kernel) (by decide +kernel)
theorem w_218 : Cond.instanceMethod yX0_gluedSidesOf ∈ Tw := tw_of (i := 218) (by decide +kernel) (by decide +kernel)
theorem mlX5_91 : MLv RX5 91 kX0_gluedSidesOf 1 := ⟨⟨w_217, w_2, w_220, by decide, by decide, by decide +kernel⟩, w_218, w_219⟩
theorem w_221 : Cond.methodLink RX0 62 yX0_isFree ∈ Tw := tw_of (i := 221) (by decide +kernel) (by decide +kernel)
theorem w_224 : Cond.code yX0_isFree cX0_isFree 2 (some .boolean) ∈ Tw := tw_of (i := 224) (by decide +kernel) (by decide +kernel)
theorem w_223 : Cond.selects RX0 yX0_isFree yX0_isFree ∈ Tw := tw_of (i := 223) (by decide +kernel) (by decide +kernel)
theorem w_222 : Cond.instanceMethod yX0_isFree ∈ Tw := tw_of (i := 222) (by decide +kernel) (by decide +kernel)
theorem mlX0_62 : MLv RX0 62 kX0_isFree 1 := ⟨⟨w_221, w_2, w_224, by decide, by decide, by decide +kernel⟩, w_222, w_223⟩
theorem w_225 : Cond.methodLink RX0 58 yX0_gluedTo ∈ Tw := tw_of (i := 225) (by decide +kernel) (by decide +kernel)
theorem w_228 : Cond.code yX0_gluedTo cX0_gluedTo 2 (some .int) ∈ Tw := tw_of (i := 228) (by decide +kernel) (by decide +kernel)
theorem w_227 : Cond.selects RX0 yX0_gluedTo yX0_gluedTo ∈ Tw := tw_of (i := 227) (by decide +kernel) (by decide +kernel)
theorem w_226 : Cond.instanceMethod yX0_gluedTo ∈ Tw := tw_of (i := 226) (by decide +kernel) (by decide +kernel)
theorem mlX0_58 : MLv RX0 58 kX0_gluedTo 1 := ⟨⟨w_225, w_2, w_228, by decide, by decide, by decide +kernel⟩, w_226, w_227⟩
theorem w_229 : Cond.methodLink RX0 54 yX0_ways ∈ Tw := tw_of (i := 229) (by decide +kernel) (by decide +kernel)
theorem w_232 : Cond.code yX0_ways cX0_ways 1 (some .int) ∈ Tw := tw_of (i := 232) (by decide +kernel) (by decide +kernel)
theorem w_231 : Cond.selects RX0 yX0_ways yX0_ways ∈ Tw := tw_of (i := 231) (by decide +kernel) (by decide +kernel)
theorem w_230 : Cond.instanceMethod yX0_ways ∈ Tw := tw_of (i := 230) (by decide +kernel) (by decide +kernel)
theorem mlX0_54 : MLv RX0 54 kX0_ways 0 := ⟨⟨w_229, w_2, w_232, by decide, by decide, by decide +kernel⟩, w_230, w_231⟩
theorem w_233 : Cond.methodLink RX5 94 yX0_walkersOn ∈ Tw := tw_of (i := 233) (by decide +kernel) (by decide +kernel)
theorem w_236 : Cond.code yX0_walkersOn cX0_walkersOn 4 (some .int) ∈ Tw := tw_of (i := 236) (by decide +kernel) (by decide +kernel)
theorem w_235 : Cond.selects RX0 yX0_walkersOn yX0_walkersOn ∈ Tw := tw_of (i := 235) (by decide +kernel) (by decide +kernel)
theorem w_234 : Cond.instanceMethod yX0_walkersOn ∈ Tw := tw_of (i := 234) (by decide +kernel) (by decide +kernel)
theorem mlX5_94 : MLv RX5 94 kX0_walkersOn 1 := ⟨⟨w_233, w_2, w_236, by decide, by decide, by decide +kernel⟩, w_234, w_235⟩
theorem w_240 : Cond.methodLink RL 23 yX5_rough ∈ Tw := tw_of (i := 240) (by decide +kernel) (by decide +kernel)
theorem w_243 : Cond.code yX5_rough cX5_rough 4 (some .int) ∈ Tw := tw_of (i := 243) (by decide +kernel) (by decide +kernel)
theorem w_242 : Cond.selects RX5 yX5_rough yX5_rough ∈ Tw := tw_of (i := 242) (by decide +kernel) (by decide +kernel)
theorem w_241 : Cond.instanceMethod yX5_rough ∈ Tw := tw_of (i := 241) (by decide +kernel) (by decide +kernel)
theorem mlL_23 : MLv RL 23 kX5_rough 2 := ⟨⟨w_240, w_1, w_243, by decide, by decide, by decide +kernel⟩, w_241, w_242⟩
theorem w_244 : Cond.methodLink RX5 97 yX0_makeRough ∈ Tw := tw_of (i := 244) (by decide +kernel) (by decide +kernel)
theorem w_247 : Cond.code yX0_makeRough cX0_makeRough 3 none ∈ Tw := tw_of (i := 247) (by decide +kernel) (by decide +kernel)
theorem w_246 : Cond.selects RX0 yX0_makeRough yX0_makeRough ∈ Tw := tw_of (i := 246) (by decide +kernel) (by decide +kernel)
theorem w_245 : Cond.instanceMethod yX0_makeRough ∈ Tw := tw_of (i := 245) (by decide +kernel) (by decide +kernel)
theorem mlX5_97 : MLv RX5 97 kX0_makeRough 2 := ⟨⟨w_244, w_2, w_247, by decide, by decide, by decide +kernel⟩, w_245, w_246⟩
theorem w_248 : Cond.methodLink RL 27 yX5_glue ∈ Tw := tw_of (i := 248) (by decide +kernel) (by decide +kernel)
theorem w_251 : Cond.code yX5_glue cX5_glue 7 (some .int) ∈ Tw := tw_of (i := 251) (by decide +kernel) (by decide +kernel)
theorem w_250 : Cond.selects RX5 yX5_glue yX5_glue ∈ Tw := tw_of (i := 250) (by decide +kernel) (by decide +kernel)
theorem w_249 : Cond.instanceMethod yX5_glue ∈ Tw := tw_of (i := 249) (by decide +kernel) (by decide +kernel)
theorem mlL_27 : MLv RL 27 kX5_glue 4 := ⟨⟨w_248, w_1, w_251, by decide, by decide, by decide +kernel⟩, w_249, w_250⟩
theorem w_252 : Cond.methodLink RX5 101 yX0_hasWay ∈ Tw := tw_of (i := 252) (by decide +kernel) (by decide +kernel)
theorem w_255 : Cond.code yX0_hasWay cX0_hasWay 3 (some .boolean) ∈ Tw := tw_of (i := 255) (by decide +kernel) (by decide +kernel)
theorem w_254 : Cond.selects RX0 yX0_hasWay yX0_hasWay ∈ Tw := tw_of (i := 254) (by decide +kernel) (by decide +kernel)
theorem w_253 : Cond.instanceMethod yX0_hasWay ∈ Tw := tw_of (i := 253) (by decide +kernel) (by decide +kernel)
theorem mlX5_101 : MLv RX5 101 kX0_hasWay 2 := ⟨⟨w_252, w_2, w_255, by decide, by decide, by decide +kernel⟩, w_253, w_254⟩
theorem w_256 : Cond.methodLink RX5 105 yX5_wayOf ∈ Tw := tw_of (i := 256) (by decide +kernel) (by decide +kernel)
theorem w_203 : Cond.code yX5_wayOf cX5_wayOf 2 (some .int) ∈ Tw := tw_of (i := 203) (by decide +kernel) (by decide +kernel)
theorem w_202 : Cond.static yX5_wayOf ∈ Tw := tw_of (i := 202) (by decide +kernel) (by decide +kernel)
theorem mlX5_105 : MLs RX5 105 kX5_wayOf 2 := ⟨⟨w_256, w_1, w_203, by decide, by decide, by decide +kernel⟩, w_202⟩
theorem w_257 : Cond.methodLink RX5 109 yX0_isFree ∈ Tw := tw_of (i := 257) (by decide +kernel) (by decide +kernel)
theorem mlX5_109 : MLv RX5 109 kX0_isFree 1 := ⟨⟨w_257, w_2, w_224, by decide, by decide, by decide +kernel⟩, w_222, w_223⟩
theorem w_259 : Cond.methodLink RX5 113 yX0_join ∈ Tw := tw_of (i := 259) (by decide +kernel) (by decide +kernel)
theorem w_262 : Cond.code yX0_join cX0_join 3 none ∈ Tw := tw_of (i := 262) (by decide +kernel) (by decide +kernel)
theorem w_261 : Cond.selects RX0 yX0_join yX0_join ∈ Tw := tw_of (i := 261) (by decide +kernel) (by decide +kernel)
theorem w_260 : Cond.instanceMethod yX0_join ∈ Tw := tw_of (i := 260) (by decide +kernel) (by decide +kernel)
theorem mlX5_113 : MLv RX5 113 kX0_join 2 := ⟨⟨w_259, w_2, w_262, by decide, by decide, by decide +kernel⟩, w_260, w_261⟩
theorem w_263 : Cond.methodLink RL 32 yX5_cut ∈ Tw := tw_of (i := 263) (by decide +kernel) (by decide +kernel)
theorem w_266 : Cond.code yX5_cut cX5_cut 5 (some .int) ∈ Tw := tw_of (i := 266) (by decide +kernel) (by decide +kernel)
theorem w_265 : Cond.selects RX5 yX5_cut yX5_cut ∈ Tw := tw_of (i := 265) (by decide +kernel) (by decide +kernel)
theorem w_264 : Cond.instanceMethod yX5_cut ∈ Tw := tw_of (i := 264) (by decide +kernel) (by decide +kernel)
theorem mlL_32 : MLv RL 32 kX5_cut 2 := ⟨⟨w_263, w_1, w_266, by decide, by decide, by decide +kernel⟩, w_264, w_265⟩
theorem w_267 : Cond.methodLink RX5 116 yX0_gluedTo ∈ Tw := tw_of (i := 267) (by decide +kernel) (by decide +kernel)
theorem mlX5_116 : MLv RX5 116 kX0_gluedTo 1 := ⟨⟨w_267, w_2, w_228, by decide, by decide, by decide +kernel⟩, w_226, w_227⟩
theorem w_268 : Cond.methodLink RX5 119 yX0_sever ∈ Tw := tw_of (i := 268) (by decide +kernel) (by decide +kernel)
theorem w_271 : Cond.code yX0_sever cX0_sever 3 none ∈ Tw := tw_of (i := 271) (by decide +kernel) (by decide +kernel)
theorem w_270 : Cond.selects RX0 yX0_sever yX0_sever ∈ Tw := tw_of (i := 270) (by decide +kernel) (by decide +kernel)
theorem w_269 : Cond.instanceMethod yX0_sever ∈ Tw := tw_of (i := 269) (by decide +kernel) (by decide +kernel)
theorem mlX5_119 : MLv RX5 119 kX0_sever 1 := ⟨⟨w_268, w_2, w_271, by decide, by decide, by decide +kernel⟩, w_269, w_270⟩
theorem w_272 : Cond.methodLink RL 36 yX5_over ∈ Tw := tw_of (i := 272) (by decide +kernel) (by decide +kernel)
theorem w_275 : Cond.code yX5_over cX5_over 3 (some .int) ∈ Tw := tw_of (i := 275) (by decide +kernel) (by decide +kernel)
theorem w_274 : Cond.selects RX5 yX5_over yX5_over ∈ Tw := tw_of (i := 274) (by decide +kernel) (by decide +kernel)
theorem w_273 : Cond.instanceMethod yX5_over ∈ Tw := tw_of (i := 273) (by decide +kernel) (by decide +kernel)
theorem mlL_36 : MLv RL 36 kX5_over 2 := ⟨⟨w_272, w_1, w_275, by decide, by decide, by decide +kernel⟩, w_273, w_274⟩
theorem w_276 : Cond.methodLink RX5 123 yX5_numberOrNone ∈ Tw := tw_of (i := 276) (by decide +kernel) (by decide +kernel)
theorem w_279 : Cond.code yX5_numberOrNone cX5_numberOrNone 2 (some .int) ∈ Tw := tw_of (i := 279) (by decide +kernel) (by decide +kernel)
theorem ws_mlX5_123 : Cond.selects RX5 yX5_numberOrNone yX5_numberOrNone ∈ Tw := tw_sel (q := (⟨"BentPlain", "numberOrNone", "(I)I"⟩, 13)) (i := 1) (by decide +kernel)
theorem w_278 : Cond.instanceMethod yX5_numberOrNone ∈ Tw := tw_of (i := 278) (by decide +kernel) (by decide +kernel)
theorem mlX5_123 : MLv RX5 123 kX5_numberOrNone 1 := ⟨⟨w_276, w_1, w_279, by decide, by decide, by decide +kernel⟩, w_278, ws_mlX5_123⟩
theorem w_281 : Cond.methodLink RL 40 yX5_walker ∈ Tw := tw_of (i := 281) (by decide +kernel) (by decide +kernel)
theorem w_284 : Cond.code yX5_walker cX5_walker 4 (some .int) ∈ Tw := tw_of (i := 284) (by decide +kernel) (by decide +kernel)
theorem w_283 : Cond.selects RX5 yX5_walker yX5_walker ∈ Tw := tw_of (i := 283) (by decide +kernel) (by decide +kernel)
theorem w_282 : Cond.instanceMethod yX5_walker ∈ Tw := tw_of (i := 282) (by decide +kernel) (by decide +kernel)
theorem mlL_40 : MLv RL 40 kX5_walker 3 := ⟨⟨w_281, w_1, w_284, by decide, by decide, by decide +kernel⟩, w_282, w_283⟩
theorem w_285 : Cond.methodLink RX5 126 yX5_isKind ∈ Tw := tw_of (i := 285) (by decide +kernel) (by decide +kernel)
theorem w_287 : Cond.code yX5_isKind cX5_isKind 1 (some .boolean) ∈ Tw := tw_of (i := 287) (by decide +kernel) (by decide +kernel)
theorem w_286 : Cond.static yX5_isKind ∈ Tw := tw_of (i := 286) (by decide +kernel) (by decide +kernel)
theorem mlX5_126 : MLs RX5 126 kX5_isKind 1 := ⟨⟨w_285, w_1, w_287, by decide, by decide, by decide +kernel⟩, w_286⟩
theorem w_288 : Cond.methodLink RX5 132 yX0_addWalker ∈ Tw := tw_of (i := 288) (by decide +kernel) (by decide +kernel)
theorem w_291 : Cond.code yX0_addWalker cX0_addWalker 3 (some .int) ∈ Tw := tw_of (i := 291) (by decide +kernel) (by decide +kernel)
theorem w_290 : Cond.selects RX0 yX0_addWalker yX0_addWalker ∈ Tw := tw_of (i := 290) (by decide +kernel) (by decide +kernel)
theorem w_289 : Cond.instanceMethod yX0_addWalker ∈ Tw := tw_of (i := 289) (by decide +kernel) (by decide +kernel)
theorem mlX5_132 : MLv RX5 132 kX0_addWalker 2 := ⟨⟨w_288, w_2, w_291, by decide, by decide, by decide +kernel⟩, w_289, w_290⟩
theorem w_292 : Cond.methodLink RX0 50 yX4_begin ∈ Tw := tw_of (i := 292) (by decide +kernel) (by decide +kernel)
theorem w_3 : Cond.initialized RX4 ∈ Tw := tw_of (i := 3) (by decide +kernel) (by decide +kernel)
theorem w_295 : Cond.code yX4_begin cX4_begin 3 none ∈ Tw := tw_of (i := 295) (by decide +kernel) (by decide +kernel)
theorem w_294 : Cond.selects RX4 yX4_begin yX4_begin ∈ Tw := tw_of (i := 294) (by decide +kernel) (by decide +kernel)
theorem w_293 : Cond.instanceMethod yX4_begin ∈ Tw := tw_of (i := 293) (by decide +kernel) (by decide +kernel)
theorem mlX0_50 : MLv RX0 50 kX4_begin 2 := ⟨⟨w_292, w_3, w_295, by decide, by decide, by decide +kernel⟩, w_293, w_294⟩
theorem w_296 : Cond.methodLink RL 45 yX5_its ∈ Tw := tw_of (i := 296) (by decide +kernel) (by decide +kernel)
theorem w_299 : Cond.code yX5_its cX5_its 4 (some .int) ∈ Tw := tw_of (i := 299) (by decide +kernel) (by decide +kernel)
theorem w_298 : Cond.selects RX5 yX5_its yX5_its ∈ Tw := tw_of (i := 298) (by decide +kernel) (by decide +kernel)
theorem w_297 : Cond.instanceMethod yX5_its ∈ Tw := tw_of (i := 297) (by decide +kernel) (by decide +kernel)
theorem mlL_45 : MLv RL 45 kX5_its 2 := ⟨⟨w_296, w_1, w_299, by decide, by decide, by decide +kernel⟩, w_297, w_298⟩
theorem w_300 : Cond.methodLink RX5 135 yX0_hasWalker ∈ Tw := tw_of (i := 300) (by decide +kernel) (by decide +kernel)
theorem w_303 : Cond.code yX0_hasWalker cX0_hasWalker 2 (some .boolean) ∈ Tw := tw_of (i := 303) (by decide +kernel) (by decide +kernel)
theorem w_302 : Cond.selects RX0 yX0_hasWalker yX0_hasWalker ∈ Tw := tw_of (i := 302) (by decide +kernel) (by decide +kernel)
theorem w_301 : Cond.instanceMethod yX0_hasWalker ∈ Tw := tw_of (i := 301) (by decide +kernel) (by decide +kernel)
theorem mlX5_135 : MLv RX5 135 kX0_hasWalker 1 := ⟨⟨w_300, w_2, w_303, by decide, by decide, by decide +kernel⟩, w_301, w_302⟩
theorem w_304 : Cond.methodLink RX5 148 yX5_fieldOf ∈ Tw := tw_of (i := 304) (by decide +kernel) (by decide +kernel)
theorem w_239 : Cond.code yX5_fieldOf cX5_fieldOf 1 (some .int) ∈ Tw := tw_of (i := 239) (by decide +kernel) (by decide +kernel)
theorem w_238 : Cond.static yX5_fieldOf ∈ Tw := tw_of (i := 238) (by decide +kernel) (by decide +kernel)
theorem mlX5_148 : MLs RX5 148 kX5_fieldOf 1 := ⟨⟨w_304, w_1, w_239, by decide, by decide, by decide +kernel⟩, w_238⟩
theorem w_305 : Cond.methodLink RX5 151 yX5_headingOf ∈ Tw := tw_of (i := 305) (by decide +kernel) (by decide +kernel)
theorem w_307 : Cond.code yX5_headingOf cX5_headingOf 1 (some .int) ∈ Tw := tw_of (i := 307) (by decide +kernel) (by decide +kernel)
theorem w_306 : Cond.static yX5_headingOf ∈ Tw := tw_of (i := 306) (by decide +kernel) (by decide +kernel)
theorem mlX5_151 : MLs RX5 151 kX5_headingOf 1 := ⟨⟨w_305, w_1, w_307, by decide, by decide, by decide +kernel⟩, w_306⟩
theorem w_311 : Cond.methodLink RX4 54 yX4_above ∈ Tw := tw_of (i := 311) (by decide +kernel) (by decide +kernel)
theorem w_313 : Cond.code yX4_above cX4_above 1 (some .int) ∈ Tw := tw_of (i := 313) (by decide +kernel) (by decide +kernel)
theorem w_312 : Cond.static yX4_above ∈ Tw := tw_of (i := 312) (by decide +kernel) (by decide +kernel)
theorem mlX4_54 : MLs RX4 54 kX4_above 1 := ⟨⟨w_311, w_3, w_313, by decide, by decide, by decide +kernel⟩, w_312⟩
theorem w_314 : Cond.methodLink RX4 43 yX4_payOf ∈ Tw := tw_of (i := 314) (by decide +kernel) (by decide +kernel)
theorem w_310 : Cond.code yX4_payOf cX4_payOf 2 (some .int) ∈ Tw := tw_of (i := 310) (by decide +kernel) (by decide +kernel)
theorem w_309 : Cond.static yX4_payOf ∈ Tw := tw_of (i := 309) (by decide +kernel) (by decide +kernel)
theorem mlX4_43 : MLs RX4 43 kX4_payOf 2 := ⟨⟨w_314, w_3, w_310, by decide, by decide, by decide +kernel⟩, w_309⟩
theorem w_315 : Cond.methodLink RL 49 yX5_place ∈ Tw := tw_of (i := 315) (by decide +kernel) (by decide +kernel)
theorem w_318 : Cond.code yX5_place cX5_place 6 (some .int) ∈ Tw := tw_of (i := 318) (by decide +kernel) (by decide +kernel)
theorem w_317 : Cond.selects RX5 yX5_place yX5_place ∈ Tw := tw_of (i := 317) (by decide +kernel) (by decide +kernel)
theorem w_316 : Cond.instanceMethod yX5_place ∈ Tw := tw_of (i := 316) (by decide +kernel) (by decide +kernel)
theorem mlL_49 : MLv RL 49 kX5_place 3 := ⟨⟨w_315, w_1, w_318, by decide, by decide, by decide +kernel⟩, w_316, w_317⟩
theorem w_319 : Cond.methodLink RL 53 yX5_turn ∈ Tw := tw_of (i := 319) (by decide +kernel) (by decide +kernel)
theorem w_322 : Cond.code yX5_turn cX5_turn 5 (some .int) ∈ Tw := tw_of (i := 322) (by decide +kernel) (by decide +kernel)
theorem w_321 : Cond.selects RX5 yX5_turn yX5_turn ∈ Tw := tw_of (i := 321) (by decide +kernel) (by decide +kernel)
theorem w_320 : Cond.instanceMethod yX5_turn ∈ Tw := tw_of (i := 320) (by decide +kernel) (by decide +kernel)
theorem mlL_53 : MLv RL 53 kX5_turn 2 := ⟨⟨w_319, w_1, w_322, by decide, by decide, by decide +kernel⟩, w_320, w_321⟩
theorem w_323 : Cond.methodLink RL 57 yX5_as ∈ Tw := tw_of (i := 323) (by decide +kernel) (by decide +kernel)
theorem w_326 : Cond.code yX5_as cX5_as 4 (some .int) ∈ Tw := tw_of (i := 326) (by decide +kernel) (by decide +kernel)
theorem w_325 : Cond.selects RX5 yX5_as yX5_as ∈ Tw := tw_of (i := 325) (by decide +kernel) (by decide +kernel)
theorem w_324 : Cond.instanceMethod yX5_as ∈ Tw := tw_of (i := 324) (by decide +kernel) (by decide +kernel)
theorem mlL_57 : MLv RL 57 kX5_as 2 := ⟨⟨w_323, w_1, w_326, by decide, by decide, by decide +kernel⟩, w_324, w_325⟩
theorem w_327 : Cond.methodLink RX5 163 yX4_isUnder ∈ Tw := tw_of (i := 327) (by decide +kernel) (by decide +kernel)
theorem w_329 : Cond.code yX4_isUnder cX4_isUnder 4 (some .boolean) ∈ Tw := tw_of (i := 329) (by decide +kernel) (by decide +kernel)
theorem w_328 : Cond.static yX4_isUnder ∈ Tw := tw_of (i := 328) (by decide +kernel) (by decide +kernel)
theorem mlX5_163 : MLs RX5 163 kX4_isUnder 2 := ⟨⟨w_327, w_3, w_329, by decide, by decide, by decide +kernel⟩, w_328⟩
theorem w_331 : Cond.methodLink RL 61 yX5_step ∈ Tw := tw_of (i := 331) (by decide +kernel) (by decide +kernel)
theorem w_334 : Cond.code yX5_step cX5_step 3 (some .int) ∈ Tw := tw_of (i := 334) (by decide +kernel) (by decide +kernel)
theorem w_333 : Cond.selects RX5 yX5_step yX5_step ∈ Tw := tw_of (i := 333) (by decide +kernel) (by decide +kernel)
theorem w_332 : Cond.instanceMethod yX5_step ∈ Tw := tw_of (i := 332) (by decide +kernel) (by decide +kernel)
theorem mlL_61 : MLv RL 61 kX5_step 1 := ⟨⟨w_331, w_1, w_334, by decide, by decide, by decide +kernel⟩, w_332, w_333⟩
theorem w_335 : Cond.methodLink RX5 167 yX4_move ∈ Tw := tw_of (i := 335) (by decide +kernel) (by decide +kernel)
theorem w_338 : Cond.code yX4_move cX4_move 4 none ∈ Tw := tw_of (i := 338) (by decide +kernel) (by decide +kernel)
theorem w_337 : Cond.selects RX4 yX4_move yX4_move ∈ Tw := tw_of (i := 337) (by decide +kernel) (by decide +kernel)
theorem w_336 : Cond.instanceMethod yX4_move ∈ Tw := tw_of (i := 336) (by decide +kernel) (by decide +kernel)
theorem mlX5_167 : MLv RX5 167 kX4_move 1 := ⟨⟨w_335, w_3, w_338, by decide, by decide, by decide +kernel⟩, w_336, w_337⟩
theorem w_339 : Cond.methodLink RX4 24 yX0_goOn ∈ Tw := tw_of (i := 339) (by decide +kernel) (by decide +kernel)
theorem w_342 : Cond.code yX0_goOn cX0_goOn 3 (some .int) ∈ Tw := tw_of (i := 342) (by decide +kernel) (by decide +kernel)
theorem w_341 : Cond.selects RX0 yX0_goOn yX0_goOn ∈ Tw := tw_of (i := 341) (by decide +kernel) (by decide +kernel)
theorem w_340 : Cond.instanceMethod yX0_goOn ∈ Tw := tw_of (i := 340) (by decide +kernel) (by decide +kernel)
theorem mlX4_24 : MLv RX4 24 kX0_goOn 1 := ⟨⟨w_339, w_2, w_342, by decide, by decide, by decide +kernel⟩, w_340, w_341⟩
theorem w_346 : Cond.methodLink RX4 30 yX4_quartersAtBump ∈ Tw := tw_of (i := 346) (by decide +kernel) (by decide +kernel)
theorem w_348 : Cond.code yX4_quartersAtBump cX4_quartersAtBump 1 (some .int) ∈ Tw := tw_of (i := 348) (by decide +kernel) (by decide +kernel)
theorem w_347 : Cond.static yX4_quartersAtBump ∈ Tw := tw_of (i := 347) (by decide +kernel) (by decide +kernel)
theorem mlX4_30 : MLs RX4 30 kX4_quartersAtBump 1 := ⟨⟨w_346, w_3, w_348, by decide, by decide, by decide +kernel⟩, w_347⟩
theorem w_351 : Cond.methodLink RX4 40 yX0_roughOf ∈ Tw := tw_of (i := 351) (by decide +kernel) (by decide +kernel)
theorem mlX4_40 : MLv RX4 40 kX0_roughOf 1 := ⟨⟨w_351, w_2, w_215, by decide, by decide, by decide +kernel⟩, w_213, w_214⟩
theorem w_352 : Cond.methodLink RX4 46 yX4_quartersOnComing ∈ Tw := tw_of (i := 352) (by decide +kernel) (by decide +kernel)
theorem w_354 : Cond.code yX4_quartersOnComing cX4_quartersOnComing 3 (some .int) ∈ Tw := tw_of (i := 354) (by decide +kernel) (by decide +kernel)
theorem w_353 : Cond.static yX4_quartersOnComing ∈ Tw := tw_of (i := 353) (by decide +kernel) (by decide +kernel)
theorem mlX4_46 : MLs RX4 46 kX4_quartersOnComing 3 := ⟨⟨w_352, w_3, w_354, by decide, by decide, by decide +kernel⟩, w_353⟩
theorem w_355 : Cond.methodLink RL 65 yX5_steps ∈ Tw := tw_of (i := 355) (by decide +kernel) (by decide +kernel)
theorem w_358 : Cond.code yX5_steps cX5_steps 3 (some .int) ∈ Tw := tw_of (i := 358) (by decide +kernel) (by decide +kernel)
theorem w_357 : Cond.selects RX5 yX5_steps yX5_steps ∈ Tw := tw_of (i := 357) (by decide +kernel) (by decide +kernel)
theorem w_356 : Cond.instanceMethod yX5_steps ∈ Tw := tw_of (i := 356) (by decide +kernel) (by decide +kernel)
theorem mlL_65 : MLv RL 65 kX5_steps 1 := ⟨⟨w_355, w_1, w_358, by decide, by decide, by decide +kernel⟩, w_356, w_357⟩
theorem w_359 : Cond.methodLink RX5 171 yX4_moveOften ∈ Tw := tw_of (i := 359) (by decide +kernel) (by decide +kernel)
theorem w_362 : Cond.code yX4_moveOften cX4_moveOften 4 none ∈ Tw := tw_of (i := 362) (by decide +kernel) (by decide +kernel)
theorem w_361 : Cond.selects RX4 yX4_moveOften yX4_moveOften ∈ Tw := tw_of (i := 361) (by decide +kernel) (by decide +kernel)
theorem w_360 : Cond.instanceMethod yX4_moveOften ∈ Tw := tw_of (i := 360) (by decide +kernel) (by decide +kernel)
theorem mlX5_171 : MLv RX5 171 kX4_moveOften 2 := ⟨⟨w_359, w_3, w_362, by decide, by decide, by decide +kernel⟩, w_360, w_361⟩
theorem w_363 : Cond.methodLink RX4 50 yX4_move ∈ Tw := tw_of (i := 363) (by decide +kernel) (by decide +kernel)
theorem mlX4_50 : MLv RX4 50 kX4_move 1 := ⟨⟨w_363, w_3, w_338, by decide, by decide, by decide +kernel⟩, w_336, w_337⟩
theorem w_364 : Cond.methodLink RX5 175 yX0_milesOfAll ∈ Tw := tw_of (i := 364) (by decide +kernel) (by decide +kernel)
theorem w_367 : Cond.code yX0_milesOfAll cX0_milesOfAll 3 (some .int) ∈ Tw := tw_of (i := 367) (by decide +kernel) (by decide +kernel)
theorem w_366 : Cond.selects RX0 yX0_milesOfAll yX0_milesOfAll ∈ Tw := tw_of (i := 366) (by decide +kernel) (by decide +kernel)
theorem w_365 : Cond.instanceMethod yX0_milesOfAll ∈ Tw := tw_of (i := 365) (by decide +kernel) (by decide +kernel)
theorem mlX5_175 : MLv RX5 175 kX0_milesOfAll 0 := ⟨⟨w_364, w_2, w_367, by decide, by decide, by decide +kernel⟩, w_365, w_366⟩
theorem w_368 : Cond.methodLink RL 69 yX5_on ∈ Tw := tw_of (i := 368) (by decide +kernel) (by decide +kernel)
theorem w_371 : Cond.code yX5_on cX5_on 4 (some .int) ∈ Tw := tw_of (i := 371) (by decide +kernel) (by decide +kernel)
theorem w_370 : Cond.selects RX5 yX5_on yX5_on ∈ Tw := tw_of (i := 370) (by decide +kernel) (by decide +kernel)
theorem w_369 : Cond.instanceMethod yX5_on ∈ Tw := tw_of (i := 369) (by decide +kernel) (by decide +kernel)
theorem mlL_69 : MLv RL 69 kX5_on 3 := ⟨⟨w_368, w_1, w_371, by decide, by decide, by decide +kernel⟩, w_369, w_370⟩
theorem w_372 : Cond.methodLink RX5 179 yX5_isStepsOn ∈ Tw := tw_of (i := 372) (by decide +kernel) (by decide +kernel)
theorem w_374 : Cond.code yX5_isStepsOn cX5_isStepsOn 1 (some .boolean) ∈ Tw := tw_of (i := 374) (by decide +kernel) (by decide +kernel)
theorem w_373 : Cond.static yX5_isStepsOn ∈ Tw := tw_of (i := 373) (by decide +kernel) (by decide +kernel)
theorem mlX5_179 : MLs RX5 179 kX5_isStepsOn 1 := ⟨⟨w_372, w_1, w_374, by decide, by decide, by decide +kernel⟩, w_373⟩
theorem w_375 : Cond.methodLink RX5 182 yX4_become ∈ Tw := tw_of (i := 375) (by decide +kernel) (by decide +kernel)
theorem w_378 : Cond.code yX4_become cX4_become 2 none ∈ Tw := tw_of (i := 378) (by decide +kernel) (by decide +kernel)
theorem w_377 : Cond.selects RX4 yX4_become yX4_become ∈ Tw := tw_of (i := 377) (by decide +kernel) (by decide +kernel)
theorem w_376 : Cond.instanceMethod yX4_become ∈ Tw := tw_of (i := 376) (by decide +kernel) (by decide +kernel)
theorem mlX5_182 : MLv RX5 182 kX4_become 1 := ⟨⟨w_375, w_3, w_378, by decide, by decide, by decide +kernel⟩, w_376, w_377⟩
theorem w_379 : Cond.methodLink RL 73 yX5_when ∈ Tw := tw_of (i := 379) (by decide +kernel) (by decide +kernel)
theorem w_382 : Cond.code yX5_when cX5_when 4 (some .int) ∈ Tw := tw_of (i := 382) (by decide +kernel) (by decide +kernel)
theorem w_381 : Cond.selects RX5 yX5_when yX5_when ∈ Tw := tw_of (i := 381) (by decide +kernel) (by decide +kernel)
theorem w_380 : Cond.instanceMethod yX5_when ∈ Tw := tw_of (i := 380) (by decide +kernel) (by decide +kernel)
theorem mlL_73 : MLv RL 73 kX5_when 2 := ⟨⟨w_379, w_1, w_382, by decide, by decide, by decide +kernel⟩, w_380, w_381⟩
theorem w_383 : Cond.methodLink RL 77 yX5_back ∈ Tw := tw_of (i := 383) (by decide +kernel) (by decide +kernel)
theorem w_386 : Cond.code yX5_back cX5_back 4 (some .int) ∈ Tw := tw_of (i := 386) (by decide +kernel) (by decide +kernel)
theorem w_385 : Cond.selects RX5 yX5_back yX5_back ∈ Tw := tw_of (i := 385) (by decide +kernel) (by decide +kernel)
theorem w_384 : Cond.instanceMethod yX5_back ∈ Tw := tw_of (i := 384) (by decide +kernel) (by decide +kernel)
theorem mlL_77 : MLv RL 77 kX5_back 1 := ⟨⟨w_383, w_1, w_386, by decide, by decide, by decide +kernel⟩, w_384, w_385⟩
theorem w_387 : Cond.methodLink RL 81 yX5_meet ∈ Tw := tw_of (i := 387) (by decide +kernel) (by decide +kernel)
theorem w_390 : Cond.code yX5_meet cX5_meet 4 (some .int) ∈ Tw := tw_of (i := 390) (by decide +kernel) (by decide +kernel)
theorem w_389 : Cond.selects RX5 yX5_meet yX5_meet ∈ Tw := tw_of (i := 389) (by decide +kernel) (by decide +kernel)
theorem w_388 : Cond.instanceMethod yX5_meet ∈ Tw := tw_of (i := 388) (by decide +kernel) (by decide +kernel)
theorem mlL_81 : MLv RL 81 kX5_meet 2 := ⟨⟨w_387, w_1, w_390, by decide, by decide, by decide +kernel⟩, w_388, w_389⟩
theorem w_391 : Cond.methodLink RL 85 yX5_spares ∈ Tw := tw_of (i := 391) (by decide +kernel) (by decide +kernel)
theorem w_394 : Cond.code yX5_spares cX5_spares 5 (some .int) ∈ Tw := tw_of (i := 394) (by decide +kernel) (by decide +kernel)
theorem w_393 : Cond.selects RX5 yX5_spares yX5_spares ∈ Tw := tw_of (i := 393) (by decide +kernel) (by decide +kernel)
theorem w_392 : Cond.instanceMethod yX5_spares ∈ Tw := tw_of (i := 392) (by decide +kernel) (by decide +kernel)
theorem mlL_85 : MLv RL 85 kX5_spares 1 := ⟨⟨w_391, w_1, w_394, by decide, by decide, by decide +kernel⟩, w_392, w_393⟩
theorem w_395 : Cond.methodLink RL 89 yX5_closes ∈ Tw := tw_of (i := 395) (by decide +kernel) (by decide +kernel)
theorem w_398 : Cond.code yX5_closes cX5_closes 6 (some .int) ∈ Tw := tw_of (i := 398) (by decide +kernel) (by decide +kernel)
theorem w_397 : Cond.selects RX5 yX5_closes yX5_closes ∈ Tw := tw_of (i := 397) (by decide +kernel) (by decide +kernel)
theorem w_396 : Cond.instanceMethod yX5_closes ∈ Tw := tw_of (i := 396) (by decide +kernel) (by decide +kernel)
theorem mlL_89 : MLv RL 89 kX5_closes 2 := ⟨⟨w_395, w_1, w_398, by decide, by decide, by decide +kernel⟩, w_396, w_397⟩
theorem w_399 : Cond.methodLink RX5 187 yX0_goOn ∈ Tw := tw_of (i := 399) (by decide +kernel) (by decide +kernel)
theorem mlX5_187 : MLv RX5 187 kX0_goOn 1 := ⟨⟨w_399, w_2, w_342, by decide, by decide, by decide +kernel⟩, w_340, w_341⟩
theorem w_400 : Cond.methodLink RL 93 yX5_bumps ∈ Tw := tw_of (i := 400) (by decide +kernel) (by decide +kernel)
theorem w_403 : Cond.code yX5_bumps cX5_bumps 5 (some .int) ∈ Tw := tw_of (i := 403) (by decide +kernel) (by decide +kernel)
theorem w_402 : Cond.selects RX5 yX5_bumps yX5_bumps ∈ Tw := tw_of (i := 402) (by decide +kernel) (by decide +kernel)
theorem w_401 : Cond.instanceMethod yX5_bumps ∈ Tw := tw_of (i := 401) (by decide +kernel) (by decide +kernel)
theorem mlL_93 : MLv RL 93 kX5_bumps 2 := ⟨⟨w_400, w_1, w_403, by decide, by decide, by decide +kernel⟩, w_401, w_402⟩
theorem w_404 : Cond.methodLink RL 97 yX5_square ∈ Tw := tw_of (i := 404) (by decide +kernel) (by decide +kernel)
theorem w_407 : Cond.code yX5_square cX5_square 7 (some .int) ∈ Tw := tw_of (i := 407) (by decide +kernel) (by decide +kernel)
theorem w_406 : Cond.selects RX5 yX5_square yX5_square ∈ Tw := tw_of (i := 406) (by decide +kernel) (by decide +kernel)
theorem w_405 : Cond.instanceMethod yX5_square ∈ Tw := tw_of (i := 405) (by decide +kernel) (by decide +kernel)
theorem mlL_97 : MLv RL 97 kX5_square 3 := ⟨⟨w_404, w_1, w_407, by decide, by decide, by decide +kernel⟩, w_405, w_406⟩
theorem w_408 : Cond.methodLink RX5 190 yX0_goOnOften ∈ Tw := tw_of (i := 408) (by decide +kernel) (by decide +kernel)
theorem w_411 : Cond.code yX0_goOnOften cX0_goOnOften 5 (some .int) ∈ Tw := tw_of (i := 411) (by decide +kernel) (by decide +kernel)
theorem w_410 : Cond.selects RX0 yX0_goOnOften yX0_goOnOften ∈ Tw := tw_of (i := 410) (by decide +kernel) (by decide +kernel)
theorem w_409 : Cond.instanceMethod yX0_goOnOften ∈ Tw := tw_of (i := 409) (by decide +kernel) (by decide +kernel)
theorem mlX5_190 : MLv RX5 190 kX0_goOnOften 2 := ⟨⟨w_408, w_2, w_411, by decide, by decide, by decide +kernel⟩, w_409, w_410⟩
theorem w_412 : Cond.methodLink RX0 77 yX0_goOn ∈ Tw := tw_of (i := 412) (by decide +kernel) (by decide +kernel)
theorem mlX0_77 : MLv RX0 77 kX0_goOn 1 := ⟨⟨w_412, w_2, w_342, by decide, by decide, by decide +kernel⟩, w_340, w_341⟩
theorem w_413 : Cond.methodLink RX5 193 yX5_turned ∈ Tw := tw_of (i := 413) (by decide +kernel) (by decide +kernel)
theorem w_345 : Cond.code yX5_turned cX5_turned 2 (some .int) ∈ Tw := tw_of (i := 345) (by decide +kernel) (by decide +kernel)
theorem w_344 : Cond.static yX5_turned ∈ Tw := tw_of (i := 344) (by decide +kernel) (by decide +kernel)
theorem mlX5_193 : MLs RX5 193 kX5_turned 2 := ⟨⟨w_413, w_1, w_345, by decide, by decide, by decide +kernel⟩, w_344⟩
theorem w_414 : Cond.methodLink RL 101 yX5_dine ∈ Tw := tw_of (i := 414) (by decide +kernel) (by decide +kernel)
theorem w_417 : Cond.code yX5_dine cX5_dine 8 (some .int) ∈ Tw := tw_of (i := 417) (by decide +kernel) (by decide +kernel)
theorem w_416 : Cond.selects RX5 yX5_dine yX5_dine ∈ Tw := tw_of (i := 416) (by decide +kernel) (by decide +kernel)
theorem w_415 : Cond.instanceMethod yX5_dine ∈ Tw := tw_of (i := 415) (by decide +kernel) (by decide +kernel)
theorem mlL_101 : MLv RL 101 kX5_dine 4 := ⟨⟨w_414, w_1, w_417, by decide, by decide, by decide +kernel⟩, w_415, w_416⟩
theorem w_418 : Cond.methodLink RL 105 yX5_sees ∈ Tw := tw_of (i := 418) (by decide +kernel) (by decide +kernel)
theorem w_421 : Cond.code yX5_sees cX5_sees 3 (some .int) ∈ Tw := tw_of (i := 421) (by decide +kernel) (by decide +kernel)
theorem w_420 : Cond.selects RX5 yX5_sees yX5_sees ∈ Tw := tw_of (i := 420) (by decide +kernel) (by decide +kernel)
theorem w_419 : Cond.instanceMethod yX5_sees ∈ Tw := tw_of (i := 419) (by decide +kernel) (by decide +kernel)
theorem mlL_105 : MLv RL 105 kX5_sees 2 := ⟨⟨w_418, w_1, w_421, by decide, by decide, by decide +kernel⟩, w_419, w_420⟩
theorem w_422 : Cond.methodLink RX5 196 yX0_seenFrom ∈ Tw := tw_of (i := 422) (by decide +kernel) (by decide +kernel)
theorem w_425 : Cond.code yX0_seenFrom cX0_seenFrom 5 (some .int) ∈ Tw := tw_of (i := 425) (by decide +kernel) (by decide +kernel)
theorem w_424 : Cond.selects RX0 yX0_seenFrom yX0_seenFrom ∈ Tw := tw_of (i := 424) (by decide +kernel) (by decide +kernel)
theorem w_423 : Cond.instanceMethod yX0_seenFrom ∈ Tw := tw_of (i := 423) (by decide +kernel) (by decide +kernel)
theorem mlX5_196 : MLv RX5 196 kX0_seenFrom 1 := ⟨⟨w_422, w_2, w_425, by decide, by decide, by decide +kernel⟩, w_423, w_424⟩
theorem w_426 : Cond.methodLink RL 109 yX5_twice ∈ Tw := tw_of (i := 426) (by decide +kernel) (by decide +kernel)
theorem w_429 : Cond.code yX5_twice cX5_twice 6 (some .int) ∈ Tw := tw_of (i := 429) (by decide +kernel) (by decide +kernel)
theorem w_428 : Cond.selects RX5 yX5_twice yX5_twice ∈ Tw := tw_of (i := 428) (by decide +kernel) (by decide +kernel)
theorem w_427 : Cond.instanceMethod yX5_twice ∈ Tw := tw_of (i := 427) (by decide +kernel) (by decide +kernel)
theorem mlL_109 : MLv RL 109 kX5_twice 1 := ⟨⟨w_426, w_1, w_429, by decide, by decide, by decide +kernel⟩, w_427, w_428⟩
theorem w_430 : Cond.methodLink RX5 199 yJ6_bitCount_0f7a4 ∈ Tw := tw_of (i := 430) (by decide +kernel) (by decide +kernel)
theorem w_8 : Cond.initialized RJ6 ∈ Tw := tw_of (i := 8) (by decide +kernel) (by decide +kernel)
theorem w_432 : Cond.code yJ6_bitCount_0f7a4 cJ6_bitCount_0f7a4 1 (some .int) ∈ Tw := tw_of (i := 432) (by decide +kernel) (by decide +kernel)
theorem w_431 : Cond.static yJ6_bitCount_0f7a4 ∈ Tw := tw_of (i := 431) (by decide +kernel) (by decide +kernel)
theorem mlX5_199 : MLs RX5 199 kJ6_bitCount_0f7a4 1 := ⟨⟨w_430, w_8, w_432, by decide, by decide, by decide +kernel⟩, w_431⟩
theorem w_436 : Cond.methodLink RL 113 yX5_about ∈ Tw := tw_of (i := 436) (by decide +kernel) (by decide +kernel)
theorem w_439 : Cond.code yX5_about cX5_about 5 (some .int) ∈ Tw := tw_of (i := 439) (by decide +kernel) (by decide +kernel)
theorem w_438 : Cond.selects RX5 yX5_about yX5_about ∈ Tw := tw_of (i := 438) (by decide +kernel) (by decide +kernel)
theorem w_437 : Cond.instanceMethod yX5_about ∈ Tw := tw_of (i := 437) (by decide +kernel) (by decide +kernel)
theorem mlL_113 : MLv RL 113 kX5_about 2 := ⟨⟨w_436, w_1, w_439, by decide, by decide, by decide +kernel⟩, w_437, w_438⟩
theorem w_440 : Cond.methodLink RX5 204 yX0_roundCorner ∈ Tw := tw_of (i := 440) (by decide +kernel) (by decide +kernel)
theorem w_443 : Cond.code yX0_roundCorner cX0_roundCorner 7 (some .long) ∈ Tw := tw_of (i := 443) (by decide +kernel) (by decide +kernel)
theorem w_442 : Cond.selects RX0 yX0_roundCorner yX0_roundCorner ∈ Tw := tw_of (i := 442) (by decide +kernel) (by decide +kernel)
theorem w_441 : Cond.instanceMethod yX0_roundCorner ∈ Tw := tw_of (i := 441) (by decide +kernel) (by decide +kernel)
theorem mlX5_204 : MLv RX5 204 kX0_roundCorner 1 := ⟨⟨w_440, w_2, w_443, by decide, by decide, by decide +kernel⟩, w_441, w_442⟩
theorem w_444 : Cond.methodLink RX5 208 yJ13_bitCount_95d88 ∈ Tw := tw_of (i := 444) (by decide +kernel) (by decide +kernel)
theorem w_9 : Cond.initialized RJ13 ∈ Tw := tw_of (i := 9) (by decide +kernel) (by decide +kernel)
theorem w_446 : Cond.code yJ13_bitCount_95d88 cJ13_bitCount_95d88 2 (some .int) ∈ Tw := tw_of (i := 446) (by decide +kernel) (by decide +kernel)
theorem w_445 : Cond.static yJ13_bitCount_95d88 ∈ Tw := tw_of (i := 445) (by decide +kernel) (by decide +kernel)
theorem mlX5_208 : MLs RX5 208 kJ13_bitCount_95d88 1 := ⟨⟨w_444, w_9, w_446, by decide, by decide, by decide +kernel⟩, w_445⟩
theorem w_450 : Cond.methodLink RL 117 yX5_corners ∈ Tw := tw_of (i := 450) (by decide +kernel) (by decide +kernel)
theorem w_453 : Cond.code yX5_corners cX5_corners 1 (some .int) ∈ Tw := tw_of (i := 453) (by decide +kernel) (by decide +kernel)
theorem w_452 : Cond.selects RX5 yX5_corners yX5_corners ∈ Tw := tw_of (i := 452) (by decide +kernel) (by decide +kernel)
theorem w_451 : Cond.instanceMethod yX5_corners ∈ Tw := tw_of (i := 451) (by decide +kernel) (by decide +kernel)
theorem mlL_117 : MLv RL 117 kX5_corners 0 := ⟨⟨w_450, w_1, w_453, by decide, by decide, by decide +kernel⟩, w_451, w_452⟩
theorem w_454 : Cond.methodLink RX5 213 yX0_sumOfCorners ∈ Tw := tw_of (i := 454) (by decide +kernel) (by decide +kernel)
theorem w_457 : Cond.code yX0_sumOfCorners cX0_sumOfCorners 9 (some .int) ∈ Tw := tw_of (i := 457) (by decide +kernel) (by decide +kernel)
theorem w_456 : Cond.selects RX0 yX0_sumOfCorners yX0_sumOfCorners ∈ Tw := tw_of (i := 456) (by decide +kernel) (by decide +kernel)
theorem w_455 : Cond.instanceMethod yX0_sumOfCorners ∈ Tw := tw_of (i := 455) (by decide +kernel) (by decide +kernel)
theorem mlX5_213 : MLv RX5 213 kX0_sumOfCorners 2 := ⟨⟨w_454, w_2, w_457, by decide, by decide, by decide +kernel⟩, w_455, w_456⟩
theorem w_458 : Cond.methodLink RX0 80 yX0_roundCorner ∈ Tw := tw_of (i := 458) (by decide +kernel) (by decide +kernel)
theorem mlX0_80 : MLv RX0 80 kX0_roundCorner 1 := ⟨⟨w_458, w_2, w_443, by decide, by decide, by decide +kernel⟩, w_441, w_442⟩
theorem w_459 : Cond.methodLink RX0 84 yJ13_bitCount_95d88 ∈ Tw := tw_of (i := 459) (by decide +kernel) (by decide +kernel)
theorem mlX0_84 : MLs RX0 84 kJ13_bitCount_95d88 1 := ⟨⟨w_459, w_9, w_446, by decide, by decide, by decide +kernel⟩, w_445⟩
theorem w_460 : Cond.methodLink RL 122 yX5_excess ∈ Tw := tw_of (i := 460) (by decide +kernel) (by decide +kernel)
theorem w_463 : Cond.code yX5_excess cX5_excess 1 (some .int) ∈ Tw := tw_of (i := 463) (by decide +kernel) (by decide +kernel)
theorem w_462 : Cond.selects RX5 yX5_excess yX5_excess ∈ Tw := tw_of (i := 462) (by decide +kernel) (by decide +kernel)
theorem w_461 : Cond.instanceMethod yX5_excess ∈ Tw := tw_of (i := 461) (by decide +kernel) (by decide +kernel)
theorem mlL_122 : MLv RL 122 kX5_excess 0 := ⟨⟨w_460, w_1, w_463, by decide, by decide, by decide +kernel⟩, w_461, w_462⟩
theorem w_464 : Cond.methodLink RL 126 yX5_bent ∈ Tw := tw_of (i := 464) (by decide +kernel) (by decide +kernel)
theorem w_467 : Cond.code yX5_bent cX5_bent 5 (some .int) ∈ Tw := tw_of (i := 467) (by decide +kernel) (by decide +kernel)
theorem w_466 : Cond.selects RX5 yX5_bent yX5_bent ∈ Tw := tw_of (i := 466) (by decide +kernel) (by decide +kernel)
theorem w_465 : Cond.instanceMethod yX5_bent ∈ Tw := tw_of (i := 465) (by decide +kernel) (by decide +kernel)
theorem mlL_126 : MLv RL 126 kX5_bent 0 := ⟨⟨w_464, w_1, w_467, by decide, by decide, by decide +kernel⟩, w_465, w_466⟩
theorem w_468 : Cond.methodLink RX5 216 yX0_ways ∈ Tw := tw_of (i := 468) (by decide +kernel) (by decide +kernel)
theorem mlX5_216 : MLv RX5 216 kX0_ways 0 := ⟨⟨w_468, w_2, w_232, by decide, by decide, by decide +kernel⟩, w_230, w_231⟩
theorem w_469 : Cond.methodLink RL 130 yX5_parts ∈ Tw := tw_of (i := 469) (by decide +kernel) (by decide +kernel)
theorem w_472 : Cond.code yX5_parts cX5_parts 4 (some .int) ∈ Tw := tw_of (i := 472) (by decide +kernel) (by decide +kernel)
theorem w_471 : Cond.selects RX5 yX5_parts yX5_parts ∈ Tw := tw_of (i := 471) (by decide +kernel) (by decide +kernel)
theorem w_470 : Cond.instanceMethod yX5_parts ∈ Tw := tw_of (i := 470) (by decide +kernel) (by decide +kernel)
theorem mlL_130 : MLv RL 130 kX5_parts 0 := ⟨⟨w_469, w_1, w_472, by decide, by decide, by decide +kernel⟩, w_470, w_471⟩
theorem w_473 : Cond.methodLink RX5 219 yX0_spread ∈ Tw := tw_of (i := 473) (by decide +kernel) (by decide +kernel)
theorem w_476 : Cond.code yX0_spread cX0_spread 9 none ∈ Tw := tw_of (i := 476) (by decide +kernel) (by decide +kernel)
theorem w_475 : Cond.selects RX0 yX0_spread yX0_spread ∈ Tw := tw_of (i := 475) (by decide +kernel) (by decide +kernel)
theorem w_474 : Cond.instanceMethod yX0_spread ∈ Tw := tw_of (i := 474) (by decide +kernel) (by decide +kernel)
theorem mlX5_219 : MLv RX5 219 kX0_spread 3 := ⟨⟨w_473, w_2, w_476, by decide, by decide, by decide +kernel⟩, w_474, w_475⟩
theorem w_478 : Cond.methodLink RX0 91 yJ7_fill_53178 ∈ Tw := tw_of (i := 478) (by decide +kernel) (by decide +kernel)
theorem w_10 : Cond.initialized RJ7 ∈ Tw := tw_of (i := 10) (by decide +kernel) (by decide +kernel)
theorem w_480 : Cond.code yJ7_fill_53178 cJ7_fill_53178 4 none ∈ Tw := tw_of (i := 480) (by decide +kernel) (by decide +kernel)
theorem w_479 : Cond.static yJ7_fill_53178 ∈ Tw := tw_of (i := 479) (by decide +kernel) (by decide +kernel)
theorem mlX0_91 : MLs RX0 91 kJ7_fill_53178 2 := ⟨⟨w_478, w_10, w_480, by decide, by decide, by decide +kernel⟩, w_479⟩
theorem w_481 : Cond.methodLink RX0 97 yX0_lower ∈ Tw := tw_of (i := 481) (by decide +kernel) (by decide +kernel)
theorem w_483 : Cond.code yX0_lower cX0_lower 3 (some .boolean) ∈ Tw := tw_of (i := 483) (by decide +kernel) (by decide +kernel)
theorem w_482 : Cond.static yX0_lower ∈ Tw := tw_of (i := 482) (by decide +kernel) (by decide +kernel)
theorem mlX0_97 : MLs RX0 97 kX0_lower 3 := ⟨⟨w_481, w_2, w_483, by decide, by decide, by decide +kernel⟩, w_482⟩
theorem w_484 : Cond.methodLink RX0 101 yX0_roughOf ∈ Tw := tw_of (i := 484) (by decide +kernel) (by decide +kernel)
theorem mlX0_101 : MLv RX0 101 kX0_roughOf 1 := ⟨⟨w_484, w_2, w_215, by decide, by decide, by decide +kernel⟩, w_213, w_214⟩
theorem w_486 : Cond.methodLink RX5 224 yX5_reached ∈ Tw := tw_of (i := 486) (by decide +kernel) (by decide +kernel)
theorem w_489 : Cond.code yX5_reached cX5_reached 4 (some .int) ∈ Tw := tw_of (i := 489) (by decide +kernel) (by decide +kernel)
theorem ws_mlX5_224 : Cond.selects RX5 yX5_reached yX5_reached ∈ Tw := tw_sel (q := (⟨"BentPlain", "reached", "(I)I"⟩, 13)) (i := 2) (by decide +kernel)
theorem w_488 : Cond.instanceMethod yX5_reached ∈ Tw := tw_of (i := 488) (by decide +kernel) (by decide +kernel)
theorem mlX5_224 : MLv RX5 224 kX5_reached 1 := ⟨⟨w_486, w_1, w_489, by decide, by decide, by decide +kernel⟩, w_488, ws_mlX5_224⟩
theorem w_490 : Cond.methodLink RL 134 yX5_far ∈ Tw := tw_of (i := 490) (by decide +kernel) (by decide +kernel)
theorem w_493 : Cond.code yX5_far cX5_far 3 (some .int) ∈ Tw := tw_of (i := 493) (by decide +kernel) (by decide +kernel)
theorem w_492 : Cond.selects RX5 yX5_far yX5_far ∈ Tw := tw_of (i := 492) (by decide +kernel) (by decide +kernel)
theorem w_491 : Cond.instanceMethod yX5_far ∈ Tw := tw_of (i := 491) (by decide +kernel) (by decide +kernel)
theorem mlL_134 : MLv RL 134 kX5_far 2 := ⟨⟨w_490, w_1, w_493, by decide, by decide, by decide +kernel⟩, w_491, w_492⟩
theorem w_494 : Cond.methodLink RX5 227 yX5_least ∈ Tw := tw_of (i := 494) (by decide +kernel) (by decide +kernel)
theorem w_497 : Cond.code yX5_least cX5_least 5 (some .int) ∈ Tw := tw_of (i := 497) (by decide +kernel) (by decide +kernel)
theorem ws_mlX5_227 : Cond.selects RX5 yX5_least yX5_least ∈ Tw := tw_sel (q := (⟨"BentPlain", "least", "(IIZ)I"⟩, 13)) (i := 3) (by decide +kernel)
theorem w_496 : Cond.instanceMethod yX5_least ∈ Tw := tw_of (i := 496) (by decide +kernel) (by decide +kernel)
theorem mlX5_227 : MLv RX5 227 kX5_least 3 := ⟨⟨w_494, w_1, w_497, by decide, by decide, by decide +kernel⟩, w_496, ws_mlX5_227⟩
theorem w_499 : Cond.methodLink RL 138 yX5_smooth ∈ Tw := tw_of (i := 499) (by decide +kernel) (by decide +kernel)
theorem w_502 : Cond.code yX5_smooth cX5_smooth 3 (some .int) ∈ Tw := tw_of (i := 502) (by decide +kernel) (by decide +kernel)
theorem w_501 : Cond.selects RX5 yX5_smooth yX5_smooth ∈ Tw := tw_of (i := 501) (by decide +kernel) (by decide +kernel)
theorem w_500 : Cond.instanceMethod yX5_smooth ∈ Tw := tw_of (i := 500) (by decide +kernel) (by decide +kernel)
theorem mlL_138 : MLv RL 138 kX5_smooth 2 := ⟨⟨w_499, w_1, w_502, by decide, by decide, by decide +kernel⟩, w_500, w_501⟩
theorem w_503 : Cond.methodLink RL 142 yX5_turns ∈ Tw := tw_of (i := 503) (by decide +kernel) (by decide +kernel)
theorem w_506 : Cond.code yX5_turns cX5_turns 6 (some .int) ∈ Tw := tw_of (i := 506) (by decide +kernel) (by decide +kernel)
theorem w_505 : Cond.selects RX5 yX5_turns yX5_turns ∈ Tw := tw_of (i := 505) (by decide +kernel) (by decide +kernel)
theorem w_504 : Cond.instanceMethod yX5_turns ∈ Tw := tw_of (i := 504) (by decide +kernel) (by decide +kernel)
theorem mlL_142 : MLv RL 142 kX5_turns 3 := ⟨⟨w_503, w_1, w_506, by decide, by decide, by decide +kernel⟩, w_504, w_505⟩
theorem w_507 : Cond.methodLink RX5 231 yX0_spreadTurning ∈ Tw := tw_of (i := 507) (by decide +kernel) (by decide +kernel)
theorem w_510 : Cond.code yX0_spreadTurning cX0_spreadTurning 6 none ∈ Tw := tw_of (i := 510) (by decide +kernel) (by decide +kernel)
theorem w_509 : Cond.selects RX0 yX0_spreadTurning yX0_spreadTurning ∈ Tw := tw_of (i := 509) (by decide +kernel) (by decide +kernel)
theorem w_508 : Cond.instanceMethod yX0_spreadTurning ∈ Tw := tw_of (i := 508) (by decide +kernel) (by decide +kernel)
theorem mlX5_231 : MLv RX5 231 kX0_spreadTurning 2 := ⟨⟨w_507, w_2, w_510, by decide, by decide, by decide +kernel⟩, w_508, w_509⟩
theorem w_511 : Cond.methodLink RX5 236 yJ9_min_7cf53 ∈ Tw := tw_of (i := 511) (by decide +kernel) (by decide +kernel)
theorem w_11 : Cond.initialized RJ9 ∈ Tw := tw_of (i := 11) (by decide +kernel) (by decide +kernel)
theorem w_513 : Cond.code yJ9_min_7cf53 cJ9_min_7cf53 2 (some .int) ∈ Tw := tw_of (i := 513) (by decide +kernel) (by decide +kernel)
theorem w_512 : Cond.static yJ9_min_7cf53 ∈ Tw := tw_of (i := 512) (by decide +kernel) (by decide +kernel)
theorem mlX5_236 : MLs RX5 236 kJ9_min_7cf53 2 := ⟨⟨w_511, w_11, w_513, by decide, by decide, by decide +kernel⟩, w_512⟩
theorem w_514 : Cond.methodLink RL 146 yX5_within ∈ Tw := tw_of (i := 514) (by decide +kernel) (by decide +kernel)
theorem w_517 : Cond.code yX5_within cX5_within 3 (some .int) ∈ Tw := tw_of (i := 517) (by decide +kernel) (by decide +kernel)
theorem w_516 : Cond.selects RX5 yX5_within yX5_within ∈ Tw := tw_of (i := 516) (by decide +kernel) (by decide +kernel)
theorem w_515 : Cond.instanceMethod yX5_within ∈ Tw := tw_of (i := 515) (by decide +kernel) (by decide +kernel)
theorem mlL_146 : MLv RL 146 kX5_within 2 := ⟨⟨w_514, w_1, w_517, by decide, by decide, by decide +kernel⟩, w_515, w_516⟩
theorem w_518 : Cond.methodLink RL 150 yX5_mends ∈ Tw := tw_of (i := 518) (by decide +kernel) (by decide +kernel)
theorem w_521 : Cond.code yX5_mends cX5_mends 8 (some .int) ∈ Tw := tw_of (i := 521) (by decide +kernel) (by decide +kernel)
theorem w_520 : Cond.selects RX5 yX5_mends yX5_mends ∈ Tw := tw_of (i := 520) (by decide +kernel) (by decide +kernel)
theorem w_519 : Cond.instanceMethod yX5_mends ∈ Tw := tw_of (i := 519) (by decide +kernel) (by decide +kernel)
theorem mlL_150 : MLv RL 150 kX5_mends 2 := ⟨⟨w_518, w_1, w_521, by decide, by decide, by decide +kernel⟩, w_519, w_520⟩
theorem w_522 : Cond.methodLink RX5 241 yX5_farThrough ∈ Tw := tw_of (i := 522) (by decide +kernel) (by decide +kernel)
theorem w_525 : Cond.code yX5_farThrough cX5_farThrough 5 (some .int) ∈ Tw := tw_of (i := 525) (by decide +kernel) (by decide +kernel)
theorem ws_mlX5_241 : Cond.selects RX5 yX5_farThrough yX5_farThrough ∈ Tw := tw_sel (q := (⟨"BentPlain", "farThrough", "(II)I"⟩, 13)) (i := 4) (by decide +kernel)
theorem w_524 : Cond.instanceMethod yX5_farThrough ∈ Tw := tw_of (i := 524) (by decide +kernel) (by decide +kernel)
theorem mlX5_241 : MLv RX5 241 kX5_farThrough 2 := ⟨⟨w_522, w_1, w_525, by decide, by decide, by decide +kernel⟩, w_524, ws_mlX5_241⟩
theorem w_526 : Cond.methodLink RL 154 yX5_feed ∈ Tw := tw_of (i := 526) (by decide +kernel) (by decide +kernel)
theorem w_529 : Cond.code yX5_feed cX5_feed 4 (some .int) ∈ Tw := tw_of (i := 529) (by decide +kernel) (by decide +kernel)
theorem w_528 : Cond.selects RX5 yX5_feed yX5_feed ∈ Tw := tw_of (i := 528) (by decide +kernel) (by decide +kernel)
theorem w_527 : Cond.instanceMethod yX5_feed ∈ Tw := tw_of (i := 527) (by decide +kernel) (by decide +kernel)
theorem mlL_154 : MLv RL 154 kX5_feed 2 := ⟨⟨w_526, w_1, w_529, by decide, by decide, by decide +kernel⟩, w_527, w_528⟩
theorem w_530 : Cond.methodLink RX5 247 yX2_add ∈ Tw := tw_of (i := 530) (by decide +kernel) (by decide +kernel)
theorem w_4 : Cond.initialized RX2 ∈ Tw := tw_of (i := 4) (by decide +kernel) (by decide +kernel)
theorem w_533 : Cond.code yX2_add cX2_add 2 none ∈ Tw := tw_of (i := 533) (by decide +kernel) (by decide +kernel)
theorem w_532 : Cond.selects RX2 yX2_add yX2_add ∈ Tw := tw_of (i := 532) (by decide +kernel) (by decide +kernel)
theorem w_531 : Cond.instanceMethod yX2_add ∈ Tw := tw_of (i := 531) (by decide +kernel) (by decide +kernel)
theorem mlX5_247 : MLv RX5 247 kX2_add 1 := ⟨⟨w_530, w_4, w_533, by decide, by decide, by decide +kernel⟩, w_531, w_532⟩
theorem w_534 : Cond.methodLink RL 158 yX5_wipe ∈ Tw := tw_of (i := 534) (by decide +kernel) (by decide +kernel)
theorem w_537 : Cond.code yX5_wipe cX5_wipe 2 (some .int) ∈ Tw := tw_of (i := 537) (by decide +kernel) (by decide +kernel)
theorem w_536 : Cond.selects RX5 yX5_wipe yX5_wipe ∈ Tw := tw_of (i := 536) (by decide +kernel) (by decide +kernel)
theorem w_535 : Cond.instanceMethod yX5_wipe ∈ Tw := tw_of (i := 535) (by decide +kernel) (by decide +kernel)
theorem mlL_158 : MLv RL 158 kX5_wipe 0 := ⟨⟨w_534, w_1, w_537, by decide, by decide, by decide +kernel⟩, w_535, w_536⟩
theorem w_538 : Cond.methodLink RL 162 yX5_plain ∈ Tw := tw_of (i := 538) (by decide +kernel) (by decide +kernel)
theorem w_541 : Cond.code yX5_plain cX5_plain 2 (some .int) ∈ Tw := tw_of (i := 541) (by decide +kernel) (by decide +kernel)
theorem w_540 : Cond.selects RX5 yX5_plain yX5_plain ∈ Tw := tw_of (i := 540) (by decide +kernel) (by decide +kernel)
theorem w_539 : Cond.instanceMethod yX5_plain ∈ Tw := tw_of (i := 539) (by decide +kernel) (by decide +kernel)
theorem mlL_162 : MLv RL 162 kX5_plain 0 := ⟨⟨w_538, w_1, w_541, by decide, by decide, by decide +kernel⟩, w_539, w_540⟩
theorem w_542 : Cond.methodLink RX5 250 yX0_become ∈ Tw := tw_of (i := 542) (by decide +kernel) (by decide +kernel)
theorem w_545 : Cond.code yX0_become cX0_become 3 none ∈ Tw := tw_of (i := 545) (by decide +kernel) (by decide +kernel)
theorem w_544 : Cond.selects RX0 yX0_become yX0_become ∈ Tw := tw_of (i := 544) (by decide +kernel) (by decide +kernel)
theorem w_543 : Cond.instanceMethod yX0_become ∈ Tw := tw_of (i := 543) (by decide +kernel) (by decide +kernel)
theorem mlX5_250 : MLv RX5 250 kX0_become 1 := ⟨⟨w_542, w_2, w_545, by decide, by decide, by decide +kernel⟩, w_543, w_544⟩
theorem w_549 : Cond.methodLink RX0 38 yX4_become ∈ Tw := tw_of (i := 549) (by decide +kernel) (by decide +kernel)
theorem mlX0_38 : MLv RX0 38 kX4_become 1 := ⟨⟨w_549, w_3, w_378, by decide, by decide, by decide +kernel⟩, w_376, w_377⟩
theorem w_550 : Cond.methodLink RX5 252 yX3_tellAll ∈ Tw := tw_of (i := 550) (by decide +kernel) (by decide +kernel)
theorem w_5 : Cond.initialized RX3 ∈ Tw := tw_of (i := 5) (by decide +kernel) (by decide +kernel)
theorem w_553 : Cond.code yX3_tellAll cX3_tellAll 2 (some .int) ∈ Tw := tw_of (i := 553) (by decide +kernel) (by decide +kernel)
theorem w_552 : Cond.selects RX3 yX3_tellAll yX3_tellAll ∈ Tw := tw_of (i := 552) (by decide +kernel) (by decide +kernel)
theorem w_551 : Cond.instanceMethod yX3_tellAll ∈ Tw := tw_of (i := 551) (by decide +kernel) (by decide +kernel)
theorem mlX5_252 : MLv RX5 252 kX3_tellAll 0 := ⟨⟨w_550, w_5, w_553, by decide, by decide, by decide +kernel⟩, w_551, w_552⟩
theorem w_554 : Cond.methodLink RX3 19 yX2_begin ∈ Tw := tw_of (i := 554) (by decide +kernel) (by decide +kernel)
theorem w_557 : Cond.code yX2_begin cX2_begin 1 none ∈ Tw := tw_of (i := 557) (by decide +kernel) (by decide +kernel)
theorem w_556 : Cond.selects RX2 yX2_begin yX2_begin ∈ Tw := tw_of (i := 556) (by decide +kernel) (by decide +kernel)
theorem w_555 : Cond.instanceMethod yX2_begin ∈ Tw := tw_of (i := 555) (by decide +kernel) (by decide +kernel)
theorem mlX3_19 : MLv RX3 19 kX2_begin 0 := ⟨⟨w_554, w_4, w_557, by decide, by decide, by decide +kernel⟩, w_555, w_556⟩
theorem w_558 : Cond.methodLink RX2 22 yX2_advance ∈ Tw := tw_of (i := 558) (by decide +kernel) (by decide +kernel)
theorem w_561 : Cond.code yX2_advance cX2_advance 1 none ∈ Tw := tw_of (i := 561) (by decide +kernel) (by decide +kernel)
theorem w_560 : Cond.selects RX2 yX2_advance yX2_advance ∈ Tw := tw_of (i := 560) (by decide +kernel) (by decide +kernel)
theorem w_559 : Cond.instanceMethod yX2_advance ∈ Tw := tw_of (i := 559) (by decide +kernel) (by decide +kernel)
theorem mlX2_22 : MLv RX2 22 kX2_advance 0 := ⟨⟨w_558, w_4, w_561, by decide, by decide, by decide +kernel⟩, w_559, w_560⟩
theorem w_562 : Cond.methodLink RX2 31 yX2_isLetter ∈ Tw := tw_of (i := 562) (by decide +kernel) (by decide +kernel)
theorem w_564 : Cond.code yX2_isLetter cX2_isLetter 1 (some .boolean) ∈ Tw := tw_of (i := 564) (by decide +kernel) (by decide +kernel)
theorem w_563 : Cond.static yX2_isLetter ∈ Tw := tw_of (i := 563) (by decide +kernel) (by decide +kernel)
theorem mlX2_31 : MLs RX2 31 kX2_isLetter 1 := ⟨⟨w_562, w_4, w_564, by decide, by decide, by decide +kernel⟩, w_563⟩
theorem w_565 : Cond.methodLink RX2 38 yX2_isDigit ∈ Tw := tw_of (i := 565) (by decide +kernel) (by decide +kernel)
theorem w_567 : Cond.code yX2_isDigit cX2_isDigit 1 (some .boolean) ∈ Tw := tw_of (i := 567) (by decide +kernel) (by decide +kernel)
theorem w_566 : Cond.static yX2_isDigit ∈ Tw := tw_of (i := 566) (by decide +kernel) (by decide +kernel)
theorem mlX2_38 : MLs RX2 38 kX2_isDigit 1 := ⟨⟨w_565, w_4, w_567, by decide, by decide, by decide +kernel⟩, w_566⟩
theorem w_568 : Cond.methodLink RX2 41 yJ9_min_7cf53 ∈ Tw := tw_of (i := 568) (by decide +kernel) (by decide +kernel)
theorem mlX2_41 : MLs RX2 41 kJ9_min_7cf53 2 := ⟨⟨w_568, w_11, w_513, by decide, by decide, by decide +kernel⟩, w_512⟩
theorem w_569 : Cond.methodLink RX3 24 yX3_tellItem ∈ Tw := tw_of (i := 569) (by decide +kernel) (by decide +kernel)
theorem w_572 : Cond.code yX3_tellItem cX3_tellItem 1 (some .boolean) ∈ Tw := tw_of (i := 572) (by decide +kernel) (by decide +kernel)
theorem ws_mlX3_24 : Cond.selects RX3 yX3_tellItem yX3_tellItem ∈ Tw := tw_sel (q := (⟨"BentPlain$Teller", "tellItem", "()Z"⟩, 2)) (i := 5) (by decide +kernel)
theorem w_571 : Cond.instanceMethod yX3_tellItem ∈ Tw := tw_of (i := 571) (by decide +kernel) (by decide +kernel)
theorem mlX3_24 : MLv RX3 24 kX3_tellItem 0 := ⟨⟨w_569, w_5, w_572, by decide, by decide, by decide +kernel⟩, w_571, ws_mlX3_24⟩
theorem w_574 : Cond.methodLink RX3 40 yX2_isWord ∈ Tw := tw_of (i := 574) (by decide +kernel) (by decide +kernel)
theorem w_577 : Cond.code yX2_isWord cX2_isWord 3 (some .boolean) ∈ Tw := tw_of (i := 577) (by decide +kernel) (by decide +kernel)
theorem w_576 : Cond.selects RX2 yX2_isWord yX2_isWord ∈ Tw := tw_of (i := 576) (by decide +kernel) (by decide +kernel)
theorem w_575 : Cond.instanceMethod yX2_isWord ∈ Tw := tw_of (i := 575) (by decide +kernel) (by decide +kernel)
theorem mlX3_40 : MLv RX3 40 kX2_isWord 1 := ⟨⟨w_574, w_4, w_577, by decide, by decide, by decide +kernel⟩, w_575, w_576⟩
theorem w_578 : Cond.methodLink RX2 47 yJ0_length_8abf5 ∈ Tw := tw_of (i := 578) (by decide +kernel) (by decide +kernel)
theorem w_13 : Cond.initialized RJ0 ∈ Tw := tw_of (i := 13) (by decide +kernel) (by decide +kernel)
theorem w_581 : Cond.code yJ0_length_8abf5 cJ0_length_8abf5 1 (some .int) ∈ Tw := tw_of (i := 581) (by decide +kernel) (by decide +kernel)
theorem w_580 : Cond.selects RJ0 yJ0_length_8abf5 yJ0_length_8abf5 ∈ Tw := tw_of (i := 580) (by decide +kernel) (by decide +kernel)
theorem w_579 : Cond.instanceMethod yJ0_length_8abf5 ∈ Tw := tw_of (i := 579) (by decide +kernel) (by decide +kernel)
theorem mlX2_47 : MLv RX2 47 kJ0_length_8abf5 0 := ⟨⟨w_578, w_13, w_581, by decide, by decide, by decide +kernel⟩, w_579, w_580⟩
theorem w_582 : Cond.methodLink RJ0 335 yJ0_coder_7d493 ∈ Tw := tw_of (i := 582) (by decide +kernel) (by decide +kernel)
theorem w_585 : Cond.code yJ0_coder_7d493 cJ0_coder_7d493 1 (some .byte) ∈ Tw := tw_of (i := 585) (by decide +kernel) (by decide +kernel)
theorem w_584 : Cond.selects RJ0 yJ0_coder_7d493 yJ0_coder_7d493 ∈ Tw := tw_of (i := 584) (by decide +kernel) (by decide +kernel)
theorem w_583 : Cond.instanceMethod yJ0_coder_7d493 ∈ Tw := tw_of (i := 583) (by decide +kernel) (by decide +kernel)
theorem mlJ0_335 : MLv RJ0 335 kJ0_coder_7d493 0 := ⟨⟨w_582, w_13, w_585, by decide, by decide, by decide +kernel⟩, w_583, w_584⟩
theorem w_588 : Cond.methodLink RX2 52 yJ0_charAt_5068e ∈ Tw := tw_of (i := 588) (by decide +kernel) (by decide +kernel)
theorem w_591 : Cond.code yJ0_charAt_5068e cJ0_charAt_5068e 2 (some .char) ∈ Tw := tw_of (i := 591) (by decide +kernel) (by decide +kernel)
theorem w_590 : Cond.selects RJ0 yJ0_charAt_5068e yJ0_charAt_5068e ∈ Tw := tw_of (i := 590) (by decide +kernel) (by decide +kernel)
theorem w_589 : Cond.instanceMethod yJ0_charAt_5068e ∈ Tw := tw_of (i := 589) (by decide +kernel) (by decide +kernel)
theorem mlX2_52 : MLv RX2 52 kJ0_charAt_5068e 1 := ⟨⟨w_588, w_13, w_591, by decide, by decide, by decide +kernel⟩, w_589, w_590⟩
theorem w_592 : Cond.methodLink RJ0 492 yJ0_isLatin1_aae02 ∈ Tw := tw_of (i := 592) (by decide +kernel) (by decide +kernel)
theorem w_595 : Cond.code yJ0_isLatin1_aae02 cJ0_isLatin1_aae02 1 (some .boolean) ∈ Tw := tw_of (i := 595) (by decide +kernel) (by decide +kernel)
theorem w_594 : Cond.selects RJ0 yJ0_isLatin1_aae02 yJ0_isLatin1_aae02 ∈ Tw := tw_of (i := 594) (by decide +kernel) (by decide +kernel)
theorem w_593 : Cond.instanceMethod yJ0_isLatin1_aae02 ∈ Tw := tw_of (i := 593) (by decide +kernel) (by decide +kernel)
theorem mlJ0_492 : MLv RJ0 492 kJ0_isLatin1_aae02 0 := ⟨⟨w_592, w_13, w_595, by decide, by decide, by decide +kernel⟩, w_593, w_594⟩
theorem w_596 : Cond.methodLink RJ0 495 yJ1_charAt_3b067 ∈ Tw := tw_of (i := 596) (by decide +kernel) (by decide +kernel)
theorem w_14 : Cond.initialized RJ1 ∈ Tw := tw_of (i := 14) (by decide +kernel) (by decide +kernel)
theorem w_598 : Cond.code yJ1_charAt_3b067 cJ1_charAt_3b067 2 (some .char) ∈ Tw := tw_of (i := 598) (by decide +kernel) (by decide +kernel)
theorem w_597 : Cond.static yJ1_charAt_3b067 ∈ Tw := tw_of (i := 597) (by decide +kernel) (by decide +kernel)
theorem mlJ0_495 : MLs RJ0 495 kJ1_charAt_3b067 2 := ⟨⟨w_596, w_14, w_598, by decide, by decide, by decide +kernel⟩, w_597⟩
theorem w_599 : Cond.methodLink RJ1 9 yJ0_checkIndex_df160 ∈ Tw := tw_of (i := 599) (by decide +kernel) (by decide +kernel)
theorem w_601 : Cond.code yJ0_checkIndex_df160 cJ0_checkIndex_df160 2 none ∈ Tw := tw_of (i := 601) (by decide +kernel) (by decide +kernel)
theorem w_600 : Cond.static yJ0_checkIndex_df160 ∈ Tw := tw_of (i := 600) (by decide +kernel) (by decide +kernel)
theorem mlJ1_9 : MLs RJ1 9 kJ0_checkIndex_df160 2 := ⟨⟨w_599, w_13, w_601, by decide, by decide, by decide +kernel⟩, w_600⟩
theorem w_604 : Cond.methodLink RJ0 1059 yJ3_checkIndex_8e157 ∈ Tw := tw_of (i := 604) (by decide +kernel) (by decide +kernel)
theorem w_15 : Cond.initialized RJ3 ∈ Tw := tw_of (i := 15) (by decide +kernel) (by decide +kernel)
theorem w_606 : Cond.code yJ3_checkIndex_8e157 cJ3_checkIndex_8e157 3 (some .int) ∈ Tw := tw_of (i := 606) (by decide +kernel) (by decide +kernel)
theorem w_605 : Cond.static yJ3_checkIndex_8e157 ∈ Tw := tw_of (i := 605) (by decide +kernel) (by decide +kernel)
theorem mlJ0_1059 : MLs RJ0 1059 kJ3_checkIndex_8e157 3 := ⟨⟨w_604, w_15, w_606, by decide, by decide, by decide +kernel⟩, w_605⟩
theorem w_607 : Cond.methodLink RJ0 498 yJ2_charAt_3b067 ∈ Tw := tw_of (i := 607) (by decide +kernel) (by decide +kernel)
theorem w_16 : Cond.initialized RJ2 ∈ Tw := tw_of (i := 16) (by decide +kernel) (by decide +kernel)
theorem w_609 : Cond.code yJ2_charAt_3b067 cJ2_charAt_3b067 2 (some .char) ∈ Tw := tw_of (i := 609) (by decide +kernel) (by decide +kernel)
theorem w_608 : Cond.static yJ2_charAt_3b067 ∈ Tw := tw_of (i := 608) (by decide +kernel) (by decide +kernel)
theorem mlJ0_498 : MLs RJ0 498 kJ2_charAt_3b067 2 := ⟨⟨w_607, w_16, w_609, by decide, by decide, by decide +kernel⟩, w_608⟩
theorem w_610 : Cond.methodLink RJ2 67 yJ2_checkIndex_2214a ∈ Tw := tw_of (i := 610) (by decide +kernel) (by decide +kernel)
theorem w_612 : Cond.code yJ2_checkIndex_2214a cJ2_checkIndex_2214a 2 none ∈ Tw := tw_of (i := 612) (by decide +kernel) (by decide +kernel)
theorem w_611 : Cond.static yJ2_checkIndex_2214a ∈ Tw := tw_of (i := 611) (by decide +kernel) (by decide +kernel)
theorem mlJ2_67 : MLs RJ2 67 kJ2_checkIndex_2214a 2 := ⟨⟨w_610, w_16, w_612, by decide, by decide, by decide +kernel⟩, w_611⟩
theorem w_613 : Cond.methodLink RJ2 48 yJ2_length_9d52b ∈ Tw := tw_of (i := 613) (by decide +kernel) (by decide +kernel)
theorem w_615 : Cond.code yJ2_length_9d52b cJ2_length_9d52b 1 (some .int) ∈ Tw := tw_of (i := 615) (by decide +kernel) (by decide +kernel)
theorem w_614 : Cond.static yJ2_length_9d52b ∈ Tw := tw_of (i := 614) (by decide +kernel) (by decide +kernel)
theorem mlJ2_48 : MLs RJ2 48 kJ2_length_9d52b 1 := ⟨⟨w_613, w_16, w_615, by decide, by decide, by decide +kernel⟩, w_614⟩
theorem w_616 : Cond.methodLink RJ2 414 yJ0_checkIndex_df160 ∈ Tw := tw_of (i := 616) (by decide +kernel) (by decide +kernel)
theorem mlJ2_414 : MLs RJ2 414 kJ0_checkIndex_df160 2 := ⟨⟨w_616, w_13, w_601, by decide, by decide, by decide +kernel⟩, w_600⟩
theorem w_617 : Cond.methodLink RJ2 71 yJ2_getChar_3b067 ∈ Tw := tw_of (i := 617) (by decide +kernel) (by decide +kernel)
theorem w_619 : Cond.code yJ2_getChar_3b067 cJ2_getChar_3b067 2 (some .char) ∈ Tw := tw_of (i := 619) (by decide +kernel) (by decide +kernel)
theorem w_618 : Cond.static yJ2_getChar_3b067 ∈ Tw := tw_of (i := 618) (by decide +kernel) (by decide +kernel)
theorem mlJ2_71 : MLs RJ2 71 kJ2_getChar_3b067 2 := ⟨⟨w_617, w_16, w_619, by decide, by decide, by decide +kernel⟩, w_618⟩
theorem w_626 : Cond.methodLink RX3 44 yX3_tellField ∈ Tw := tw_of (i := 626) (by decide +kernel) (by decide +kernel)
theorem w_629 : Cond.code yX3_tellField cX3_tellField 2 (some .boolean) ∈ Tw := tw_of (i := 629) (by decide +kernel) (by decide +kernel)
theorem ws_mlX3_44 : Cond.selects RX3 yX3_tellField yX3_tellField ∈ Tw := tw_sel (q := (⟨"BentPlain$Teller", "tellField", "()Z"⟩, 2)) (i := 6) (by decide +kernel)
theorem w_628 : Cond.instanceMethod yX3_tellField ∈ Tw := tw_of (i := 628) (by decide +kernel) (by decide +kernel)
theorem mlX3_44 : MLv RX3 44 kX3_tellField 0 := ⟨⟨w_626, w_5, w_629, by decide, by decide, by decide +kernel⟩, w_628, ws_mlX3_44⟩
theorem w_630 : Cond.methodLink RX3 35 yX2_advance ∈ Tw := tw_of (i := 630) (by decide +kernel) (by decide +kernel)
theorem mlX3_35 : MLv RX3 35 kX2_advance 0 := ⟨⟨w_630, w_4, w_561, by decide, by decide, by decide +kernel⟩, w_559, w_560⟩
theorem w_632 : Cond.methodLink RX3 67 yX2_isNumberBelow ∈ Tw := tw_of (i := 632) (by decide +kernel) (by decide +kernel)
theorem w_635 : Cond.code yX2_isNumberBelow cX2_isNumberBelow 2 (some .boolean) ∈ Tw := tw_of (i := 635) (by decide +kernel) (by decide +kernel)
theorem w_634 : Cond.selects RX2 yX2_isNumberBelow yX2_isNumberBelow ∈ Tw := tw_of (i := 634) (by decide +kernel) (by decide +kernel)
theorem w_633 : Cond.instanceMethod yX2_isNumberBelow ∈ Tw := tw_of (i := 633) (by decide +kernel) (by decide +kernel)
theorem mlX3_67 : MLv RX3 67 kX2_isNumberBelow 1 := ⟨⟨w_632, w_4, w_635, by decide, by decide, by decide +kernel⟩, w_633, w_634⟩
theorem w_636 : Cond.methodLink RX3 74 yX0_addField ∈ Tw := tw_of (i := 636) (by decide +kernel) (by decide +kernel)
theorem mlX3_74 : MLv RX3 74 kX0_addField 1 := ⟨⟨w_636, w_2, w_200, by decide, by decide, by decide +kernel⟩, w_198, w_199⟩
theorem w_638 : Cond.methodLink RX3 49 yX3_tellGlue ∈ Tw := tw_of (i := 638) (by decide +kernel) (by decide +kernel)
theorem w_641 : Cond.code yX3_tellGlue cX3_tellGlue 3 (some .boolean) ∈ Tw := tw_of (i := 641) (by decide +kernel) (by decide +kernel)
theorem ws_mlX3_49 : Cond.selects RX3 yX3_tellGlue yX3_tellGlue ∈ Tw := tw_sel (q := (⟨"BentPlain$Teller", "tellGlue", "()Z"⟩, 2)) (i := 7) (by decide +kernel)
theorem w_640 : Cond.instanceMethod yX3_tellGlue ∈ Tw := tw_of (i := 640) (by decide +kernel) (by decide +kernel)
theorem mlX3_49 : MLv RX3 49 kX3_tellGlue 0 := ⟨⟨w_638, w_5, w_641, by decide, by decide, by decide +kernel⟩, w_640, ws_mlX3_49⟩
theorem w_642 : Cond.methodLink RX3 78 yX3_lookAtSide ∈ Tw := tw_of (i := 642) (by decide +kernel) (by decide +kernel)
theorem w_645 : Cond.code yX3_lookAtSide cX3_lookAtSide 3 (some .int) ∈ Tw := tw_of (i := 645) (by decide +kernel) (by decide +kernel)
theorem ws_mlX3_78 : Cond.selects RX3 yX3_lookAtSide yX3_lookAtSide ∈ Tw := tw_sel (q := (⟨"BentPlain$Teller", "lookAtSide", "()I"⟩, 2)) (i := 8) (by decide +kernel)
theorem w_644 : Cond.instanceMethod yX3_lookAtSide ∈ Tw := tw_of (i := 644) (by decide +kernel) (by decide +kernel)
theorem mlX3_78 : MLv RX3 78 kX3_lookAtSide 0 := ⟨⟨w_642, w_5, w_645, by decide, by decide, by decide +kernel⟩, w_644, ws_mlX3_78⟩
theorem w_646 : Cond.methodLink RX3 105 yX3_sideNamed ∈ Tw := tw_of (i := 646) (by decide +kernel) (by decide +kernel)
theorem w_649 : Cond.code yX3_sideNamed cX3_sideNamed 2 (some .int) ∈ Tw := tw_of (i := 649) (by decide +kernel) (by decide +kernel)
theorem ws_mlX3_105 : Cond.selects RX3 yX3_sideNamed yX3_sideNamed ∈ Tw := tw_sel (q := (⟨"BentPlain$Teller", "sideNamed", "()I"⟩, 2)) (i := 9) (by decide +kernel)
theorem w_648 : Cond.instanceMethod yX3_sideNamed ∈ Tw := tw_of (i := 648) (by decide +kernel) (by decide +kernel)
theorem mlX3_105 : MLv RX3 105 kX3_sideNamed 0 := ⟨⟨w_646, w_5, w_649, by decide, by decide, by decide +kernel⟩, w_648, ws_mlX3_105⟩
theorem w_650 : Cond.methodLink RX3 111 yX3_sideName ∈ Tw := tw_of (i := 650) (by decide +kernel) (by decide +kernel)
theorem w_652 : Cond.code yX3_sideName cX3_sideName 1 (some (.object "java/lang/String")) ∈ Tw := tw_of (i := 652) (by decide +kernel) (by decide +kernel)
theorem w_651 : Cond.static yX3_sideName ∈ Tw := tw_of (i := 651) (by decide +kernel) (by decide +kernel)
theorem mlX3_111 : MLs RX3 111 kX3_sideName 1 := ⟨⟨w_650, w_5, w_652, by decide, by decide, by decide +kernel⟩, w_651⟩
theorem w_658 : Cond.methodLink RX3 82 yX0_isFree ∈ Tw := tw_of (i := 658) (by decide +kernel) (by decide +kernel)
theorem mlX3_82 : MLv RX3 82 kX0_isFree 1 := ⟨⟨w_658, w_2, w_224, by decide, by decide, by decide +kernel⟩, w_222, w_223⟩
theorem w_659 : Cond.methodLink RX3 85 yX0_join ∈ Tw := tw_of (i := 659) (by decide +kernel) (by decide +kernel)
theorem mlX3_85 : MLv RX3 85 kX0_join 2 := ⟨⟨w_659, w_2, w_262, by decide, by decide, by decide +kernel⟩, w_260, w_261⟩
theorem w_661 : Cond.methodLink RX3 54 yX3_tellCut ∈ Tw := tw_of (i := 661) (by decide +kernel) (by decide +kernel)
theorem w_664 : Cond.code yX3_tellCut cX3_tellCut 2 (some .boolean) ∈ Tw := tw_of (i := 664) (by decide +kernel) (by decide +kernel)
theorem ws_mlX3_54 : Cond.selects RX3 yX3_tellCut yX3_tellCut ∈ Tw := tw_sel (q := (⟨"BentPlain$Teller", "tellCut", "()Z"⟩, 2)) (i := 10) (by decide +kernel)
theorem w_663 : Cond.instanceMethod yX3_tellCut ∈ Tw := tw_of (i := 663) (by decide +kernel) (by decide +kernel)
theorem mlX3_54 : MLv RX3 54 kX3_tellCut 0 := ⟨⟨w_661, w_5, w_664, by decide, by decide, by decide +kernel⟩, w_663, ws_mlX3_54⟩
theorem w_665 : Cond.methodLink RX3 89 yX0_sever ∈ Tw := tw_of (i := 665) (by decide +kernel) (by decide +kernel)
theorem mlX3_89 : MLv RX3 89 kX0_sever 1 := ⟨⟨w_665, w_2, w_271, by decide, by decide, by decide +kernel⟩, w_269, w_270⟩
theorem w_666 : Cond.methodLink RX3 57 yX3_tellWalker ∈ Tw := tw_of (i := 666) (by decide +kernel) (by decide +kernel)
theorem w_669 : Cond.code yX3_tellWalker cX3_tellWalker 3 (some .boolean) ∈ Tw := tw_of (i := 669) (by decide +kernel) (by decide +kernel)
theorem ws_mlX3_57 : Cond.selects RX3 yX3_tellWalker yX3_tellWalker ∈ Tw := tw_sel (q := (⟨"BentPlain$Teller", "tellWalker", "()Z"⟩, 2)) (i := 11) (by decide +kernel)
theorem w_668 : Cond.instanceMethod yX3_tellWalker ∈ Tw := tw_of (i := 668) (by decide +kernel) (by decide +kernel)
theorem mlX3_57 : MLv RX3 57 kX3_tellWalker 0 := ⟨⟨w_666, w_5, w_669, by decide, by decide, by decide +kernel⟩, w_668, ws_mlX3_57⟩
theorem w_670 : Cond.methodLink RX3 93 yX3_kindNamed ∈ Tw := tw_of (i := 670) (by decide +kernel) (by decide +kernel)
theorem w_673 : Cond.code yX3_kindNamed cX3_kindNamed 2 (some .int) ∈ Tw := tw_of (i := 673) (by decide +kernel) (by decide +kernel)
theorem ws_mlX3_93 : Cond.selects RX3 yX3_kindNamed yX3_kindNamed ∈ Tw := tw_sel (q := (⟨"BentPlain$Teller", "kindNamed", "()I"⟩, 2)) (i := 12) (by decide +kernel)
theorem w_672 : Cond.instanceMethod yX3_kindNamed ∈ Tw := tw_of (i := 672) (by decide +kernel) (by decide +kernel)
theorem mlX3_93 : MLv RX3 93 kX3_kindNamed 0 := ⟨⟨w_670, w_5, w_673, by decide, by decide, by decide +kernel⟩, w_672, ws_mlX3_93⟩
theorem w_674 : Cond.methodLink RX3 115 yX3_kindName ∈ Tw := tw_of (i := 674) (by decide +kernel) (by decide +kernel)
theorem w_676 : Cond.code yX3_kindName cX3_kindName 1 (some (.object "java/lang/String")) ∈ Tw := tw_of (i := 676) (by decide +kernel) (by decide +kernel)
theorem w_675 : Cond.static yX3_kindName ∈ Tw := tw_of (i := 675) (by decide +kernel) (by decide +kernel)
theorem mlX3_115 : MLs RX3 115 kX3_kindName 1 := ⟨⟨w_674, w_5, w_676, by decide, by decide, by decide +kernel⟩, w_675⟩
theorem w_684 : Cond.methodLink RX3 101 yX0_addWalker ∈ Tw := tw_of (i := 684) (by decide +kernel) (by decide +kernel)
theorem mlX3_101 : MLv RX3 101 kX0_addWalker 2 := ⟨⟨w_684, w_2, w_291, by decide, by decide, by decide +kernel⟩, w_289, w_290⟩
theorem w_686 : Cond.methodLink RL 166 yX5_sheet ∈ Tw := tw_of (i := 686) (by decide +kernel) (by decide +kernel)
theorem w_689 : Cond.code yX5_sheet cX5_sheet 5 (some .int) ∈ Tw := tw_of (i := 689) (by decide +kernel) (by decide +kernel)
theorem w_688 : Cond.selects RX5 yX5_sheet yX5_sheet ∈ Tw := tw_of (i := 688) (by decide +kernel) (by decide +kernel)
theorem w_687 : Cond.instanceMethod yX5_sheet ∈ Tw := tw_of (i := 687) (by decide +kernel) (by decide +kernel)
theorem mlL_166 : MLv RL 166 kX5_sheet 3 := ⟨⟨w_686, w_1, w_689, by decide, by decide, by decide +kernel⟩, w_687, w_688⟩
theorem w_690 : Cond.methodLink RX5 255 yX5_isSheet ∈ Tw := tw_of (i := 690) (by decide +kernel) (by decide +kernel)
theorem w_692 : Cond.code yX5_isSheet cX5_isSheet 1 (some .boolean) ∈ Tw := tw_of (i := 692) (by decide +kernel) (by decide +kernel)
theorem w_691 : Cond.static yX5_isSheet ∈ Tw := tw_of (i := 691) (by decide +kernel) (by decide +kernel)
theorem mlX5_255 : MLs RX5 255 kX5_isSheet 1 := ⟨⟨w_690, w_1, w_692, by decide, by decide, by decide +kernel⟩, w_691⟩
theorem w_694 : Cond.methodLink RX5 259 yX1_begin ∈ Tw := tw_of (i := 694) (by decide +kernel) (by decide +kernel)
theorem w_6 : Cond.initialized RX1 ∈ Tw := tw_of (i := 6) (by decide +kernel) (by decide +kernel)
theorem w_697 : Cond.code yX1_begin cX1_begin 3 none ∈ Tw := tw_of (i := 697) (by decide +kernel) (by decide +kernel)
theorem w_696 : Cond.selects RX1 yX1_begin yX1_begin ∈ Tw := tw_of (i := 696) (by decide +kernel) (by decide +kernel)
theorem w_695 : Cond.instanceMethod yX1_begin ∈ Tw := tw_of (i := 695) (by decide +kernel) (by decide +kernel)
theorem mlX5_259 : MLv RX5 259 kX1_begin 2 := ⟨⟨w_694, w_6, w_697, by decide, by decide, by decide +kernel⟩, w_695, w_696⟩
theorem w_698 : Cond.methodLink RX1 22 yJ7_fill_d0a16 ∈ Tw := tw_of (i := 698) (by decide +kernel) (by decide +kernel)
theorem w_700 : Cond.code yJ7_fill_d0a16 cJ7_fill_d0a16 5 none ∈ Tw := tw_of (i := 700) (by decide +kernel) (by decide +kernel)
theorem w_699 : Cond.static yJ7_fill_d0a16 ∈ Tw := tw_of (i := 699) (by decide +kernel) (by decide +kernel)
theorem mlX1_22 : MLs RX1 22 kJ7_fill_d0a16 2 := ⟨⟨w_698, w_10, w_700, by decide, by decide, by decide +kernel⟩, w_699⟩
theorem w_701 : Cond.methodLink RL 172 yX5_write ∈ Tw := tw_of (i := 701) (by decide +kernel) (by decide +kernel)
theorem w_704 : Cond.code yX5_write cX5_write 9 (some .long) ∈ Tw := tw_of (i := 704) (by decide +kernel) (by decide +kernel)
theorem w_703 : Cond.selects RX5 yX5_write yX5_write ∈ Tw := tw_of (i := 703) (by decide +kernel) (by decide +kernel)
theorem w_702 : Cond.instanceMethod yX5_write ∈ Tw := tw_of (i := 702) (by decide +kernel) (by decide +kernel)
theorem mlL_172 : MLv RL 172 kX5_write 3 := ⟨⟨w_701, w_1, w_704, by decide, by decide, by decide +kernel⟩, w_702, w_703⟩
theorem w_705 : Cond.methodLink RX5 265 yX5_sheetFinding ∈ Tw := tw_of (i := 705) (by decide +kernel) (by decide +kernel)
theorem w_708 : Cond.code yX5_sheetFinding cX5_sheetFinding 2 (some .int) ∈ Tw := tw_of (i := 708) (by decide +kernel) (by decide +kernel)
theorem ws_mlX5_265 : Cond.selects RX5 yX5_sheetFinding yX5_sheetFinding ∈ Tw := tw_sel (q := (⟨"BentPlain", "sheetFinding", "(I)I"⟩, 13)) (i := 13) (by decide +kernel)
theorem w_707 : Cond.instanceMethod yX5_sheetFinding ∈ Tw := tw_of (i := 707) (by decide +kernel) (by decide +kernel)
theorem mlX5_265 : MLv RX5 265 kX5_sheetFinding 1 := ⟨⟨w_705, w_1, w_708, by decide, by decide, by decide +kernel⟩, w_707, ws_mlX5_265⟩
theorem w_710 : Cond.methodLink RX5 272 yX1_lowestBits ∈ Tw := tw_of (i := 710) (by decide +kernel) (by decide +kernel)
theorem w_713 : Cond.code yX1_lowestBits cX1_lowestBits 3 (some .long) ∈ Tw := tw_of (i := 713) (by decide +kernel) (by decide +kernel)
theorem w_712 : Cond.selects RX1 yX1_lowestBits yX1_lowestBits ∈ Tw := tw_of (i := 712) (by decide +kernel) (by decide +kernel)
theorem w_711 : Cond.instanceMethod yX1_lowestBits ∈ Tw := tw_of (i := 711) (by decide +kernel) (by decide +kernel)
theorem mlX5_272 : MLv RX5 272 kX1_lowestBits 1 := ⟨⟨w_710, w_6, w_713, by decide, by decide, by decide +kernel⟩, w_711, w_712⟩
theorem w_714 : Cond.methodLink RL 177 yX5_copy ∈ Tw := tw_of (i := 714) (by decide +kernel) (by decide +kernel)
theorem w_717 : Cond.code yX5_copy cX5_copy 8 (some .int) ∈ Tw := tw_of (i := 717) (by decide +kernel) (by decide +kernel)
theorem w_716 : Cond.selects RX5 yX5_copy yX5_copy ∈ Tw := tw_of (i := 716) (by decide +kernel) (by decide +kernel)
theorem w_715 : Cond.instanceMethod yX5_copy ∈ Tw := tw_of (i := 715) (by decide +kernel) (by decide +kernel)
theorem mlL_177 : MLv RL 177 kX5_copy 5 := ⟨⟨w_714, w_1, w_717, by decide, by decide, by decide +kernel⟩, w_715, w_716⟩
theorem w_718 : Cond.methodLink RX5 280 yX1_hasRow ∈ Tw := tw_of (i := 718) (by decide +kernel) (by decide +kernel)
theorem w_721 : Cond.code yX1_hasRow cX1_hasRow 3 (some .boolean) ∈ Tw := tw_of (i := 721) (by decide +kernel) (by decide +kernel)
theorem w_720 : Cond.selects RX1 yX1_hasRow yX1_hasRow ∈ Tw := tw_of (i := 720) (by decide +kernel) (by decide +kernel)
theorem w_719 : Cond.instanceMethod yX1_hasRow ∈ Tw := tw_of (i := 719) (by decide +kernel) (by decide +kernel)
theorem mlX5_280 : MLv RX5 280 kX1_hasRow 2 := ⟨⟨w_718, w_6, w_721, by decide, by decide, by decide +kernel⟩, w_719, w_720⟩
theorem w_723 : Cond.methodLink RL 182 yX5_lays ∈ Tw := tw_of (i := 723) (by decide +kernel) (by decide +kernel)
theorem w_726 : Cond.code yX5_lays cX5_lays 8 (some .int) ∈ Tw := tw_of (i := 726) (by decide +kernel) (by decide +kernel)
theorem w_725 : Cond.selects RX5 yX5_lays yX5_lays ∈ Tw := tw_of (i := 725) (by decide +kernel) (by decide +kernel)
theorem w_724 : Cond.instanceMethod yX5_lays ∈ Tw := tw_of (i := 724) (by decide +kernel) (by decide +kernel)
theorem mlL_182 : MLv RL 182 kX5_lays 1 := ⟨⟨w_723, w_1, w_726, by decide, by decide, by decide +kernel⟩, w_724, w_725⟩
theorem w_728 : Cond.methodLink RL 186 yX5_book ∈ Tw := tw_of (i := 728) (by decide +kernel) (by decide +kernel)
theorem w_731 : Cond.code yX5_book cX5_book 6 (some .int) ∈ Tw := tw_of (i := 731) (by decide +kernel) (by decide +kernel)
theorem w_730 : Cond.selects RX5 yX5_book yX5_book ∈ Tw := tw_of (i := 730) (by decide +kernel) (by decide +kernel)
theorem w_729 : Cond.instanceMethod yX5_book ∈ Tw := tw_of (i := 729) (by decide +kernel) (by decide +kernel)
theorem mlL_186 : MLv RL 186 kX5_book 2 := ⟨⟨w_728, w_1, w_731, by decide, by decide, by decide +kernel⟩, w_729, w_730⟩
theorem w_732 : Cond.methodLink RX5 291 yX5_bookFinding ∈ Tw := tw_of (i := 732) (by decide +kernel) (by decide +kernel)
theorem w_735 : Cond.code yX5_bookFinding cX5_bookFinding 4 (some .int) ∈ Tw := tw_of (i := 735) (by decide +kernel) (by decide +kernel)
theorem ws_mlX5_291 : Cond.selects RX5 yX5_bookFinding yX5_bookFinding ∈ Tw := tw_sel (q := (⟨"BentPlain", "bookFinding", "(II)I"⟩, 13)) (i := 14) (by decide +kernel)
theorem w_734 : Cond.instanceMethod yX5_bookFinding ∈ Tw := tw_of (i := 734) (by decide +kernel) (by decide +kernel)
theorem mlX5_291 : MLv RX5 291 kX5_bookFinding 2 := ⟨⟨w_732, w_1, w_735, by decide, by decide, by decide +kernel⟩, w_734, ws_mlX5_291⟩
theorem w_736 : Cond.methodLink RL 190 yX5_read ∈ Tw := tw_of (i := 736) (by decide +kernel) (by decide +kernel)
theorem w_739 : Cond.code yX5_read cX5_read 6 (some .int) ∈ Tw := tw_of (i := 739) (by decide +kernel) (by decide +kernel)
theorem w_738 : Cond.selects RX5 yX5_read yX5_read ∈ Tw := tw_of (i := 738) (by decide +kernel) (by decide +kernel)
theorem w_737 : Cond.instanceMethod yX5_read ∈ Tw := tw_of (i := 737) (by decide +kernel) (by decide +kernel)
theorem mlL_190 : MLv RL 190 kX5_read 2 := ⟨⟨w_736, w_1, w_739, by decide, by decide, by decide +kernel⟩, w_737, w_738⟩
theorem w_740 : Cond.methodLink RX5 294 yX5_goesByBook ∈ Tw := tw_of (i := 740) (by decide +kernel) (by decide +kernel)
theorem w_743 : Cond.code yX5_goesByBook cX5_goesByBook 3 (some .boolean) ∈ Tw := tw_of (i := 743) (by decide +kernel) (by decide +kernel)
theorem ws_mlX5_294 : Cond.selects RX5 yX5_goesByBook yX5_goesByBook ∈ Tw := tw_sel (q := (⟨"BentPlain", "goesByBook", "(LBentPlain$Sheet;)Z"⟩, 13)) (i := 15) (by decide +kernel)
theorem w_742 : Cond.instanceMethod yX5_goesByBook ∈ Tw := tw_of (i := 742) (by decide +kernel) (by decide +kernel)
theorem mlX5_294 : MLv RX5 294 kX5_goesByBook 1 := ⟨⟨w_740, w_1, w_743, by decide, by decide, by decide +kernel⟩, w_742, ws_mlX5_294⟩
theorem w_744 : Cond.methodLink RL 194 yX5_image ∈ Tw := tw_of (i := 744) (by decide +kernel) (by decide +kernel)
theorem w_747 : Cond.code yX5_image cX5_image 1 (some .int) ∈ Tw := tw_of (i := 747) (by decide +kernel) (by decide +kernel)
theorem w_746 : Cond.selects RX5 yX5_image yX5_image ∈ Tw := tw_of (i := 746) (by decide +kernel) (by decide +kernel)
theorem w_745 : Cond.instanceMethod yX5_image ∈ Tw := tw_of (i := 745) (by decide +kernel) (by decide +kernel)
theorem mlL_194 : MLv RL 194 kX5_image 0 := ⟨⟨w_744, w_1, w_747, by decide, by decide, by decide +kernel⟩, w_745, w_746⟩
theorem w_748 : Cond.methodLink RL 198 yX5_undo ∈ Tw := tw_of (i := 748) (by decide +kernel) (by decide +kernel)
theorem w_751 : Cond.code yX5_undo cX5_undo 1 (some .int) ∈ Tw := tw_of (i := 751) (by decide +kernel) (by decide +kernel)
theorem w_750 : Cond.selects RX5 yX5_undo yX5_undo ∈ Tw := tw_of (i := 750) (by decide +kernel) (by decide +kernel)
theorem w_749 : Cond.instanceMethod yX5_undo ∈ Tw := tw_of (i := 749) (by decide +kernel) (by decide +kernel)
theorem mlL_198 : MLv RL 198 kX5_undo 0 := ⟨⟨w_748, w_1, w_751, by decide, by decide, by decide +kernel⟩, w_749, w_750⟩
theorem w_752 : Cond.methodLink RL 202 yX5_tear ∈ Tw := tw_of (i := 752) (by decide +kernel) (by decide +kernel)
theorem w_755 : Cond.code yX5_tear cX5_tear 2 (some .int) ∈ Tw := tw_of (i := 755) (by decide +kernel) (by decide +kernel)
theorem w_754 : Cond.selects RX5 yX5_tear yX5_tear ∈ Tw := tw_of (i := 754) (by decide +kernel) (by decide +kernel)
theorem w_753 : Cond.instanceMethod yX5_tear ∈ Tw := tw_of (i := 753) (by decide +kernel) (by decide +kernel)
theorem mlL_202 : MLv RL 202 kX5_tear 0 := ⟨⟨w_752, w_1, w_755, by decide, by decide, by decide +kernel⟩, w_753, w_754⟩
theorem w_756 : Cond.methodLink RL 206 yX5_count ∈ Tw := tw_of (i := 756) (by decide +kernel) (by decide +kernel)
theorem w_759 : Cond.code yX5_count cX5_count 2 (some .int) ∈ Tw := tw_of (i := 759) (by decide +kernel) (by decide +kernel)
theorem w_758 : Cond.selects RX5 yX5_count yX5_count ∈ Tw := tw_of (i := 758) (by decide +kernel) (by decide +kernel)
theorem w_757 : Cond.instanceMethod yX5_count ∈ Tw := tw_of (i := 757) (by decide +kernel) (by decide +kernel)
theorem mlL_206 : MLv RL 206 kX5_count 1 := ⟨⟨w_756, w_1, w_759, by decide, by decide, by decide +kernel⟩, w_757, w_758⟩
theorem w_760 : Cond.methodLink RX5 302 yX0_gluedSides ∈ Tw := tw_of (i := 760) (by decide +kernel) (by decide +kernel)
theorem w_763 : Cond.code yX0_gluedSides cX0_gluedSides 3 (some .int) ∈ Tw := tw_of (i := 763) (by decide +kernel) (by decide +kernel)
theorem w_762 : Cond.selects RX0 yX0_gluedSides yX0_gluedSides ∈ Tw := tw_of (i := 762) (by decide +kernel) (by decide +kernel)
theorem w_761 : Cond.instanceMethod yX0_gluedSides ∈ Tw := tw_of (i := 761) (by decide +kernel) (by decide +kernel)
theorem mlX5_302 : MLv RX5 302 kX0_gluedSides 0 := ⟨⟨w_760, w_2, w_763, by decide, by decide, by decide +kernel⟩, w_761, w_762⟩
theorem w_764 : Cond.methodLink RL 210 yX5_status ∈ Tw := tw_of (i := 764) (by decide +kernel) (by decide +kernel)
theorem w_767 : Cond.code yX5_status cX5_status 4 (some .int) ∈ Tw := tw_of (i := 767) (by decide +kernel) (by decide +kernel)
theorem w_766 : Cond.selects RX5 yX5_status yX5_status ∈ Tw := tw_of (i := 766) (by decide +kernel) (by decide +kernel)
theorem w_765 : Cond.instanceMethod yX5_status ∈ Tw := tw_of (i := 765) (by decide +kernel) (by decide +kernel)
theorem mlL_210 : MLv RL 210 kX5_status 1 := ⟨⟨w_764, w_1, w_767, by decide, by decide, by decide +kernel⟩, w_765, w_766⟩
theorem w_826 : Cond.methodLink RL 17 yX6_field ∈ Tw := tw_of (i := 826) (by decide +kernel) (by decide +kernel)
theorem w_7 : Cond.initialized RX6 ∈ Tw := tw_of (i := 7) (by decide +kernel) (by decide +kernel)
theorem w_829 : Cond.code yX6_field cX6_field 2 (some .int) ∈ Tw := tw_of (i := 829) (by decide +kernel) (by decide +kernel)
theorem w_828 : Cond.selects RX6 yX6_field yX6_field ∈ Tw := tw_of (i := 828) (by decide +kernel) (by decide +kernel)
theorem w_827 : Cond.instanceMethod yX6_field ∈ Tw := tw_of (i := 827) (by decide +kernel) (by decide +kernel)
theorem mlL_17 : MLv RL 17 kX6_field 1 := ⟨⟨w_826, w_7, w_829, by decide, by decide, by decide +kernel⟩, w_827, w_828⟩
theorem w_831 : Cond.methodLink RX6 45 yX6_in ∈ Tw := tw_of (i := 831) (by decide +kernel) (by decide +kernel)
theorem w_833 : Cond.code yX6_in cX6_in 6 (some .boolean) ∈ Tw := tw_of (i := 833) (by decide +kernel) (by decide +kernel)
theorem w_832 : Cond.static yX6_in ∈ Tw := tw_of (i := 832) (by decide +kernel) (by decide +kernel)
theorem mlX6_45 : MLs RX6 45 kX6_in 3 := ⟨⟨w_831, w_7, w_833, by decide, by decide, by decide +kernel⟩, w_832⟩
theorem w_835 : Cond.methodLink RX6 69 yX6_finds ∈ Tw := tw_of (i := 835) (by decide +kernel) (by decide +kernel)
theorem w_838 : Cond.code yX6_finds cX6_finds 2 (some .int) ∈ Tw := tw_of (i := 838) (by decide +kernel) (by decide +kernel)
theorem ws_mlX6_69 : Cond.selects RX6 yX6_finds yX6_finds ∈ Tw := tw_sel (q := (⟨"BentPlainModel", "finds", "(I)I"⟩, 17)) (i := 16) (by decide +kernel)
theorem w_837 : Cond.instanceMethod yX6_finds ∈ Tw := tw_of (i := 837) (by decide +kernel) (by decide +kernel)
theorem mlX6_69 : MLv RX6 69 kX6_finds 1 := ⟨⟨w_835, w_7, w_838, by decide, by decide, by decide +kernel⟩, w_837, ws_mlX6_69⟩
theorem w_840 : Cond.methodLink RX6 74 yX6_adds ∈ Tw := tw_of (i := 840) (by decide +kernel) (by decide +kernel)
theorem w_843 : Cond.code yX6_adds cX6_adds 2 (some .int) ∈ Tw := tw_of (i := 843) (by decide +kernel) (by decide +kernel)
theorem ws_mlX6_74 : Cond.selects RX6 yX6_adds yX6_adds ∈ Tw := tw_sel (q := (⟨"BentPlainModel", "adds", "(I)I"⟩, 17)) (i := 17) (by decide +kernel)
theorem w_842 : Cond.instanceMethod yX6_adds ∈ Tw := tw_of (i := 842) (by decide +kernel) (by decide +kernel)
theorem mlX6_74 : MLv RX6 74 kX6_adds 1 := ⟨⟨w_840, w_7, w_843, by decide, by decide, by decide +kernel⟩, w_842, ws_mlX6_74⟩
theorem w_844 : Cond.methodLink RL 22 yX6_of ∈ Tw := tw_of (i := 844) (by decide +kernel) (by decide +kernel)
theorem w_847 : Cond.code yX6_of cX6_of 3 (some .int) ∈ Tw := tw_of (i := 847) (by decide +kernel) (by decide +kernel)
theorem w_846 : Cond.selects RX6 yX6_of yX6_of ∈ Tw := tw_of (i := 846) (by decide +kernel) (by decide +kernel)
theorem w_845 : Cond.instanceMethod yX6_of ∈ Tw := tw_of (i := 845) (by decide +kernel) (by decide +kernel)
theorem mlL_22 : MLv RL 22 kX6_of 2 := ⟨⟨w_844, w_7, w_847, by decide, by decide, by decide +kernel⟩, w_845, w_846⟩
theorem w_848 : Cond.methodLink RX6 53 yX6_isField ∈ Tw := tw_of (i := 848) (by decide +kernel) (by decide +kernel)
theorem w_851 : Cond.code yX6_isField cX6_isField 2 (some .boolean) ∈ Tw := tw_of (i := 851) (by decide +kernel) (by decide +kernel)
theorem ws_mlX6_53 : Cond.selects RX6 yX6_isField yX6_isField ∈ Tw := tw_sel (q := (⟨"BentPlainModel", "isField", "(I)Z"⟩, 17)) (i := 18) (by decide +kernel)
theorem w_850 : Cond.instanceMethod yX6_isField ∈ Tw := tw_of (i := 850) (by decide +kernel) (by decide +kernel)
theorem mlX6_53 : MLv RX6 53 kX6_isField 1 := ⟨⟨w_848, w_7, w_851, by decide, by decide, by decide +kernel⟩, w_850, ws_mlX6_53⟩
theorem w_853 : Cond.methodLink RX6 79 yX6_gluedOf ∈ Tw := tw_of (i := 853) (by decide +kernel) (by decide +kernel)
theorem w_856 : Cond.code yX6_gluedOf cX6_gluedOf 4 (some .int) ∈ Tw := tw_of (i := 856) (by decide +kernel) (by decide +kernel)
theorem ws_mlX6_79 : Cond.selects RX6 yX6_gluedOf yX6_gluedOf ∈ Tw := tw_sel (q := (⟨"BentPlainModel", "gluedOf", "(I)I"⟩, 17)) (i := 19) (by decide +kernel)
theorem w_855 : Cond.instanceMethod yX6_gluedOf ∈ Tw := tw_of (i := 855) (by decide +kernel) (by decide +kernel)
theorem mlX6_79 : MLv RX6 79 kX6_gluedOf 1 := ⟨⟨w_853, w_7, w_856, by decide, by decide, by decide +kernel⟩, w_855, ws_mlX6_79⟩
theorem w_857 : Cond.methodLink RX6 82 yX6_those ∈ Tw := tw_of (i := 857) (by decide +kernel) (by decide +kernel)
theorem w_860 : Cond.code yX6_those cX6_those 4 (some .int) ∈ Tw := tw_of (i := 860) (by decide +kernel) (by decide +kernel)
theorem ws_mlX6_82 : Cond.selects RX6 yX6_those yX6_those ∈ Tw := tw_sel (q := (⟨"BentPlainModel", "those", "(I)I"⟩, 17)) (i := 20) (by decide +kernel)
theorem w_859 : Cond.instanceMethod yX6_those ∈ Tw := tw_of (i := 859) (by decide +kernel) (by decide +kernel)
theorem mlX6_82 : MLv RX6 82 kX6_those 1 := ⟨⟨w_857, w_7, w_860, by decide, by decide, by decide +kernel⟩, w_859, ws_mlX6_82⟩
theorem w_861 : Cond.methodLink RX6 64 yX6_partOf ∈ Tw := tw_of (i := 861) (by decide +kernel) (by decide +kernel)
theorem w_864 : Cond.code yX6_partOf cX6_partOf 3 (some .int) ∈ Tw := tw_of (i := 864) (by decide +kernel) (by decide +kernel)
theorem ws_mlX6_64 : Cond.selects RX6 yX6_partOf yX6_partOf ∈ Tw := tw_sel (q := (⟨"BentPlainModel", "partOf", "(II)I"⟩, 17)) (i := 21) (by decide +kernel)
theorem w_863 : Cond.instanceMethod yX6_partOf ∈ Tw := tw_of (i := 863) (by decide +kernel) (by decide +kernel)
theorem mlX6_64 : MLv RX6 64 kX6_partOf 2 := ⟨⟨w_861, w_7, w_864, by decide, by decide, by decide +kernel⟩, w_863, ws_mlX6_64⟩
theorem w_865 : Cond.methodLink RX6 60 yX6_spot ∈ Tw := tw_of (i := 865) (by decide +kernel) (by decide +kernel)
theorem w_867 : Cond.code yX6_spot cX6_spot 2 (some .int) ∈ Tw := tw_of (i := 867) (by decide +kernel) (by decide +kernel)
theorem w_866 : Cond.static yX6_spot ∈ Tw := tw_of (i := 866) (by decide +kernel) (by decide +kernel)
theorem mlX6_60 : MLs RX6 60 kX6_spot 2 := ⟨⟨w_865, w_7, w_867, by decide, by decide, by decide +kernel⟩, w_866⟩
theorem w_868 : Cond.methodLink RL 26 yX6_rough ∈ Tw := tw_of (i := 868) (by decide +kernel) (by decide +kernel)
theorem w_871 : Cond.code yX6_rough cX6_rough 3 (some .int) ∈ Tw := tw_of (i := 871) (by decide +kernel) (by decide +kernel)
theorem w_870 : Cond.selects RX6 yX6_rough yX6_rough ∈ Tw := tw_of (i := 870) (by decide +kernel) (by decide +kernel)
theorem w_869 : Cond.instanceMethod yX6_rough ∈ Tw := tw_of (i := 869) (by decide +kernel) (by decide +kernel)
theorem mlL_26 : MLv RL 26 kX6_rough 2 := ⟨⟨w_868, w_7, w_871, by decide, by decide, by decide +kernel⟩, w_869, w_870⟩
theorem w_872 : Cond.methodLink RX6 85 yX6_becomes ∈ Tw := tw_of (i := 872) (by decide +kernel) (by decide +kernel)
theorem w_875 : Cond.code yX6_becomes cX6_becomes 4 (some .int) ∈ Tw := tw_of (i := 875) (by decide +kernel) (by decide +kernel)
theorem ws_mlX6_85 : Cond.selects RX6 yX6_becomes yX6_becomes ∈ Tw := tw_sel (q := (⟨"BentPlainModel", "becomes", "(II)I"⟩, 17)) (i := 22) (by decide +kernel)
theorem w_874 : Cond.instanceMethod yX6_becomes ∈ Tw := tw_of (i := 874) (by decide +kernel) (by decide +kernel)
theorem mlX6_85 : MLv RX6 85 kX6_becomes 2 := ⟨⟨w_872, w_7, w_875, by decide, by decide, by decide +kernel⟩, w_874, ws_mlX6_85⟩
theorem w_876 : Cond.methodLink RL 31 yX6_glue ∈ Tw := tw_of (i := 876) (by decide +kernel) (by decide +kernel)
theorem w_879 : Cond.code yX6_glue cX6_glue 5 (some .int) ∈ Tw := tw_of (i := 879) (by decide +kernel) (by decide +kernel)
theorem w_878 : Cond.selects RX6 yX6_glue yX6_glue ∈ Tw := tw_of (i := 878) (by decide +kernel) (by decide +kernel)
theorem w_877 : Cond.instanceMethod yX6_glue ∈ Tw := tw_of (i := 877) (by decide +kernel) (by decide +kernel)
theorem mlL_31 : MLv RL 31 kX6_glue 4 := ⟨⟨w_876, w_7, w_879, by decide, by decide, by decide +kernel⟩, w_877, w_878⟩
theorem w_880 : Cond.methodLink RX6 88 yX6_isWay ∈ Tw := tw_of (i := 880) (by decide +kernel) (by decide +kernel)
theorem w_883 : Cond.code yX6_isWay cX6_isWay 3 (some .boolean) ∈ Tw := tw_of (i := 883) (by decide +kernel) (by decide +kernel)
theorem ws_mlX6_88 : Cond.selects RX6 yX6_isWay yX6_isWay ∈ Tw := tw_sel (q := (⟨"BentPlainModel", "isWay", "(II)Z"⟩, 17)) (i := 23) (by decide +kernel)
theorem w_882 : Cond.instanceMethod yX6_isWay ∈ Tw := tw_of (i := 882) (by decide +kernel) (by decide +kernel)
theorem mlX6_88 : MLv RX6 88 kX6_isWay 2 := ⟨⟨w_880, w_7, w_883, by decide, by decide, by decide +kernel⟩, w_882, ws_mlX6_88⟩
theorem w_884 : Cond.methodLink RX6 57 yX6_isSide ∈ Tw := tw_of (i := 884) (by decide +kernel) (by decide +kernel)
theorem w_886 : Cond.code yX6_isSide cX6_isSide 1 (some .boolean) ∈ Tw := tw_of (i := 886) (by decide +kernel) (by decide +kernel)
theorem w_885 : Cond.static yX6_isSide ∈ Tw := tw_of (i := 885) (by decide +kernel) (by decide +kernel)
theorem mlX6_57 : MLs RX6 57 kX6_isSide 1 := ⟨⟨w_884, w_7, w_886, by decide, by decide, by decide +kernel⟩, w_885⟩
theorem w_889 : Cond.methodLink RX6 93 yX6_glues ∈ Tw := tw_of (i := 889) (by decide +kernel) (by decide +kernel)
theorem w_892 : Cond.code yX6_glues cX6_glues 3 none ∈ Tw := tw_of (i := 892) (by decide +kernel) (by decide +kernel)
theorem ws_mlX6_93 : Cond.selects RX6 yX6_glues yX6_glues ∈ Tw := tw_sel (q := (⟨"BentPlainModel", "glues", "(II)V"⟩, 17)) (i := 24) (by decide +kernel)
theorem w_891 : Cond.instanceMethod yX6_glues ∈ Tw := tw_of (i := 891) (by decide +kernel) (by decide +kernel)
theorem mlX6_93 : MLv RX6 93 kX6_glues 2 := ⟨⟨w_889, w_7, w_892, by decide, by decide, by decide +kernel⟩, w_891, ws_mlX6_93⟩
theorem w_893 : Cond.methodLink RL 35 yX6_cut ∈ Tw := tw_of (i := 893) (by decide +kernel) (by decide +kernel)
theorem w_896 : Cond.code yX6_cut cX6_cut 4 (some .int) ∈ Tw := tw_of (i := 896) (by decide +kernel) (by decide +kernel)
theorem w_895 : Cond.selects RX6 yX6_cut yX6_cut ∈ Tw := tw_of (i := 895) (by decide +kernel) (by decide +kernel)
theorem w_894 : Cond.instanceMethod yX6_cut ∈ Tw := tw_of (i := 894) (by decide +kernel) (by decide +kernel)
theorem mlL_35 : MLv RL 35 kX6_cut 2 := ⟨⟨w_893, w_7, w_896, by decide, by decide, by decide +kernel⟩, w_894, w_895⟩
theorem w_897 : Cond.methodLink RX6 97 yX6_cuts ∈ Tw := tw_of (i := 897) (by decide +kernel) (by decide +kernel)
theorem w_900 : Cond.code yX6_cuts cX6_cuts 2 none ∈ Tw := tw_of (i := 900) (by decide +kernel) (by decide +kernel)
theorem ws_mlX6_97 : Cond.selects RX6 yX6_cuts yX6_cuts ∈ Tw := tw_sel (q := (⟨"BentPlainModel", "cuts", "(I)V"⟩, 17)) (i := 25) (by decide +kernel)
theorem w_899 : Cond.instanceMethod yX6_cuts ∈ Tw := tw_of (i := 899) (by decide +kernel) (by decide +kernel)
theorem mlX6_97 : MLv RX6 97 kX6_cuts 1 := ⟨⟨w_897, w_7, w_900, by decide, by decide, by decide +kernel⟩, w_899, ws_mlX6_97⟩
theorem w_901 : Cond.methodLink RL 39 yX6_over ∈ Tw := tw_of (i := 901) (by decide +kernel) (by decide +kernel)
theorem w_904 : Cond.code yX6_over cX6_over 4 (some .int) ∈ Tw := tw_of (i := 904) (by decide +kernel) (by decide +kernel)
theorem w_903 : Cond.selects RX6 yX6_over yX6_over ∈ Tw := tw_of (i := 903) (by decide +kernel) (by decide +kernel)
theorem w_902 : Cond.instanceMethod yX6_over ∈ Tw := tw_of (i := 902) (by decide +kernel) (by decide +kernel)
theorem mlL_39 : MLv RL 39 kX6_over 2 := ⟨⟨w_901, w_7, w_904, by decide, by decide, by decide +kernel⟩, w_902, w_903⟩
theorem w_906 : Cond.methodLink RL 44 yX6_walker ∈ Tw := tw_of (i := 906) (by decide +kernel) (by decide +kernel)
theorem w_909 : Cond.code yX6_walker cX6_walker 4 (some .int) ∈ Tw := tw_of (i := 909) (by decide +kernel) (by decide +kernel)
theorem w_908 : Cond.selects RX6 yX6_walker yX6_walker ∈ Tw := tw_of (i := 908) (by decide +kernel) (by decide +kernel)
theorem w_907 : Cond.instanceMethod yX6_walker ∈ Tw := tw_of (i := 907) (by decide +kernel) (by decide +kernel)
theorem mlL_44 : MLv RL 44 kX6_walker 3 := ⟨⟨w_906, w_7, w_909, by decide, by decide, by decide +kernel⟩, w_907, w_908⟩
theorem w_910 : Cond.methodLink RX6 102 yX6_isKind ∈ Tw := tw_of (i := 910) (by decide +kernel) (by decide +kernel)
theorem w_912 : Cond.code yX6_isKind cX6_isKind 1 (some .boolean) ∈ Tw := tw_of (i := 912) (by decide +kernel) (by decide +kernel)
theorem w_911 : Cond.static yX6_isKind ∈ Tw := tw_of (i := 911) (by decide +kernel) (by decide +kernel)
theorem mlX6_102 : MLs RX6 102 kX6_isKind 1 := ⟨⟨w_910, w_7, w_912, by decide, by decide, by decide +kernel⟩, w_911⟩
theorem w_914 : Cond.methodLink RX6 105 yX6_comes ∈ Tw := tw_of (i := 914) (by decide +kernel) (by decide +kernel)
theorem w_917 : Cond.code yX6_comes cX6_comes 5 (some .int) ∈ Tw := tw_of (i := 917) (by decide +kernel) (by decide +kernel)
theorem ws_mlX6_105 : Cond.selects RX6 yX6_comes yX6_comes ∈ Tw := tw_sel (q := (⟨"BentPlainModel", "comes", "(III)I"⟩, 17)) (i := 26) (by decide +kernel)
theorem w_916 : Cond.instanceMethod yX6_comes ∈ Tw := tw_of (i := 916) (by decide +kernel) (by decide +kernel)
theorem mlX6_105 : MLv RX6 105 kX6_comes 3 := ⟨⟨w_914, w_7, w_917, by decide, by decide, by decide +kernel⟩, w_916, ws_mlX6_105⟩
theorem w_918 : Cond.methodLink RL 48 yX6_its ∈ Tw := tw_of (i := 918) (by decide +kernel) (by decide +kernel)
theorem w_921 : Cond.code yX6_its cX6_its 3 (some .int) ∈ Tw := tw_of (i := 921) (by decide +kernel) (by decide +kernel)
theorem w_920 : Cond.selects RX6 yX6_its yX6_its ∈ Tw := tw_of (i := 920) (by decide +kernel) (by decide +kernel)
theorem w_919 : Cond.instanceMethod yX6_its ∈ Tw := tw_of (i := 919) (by decide +kernel) (by decide +kernel)
theorem mlL_48 : MLv RL 48 kX6_its 2 := ⟨⟨w_918, w_7, w_921, by decide, by decide, by decide +kernel⟩, w_919, w_920⟩
theorem w_922 : Cond.methodLink RX6 124 yX6_isWalker ∈ Tw := tw_of (i := 922) (by decide +kernel) (by decide +kernel)
theorem w_925 : Cond.code yX6_isWalker cX6_isWalker 2 (some .boolean) ∈ Tw := tw_of (i := 925) (by decide +kernel) (by decide +kernel)
theorem ws_mlX6_124 : Cond.selects RX6 yX6_isWalker yX6_isWalker ∈ Tw := tw_sel (q := (⟨"BentPlainModel", "isWalker", "(I)Z"⟩, 17)) (i := 27) (by decide +kernel)
theorem w_924 : Cond.instanceMethod yX6_isWalker ∈ Tw := tw_of (i := 924) (by decide +kernel) (by decide +kernel)
theorem mlX6_124 : MLv RX6 124 kX6_isWalker 1 := ⟨⟨w_922, w_7, w_925, by decide, by decide, by decide +kernel⟩, w_924, ws_mlX6_124⟩
theorem w_926 : Cond.methodLink RX6 118 yX6_pays ∈ Tw := tw_of (i := 926) (by decide +kernel) (by decide +kernel)
theorem w_928 : Cond.code yX6_pays cX6_pays 2 (some .int) ∈ Tw := tw_of (i := 928) (by decide +kernel) (by decide +kernel)
theorem w_927 : Cond.static yX6_pays ∈ Tw := tw_of (i := 927) (by decide +kernel) (by decide +kernel)
theorem mlX6_118 : MLs RX6 118 kX6_pays 2 := ⟨⟨w_926, w_7, w_928, by decide, by decide, by decide +kernel⟩, w_927⟩
theorem w_929 : Cond.methodLink RL 52 yX6_place ∈ Tw := tw_of (i := 929) (by decide +kernel) (by decide +kernel)
theorem w_932 : Cond.code yX6_place cX6_place 5 (some .int) ∈ Tw := tw_of (i := 932) (by decide +kernel) (by decide +kernel)
theorem w_931 : Cond.selects RX6 yX6_place yX6_place ∈ Tw := tw_of (i := 931) (by decide +kernel) (by decide +kernel)
theorem w_930 : Cond.instanceMethod yX6_place ∈ Tw := tw_of (i := 930) (by decide +kernel) (by decide +kernel)
theorem mlL_52 : MLv RL 52 kX6_place 3 := ⟨⟨w_929, w_7, w_932, by decide, by decide, by decide +kernel⟩, w_930, w_931⟩
theorem w_933 : Cond.methodLink RX6 109 yX6_wayOf ∈ Tw := tw_of (i := 933) (by decide +kernel) (by decide +kernel)
theorem w_936 : Cond.code yX6_wayOf cX6_wayOf 2 (some .int) ∈ Tw := tw_of (i := 936) (by decide +kernel) (by decide +kernel)
theorem ws_mlX6_109 : Cond.selects RX6 yX6_wayOf yX6_wayOf ∈ Tw := tw_sel (q := (⟨"BentPlainModel", "wayOf", "(I)I"⟩, 17)) (i := 28) (by decide +kernel)
theorem w_935 : Cond.instanceMethod yX6_wayOf ∈ Tw := tw_of (i := 935) (by decide +kernel) (by decide +kernel)
theorem mlX6_109 : MLv RX6 109 kX6_wayOf 1 := ⟨⟨w_933, w_7, w_936, by decide, by decide, by decide +kernel⟩, w_935, ws_mlX6_109⟩
theorem w_937 : Cond.methodLink RX6 127 yX6_stands ∈ Tw := tw_of (i := 937) (by decide +kernel) (by decide +kernel)
theorem w_940 : Cond.code yX6_stands cX6_stands 3 none ∈ Tw := tw_of (i := 940) (by decide +kernel) (by decide +kernel)
theorem ws_mlX6_127 : Cond.selects RX6 yX6_stands yX6_stands ∈ Tw := tw_sel (q := (⟨"BentPlainModel", "stands", "(II)V"⟩, 17)) (i := 29) (by decide +kernel)
theorem w_939 : Cond.instanceMethod yX6_stands ∈ Tw := tw_of (i := 939) (by decide +kernel) (by decide +kernel)
theorem mlX6_127 : MLv RX6 127 kX6_stands 2 := ⟨⟨w_937, w_7, w_940, by decide, by decide, by decide +kernel⟩, w_939, ws_mlX6_127⟩
theorem w_941 : Cond.methodLink RL 56 yX6_turn ∈ Tw := tw_of (i := 941) (by decide +kernel) (by decide +kernel)
theorem w_944 : Cond.code yX6_turn cX6_turn 3 (some .int) ∈ Tw := tw_of (i := 944) (by decide +kernel) (by decide +kernel)
theorem w_943 : Cond.selects RX6 yX6_turn yX6_turn ∈ Tw := tw_of (i := 943) (by decide +kernel) (by decide +kernel)
theorem w_942 : Cond.instanceMethod yX6_turn ∈ Tw := tw_of (i := 942) (by decide +kernel) (by decide +kernel)
theorem mlL_56 : MLv RL 56 kX6_turn 2 := ⟨⟨w_941, w_7, w_944, by decide, by decide, by decide +kernel⟩, w_942, w_943⟩
theorem w_945 : Cond.methodLink RL 60 yX6_as ∈ Tw := tw_of (i := 945) (by decide +kernel) (by decide +kernel)
theorem w_948 : Cond.code yX6_as cX6_as 4 (some .int) ∈ Tw := tw_of (i := 948) (by decide +kernel) (by decide +kernel)
theorem w_947 : Cond.selects RX6 yX6_as yX6_as ∈ Tw := tw_of (i := 947) (by decide +kernel) (by decide +kernel)
theorem w_946 : Cond.instanceMethod yX6_as ∈ Tw := tw_of (i := 946) (by decide +kernel) (by decide +kernel)
theorem mlL_60 : MLv RL 60 kX6_as 2 := ⟨⟨w_945, w_7, w_948, by decide, by decide, by decide +kernel⟩, w_946, w_947⟩
theorem w_949 : Cond.methodLink RX6 130 yX6_above ∈ Tw := tw_of (i := 949) (by decide +kernel) (by decide +kernel)
theorem w_951 : Cond.code yX6_above cX6_above 1 (some .int) ∈ Tw := tw_of (i := 951) (by decide +kernel) (by decide +kernel)
theorem w_950 : Cond.static yX6_above ∈ Tw := tw_of (i := 950) (by decide +kernel) (by decide +kernel)
theorem mlX6_130 : MLs RX6 130 kX6_above 1 := ⟨⟨w_949, w_7, w_951, by decide, by decide, by decide +kernel⟩, w_950⟩
theorem w_953 : Cond.methodLink RL 64 yX6_step ∈ Tw := tw_of (i := 953) (by decide +kernel) (by decide +kernel)
theorem w_956 : Cond.code yX6_step cX6_step 2 (some .int) ∈ Tw := tw_of (i := 956) (by decide +kernel) (by decide +kernel)
theorem w_955 : Cond.selects RX6 yX6_step yX6_step ∈ Tw := tw_of (i := 955) (by decide +kernel) (by decide +kernel)
theorem w_954 : Cond.instanceMethod yX6_step ∈ Tw := tw_of (i := 954) (by decide +kernel) (by decide +kernel)
theorem mlL_64 : MLv RL 64 kX6_step 1 := ⟨⟨w_953, w_7, w_956, by decide, by decide, by decide +kernel⟩, w_954, w_955⟩
theorem w_957 : Cond.methodLink RX6 134 yX6_goes ∈ Tw := tw_of (i := 957) (by decide +kernel) (by decide +kernel)
theorem w_960 : Cond.code yX6_goes cX6_goes 6 none ∈ Tw := tw_of (i := 960) (by decide +kernel) (by decide +kernel)
theorem ws_mlX6_134 : Cond.selects RX6 yX6_goes yX6_goes ∈ Tw := tw_sel (q := (⟨"BentPlainModel", "goes", "(I)V"⟩, 17)) (i := 30) (by decide +kernel)
theorem w_959 : Cond.instanceMethod yX6_goes ∈ Tw := tw_of (i := 959) (by decide +kernel) (by decide +kernel)
theorem mlX6_134 : MLv RX6 134 kX6_goes 1 := ⟨⟨w_957, w_7, w_960, by decide, by decide, by decide +kernel⟩, w_959, ws_mlX6_134⟩
theorem w_961 : Cond.methodLink RX6 112 yX6_onward ∈ Tw := tw_of (i := 961) (by decide +kernel) (by decide +kernel)
theorem w_964 : Cond.code yX6_onward cX6_onward 3 (some .int) ∈ Tw := tw_of (i := 964) (by decide +kernel) (by decide +kernel)
theorem ws_mlX6_112 : Cond.selects RX6 yX6_onward yX6_onward ∈ Tw := tw_sel (q := (⟨"BentPlainModel", "onward", "(I)I"⟩, 17)) (i := 31) (by decide +kernel)
theorem w_963 : Cond.instanceMethod yX6_onward ∈ Tw := tw_of (i := 963) (by decide +kernel) (by decide +kernel)
theorem mlX6_112 : MLv RX6 112 kX6_onward 1 := ⟨⟨w_961, w_7, w_964, by decide, by decide, by decide +kernel⟩, w_963, ws_mlX6_112⟩
theorem w_965 : Cond.methodLink RX6 115 yX6_atBump ∈ Tw := tw_of (i := 965) (by decide +kernel) (by decide +kernel)
theorem w_967 : Cond.code yX6_atBump cX6_atBump 1 (some .int) ∈ Tw := tw_of (i := 967) (by decide +kernel) (by decide +kernel)
theorem w_966 : Cond.static yX6_atBump ∈ Tw := tw_of (i := 966) (by decide +kernel) (by decide +kernel)
theorem mlX6_115 : MLs RX6 115 kX6_atBump 1 := ⟨⟨w_965, w_7, w_967, by decide, by decide, by decide +kernel⟩, w_966⟩
theorem w_968 : Cond.methodLink RX6 121 yX6_quarters ∈ Tw := tw_of (i := 968) (by decide +kernel) (by decide +kernel)
theorem w_970 : Cond.code yX6_quarters cX6_quarters 3 (some .int) ∈ Tw := tw_of (i := 970) (by decide +kernel) (by decide +kernel)
theorem w_969 : Cond.static yX6_quarters ∈ Tw := tw_of (i := 969) (by decide +kernel) (by decide +kernel)
theorem mlX6_121 : MLs RX6 121 kX6_quarters 3 := ⟨⟨w_968, w_7, w_970, by decide, by decide, by decide +kernel⟩, w_969⟩
theorem w_971 : Cond.methodLink RL 68 yX6_steps ∈ Tw := tw_of (i := 971) (by decide +kernel) (by decide +kernel)
theorem w_974 : Cond.code yX6_steps cX6_steps 3 (some .int) ∈ Tw := tw_of (i := 974) (by decide +kernel) (by decide +kernel)
theorem w_973 : Cond.selects RX6 yX6_steps yX6_steps ∈ Tw := tw_of (i := 973) (by decide +kernel) (by decide +kernel)
theorem w_972 : Cond.instanceMethod yX6_steps ∈ Tw := tw_of (i := 972) (by decide +kernel) (by decide +kernel)
theorem mlL_68 : MLv RL 68 kX6_steps 1 := ⟨⟨w_971, w_7, w_974, by decide, by decide, by decide +kernel⟩, w_972, w_973⟩
theorem w_976 : Cond.methodLink RX6 139 yX6_all ∈ Tw := tw_of (i := 976) (by decide +kernel) (by decide +kernel)
theorem w_979 : Cond.code yX6_all cX6_all 2 none ∈ Tw := tw_of (i := 979) (by decide +kernel) (by decide +kernel)
theorem ws_mlX6_139 : Cond.selects RX6 yX6_all yX6_all ∈ Tw := tw_sel (q := (⟨"BentPlainModel", "all", "()V"⟩, 17)) (i := 32) (by decide +kernel)
theorem w_978 : Cond.instanceMethod yX6_all ∈ Tw := tw_of (i := 978) (by decide +kernel) (by decide +kernel)
theorem mlX6_139 : MLv RX6 139 kX6_all 0 := ⟨⟨w_976, w_7, w_979, by decide, by decide, by decide +kernel⟩, w_978, ws_mlX6_139⟩
theorem w_980 : Cond.methodLink RX6 142 yX6_allMiles ∈ Tw := tw_of (i := 980) (by decide +kernel) (by decide +kernel)
theorem w_983 : Cond.code yX6_allMiles cX6_allMiles 3 (some .int) ∈ Tw := tw_of (i := 983) (by decide +kernel) (by decide +kernel)
theorem ws_mlX6_142 : Cond.selects RX6 yX6_allMiles yX6_allMiles ∈ Tw := tw_sel (q := (⟨"BentPlainModel", "allMiles", "()I"⟩, 17)) (i := 33) (by decide +kernel)
theorem w_982 : Cond.instanceMethod yX6_allMiles ∈ Tw := tw_of (i := 982) (by decide +kernel) (by decide +kernel)
theorem mlX6_142 : MLv RX6 142 kX6_allMiles 0 := ⟨⟨w_980, w_7, w_983, by decide, by decide, by decide +kernel⟩, w_982, ws_mlX6_142⟩
theorem w_984 : Cond.methodLink RL 72 yX6_on ∈ Tw := tw_of (i := 984) (by decide +kernel) (by decide +kernel)
theorem w_987 : Cond.code yX6_on cX6_on 5 (some .int) ∈ Tw := tw_of (i := 987) (by decide +kernel) (by decide +kernel)
theorem w_986 : Cond.selects RX6 yX6_on yX6_on ∈ Tw := tw_of (i := 986) (by decide +kernel) (by decide +kernel)
theorem w_985 : Cond.instanceMethod yX6_on ∈ Tw := tw_of (i := 985) (by decide +kernel) (by decide +kernel)
theorem mlL_72 : MLv RL 72 kX6_on 3 := ⟨⟨w_984, w_7, w_987, by decide, by decide, by decide +kernel⟩, w_985, w_986⟩
theorem w_988 : Cond.methodLink RX6 146 yX6_laysAside ∈ Tw := tw_of (i := 988) (by decide +kernel) (by decide +kernel)
theorem w_991 : Cond.code yX6_laysAside cX6_laysAside 2 none ∈ Tw := tw_of (i := 991) (by decide +kernel) (by decide +kernel)
theorem ws_mlX6_146 : Cond.selects RX6 yX6_laysAside yX6_laysAside ∈ Tw := tw_sel (q := (⟨"BentPlainModel", "laysAside", "()V"⟩, 17)) (i := 34) (by decide +kernel)
theorem w_990 : Cond.instanceMethod yX6_laysAside ∈ Tw := tw_of (i := 990) (by decide +kernel) (by decide +kernel)
theorem mlX6_146 : MLv RX6 146 kX6_laysAside 0 := ⟨⟨w_988, w_7, w_991, by decide, by decide, by decide +kernel⟩, w_990, ws_mlX6_146⟩
theorem w_992 : Cond.methodLink RX6 149 yX6_takesBack ∈ Tw := tw_of (i := 992) (by decide +kernel) (by decide +kernel)
theorem w_995 : Cond.code yX6_takesBack cX6_takesBack 3 (some .int) ∈ Tw := tw_of (i := 995) (by decide +kernel) (by decide +kernel)
theorem ws_mlX6_149 : Cond.selects RX6 yX6_takesBack yX6_takesBack ∈ Tw := tw_sel (q := (⟨"BentPlainModel", "takesBack", "(I)I"⟩, 17)) (i := 35) (by decide +kernel)
theorem w_994 : Cond.instanceMethod yX6_takesBack ∈ Tw := tw_of (i := 994) (by decide +kernel) (by decide +kernel)
theorem mlX6_149 : MLv RX6 149 kX6_takesBack 1 := ⟨⟨w_992, w_7, w_995, by decide, by decide, by decide +kernel⟩, w_994, ws_mlX6_149⟩
theorem w_996 : Cond.methodLink RL 76 yX6_when ∈ Tw := tw_of (i := 996) (by decide +kernel) (by decide +kernel)
theorem w_999 : Cond.code yX6_when cX6_when 4 (some .int) ∈ Tw := tw_of (i := 999) (by decide +kernel) (by decide +kernel)
theorem w_998 : Cond.selects RX6 yX6_when yX6_when ∈ Tw := tw_of (i := 998) (by decide +kernel) (by decide +kernel)
theorem w_997 : Cond.instanceMethod yX6_when ∈ Tw := tw_of (i := 997) (by decide +kernel) (by decide +kernel)
theorem mlL_76 : MLv RL 76 kX6_when 2 := ⟨⟨w_996, w_7, w_999, by decide, by decide, by decide +kernel⟩, w_997, w_998⟩
theorem w_1000 : Cond.methodLink RX6 152 yX6_orNone ∈ Tw := tw_of (i := 1000) (by decide +kernel) (by decide +kernel)
theorem w_1003 : Cond.code yX6_orNone cX6_orNone 3 (some .int) ∈ Tw := tw_of (i := 1003) (by decide +kernel) (by decide +kernel)
theorem ws_mlX6_152 : Cond.selects RX6 yX6_orNone yX6_orNone ∈ Tw := tw_sel (q := (⟨"BentPlainModel", "orNone", "(II)I"⟩, 17)) (i := 36) (by decide +kernel)
theorem w_1002 : Cond.instanceMethod yX6_orNone ∈ Tw := tw_of (i := 1002) (by decide +kernel) (by decide +kernel)
theorem mlX6_152 : MLv RX6 152 kX6_orNone 2 := ⟨⟨w_1000, w_7, w_1003, by decide, by decide, by decide +kernel⟩, w_1002, ws_mlX6_152⟩
theorem w_1004 : Cond.methodLink RL 80 yX6_back ∈ Tw := tw_of (i := 1004) (by decide +kernel) (by decide +kernel)
theorem w_1007 : Cond.code yX6_back cX6_back 4 (some .int) ∈ Tw := tw_of (i := 1007) (by decide +kernel) (by decide +kernel)
theorem w_1006 : Cond.selects RX6 yX6_back yX6_back ∈ Tw := tw_of (i := 1006) (by decide +kernel) (by decide +kernel)
theorem w_1005 : Cond.instanceMethod yX6_back ∈ Tw := tw_of (i := 1005) (by decide +kernel) (by decide +kernel)
theorem mlL_80 : MLv RL 80 kX6_back 1 := ⟨⟨w_1004, w_7, w_1007, by decide, by decide, by decide +kernel⟩, w_1005, w_1006⟩
theorem w_1008 : Cond.methodLink RL 84 yX6_meet ∈ Tw := tw_of (i := 1008) (by decide +kernel) (by decide +kernel)
theorem w_1011 : Cond.code yX6_meet cX6_meet 4 (some .int) ∈ Tw := tw_of (i := 1011) (by decide +kernel) (by decide +kernel)
theorem w_1010 : Cond.selects RX6 yX6_meet yX6_meet ∈ Tw := tw_of (i := 1010) (by decide +kernel) (by decide +kernel)
theorem w_1009 : Cond.instanceMethod yX6_meet ∈ Tw := tw_of (i := 1009) (by decide +kernel) (by decide +kernel)
theorem mlL_84 : MLv RL 84 kX6_meet 2 := ⟨⟨w_1008, w_7, w_1011, by decide, by decide, by decide +kernel⟩, w_1009, w_1010⟩
theorem w_1012 : Cond.methodLink RL 88 yX6_spares ∈ Tw := tw_of (i := 1012) (by decide +kernel) (by decide +kernel)
theorem w_1015 : Cond.code yX6_spares cX6_spares 4 (some .int) ∈ Tw := tw_of (i := 1015) (by decide +kernel) (by decide +kernel)
theorem w_1014 : Cond.selects RX6 yX6_spares yX6_spares ∈ Tw := tw_of (i := 1014) (by decide +kernel) (by decide +kernel)
theorem w_1013 : Cond.instanceMethod yX6_spares ∈ Tw := tw_of (i := 1013) (by decide +kernel) (by decide +kernel)
theorem mlL_88 : MLv RL 88 kX6_spares 1 := ⟨⟨w_1012, w_7, w_1015, by decide, by decide, by decide +kernel⟩, w_1013, w_1014⟩
theorem w_1016 : Cond.methodLink RL 92 yX6_closes ∈ Tw := tw_of (i := 1016) (by decide +kernel) (by decide +kernel)
theorem w_1019 : Cond.code yX6_closes cX6_closes 6 (some .int) ∈ Tw := tw_of (i := 1019) (by decide +kernel) (by decide +kernel)
theorem w_1018 : Cond.selects RX6 yX6_closes yX6_closes ∈ Tw := tw_of (i := 1018) (by decide +kernel) (by decide +kernel)
theorem w_1017 : Cond.instanceMethod yX6_closes ∈ Tw := tw_of (i := 1017) (by decide +kernel) (by decide +kernel)
theorem mlL_92 : MLv RL 92 kX6_closes 2 := ⟨⟨w_1016, w_7, w_1019, by decide, by decide, by decide +kernel⟩, w_1017, w_1018⟩
theorem w_1020 : Cond.methodLink RL 96 yX6_bumps ∈ Tw := tw_of (i := 1020) (by decide +kernel) (by decide +kernel)
theorem w_1023 : Cond.code yX6_bumps cX6_bumps 5 (some .int) ∈ Tw := tw_of (i := 1023) (by decide +kernel) (by decide +kernel)
theorem w_1022 : Cond.selects RX6 yX6_bumps yX6_bumps ∈ Tw := tw_of (i := 1022) (by decide +kernel) (by decide +kernel)
theorem w_1021 : Cond.instanceMethod yX6_bumps ∈ Tw := tw_of (i := 1021) (by decide +kernel) (by decide +kernel)
theorem mlL_96 : MLv RL 96 kX6_bumps 2 := ⟨⟨w_1020, w_7, w_1023, by decide, by decide, by decide +kernel⟩, w_1021, w_1022⟩
theorem w_1024 : Cond.methodLink RL 100 yX6_square ∈ Tw := tw_of (i := 1024) (by decide +kernel) (by decide +kernel)
theorem w_1027 : Cond.code yX6_square cX6_square 8 (some .int) ∈ Tw := tw_of (i := 1027) (by decide +kernel) (by decide +kernel)
theorem w_1026 : Cond.selects RX6 yX6_square yX6_square ∈ Tw := tw_of (i := 1026) (by decide +kernel) (by decide +kernel)
theorem w_1025 : Cond.instanceMethod yX6_square ∈ Tw := tw_of (i := 1025) (by decide +kernel) (by decide +kernel)
theorem mlL_100 : MLv RL 100 kX6_square 3 := ⟨⟨w_1024, w_7, w_1027, by decide, by decide, by decide +kernel⟩, w_1025, w_1026⟩
theorem w_1028 : Cond.methodLink RL 104 yX6_dine ∈ Tw := tw_of (i := 1028) (by decide +kernel) (by decide +kernel)
theorem w_1031 : Cond.code yX6_dine cX6_dine 8 (some .int) ∈ Tw := tw_of (i := 1031) (by decide +kernel) (by decide +kernel)
theorem w_1030 : Cond.selects RX6 yX6_dine yX6_dine ∈ Tw := tw_of (i := 1030) (by decide +kernel) (by decide +kernel)
theorem w_1029 : Cond.instanceMethod yX6_dine ∈ Tw := tw_of (i := 1029) (by decide +kernel) (by decide +kernel)
theorem mlL_104 : MLv RL 104 kX6_dine 4 := ⟨⟨w_1028, w_7, w_1031, by decide, by decide, by decide +kernel⟩, w_1029, w_1030⟩
theorem w_1032 : Cond.methodLink RL 108 yX6_sees ∈ Tw := tw_of (i := 1032) (by decide +kernel) (by decide +kernel)
theorem w_1035 : Cond.code yX6_sees cX6_sees 3 (some .int) ∈ Tw := tw_of (i := 1035) (by decide +kernel) (by decide +kernel)
theorem w_1034 : Cond.selects RX6 yX6_sees yX6_sees ∈ Tw := tw_of (i := 1034) (by decide +kernel) (by decide +kernel)
theorem w_1033 : Cond.instanceMethod yX6_sees ∈ Tw := tw_of (i := 1033) (by decide +kernel) (by decide +kernel)
theorem mlL_108 : MLv RL 108 kX6_sees 2 := ⟨⟨w_1032, w_7, w_1035, by decide, by decide, by decide +kernel⟩, w_1033, w_1034⟩
theorem w_1036 : Cond.methodLink RX6 155 yX6_seen ∈ Tw := tw_of (i := 1036) (by decide +kernel) (by decide +kernel)
theorem w_1039 : Cond.code yX6_seen cX6_seen 4 (some .int) ∈ Tw := tw_of (i := 1039) (by decide +kernel) (by decide +kernel)
theorem ws_mlX6_155 : Cond.selects RX6 yX6_seen yX6_seen ∈ Tw := tw_sel (q := (⟨"BentPlainModel", "seen", "(I)I"⟩, 17)) (i := 37) (by decide +kernel)
theorem w_1038 : Cond.instanceMethod yX6_seen ∈ Tw := tw_of (i := 1038) (by decide +kernel) (by decide +kernel)
theorem mlX6_155 : MLv RX6 155 kX6_seen 1 := ⟨⟨w_1036, w_7, w_1039, by decide, by decide, by decide +kernel⟩, w_1038, ws_mlX6_155⟩
theorem w_1040 : Cond.methodLink RL 112 yX6_twice ∈ Tw := tw_of (i := 1040) (by decide +kernel) (by decide +kernel)
theorem w_1043 : Cond.code yX6_twice cX6_twice 6 (some .int) ∈ Tw := tw_of (i := 1043) (by decide +kernel) (by decide +kernel)
theorem w_1042 : Cond.selects RX6 yX6_twice yX6_twice ∈ Tw := tw_of (i := 1042) (by decide +kernel) (by decide +kernel)
theorem w_1041 : Cond.instanceMethod yX6_twice ∈ Tw := tw_of (i := 1041) (by decide +kernel) (by decide +kernel)
theorem mlL_112 : MLv RL 112 kX6_twice 1 := ⟨⟨w_1040, w_7, w_1043, by decide, by decide, by decide +kernel⟩, w_1041, w_1042⟩
theorem w_1044 : Cond.methodLink RX6 158 yX6_ones ∈ Tw := tw_of (i := 1044) (by decide +kernel) (by decide +kernel)
theorem w_1046 : Cond.code yX6_ones cX6_ones 3 (some .int) ∈ Tw := tw_of (i := 1046) (by decide +kernel) (by decide +kernel)
theorem w_1045 : Cond.static yX6_ones ∈ Tw := tw_of (i := 1045) (by decide +kernel) (by decide +kernel)
theorem mlX6_158 : MLs RX6 158 kX6_ones 1 := ⟨⟨w_1044, w_7, w_1046, by decide, by decide, by decide +kernel⟩, w_1045⟩
theorem w_1047 : Cond.methodLink RL 116 yX6_about ∈ Tw := tw_of (i := 1047) (by decide +kernel) (by decide +kernel)
theorem w_1050 : Cond.code yX6_about cX6_about 4 (some .int) ∈ Tw := tw_of (i := 1050) (by decide +kernel) (by decide +kernel)
theorem w_1049 : Cond.selects RX6 yX6_about yX6_about ∈ Tw := tw_of (i := 1049) (by decide +kernel) (by decide +kernel)
theorem w_1048 : Cond.instanceMethod yX6_about ∈ Tw := tw_of (i := 1048) (by decide +kernel) (by decide +kernel)
theorem mlL_116 : MLv RL 116 kX6_about 2 := ⟨⟨w_1047, w_7, w_1050, by decide, by decide, by decide +kernel⟩, w_1048, w_1049⟩
theorem w_1051 : Cond.methodLink RX6 164 yX6_aboutOf ∈ Tw := tw_of (i := 1051) (by decide +kernel) (by decide +kernel)
theorem w_1054 : Cond.code yX6_aboutOf cX6_aboutOf 4 (some .int) ∈ Tw := tw_of (i := 1054) (by decide +kernel) (by decide +kernel)
theorem ws_mlX6_164 : Cond.selects RX6 yX6_aboutOf yX6_aboutOf ∈ Tw := tw_sel (q := (⟨"BentPlainModel", "aboutOf", "(I)I"⟩, 17)) (i := 38) (by decide +kernel)
theorem w_1053 : Cond.instanceMethod yX6_aboutOf ∈ Tw := tw_of (i := 1053) (by decide +kernel) (by decide +kernel)
theorem mlX6_164 : MLv RX6 164 kX6_aboutOf 1 := ⟨⟨w_1051, w_7, w_1054, by decide, by decide, by decide +kernel⟩, w_1053, ws_mlX6_164⟩
theorem w_1055 : Cond.methodLink RX6 161 yX6_beside ∈ Tw := tw_of (i := 1055) (by decide +kernel) (by decide +kernel)
theorem w_1058 : Cond.code yX6_beside cX6_beside 3 (some .int) ∈ Tw := tw_of (i := 1058) (by decide +kernel) (by decide +kernel)
theorem ws_mlX6_161 : Cond.selects RX6 yX6_beside yX6_beside ∈ Tw := tw_sel (q := (⟨"BentPlainModel", "beside", "(I)I"⟩, 17)) (i := 39) (by decide +kernel)
theorem w_1057 : Cond.instanceMethod yX6_beside ∈ Tw := tw_of (i := 1057) (by decide +kernel) (by decide +kernel)
theorem mlX6_161 : MLv RX6 161 kX6_beside 1 := ⟨⟨w_1055, w_7, w_1058, by decide, by decide, by decide +kernel⟩, w_1057, ws_mlX6_161⟩
theorem w_1059 : Cond.methodLink RL 121 yX6_corners ∈ Tw := tw_of (i := 1059) (by decide +kernel) (by decide +kernel)
theorem w_1062 : Cond.code yX6_corners cX6_corners 3 (some .int) ∈ Tw := tw_of (i := 1062) (by decide +kernel) (by decide +kernel)
theorem w_1061 : Cond.selects RX6 yX6_corners yX6_corners ∈ Tw := tw_of (i := 1061) (by decide +kernel) (by decide +kernel)
theorem w_1060 : Cond.instanceMethod yX6_corners ∈ Tw := tw_of (i := 1060) (by decide +kernel) (by decide +kernel)
theorem mlL_121 : MLv RL 121 kX6_corners 0 := ⟨⟨w_1059, w_7, w_1062, by decide, by decide, by decide +kernel⟩, w_1060, w_1061⟩
theorem w_1063 : Cond.methodLink RX6 167 yX6_isFirst ∈ Tw := tw_of (i := 1063) (by decide +kernel) (by decide +kernel)
theorem w_1066 : Cond.code yX6_isFirst cX6_isFirst 4 (some .boolean) ∈ Tw := tw_of (i := 1066) (by decide +kernel) (by decide +kernel)
theorem ws_mlX6_167 : Cond.selects RX6 yX6_isFirst yX6_isFirst ∈ Tw := tw_sel (q := (⟨"BentPlainModel", "isFirst", "(I)Z"⟩, 17)) (i := 40) (by decide +kernel)
theorem w_1065 : Cond.instanceMethod yX6_isFirst ∈ Tw := tw_of (i := 1065) (by decide +kernel) (by decide +kernel)
theorem mlX6_167 : MLv RX6 167 kX6_isFirst 1 := ⟨⟨w_1063, w_7, w_1066, by decide, by decide, by decide +kernel⟩, w_1065, ws_mlX6_167⟩
theorem w_1067 : Cond.methodLink RL 125 yX6_excess ∈ Tw := tw_of (i := 1067) (by decide +kernel) (by decide +kernel)
theorem w_1070 : Cond.code yX6_excess cX6_excess 3 (some .int) ∈ Tw := tw_of (i := 1070) (by decide +kernel) (by decide +kernel)
theorem w_1069 : Cond.selects RX6 yX6_excess yX6_excess ∈ Tw := tw_of (i := 1069) (by decide +kernel) (by decide +kernel)
theorem w_1068 : Cond.instanceMethod yX6_excess ∈ Tw := tw_of (i := 1068) (by decide +kernel) (by decide +kernel)
theorem mlL_125 : MLv RL 125 kX6_excess 0 := ⟨⟨w_1067, w_7, w_1070, by decide, by decide, by decide +kernel⟩, w_1068, w_1069⟩
theorem w_1071 : Cond.methodLink RL 129 yX6_bent ∈ Tw := tw_of (i := 1071) (by decide +kernel) (by decide +kernel)
theorem w_1074 : Cond.code yX6_bent cX6_bent 3 (some .int) ∈ Tw := tw_of (i := 1074) (by decide +kernel) (by decide +kernel)
theorem w_1073 : Cond.selects RX6 yX6_bent yX6_bent ∈ Tw := tw_of (i := 1073) (by decide +kernel) (by decide +kernel)
theorem w_1072 : Cond.instanceMethod yX6_bent ∈ Tw := tw_of (i := 1072) (by decide +kernel) (by decide +kernel)
theorem mlL_129 : MLv RL 129 kX6_bent 0 := ⟨⟨w_1071, w_7, w_1074, by decide, by decide, by decide +kernel⟩, w_1072, w_1073⟩
theorem w_1075 : Cond.methodLink RL 133 yX6_parts ∈ Tw := tw_of (i := 1075) (by decide +kernel) (by decide +kernel)
theorem w_1078 : Cond.code yX6_parts cX6_parts 6 (some .int) ∈ Tw := tw_of (i := 1078) (by decide +kernel) (by decide +kernel)
theorem w_1077 : Cond.selects RX6 yX6_parts yX6_parts ∈ Tw := tw_of (i := 1077) (by decide +kernel) (by decide +kernel)
theorem w_1076 : Cond.instanceMethod yX6_parts ∈ Tw := tw_of (i := 1076) (by decide +kernel) (by decide +kernel)
theorem mlL_133 : MLv RL 133 kX6_parts 0 := ⟨⟨w_1075, w_7, w_1078, by decide, by decide, by decide +kernel⟩, w_1076, w_1077⟩
theorem w_1079 : Cond.methodLink RX6 170 yX6_spread ∈ Tw := tw_of (i := 1079) (by decide +kernel) (by decide +kernel)
theorem w_1082 : Cond.code yX6_spread cX6_spread 4 (some .int) ∈ Tw := tw_of (i := 1082) (by decide +kernel) (by decide +kernel)
theorem ws_mlX6_170 : Cond.selects RX6 yX6_spread yX6_spread ∈ Tw := tw_sel (q := (⟨"BentPlainModel", "spread", "(I)I"⟩, 17)) (i := 41) (by decide +kernel)
theorem w_1081 : Cond.instanceMethod yX6_spread ∈ Tw := tw_of (i := 1081) (by decide +kernel) (by decide +kernel)
theorem mlX6_170 : MLv RX6 170 kX6_spread 1 := ⟨⟨w_1079, w_7, w_1082, by decide, by decide, by decide +kernel⟩, w_1081, ws_mlX6_170⟩
theorem w_1083 : Cond.methodLink RL 137 yX6_far ∈ Tw := tw_of (i := 1083) (by decide +kernel) (by decide +kernel)
theorem w_1086 : Cond.code yX6_far cX6_far 3 (some .int) ∈ Tw := tw_of (i := 1086) (by decide +kernel) (by decide +kernel)
theorem w_1085 : Cond.selects RX6 yX6_far yX6_far ∈ Tw := tw_of (i := 1085) (by decide +kernel) (by decide +kernel)
theorem w_1084 : Cond.instanceMethod yX6_far ∈ Tw := tw_of (i := 1084) (by decide +kernel) (by decide +kernel)
theorem mlL_137 : MLv RL 137 kX6_far 2 := ⟨⟨w_1083, w_7, w_1086, by decide, by decide, by decide +kernel⟩, w_1084, w_1085⟩
theorem w_1087 : Cond.methodLink RX6 174 yX6_farOf ∈ Tw := tw_of (i := 1087) (by decide +kernel) (by decide +kernel)
theorem w_1090 : Cond.code yX6_farOf cX6_farOf 5 (some .int) ∈ Tw := tw_of (i := 1090) (by decide +kernel) (by decide +kernel)
theorem ws_mlX6_174 : Cond.selects RX6 yX6_farOf yX6_farOf ∈ Tw := tw_sel (q := (⟨"BentPlainModel", "farOf", "(II)I"⟩, 17)) (i := 42) (by decide +kernel)
theorem w_1089 : Cond.instanceMethod yX6_farOf ∈ Tw := tw_of (i := 1089) (by decide +kernel) (by decide +kernel)
theorem mlX6_174 : MLv RX6 174 kX6_farOf 2 := ⟨⟨w_1087, w_7, w_1090, by decide, by decide, by decide +kernel⟩, w_1089, ws_mlX6_174⟩
theorem w_1093 : Cond.methodLink RL 141 yX6_smooth ∈ Tw := tw_of (i := 1093) (by decide +kernel) (by decide +kernel)
theorem w_1096 : Cond.code yX6_smooth cX6_smooth 7 (some .int) ∈ Tw := tw_of (i := 1096) (by decide +kernel) (by decide +kernel)
theorem w_1095 : Cond.selects RX6 yX6_smooth yX6_smooth ∈ Tw := tw_of (i := 1095) (by decide +kernel) (by decide +kernel)
theorem w_1094 : Cond.instanceMethod yX6_smooth ∈ Tw := tw_of (i := 1094) (by decide +kernel) (by decide +kernel)
theorem mlL_141 : MLv RL 141 kX6_smooth 2 := ⟨⟨w_1093, w_7, w_1096, by decide, by decide, by decide +kernel⟩, w_1094, w_1095⟩
theorem w_1097 : Cond.methodLink RL 145 yX6_turns ∈ Tw := tw_of (i := 1097) (by decide +kernel) (by decide +kernel)
theorem w_1100 : Cond.code yX6_turns cX6_turns 10 (some .int) ∈ Tw := tw_of (i := 1100) (by decide +kernel) (by decide +kernel)
theorem w_1099 : Cond.selects RX6 yX6_turns yX6_turns ∈ Tw := tw_of (i := 1099) (by decide +kernel) (by decide +kernel)
theorem w_1098 : Cond.instanceMethod yX6_turns ∈ Tw := tw_of (i := 1098) (by decide +kernel) (by decide +kernel)
theorem mlL_145 : MLv RL 145 kX6_turns 3 := ⟨⟨w_1097, w_7, w_1100, by decide, by decide, by decide +kernel⟩, w_1098, w_1099⟩
theorem w_1101 : Cond.methodLink RL 149 yX6_within ∈ Tw := tw_of (i := 1101) (by decide +kernel) (by decide +kernel)
theorem w_1104 : Cond.code yX6_within cX6_within 5 (some .int) ∈ Tw := tw_of (i := 1104) (by decide +kernel) (by decide +kernel)
theorem w_1103 : Cond.selects RX6 yX6_within yX6_within ∈ Tw := tw_of (i := 1103) (by decide +kernel) (by decide +kernel)
theorem w_1102 : Cond.instanceMethod yX6_within ∈ Tw := tw_of (i := 1102) (by decide +kernel) (by decide +kernel)
theorem mlL_149 : MLv RL 149 kX6_within 2 := ⟨⟨w_1101, w_7, w_1104, by decide, by decide, by decide +kernel⟩, w_1102, w_1103⟩
theorem w_1106 : Cond.methodLink RL 153 yX6_mends ∈ Tw := tw_of (i := 1106) (by decide +kernel) (by decide +kernel)
theorem w_1109 : Cond.code yX6_mends cX6_mends 8 (some .int) ∈ Tw := tw_of (i := 1109) (by decide +kernel) (by decide +kernel)
theorem w_1108 : Cond.selects RX6 yX6_mends yX6_mends ∈ Tw := tw_of (i := 1108) (by decide +kernel) (by decide +kernel)
theorem w_1107 : Cond.instanceMethod yX6_mends ∈ Tw := tw_of (i := 1107) (by decide +kernel) (by decide +kernel)
theorem mlL_153 : MLv RL 153 kX6_mends 2 := ⟨⟨w_1106, w_7, w_1109, by decide, by decide, by decide +kernel⟩, w_1107, w_1108⟩
theorem w_1110 : Cond.methodLink RL 157 yX6_feed ∈ Tw := tw_of (i := 1110) (by decide +kernel) (by decide +kernel)
theorem w_1113 : Cond.code yX6_feed cX6_feed 4 (some .int) ∈ Tw := tw_of (i := 1113) (by decide +kernel) (by decide +kernel)
theorem w_1112 : Cond.selects RX6 yX6_feed yX6_feed ∈ Tw := tw_of (i := 1112) (by decide +kernel) (by decide +kernel)
theorem w_1111 : Cond.instanceMethod yX6_feed ∈ Tw := tw_of (i := 1111) (by decide +kernel) (by decide +kernel)
theorem mlL_157 : MLv RL 157 kX6_feed 2 := ⟨⟨w_1110, w_7, w_1113, by decide, by decide, by decide +kernel⟩, w_1111, w_1112⟩
theorem w_1115 : Cond.methodLink RL 161 yX6_wipe ∈ Tw := tw_of (i := 1115) (by decide +kernel) (by decide +kernel)
theorem w_1118 : Cond.code yX6_wipe cX6_wipe 2 (some .int) ∈ Tw := tw_of (i := 1118) (by decide +kernel) (by decide +kernel)
theorem w_1117 : Cond.selects RX6 yX6_wipe yX6_wipe ∈ Tw := tw_of (i := 1117) (by decide +kernel) (by decide +kernel)
theorem w_1116 : Cond.instanceMethod yX6_wipe ∈ Tw := tw_of (i := 1116) (by decide +kernel) (by decide +kernel)
theorem mlL_161 : MLv RL 161 kX6_wipe 0 := ⟨⟨w_1115, w_7, w_1118, by decide, by decide, by decide +kernel⟩, w_1116, w_1117⟩
theorem w_1119 : Cond.methodLink RL 165 yX6_plain ∈ Tw := tw_of (i := 1119) (by decide +kernel) (by decide +kernel)
theorem w_1122 : Cond.code yX6_plain cX6_plain 2 (some .int) ∈ Tw := tw_of (i := 1122) (by decide +kernel) (by decide +kernel)
theorem w_1121 : Cond.selects RX6 yX6_plain yX6_plain ∈ Tw := tw_of (i := 1121) (by decide +kernel) (by decide +kernel)
theorem w_1120 : Cond.instanceMethod yX6_plain ∈ Tw := tw_of (i := 1120) (by decide +kernel) (by decide +kernel)
theorem mlL_165 : MLv RL 165 kX6_plain 0 := ⟨⟨w_1119, w_7, w_1122, by decide, by decide, by decide +kernel⟩, w_1120, w_1121⟩
theorem w_1123 : Cond.methodLink RX6 289 yX6_saves ∈ Tw := tw_of (i := 1123) (by decide +kernel) (by decide +kernel)
theorem w_1126 : Cond.code yX6_saves cX6_saves 2 none ∈ Tw := tw_of (i := 1126) (by decide +kernel) (by decide +kernel)
theorem ws_mlX6_289 : Cond.selects RX6 yX6_saves yX6_saves ∈ Tw := tw_sel (q := (⟨"BentPlainModel", "saves", "()V"⟩, 17)) (i := 43) (by decide +kernel)
theorem w_1125 : Cond.instanceMethod yX6_saves ∈ Tw := tw_of (i := 1125) (by decide +kernel) (by decide +kernel)
theorem mlX6_289 : MLv RX6 289 kX6_saves 0 := ⟨⟨w_1123, w_7, w_1126, by decide, by decide, by decide +kernel⟩, w_1125, ws_mlX6_289⟩
theorem w_1127 : Cond.methodLink RX6 213 yX6_token ∈ Tw := tw_of (i := 1127) (by decide +kernel) (by decide +kernel)
theorem w_1130 : Cond.code yX6_token cX6_token 3 none ∈ Tw := tw_of (i := 1130) (by decide +kernel) (by decide +kernel)
theorem ws_mlX6_213 : Cond.selects RX6 yX6_token yX6_token ∈ Tw := tw_sel (q := (⟨"BentPlainModel", "token", "()V"⟩, 17)) (i := 44) (by decide +kernel)
theorem w_1129 : Cond.instanceMethod yX6_token ∈ Tw := tw_of (i := 1129) (by decide +kernel) (by decide +kernel)
theorem mlX6_213 : MLv RX6 213 kX6_token 0 := ⟨⟨w_1127, w_7, w_1130, by decide, by decide, by decide +kernel⟩, w_1129, ws_mlX6_213⟩
theorem w_1131 : Cond.methodLink RX6 200 yX6_byteAt ∈ Tw := tw_of (i := 1131) (by decide +kernel) (by decide +kernel)
theorem w_1134 : Cond.code yX6_byteAt cX6_byteAt 2 (some .int) ∈ Tw := tw_of (i := 1134) (by decide +kernel) (by decide +kernel)
theorem ws_mlX6_200 : Cond.selects RX6 yX6_byteAt yX6_byteAt ∈ Tw := tw_sel (q := (⟨"BentPlainModel", "byteAt", "(I)I"⟩, 17)) (i := 45) (by decide +kernel)
theorem w_1133 : Cond.instanceMethod yX6_byteAt ∈ Tw := tw_of (i := 1133) (by decide +kernel) (by decide +kernel)
theorem mlX6_200 : MLv RX6 200 kX6_byteAt 1 := ⟨⟨w_1131, w_7, w_1134, by decide, by decide, by decide +kernel⟩, w_1133, ws_mlX6_200⟩
theorem w_1135 : Cond.methodLink RX6 203 yX6_isLetter ∈ Tw := tw_of (i := 1135) (by decide +kernel) (by decide +kernel)
theorem w_1137 : Cond.code yX6_isLetter cX6_isLetter 1 (some .boolean) ∈ Tw := tw_of (i := 1137) (by decide +kernel) (by decide +kernel)
theorem w_1136 : Cond.static yX6_isLetter ∈ Tw := tw_of (i := 1136) (by decide +kernel) (by decide +kernel)
theorem mlX6_203 : MLs RX6 203 kX6_isLetter 1 := ⟨⟨w_1135, w_7, w_1137, by decide, by decide, by decide +kernel⟩, w_1136⟩
theorem w_1140 : Cond.methodLink RX6 206 yX6_isDigit ∈ Tw := tw_of (i := 1140) (by decide +kernel) (by decide +kernel)
theorem w_1142 : Cond.code yX6_isDigit cX6_isDigit 1 (some .boolean) ∈ Tw := tw_of (i := 1142) (by decide +kernel) (by decide +kernel)
theorem w_1141 : Cond.static yX6_isDigit ∈ Tw := tw_of (i := 1141) (by decide +kernel) (by decide +kernel)
theorem mlX6_206 : MLs RX6 206 kX6_isDigit 1 := ⟨⟨w_1140, w_7, w_1142, by decide, by decide, by decide +kernel⟩, w_1141⟩
theorem w_1145 : Cond.methodLink RX6 292 yX6_item ∈ Tw := tw_of (i := 1145) (by decide +kernel) (by decide +kernel)
theorem w_1148 : Cond.code yX6_item cX6_item 4 none ∈ Tw := tw_of (i := 1148) (by decide +kernel) (by decide +kernel)
theorem ws_mlX6_292 : Cond.selects RX6 yX6_item yX6_item ∈ Tw := tw_sel (q := (⟨"BentPlainModel", "item", "()V"⟩, 17)) (i := 46) (by decide +kernel)
theorem w_1147 : Cond.instanceMethod yX6_item ∈ Tw := tw_of (i := 1147) (by decide +kernel) (by decide +kernel)
theorem mlX6_292 : MLv RX6 292 kX6_item 0 := ⟨⟨w_1145, w_7, w_1148, by decide, by decide, by decide +kernel⟩, w_1147, ws_mlX6_292⟩
theorem w_1149 : Cond.methodLink RX6 268 yX6_kindHere ∈ Tw := tw_of (i := 1149) (by decide +kernel) (by decide +kernel)
theorem w_1152 : Cond.code yX6_kindHere cX6_kindHere 3 (some .int) ∈ Tw := tw_of (i := 1152) (by decide +kernel) (by decide +kernel)
theorem ws_mlX6_268 : Cond.selects RX6 yX6_kindHere yX6_kindHere ∈ Tw := tw_sel (q := (⟨"BentPlainModel", "kindHere", "()I"⟩, 17)) (i := 47) (by decide +kernel)
theorem w_1151 : Cond.instanceMethod yX6_kindHere ∈ Tw := tw_of (i := 1151) (by decide +kernel) (by decide +kernel)
theorem mlX6_268 : MLv RX6 268 kX6_kindHere 0 := ⟨⟨w_1149, w_7, w_1152, by decide, by decide, by decide +kernel⟩, w_1151, ws_mlX6_268⟩
theorem w_1153 : Cond.methodLink RX6 227 yX6_word ∈ Tw := tw_of (i := 1153) (by decide +kernel) (by decide +kernel)
theorem w_1156 : Cond.code yX6_word cX6_word 4 (some .long) ∈ Tw := tw_of (i := 1156) (by decide +kernel) (by decide +kernel)
theorem ws_mlX6_227 : Cond.selects RX6 yX6_word yX6_word ∈ Tw := tw_sel (q := (⟨"BentPlainModel", "word", "()J"⟩, 17)) (i := 48) (by decide +kernel)
theorem w_1155 : Cond.instanceMethod yX6_word ∈ Tw := tw_of (i := 1155) (by decide +kernel) (by decide +kernel)
theorem mlX6_227 : MLv RX6 227 kX6_word 0 := ⟨⟨w_1153, w_7, w_1156, by decide, by decide, by decide +kernel⟩, w_1155, ws_mlX6_227⟩
theorem w_1165 : Cond.methodLink RX6 271 yX6_walkerItem ∈ Tw := tw_of (i := 1165) (by decide +kernel) (by decide +kernel)
theorem w_1168 : Cond.code yX6_walkerItem cX6_walkerItem 5 none ∈ Tw := tw_of (i := 1168) (by decide +kernel) (by decide +kernel)
theorem ws_mlX6_271 : Cond.selects RX6 yX6_walkerItem yX6_walkerItem ∈ Tw := tw_sel (q := (⟨"BentPlainModel", "walkerItem", "(I)V"⟩, 17)) (i := 49) (by decide +kernel)
theorem w_1167 : Cond.instanceMethod yX6_walkerItem ∈ Tw := tw_of (i := 1167) (by decide +kernel) (by decide +kernel)
theorem mlX6_271 : MLv RX6 271 kX6_walkerItem 1 := ⟨⟨w_1165, w_7, w_1168, by decide, by decide, by decide +kernel⟩, w_1167, ws_mlX6_271⟩
theorem w_1169 : Cond.methodLink RX6 223 yX6_wants ∈ Tw := tw_of (i := 1169) (by decide +kernel) (by decide +kernel)
theorem w_1172 : Cond.code yX6_wants cX6_wants 2 none ∈ Tw := tw_of (i := 1172) (by decide +kernel) (by decide +kernel)
theorem ws_mlX6_223 : Cond.selects RX6 yX6_wants yX6_wants ∈ Tw := tw_sel (q := (⟨"BentPlainModel", "wants", "(Z)V"⟩, 17)) (i := 50) (by decide +kernel)
theorem w_1171 : Cond.instanceMethod yX6_wants ∈ Tw := tw_of (i := 1171) (by decide +kernel) (by decide +kernel)
theorem mlX6_223 : MLv RX6 223 kX6_wants 1 := ⟨⟨w_1169, w_7, w_1172, by decide, by decide, by decide +kernel⟩, w_1171, ws_mlX6_223⟩
theorem w_1174 : Cond.methodLink RX6 259 yX6_fieldHere ∈ Tw := tw_of (i := 1174) (by decide +kernel) (by decide +kernel)
theorem w_1177 : Cond.code yX6_fieldHere cX6_fieldHere 1 none ∈ Tw := tw_of (i := 1177) (by decide +kernel) (by decide +kernel)
theorem ws_mlX6_259 : Cond.selects RX6 yX6_fieldHere yX6_fieldHere ∈ Tw := tw_sel (q := (⟨"BentPlainModel", "fieldHere", "()V"⟩, 17)) (i := 51) (by decide +kernel)
theorem w_1176 : Cond.instanceMethod yX6_fieldHere ∈ Tw := tw_of (i := 1176) (by decide +kernel) (by decide +kernel)
theorem mlX6_259 : MLv RX6 259 kX6_fieldHere 0 := ⟨⟨w_1174, w_7, w_1177, by decide, by decide, by decide +kernel⟩, w_1176, ws_mlX6_259⟩
theorem w_1178 : Cond.methodLink RX6 243 yX6_number ∈ Tw := tw_of (i := 1178) (by decide +kernel) (by decide +kernel)
theorem w_1181 : Cond.code yX6_number cX6_number 6 none ∈ Tw := tw_of (i := 1181) (by decide +kernel) (by decide +kernel)
theorem ws_mlX6_243 : Cond.selects RX6 yX6_number yX6_number ∈ Tw := tw_sel (q := (⟨"BentPlainModel", "number", "(II)V"⟩, 17)) (i := 52) (by decide +kernel)
theorem w_1180 : Cond.instanceMethod yX6_number ∈ Tw := tw_of (i := 1180) (by decide +kernel) (by decide +kernel)
theorem mlX6_243 : MLv RX6 243 kX6_number 2 := ⟨⟨w_1178, w_7, w_1181, by decide, by decide, by decide +kernel⟩, w_1180, ws_mlX6_243⟩
theorem w_1182 : Cond.methodLink RX6 254 yX6_sideNamed ∈ Tw := tw_of (i := 1182) (by decide +kernel) (by decide +kernel)
theorem w_1185 : Cond.code yX6_sideNamed cX6_sideNamed 3 (some .int) ∈ Tw := tw_of (i := 1185) (by decide +kernel) (by decide +kernel)
theorem ws_mlX6_254 : Cond.selects RX6 yX6_sideNamed yX6_sideNamed ∈ Tw := tw_sel (q := (⟨"BentPlainModel", "sideNamed", "()I"⟩, 17)) (i := 53) (by decide +kernel)
theorem w_1184 : Cond.instanceMethod yX6_sideNamed ∈ Tw := tw_of (i := 1184) (by decide +kernel) (by decide +kernel)
theorem mlX6_254 : MLv RX6 254 kX6_sideNamed 0 := ⟨⟨w_1182, w_7, w_1185, by decide, by decide, by decide +kernel⟩, w_1184, ws_mlX6_254⟩
theorem w_1191 : Cond.methodLink RX6 276 yX6_fieldItem ∈ Tw := tw_of (i := 1191) (by decide +kernel) (by decide +kernel)
theorem w_1194 : Cond.code yX6_fieldItem cX6_fieldItem 3 none ∈ Tw := tw_of (i := 1194) (by decide +kernel) (by decide +kernel)
theorem ws_mlX6_276 : Cond.selects RX6 yX6_fieldItem yX6_fieldItem ∈ Tw := tw_sel (q := (⟨"BentPlainModel", "fieldItem", "()V"⟩, 17)) (i := 54) (by decide +kernel)
theorem w_1193 : Cond.instanceMethod yX6_fieldItem ∈ Tw := tw_of (i := 1193) (by decide +kernel) (by decide +kernel)
theorem mlX6_276 : MLv RX6 276 kX6_fieldItem 0 := ⟨⟨w_1191, w_7, w_1194, by decide, by decide, by decide +kernel⟩, w_1193, ws_mlX6_276⟩
theorem w_1197 : Cond.methodLink RX6 281 yX6_glueItem ∈ Tw := tw_of (i := 1197) (by decide +kernel) (by decide +kernel)
theorem w_1200 : Cond.code yX6_glueItem cX6_glueItem 3 none ∈ Tw := tw_of (i := 1200) (by decide +kernel) (by decide +kernel)
theorem ws_mlX6_281 : Cond.selects RX6 yX6_glueItem yX6_glueItem ∈ Tw := tw_sel (q := (⟨"BentPlainModel", "glueItem", "()V"⟩, 17)) (i := 55) (by decide +kernel)
theorem w_1199 : Cond.instanceMethod yX6_glueItem ∈ Tw := tw_of (i := 1199) (by decide +kernel) (by decide +kernel)
theorem mlX6_281 : MLv RX6 281 kX6_glueItem 0 := ⟨⟨w_1197, w_7, w_1200, by decide, by decide, by decide +kernel⟩, w_1199, ws_mlX6_281⟩
theorem w_1201 : Cond.methodLink RX6 262 yX6_sideHere ∈ Tw := tw_of (i := 1201) (by decide +kernel) (by decide +kernel)
theorem w_1204 : Cond.code yX6_sideHere cX6_sideHere 6 (some .int) ∈ Tw := tw_of (i := 1204) (by decide +kernel) (by decide +kernel)
theorem ws_mlX6_262 : Cond.selects RX6 yX6_sideHere yX6_sideHere ∈ Tw := tw_sel (q := (⟨"BentPlainModel", "sideHere", "(IZI)I"⟩, 17)) (i := 56) (by decide +kernel)
theorem w_1203 : Cond.instanceMethod yX6_sideHere ∈ Tw := tw_of (i := 1203) (by decide +kernel) (by decide +kernel)
theorem mlX6_262 : MLv RX6 262 kX6_sideHere 3 := ⟨⟨w_1201, w_7, w_1204, by decide, by decide, by decide +kernel⟩, w_1203, ws_mlX6_262⟩
theorem w_1206 : Cond.methodLink RX6 286 yX6_cutItem ∈ Tw := tw_of (i := 1206) (by decide +kernel) (by decide +kernel)
theorem w_1209 : Cond.code yX6_cutItem cX6_cutItem 2 none ∈ Tw := tw_of (i := 1209) (by decide +kernel) (by decide +kernel)
theorem ws_mlX6_286 : Cond.selects RX6 yX6_cutItem yX6_cutItem ∈ Tw := tw_sel (q := (⟨"BentPlainModel", "cutItem", "()V"⟩, 17)) (i := 57) (by decide +kernel)
theorem w_1208 : Cond.instanceMethod yX6_cutItem ∈ Tw := tw_of (i := 1208) (by decide +kernel) (by decide +kernel)
theorem mlX6_286 : MLv RX6 286 kX6_cutItem 0 := ⟨⟨w_1206, w_7, w_1209, by decide, by decide, by decide +kernel⟩, w_1208, ws_mlX6_286⟩
theorem w_1210 : Cond.methodLink RX6 295 yX6_putsBack ∈ Tw := tw_of (i := 1210) (by decide +kernel) (by decide +kernel)
theorem w_1213 : Cond.code yX6_putsBack cX6_putsBack 2 none ∈ Tw := tw_of (i := 1213) (by decide +kernel) (by decide +kernel)
theorem ws_mlX6_295 : Cond.selects RX6 yX6_putsBack yX6_putsBack ∈ Tw := tw_sel (q := (⟨"BentPlainModel", "putsBack", "()V"⟩, 17)) (i := 58) (by decide +kernel)
theorem w_1212 : Cond.instanceMethod yX6_putsBack ∈ Tw := tw_of (i := 1212) (by decide +kernel) (by decide +kernel)
theorem mlX6_295 : MLv RX6 295 kX6_putsBack 0 := ⟨⟨w_1210, w_7, w_1213, by decide, by decide, by decide +kernel⟩, w_1212, ws_mlX6_295⟩
theorem w_1214 : Cond.methodLink RL 169 yX6_sheet ∈ Tw := tw_of (i := 1214) (by decide +kernel) (by decide +kernel)
theorem w_1217 : Cond.code yX6_sheet cX6_sheet 5 (some .int) ∈ Tw := tw_of (i := 1217) (by decide +kernel) (by decide +kernel)
theorem w_1216 : Cond.selects RX6 yX6_sheet yX6_sheet ∈ Tw := tw_of (i := 1216) (by decide +kernel) (by decide +kernel)
theorem w_1215 : Cond.instanceMethod yX6_sheet ∈ Tw := tw_of (i := 1215) (by decide +kernel) (by decide +kernel)
theorem mlL_169 : MLv RL 169 kX6_sheet 3 := ⟨⟨w_1214, w_7, w_1217, by decide, by decide, by decide +kernel⟩, w_1215, w_1216⟩
theorem w_1218 : Cond.methodLink RX6 298 yX6_isOne ∈ Tw := tw_of (i := 1218) (by decide +kernel) (by decide +kernel)
theorem w_1220 : Cond.code yX6_isOne cX6_isOne 1 (some .boolean) ∈ Tw := tw_of (i := 1220) (by decide +kernel) (by decide +kernel)
theorem w_1219 : Cond.static yX6_isOne ∈ Tw := tw_of (i := 1219) (by decide +kernel) (by decide +kernel)
theorem mlX6_298 : MLs RX6 298 kX6_isOne 1 := ⟨⟨w_1218, w_7, w_1220, by decide, by decide, by decide +kernel⟩, w_1219⟩
theorem w_1222 : Cond.methodLink RL 176 yX6_write ∈ Tw := tw_of (i := 1222) (by decide +kernel) (by decide +kernel)
theorem w_1225 : Cond.code yX6_write cX6_write 8 (some .long) ∈ Tw := tw_of (i := 1225) (by decide +kernel) (by decide +kernel)
theorem w_1224 : Cond.selects RX6 yX6_write yX6_write ∈ Tw := tw_of (i := 1224) (by decide +kernel) (by decide +kernel)
theorem w_1223 : Cond.instanceMethod yX6_write ∈ Tw := tw_of (i := 1223) (by decide +kernel) (by decide +kernel)
theorem mlL_176 : MLv RL 176 kX6_write 3 := ⟨⟨w_1222, w_7, w_1225, by decide, by decide, by decide +kernel⟩, w_1223, w_1224⟩
theorem w_1226 : Cond.methodLink RX6 303 yX6_wrong ∈ Tw := tw_of (i := 1226) (by decide +kernel) (by decide +kernel)
theorem w_1229 : Cond.code yX6_wrong cX6_wrong 2 (some .int) ∈ Tw := tw_of (i := 1229) (by decide +kernel) (by decide +kernel)
theorem ws_mlX6_303 : Cond.selects RX6 yX6_wrong yX6_wrong ∈ Tw := tw_sel (q := (⟨"BentPlainModel", "wrong", "(I)I"⟩, 17)) (i := 59) (by decide +kernel)
theorem w_1228 : Cond.instanceMethod yX6_wrong ∈ Tw := tw_of (i := 1228) (by decide +kernel) (by decide +kernel)
theorem mlX6_303 : MLv RX6 303 kX6_wrong 1 := ⟨⟨w_1226, w_7, w_1229, by decide, by decide, by decide +kernel⟩, w_1228, ws_mlX6_303⟩
theorem w_1231 : Cond.methodLink RX6 306 yX6_narrowed ∈ Tw := tw_of (i := 1231) (by decide +kernel) (by decide +kernel)
theorem w_1233 : Cond.code yX6_narrowed cX6_narrowed 3 (some .long) ∈ Tw := tw_of (i := 1233) (by decide +kernel) (by decide +kernel)
theorem w_1232 : Cond.static yX6_narrowed ∈ Tw := tw_of (i := 1232) (by decide +kernel) (by decide +kernel)
theorem mlX6_306 : MLs RX6 306 kX6_narrowed 2 := ⟨⟨w_1231, w_7, w_1233, by decide, by decide, by decide +kernel⟩, w_1232⟩
theorem w_1234 : Cond.methodLink RL 181 yX6_copy ∈ Tw := tw_of (i := 1234) (by decide +kernel) (by decide +kernel)
theorem w_1237 : Cond.code yX6_copy cX6_copy 7 (some .int) ∈ Tw := tw_of (i := 1237) (by decide +kernel) (by decide +kernel)
theorem w_1236 : Cond.selects RX6 yX6_copy yX6_copy ∈ Tw := tw_of (i := 1236) (by decide +kernel) (by decide +kernel)
theorem w_1235 : Cond.instanceMethod yX6_copy ∈ Tw := tw_of (i := 1235) (by decide +kernel) (by decide +kernel)
theorem mlL_181 : MLv RL 181 kX6_copy 5 := ⟨⟨w_1234, w_7, w_1237, by decide, by decide, by decide +kernel⟩, w_1235, w_1236⟩
theorem w_1238 : Cond.methodLink RL 185 yX6_lays ∈ Tw := tw_of (i := 1238) (by decide +kernel) (by decide +kernel)
theorem w_1241 : Cond.code yX6_lays cX6_lays 7 (some .int) ∈ Tw := tw_of (i := 1241) (by decide +kernel) (by decide +kernel)
theorem w_1240 : Cond.selects RX6 yX6_lays yX6_lays ∈ Tw := tw_of (i := 1240) (by decide +kernel) (by decide +kernel)
theorem w_1239 : Cond.instanceMethod yX6_lays ∈ Tw := tw_of (i := 1239) (by decide +kernel) (by decide +kernel)
theorem mlL_185 : MLv RL 185 kX6_lays 1 := ⟨⟨w_1238, w_7, w_1241, by decide, by decide, by decide +kernel⟩, w_1239, w_1240⟩
theorem w_1242 : Cond.methodLink RL 189 yX6_book ∈ Tw := tw_of (i := 1242) (by decide +kernel) (by decide +kernel)
theorem w_1245 : Cond.code yX6_book cX6_book 5 (some .int) ∈ Tw := tw_of (i := 1245) (by decide +kernel) (by decide +kernel)
theorem w_1244 : Cond.selects RX6 yX6_book yX6_book ∈ Tw := tw_of (i := 1244) (by decide +kernel) (by decide +kernel)
theorem w_1243 : Cond.instanceMethod yX6_book ∈ Tw := tw_of (i := 1243) (by decide +kernel) (by decide +kernel)
theorem mlL_189 : MLv RL 189 kX6_book 2 := ⟨⟨w_1242, w_7, w_1245, by decide, by decide, by decide +kernel⟩, w_1243, w_1244⟩
theorem w_1246 : Cond.methodLink RX6 310 yX6_wrongBook ∈ Tw := tw_of (i := 1246) (by decide +kernel) (by decide +kernel)
theorem w_1249 : Cond.code yX6_wrongBook cX6_wrongBook 4 (some .int) ∈ Tw := tw_of (i := 1249) (by decide +kernel) (by decide +kernel)
theorem ws_mlX6_310 : Cond.selects RX6 yX6_wrongBook yX6_wrongBook ∈ Tw := tw_sel (q := (⟨"BentPlainModel", "wrongBook", "(II)I"⟩, 17)) (i := 60) (by decide +kernel)
theorem w_1248 : Cond.instanceMethod yX6_wrongBook ∈ Tw := tw_of (i := 1248) (by decide +kernel) (by decide +kernel)
theorem mlX6_310 : MLv RX6 310 kX6_wrongBook 2 := ⟨⟨w_1246, w_7, w_1249, by decide, by decide, by decide +kernel⟩, w_1248, ws_mlX6_310⟩
theorem w_1250 : Cond.methodLink RL 193 yX6_read ∈ Tw := tw_of (i := 1250) (by decide +kernel) (by decide +kernel)
theorem w_1253 : Cond.code yX6_read cX6_read 6 (some .int) ∈ Tw := tw_of (i := 1253) (by decide +kernel) (by decide +kernel)
theorem w_1252 : Cond.selects RX6 yX6_read yX6_read ∈ Tw := tw_of (i := 1252) (by decide +kernel) (by decide +kernel)
theorem w_1251 : Cond.instanceMethod yX6_read ∈ Tw := tw_of (i := 1251) (by decide +kernel) (by decide +kernel)
theorem mlL_193 : MLv RL 193 kX6_read 2 := ⟨⟨w_1250, w_7, w_1253, by decide, by decide, by decide +kernel⟩, w_1251, w_1252⟩
theorem w_1254 : Cond.methodLink RX6 313 yX6_isSo ∈ Tw := tw_of (i := 1254) (by decide +kernel) (by decide +kernel)
theorem w_1257 : Cond.code yX6_isSo cX6_isSo 5 (some .int) ∈ Tw := tw_of (i := 1257) (by decide +kernel) (by decide +kernel)
theorem ws_mlX6_313 : Cond.selects RX6 yX6_isSo yX6_isSo ∈ Tw := tw_sel (q := (⟨"BentPlainModel", "isSo", "(II)I"⟩, 17)) (i := 61) (by decide +kernel)
theorem w_1256 : Cond.instanceMethod yX6_isSo ∈ Tw := tw_of (i := 1256) (by decide +kernel) (by decide +kernel)
theorem mlX6_313 : MLv RX6 313 kX6_isSo 2 := ⟨⟨w_1254, w_7, w_1257, by decide, by decide, by decide +kernel⟩, w_1256, ws_mlX6_313⟩
theorem w_1258 : Cond.methodLink RL 197 yX6_image ∈ Tw := tw_of (i := 1258) (by decide +kernel) (by decide +kernel)
theorem w_1261 : Cond.code yX6_image cX6_image 2 (some .int) ∈ Tw := tw_of (i := 1261) (by decide +kernel) (by decide +kernel)
theorem w_1260 : Cond.selects RX6 yX6_image yX6_image ∈ Tw := tw_of (i := 1260) (by decide +kernel) (by decide +kernel)
theorem w_1259 : Cond.instanceMethod yX6_image ∈ Tw := tw_of (i := 1259) (by decide +kernel) (by decide +kernel)
theorem mlL_197 : MLv RL 197 kX6_image 0 := ⟨⟨w_1258, w_7, w_1261, by decide, by decide, by decide +kernel⟩, w_1259, w_1260⟩
theorem w_1262 : Cond.methodLink RL 201 yX6_undo ∈ Tw := tw_of (i := 1262) (by decide +kernel) (by decide +kernel)
theorem w_1265 : Cond.code yX6_undo cX6_undo 2 (some .int) ∈ Tw := tw_of (i := 1265) (by decide +kernel) (by decide +kernel)
theorem w_1264 : Cond.selects RX6 yX6_undo yX6_undo ∈ Tw := tw_of (i := 1264) (by decide +kernel) (by decide +kernel)
theorem w_1263 : Cond.instanceMethod yX6_undo ∈ Tw := tw_of (i := 1263) (by decide +kernel) (by decide +kernel)
theorem mlL_201 : MLv RL 201 kX6_undo 0 := ⟨⟨w_1262, w_7, w_1265, by decide, by decide, by decide +kernel⟩, w_1263, w_1264⟩
theorem w_1266 : Cond.methodLink RL 205 yX6_tear ∈ Tw := tw_of (i := 1266) (by decide +kernel) (by decide +kernel)
theorem w_1269 : Cond.code yX6_tear cX6_tear 2 (some .int) ∈ Tw := tw_of (i := 1269) (by decide +kernel) (by decide +kernel)
theorem w_1268 : Cond.selects RX6 yX6_tear yX6_tear ∈ Tw := tw_of (i := 1268) (by decide +kernel) (by decide +kernel)
theorem w_1267 : Cond.instanceMethod yX6_tear ∈ Tw := tw_of (i := 1267) (by decide +kernel) (by decide +kernel)
theorem mlL_205 : MLv RL 205 kX6_tear 0 := ⟨⟨w_1266, w_7, w_1269, by decide, by decide, by decide +kernel⟩, w_1267, w_1268⟩
theorem w_1270 : Cond.methodLink RL 209 yX6_count ∈ Tw := tw_of (i := 1270) (by decide +kernel) (by decide +kernel)
theorem w_1273 : Cond.code yX6_count cX6_count 2 (some .int) ∈ Tw := tw_of (i := 1273) (by decide +kernel) (by decide +kernel)
theorem w_1272 : Cond.selects RX6 yX6_count yX6_count ∈ Tw := tw_of (i := 1272) (by decide +kernel) (by decide +kernel)
theorem w_1271 : Cond.instanceMethod yX6_count ∈ Tw := tw_of (i := 1271) (by decide +kernel) (by decide +kernel)
theorem mlL_209 : MLv RL 209 kX6_count 1 := ⟨⟨w_1270, w_7, w_1273, by decide, by decide, by decide +kernel⟩, w_1271, w_1272⟩
theorem w_1274 : Cond.methodLink RX6 319 yX6_gluedSides ∈ Tw := tw_of (i := 1274) (by decide +kernel) (by decide +kernel)
theorem w_1277 : Cond.code yX6_gluedSides cX6_gluedSides 3 (some .int) ∈ Tw := tw_of (i := 1277) (by decide +kernel) (by decide +kernel)
theorem ws_mlX6_319 : Cond.selects RX6 yX6_gluedSides yX6_gluedSides ∈ Tw := tw_sel (q := (⟨"BentPlainModel", "gluedSides", "()I"⟩, 17)) (i := 62) (by decide +kernel)
theorem w_1276 : Cond.instanceMethod yX6_gluedSides ∈ Tw := tw_of (i := 1276) (by decide +kernel) (by decide +kernel)
theorem mlX6_319 : MLv RX6 319 kX6_gluedSides 0 := ⟨⟨w_1274, w_7, w_1277, by decide, by decide, by decide +kernel⟩, w_1276, ws_mlX6_319⟩
theorem w_1278 : Cond.methodLink RL 213 yX6_status ∈ Tw := tw_of (i := 1278) (by decide +kernel) (by decide +kernel)
theorem w_1281 : Cond.code yX6_status cX6_status 4 (some .int) ∈ Tw := tw_of (i := 1281) (by decide +kernel) (by decide +kernel)
theorem w_1280 : Cond.selects RX6 yX6_status yX6_status ∈ Tw := tw_of (i := 1280) (by decide +kernel) (by decide +kernel)
theorem w_1279 : Cond.instanceMethod yX6_status ∈ Tw := tw_of (i := 1279) (by decide +kernel) (by decide +kernel)
theorem mlL_213 : MLv RL 213 kX6_status 1 := ⟨⟨w_1278, w_7, w_1281, by decide, by decide, by decide +kernel⟩, w_1279, w_1280⟩
theorem mlX0_46 : MLn RX0 46 kX5_wayOf 2 := ⟨⟨"BentPlain", by decide +kernel⟩, w_1, w_203, ⟨by decide, by decide, by decide +kernel⟩, w_202⟩
theorem mlX0_68 : MLn RX0 68 kX5_fieldOf 1 := ⟨⟨"BentPlain", by decide +kernel⟩, w_1, w_239, ⟨by decide, by decide, by decide +kernel⟩, w_238⟩
theorem mlX5_160 : MLn RX5 160 kX4_payOf 2 := ⟨⟨"BentPlain", by decide +kernel⟩, w_3, w_310, ⟨by decide, by decide, by decide +kernel⟩, w_309⟩
theorem mlX0_74 : MLn RX0 74 kX5_turned 2 := ⟨⟨"BentPlain", by decide +kernel⟩, w_1, w_345, ⟨by decide, by decide, by decide +kernel⟩, w_344⟩
theorem mlX4_33 : MLn RX4 33 kX5_turned 2 := ⟨⟨"BentPlain", by decide +kernel⟩, w_1, w_345, ⟨by decide, by decide, by decide +kernel⟩, w_344⟩
theorem mlX4_37 : MLn RX4 37 kX5_fieldOf 1 := ⟨⟨"BentPlain", by decide +kernel⟩, w_1, w_239, ⟨by decide, by decide, by decide +kernel⟩, w_238⟩
theorem mlX3_108 : MLn RX3 108 kX5_wayOf 2 := ⟨⟨"BentPlain", by decide +kernel⟩, w_1, w_203, ⟨by decide, by decide, by decide +kernel⟩, w_202⟩
end
