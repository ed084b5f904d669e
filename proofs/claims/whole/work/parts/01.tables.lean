-- ===== PART A: goes FIRST, ahead of the names: the tables' words, and 'selects' of the private methods out of them =====
/-- a private method of a class that the tables say can be made, by its rows of tables_1 -/
def lw_okq (q : MethodName × Nat) : Prop := (q.1.cls ≠ "java/lang/invoke/MethodHandle" ∧ q.1.cls ≠ "java/lang/invoke/VarHandle") ∧ Cond.instantiable q.1.cls q.2 ∈ tables_1 ∧ Cond.privateMethod q.1 ∈ tables_1 ∧ Cond.instanceMethod q.1 ∈ tables_1
theorem lw_p0 : lw_okq (⟨"BentPlain", "tell", "(I)I"⟩, 12) := ⟨⟨by decide +kernel, by decide +kernel⟩, List.mem_of_getElem? (i := 18) (by decide +kernel), List.mem_of_getElem? (i := 177) (by decide +kernel), List.mem_of_getElem? (i := 178) (by decide +kernel)⟩
theorem lw_p1 : lw_okq (⟨"BentPlain", "numberOrNone", "(I)I"⟩, 12) := ⟨⟨by decide +kernel, by decide +kernel⟩, List.mem_of_getElem? (i := 18) (by decide +kernel), List.mem_of_getElem? (i := 261) (by decide +kernel), List.mem_of_getElem? (i := 262) (by decide +kernel)⟩
theorem lw_p2 : lw_okq (⟨"BentPlain", "reached", "(I)I"⟩, 12) := ⟨⟨by decide +kernel, by decide +kernel⟩, List.mem_of_getElem? (i := 18) (by decide +kernel), List.mem_of_getElem? (i := 471) (by decide +kernel), List.mem_of_getElem? (i := 472) (by decide +kernel)⟩
theorem lw_p3 : lw_okq (⟨"BentPlain", "least", "(IIZ)I"⟩, 12) := ⟨⟨by decide +kernel, by decide +kernel⟩, List.mem_of_getElem? (i := 18) (by decide +kernel), List.mem_of_getElem? (i := 479) (by decide +kernel), List.mem_of_getElem? (i := 480) (by decide +kernel)⟩
theorem lw_p4 : lw_okq (⟨"BentPlain", "farThrough", "(II)I"⟩, 12) := ⟨⟨by decide +kernel, by decide +kernel⟩, List.mem_of_getElem? (i := 18) (by decide +kernel), List.mem_of_getElem? (i := 507) (by decide +kernel), List.mem_of_getElem? (i := 508) (by decide +kernel)⟩
theorem lw_p5 : lw_okq (⟨"BentPlain", "sheetFinding", "(I)I"⟩, 12) := ⟨⟨by decide +kernel, by decide +kernel⟩, List.mem_of_getElem? (i := 18) (by decide +kernel), List.mem_of_getElem? (i := 681) (by decide +kernel), List.mem_of_getElem? (i := 682) (by decide +kernel)⟩
theorem lw_p6 : lw_okq (⟨"BentPlain", "bookFinding", "(II)I"⟩, 12) := ⟨⟨by decide +kernel, by decide +kernel⟩, List.mem_of_getElem? (i := 18) (by decide +kernel), List.mem_of_getElem? (i := 708) (by decide +kernel), List.mem_of_getElem? (i := 709) (by decide +kernel)⟩
theorem lw_p7 : lw_okq (⟨"BentPlain", "goesByBook", "(LBentPlain$Sheet;)Z"⟩, 12) := ⟨⟨by decide +kernel, by decide +kernel⟩, List.mem_of_getElem? (i := 18) (by decide +kernel), List.mem_of_getElem? (i := 716) (by decide +kernel), List.mem_of_getElem? (i := 717) (by decide +kernel)⟩
theorem lw_p8 : lw_okq (⟨"BentPlainModel", "finds", "(I)I"⟩, 17) := ⟨⟨by decide +kernel, by decide +kernel⟩, List.mem_of_getElem? (i := 744) (by decide +kernel), List.mem_of_getElem? (i := 811) (by decide +kernel), List.mem_of_getElem? (i := 812) (by decide +kernel)⟩
theorem lw_p9 : lw_okq (⟨"BentPlainModel", "adds", "(I)I"⟩, 17) := ⟨⟨by decide +kernel, by decide +kernel⟩, List.mem_of_getElem? (i := 744) (by decide +kernel), List.mem_of_getElem? (i := 816) (by decide +kernel), List.mem_of_getElem? (i := 817) (by decide +kernel)⟩
theorem lw_p10 : lw_okq (⟨"BentPlainModel", "isField", "(I)Z"⟩, 17) := ⟨⟨by decide +kernel, by decide +kernel⟩, List.mem_of_getElem? (i := 744) (by decide +kernel), List.mem_of_getElem? (i := 824) (by decide +kernel), List.mem_of_getElem? (i := 825) (by decide +kernel)⟩
theorem lw_p11 : lw_okq (⟨"BentPlainModel", "gluedOf", "(I)I"⟩, 17) := ⟨⟨by decide +kernel, by decide +kernel⟩, List.mem_of_getElem? (i := 744) (by decide +kernel), List.mem_of_getElem? (i := 829) (by decide +kernel), List.mem_of_getElem? (i := 830) (by decide +kernel)⟩
theorem lw_p12 : lw_okq (⟨"BentPlainModel", "those", "(I)I"⟩, 17) := ⟨⟨by decide +kernel, by decide +kernel⟩, List.mem_of_getElem? (i := 744) (by decide +kernel), List.mem_of_getElem? (i := 833) (by decide +kernel), List.mem_of_getElem? (i := 834) (by decide +kernel)⟩
theorem lw_p13 : lw_okq (⟨"BentPlainModel", "partOf", "(II)I"⟩, 17) := ⟨⟨by decide +kernel, by decide +kernel⟩, List.mem_of_getElem? (i := 744) (by decide +kernel), List.mem_of_getElem? (i := 837) (by decide +kernel), List.mem_of_getElem? (i := 838) (by decide +kernel)⟩
theorem lw_p14 : lw_okq (⟨"BentPlainModel", "becomes", "(II)I"⟩, 17) := ⟨⟨by decide +kernel, by decide +kernel⟩, List.mem_of_getElem? (i := 744) (by decide +kernel), List.mem_of_getElem? (i := 848) (by decide +kernel), List.mem_of_getElem? (i := 849) (by decide +kernel)⟩
theorem lw_p15 : lw_okq (⟨"BentPlainModel", "isWay", "(II)Z"⟩, 17) := ⟨⟨by decide +kernel, by decide +kernel⟩, List.mem_of_getElem? (i := 744) (by decide +kernel), List.mem_of_getElem? (i := 856) (by decide +kernel), List.mem_of_getElem? (i := 857) (by decide +kernel)⟩
def lw_privs_1 : List (MethodName × Nat) := [(⟨"BentPlain", "tell", "(I)I"⟩, 12), (⟨"BentPlain", "numberOrNone", "(I)I"⟩, 12), (⟨"BentPlain", "reached", "(I)I"⟩, 12), (⟨"BentPlain", "least", "(IIZ)I"⟩, 12), (⟨"BentPlain", "farThrough", "(II)I"⟩, 12), (⟨"BentPlain", "sheetFinding", "(I)I"⟩, 12), (⟨"BentPlain", "bookFinding", "(II)I"⟩, 12), (⟨"BentPlain", "goesByBook", "(LBentPlain$Sheet;)Z"⟩, 12), (⟨"BentPlainModel", "finds", "(I)I"⟩, 17), (⟨"BentPlainModel", "adds", "(I)I"⟩, 17), (⟨"BentPlainModel", "isField", "(I)Z"⟩, 17), (⟨"BentPlainModel", "gluedOf", "(I)I"⟩, 17), (⟨"BentPlainModel", "those", "(I)I"⟩, 17), (⟨"BentPlainModel", "partOf", "(II)I"⟩, 17), (⟨"BentPlainModel", "becomes", "(II)I"⟩, 17), (⟨"BentPlainModel", "isWay", "(II)Z"⟩, 17)]
theorem lw_r1 : ∀ q ∈ lw_privs_1, lw_okq q := List.forall_mem_cons.mpr ⟨lw_p0, List.forall_mem_cons.mpr ⟨lw_p1, List.forall_mem_cons.mpr ⟨lw_p2, List.forall_mem_cons.mpr ⟨lw_p3, List.forall_mem_cons.mpr ⟨lw_p4, List.forall_mem_cons.mpr ⟨lw_p5, List.forall_mem_cons.mpr ⟨lw_p6, List.forall_mem_cons.mpr ⟨lw_p7, List.forall_mem_cons.mpr ⟨lw_p8, List.forall_mem_cons.mpr ⟨lw_p9, List.forall_mem_cons.mpr ⟨lw_p10, List.forall_mem_cons.mpr ⟨lw_p11, List.forall_mem_cons.mpr ⟨lw_p12, List.forall_mem_cons.mpr ⟨lw_p13, List.forall_mem_cons.mpr ⟨lw_p14, List.forall_mem_cons.mpr ⟨lw_p15, fun _ h => absurd h List.not_mem_nil⟩⟩⟩⟩⟩⟩⟩⟩⟩⟩⟩⟩⟩⟩⟩⟩
theorem lw_p16 : lw_okq (⟨"BentPlainModel", "glues", "(II)V"⟩, 17) := ⟨⟨by decide +kernel, by decide +kernel⟩, List.mem_of_getElem? (i := 744) (by decide +kernel), List.mem_of_getElem? (i := 865) (by decide +kernel), List.mem_of_getElem? (i := 866) (by decide +kernel)⟩
theorem lw_p17 : lw_okq (⟨"BentPlainModel", "cuts", "(I)V"⟩, 17) := ⟨⟨by decide +kernel, by decide +kernel⟩, List.mem_of_getElem? (i := 744) (by decide +kernel), List.mem_of_getElem? (i := 873) (by decide +kernel), List.mem_of_getElem? (i := 874) (by decide +kernel)⟩
theorem lw_p18 : lw_okq (⟨"BentPlainModel", "comes", "(III)I"⟩, 17) := ⟨⟨by decide +kernel, by decide +kernel⟩, List.mem_of_getElem? (i := 744) (by decide +kernel), List.mem_of_getElem? (i := 890) (by decide +kernel), List.mem_of_getElem? (i := 891) (by decide +kernel)⟩
theorem lw_p19 : lw_okq (⟨"BentPlainModel", "isWalker", "(I)Z"⟩, 17) := ⟨⟨by decide +kernel, by decide +kernel⟩, List.mem_of_getElem? (i := 744) (by decide +kernel), List.mem_of_getElem? (i := 898) (by decide +kernel), List.mem_of_getElem? (i := 899) (by decide +kernel)⟩
theorem lw_p20 : lw_okq (⟨"BentPlainModel", "wayOf", "(I)I"⟩, 17) := ⟨⟨by decide +kernel, by decide +kernel⟩, List.mem_of_getElem? (i := 744) (by decide +kernel), List.mem_of_getElem? (i := 909) (by decide +kernel), List.mem_of_getElem? (i := 910) (by decide +kernel)⟩
theorem lw_p21 : lw_okq (⟨"BentPlainModel", "stands", "(II)V"⟩, 17) := ⟨⟨by decide +kernel, by decide +kernel⟩, List.mem_of_getElem? (i := 744) (by decide +kernel), List.mem_of_getElem? (i := 913) (by decide +kernel), List.mem_of_getElem? (i := 914) (by decide +kernel)⟩
theorem lw_p22 : lw_okq (⟨"BentPlainModel", "goes", "(I)V"⟩, 17) := ⟨⟨by decide +kernel, by decide +kernel⟩, List.mem_of_getElem? (i := 744) (by decide +kernel), List.mem_of_getElem? (i := 933) (by decide +kernel), List.mem_of_getElem? (i := 934) (by decide +kernel)⟩
theorem lw_p23 : lw_okq (⟨"BentPlainModel", "onward", "(I)I"⟩, 17) := ⟨⟨by decide +kernel, by decide +kernel⟩, List.mem_of_getElem? (i := 744) (by decide +kernel), List.mem_of_getElem? (i := 937) (by decide +kernel), List.mem_of_getElem? (i := 938) (by decide +kernel)⟩
theorem lw_p24 : lw_okq (⟨"BentPlainModel", "all", "()V"⟩, 17) := ⟨⟨by decide +kernel, by decide +kernel⟩, List.mem_of_getElem? (i := 744) (by decide +kernel), List.mem_of_getElem? (i := 952) (by decide +kernel), List.mem_of_getElem? (i := 953) (by decide +kernel)⟩
theorem lw_p25 : lw_okq (⟨"BentPlainModel", "allMiles", "()I"⟩, 17) := ⟨⟨by decide +kernel, by decide +kernel⟩, List.mem_of_getElem? (i := 744) (by decide +kernel), List.mem_of_getElem? (i := 956) (by decide +kernel), List.mem_of_getElem? (i := 957) (by decide +kernel)⟩
theorem lw_p26 : lw_okq (⟨"BentPlainModel", "laysAside", "()V"⟩, 17) := ⟨⟨by decide +kernel, by decide +kernel⟩, List.mem_of_getElem? (i := 744) (by decide +kernel), List.mem_of_getElem? (i := 964) (by decide +kernel), List.mem_of_getElem? (i := 965) (by decide +kernel)⟩
theorem lw_p27 : lw_okq (⟨"BentPlainModel", "takesBack", "(I)I"⟩, 17) := ⟨⟨by decide +kernel, by decide +kernel⟩, List.mem_of_getElem? (i := 744) (by decide +kernel), List.mem_of_getElem? (i := 968) (by decide +kernel), List.mem_of_getElem? (i := 969) (by decide +kernel)⟩
theorem lw_p28 : lw_okq (⟨"BentPlainModel", "orNone", "(II)I"⟩, 17) := ⟨⟨by decide +kernel, by decide +kernel⟩, List.mem_of_getElem? (i := 744) (by decide +kernel), List.mem_of_getElem? (i := 976) (by decide +kernel), List.mem_of_getElem? (i := 977) (by decide +kernel)⟩
theorem lw_p29 : lw_okq (⟨"BentPlainModel", "seen", "(I)I"⟩, 17) := ⟨⟨by decide +kernel, by decide +kernel⟩, List.mem_of_getElem? (i := 744) (by decide +kernel), List.mem_of_getElem? (i := 1012) (by decide +kernel), List.mem_of_getElem? (i := 1013) (by decide +kernel)⟩
theorem lw_p30 : lw_okq (⟨"BentPlainModel", "aboutOf", "(I)I"⟩, 17) := ⟨⟨by decide +kernel, by decide +kernel⟩, List.mem_of_getElem? (i := 744) (by decide +kernel), List.mem_of_getElem? (i := 1027) (by decide +kernel), List.mem_of_getElem? (i := 1028) (by decide +kernel)⟩
theorem lw_p31 : lw_okq (⟨"BentPlainModel", "beside", "(I)I"⟩, 17) := ⟨⟨by decide +kernel, by decide +kernel⟩, List.mem_of_getElem? (i := 744) (by decide +kernel), List.mem_of_getElem? (i := 1031) (by decide +kernel), List.mem_of_getElem? (i := 1032) (by decide +kernel)⟩
def lw_privs_2 : List (MethodName × Nat) := [(⟨"BentPlainModel", "glues", "(II)V"⟩, 17), (⟨"BentPlainModel", "cuts", "(I)V"⟩, 17), (⟨"BentPlainModel", "comes", "(III)I"⟩, 17), (⟨"BentPlainModel", "isWalker", "(I)Z"⟩, 17), (⟨"BentPlainModel", "wayOf", "(I)I"⟩, 17), (⟨"BentPlainModel", "stands", "(II)V"⟩, 17), (⟨"BentPlainModel", "goes", "(I)V"⟩, 17), (⟨"BentPlainModel", "onward", "(I)I"⟩, 17), (⟨"BentPlainModel", "all", "()V"⟩, 17), (⟨"BentPlainModel", "allMiles", "()I"⟩, 17), (⟨"BentPlainModel", "laysAside", "()V"⟩, 17), (⟨"BentPlainModel", "takesBack", "(I)I"⟩, 17), (⟨"BentPlainModel", "orNone", "(II)I"⟩, 17), (⟨"BentPlainModel", "seen", "(I)I"⟩, 17), (⟨"BentPlainModel", "aboutOf", "(I)I"⟩, 17), (⟨"BentPlainModel", "beside", "(I)I"⟩, 17)]
theorem lw_r2 : ∀ q ∈ lw_privs_2, lw_okq q := List.forall_mem_cons.mpr ⟨lw_p16, List.forall_mem_cons.mpr ⟨lw_p17, List.forall_mem_cons.mpr ⟨lw_p18, List.forall_mem_cons.mpr ⟨lw_p19, List.forall_mem_cons.mpr ⟨lw_p20, List.forall_mem_cons.mpr ⟨lw_p21, List.forall_mem_cons.mpr ⟨lw_p22, List.forall_mem_cons.mpr ⟨lw_p23, List.forall_mem_cons.mpr ⟨lw_p24, List.forall_mem_cons.mpr ⟨lw_p25, List.forall_mem_cons.mpr ⟨lw_p26, List.forall_mem_cons.mpr ⟨lw_p27, List.forall_mem_cons.mpr ⟨lw_p28, List.forall_mem_cons.mpr ⟨lw_p29, List.forall_mem_cons.mpr ⟨lw_p30, List.forall_mem_cons.mpr ⟨lw_p31, fun _ h => absurd h List.not_mem_nil⟩⟩⟩⟩⟩⟩⟩⟩⟩⟩⟩⟩⟩⟩⟩⟩
theorem lw_p32 : lw_okq (⟨"BentPlainModel", "isFirst", "(I)Z"⟩, 17) := ⟨⟨by decide +kernel, by decide +kernel⟩, List.mem_of_getElem? (i := 744) (by decide +kernel), List.mem_of_getElem? (i := 1039) (by decide +kernel), List.mem_of_getElem? (i := 1040) (by decide +kernel)⟩
theorem lw_p33 : lw_okq (⟨"BentPlainModel", "spread", "(I)I"⟩, 17) := ⟨⟨by decide +kernel, by decide +kernel⟩, List.mem_of_getElem? (i := 744) (by decide +kernel), List.mem_of_getElem? (i := 1055) (by decide +kernel), List.mem_of_getElem? (i := 1056) (by decide +kernel)⟩
theorem lw_p34 : lw_okq (⟨"BentPlainModel", "farOf", "(II)I"⟩, 17) := ⟨⟨by decide +kernel, by decide +kernel⟩, List.mem_of_getElem? (i := 744) (by decide +kernel), List.mem_of_getElem? (i := 1063) (by decide +kernel), List.mem_of_getElem? (i := 1064) (by decide +kernel)⟩
theorem lw_p35 : lw_okq (⟨"BentPlainModel", "saves", "()V"⟩, 17) := ⟨⟨by decide +kernel, by decide +kernel⟩, List.mem_of_getElem? (i := 744) (by decide +kernel), List.mem_of_getElem? (i := 1099) (by decide +kernel), List.mem_of_getElem? (i := 1100) (by decide +kernel)⟩
theorem lw_p36 : lw_okq (⟨"BentPlainModel", "token", "()V"⟩, 17) := ⟨⟨by decide +kernel, by decide +kernel⟩, List.mem_of_getElem? (i := 744) (by decide +kernel), List.mem_of_getElem? (i := 1103) (by decide +kernel), List.mem_of_getElem? (i := 1104) (by decide +kernel)⟩
theorem lw_p37 : lw_okq (⟨"BentPlainModel", "byteAt", "(I)I"⟩, 17) := ⟨⟨by decide +kernel, by decide +kernel⟩, List.mem_of_getElem? (i := 744) (by decide +kernel), List.mem_of_getElem? (i := 1107) (by decide +kernel), List.mem_of_getElem? (i := 1108) (by decide +kernel)⟩
theorem lw_p38 : lw_okq (⟨"BentPlainModel", "item", "()V"⟩, 17) := ⟨⟨by decide +kernel, by decide +kernel⟩, List.mem_of_getElem? (i := 744) (by decide +kernel), List.mem_of_getElem? (i := 1121) (by decide +kernel), List.mem_of_getElem? (i := 1122) (by decide +kernel)⟩
theorem lw_p39 : lw_okq (⟨"BentPlainModel", "kindHere", "()I"⟩, 17) := ⟨⟨by decide +kernel, by decide +kernel⟩, List.mem_of_getElem? (i := 744) (by decide +kernel), List.mem_of_getElem? (i := 1125) (by decide +kernel), List.mem_of_getElem? (i := 1126) (by decide +kernel)⟩
theorem lw_p40 : lw_okq (⟨"BentPlainModel", "word", "()J"⟩, 17) := ⟨⟨by decide +kernel, by decide +kernel⟩, List.mem_of_getElem? (i := 744) (by decide +kernel), List.mem_of_getElem? (i := 1129) (by decide +kernel), List.mem_of_getElem? (i := 1130) (by decide +kernel)⟩
theorem lw_p41 : lw_okq (⟨"BentPlainModel", "walkerItem", "(I)V"⟩, 17) := ⟨⟨by decide +kernel, by decide +kernel⟩, List.mem_of_getElem? (i := 744) (by decide +kernel), List.mem_of_getElem? (i := 1141) (by decide +kernel), List.mem_of_getElem? (i := 1142) (by decide +kernel)⟩
theorem lw_p42 : lw_okq (⟨"BentPlainModel", "wants", "(Z)V"⟩, 17) := ⟨⟨by decide +kernel, by decide +kernel⟩, List.mem_of_getElem? (i := 744) (by decide +kernel), List.mem_of_getElem? (i := 1145) (by decide +kernel), List.mem_of_getElem? (i := 1146) (by decide +kernel)⟩
theorem lw_p43 : lw_okq (⟨"BentPlainModel", "fieldHere", "()V"⟩, 17) := ⟨⟨by decide +kernel, by decide +kernel⟩, List.mem_of_getElem? (i := 744) (by decide +kernel), List.mem_of_getElem? (i := 1150) (by decide +kernel), List.mem_of_getElem? (i := 1151) (by decide +kernel)⟩
theorem lw_p44 : lw_okq (⟨"BentPlainModel", "number", "(II)V"⟩, 17) := ⟨⟨by decide +kernel, by decide +kernel⟩, List.mem_of_getElem? (i := 744) (by decide +kernel), List.mem_of_getElem? (i := 1154) (by decide +kernel), List.mem_of_getElem? (i := 1155) (by decide +kernel)⟩
theorem lw_p45 : lw_okq (⟨"BentPlainModel", "sideNamed", "()I"⟩, 17) := ⟨⟨by decide +kernel, by decide +kernel⟩, List.mem_of_getElem? (i := 744) (by decide +kernel), List.mem_of_getElem? (i := 1158) (by decide +kernel), List.mem_of_getElem? (i := 1159) (by decide +kernel)⟩
theorem lw_p46 : lw_okq (⟨"BentPlainModel", "fieldItem", "()V"⟩, 17) := ⟨⟨by decide +kernel, by decide +kernel⟩, List.mem_of_getElem? (i := 744) (by decide +kernel), List.mem_of_getElem? (i := 1167) (by decide +kernel), List.mem_of_getElem? (i := 1168) (by decide +kernel)⟩
theorem lw_p47 : lw_okq (⟨"BentPlainModel", "glueItem", "()V"⟩, 17) := ⟨⟨by decide +kernel, by decide +kernel⟩, List.mem_of_getElem? (i := 744) (by decide +kernel), List.mem_of_getElem? (i := 1173) (by decide +kernel), List.mem_of_getElem? (i := 1174) (by decide +kernel)⟩
def lw_privs_3 : List (MethodName × Nat) := [(⟨"BentPlainModel", "isFirst", "(I)Z"⟩, 17), (⟨"BentPlainModel", "spread", "(I)I"⟩, 17), (⟨"BentPlainModel", "farOf", "(II)I"⟩, 17), (⟨"BentPlainModel", "saves", "()V"⟩, 17), (⟨"BentPlainModel", "token", "()V"⟩, 17), (⟨"BentPlainModel", "byteAt", "(I)I"⟩, 17), (⟨"BentPlainModel", "item", "()V"⟩, 17), (⟨"BentPlainModel", "kindHere", "()I"⟩, 17), (⟨"BentPlainModel", "word", "()J"⟩, 17), (⟨"BentPlainModel", "walkerItem", "(I)V"⟩, 17), (⟨"BentPlainModel", "wants", "(Z)V"⟩, 17), (⟨"BentPlainModel", "fieldHere", "()V"⟩, 17), (⟨"BentPlainModel", "number", "(II)V"⟩, 17), (⟨"BentPlainModel", "sideNamed", "()I"⟩, 17), (⟨"BentPlainModel", "fieldItem", "()V"⟩, 17), (⟨"BentPlainModel", "glueItem", "()V"⟩, 17)]
theorem lw_r3 : ∀ q ∈ lw_privs_3, lw_okq q := List.forall_mem_cons.mpr ⟨lw_p32, List.forall_mem_cons.mpr ⟨lw_p33, List.forall_mem_cons.mpr ⟨lw_p34, List.forall_mem_cons.mpr ⟨lw_p35, List.forall_mem_cons.mpr ⟨lw_p36, List.forall_mem_cons.mpr ⟨lw_p37, List.forall_mem_cons.mpr ⟨lw_p38, List.forall_mem_cons.mpr ⟨lw_p39, List.forall_mem_cons.mpr ⟨lw_p40, List.forall_mem_cons.mpr ⟨lw_p41, List.forall_mem_cons.mpr ⟨lw_p42, List.forall_mem_cons.mpr ⟨lw_p43, List.forall_mem_cons.mpr ⟨lw_p44, List.forall_mem_cons.mpr ⟨lw_p45, List.forall_mem_cons.mpr ⟨lw_p46, List.forall_mem_cons.mpr ⟨lw_p47, fun _ h => absurd h List.not_mem_nil⟩⟩⟩⟩⟩⟩⟩⟩⟩⟩⟩⟩⟩⟩⟩⟩
theorem lw_p48 : lw_okq (⟨"BentPlainModel", "sideHere", "(IZI)I"⟩, 17) := ⟨⟨by decide +kernel, by decide +kernel⟩, List.mem_of_getElem? (i := 744) (by decide +kernel), List.mem_of_getElem? (i := 1177) (by decide +kernel), List.mem_of_getElem? (i := 1178) (by decide +kernel)⟩
theorem lw_p49 : lw_okq (⟨"BentPlainModel", "cutItem", "()V"⟩, 17) := ⟨⟨by decide +kernel, by decide +kernel⟩, List.mem_of_getElem? (i := 744) (by decide +kernel), List.mem_of_getElem? (i := 1182) (by decide +kernel), List.mem_of_getElem? (i := 1183) (by decide +kernel)⟩
theorem lw_p50 : lw_okq (⟨"BentPlainModel", "putsBack", "()V"⟩, 17) := ⟨⟨by decide +kernel, by decide +kernel⟩, List.mem_of_getElem? (i := 744) (by decide +kernel), List.mem_of_getElem? (i := 1186) (by decide +kernel), List.mem_of_getElem? (i := 1187) (by decide +kernel)⟩
theorem lw_p51 : lw_okq (⟨"BentPlainModel", "wrong", "(I)I"⟩, 17) := ⟨⟨by decide +kernel, by decide +kernel⟩, List.mem_of_getElem? (i := 744) (by decide +kernel), List.mem_of_getElem? (i := 1202) (by decide +kernel), List.mem_of_getElem? (i := 1203) (by decide +kernel)⟩
theorem lw_p52 : lw_okq (⟨"BentPlainModel", "wrongBook", "(II)I"⟩, 17) := ⟨⟨by decide +kernel, by decide +kernel⟩, List.mem_of_getElem? (i := 744) (by decide +kernel), List.mem_of_getElem? (i := 1222) (by decide +kernel), List.mem_of_getElem? (i := 1223) (by decide +kernel)⟩
theorem lw_p53 : lw_okq (⟨"BentPlainModel", "isSo", "(II)I"⟩, 17) := ⟨⟨by decide +kernel, by decide +kernel⟩, List.mem_of_getElem? (i := 744) (by decide +kernel), List.mem_of_getElem? (i := 1230) (by decide +kernel), List.mem_of_getElem? (i := 1231) (by decide +kernel)⟩
theorem lw_p54 : lw_okq (⟨"BentPlainModel", "gluedSides", "()I"⟩, 17) := ⟨⟨by decide +kernel, by decide +kernel⟩, List.mem_of_getElem? (i := 744) (by decide +kernel), List.mem_of_getElem? (i := 1250) (by decide +kernel), List.mem_of_getElem? (i := 1251) (by decide +kernel)⟩
def lw_privs_4 : List (MethodName × Nat) := [(⟨"BentPlainModel", "sideHere", "(IZI)I"⟩, 17), (⟨"BentPlainModel", "cutItem", "()V"⟩, 17), (⟨"BentPlainModel", "putsBack", "()V"⟩, 17), (⟨"BentPlainModel", "wrong", "(I)I"⟩, 17), (⟨"BentPlainModel", "wrongBook", "(II)I"⟩, 17), (⟨"BentPlainModel", "isSo", "(II)I"⟩, 17), (⟨"BentPlainModel", "gluedSides", "()I"⟩, 17)]
theorem lw_r4 : ∀ q ∈ lw_privs_4, lw_okq q := List.forall_mem_cons.mpr ⟨lw_p48, List.forall_mem_cons.mpr ⟨lw_p49, List.forall_mem_cons.mpr ⟨lw_p50, List.forall_mem_cons.mpr ⟨lw_p51, List.forall_mem_cons.mpr ⟨lw_p52, List.forall_mem_cons.mpr ⟨lw_p53, List.forall_mem_cons.mpr ⟨lw_p54, fun _ h => absurd h List.not_mem_nil⟩⟩⟩⟩⟩⟩⟩
def lw_privs : List (MethodName × Nat) := lw_privs_1 ++ (lw_privs_2 ++ (lw_privs_3 ++ (lw_privs_4)))
def lw_tbl : List Cond := k2_sels lw_privs ++ tables_1
theorem lw_privs_ok : ∀ q ∈ lw_privs, lw_okq q := by
  show ∀ q ∈ lw_privs_1 ++ (lw_privs_2 ++ (lw_privs_3 ++ (lw_privs_4))), lw_okq q
  exact List.forall_mem_append.mpr ⟨lw_r1, List.forall_mem_append.mpr ⟨lw_r2, List.forall_mem_append.mpr ⟨lw_r3, lw_r4⟩⟩⟩
def RX0 : String := "BentPlain$Ground"
def TX0 : u_T := fun k => match k with
  | 0 => ("BentPlain$Ground", "fields", "I", false)
  | 1 => ("BentPlain$Ground", "walkers", "I", false)
  | 2 => ("BentPlain$Ground", "people", "[LBentPlain$Walker;", true)
  | 3 => ("BentPlain$Ground", "roughs", "[I", true)
  | _ => ("BentPlain$Ground", "glued", "[I", true)
def tyX0 : Nat → FieldType := fun k => match k with
  | 0 => .int
  | 1 => .int
  | 2 => .array (.object "BentPlain$Walker")
  | 3 => .array .int
  | _ => .array .int
theorem nmX0 : ∀ a, a < 5 → ∀ b, b < 5 → a ≠ b → (TX0 a).2.1 ≠ (TX0 b).2.1 := by decide +kernel
theorem tyX0_ok : ∀ k, k < 5 → parseFieldDescriptor (TX0 k).2.2.1 = some (tyX0 k) := by decide +kernel
abbrev cX0_init : ByteArray := prog_2_method_1_code
def yX0_init : MethodName := ⟨RX0, "<init>", "()V"⟩
abbrev cX0_become : ByteArray := prog_2_method_2_code
def yX0_become : MethodName := ⟨RX0, "become", "(LBentPlain$Ground;)V"⟩
abbrev cX0_hasField : ByteArray := prog_2_method_3_code
def yX0_hasField : MethodName := ⟨RX0, "hasField", "(I)Z"⟩
abbrev cX0_hasWay : ByteArray := prog_2_method_4_code
def yX0_hasWay : MethodName := ⟨RX0, "hasWay", "(II)Z"⟩
abbrev cX0_hasWalker : ByteArray := prog_2_method_5_code
def yX0_hasWalker : MethodName := ⟨RX0, "hasWalker", "(I)Z"⟩
abbrev cX0_ways : ByteArray := prog_2_method_6_code
def yX0_ways : MethodName := ⟨RX0, "ways", "()I"⟩
abbrev cX0_addField : ByteArray := prog_2_method_7_code
def yX0_addField : MethodName := ⟨RX0, "addField", "(I)I"⟩
abbrev cX0_addWalker : ByteArray := prog_2_method_8_code
def yX0_addWalker : MethodName := ⟨RX0, "addWalker", "(II)I"⟩
abbrev cX0_roughOf : ByteArray := prog_2_method_9_code
def yX0_roughOf : MethodName := ⟨RX0, "roughOf", "(I)I"⟩
abbrev cX0_makeRough : ByteArray := prog_2_method_10_code
def yX0_makeRough : MethodName := ⟨RX0, "makeRough", "(II)V"⟩
abbrev cX0_gluedTo : ByteArray := prog_2_method_11_code
def yX0_gluedTo : MethodName := ⟨RX0, "gluedTo", "(I)I"⟩
abbrev cX0_isFree : ByteArray := prog_2_method_12_code
def yX0_isFree : MethodName := ⟨RX0, "isFree", "(I)Z"⟩
abbrev cX0_join : ByteArray := prog_2_method_13_code
def yX0_join : MethodName := ⟨RX0, "join", "(II)V"⟩
abbrev cX0_sever : ByteArray := prog_2_method_14_code
def yX0_sever : MethodName := ⟨RX0, "sever", "(I)V"⟩
abbrev cX0_gluedSidesOf : ByteArray := prog_2_method_15_code
def yX0_gluedSidesOf : MethodName := ⟨RX0, "gluedSidesOf", "(I)I"⟩
abbrev cX0_gluedSides : ByteArray := prog_2_method_16_code
def yX0_gluedSides : MethodName := ⟨RX0, "gluedSides", "()I"⟩
abbrev cX0_walkersOn : ByteArray := prog_2_method_17_code
def yX0_walkersOn : MethodName := ⟨RX0, "walkersOn", "(I)I"⟩
abbrev cX0_milesOfAll : ByteArray := prog_2_method_18_code
def yX0_milesOfAll : MethodName := ⟨RX0, "milesOfAll", "()I"⟩
abbrev cX0_goOn : ByteArray := prog_2_method_19_code
def yX0_goOn : MethodName := ⟨RX0, "goOn", "(I)I"⟩
abbrev cX0_goOnOften : ByteArray := prog_2_method_20_code
def yX0_goOnOften : MethodName := ⟨RX0, "goOnOften", "(II)I"⟩
abbrev cX0_seenFrom : ByteArray := prog_2_method_21_code
def yX0_seenFrom : MethodName := ⟨RX0, "seenFrom", "(I)I"⟩
abbrev cX0_roundCorner : ByteArray := prog_2_method_22_code
def yX0_roundCorner : MethodName := ⟨RX0, "roundCorner", "(I)J"⟩
abbrev cX0_sumOfCorners : ByteArray := prog_2_method_23_code
def yX0_sumOfCorners : MethodName := ⟨RX0, "sumOfCorners", "(II)I"⟩
abbrev cX0_spread : ByteArray := prog_2_method_24_code
def yX0_spread : MethodName := ⟨RX0, "spread", "([IIZ)V"⟩
abbrev cX0_spreadTurning : ByteArray := prog_2_method_25_code
def yX0_spreadTurning : MethodName := ⟨RX0, "spreadTurning", "([II)V"⟩
abbrev cX0_lower : ByteArray := prog_2_method_26_code
def yX0_lower : MethodName := ⟨RX0, "lower", "([III)Z"⟩
def RX1 : String := "BentPlain$Sheet"
def TX1 : u_T := fun k => match k with
  | 0 => ("BentPlain$Sheet", "bits", "I", false)
  | 1 => ("BentPlain$Sheet", "size", "I", false)
  | _ => ("BentPlain$Sheet", "numbers", "[J", true)
def tyX1 : Nat → FieldType := fun k => match k with
  | 0 => .int
  | 1 => .int
  | _ => .array .long
theorem nmX1 : ∀ a, a < 3 → ∀ b, b < 3 → a ≠ b → (TX1 a).2.1 ≠ (TX1 b).2.1 := by decide +kernel
theorem tyX1_ok : ∀ k, k < 3 → parseFieldDescriptor (TX1 k).2.2.1 = some (tyX1 k) := by decide +kernel
abbrev cX1_init : ByteArray := prog_3_method_1_code
def yX1_init : MethodName := ⟨RX1, "<init>", "()V"⟩
abbrev cX1_begin : ByteArray := prog_3_method_2_code
def yX1_begin : MethodName := ⟨RX1, "begin", "(II)V"⟩
abbrev cX1_hasRow : ByteArray := prog_3_method_3_code
def yX1_hasRow : MethodName := ⟨RX1, "hasRow", "(II)Z"⟩
abbrev cX1_lowestBits : ByteArray := prog_3_method_4_code
def yX1_lowestBits : MethodName := ⟨RX1, "lowestBits", "(J)J"⟩
def RX2 : String := "BentPlain$Tape"
def TX2 : u_T := fun k => match k with
  | 0 => ("BentPlain$Tape", "length", "I", false)
  | 1 => ("BentPlain$Tape", "sort", "I", false)
  | 2 => ("BentPlain$Tape", "start", "I", false)
  | 3 => ("BentPlain$Tape", "number", "I", false)
  | 4 => ("BentPlain$Tape", "end", "I", false)
  | _ => ("BentPlain$Tape", "bytes", "[I", true)
def tyX2 : Nat → FieldType := fun k => match k with
  | 0 => .int
  | 1 => .int
  | 2 => .int
  | 3 => .int
  | 4 => .int
  | _ => .array .int
theorem nmX2 : ∀ a, a < 6 → ∀ b, b < 6 → a ≠ b → (TX2 a).2.1 ≠ (TX2 b).2.1 := by decide +kernel
theorem tyX2_ok : ∀ k, k < 6 → parseFieldDescriptor (TX2 k).2.2.1 = some (tyX2 k) := by decide +kernel
abbrev cX2_init : ByteArray := prog_4_method_1_code
def yX2_init : MethodName := ⟨RX2, "<init>", "()V"⟩
abbrev cX2_add : ByteArray := prog_4_method_2_code
def yX2_add : MethodName := ⟨RX2, "add", "(I)V"⟩
abbrev cX2_begin : ByteArray := prog_4_method_3_code
def yX2_begin : MethodName := ⟨RX2, "begin", "()V"⟩
abbrev cX2_advance : ByteArray := prog_4_method_4_code
def yX2_advance : MethodName := ⟨RX2, "advance", "()V"⟩
abbrev cX2_isNumberBelow : ByteArray := prog_4_method_5_code
def yX2_isNumberBelow : MethodName := ⟨RX2, "isNumberBelow", "(I)Z"⟩
abbrev cX2_isWord : ByteArray := prog_4_method_6_code
def yX2_isWord : MethodName := ⟨RX2, "isWord", "(Ljava/lang/String;)Z"⟩
abbrev cX2_isLetter : ByteArray := prog_4_method_7_code
def yX2_isLetter : MethodName := ⟨RX2, "isLetter", "(I)Z"⟩
abbrev cX2_isDigit : ByteArray := prog_4_method_8_code
def yX2_isDigit : MethodName := ⟨RX2, "isDigit", "(I)Z"⟩
def RX3 : String := "BentPlain$Teller"
abbrev cX3_tellAll : ByteArray := prog_5_method_2_code
def yX3_tellAll : MethodName := ⟨RX3, "tellAll", "(LBentPlain$Tape;LBentPlain$Ground;)I"⟩
abbrev cX3_tellItem : ByteArray := prog_5_method_3_code
def yX3_tellItem : MethodName := ⟨RX3, "tellItem", "(LBentPlain$Tape;LBentPlain$Ground;)Z"⟩
abbrev cX3_tellField : ByteArray := prog_5_method_4_code
def yX3_tellField : MethodName := ⟨RX3, "tellField", "(LBentPlain$Tape;LBentPlain$Ground;)Z"⟩
abbrev cX3_tellGlue : ByteArray := prog_5_method_5_code
def yX3_tellGlue : MethodName := ⟨RX3, "tellGlue", "(LBentPlain$Tape;LBentPlain$Ground;)Z"⟩
abbrev cX3_tellCut : ByteArray := prog_5_method_6_code
def yX3_tellCut : MethodName := ⟨RX3, "tellCut", "(LBentPlain$Tape;LBentPlain$Ground;)Z"⟩
abbrev cX3_tellWalker : ByteArray := prog_5_method_7_code
def yX3_tellWalker : MethodName := ⟨RX3, "tellWalker", "(LBentPlain$Tape;LBentPlain$Ground;)Z"⟩
abbrev cX3_lookAtSide : ByteArray := prog_5_method_8_code
def yX3_lookAtSide : MethodName := ⟨RX3, "lookAtSide", "(LBentPlain$Tape;LBentPlain$Ground;)I"⟩
abbrev cX3_sideNamed : ByteArray := prog_5_method_9_code
def yX3_sideNamed : MethodName := ⟨RX3, "sideNamed", "(LBentPlain$Tape;)I"⟩
abbrev cX3_kindNamed : ByteArray := prog_5_method_10_code
def yX3_kindNamed : MethodName := ⟨RX3, "kindNamed", "(LBentPlain$Tape;)I"⟩
abbrev cX3_sideName : ByteArray := prog_5_method_11_code
def yX3_sideName : MethodName := ⟨RX3, "sideName", "(I)Ljava/lang/String;"⟩
abbrev cX3_kindName : ByteArray := prog_5_method_12_code
def yX3_kindName : MethodName := ⟨RX3, "kindName", "(I)Ljava/lang/String;"⟩
def RX4 : String := "BentPlain$Walker"
def TX4 : u_T := fun k => match k with
  | 0 => ("BentPlain$Walker", "kind", "I", false)
  | 1 => ("BentPlain$Walker", "way", "I", false)
  | 2 => ("BentPlain$Walker", "miles", "I", false)
  | _ => ("BentPlain$Walker", "bumped", "I", false)
def tyX4 : Nat → FieldType := fun k => match k with
  | 0 => .int
  | 1 => .int
  | 2 => .int
  | _ => .int
theorem nmX4 : ∀ a, a < 4 → ∀ b, b < 4 → a ≠ b → (TX4 a).2.1 ≠ (TX4 b).2.1 := by decide +kernel
theorem tyX4_ok : ∀ k, k < 4 → parseFieldDescriptor (TX4 k).2.2.1 = some (tyX4 k) := by decide +kernel
abbrev cX4_init : ByteArray := prog_6_method_1_code
def yX4_init : MethodName := ⟨RX4, "<init>", "()V"⟩
abbrev cX4_begin : ByteArray := prog_6_method_2_code
def yX4_begin : MethodName := ⟨RX4, "begin", "(II)V"⟩
abbrev cX4_become : ByteArray := prog_6_method_3_code
def yX4_become : MethodName := ⟨RX4, "become", "(LBentPlain$Walker;)V"⟩
abbrev cX4_move : ByteArray := prog_6_method_4_code
def yX4_move : MethodName := ⟨RX4, "move", "(LBentPlain$Ground;)V"⟩
abbrev cX4_moveOften : ByteArray := prog_6_method_5_code
def yX4_moveOften : MethodName := ⟨RX4, "moveOften", "(LBentPlain$Ground;I)V"⟩
abbrev cX4_above : ByteArray := prog_6_method_6_code
def yX4_above : MethodName := ⟨RX4, "above", "(I)I"⟩
abbrev cX4_isUnder : ByteArray := prog_6_method_7_code
def yX4_isUnder : MethodName := ⟨RX4, "isUnder", "(II)Z"⟩
abbrev cX4_payOf : ByteArray := prog_6_method_8_code
def yX4_payOf : MethodName := ⟨RX4, "payOf", "(II)I"⟩
abbrev cX4_quartersOnComing : ByteArray := prog_6_method_9_code
def yX4_quartersOnComing : MethodName := ⟨RX4, "quartersOnComing", "(III)I"⟩
abbrev cX4_quartersAtBump : ByteArray := prog_6_method_10_code
def yX4_quartersAtBump : MethodName := ⟨RX4, "quartersAtBump", "(I)I"⟩
def RX5 : String := "BentPlain"
def TX5 : u_T := fun k => match k with
  | 0 => ("BentPlain", "now", "LBentPlain$Ground;", true)
  | 1 => ("BentPlain", "kept", "LBentPlain$Ground;", true)
  | 2 => ("BentPlain", "before", "LBentPlain$Ground;", true)
  | 3 => ("BentPlain", "probe", "LBentPlain$Walker;", true)
  | 4 => ("BentPlain", "otherProbe", "LBentPlain$Walker;", true)
  | 5 => ("BentPlain", "distances", "[I", true)
  | 6 => ("BentPlain", "otherDistances", "[I", true)
  | 7 => ("BentPlain", "quarters", "[I", true)
  | 8 => ("BentPlain", "tape", "LBentPlain$Tape;", true)
  | 9 => ("BentPlain", "sheets", "[LBentPlain$Sheet;", true)
  | 10 => ("BentPlain", "found", "[I", true)
  | _ => ("BentPlain", "hasKept", "Z", false)
def tyX5 : Nat → FieldType := fun k => match k with
  | 0 => .object "BentPlain$Ground"
  | 1 => .object "BentPlain$Ground"
  | 2 => .object "BentPlain$Ground"
  | 3 => .object "BentPlain$Walker"
  | 4 => .object "BentPlain$Walker"
  | 5 => .array .int
  | 6 => .array .int
  | 7 => .array .int
  | 8 => .object "BentPlain$Tape"
  | 9 => .array (.object "BentPlain$Sheet")
  | 10 => .array .int
  | _ => .boolean
theorem nmX5 : ∀ a, a < 12 → ∀ b, b < 12 → a ≠ b → (TX5 a).2.1 ≠ (TX5 b).2.1 := by decide +kernel
theorem tyX5_ok : ∀ k, k < 12 → parseFieldDescriptor (TX5 k).2.2.1 = some (tyX5 k) := by decide +kernel
abbrev cX5_init : ByteArray := prog_1_method_1_code
def yX5_init : MethodName := ⟨RX5, "<init>", "()V"⟩
abbrev cX5_field : ByteArray := prog_1_method_2_code
def yX5_field : MethodName := ⟨RX5, "field", "(I)I"⟩
abbrev cX5_of : ByteArray := prog_1_method_3_code
def yX5_of : MethodName := ⟨RX5, "of", "(II)I"⟩
abbrev cX5_rough : ByteArray := prog_1_method_4_code
def yX5_rough : MethodName := ⟨RX5, "rough", "(II)I"⟩
abbrev cX5_glue : ByteArray := prog_1_method_5_code
def yX5_glue : MethodName := ⟨RX5, "glue", "(IIII)I"⟩
abbrev cX5_cut : ByteArray := prog_1_method_6_code
def yX5_cut : MethodName := ⟨RX5, "cut", "(II)I"⟩
abbrev cX5_over : ByteArray := prog_1_method_7_code
def yX5_over : MethodName := ⟨RX5, "over", "(II)I"⟩
abbrev cX5_walker : ByteArray := prog_1_method_8_code
def yX5_walker : MethodName := ⟨RX5, "walker", "(III)I"⟩
abbrev cX5_its : ByteArray := prog_1_method_9_code
def yX5_its : MethodName := ⟨RX5, "its", "(II)I"⟩
abbrev cX5_place : ByteArray := prog_1_method_10_code
def yX5_place : MethodName := ⟨RX5, "place", "(III)I"⟩
abbrev cX5_turn : ByteArray := prog_1_method_11_code
def yX5_turn : MethodName := ⟨RX5, "turn", "(II)I"⟩
abbrev cX5_as : ByteArray := prog_1_method_12_code
def yX5_as : MethodName := ⟨RX5, "as", "(II)I"⟩
abbrev cX5_step : ByteArray := prog_1_method_13_code
def yX5_step : MethodName := ⟨RX5, "step", "(I)I"⟩
abbrev cX5_steps : ByteArray := prog_1_method_14_code
def yX5_steps : MethodName := ⟨RX5, "steps", "(I)I"⟩
abbrev cX5_on : ByteArray := prog_1_method_15_code
def yX5_on : MethodName := ⟨RX5, "on", "(III)I"⟩
abbrev cX5_when : ByteArray := prog_1_method_16_code
def yX5_when : MethodName := ⟨RX5, "when", "(II)I"⟩
abbrev cX5_back : ByteArray := prog_1_method_17_code
def yX5_back : MethodName := ⟨RX5, "back", "(I)I"⟩
abbrev cX5_meet : ByteArray := prog_1_method_18_code
def yX5_meet : MethodName := ⟨RX5, "meet", "(II)I"⟩
abbrev cX5_spares : ByteArray := prog_1_method_19_code
def yX5_spares : MethodName := ⟨RX5, "spares", "(I)I"⟩
abbrev cX5_closes : ByteArray := prog_1_method_20_code
def yX5_closes : MethodName := ⟨RX5, "closes", "(II)I"⟩
abbrev cX5_bumps : ByteArray := prog_1_method_21_code
def yX5_bumps : MethodName := ⟨RX5, "bumps", "(II)I"⟩
abbrev cX5_square : ByteArray := prog_1_method_22_code
def yX5_square : MethodName := ⟨RX5, "square", "(III)I"⟩
abbrev cX5_dine : ByteArray := prog_1_method_23_code
def yX5_dine : MethodName := ⟨RX5, "dine", "(IIII)I"⟩
abbrev cX5_sees : ByteArray := prog_1_method_24_code
def yX5_sees : MethodName := ⟨RX5, "sees", "(II)I"⟩
abbrev cX5_twice : ByteArray := prog_1_method_25_code
def yX5_twice : MethodName := ⟨RX5, "twice", "(I)I"⟩
abbrev cX5_about : ByteArray := prog_1_method_26_code
def yX5_about : MethodName := ⟨RX5, "about", "(II)I"⟩
abbrev cX5_corners : ByteArray := prog_1_method_27_code
def yX5_corners : MethodName := ⟨RX5, "corners", "()I"⟩
abbrev cX5_excess : ByteArray := prog_1_method_28_code
def yX5_excess : MethodName := ⟨RX5, "excess", "()I"⟩
abbrev cX5_bent : ByteArray := prog_1_method_29_code
def yX5_bent : MethodName := ⟨RX5, "bent", "()I"⟩
abbrev cX5_parts : ByteArray := prog_1_method_30_code
def yX5_parts : MethodName := ⟨RX5, "parts", "()I"⟩
abbrev cX5_far : ByteArray := prog_1_method_31_code
def yX5_far : MethodName := ⟨RX5, "far", "(II)I"⟩
abbrev cX5_smooth : ByteArray := prog_1_method_32_code
def yX5_smooth : MethodName := ⟨RX5, "smooth", "(II)I"⟩
abbrev cX5_turns : ByteArray := prog_1_method_33_code
def yX5_turns : MethodName := ⟨RX5, "turns", "(III)I"⟩
abbrev cX5_within : ByteArray := prog_1_method_34_code
def yX5_within : MethodName := ⟨RX5, "within", "(II)I"⟩
abbrev cX5_mends : ByteArray := prog_1_method_35_code
def yX5_mends : MethodName := ⟨RX5, "mends", "(II)I"⟩
abbrev cX5_feed : ByteArray := prog_1_method_36_code
def yX5_feed : MethodName := ⟨RX5, "feed", "(II)I"⟩
abbrev cX5_wipe : ByteArray := prog_1_method_37_code
def yX5_wipe : MethodName := ⟨RX5, "wipe", "()I"⟩
abbrev cX5_plain : ByteArray := prog_1_method_38_code
def yX5_plain : MethodName := ⟨RX5, "plain", "()I"⟩
abbrev cX5_sheet : ByteArray := prog_1_method_39_code
def yX5_sheet : MethodName := ⟨RX5, "sheet", "(III)I"⟩
abbrev cX5_write : ByteArray := prog_1_method_40_code
def yX5_write : MethodName := ⟨RX5, "write", "(IIJ)J"⟩
abbrev cX5_copy : ByteArray := prog_1_method_41_code
def yX5_copy : MethodName := ⟨RX5, "copy", "(IIIII)I"⟩
abbrev cX5_lays : ByteArray := prog_1_method_42_code
def yX5_lays : MethodName := ⟨RX5, "lays", "(I)I"⟩
abbrev cX5_book : ByteArray := prog_1_method_43_code
def yX5_book : MethodName := ⟨RX5, "book", "(II)I"⟩
abbrev cX5_read : ByteArray := prog_1_method_44_code
def yX5_read : MethodName := ⟨RX5, "read", "(II)I"⟩
abbrev cX5_image : ByteArray := prog_1_method_45_code
def yX5_image : MethodName := ⟨RX5, "image", "()I"⟩
abbrev cX5_undo : ByteArray := prog_1_method_46_code
def yX5_undo : MethodName := ⟨RX5, "undo", "()I"⟩
abbrev cX5_tear : ByteArray := prog_1_method_47_code
def yX5_tear : MethodName := ⟨RX5, "tear", "()I"⟩
abbrev cX5_count : ByteArray := prog_1_method_48_code
def yX5_count : MethodName := ⟨RX5, "count", "(I)I"⟩
abbrev cX5_status : ByteArray := prog_1_method_49_code
def yX5_status : MethodName := ⟨RX5, "status", "(I)I"⟩
abbrev cX5_tell : ByteArray := prog_1_method_50_code
def yX5_tell : MethodName := ⟨RX5, "tell", "(I)I"⟩
abbrev cX5_numberOrNone : ByteArray := prog_1_method_51_code
def yX5_numberOrNone : MethodName := ⟨RX5, "numberOrNone", "(I)I"⟩
abbrev cX5_least : ByteArray := prog_1_method_52_code
def yX5_least : MethodName := ⟨RX5, "least", "(IIZ)I"⟩
abbrev cX5_reached : ByteArray := prog_1_method_53_code
def yX5_reached : MethodName := ⟨RX5, "reached", "(I)I"⟩
abbrev cX5_farThrough : ByteArray := prog_1_method_54_code
def yX5_farThrough : MethodName := ⟨RX5, "farThrough", "(II)I"⟩
abbrev cX5_sheetFinding : ByteArray := prog_1_method_55_code
def yX5_sheetFinding : MethodName := ⟨RX5, "sheetFinding", "(I)I"⟩
abbrev cX5_bookFinding : ByteArray := prog_1_method_56_code
def yX5_bookFinding : MethodName := ⟨RX5, "bookFinding", "(II)I"⟩
abbrev cX5_goesByBook : ByteArray := prog_1_method_57_code
def yX5_goesByBook : MethodName := ⟨RX5, "goesByBook", "(LBentPlain$Sheet;)Z"⟩
abbrev cX5_isRough : ByteArray := prog_1_method_58_code
def yX5_isRough : MethodName := ⟨RX5, "isRough", "(I)Z"⟩
abbrev cX5_isKind : ByteArray := prog_1_method_59_code
def yX5_isKind : MethodName := ⟨RX5, "isKind", "(I)Z"⟩
abbrev cX5_isSheet : ByteArray := prog_1_method_60_code
def yX5_isSheet : MethodName := ⟨RX5, "isSheet", "(I)Z"⟩
abbrev cX5_isStepsOn : ByteArray := prog_1_method_61_code
def yX5_isStepsOn : MethodName := ⟨RX5, "isStepsOn", "(I)Z"⟩
abbrev cX5_wayOf : ByteArray := prog_1_method_62_code
def yX5_wayOf : MethodName := ⟨RX5, "wayOf", "(II)I"⟩
abbrev cX5_fieldOf : ByteArray := prog_1_method_63_code
def yX5_fieldOf : MethodName := ⟨RX5, "fieldOf", "(I)I"⟩
abbrev cX5_headingOf : ByteArray := prog_1_method_64_code
def yX5_headingOf : MethodName := ⟨RX5, "headingOf", "(I)I"⟩
abbrev cX5_turned : ByteArray := prog_1_method_65_code
def yX5_turned : MethodName := ⟨RX5, "turned", "(II)I"⟩
def RX6 : String := "BentPlainModel"
def TX6 : u_T := fun k => match k with
  | 0 => ("BentPlainModel", "s", "[I", true)
  | 1 => ("BentPlainModel", "keptS", "[I", true)
  | 2 => ("BentPlainModel", "other", "[I", true)
  | 3 => ("BentPlainModel", "aside", "[I", true)
  | 4 => ("BentPlainModel", "statuses", "[I", true)
  | 5 => ("BentPlainModel", "isKept", "Z", false)
  | 6 => ("BentPlainModel", "least", "[I", true)
  | 7 => ("BentPlainModel", "tape", "[I", true)
  | 8 => ("BentPlainModel", "taped", "I", false)
  | 9 => ("BentPlainModel", "from", "I", false)
  | 10 => ("BentPlainModel", "to", "I", false)
  | 11 => ("BentPlainModel", "value", "I", false)
  | 12 => ("BentPlainModel", "isWrong", "Z", false)
  | 13 => ("BentPlainModel", "bitsOf", "[I", true)
  | 14 => ("BentPlainModel", "sizeOf", "[I", true)
  | 15 => ("BentPlainModel", "numbers", "[J", true)
  | _ => ("BentPlainModel", "moved", "[J", true)
def tyX6 : Nat → FieldType := fun k => match k with
  | 0 => .array .int
  | 1 => .array .int
  | 2 => .array .int
  | 3 => .array .int
  | 4 => .array .int
  | 5 => .boolean
  | 6 => .array .int
  | 7 => .array .int
  | 8 => .int
  | 9 => .int
  | 10 => .int
  | 11 => .int
  | 12 => .boolean
  | 13 => .array .int
  | 14 => .array .int
  | 15 => .array .long
  | _ => .array .long
theorem nmX6 : ∀ a, a < 17 → ∀ b, b < 17 → a ≠ b → (TX6 a).2.1 ≠ (TX6 b).2.1 := by decide +kernel
theorem tyX6_ok : ∀ k, k < 17 → parseFieldDescriptor (TX6 k).2.2.1 = some (tyX6 k) := by decide +kernel
abbrev cX6_init : ByteArray := prog_8_method_1_code
def yX6_init : MethodName := ⟨RX6, "<init>", "()V"⟩
abbrev cX6_in : ByteArray := prog_8_method_2_code
def yX6_in : MethodName := ⟨RX6, "in", "(JJJ)Z"⟩
abbrev cX6_finds : ByteArray := prog_8_method_3_code
def yX6_finds : MethodName := ⟨RX6, "finds", "(I)I"⟩
abbrev cX6_saves : ByteArray := prog_8_method_4_code
def yX6_saves : MethodName := ⟨RX6, "saves", "()V"⟩
abbrev cX6_putsBack : ByteArray := prog_8_method_5_code
def yX6_putsBack : MethodName := ⟨RX6, "putsBack", "()V"⟩
abbrev cX6_laysAside : ByteArray := prog_8_method_6_code
def yX6_laysAside : MethodName := ⟨RX6, "laysAside", "()V"⟩
abbrev cX6_takesBack : ByteArray := prog_8_method_7_code
def yX6_takesBack : MethodName := ⟨RX6, "takesBack", "(I)I"⟩
abbrev cX6_becomes : ByteArray := prog_8_method_8_code
def yX6_becomes : MethodName := ⟨RX6, "becomes", "(II)I"⟩
abbrev cX6_isField : ByteArray := prog_8_method_9_code
def yX6_isField : MethodName := ⟨RX6, "isField", "(I)Z"⟩
abbrev cX6_isSide : ByteArray := prog_8_method_10_code
def yX6_isSide : MethodName := ⟨RX6, "isSide", "(I)Z"⟩
abbrev cX6_isKind : ByteArray := prog_8_method_11_code
def yX6_isKind : MethodName := ⟨RX6, "isKind", "(I)Z"⟩
abbrev cX6_isWay : ByteArray := prog_8_method_12_code
def yX6_isWay : MethodName := ⟨RX6, "isWay", "(II)Z"⟩
abbrev cX6_isWalker : ByteArray := prog_8_method_13_code
def yX6_isWalker : MethodName := ⟨RX6, "isWalker", "(I)Z"⟩
abbrev cX6_spot : ByteArray := prog_8_method_14_code
def yX6_spot : MethodName := ⟨RX6, "spot", "(II)I"⟩
abbrev cX6_partOf : ByteArray := prog_8_method_15_code
def yX6_partOf : MethodName := ⟨RX6, "partOf", "(II)I"⟩
abbrev cX6_wayOf : ByteArray := prog_8_method_16_code
def yX6_wayOf : MethodName := ⟨RX6, "wayOf", "(I)I"⟩
abbrev cX6_adds : ByteArray := prog_8_method_17_code
def yX6_adds : MethodName := ⟨RX6, "adds", "(I)I"⟩
abbrev cX6_field : ByteArray := prog_8_method_18_code
def yX6_field : MethodName := ⟨RX6, "field", "(I)I"⟩
abbrev cX6_gluedOf : ByteArray := prog_8_method_19_code
def yX6_gluedOf : MethodName := ⟨RX6, "gluedOf", "(I)I"⟩
abbrev cX6_those : ByteArray := prog_8_method_20_code
def yX6_those : MethodName := ⟨RX6, "those", "(I)I"⟩
abbrev cX6_of : ByteArray := prog_8_method_21_code
def yX6_of : MethodName := ⟨RX6, "of", "(II)I"⟩
abbrev cX6_rough : ByteArray := prog_8_method_22_code
def yX6_rough : MethodName := ⟨RX6, "rough", "(II)I"⟩
abbrev cX6_glues : ByteArray := prog_8_method_23_code
def yX6_glues : MethodName := ⟨RX6, "glues", "(II)V"⟩
abbrev cX6_cuts : ByteArray := prog_8_method_24_code
def yX6_cuts : MethodName := ⟨RX6, "cuts", "(I)V"⟩
abbrev cX6_glue : ByteArray := prog_8_method_25_code
def yX6_glue : MethodName := ⟨RX6, "glue", "(IIII)I"⟩
abbrev cX6_cut : ByteArray := prog_8_method_26_code
def yX6_cut : MethodName := ⟨RX6, "cut", "(II)I"⟩
abbrev cX6_over : ByteArray := prog_8_method_27_code
def yX6_over : MethodName := ⟨RX6, "over", "(II)I"⟩
abbrev cX6_onward : ByteArray := prog_8_method_28_code
def yX6_onward : MethodName := ⟨RX6, "onward", "(I)I"⟩
abbrev cX6_walker : ByteArray := prog_8_method_29_code
def yX6_walker : MethodName := ⟨RX6, "walker", "(III)I"⟩
abbrev cX6_comes : ByteArray := prog_8_method_30_code
def yX6_comes : MethodName := ⟨RX6, "comes", "(III)I"⟩
abbrev cX6_pays : ByteArray := prog_8_method_31_code
def yX6_pays : MethodName := ⟨RX6, "pays", "(II)I"⟩
abbrev cX6_quarters : ByteArray := prog_8_method_32_code
def yX6_quarters : MethodName := ⟨RX6, "quarters", "(III)I"⟩
abbrev cX6_atBump : ByteArray := prog_8_method_33_code
def yX6_atBump : MethodName := ⟨RX6, "atBump", "(I)I"⟩
abbrev cX6_goes : ByteArray := prog_8_method_34_code
def yX6_goes : MethodName := ⟨RX6, "goes", "(I)V"⟩
abbrev cX6_its : ByteArray := prog_8_method_35_code
def yX6_its : MethodName := ⟨RX6, "its", "(II)I"⟩
abbrev cX6_stands : ByteArray := prog_8_method_36_code
def yX6_stands : MethodName := ⟨RX6, "stands", "(II)V"⟩
abbrev cX6_place : ByteArray := prog_8_method_37_code
def yX6_place : MethodName := ⟨RX6, "place", "(III)I"⟩
abbrev cX6_turn : ByteArray := prog_8_method_38_code
def yX6_turn : MethodName := ⟨RX6, "turn", "(II)I"⟩
abbrev cX6_above : ByteArray := prog_8_method_39_code
def yX6_above : MethodName := ⟨RX6, "above", "(I)I"⟩
abbrev cX6_as : ByteArray := prog_8_method_40_code
def yX6_as : MethodName := ⟨RX6, "as", "(II)I"⟩
abbrev cX6_step : ByteArray := prog_8_method_41_code
def yX6_step : MethodName := ⟨RX6, "step", "(I)I"⟩
abbrev cX6_allMiles : ByteArray := prog_8_method_42_code
def yX6_allMiles : MethodName := ⟨RX6, "allMiles", "()I"⟩
abbrev cX6_all : ByteArray := prog_8_method_43_code
def yX6_all : MethodName := ⟨RX6, "all", "()V"⟩
abbrev cX6_steps : ByteArray := prog_8_method_44_code
def yX6_steps : MethodName := ⟨RX6, "steps", "(I)I"⟩
abbrev cX6_on : ByteArray := prog_8_method_45_code
def yX6_on : MethodName := ⟨RX6, "on", "(III)I"⟩
abbrev cX6_orNone : ByteArray := prog_8_method_46_code
def yX6_orNone : MethodName := ⟨RX6, "orNone", "(II)I"⟩
abbrev cX6_when : ByteArray := prog_8_method_47_code
def yX6_when : MethodName := ⟨RX6, "when", "(II)I"⟩
abbrev cX6_back : ByteArray := prog_8_method_48_code
def yX6_back : MethodName := ⟨RX6, "back", "(I)I"⟩
abbrev cX6_meet : ByteArray := prog_8_method_49_code
def yX6_meet : MethodName := ⟨RX6, "meet", "(II)I"⟩
abbrev cX6_spares : ByteArray := prog_8_method_50_code
def yX6_spares : MethodName := ⟨RX6, "spares", "(I)I"⟩
abbrev cX6_closes : ByteArray := prog_8_method_51_code
def yX6_closes : MethodName := ⟨RX6, "closes", "(II)I"⟩
abbrev cX6_bumps : ByteArray := prog_8_method_52_code
def yX6_bumps : MethodName := ⟨RX6, "bumps", "(II)I"⟩
abbrev cX6_square : ByteArray := prog_8_method_53_code
def yX6_square : MethodName := ⟨RX6, "square", "(III)I"⟩
abbrev cX6_dine : ByteArray := prog_8_method_54_code
def yX6_dine : MethodName := ⟨RX6, "dine", "(IIII)I"⟩
abbrev cX6_seen : ByteArray := prog_8_method_55_code
def yX6_seen : MethodName := ⟨RX6, "seen", "(I)I"⟩
abbrev cX6_sees : ByteArray := prog_8_method_56_code
def yX6_sees : MethodName := ⟨RX6, "sees", "(II)I"⟩
abbrev cX6_ones : ByteArray := prog_8_method_57_code
def yX6_ones : MethodName := ⟨RX6, "ones", "(I)I"⟩
abbrev cX6_twice : ByteArray := prog_8_method_58_code
def yX6_twice : MethodName := ⟨RX6, "twice", "(I)I"⟩
abbrev cX6_beside : ByteArray := prog_8_method_59_code
def yX6_beside : MethodName := ⟨RX6, "beside", "(I)I"⟩
abbrev cX6_aboutOf : ByteArray := prog_8_method_60_code
def yX6_aboutOf : MethodName := ⟨RX6, "aboutOf", "(I)I"⟩
abbrev cX6_isFirst : ByteArray := prog_8_method_61_code
def yX6_isFirst : MethodName := ⟨RX6, "isFirst", "(I)Z"⟩
abbrev cX6_about : ByteArray := prog_8_method_62_code
def yX6_about : MethodName := ⟨RX6, "about", "(II)I"⟩
abbrev cX6_corners : ByteArray := prog_8_method_63_code
def yX6_corners : MethodName := ⟨RX6, "corners", "()I"⟩
abbrev cX6_excess : ByteArray := prog_8_method_64_code
def yX6_excess : MethodName := ⟨RX6, "excess", "()I"⟩
abbrev cX6_bent : ByteArray := prog_8_method_65_code
def yX6_bent : MethodName := ⟨RX6, "bent", "()I"⟩
abbrev cX6_spread : ByteArray := prog_8_method_66_code
def yX6_spread : MethodName := ⟨RX6, "spread", "(I)I"⟩
abbrev cX6_parts : ByteArray := prog_8_method_67_code
def yX6_parts : MethodName := ⟨RX6, "parts", "()I"⟩
abbrev cX6_farOf : ByteArray := prog_8_method_68_code
def yX6_farOf : MethodName := ⟨RX6, "farOf", "(II)I"⟩
abbrev cX6_far : ByteArray := prog_8_method_69_code
def yX6_far : MethodName := ⟨RX6, "far", "(II)I"⟩
abbrev cX6_smooth : ByteArray := prog_8_method_70_code
def yX6_smooth : MethodName := ⟨RX6, "smooth", "(II)I"⟩
abbrev cX6_turns : ByteArray := prog_8_method_71_code
def yX6_turns : MethodName := ⟨RX6, "turns", "(III)I"⟩
abbrev cX6_within : ByteArray := prog_8_method_72_code
def yX6_within : MethodName := ⟨RX6, "within", "(II)I"⟩
abbrev cX6_mends : ByteArray := prog_8_method_73_code
def yX6_mends : MethodName := ⟨RX6, "mends", "(II)I"⟩
abbrev cX6_feed : ByteArray := prog_8_method_74_code
def yX6_feed : MethodName := ⟨RX6, "feed", "(II)I"⟩
abbrev cX6_wipe : ByteArray := prog_8_method_75_code
def yX6_wipe : MethodName := ⟨RX6, "wipe", "()I"⟩
abbrev cX6_byteAt : ByteArray := prog_8_method_76_code
def yX6_byteAt : MethodName := ⟨RX6, "byteAt", "(I)I"⟩
abbrev cX6_isLetter : ByteArray := prog_8_method_77_code
def yX6_isLetter : MethodName := ⟨RX6, "isLetter", "(I)Z"⟩
abbrev cX6_isDigit : ByteArray := prog_8_method_78_code
def yX6_isDigit : MethodName := ⟨RX6, "isDigit", "(I)Z"⟩
abbrev cX6_token : ByteArray := prog_8_method_79_code
def yX6_token : MethodName := ⟨RX6, "token", "()V"⟩
abbrev cX6_wants : ByteArray := prog_8_method_80_code
def yX6_wants : MethodName := ⟨RX6, "wants", "(Z)V"⟩
abbrev cX6_word : ByteArray := prog_8_method_81_code
def yX6_word : MethodName := ⟨RX6, "word", "()J"⟩
abbrev cX6_number : ByteArray := prog_8_method_82_code
def yX6_number : MethodName := ⟨RX6, "number", "(II)V"⟩
abbrev cX6_kindHere : ByteArray := prog_8_method_83_code
def yX6_kindHere : MethodName := ⟨RX6, "kindHere", "()I"⟩
abbrev cX6_fieldHere : ByteArray := prog_8_method_84_code
def yX6_fieldHere : MethodName := ⟨RX6, "fieldHere", "()V"⟩
abbrev cX6_sideNamed : ByteArray := prog_8_method_85_code
def yX6_sideNamed : MethodName := ⟨RX6, "sideNamed", "()I"⟩
abbrev cX6_sideHere : ByteArray := prog_8_method_86_code
def yX6_sideHere : MethodName := ⟨RX6, "sideHere", "(IZI)I"⟩
abbrev cX6_fieldItem : ByteArray := prog_8_method_87_code
def yX6_fieldItem : MethodName := ⟨RX6, "fieldItem", "()V"⟩
abbrev cX6_glueItem : ByteArray := prog_8_method_88_code
def yX6_glueItem : MethodName := ⟨RX6, "glueItem", "()V"⟩
abbrev cX6_cutItem : ByteArray := prog_8_method_89_code
def yX6_cutItem : MethodName := ⟨RX6, "cutItem", "()V"⟩
abbrev cX6_walkerItem : ByteArray := prog_8_method_90_code
def yX6_walkerItem : MethodName := ⟨RX6, "walkerItem", "(I)V"⟩
abbrev cX6_item : ByteArray := prog_8_method_91_code
def yX6_item : MethodName := ⟨RX6, "item", "()V"⟩
abbrev cX6_plain : ByteArray := prog_8_method_92_code
def yX6_plain : MethodName := ⟨RX6, "plain", "()I"⟩
abbrev cX6_isOne : ByteArray := prog_8_method_93_code
def yX6_isOne : MethodName := ⟨RX6, "isOne", "(I)Z"⟩
abbrev cX6_sheet : ByteArray := prog_8_method_94_code
def yX6_sheet : MethodName := ⟨RX6, "sheet", "(III)I"⟩
abbrev cX6_narrowed : ByteArray := prog_8_method_95_code
def yX6_narrowed : MethodName := ⟨RX6, "narrowed", "(IJ)J"⟩
abbrev cX6_wrong : ByteArray := prog_8_method_96_code
def yX6_wrong : MethodName := ⟨RX6, "wrong", "(I)I"⟩
abbrev cX6_write : ByteArray := prog_8_method_97_code
def yX6_write : MethodName := ⟨RX6, "write", "(IIJ)J"⟩
abbrev cX6_copy : ByteArray := prog_8_method_98_code
def yX6_copy : MethodName := ⟨RX6, "copy", "(IIIII)I"⟩
abbrev cX6_lays : ByteArray := prog_8_method_99_code
def yX6_lays : MethodName := ⟨RX6, "lays", "(I)I"⟩
abbrev cX6_wrongBook : ByteArray := prog_8_method_100_code
def yX6_wrongBook : MethodName := ⟨RX6, "wrongBook", "(II)I"⟩
abbrev cX6_book : ByteArray := prog_8_method_101_code
def yX6_book : MethodName := ⟨RX6, "book", "(II)I"⟩
abbrev cX6_isSo : ByteArray := prog_8_method_102_code
def yX6_isSo : MethodName := ⟨RX6, "isSo", "(II)I"⟩
abbrev cX6_read : ByteArray := prog_8_method_103_code
def yX6_read : MethodName := ⟨RX6, "read", "(II)I"⟩
abbrev cX6_image : ByteArray := prog_8_method_104_code
def yX6_image : MethodName := ⟨RX6, "image", "()I"⟩
abbrev cX6_undo : ByteArray := prog_8_method_105_code
def yX6_undo : MethodName := ⟨RX6, "undo", "()I"⟩
abbrev cX6_tear : ByteArray := prog_8_method_106_code
def yX6_tear : MethodName := ⟨RX6, "tear", "()I"⟩
abbrev cX6_gluedSides : ByteArray := prog_8_method_107_code
def yX6_gluedSides : MethodName := ⟨RX6, "gluedSides", "()I"⟩
abbrev cX6_count : ByteArray := prog_8_method_108_code
def yX6_count : MethodName := ⟨RX6, "count", "(I)I"⟩
abbrev cX6_status : ByteArray := prog_8_method_109_code
def yX6_status : MethodName := ⟨RX6, "status", "(I)I"⟩
def RJ6 : String := "java/lang/Integer"
abbrev cJ6_bitCount_0f7a4 : ByteArray := prog_9_method_49_code
def yJ6_bitCount_0f7a4 : MethodName := ⟨RJ6, "bitCount", "(I)I"⟩
def RJ13 : String := "java/lang/Long"
abbrev cJ13_bitCount_95d88 : ByteArray := prog_10_method_50_code
def yJ13_bitCount_95d88 : MethodName := ⟨RJ13, "bitCount", "(J)I"⟩
def RJ9 : String := "java/lang/Math"
abbrev cJ9_min_7cf53 : ByteArray := prog_11_method_69_code
def yJ9_min_7cf53 : MethodName := ⟨RJ9, "min", "(II)I"⟩
def RJ0 : String := "java/lang/String"
abbrev cJ0_length_8abf5 : ByteArray := prog_12_method_54_code
def yJ0_length_8abf5 : MethodName := ⟨RJ0, "length", "()I"⟩
abbrev cJ0_charAt_5068e : ByteArray := prog_12_method_56_code
def yJ0_charAt_5068e : MethodName := ⟨RJ0, "charAt", "(I)C"⟩
abbrev cJ0_coder_7d493 : ByteArray := prog_12_method_152_code
def yJ0_coder_7d493 : MethodName := ⟨RJ0, "coder", "()B"⟩
abbrev cJ0_isLatin1_aae02 : ByteArray := prog_12_method_154_code
def yJ0_isLatin1_aae02 : MethodName := ⟨RJ0, "isLatin1", "()Z"⟩
abbrev cJ0_checkIndex_df160 : ByteArray := prog_12_method_155_code
def yJ0_checkIndex_df160 : MethodName := ⟨RJ0, "checkIndex", "(II)V"⟩
def RJ1 : String := "java/lang/StringLatin1"
abbrev cJ1_charAt_3b067 : ByteArray := prog_13_method_2_code
def yJ1_charAt_3b067 : MethodName := ⟨RJ1, "charAt", "([BI)C"⟩
def RJ2 : String := "java/lang/StringUTF16"
abbrev cJ2_getChar_3b067 : ByteArray := prog_14_method_5_code
def yJ2_getChar_3b067 : MethodName := ⟨RJ2, "getChar", "([BI)C"⟩
abbrev cJ2_length_9d52b : ByteArray := prog_14_method_6_code
def yJ2_length_9d52b : MethodName := ⟨RJ2, "length", "([B)I"⟩
abbrev cJ2_charAt_3b067 : ByteArray := prog_14_method_83_code
def yJ2_charAt_3b067 : MethodName := ⟨RJ2, "charAt", "([BI)C"⟩
abbrev cJ2_checkIndex_2214a : ByteArray := prog_14_method_91_code
def yJ2_checkIndex_2214a : MethodName := ⟨RJ2, "checkIndex", "(I[B)V"⟩
def RJ10 : String := "java/lang/System"
def RJ7 : String := "java/util/Arrays"
abbrev cJ7_fill_d0a16 : ByteArray := prog_16_method_101_code
def yJ7_fill_d0a16 : MethodName := ⟨RJ7, "fill", "([JJ)V"⟩
abbrev cJ7_fill_53178 : ByteArray := prog_16_method_103_code
def yJ7_fill_53178 : MethodName := ⟨RJ7, "fill", "([II)V"⟩
def RJ3 : String := "jdk/internal/util/Preconditions"
abbrev cJ3_checkIndex_8e157 : ByteArray := prog_17_method_11_code
def yJ3_checkIndex_8e157 : MethodName := ⟨RJ3, "checkIndex", "(IILjava/util/function/BiFunction;)I"⟩
def RL : String := "BentPlainLaw"
abbrev cL_law : ByteArray := code
def yL_law : MethodName := ⟨RL, "law", "([I)Z"⟩
abbrev vwCl : List vw_C := [(RX0, TX0, 5), (RX1, TX1, 3), (RX2, TX2, 6), (RX4, TX4, 4), (RX5, TX5, 12), (RX6, TX6, 17)]
