theorem dX6_init_0 : decode cX6_init 0 = .ok (.aload_n 0, 1) := by decide +kernel
theorem dX6_init_1 : decode cX6_init 1 = .ok (.invokespecial 1, 3) := by decide +kernel
theorem dX6_init_4 : decode cX6_init 4 = .ok (.aload_n 0, 1) := by decide +kernel
theorem dX6_init_5 : decode cX6_init 5 = .ok (.bipush 112, 2) := by decide +kernel
theorem dX6_init_7 : decode cX6_init 7 = .ok (.newarray .int, 2) := by decide +kernel
theorem dX6_init_9 : decode cX6_init 9 = .ok (.putfield 7, 3) := by decide +kernel
theorem dX6_init_12 : decode cX6_init 12 = .ok (.aload_n 0, 1) := by decide +kernel
theorem dX6_init_13 : decode cX6_init 13 = .ok (.bipush 112, 2) := by decide +kernel
theorem dX6_init_15 : decode cX6_init 15 = .ok (.newarray .int, 2) := by decide +kernel
theorem dX6_init_17 : decode cX6_init 17 = .ok (.putfield 13, 3) := by decide +kernel
theorem dX6_init_20 : decode cX6_init 20 = .ok (.aload_n 0, 1) := by decide +kernel
theorem dX6_init_21 : decode cX6_init 21 = .ok (.bipush 112, 2) := by decide +kernel
theorem dX6_init_23 : decode cX6_init 23 = .ok (.newarray .int, 2) := by decide +kernel
theorem dX6_init_25 : decode cX6_init 25 = .ok (.putfield 16, 3) := by decide +kernel
theorem dX6_init_28 : decode cX6_init 28 = .ok (.aload_n 0, 1) := by decide +kernel
theorem dX6_init_29 : decode cX6_init 29 = .ok (.bipush 112, 2) := by decide +kernel
theorem dX6_init_31 : decode cX6_init 31 = .ok (.newarray .int, 2) := by decide +kernel
theorem dX6_init_33 : decode cX6_init 33 = .ok (.putfield 19, 3) := by decide +kernel
theorem dX6_init_36 : decode cX6_init 36 = .ok (.aload_n 0, 1) := by decide +kernel
theorem dX6_init_37 : decode cX6_init 37 = .ok (.bipush 7, 2) := by decide +kernel
theorem dX6_init_39 : decode cX6_init 39 = .ok (.newarray .int, 2) := by decide +kernel
theorem dX6_init_41 : decode cX6_init 41 = .ok (.putfield 22, 3) := by decide +kernel
theorem dX6_init_44 : decode cX6_init 44 = .ok (.aload_n 0, 1) := by decide +kernel
theorem dX6_init_45 : decode cX6_init 45 = .ok (.bipush 64, 2) := by decide +kernel
theorem dX6_init_47 : decode cX6_init 47 = .ok (.newarray .int, 2) := by decide +kernel
theorem dX6_init_49 : decode cX6_init 49 = .ok (.putfield 25, 3) := by decide +kernel
theorem dX6_init_52 : decode cX6_init 52 = .ok (.aload_n 0, 1) := by decide +kernel
theorem dX6_init_53 : decode cX6_init 53 = .ok (.bipush 120, 2) := by decide +kernel
theorem dX6_init_55 : decode cX6_init 55 = .ok (.newarray .int, 2) := by decide +kernel
theorem dX6_init_57 : decode cX6_init 57 = .ok (.putfield 28, 3) := by decide +kernel
theorem dX6_init_60 : decode cX6_init 60 = .ok (.aload_n 0, 1) := by decide +kernel
theorem dX6_init_61 : decode cX6_init 61 = .ok (.iconst 4, 1) := by decide +kernel
theorem dX6_init_62 : decode cX6_init 62 = .ok (.newarray .int, 2) := by decide +kernel
theorem dX6_init_64 : decode cX6_init 64 = .ok (.putfield 31, 3) := by decide +kernel
theorem dX6_init_67 : decode cX6_init 67 = .ok (.aload_n 0, 1) := by decide +kernel
theorem dX6_init_68 : decode cX6_init 68 = .ok (.iconst 4, 1) := by decide +kernel
theorem dX6_init_69 : decode cX6_init 69 = .ok (.newarray .int, 2) := by decide +kernel
theorem dX6_init_71 : decode cX6_init 71 = .ok (.putfield 34, 3) := by decide +kernel
theorem dX6_init_74 : decode cX6_init 74 = .ok (.aload_n 0, 1) := by decide +kernel
theorem dX6_init_75 : decode cX6_init 75 = .ok (.sipush 160, 3) := by decide +kernel
theorem dX6_init_78 : decode cX6_init 78 = .ok (.newarray .long, 2) := by decide +kernel
theorem dX6_init_80 : decode cX6_init 80 = .ok (.putfield 37, 3) := by decide +kernel
theorem dX6_init_83 : decode cX6_init 83 = .ok (.aload_n 0, 1) := by decide +kernel
theorem dX6_init_84 : decode cX6_init 84 = .ok (.bipush 40, 2) := by decide +kernel
theorem dX6_init_86 : decode cX6_init 86 = .ok (.newarray .long, 2) := by decide +kernel
theorem dX6_init_88 : decode cX6_init 88 = .ok (.putfield 41, 3) := by decide +kernel
theorem dX6_init_91 : decode cX6_init 91 = .ok (.return_, 1) := by decide +kernel
theorem dX6_in_0 : decode cX6_in 0 = .ok (.lload_n 0, 1) := by decide +kernel
theorem dX6_in_1 : decode cX6_in 1 = .ok (.lload_n 2, 1) := by decide +kernel
theorem dX6_in_2 : decode cX6_in 2 = .ok (.lcmp, 1) := by decide +kernel
theorem dX6_in_3 : decode cX6_in 3 = .ok (.ifCond .lt 14, 3) := by decide +kernel
theorem dX6_in_6 : decode cX6_in 6 = .ok (.lload_n 0, 1) := by decide +kernel
theorem dX6_in_7 : decode cX6_in 7 = .ok (.lload 4, 2) := by decide +kernel
theorem dX6_in_9 : decode cX6_in 9 = .ok (.lcmp, 1) := by decide +kernel
theorem dX6_in_10 : decode cX6_in 10 = .ok (.ifCond .gt 7, 3) := by decide +kernel
theorem dX6_in_13 : decode cX6_in 13 = .ok (.iconst 1, 1) := by decide +kernel
theorem dX6_in_14 : decode cX6_in 14 = .ok (.goto 4, 3) := by decide +kernel
theorem dX6_in_17 : decode cX6_in 17 = .ok (.iconst 0, 1) := by decide +kernel
theorem dX6_in_18 : decode cX6_in 18 = .ok (.ireturn, 1) := by decide +kernel
theorem dX6_finds_0 : decode cX6_finds 0 = .ok (.aload_n 0, 1) := by decide +kernel
theorem dX6_finds_1 : decode cX6_finds 1 = .ok (.getfield 22, 3) := by decide +kernel
theorem dX6_finds_4 : decode cX6_finds 4 = .ok (.ldc 44, 2) := by decide +kernel
theorem dX6_finds_6 : decode cX6_finds 6 = .ok (.iload_n 1, 1) := by decide +kernel
theorem dX6_finds_7 : decode cX6_finds 7 = .ok (.isub, 1) := by decide +kernel
theorem dX6_finds_8 : decode cX6_finds 8 = .ok (.dup2, 1) := by decide +kernel
theorem dX6_finds_9 : decode cX6_finds 9 = .ok (.iaload, 1) := by decide +kernel
theorem dX6_finds_10 : decode cX6_finds 10 = .ok (.iconst 1, 1) := by decide +kernel
theorem dX6_finds_11 : decode cX6_finds 11 = .ok (.iadd, 1) := by decide +kernel
theorem dX6_finds_12 : decode cX6_finds 12 = .ok (.iastore, 1) := by decide +kernel
theorem dX6_finds_13 : decode cX6_finds 13 = .ok (.iload_n 1, 1) := by decide +kernel
theorem dX6_finds_14 : decode cX6_finds 14 = .ok (.ireturn, 1) := by decide +kernel
theorem dX6_saves_0 : decode cX6_saves 0 = .ok (.iconst 0, 1) := by decide +kernel
theorem dX6_saves_1 : decode cX6_saves 1 = .ok (.istore_n 1, 1) := by decide +kernel
theorem dX6_saves_2 : decode cX6_saves 2 = .ok (.iload_n 1, 1) := by decide +kernel
theorem dX6_saves_3 : decode cX6_saves 3 = .ok (.bipush 112, 2) := by decide +kernel
theorem dX6_saves_5 : decode cX6_saves 5 = .ok (.if_icmp .ge 21, 3) := by decide +kernel
theorem dX6_saves_8 : decode cX6_saves 8 = .ok (.aload_n 0, 1) := by decide +kernel
theorem dX6_saves_9 : decode cX6_saves 9 = .ok (.getfield 16, 3) := by decide +kernel
theorem dX6_saves_12 : decode cX6_saves 12 = .ok (.iload_n 1, 1) := by decide +kernel
theorem dX6_saves_13 : decode cX6_saves 13 = .ok (.aload_n 0, 1) := by decide +kernel
theorem dX6_saves_14 : decode cX6_saves 14 = .ok (.getfield 7, 3) := by decide +kernel
theorem dX6_saves_17 : decode cX6_saves 17 = .ok (.iload_n 1, 1) := by decide +kernel
theorem dX6_saves_18 : decode cX6_saves 18 = .ok (.iaload, 1) := by decide +kernel
theorem dX6_saves_19 : decode cX6_saves 19 = .ok (.iastore, 1) := by decide +kernel
theorem dX6_saves_20 : decode cX6_saves 20 = .ok (.iinc 1 1, 3) := by decide +kernel
theorem dX6_saves_23 : decode cX6_saves 23 = .ok (.goto (-21), 3) := by decide +kernel
theorem dX6_saves_26 : decode cX6_saves 26 = .ok (.return_, 1) := by decide +kernel
theorem dX6_putsBack_0 : decode cX6_putsBack 0 = .ok (.iconst 0, 1) := by decide +kernel
theorem dX6_putsBack_1 : decode cX6_putsBack 1 = .ok (.istore_n 1, 1) := by decide +kernel
theorem dX6_putsBack_2 : decode cX6_putsBack 2 = .ok (.iload_n 1, 1) := by decide +kernel
theorem dX6_putsBack_3 : decode cX6_putsBack 3 = .ok (.bipush 112, 2) := by decide +kernel
theorem dX6_putsBack_5 : decode cX6_putsBack 5 = .ok (.if_icmp .ge 21, 3) := by decide +kernel
theorem dX6_putsBack_8 : decode cX6_putsBack 8 = .ok (.aload_n 0, 1) := by decide +kernel
theorem dX6_putsBack_9 : decode cX6_putsBack 9 = .ok (.getfield 7, 3) := by decide +kernel
theorem dX6_putsBack_12 : decode cX6_putsBack 12 = .ok (.iload_n 1, 1) := by decide +kernel
theorem dX6_putsBack_13 : decode cX6_putsBack 13 = .ok (.aload_n 0, 1) := by decide +kernel
theorem dX6_putsBack_14 : decode cX6_putsBack 14 = .ok (.getfield 16, 3) := by decide +kernel
theorem dX6_putsBack_17 : decode cX6_putsBack 17 = .ok (.iload_n 1, 1) := by decide +kernel
theorem dX6_putsBack_18 : decode cX6_putsBack 18 = .ok (.iaload, 1) := by decide +kernel
theorem dX6_putsBack_19 : decode cX6_putsBack 19 = .ok (.iastore, 1) := by decide +kernel
theorem dX6_putsBack_20 : decode cX6_putsBack 20 = .ok (.iinc 1 1, 3) := by decide +kernel
theorem dX6_putsBack_23 : decode cX6_putsBack 23 = .ok (.goto (-21), 3) := by decide +kernel
theorem dX6_putsBack_26 : decode cX6_putsBack 26 = .ok (.return_, 1) := by decide +kernel
theorem dX6_laysAside_0 : decode cX6_laysAside 0 = .ok (.iconst 0, 1) := by decide +kernel
theorem dX6_laysAside_1 : decode cX6_laysAside 1 = .ok (.istore_n 1, 1) := by decide +kernel
theorem dX6_laysAside_2 : decode cX6_laysAside 2 = .ok (.iload_n 1, 1) := by decide +kernel
theorem dX6_laysAside_3 : decode cX6_laysAside 3 = .ok (.bipush 112, 2) := by decide +kernel
theorem dX6_laysAside_5 : decode cX6_laysAside 5 = .ok (.if_icmp .ge 21, 3) := by decide +kernel
theorem dX6_laysAside_8 : decode cX6_laysAside 8 = .ok (.aload_n 0, 1) := by decide +kernel
theorem dX6_laysAside_9 : decode cX6_laysAside 9 = .ok (.getfield 19, 3) := by decide +kernel
theorem dX6_laysAside_12 : decode cX6_laysAside 12 = .ok (.iload_n 1, 1) := by decide +kernel
theorem dX6_laysAside_13 : decode cX6_laysAside 13 = .ok (.aload_n 0, 1) := by decide +kernel
theorem dX6_laysAside_14 : decode cX6_laysAside 14 = .ok (.getfield 7, 3) := by decide +kernel
theorem dX6_laysAside_17 : decode cX6_laysAside 17 = .ok (.iload_n 1, 1) := by decide +kernel
theorem dX6_laysAside_18 : decode cX6_laysAside 18 = .ok (.iaload, 1) := by decide +kernel
theorem dX6_laysAside_19 : decode cX6_laysAside 19 = .ok (.iastore, 1) := by decide +kernel
theorem dX6_laysAside_20 : decode cX6_laysAside 20 = .ok (.iinc 1 1, 3) := by decide +kernel
theorem dX6_laysAside_23 : decode cX6_laysAside 23 = .ok (.goto (-21), 3) := by decide +kernel
theorem dX6_laysAside_26 : decode cX6_laysAside 26 = .ok (.return_, 1) := by decide +kernel
theorem dX6_takesBack_0 : decode cX6_takesBack 0 = .ok (.iconst 0, 1) := by decide +kernel
theorem dX6_takesBack_1 : decode cX6_takesBack 1 = .ok (.istore_n 2, 1) := by decide +kernel
theorem dX6_takesBack_2 : decode cX6_takesBack 2 = .ok (.iload_n 2, 1) := by decide +kernel
theorem dX6_takesBack_3 : decode cX6_takesBack 3 = .ok (.bipush 112, 2) := by decide +kernel
theorem dX6_takesBack_5 : decode cX6_takesBack 5 = .ok (.if_icmp .ge 21, 3) := by decide +kernel
theorem dX6_takesBack_8 : decode cX6_takesBack 8 = .ok (.aload_n 0, 1) := by decide +kernel
theorem dX6_takesBack_9 : decode cX6_takesBack 9 = .ok (.getfield 7, 3) := by decide +kernel
theorem dX6_takesBack_12 : decode cX6_takesBack 12 = .ok (.iload_n 2, 1) := by decide +kernel
theorem dX6_takesBack_13 : decode cX6_takesBack 13 = .ok (.aload_n 0, 1) := by decide +kernel
theorem dX6_takesBack_14 : decode cX6_takesBack 14 = .ok (.getfield 19, 3) := by decide +kernel
theorem dX6_takesBack_17 : decode cX6_takesBack 17 = .ok (.iload_n 2, 1) := by decide +kernel
theorem dX6_takesBack_18 : decode cX6_takesBack 18 = .ok (.iaload, 1) := by decide +kernel
theorem dX6_takesBack_19 : decode cX6_takesBack 19 = .ok (.iastore, 1) := by decide +kernel
theorem dX6_takesBack_20 : decode cX6_takesBack 20 = .ok (.iinc 2 1, 3) := by decide +kernel
theorem dX6_takesBack_23 : decode cX6_takesBack 23 = .ok (.goto (-21), 3) := by decide +kernel
theorem dX6_takesBack_26 : decode cX6_takesBack 26 = .ok (.iload_n 1, 1) := by decide +kernel
theorem dX6_takesBack_27 : decode cX6_takesBack 27 = .ok (.ireturn, 1) := by decide +kernel
theorem dX6_becomes_0 : decode cX6_becomes 0 = .ok (.aload_n 0, 1) := by decide +kernel
theorem dX6_becomes_1 : decode cX6_becomes 1 = .ok (.getfield 7, 3) := by decide +kernel
theorem dX6_becomes_4 : decode cX6_becomes 4 = .ok (.iload_n 1, 1) := by decide +kernel
theorem dX6_becomes_5 : decode cX6_becomes 5 = .ok (.iaload, 1) := by decide +kernel
theorem dX6_becomes_6 : decode cX6_becomes 6 = .ok (.istore_n 3, 1) := by decide +kernel
theorem dX6_becomes_7 : decode cX6_becomes 7 = .ok (.aload_n 0, 1) := by decide +kernel
theorem dX6_becomes_8 : decode cX6_becomes 8 = .ok (.getfield 7, 3) := by decide +kernel
theorem dX6_becomes_11 : decode cX6_becomes 11 = .ok (.iload_n 1, 1) := by decide +kernel
theorem dX6_becomes_12 : decode cX6_becomes 12 = .ok (.iload_n 2, 1) := by decide +kernel
theorem dX6_becomes_13 : decode cX6_becomes 13 = .ok (.iastore, 1) := by decide +kernel
theorem dX6_becomes_14 : decode cX6_becomes 14 = .ok (.iload_n 3, 1) := by decide +kernel
theorem dX6_becomes_15 : decode cX6_becomes 15 = .ok (.ireturn, 1) := by decide +kernel
theorem dX6_isField_0 : decode cX6_isField 0 = .ok (.iload_n 1, 1) := by decide +kernel
theorem dX6_isField_1 : decode cX6_isField 1 = .ok (.i2l, 1) := by decide +kernel
theorem dX6_isField_2 : decode cX6_isField 2 = .ok (.lconst 0, 1) := by decide +kernel
theorem dX6_isField_3 : decode cX6_isField 3 = .ok (.aload_n 0, 1) := by decide +kernel
theorem dX6_isField_4 : decode cX6_isField 4 = .ok (.getfield 7, 3) := by decide +kernel
theorem dX6_isField_7 : decode cX6_isField 7 = .ok (.iconst 0, 1) := by decide +kernel
theorem dX6_isField_8 : decode cX6_isField 8 = .ok (.iaload, 1) := by decide +kernel
theorem dX6_isField_9 : decode cX6_isField 9 = .ok (.iconst 1, 1) := by decide +kernel
theorem dX6_isField_10 : decode cX6_isField 10 = .ok (.isub, 1) := by decide +kernel
theorem dX6_isField_11 : decode cX6_isField 11 = .ok (.i2l, 1) := by decide +kernel
theorem dX6_isField_12 : decode cX6_isField 12 = .ok (.invokestatic 45, 3) := by decide +kernel
theorem dX6_isField_15 : decode cX6_isField 15 = .ok (.ireturn, 1) := by decide +kernel
theorem dX6_isSide_0 : decode cX6_isSide 0 = .ok (.iload_n 0, 1) := by decide +kernel
theorem dX6_isSide_1 : decode cX6_isSide 1 = .ok (.i2l, 1) := by decide +kernel
theorem dX6_isSide_2 : decode cX6_isSide 2 = .ok (.lconst 0, 1) := by decide +kernel
theorem dX6_isSide_3 : decode cX6_isSide 3 = .ok (.ldc2_w 49, 3) := by decide +kernel
theorem dX6_isSide_6 : decode cX6_isSide 6 = .ok (.invokestatic 45, 3) := by decide +kernel
theorem dX6_isSide_9 : decode cX6_isSide 9 = .ok (.ireturn, 1) := by decide +kernel
theorem dX6_isKind_0 : decode cX6_isKind 0 = .ok (.iload_n 0, 1) := by decide +kernel
theorem dX6_isKind_1 : decode cX6_isKind 1 = .ok (.i2l, 1) := by decide +kernel
theorem dX6_isKind_2 : decode cX6_isKind 2 = .ok (.lconst 0, 1) := by decide +kernel
theorem dX6_isKind_3 : decode cX6_isKind 3 = .ok (.ldc2_w 51, 3) := by decide +kernel
theorem dX6_isKind_6 : decode cX6_isKind 6 = .ok (.invokestatic 45, 3) := by decide +kernel
theorem dX6_isKind_9 : decode cX6_isKind 9 = .ok (.ireturn, 1) := by decide +kernel
theorem dX6_isWay_0 : decode cX6_isWay 0 = .ok (.aload_n 0, 1) := by decide +kernel
theorem dX6_isWay_1 : decode cX6_isWay 1 = .ok (.iload_n 1, 1) := by decide +kernel
theorem dX6_isWay_2 : decode cX6_isWay 2 = .ok (.invokevirtual 53, 3) := by decide +kernel
theorem dX6_isWay_5 : decode cX6_isWay 5 = .ok (.ifCond .eq 14, 3) := by decide +kernel
theorem dX6_isWay_8 : decode cX6_isWay 8 = .ok (.iload_n 2, 1) := by decide +kernel
theorem dX6_isWay_9 : decode cX6_isWay 9 = .ok (.invokestatic 57, 3) := by decide +kernel
theorem dX6_isWay_12 : decode cX6_isWay 12 = .ok (.ifCond .eq 7, 3) := by decide +kernel
theorem dX6_isWay_15 : decode cX6_isWay 15 = .ok (.iconst 1, 1) := by decide +kernel
theorem dX6_isWay_16 : decode cX6_isWay 16 = .ok (.goto 4, 3) := by decide +kernel
theorem dX6_isWay_19 : decode cX6_isWay 19 = .ok (.iconst 0, 1) := by decide +kernel
theorem dX6_isWay_20 : decode cX6_isWay 20 = .ok (.ireturn, 1) := by decide +kernel
theorem dX6_isWalker_0 : decode cX6_isWalker 0 = .ok (.iload_n 1, 1) := by decide +kernel
theorem dX6_isWalker_1 : decode cX6_isWalker 1 = .ok (.i2l, 1) := by decide +kernel
theorem dX6_isWalker_2 : decode cX6_isWalker 2 = .ok (.lconst 0, 1) := by decide +kernel
theorem dX6_isWalker_3 : decode cX6_isWalker 3 = .ok (.aload_n 0, 1) := by decide +kernel
theorem dX6_isWalker_4 : decode cX6_isWalker 4 = .ok (.getfield 7, 3) := by decide +kernel
theorem dX6_isWalker_7 : decode cX6_isWalker 7 = .ok (.iconst 1, 1) := by decide +kernel
theorem dX6_isWalker_8 : decode cX6_isWalker 8 = .ok (.iaload, 1) := by decide +kernel
theorem dX6_isWalker_9 : decode cX6_isWalker 9 = .ok (.iconst 1, 1) := by decide +kernel
theorem dX6_isWalker_10 : decode cX6_isWalker 10 = .ok (.isub, 1) := by decide +kernel
theorem dX6_isWalker_11 : decode cX6_isWalker 11 = .ok (.i2l, 1) := by decide +kernel
theorem dX6_isWalker_12 : decode cX6_isWalker 12 = .ok (.invokestatic 45, 3) := by decide +kernel
theorem dX6_isWalker_15 : decode cX6_isWalker 15 = .ok (.ireturn, 1) := by decide +kernel
theorem dX6_spot_0 : decode cX6_spot 0 = .ok (.bipush 82, 2) := by decide +kernel
theorem dX6_spot_2 : decode cX6_spot 2 = .ok (.iconst 5, 1) := by decide +kernel
theorem dX6_spot_3 : decode cX6_spot 3 = .ok (.iload_n 0, 1) := by decide +kernel
theorem dX6_spot_4 : decode cX6_spot 4 = .ok (.imul, 1) := by decide +kernel
theorem dX6_spot_5 : decode cX6_spot 5 = .ok (.iadd, 1) := by decide +kernel
theorem dX6_spot_6 : decode cX6_spot 6 = .ok (.iload_n 1, 1) := by decide +kernel
theorem dX6_spot_7 : decode cX6_spot 7 = .ok (.iadd, 1) := by decide +kernel
theorem dX6_spot_8 : decode cX6_spot 8 = .ok (.ireturn, 1) := by decide +kernel
theorem dX6_partOf_0 : decode cX6_partOf 0 = .ok (.aload_n 0, 1) := by decide +kernel
theorem dX6_partOf_1 : decode cX6_partOf 1 = .ok (.getfield 7, 3) := by decide +kernel
theorem dX6_partOf_4 : decode cX6_partOf 4 = .ok (.iload_n 1, 1) := by decide +kernel
theorem dX6_partOf_5 : decode cX6_partOf 5 = .ok (.iload_n 2, 1) := by decide +kernel
theorem dX6_partOf_6 : decode cX6_partOf 6 = .ok (.invokestatic 60, 3) := by decide +kernel
theorem dX6_partOf_9 : decode cX6_partOf 9 = .ok (.iaload, 1) := by decide +kernel
theorem dX6_partOf_10 : decode cX6_partOf 10 = .ok (.ireturn, 1) := by decide +kernel
theorem dX6_wayOf_0 : decode cX6_wayOf 0 = .ok (.iconst 4, 1) := by decide +kernel
theorem dX6_wayOf_1 : decode cX6_wayOf 1 = .ok (.aload_n 0, 1) := by decide +kernel
theorem dX6_wayOf_2 : decode cX6_wayOf 2 = .ok (.iload_n 1, 1) := by decide +kernel
theorem dX6_wayOf_3 : decode cX6_wayOf 3 = .ok (.iconst 1, 1) := by decide +kernel
theorem dX6_wayOf_4 : decode cX6_wayOf 4 = .ok (.invokevirtual 64, 3) := by decide +kernel
theorem dX6_wayOf_7 : decode cX6_wayOf 7 = .ok (.imul, 1) := by decide +kernel
theorem dX6_wayOf_8 : decode cX6_wayOf 8 = .ok (.aload_n 0, 1) := by decide +kernel
theorem dX6_wayOf_9 : decode cX6_wayOf 9 = .ok (.iload_n 1, 1) := by decide +kernel
theorem dX6_wayOf_10 : decode cX6_wayOf 10 = .ok (.iconst 2, 1) := by decide +kernel
theorem dX6_wayOf_11 : decode cX6_wayOf 11 = .ok (.invokevirtual 64, 3) := by decide +kernel
theorem dX6_wayOf_14 : decode cX6_wayOf 14 = .ok (.iadd, 1) := by decide +kernel
theorem dX6_wayOf_15 : decode cX6_wayOf 15 = .ok (.ireturn, 1) := by decide +kernel
theorem dX6_adds_0 : decode cX6_adds 0 = .ok (.aload_n 0, 1) := by decide +kernel
theorem dX6_adds_1 : decode cX6_adds 1 = .ok (.getfield 7, 3) := by decide +kernel
theorem dX6_adds_4 : decode cX6_adds 4 = .ok (.iconst 2, 1) := by decide +kernel
theorem dX6_adds_5 : decode cX6_adds 5 = .ok (.aload_n 0, 1) := by decide +kernel
theorem dX6_adds_6 : decode cX6_adds 6 = .ok (.getfield 7, 3) := by decide +kernel
theorem dX6_adds_9 : decode cX6_adds 9 = .ok (.iconst 0, 1) := by decide +kernel
theorem dX6_adds_10 : decode cX6_adds 10 = .ok (.iaload, 1) := by decide +kernel
theorem dX6_adds_11 : decode cX6_adds 11 = .ok (.iadd, 1) := by decide +kernel
theorem dX6_adds_12 : decode cX6_adds 12 = .ok (.iload_n 1, 1) := by decide +kernel
theorem dX6_adds_13 : decode cX6_adds 13 = .ok (.iastore, 1) := by decide +kernel
theorem dX6_adds_14 : decode cX6_adds 14 = .ok (.aload_n 0, 1) := by decide +kernel
theorem dX6_adds_15 : decode cX6_adds 15 = .ok (.getfield 7, 3) := by decide +kernel
theorem dX6_adds_18 : decode cX6_adds 18 = .ok (.iconst 0, 1) := by decide +kernel
theorem dX6_adds_19 : decode cX6_adds 19 = .ok (.dup2, 1) := by decide +kernel
theorem dX6_adds_20 : decode cX6_adds 20 = .ok (.iaload, 1) := by decide +kernel
theorem dX6_adds_21 : decode cX6_adds 21 = .ok (.iconst 1, 1) := by decide +kernel
theorem dX6_adds_22 : decode cX6_adds 22 = .ok (.iadd, 1) := by decide +kernel
theorem dX6_adds_23 : decode cX6_adds 23 = .ok (.iastore, 1) := by decide +kernel
theorem dX6_adds_24 : decode cX6_adds 24 = .ok (.aload_n 0, 1) := by decide +kernel
theorem dX6_adds_25 : decode cX6_adds 25 = .ok (.getfield 7, 3) := by decide +kernel
theorem dX6_adds_28 : decode cX6_adds 28 = .ok (.iconst 0, 1) := by decide +kernel
theorem dX6_adds_29 : decode cX6_adds 29 = .ok (.iaload, 1) := by decide +kernel
theorem dX6_adds_30 : decode cX6_adds 30 = .ok (.iconst 1, 1) := by decide +kernel
theorem dX6_adds_31 : decode cX6_adds 31 = .ok (.isub, 1) := by decide +kernel
theorem dX6_adds_32 : decode cX6_adds 32 = .ok (.ireturn, 1) := by decide +kernel
theorem dX6_field_0 : decode cX6_field 0 = .ok (.iload_n 1, 1) := by decide +kernel
theorem dX6_field_1 : decode cX6_field 1 = .ok (.i2l, 1) := by decide +kernel
theorem dX6_field_2 : decode cX6_field 2 = .ok (.lconst 0, 1) := by decide +kernel
theorem dX6_field_3 : decode cX6_field 3 = .ok (.ldc2_w 67, 3) := by decide +kernel
theorem dX6_field_6 : decode cX6_field 6 = .ok (.invokestatic 45, 3) := by decide +kernel
theorem dX6_field_9 : decode cX6_field 9 = .ok (.ifCond .ne 10, 3) := by decide +kernel
theorem dX6_field_12 : decode cX6_field 12 = .ok (.aload_n 0, 1) := by decide +kernel
theorem dX6_field_13 : decode cX6_field 13 = .ok (.ldc 44, 2) := by decide +kernel
theorem dX6_field_15 : decode cX6_field 15 = .ok (.invokevirtual 69, 3) := by decide +kernel
theorem dX6_field_18 : decode cX6_field 18 = .ok (.ireturn, 1) := by decide +kernel
theorem dX6_field_19 : decode cX6_field 19 = .ok (.aload_n 0, 1) := by decide +kernel
theorem dX6_field_20 : decode cX6_field 20 = .ok (.getfield 7, 3) := by decide +kernel
theorem dX6_field_23 : decode cX6_field 23 = .ok (.iconst 0, 1) := by decide +kernel
theorem dX6_field_24 : decode cX6_field 24 = .ok (.iaload, 1) := by decide +kernel
theorem dX6_field_25 : decode cX6_field 25 = .ok (.bipush 16, 2) := by decide +kernel
theorem dX6_field_27 : decode cX6_field 27 = .ok (.if_icmp .ne 12, 3) := by decide +kernel
theorem dX6_field_30 : decode cX6_field 30 = .ok (.aload_n 0, 1) := by decide +kernel
theorem dX6_field_31 : decode cX6_field 31 = .ok (.ldc 73, 2) := by decide +kernel
theorem dX6_field_33 : decode cX6_field 33 = .ok (.invokevirtual 69, 3) := by decide +kernel
theorem dX6_field_36 : decode cX6_field 36 = .ok (.goto 8, 3) := by decide +kernel
theorem dX6_field_39 : decode cX6_field 39 = .ok (.aload_n 0, 1) := by decide +kernel
theorem dX6_field_40 : decode cX6_field 40 = .ok (.iload_n 1, 1) := by decide +kernel
theorem dX6_field_41 : decode cX6_field 41 = .ok (.invokevirtual 74, 3) := by decide +kernel
theorem dX6_field_44 : decode cX6_field 44 = .ok (.ireturn, 1) := by decide +kernel
theorem dX6_gluedOf_0 : decode cX6_gluedOf 0 = .ok (.iconst 0, 1) := by decide +kernel
theorem dX6_gluedOf_1 : decode cX6_gluedOf 1 = .ok (.istore_n 2, 1) := by decide +kernel
theorem dX6_gluedOf_2 : decode cX6_gluedOf 2 = .ok (.iconst 0, 1) := by decide +kernel
theorem dX6_gluedOf_3 : decode cX6_gluedOf 3 = .ok (.istore_n 3, 1) := by decide +kernel
theorem dX6_gluedOf_4 : decode cX6_gluedOf 4 = .ok (.iload_n 3, 1) := by decide +kernel
theorem dX6_gluedOf_5 : decode cX6_gluedOf 5 = .ok (.iconst 4, 1) := by decide +kernel
theorem dX6_gluedOf_6 : decode cX6_gluedOf 6 = .ok (.if_icmp .ge 35, 3) := by decide +kernel
theorem dX6_gluedOf_9 : decode cX6_gluedOf 9 = .ok (.iload_n 2, 1) := by decide +kernel
theorem dX6_gluedOf_10 : decode cX6_gluedOf 10 = .ok (.aload_n 0, 1) := by decide +kernel
theorem dX6_gluedOf_11 : decode cX6_gluedOf 11 = .ok (.getfield 7, 3) := by decide +kernel
theorem dX6_gluedOf_14 : decode cX6_gluedOf 14 = .ok (.bipush 18, 2) := by decide +kernel
theorem dX6_gluedOf_16 : decode cX6_gluedOf 16 = .ok (.iconst 4, 1) := by decide +kernel
theorem dX6_gluedOf_17 : decode cX6_gluedOf 17 = .ok (.iload_n 1, 1) := by decide +kernel
theorem dX6_gluedOf_18 : decode cX6_gluedOf 18 = .ok (.imul, 1) := by decide +kernel
theorem dX6_gluedOf_19 : decode cX6_gluedOf 19 = .ok (.iadd, 1) := by decide +kernel
theorem dX6_gluedOf_20 : decode cX6_gluedOf 20 = .ok (.iload_n 3, 1) := by decide +kernel
theorem dX6_gluedOf_21 : decode cX6_gluedOf 21 = .ok (.iadd, 1) := by decide +kernel
theorem dX6_gluedOf_22 : decode cX6_gluedOf 22 = .ok (.iaload, 1) := by decide +kernel
theorem dX6_gluedOf_23 : decode cX6_gluedOf 23 = .ok (.ifCond .le 9, 3) := by decide +kernel
theorem dX6_gluedOf_26 : decode cX6_gluedOf 26 = .ok (.iconst 1, 1) := by decide +kernel
theorem dX6_gluedOf_27 : decode cX6_gluedOf 27 = .ok (.iload_n 3, 1) := by decide +kernel
theorem dX6_gluedOf_28 : decode cX6_gluedOf 28 = .ok (.ishl, 1) := by decide +kernel
theorem dX6_gluedOf_29 : decode cX6_gluedOf 29 = .ok (.goto 4, 3) := by decide +kernel
theorem dX6_gluedOf_32 : decode cX6_gluedOf 32 = .ok (.iconst 0, 1) := by decide +kernel
theorem dX6_gluedOf_33 : decode cX6_gluedOf 33 = .ok (.ior, 1) := by decide +kernel
theorem dX6_gluedOf_34 : decode cX6_gluedOf 34 = .ok (.istore_n 2, 1) := by decide +kernel
theorem dX6_gluedOf_35 : decode cX6_gluedOf 35 = .ok (.iinc 3 1, 3) := by decide +kernel
theorem dX6_gluedOf_38 : decode cX6_gluedOf 38 = .ok (.goto (-34), 3) := by decide +kernel
theorem dX6_gluedOf_41 : decode cX6_gluedOf 41 = .ok (.iload_n 2, 1) := by decide +kernel
theorem dX6_gluedOf_42 : decode cX6_gluedOf 42 = .ok (.ireturn, 1) := by decide +kernel
theorem dX6_those_0 : decode cX6_those 0 = .ok (.iconst 0, 1) := by decide +kernel
theorem dX6_those_1 : decode cX6_those 1 = .ok (.istore_n 2, 1) := by decide +kernel
theorem dX6_those_2 : decode cX6_those 2 = .ok (.iconst 0, 1) := by decide +kernel
theorem dX6_those_3 : decode cX6_those 3 = .ok (.istore_n 3, 1) := by decide +kernel
theorem dX6_those_4 : decode cX6_those 4 = .ok (.iload_n 3, 1) := by decide +kernel
theorem dX6_those_5 : decode cX6_those 5 = .ok (.aload_n 0, 1) := by decide +kernel
theorem dX6_those_6 : decode cX6_those 6 = .ok (.getfield 7, 3) := by decide +kernel
theorem dX6_those_9 : decode cX6_those 9 = .ok (.iconst 1, 1) := by decide +kernel
theorem dX6_those_10 : decode cX6_those 10 = .ok (.iaload, 1) := by decide +kernel
theorem dX6_those_11 : decode cX6_those 11 = .ok (.if_icmp .ge 29, 3) := by decide +kernel
theorem dX6_those_14 : decode cX6_those 14 = .ok (.iload_n 2, 1) := by decide +kernel
theorem dX6_those_15 : decode cX6_those 15 = .ok (.aload_n 0, 1) := by decide +kernel
theorem dX6_those_16 : decode cX6_those 16 = .ok (.iload_n 3, 1) := by decide +kernel
theorem dX6_those_17 : decode cX6_those 17 = .ok (.iconst 1, 1) := by decide +kernel
theorem dX6_those_18 : decode cX6_those 18 = .ok (.invokevirtual 64, 3) := by decide +kernel
theorem dX6_those_21 : decode cX6_those 21 = .ok (.iload_n 1, 1) := by decide +kernel
theorem dX6_those_22 : decode cX6_those 22 = .ok (.if_icmp .ne 9, 3) := by decide +kernel
theorem dX6_those_25 : decode cX6_those 25 = .ok (.iconst 1, 1) := by decide +kernel
theorem dX6_those_26 : decode cX6_those 26 = .ok (.iload_n 3, 1) := by decide +kernel
theorem dX6_those_27 : decode cX6_those 27 = .ok (.ishl, 1) := by decide +kernel
theorem dX6_those_28 : decode cX6_those 28 = .ok (.goto 4, 3) := by decide +kernel
theorem dX6_those_31 : decode cX6_those 31 = .ok (.iconst 0, 1) := by decide +kernel
theorem dX6_those_32 : decode cX6_those 32 = .ok (.ior, 1) := by decide +kernel
theorem dX6_those_33 : decode cX6_those 33 = .ok (.istore_n 2, 1) := by decide +kernel
theorem dX6_those_34 : decode cX6_those 34 = .ok (.iinc 3 1, 3) := by decide +kernel
theorem dX6_those_37 : decode cX6_those 37 = .ok (.goto (-33), 3) := by decide +kernel
theorem dX6_those_40 : decode cX6_those 40 = .ok (.iload_n 2, 1) := by decide +kernel
theorem dX6_those_41 : decode cX6_those 41 = .ok (.ireturn, 1) := by decide +kernel
theorem dX6_of_0 : decode cX6_of 0 = .ok (.aload_n 0, 1) := by decide +kernel
theorem dX6_of_1 : decode cX6_of 1 = .ok (.iload_n 1, 1) := by decide +kernel
theorem dX6_of_2 : decode cX6_of 2 = .ok (.invokevirtual 53, 3) := by decide +kernel
theorem dX6_of_5 : decode cX6_of 5 = .ok (.ifCond .eq 15, 3) := by decide +kernel
theorem dX6_of_8 : decode cX6_of 8 = .ok (.iload_n 2, 1) := by decide +kernel
theorem dX6_of_9 : decode cX6_of 9 = .ok (.i2l, 1) := by decide +kernel
theorem dX6_of_10 : decode cX6_of 10 = .ok (.lconst 0, 1) := by decide +kernel
theorem dX6_of_11 : decode cX6_of 11 = .ok (.ldc2_w 77, 3) := by decide +kernel
theorem dX6_of_14 : decode cX6_of 14 = .ok (.invokestatic 45, 3) := by decide +kernel
theorem dX6_of_17 : decode cX6_of 17 = .ok (.ifCond .ne 10, 3) := by decide +kernel
theorem dX6_of_20 : decode cX6_of 20 = .ok (.aload_n 0, 1) := by decide +kernel
theorem dX6_of_21 : decode cX6_of 21 = .ok (.ldc 44, 2) := by decide +kernel
theorem dX6_of_23 : decode cX6_of 23 = .ok (.invokevirtual 69, 3) := by decide +kernel
theorem dX6_of_26 : decode cX6_of 26 = .ok (.ireturn, 1) := by decide +kernel
theorem dX6_of_27 : decode cX6_of 27 = .ok (.iload_n 2, 1) := by decide +kernel
theorem dX6_of_28 : decode cX6_of 28 = .ok (.ifCond .ne 14, 3) := by decide +kernel
theorem dX6_of_31 : decode cX6_of 31 = .ok (.aload_n 0, 1) := by decide +kernel
theorem dX6_of_32 : decode cX6_of 32 = .ok (.getfield 7, 3) := by decide +kernel
theorem dX6_of_35 : decode cX6_of 35 = .ok (.iconst 2, 1) := by decide +kernel
theorem dX6_of_36 : decode cX6_of 36 = .ok (.iload_n 1, 1) := by decide +kernel
theorem dX6_of_37 : decode cX6_of 37 = .ok (.iadd, 1) := by decide +kernel
theorem dX6_of_38 : decode cX6_of 38 = .ok (.iaload, 1) := by decide +kernel
theorem dX6_of_39 : decode cX6_of 39 = .ok (.goto 21, 3) := by decide +kernel
theorem dX6_of_42 : decode cX6_of 42 = .ok (.iload_n 2, 1) := by decide +kernel
theorem dX6_of_43 : decode cX6_of 43 = .ok (.iconst 1, 1) := by decide +kernel
theorem dX6_of_44 : decode cX6_of 44 = .ok (.if_icmp .ne 11, 3) := by decide +kernel
theorem dX6_of_47 : decode cX6_of 47 = .ok (.aload_n 0, 1) := by decide +kernel
theorem dX6_of_48 : decode cX6_of 48 = .ok (.iload_n 1, 1) := by decide +kernel
theorem dX6_of_49 : decode cX6_of 49 = .ok (.invokevirtual 79, 3) := by decide +kernel
theorem dX6_of_52 : decode cX6_of 52 = .ok (.goto 8, 3) := by decide +kernel
theorem dX6_of_55 : decode cX6_of 55 = .ok (.aload_n 0, 1) := by decide +kernel
theorem dX6_of_56 : decode cX6_of 56 = .ok (.iload_n 1, 1) := by decide +kernel
theorem dX6_of_57 : decode cX6_of 57 = .ok (.invokevirtual 82, 3) := by decide +kernel
theorem dX6_of_60 : decode cX6_of 60 = .ok (.ireturn, 1) := by decide +kernel
theorem dX6_rough_0 : decode cX6_rough 0 = .ok (.aload_n 0, 1) := by decide +kernel
theorem dX6_rough_1 : decode cX6_rough 1 = .ok (.iload_n 1, 1) := by decide +kernel
theorem dX6_rough_2 : decode cX6_rough 2 = .ok (.invokevirtual 53, 3) := by decide +kernel
theorem dX6_rough_5 : decode cX6_rough 5 = .ok (.ifCond .eq 26, 3) := by decide +kernel
theorem dX6_rough_8 : decode cX6_rough 8 = .ok (.iload_n 2, 1) := by decide +kernel
theorem dX6_rough_9 : decode cX6_rough 9 = .ok (.i2l, 1) := by decide +kernel
theorem dX6_rough_10 : decode cX6_rough 10 = .ok (.lconst 0, 1) := by decide +kernel
theorem dX6_rough_11 : decode cX6_rough 11 = .ok (.ldc2_w 67, 3) := by decide +kernel
theorem dX6_rough_14 : decode cX6_rough 14 = .ok (.invokestatic 45, 3) := by decide +kernel
theorem dX6_rough_17 : decode cX6_rough 17 = .ok (.ifCond .eq 14, 3) := by decide +kernel
theorem dX6_rough_20 : decode cX6_rough 20 = .ok (.aload_n 0, 1) := by decide +kernel
theorem dX6_rough_21 : decode cX6_rough 21 = .ok (.iconst 2, 1) := by decide +kernel
theorem dX6_rough_22 : decode cX6_rough 22 = .ok (.iload_n 1, 1) := by decide +kernel
theorem dX6_rough_23 : decode cX6_rough 23 = .ok (.iadd, 1) := by decide +kernel
theorem dX6_rough_24 : decode cX6_rough 24 = .ok (.iload_n 2, 1) := by decide +kernel
theorem dX6_rough_25 : decode cX6_rough 25 = .ok (.invokevirtual 85, 3) := by decide +kernel
theorem dX6_rough_28 : decode cX6_rough 28 = .ok (.goto 9, 3) := by decide +kernel
theorem dX6_rough_31 : decode cX6_rough 31 = .ok (.aload_n 0, 1) := by decide +kernel
theorem dX6_rough_32 : decode cX6_rough 32 = .ok (.ldc 44, 2) := by decide +kernel
theorem dX6_rough_34 : decode cX6_rough 34 = .ok (.invokevirtual 69, 3) := by decide +kernel
theorem dX6_rough_37 : decode cX6_rough 37 = .ok (.ireturn, 1) := by decide +kernel
theorem dX6_glues_0 : decode cX6_glues 0 = .ok (.aload_n 0, 1) := by decide +kernel
theorem dX6_glues_1 : decode cX6_glues 1 = .ok (.getfield 7, 3) := by decide +kernel
theorem dX6_glues_4 : decode cX6_glues 4 = .ok (.bipush 18, 2) := by decide +kernel
theorem dX6_glues_6 : decode cX6_glues 6 = .ok (.iload_n 1, 1) := by decide +kernel
theorem dX6_glues_7 : decode cX6_glues 7 = .ok (.iadd, 1) := by decide +kernel
theorem dX6_glues_8 : decode cX6_glues 8 = .ok (.iconst 1, 1) := by decide +kernel
theorem dX6_glues_9 : decode cX6_glues 9 = .ok (.iload_n 2, 1) := by decide +kernel
theorem dX6_glues_10 : decode cX6_glues 10 = .ok (.iadd, 1) := by decide +kernel
theorem dX6_glues_11 : decode cX6_glues 11 = .ok (.iastore, 1) := by decide +kernel
theorem dX6_glues_12 : decode cX6_glues 12 = .ok (.aload_n 0, 1) := by decide +kernel
theorem dX6_glues_13 : decode cX6_glues 13 = .ok (.getfield 7, 3) := by decide +kernel
theorem dX6_glues_16 : decode cX6_glues 16 = .ok (.bipush 18, 2) := by decide +kernel
theorem dX6_glues_18 : decode cX6_glues 18 = .ok (.iload_n 2, 1) := by decide +kernel
theorem dX6_glues_19 : decode cX6_glues 19 = .ok (.iadd, 1) := by decide +kernel
theorem dX6_glues_20 : decode cX6_glues 20 = .ok (.iconst 1, 1) := by decide +kernel
theorem dX6_glues_21 : decode cX6_glues 21 = .ok (.iload_n 1, 1) := by decide +kernel
theorem dX6_glues_22 : decode cX6_glues 22 = .ok (.iadd, 1) := by decide +kernel
theorem dX6_glues_23 : decode cX6_glues 23 = .ok (.iastore, 1) := by decide +kernel
theorem dX6_glues_24 : decode cX6_glues 24 = .ok (.return_, 1) := by decide +kernel
theorem dX6_cuts_0 : decode cX6_cuts 0 = .ok (.aload_n 0, 1) := by decide +kernel
theorem dX6_cuts_1 : decode cX6_cuts 1 = .ok (.getfield 7, 3) := by decide +kernel
theorem dX6_cuts_4 : decode cX6_cuts 4 = .ok (.bipush 18, 2) := by decide +kernel
theorem dX6_cuts_6 : decode cX6_cuts 6 = .ok (.aload_n 0, 1) := by decide +kernel
theorem dX6_cuts_7 : decode cX6_cuts 7 = .ok (.getfield 7, 3) := by decide +kernel
theorem dX6_cuts_10 : decode cX6_cuts 10 = .ok (.bipush 18, 2) := by decide +kernel
theorem dX6_cuts_12 : decode cX6_cuts 12 = .ok (.iload_n 1, 1) := by decide +kernel
theorem dX6_cuts_13 : decode cX6_cuts 13 = .ok (.iadd, 1) := by decide +kernel
theorem dX6_cuts_14 : decode cX6_cuts 14 = .ok (.iaload, 1) := by decide +kernel
theorem dX6_cuts_15 : decode cX6_cuts 15 = .ok (.iadd, 1) := by decide +kernel
theorem dX6_cuts_16 : decode cX6_cuts 16 = .ok (.iconst 1, 1) := by decide +kernel
theorem dX6_cuts_17 : decode cX6_cuts 17 = .ok (.isub, 1) := by decide +kernel
theorem dX6_cuts_18 : decode cX6_cuts 18 = .ok (.iconst 0, 1) := by decide +kernel
theorem dX6_cuts_19 : decode cX6_cuts 19 = .ok (.iastore, 1) := by decide +kernel
theorem dX6_cuts_20 : decode cX6_cuts 20 = .ok (.aload_n 0, 1) := by decide +kernel
theorem dX6_cuts_21 : decode cX6_cuts 21 = .ok (.getfield 7, 3) := by decide +kernel
theorem dX6_cuts_24 : decode cX6_cuts 24 = .ok (.bipush 18, 2) := by decide +kernel
theorem dX6_cuts_26 : decode cX6_cuts 26 = .ok (.iload_n 1, 1) := by decide +kernel
theorem dX6_cuts_27 : decode cX6_cuts 27 = .ok (.iadd, 1) := by decide +kernel
theorem dX6_cuts_28 : decode cX6_cuts 28 = .ok (.iconst 0, 1) := by decide +kernel
theorem dX6_cuts_29 : decode cX6_cuts 29 = .ok (.iastore, 1) := by decide +kernel
theorem dX6_cuts_30 : decode cX6_cuts 30 = .ok (.return_, 1) := by decide +kernel
theorem dX6_glue_0 : decode cX6_glue 0 = .ok (.aload_n 0, 1) := by decide +kernel
theorem dX6_glue_1 : decode cX6_glue 1 = .ok (.iload_n 1, 1) := by decide +kernel
theorem dX6_glue_2 : decode cX6_glue 2 = .ok (.iload_n 2, 1) := by decide +kernel
theorem dX6_glue_3 : decode cX6_glue 3 = .ok (.invokevirtual 88, 3) := by decide +kernel
theorem dX6_glue_6 : decode cX6_glue 6 = .ok (.ifCond .eq 24, 3) := by decide +kernel
theorem dX6_glue_9 : decode cX6_glue 9 = .ok (.aload_n 0, 1) := by decide +kernel
theorem dX6_glue_10 : decode cX6_glue 10 = .ok (.iload_n 3, 1) := by decide +kernel
theorem dX6_glue_11 : decode cX6_glue 11 = .ok (.iload 4, 2) := by decide +kernel
theorem dX6_glue_13 : decode cX6_glue 13 = .ok (.invokevirtual 88, 3) := by decide +kernel
theorem dX6_glue_16 : decode cX6_glue 16 = .ok (.ifCond .eq 14, 3) := by decide +kernel
theorem dX6_glue_19 : decode cX6_glue 19 = .ok (.iload_n 1, 1) := by decide +kernel
theorem dX6_glue_20 : decode cX6_glue 20 = .ok (.iload_n 3, 1) := by decide +kernel
theorem dX6_glue_21 : decode cX6_glue 21 = .ok (.if_icmp .ne 16, 3) := by decide +kernel
theorem dX6_glue_24 : decode cX6_glue 24 = .ok (.iload_n 2, 1) := by decide +kernel
theorem dX6_glue_25 : decode cX6_glue 25 = .ok (.iload 4, 2) := by decide +kernel
theorem dX6_glue_27 : decode cX6_glue 27 = .ok (.if_icmp .ne 10, 3) := by decide +kernel
theorem dX6_glue_30 : decode cX6_glue 30 = .ok (.aload_n 0, 1) := by decide +kernel
theorem dX6_glue_31 : decode cX6_glue 31 = .ok (.ldc 44, 2) := by decide +kernel
theorem dX6_glue_33 : decode cX6_glue 33 = .ok (.invokevirtual 69, 3) := by decide +kernel
theorem dX6_glue_36 : decode cX6_glue 36 = .ok (.ireturn, 1) := by decide +kernel
theorem dX6_glue_37 : decode cX6_glue 37 = .ok (.aload_n 0, 1) := by decide +kernel
theorem dX6_glue_38 : decode cX6_glue 38 = .ok (.getfield 7, 3) := by decide +kernel
theorem dX6_glue_41 : decode cX6_glue 41 = .ok (.bipush 18, 2) := by decide +kernel
theorem dX6_glue_43 : decode cX6_glue 43 = .ok (.iconst 4, 1) := by decide +kernel
theorem dX6_glue_44 : decode cX6_glue 44 = .ok (.iload_n 1, 1) := by decide +kernel
theorem dX6_glue_45 : decode cX6_glue 45 = .ok (.imul, 1) := by decide +kernel
theorem dX6_glue_46 : decode cX6_glue 46 = .ok (.iadd, 1) := by decide +kernel
theorem dX6_glue_47 : decode cX6_glue 47 = .ok (.iload_n 2, 1) := by decide +kernel
theorem dX6_glue_48 : decode cX6_glue 48 = .ok (.iadd, 1) := by decide +kernel
theorem dX6_glue_49 : decode cX6_glue 49 = .ok (.iaload, 1) := by decide +kernel
theorem dX6_glue_50 : decode cX6_glue 50 = .ok (.ifCond .gt 20, 3) := by decide +kernel
theorem dX6_glue_53 : decode cX6_glue 53 = .ok (.aload_n 0, 1) := by decide +kernel
theorem dX6_glue_54 : decode cX6_glue 54 = .ok (.getfield 7, 3) := by decide +kernel
theorem dX6_glue_57 : decode cX6_glue 57 = .ok (.bipush 18, 2) := by decide +kernel
theorem dX6_glue_59 : decode cX6_glue 59 = .ok (.iconst 4, 1) := by decide +kernel
theorem dX6_glue_60 : decode cX6_glue 60 = .ok (.iload_n 3, 1) := by decide +kernel
theorem dX6_glue_61 : decode cX6_glue 61 = .ok (.imul, 1) := by decide +kernel
theorem dX6_glue_62 : decode cX6_glue 62 = .ok (.iadd, 1) := by decide +kernel
theorem dX6_glue_63 : decode cX6_glue 63 = .ok (.iload 4, 2) := by decide +kernel
theorem dX6_glue_65 : decode cX6_glue 65 = .ok (.iadd, 1) := by decide +kernel
theorem dX6_glue_66 : decode cX6_glue 66 = .ok (.iaload, 1) := by decide +kernel
theorem dX6_glue_67 : decode cX6_glue 67 = .ok (.ifCond .le 10, 3) := by decide +kernel
theorem dX6_glue_70 : decode cX6_glue 70 = .ok (.aload_n 0, 1) := by decide +kernel
theorem dX6_glue_71 : decode cX6_glue 71 = .ok (.ldc 92, 2) := by decide +kernel
theorem dX6_glue_73 : decode cX6_glue 73 = .ok (.invokevirtual 69, 3) := by decide +kernel
theorem dX6_glue_76 : decode cX6_glue 76 = .ok (.ireturn, 1) := by decide +kernel
theorem dX6_glue_77 : decode cX6_glue 77 = .ok (.aload_n 0, 1) := by decide +kernel
theorem dX6_glue_78 : decode cX6_glue 78 = .ok (.iconst 4, 1) := by decide +kernel
theorem dX6_glue_79 : decode cX6_glue 79 = .ok (.iload_n 1, 1) := by decide +kernel
theorem dX6_glue_80 : decode cX6_glue 80 = .ok (.imul, 1) := by decide +kernel
theorem dX6_glue_81 : decode cX6_glue 81 = .ok (.iload_n 2, 1) := by decide +kernel
theorem dX6_glue_82 : decode cX6_glue 82 = .ok (.iadd, 1) := by decide +kernel
theorem dX6_glue_83 : decode cX6_glue 83 = .ok (.iconst 4, 1) := by decide +kernel
theorem dX6_glue_84 : decode cX6_glue 84 = .ok (.iload_n 3, 1) := by decide +kernel
theorem dX6_glue_85 : decode cX6_glue 85 = .ok (.imul, 1) := by decide +kernel
theorem dX6_glue_86 : decode cX6_glue 86 = .ok (.iload 4, 2) := by decide +kernel
theorem dX6_glue_88 : decode cX6_glue 88 = .ok (.iadd, 1) := by decide +kernel
theorem dX6_glue_89 : decode cX6_glue 89 = .ok (.invokevirtual 93, 3) := by decide +kernel
theorem dX6_glue_92 : decode cX6_glue 92 = .ok (.iconst 1, 1) := by decide +kernel
theorem dX6_glue_93 : decode cX6_glue 93 = .ok (.ireturn, 1) := by decide +kernel
theorem dX6_cut_0 : decode cX6_cut 0 = .ok (.aload_n 0, 1) := by decide +kernel
theorem dX6_cut_1 : decode cX6_cut 1 = .ok (.iload_n 1, 1) := by decide +kernel
theorem dX6_cut_2 : decode cX6_cut 2 = .ok (.iload_n 2, 1) := by decide +kernel
theorem dX6_cut_3 : decode cX6_cut 3 = .ok (.invokevirtual 88, 3) := by decide +kernel
theorem dX6_cut_6 : decode cX6_cut 6 = .ok (.ifCond .ne 10, 3) := by decide +kernel
theorem dX6_cut_9 : decode cX6_cut 9 = .ok (.aload_n 0, 1) := by decide +kernel
theorem dX6_cut_10 : decode cX6_cut 10 = .ok (.ldc 44, 2) := by decide +kernel
theorem dX6_cut_12 : decode cX6_cut 12 = .ok (.invokevirtual 69, 3) := by decide +kernel
theorem dX6_cut_15 : decode cX6_cut 15 = .ok (.ireturn, 1) := by decide +kernel
theorem dX6_cut_16 : decode cX6_cut 16 = .ok (.aload_n 0, 1) := by decide +kernel
theorem dX6_cut_17 : decode cX6_cut 17 = .ok (.getfield 7, 3) := by decide +kernel
theorem dX6_cut_20 : decode cX6_cut 20 = .ok (.bipush 18, 2) := by decide +kernel
theorem dX6_cut_22 : decode cX6_cut 22 = .ok (.iconst 4, 1) := by decide +kernel
theorem dX6_cut_23 : decode cX6_cut 23 = .ok (.iload_n 1, 1) := by decide +kernel
theorem dX6_cut_24 : decode cX6_cut 24 = .ok (.imul, 1) := by decide +kernel
theorem dX6_cut_25 : decode cX6_cut 25 = .ok (.iadd, 1) := by decide +kernel
theorem dX6_cut_26 : decode cX6_cut 26 = .ok (.iload_n 2, 1) := by decide +kernel
theorem dX6_cut_27 : decode cX6_cut 27 = .ok (.iadd, 1) := by decide +kernel
theorem dX6_cut_28 : decode cX6_cut 28 = .ok (.iaload, 1) := by decide +kernel
theorem dX6_cut_29 : decode cX6_cut 29 = .ok (.istore_n 3, 1) := by decide +kernel
theorem dX6_cut_30 : decode cX6_cut 30 = .ok (.iload_n 3, 1) := by decide +kernel
theorem dX6_cut_31 : decode cX6_cut 31 = .ok (.ifCond .ne 10, 3) := by decide +kernel
theorem dX6_cut_34 : decode cX6_cut 34 = .ok (.aload_n 0, 1) := by decide +kernel
theorem dX6_cut_35 : decode cX6_cut 35 = .ok (.ldc 92, 2) := by decide +kernel
theorem dX6_cut_37 : decode cX6_cut 37 = .ok (.invokevirtual 69, 3) := by decide +kernel
theorem dX6_cut_40 : decode cX6_cut 40 = .ok (.ireturn, 1) := by decide +kernel
theorem dX6_cut_41 : decode cX6_cut 41 = .ok (.aload_n 0, 1) := by decide +kernel
theorem dX6_cut_42 : decode cX6_cut 42 = .ok (.iconst 4, 1) := by decide +kernel
theorem dX6_cut_43 : decode cX6_cut 43 = .ok (.iload_n 1, 1) := by decide +kernel
theorem dX6_cut_44 : decode cX6_cut 44 = .ok (.imul, 1) := by decide +kernel
theorem dX6_cut_45 : decode cX6_cut 45 = .ok (.iload_n 2, 1) := by decide +kernel
theorem dX6_cut_46 : decode cX6_cut 46 = .ok (.iadd, 1) := by decide +kernel
theorem dX6_cut_47 : decode cX6_cut 47 = .ok (.invokevirtual 97, 3) := by decide +kernel
theorem dX6_cut_50 : decode cX6_cut 50 = .ok (.iload_n 3, 1) := by decide +kernel
theorem dX6_cut_51 : decode cX6_cut 51 = .ok (.iconst 1, 1) := by decide +kernel
theorem dX6_cut_52 : decode cX6_cut 52 = .ok (.isub, 1) := by decide +kernel
theorem dX6_cut_53 : decode cX6_cut 53 = .ok (.ireturn, 1) := by decide +kernel
theorem dX6_over_0 : decode cX6_over 0 = .ok (.aload_n 0, 1) := by decide +kernel
theorem dX6_over_1 : decode cX6_over 1 = .ok (.iload_n 1, 1) := by decide +kernel
theorem dX6_over_2 : decode cX6_over 2 = .ok (.iload_n 2, 1) := by decide +kernel
theorem dX6_over_3 : decode cX6_over 3 = .ok (.invokevirtual 88, 3) := by decide +kernel
theorem dX6_over_6 : decode cX6_over 6 = .ok (.ifCond .ne 10, 3) := by decide +kernel
theorem dX6_over_9 : decode cX6_over 9 = .ok (.aload_n 0, 1) := by decide +kernel
theorem dX6_over_10 : decode cX6_over 10 = .ok (.ldc 44, 2) := by decide +kernel
theorem dX6_over_12 : decode cX6_over 12 = .ok (.invokevirtual 69, 3) := by decide +kernel
theorem dX6_over_15 : decode cX6_over 15 = .ok (.ireturn, 1) := by decide +kernel
theorem dX6_over_16 : decode cX6_over 16 = .ok (.aload_n 0, 1) := by decide +kernel
theorem dX6_over_17 : decode cX6_over 17 = .ok (.getfield 7, 3) := by decide +kernel
theorem dX6_over_20 : decode cX6_over 20 = .ok (.bipush 18, 2) := by decide +kernel
theorem dX6_over_22 : decode cX6_over 22 = .ok (.iconst 4, 1) := by decide +kernel
theorem dX6_over_23 : decode cX6_over 23 = .ok (.iload_n 1, 1) := by decide +kernel
theorem dX6_over_24 : decode cX6_over 24 = .ok (.imul, 1) := by decide +kernel
theorem dX6_over_25 : decode cX6_over 25 = .ok (.iadd, 1) := by decide +kernel
theorem dX6_over_26 : decode cX6_over 26 = .ok (.iload_n 2, 1) := by decide +kernel
theorem dX6_over_27 : decode cX6_over 27 = .ok (.iadd, 1) := by decide +kernel
theorem dX6_over_28 : decode cX6_over 28 = .ok (.iaload, 1) := by decide +kernel
theorem dX6_over_29 : decode cX6_over 29 = .ok (.istore_n 3, 1) := by decide +kernel
theorem dX6_over_30 : decode cX6_over 30 = .ok (.iload_n 3, 1) := by decide +kernel
theorem dX6_over_31 : decode cX6_over 31 = .ok (.ifCond .ne 12, 3) := by decide +kernel
theorem dX6_over_34 : decode cX6_over 34 = .ok (.aload_n 0, 1) := by decide +kernel
theorem dX6_over_35 : decode cX6_over 35 = .ok (.ldc 101, 2) := by decide +kernel
theorem dX6_over_37 : decode cX6_over 37 = .ok (.invokevirtual 69, 3) := by decide +kernel
theorem dX6_over_40 : decode cX6_over 40 = .ok (.goto 6, 3) := by decide +kernel
theorem dX6_over_43 : decode cX6_over 43 = .ok (.iload_n 3, 1) := by decide +kernel
theorem dX6_over_44 : decode cX6_over 44 = .ok (.iconst 1, 1) := by decide +kernel
theorem dX6_over_45 : decode cX6_over 45 = .ok (.isub, 1) := by decide +kernel
theorem dX6_over_46 : decode cX6_over 46 = .ok (.ireturn, 1) := by decide +kernel
theorem dX6_onward_0 : decode cX6_onward 0 = .ok (.aload_n 0, 1) := by decide +kernel
theorem dX6_onward_1 : decode cX6_onward 1 = .ok (.getfield 7, 3) := by decide +kernel
theorem dX6_onward_4 : decode cX6_onward 4 = .ok (.bipush 18, 2) := by decide +kernel
theorem dX6_onward_6 : decode cX6_onward 6 = .ok (.iload_n 1, 1) := by decide +kernel
theorem dX6_onward_7 : decode cX6_onward 7 = .ok (.iadd, 1) := by decide +kernel
theorem dX6_onward_8 : decode cX6_onward 8 = .ok (.iaload, 1) := by decide +kernel
theorem dX6_onward_9 : decode cX6_onward 9 = .ok (.iconst 1, 1) := by decide +kernel
theorem dX6_onward_10 : decode cX6_onward 10 = .ok (.isub, 1) := by decide +kernel
theorem dX6_onward_11 : decode cX6_onward 11 = .ok (.istore_n 2, 1) := by decide +kernel
theorem dX6_onward_12 : decode cX6_onward 12 = .ok (.iload_n 2, 1) := by decide +kernel
theorem dX6_onward_13 : decode cX6_onward 13 = .ok (.ifCond .ge 7, 3) := by decide +kernel
theorem dX6_onward_16 : decode cX6_onward 16 = .ok (.iconst (-1), 1) := by decide +kernel
theorem dX6_onward_17 : decode cX6_onward 17 = .ok (.goto 14, 3) := by decide +kernel
theorem dX6_onward_20 : decode cX6_onward 20 = .ok (.iload_n 2, 1) := by decide +kernel
theorem dX6_onward_21 : decode cX6_onward 21 = .ok (.iconst 4, 1) := by decide +kernel
theorem dX6_onward_22 : decode cX6_onward 22 = .ok (.idiv, 1) := by decide +kernel
theorem dX6_onward_23 : decode cX6_onward 23 = .ok (.iconst 4, 1) := by decide +kernel
theorem dX6_onward_24 : decode cX6_onward 24 = .ok (.imul, 1) := by decide +kernel
theorem dX6_onward_25 : decode cX6_onward 25 = .ok (.iload_n 2, 1) := by decide +kernel
theorem dX6_onward_26 : decode cX6_onward 26 = .ok (.iconst 2, 1) := by decide +kernel
theorem dX6_onward_27 : decode cX6_onward 27 = .ok (.iadd, 1) := by decide +kernel
theorem dX6_onward_28 : decode cX6_onward 28 = .ok (.iconst 4, 1) := by decide +kernel
theorem dX6_onward_29 : decode cX6_onward 29 = .ok (.irem, 1) := by decide +kernel
theorem dX6_onward_30 : decode cX6_onward 30 = .ok (.iadd, 1) := by decide +kernel
theorem dX6_onward_31 : decode cX6_onward 31 = .ok (.ireturn, 1) := by decide +kernel
theorem dX6_walker_0 : decode cX6_walker 0 = .ok (.iload_n 1, 1) := by decide +kernel
theorem dX6_walker_1 : decode cX6_walker 1 = .ok (.invokestatic 102, 3) := by decide +kernel
theorem dX6_walker_4 : decode cX6_walker 4 = .ok (.ifCond .eq 12, 3) := by decide +kernel
theorem dX6_walker_7 : decode cX6_walker 7 = .ok (.aload_n 0, 1) := by decide +kernel
theorem dX6_walker_8 : decode cX6_walker 8 = .ok (.iload_n 2, 1) := by decide +kernel
theorem dX6_walker_9 : decode cX6_walker 9 = .ok (.iload_n 3, 1) := by decide +kernel
theorem dX6_walker_10 : decode cX6_walker 10 = .ok (.invokevirtual 88, 3) := by decide +kernel
theorem dX6_walker_13 : decode cX6_walker 13 = .ok (.ifCond .ne 10, 3) := by decide +kernel
theorem dX6_walker_16 : decode cX6_walker 16 = .ok (.aload_n 0, 1) := by decide +kernel
theorem dX6_walker_17 : decode cX6_walker 17 = .ok (.ldc 44, 2) := by decide +kernel
theorem dX6_walker_19 : decode cX6_walker 19 = .ok (.invokevirtual 69, 3) := by decide +kernel
theorem dX6_walker_22 : decode cX6_walker 22 = .ok (.ireturn, 1) := by decide +kernel
theorem dX6_walker_23 : decode cX6_walker 23 = .ok (.aload_n 0, 1) := by decide +kernel
theorem dX6_walker_24 : decode cX6_walker 24 = .ok (.getfield 7, 3) := by decide +kernel
theorem dX6_walker_27 : decode cX6_walker 27 = .ok (.iconst 1, 1) := by decide +kernel
theorem dX6_walker_28 : decode cX6_walker 28 = .ok (.iaload, 1) := by decide +kernel
theorem dX6_walker_29 : decode cX6_walker 29 = .ok (.bipush 6, 2) := by decide +kernel
theorem dX6_walker_31 : decode cX6_walker 31 = .ok (.if_icmp .ne 12, 3) := by decide +kernel
theorem dX6_walker_34 : decode cX6_walker 34 = .ok (.aload_n 0, 1) := by decide +kernel
theorem dX6_walker_35 : decode cX6_walker 35 = .ok (.ldc 73, 2) := by decide +kernel
theorem dX6_walker_37 : decode cX6_walker 37 = .ok (.invokevirtual 69, 3) := by decide +kernel
theorem dX6_walker_40 : decode cX6_walker 40 = .ok (.goto 10, 3) := by decide +kernel
theorem dX6_walker_43 : decode cX6_walker 43 = .ok (.aload_n 0, 1) := by decide +kernel
theorem dX6_walker_44 : decode cX6_walker 44 = .ok (.iload_n 1, 1) := by decide +kernel
theorem dX6_walker_45 : decode cX6_walker 45 = .ok (.iload_n 2, 1) := by decide +kernel
theorem dX6_walker_46 : decode cX6_walker 46 = .ok (.iload_n 3, 1) := by decide +kernel
theorem dX6_walker_47 : decode cX6_walker 47 = .ok (.invokevirtual 105, 3) := by decide +kernel
theorem dX6_walker_50 : decode cX6_walker 50 = .ok (.ireturn, 1) := by decide +kernel
theorem dX6_comes_0 : decode cX6_comes 0 = .ok (.aload_n 0, 1) := by decide +kernel
theorem dX6_comes_1 : decode cX6_comes 1 = .ok (.getfield 7, 3) := by decide +kernel
theorem dX6_comes_4 : decode cX6_comes 4 = .ok (.iconst 1, 1) := by decide +kernel
theorem dX6_comes_5 : decode cX6_comes 5 = .ok (.iaload, 1) := by decide +kernel
theorem dX6_comes_6 : decode cX6_comes 6 = .ok (.istore 4, 2) := by decide +kernel
theorem dX6_comes_8 : decode cX6_comes 8 = .ok (.aload_n 0, 1) := by decide +kernel
theorem dX6_comes_9 : decode cX6_comes 9 = .ok (.getfield 7, 3) := by decide +kernel
theorem dX6_comes_12 : decode cX6_comes 12 = .ok (.iload 4, 2) := by decide +kernel
theorem dX6_comes_14 : decode cX6_comes 14 = .ok (.iconst 0, 1) := by decide +kernel
theorem dX6_comes_15 : decode cX6_comes 15 = .ok (.invokestatic 60, 3) := by decide +kernel
theorem dX6_comes_18 : decode cX6_comes 18 = .ok (.iload_n 1, 1) := by decide +kernel
theorem dX6_comes_19 : decode cX6_comes 19 = .ok (.iastore, 1) := by decide +kernel
theorem dX6_comes_20 : decode cX6_comes 20 = .ok (.aload_n 0, 1) := by decide +kernel
theorem dX6_comes_21 : decode cX6_comes 21 = .ok (.getfield 7, 3) := by decide +kernel
theorem dX6_comes_24 : decode cX6_comes 24 = .ok (.iload 4, 2) := by decide +kernel
theorem dX6_comes_26 : decode cX6_comes 26 = .ok (.iconst 1, 1) := by decide +kernel
theorem dX6_comes_27 : decode cX6_comes 27 = .ok (.invokestatic 60, 3) := by decide +kernel
theorem dX6_comes_30 : decode cX6_comes 30 = .ok (.iload_n 2, 1) := by decide +kernel
theorem dX6_comes_31 : decode cX6_comes 31 = .ok (.iastore, 1) := by decide +kernel
theorem dX6_comes_32 : decode cX6_comes 32 = .ok (.aload_n 0, 1) := by decide +kernel
theorem dX6_comes_33 : decode cX6_comes 33 = .ok (.getfield 7, 3) := by decide +kernel
theorem dX6_comes_36 : decode cX6_comes 36 = .ok (.iload 4, 2) := by decide +kernel
theorem dX6_comes_38 : decode cX6_comes 38 = .ok (.iconst 2, 1) := by decide +kernel
theorem dX6_comes_39 : decode cX6_comes 39 = .ok (.invokestatic 60, 3) := by decide +kernel
theorem dX6_comes_42 : decode cX6_comes 42 = .ok (.iload_n 3, 1) := by decide +kernel
theorem dX6_comes_43 : decode cX6_comes 43 = .ok (.iastore, 1) := by decide +kernel
theorem dX6_comes_44 : decode cX6_comes 44 = .ok (.aload_n 0, 1) := by decide +kernel
theorem dX6_comes_45 : decode cX6_comes 45 = .ok (.getfield 7, 3) := by decide +kernel
theorem dX6_comes_48 : decode cX6_comes 48 = .ok (.iload 4, 2) := by decide +kernel
theorem dX6_comes_50 : decode cX6_comes 50 = .ok (.iconst 3, 1) := by decide +kernel
theorem dX6_comes_51 : decode cX6_comes 51 = .ok (.invokestatic 60, 3) := by decide +kernel
theorem dX6_comes_54 : decode cX6_comes 54 = .ok (.iconst 0, 1) := by decide +kernel
theorem dX6_comes_55 : decode cX6_comes 55 = .ok (.iastore, 1) := by decide +kernel
theorem dX6_comes_56 : decode cX6_comes 56 = .ok (.aload_n 0, 1) := by decide +kernel
theorem dX6_comes_57 : decode cX6_comes 57 = .ok (.getfield 7, 3) := by decide +kernel
theorem dX6_comes_60 : decode cX6_comes 60 = .ok (.iload 4, 2) := by decide +kernel
theorem dX6_comes_62 : decode cX6_comes 62 = .ok (.iconst 4, 1) := by decide +kernel
theorem dX6_comes_63 : decode cX6_comes 63 = .ok (.invokestatic 60, 3) := by decide +kernel
theorem dX6_comes_66 : decode cX6_comes 66 = .ok (.iconst 0, 1) := by decide +kernel
theorem dX6_comes_67 : decode cX6_comes 67 = .ok (.iastore, 1) := by decide +kernel
theorem dX6_comes_68 : decode cX6_comes 68 = .ok (.aload_n 0, 1) := by decide +kernel
theorem dX6_comes_69 : decode cX6_comes 69 = .ok (.getfield 7, 3) := by decide +kernel
theorem dX6_comes_72 : decode cX6_comes 72 = .ok (.iconst 1, 1) := by decide +kernel
theorem dX6_comes_73 : decode cX6_comes 73 = .ok (.dup2, 1) := by decide +kernel
theorem dX6_comes_74 : decode cX6_comes 74 = .ok (.iaload, 1) := by decide +kernel
theorem dX6_comes_75 : decode cX6_comes 75 = .ok (.iconst 1, 1) := by decide +kernel
theorem dX6_comes_76 : decode cX6_comes 76 = .ok (.iadd, 1) := by decide +kernel
theorem dX6_comes_77 : decode cX6_comes 77 = .ok (.iastore, 1) := by decide +kernel
theorem dX6_comes_78 : decode cX6_comes 78 = .ok (.iload 4, 2) := by decide +kernel
theorem dX6_comes_80 : decode cX6_comes 80 = .ok (.ireturn, 1) := by decide +kernel
theorem dX6_pays_0 : decode cX6_pays 0 = .ok (.iload_n 0, 1) := by decide +kernel
theorem dX6_pays_1 : decode cX6_pays 1 = .ok (.tableswitch 53 2 4 #[27, 41, 33], 27) := by decide +kernel
theorem dX6_pays_28 : decode cX6_pays 28 = .ok (.iconst 1, 1) := by decide +kernel
theorem dX6_pays_29 : decode cX6_pays 29 = .ok (.iload_n 1, 1) := by decide +kernel
theorem dX6_pays_30 : decode cX6_pays 30 = .ok (.iconst 3, 1) := by decide +kernel
theorem dX6_pays_31 : decode cX6_pays 31 = .ok (.idiv, 1) := by decide +kernel
theorem dX6_pays_32 : decode cX6_pays 32 = .ok (.iadd, 1) := by decide +kernel
theorem dX6_pays_33 : decode cX6_pays 33 = .ok (.ireturn, 1) := by decide +kernel
theorem dX6_pays_34 : decode cX6_pays 34 = .ok (.iconst 1, 1) := by decide +kernel
theorem dX6_pays_35 : decode cX6_pays 35 = .ok (.iload_n 1, 1) := by decide +kernel
theorem dX6_pays_36 : decode cX6_pays 36 = .ok (.iconst 3, 1) := by decide +kernel
theorem dX6_pays_37 : decode cX6_pays 37 = .ok (.idiv, 1) := by decide +kernel
theorem dX6_pays_38 : decode cX6_pays 38 = .ok (.iadd, 1) := by decide +kernel
theorem dX6_pays_39 : decode cX6_pays 39 = .ok (.iload_n 1, 1) := by decide +kernel
theorem dX6_pays_40 : decode cX6_pays 40 = .ok (.iadd, 1) := by decide +kernel
theorem dX6_pays_41 : decode cX6_pays 41 = .ok (.ireturn, 1) := by decide +kernel
theorem dX6_pays_42 : decode cX6_pays 42 = .ok (.iload_n 1, 1) := by decide +kernel
theorem dX6_pays_43 : decode cX6_pays 43 = .ok (.bipush 9, 2) := by decide +kernel
theorem dX6_pays_45 : decode cX6_pays 45 = .ok (.if_icmp .ne 7, 3) := by decide +kernel
theorem dX6_pays_48 : decode cX6_pays 48 = .ok (.iconst 2, 1) := by decide +kernel
theorem dX6_pays_49 : decode cX6_pays 49 = .ok (.goto 4, 3) := by decide +kernel
theorem dX6_pays_52 : decode cX6_pays 52 = .ok (.iconst 1, 1) := by decide +kernel
theorem dX6_pays_53 : decode cX6_pays 53 = .ok (.ireturn, 1) := by decide +kernel
theorem dX6_pays_54 : decode cX6_pays 54 = .ok (.iconst 1, 1) := by decide +kernel
theorem dX6_pays_55 : decode cX6_pays 55 = .ok (.ireturn, 1) := by decide +kernel
theorem dX6_quarters_0 : decode cX6_quarters 0 = .ok (.iload_n 0, 1) := by decide +kernel
theorem dX6_quarters_1 : decode cX6_quarters 1 = .ok (.tableswitch 58 2 5 #[31, 42, 31, 54], 31) := by decide +kernel
theorem dX6_quarters_32 : decode cX6_quarters 32 = .ok (.iload_n 1, 1) := by decide +kernel
theorem dX6_quarters_33 : decode cX6_quarters 33 = .ok (.iconst 5, 1) := by decide +kernel
theorem dX6_quarters_34 : decode cX6_quarters 34 = .ok (.if_icmp .lt 7, 3) := by decide +kernel
theorem dX6_quarters_37 : decode cX6_quarters 37 = .ok (.iconst 1, 1) := by decide +kernel
theorem dX6_quarters_38 : decode cX6_quarters 38 = .ok (.goto 4, 3) := by decide +kernel
theorem dX6_quarters_41 : decode cX6_quarters 41 = .ok (.iconst 0, 1) := by decide +kernel
theorem dX6_quarters_42 : decode cX6_quarters 42 = .ok (.ireturn, 1) := by decide +kernel
theorem dX6_quarters_43 : decode cX6_quarters 43 = .ok (.iload_n 2, 1) := by decide +kernel
theorem dX6_quarters_44 : decode cX6_quarters 44 = .ok (.iconst 3, 1) := by decide +kernel
theorem dX6_quarters_45 : decode cX6_quarters 45 = .ok (.irem, 1) := by decide +kernel
theorem dX6_quarters_46 : decode cX6_quarters 46 = .ok (.ifCond .ne 7, 3) := by decide +kernel
theorem dX6_quarters_49 : decode cX6_quarters 49 = .ok (.iconst 3, 1) := by decide +kernel
theorem dX6_quarters_50 : decode cX6_quarters 50 = .ok (.goto 4, 3) := by decide +kernel
theorem dX6_quarters_53 : decode cX6_quarters 53 = .ok (.iconst 0, 1) := by decide +kernel
theorem dX6_quarters_54 : decode cX6_quarters 54 = .ok (.ireturn, 1) := by decide +kernel
theorem dX6_quarters_55 : decode cX6_quarters 55 = .ok (.iload_n 2, 1) := by decide +kernel
theorem dX6_quarters_56 : decode cX6_quarters 56 = .ok (.iconst 2, 1) := by decide +kernel
theorem dX6_quarters_57 : decode cX6_quarters 57 = .ok (.irem, 1) := by decide +kernel
theorem dX6_quarters_58 : decode cX6_quarters 58 = .ok (.ireturn, 1) := by decide +kernel
theorem dX6_quarters_59 : decode cX6_quarters 59 = .ok (.iconst 0, 1) := by decide +kernel
theorem dX6_quarters_60 : decode cX6_quarters 60 = .ok (.ireturn, 1) := by decide +kernel
theorem dX6_atBump_0 : decode cX6_atBump 0 = .ok (.iload_n 0, 1) := by decide +kernel
theorem dX6_atBump_1 : decode cX6_atBump 1 = .ok (.tableswitch 42 1 5 #[35, 42, 35, 37, 39], 35) := by decide +kernel
theorem dX6_atBump_36 : decode cX6_atBump 36 = .ok (.iconst 3, 1) := by decide +kernel
theorem dX6_atBump_37 : decode cX6_atBump 37 = .ok (.ireturn, 1) := by decide +kernel
theorem dX6_atBump_38 : decode cX6_atBump 38 = .ok (.iconst 5, 1) := by decide +kernel
theorem dX6_atBump_39 : decode cX6_atBump 39 = .ok (.ireturn, 1) := by decide +kernel
theorem dX6_atBump_40 : decode cX6_atBump 40 = .ok (.bipush 6, 2) := by decide +kernel
theorem dX6_atBump_42 : decode cX6_atBump 42 = .ok (.ireturn, 1) := by decide +kernel
theorem dX6_atBump_43 : decode cX6_atBump 43 = .ok (.iconst 2, 1) := by decide +kernel
theorem dX6_atBump_44 : decode cX6_atBump 44 = .ok (.ireturn, 1) := by decide +kernel
theorem dX6_goes_0 : decode cX6_goes 0 = .ok (.aload_n 0, 1) := by decide +kernel
theorem dX6_goes_1 : decode cX6_goes 1 = .ok (.iload_n 1, 1) := by decide +kernel
theorem dX6_goes_2 : decode cX6_goes 2 = .ok (.iconst 0, 1) := by decide +kernel
theorem dX6_goes_3 : decode cX6_goes 3 = .ok (.invokevirtual 64, 3) := by decide +kernel
theorem dX6_goes_6 : decode cX6_goes 6 = .ok (.istore_n 2, 1) := by decide +kernel
theorem dX6_goes_7 : decode cX6_goes 7 = .ok (.aload_n 0, 1) := by decide +kernel
theorem dX6_goes_8 : decode cX6_goes 8 = .ok (.aload_n 0, 1) := by decide +kernel
theorem dX6_goes_9 : decode cX6_goes 9 = .ok (.iload_n 1, 1) := by decide +kernel
theorem dX6_goes_10 : decode cX6_goes 10 = .ok (.invokevirtual 109, 3) := by decide +kernel
theorem dX6_goes_13 : decode cX6_goes 13 = .ok (.invokevirtual 112, 3) := by decide +kernel
theorem dX6_goes_16 : decode cX6_goes 16 = .ok (.istore_n 3, 1) := by decide +kernel
theorem dX6_goes_17 : decode cX6_goes 17 = .ok (.iload_n 3, 1) := by decide +kernel
theorem dX6_goes_18 : decode cX6_goes 18 = .ok (.ifCond .ge 17, 3) := by decide +kernel
theorem dX6_goes_21 : decode cX6_goes 21 = .ok (.aload_n 0, 1) := by decide +kernel
theorem dX6_goes_22 : decode cX6_goes 22 = .ok (.iload_n 1, 1) := by decide +kernel
theorem dX6_goes_23 : decode cX6_goes 23 = .ok (.iconst 2, 1) := by decide +kernel
theorem dX6_goes_24 : decode cX6_goes 24 = .ok (.invokevirtual 64, 3) := by decide +kernel
theorem dX6_goes_27 : decode cX6_goes 27 = .ok (.iload_n 2, 1) := by decide +kernel
theorem dX6_goes_28 : decode cX6_goes 28 = .ok (.invokestatic 115, 3) := by decide +kernel
theorem dX6_goes_31 : decode cX6_goes 31 = .ok (.iadd, 1) := by decide +kernel
theorem dX6_goes_32 : decode cX6_goes 32 = .ok (.goto 6, 3) := by decide +kernel
theorem dX6_goes_35 : decode cX6_goes 35 = .ok (.iload_n 3, 1) := by decide +kernel
theorem dX6_goes_36 : decode cX6_goes 36 = .ok (.iconst 4, 1) := by decide +kernel
theorem dX6_goes_37 : decode cX6_goes 37 = .ok (.irem, 1) := by decide +kernel
theorem dX6_goes_38 : decode cX6_goes 38 = .ok (.istore 4, 2) := by decide +kernel
theorem dX6_goes_40 : decode cX6_goes 40 = .ok (.iload_n 3, 1) := by decide +kernel
theorem dX6_goes_41 : decode cX6_goes 41 = .ok (.ifCond .ge 20, 3) := by decide +kernel
theorem dX6_goes_44 : decode cX6_goes 44 = .ok (.aload_n 0, 1) := by decide +kernel
theorem dX6_goes_45 : decode cX6_goes 45 = .ok (.getfield 7, 3) := by decide +kernel
theorem dX6_goes_48 : decode cX6_goes 48 = .ok (.iload_n 1, 1) := by decide +kernel
theorem dX6_goes_49 : decode cX6_goes 49 = .ok (.iconst 4, 1) := by decide +kernel
theorem dX6_goes_50 : decode cX6_goes 50 = .ok (.invokestatic 60, 3) := by decide +kernel
theorem dX6_goes_53 : decode cX6_goes 53 = .ok (.dup2, 1) := by decide +kernel
theorem dX6_goes_54 : decode cX6_goes 54 = .ok (.iaload, 1) := by decide +kernel
theorem dX6_goes_55 : decode cX6_goes 55 = .ok (.iconst 1, 1) := by decide +kernel
theorem dX6_goes_56 : decode cX6_goes 56 = .ok (.iadd, 1) := by decide +kernel
theorem dX6_goes_57 : decode cX6_goes 57 = .ok (.iastore, 1) := by decide +kernel
theorem dX6_goes_58 : decode cX6_goes 58 = .ok (.goto 64, 3) := by decide +kernel
theorem dX6_goes_61 : decode cX6_goes 61 = .ok (.aload_n 0, 1) := by decide +kernel
theorem dX6_goes_62 : decode cX6_goes 62 = .ok (.getfield 7, 3) := by decide +kernel
theorem dX6_goes_65 : decode cX6_goes 65 = .ok (.iconst 2, 1) := by decide +kernel
theorem dX6_goes_66 : decode cX6_goes 66 = .ok (.iload_n 3, 1) := by decide +kernel
theorem dX6_goes_67 : decode cX6_goes 67 = .ok (.iconst 4, 1) := by decide +kernel
theorem dX6_goes_68 : decode cX6_goes 68 = .ok (.idiv, 1) := by decide +kernel
theorem dX6_goes_69 : decode cX6_goes 69 = .ok (.iadd, 1) := by decide +kernel
theorem dX6_goes_70 : decode cX6_goes 70 = .ok (.iaload, 1) := by decide +kernel
theorem dX6_goes_71 : decode cX6_goes 71 = .ok (.istore 5, 2) := by decide +kernel
theorem dX6_goes_73 : decode cX6_goes 73 = .ok (.aload_n 0, 1) := by decide +kernel
theorem dX6_goes_74 : decode cX6_goes 74 = .ok (.getfield 7, 3) := by decide +kernel
theorem dX6_goes_77 : decode cX6_goes 77 = .ok (.iload_n 1, 1) := by decide +kernel
theorem dX6_goes_78 : decode cX6_goes 78 = .ok (.iconst 1, 1) := by decide +kernel
theorem dX6_goes_79 : decode cX6_goes 79 = .ok (.invokestatic 60, 3) := by decide +kernel
theorem dX6_goes_82 : decode cX6_goes 82 = .ok (.iload_n 3, 1) := by decide +kernel
theorem dX6_goes_83 : decode cX6_goes 83 = .ok (.iconst 4, 1) := by decide +kernel
theorem dX6_goes_84 : decode cX6_goes 84 = .ok (.idiv, 1) := by decide +kernel
theorem dX6_goes_85 : decode cX6_goes 85 = .ok (.iastore, 1) := by decide +kernel
theorem dX6_goes_86 : decode cX6_goes 86 = .ok (.aload_n 0, 1) := by decide +kernel
theorem dX6_goes_87 : decode cX6_goes 87 = .ok (.getfield 7, 3) := by decide +kernel
theorem dX6_goes_90 : decode cX6_goes 90 = .ok (.iload_n 1, 1) := by decide +kernel
theorem dX6_goes_91 : decode cX6_goes 91 = .ok (.iconst 3, 1) := by decide +kernel
theorem dX6_goes_92 : decode cX6_goes 92 = .ok (.invokestatic 60, 3) := by decide +kernel
theorem dX6_goes_95 : decode cX6_goes 95 = .ok (.dup2, 1) := by decide +kernel
theorem dX6_goes_96 : decode cX6_goes 96 = .ok (.iaload, 1) := by decide +kernel
theorem dX6_goes_97 : decode cX6_goes 97 = .ok (.iload_n 2, 1) := by decide +kernel
theorem dX6_goes_98 : decode cX6_goes 98 = .ok (.iload 5, 2) := by decide +kernel
theorem dX6_goes_100 : decode cX6_goes 100 = .ok (.invokestatic 118, 3) := by decide +kernel
theorem dX6_goes_103 : decode cX6_goes 103 = .ok (.iadd, 1) := by decide +kernel
theorem dX6_goes_104 : decode cX6_goes 104 = .ok (.iastore, 1) := by decide +kernel
theorem dX6_goes_105 : decode cX6_goes 105 = .ok (.iload 4, 2) := by decide +kernel
theorem dX6_goes_107 : decode cX6_goes 107 = .ok (.iload_n 2, 1) := by decide +kernel
theorem dX6_goes_108 : decode cX6_goes 108 = .ok (.iload 5, 2) := by decide +kernel
theorem dX6_goes_110 : decode cX6_goes 110 = .ok (.aload_n 0, 1) := by decide +kernel
theorem dX6_goes_111 : decode cX6_goes 111 = .ok (.iload_n 1, 1) := by decide +kernel
theorem dX6_goes_112 : decode cX6_goes 112 = .ok (.iconst 3, 1) := by decide +kernel
theorem dX6_goes_113 : decode cX6_goes 113 = .ok (.invokevirtual 64, 3) := by decide +kernel
theorem dX6_goes_116 : decode cX6_goes 116 = .ok (.invokestatic 121, 3) := by decide +kernel
theorem dX6_goes_119 : decode cX6_goes 119 = .ok (.iadd, 1) := by decide +kernel
theorem dX6_goes_120 : decode cX6_goes 120 = .ok (.istore 4, 2) := by decide +kernel
theorem dX6_goes_122 : decode cX6_goes 122 = .ok (.aload_n 0, 1) := by decide +kernel
theorem dX6_goes_123 : decode cX6_goes 123 = .ok (.getfield 7, 3) := by decide +kernel
theorem dX6_goes_126 : decode cX6_goes 126 = .ok (.iload_n 1, 1) := by decide +kernel
theorem dX6_goes_127 : decode cX6_goes 127 = .ok (.iconst 2, 1) := by decide +kernel
theorem dX6_goes_128 : decode cX6_goes 128 = .ok (.invokestatic 60, 3) := by decide +kernel
theorem dX6_goes_131 : decode cX6_goes 131 = .ok (.iload 4, 2) := by decide +kernel
theorem dX6_goes_133 : decode cX6_goes 133 = .ok (.iconst 4, 1) := by decide +kernel
theorem dX6_goes_134 : decode cX6_goes 134 = .ok (.irem, 1) := by decide +kernel
theorem dX6_goes_135 : decode cX6_goes 135 = .ok (.iastore, 1) := by decide +kernel
theorem dX6_goes_136 : decode cX6_goes 136 = .ok (.return_, 1) := by decide +kernel
theorem dX6_its_0 : decode cX6_its 0 = .ok (.aload_n 0, 1) := by decide +kernel
theorem dX6_its_1 : decode cX6_its 1 = .ok (.iload_n 1, 1) := by decide +kernel
theorem dX6_its_2 : decode cX6_its 2 = .ok (.invokevirtual 124, 3) := by decide +kernel
theorem dX6_its_5 : decode cX6_its 5 = .ok (.ifCond .eq 15, 3) := by decide +kernel
theorem dX6_its_8 : decode cX6_its 8 = .ok (.iload_n 2, 1) := by decide +kernel
theorem dX6_its_9 : decode cX6_its 9 = .ok (.i2l, 1) := by decide +kernel
theorem dX6_its_10 : decode cX6_its 10 = .ok (.lconst 0, 1) := by decide +kernel
theorem dX6_its_11 : decode cX6_its 11 = .ok (.ldc2_w 51, 3) := by decide +kernel
theorem dX6_its_14 : decode cX6_its 14 = .ok (.invokestatic 45, 3) := by decide +kernel
theorem dX6_its_17 : decode cX6_its 17 = .ok (.ifCond .ne 10, 3) := by decide +kernel
theorem dX6_its_20 : decode cX6_its 20 = .ok (.aload_n 0, 1) := by decide +kernel
theorem dX6_its_21 : decode cX6_its 21 = .ok (.ldc 44, 2) := by decide +kernel
theorem dX6_its_23 : decode cX6_its 23 = .ok (.invokevirtual 69, 3) := by decide +kernel
theorem dX6_its_26 : decode cX6_its 26 = .ok (.ireturn, 1) := by decide +kernel
theorem dX6_its_27 : decode cX6_its 27 = .ok (.iload_n 2, 1) := by decide +kernel
theorem dX6_its_28 : decode cX6_its 28 = .ok (.iconst 5, 1) := by decide +kernel
theorem dX6_its_29 : decode cX6_its 29 = .ok (.if_icmp .ge 12, 3) := by decide +kernel
theorem dX6_its_32 : decode cX6_its 32 = .ok (.aload_n 0, 1) := by decide +kernel
theorem dX6_its_33 : decode cX6_its 33 = .ok (.iload_n 1, 1) := by decide +kernel
theorem dX6_its_34 : decode cX6_its 34 = .ok (.iload_n 2, 1) := by decide +kernel
theorem dX6_its_35 : decode cX6_its 35 = .ok (.invokevirtual 64, 3) := by decide +kernel
theorem dX6_its_38 : decode cX6_its 38 = .ok (.goto 25, 3) := by decide +kernel
theorem dX6_its_41 : decode cX6_its 41 = .ok (.aload_n 0, 1) := by decide +kernel
theorem dX6_its_42 : decode cX6_its 42 = .ok (.iload_n 1, 1) := by decide +kernel
theorem dX6_its_43 : decode cX6_its 43 = .ok (.iconst 0, 1) := by decide +kernel
theorem dX6_its_44 : decode cX6_its 44 = .ok (.invokevirtual 64, 3) := by decide +kernel
theorem dX6_its_47 : decode cX6_its 47 = .ok (.aload_n 0, 1) := by decide +kernel
theorem dX6_its_48 : decode cX6_its 48 = .ok (.getfield 7, 3) := by decide +kernel
theorem dX6_its_51 : decode cX6_its 51 = .ok (.iconst 2, 1) := by decide +kernel
theorem dX6_its_52 : decode cX6_its 52 = .ok (.aload_n 0, 1) := by decide +kernel
theorem dX6_its_53 : decode cX6_its 53 = .ok (.iload_n 1, 1) := by decide +kernel
theorem dX6_its_54 : decode cX6_its 54 = .ok (.iconst 1, 1) := by decide +kernel
theorem dX6_its_55 : decode cX6_its 55 = .ok (.invokevirtual 64, 3) := by decide +kernel
theorem dX6_its_58 : decode cX6_its 58 = .ok (.iadd, 1) := by decide +kernel
theorem dX6_its_59 : decode cX6_its 59 = .ok (.iaload, 1) := by decide +kernel
theorem dX6_its_60 : decode cX6_its 60 = .ok (.invokestatic 118, 3) := by decide +kernel
theorem dX6_its_63 : decode cX6_its 63 = .ok (.ireturn, 1) := by decide +kernel
theorem dX6_stands_0 : decode cX6_stands 0 = .ok (.aload_n 0, 1) := by decide +kernel
theorem dX6_stands_1 : decode cX6_stands 1 = .ok (.getfield 7, 3) := by decide +kernel
theorem dX6_stands_4 : decode cX6_stands 4 = .ok (.iload_n 1, 1) := by decide +kernel
theorem dX6_stands_5 : decode cX6_stands 5 = .ok (.iconst 1, 1) := by decide +kernel
theorem dX6_stands_6 : decode cX6_stands 6 = .ok (.invokestatic 60, 3) := by decide +kernel
theorem dX6_stands_9 : decode cX6_stands 9 = .ok (.iload_n 2, 1) := by decide +kernel
theorem dX6_stands_10 : decode cX6_stands 10 = .ok (.iconst 4, 1) := by decide +kernel
theorem dX6_stands_11 : decode cX6_stands 11 = .ok (.idiv, 1) := by decide +kernel
theorem dX6_stands_12 : decode cX6_stands 12 = .ok (.iastore, 1) := by decide +kernel
theorem dX6_stands_13 : decode cX6_stands 13 = .ok (.aload_n 0, 1) := by decide +kernel
theorem dX6_stands_14 : decode cX6_stands 14 = .ok (.getfield 7, 3) := by decide +kernel
theorem dX6_stands_17 : decode cX6_stands 17 = .ok (.iload_n 1, 1) := by decide +kernel
theorem dX6_stands_18 : decode cX6_stands 18 = .ok (.iconst 2, 1) := by decide +kernel
theorem dX6_stands_19 : decode cX6_stands 19 = .ok (.invokestatic 60, 3) := by decide +kernel
theorem dX6_stands_22 : decode cX6_stands 22 = .ok (.iload_n 2, 1) := by decide +kernel
theorem dX6_stands_23 : decode cX6_stands 23 = .ok (.iconst 4, 1) := by decide +kernel
theorem dX6_stands_24 : decode cX6_stands 24 = .ok (.irem, 1) := by decide +kernel
theorem dX6_stands_25 : decode cX6_stands 25 = .ok (.iastore, 1) := by decide +kernel
theorem dX6_stands_26 : decode cX6_stands 26 = .ok (.return_, 1) := by decide +kernel
theorem dX6_place_0 : decode cX6_place 0 = .ok (.aload_n 0, 1) := by decide +kernel
theorem dX6_place_1 : decode cX6_place 1 = .ok (.iload_n 1, 1) := by decide +kernel
theorem dX6_place_2 : decode cX6_place 2 = .ok (.invokevirtual 124, 3) := by decide +kernel
theorem dX6_place_5 : decode cX6_place 5 = .ok (.ifCond .eq 12, 3) := by decide +kernel
theorem dX6_place_8 : decode cX6_place 8 = .ok (.aload_n 0, 1) := by decide +kernel
theorem dX6_place_9 : decode cX6_place 9 = .ok (.iload_n 2, 1) := by decide +kernel
theorem dX6_place_10 : decode cX6_place 10 = .ok (.iload_n 3, 1) := by decide +kernel
theorem dX6_place_11 : decode cX6_place 11 = .ok (.invokevirtual 88, 3) := by decide +kernel
theorem dX6_place_14 : decode cX6_place 14 = .ok (.ifCond .ne 10, 3) := by decide +kernel
theorem dX6_place_17 : decode cX6_place 17 = .ok (.aload_n 0, 1) := by decide +kernel
theorem dX6_place_18 : decode cX6_place 18 = .ok (.ldc 44, 2) := by decide +kernel
theorem dX6_place_20 : decode cX6_place 20 = .ok (.invokevirtual 69, 3) := by decide +kernel
theorem dX6_place_23 : decode cX6_place 23 = .ok (.ireturn, 1) := by decide +kernel
theorem dX6_place_24 : decode cX6_place 24 = .ok (.aload_n 0, 1) := by decide +kernel
theorem dX6_place_25 : decode cX6_place 25 = .ok (.iload_n 1, 1) := by decide +kernel
theorem dX6_place_26 : decode cX6_place 26 = .ok (.invokevirtual 109, 3) := by decide +kernel
theorem dX6_place_29 : decode cX6_place 29 = .ok (.istore 4, 2) := by decide +kernel
theorem dX6_place_31 : decode cX6_place 31 = .ok (.aload_n 0, 1) := by decide +kernel
theorem dX6_place_32 : decode cX6_place 32 = .ok (.iload_n 1, 1) := by decide +kernel
theorem dX6_place_33 : decode cX6_place 33 = .ok (.iconst 4, 1) := by decide +kernel
theorem dX6_place_34 : decode cX6_place 34 = .ok (.iload_n 2, 1) := by decide +kernel
theorem dX6_place_35 : decode cX6_place 35 = .ok (.imul, 1) := by decide +kernel
theorem dX6_place_36 : decode cX6_place 36 = .ok (.iload_n 3, 1) := by decide +kernel
theorem dX6_place_37 : decode cX6_place 37 = .ok (.iadd, 1) := by decide +kernel
theorem dX6_place_38 : decode cX6_place 38 = .ok (.invokevirtual 127, 3) := by decide +kernel
theorem dX6_place_41 : decode cX6_place 41 = .ok (.iload 4, 2) := by decide +kernel
theorem dX6_place_43 : decode cX6_place 43 = .ok (.ireturn, 1) := by decide +kernel
theorem dX6_turn_0 : decode cX6_turn 0 = .ok (.aload_n 0, 1) := by decide +kernel
theorem dX6_turn_1 : decode cX6_turn 1 = .ok (.iload_n 1, 1) := by decide +kernel
theorem dX6_turn_2 : decode cX6_turn 2 = .ok (.invokevirtual 124, 3) := by decide +kernel
theorem dX6_turn_5 : decode cX6_turn 5 = .ok (.ifCond .eq 23, 3) := by decide +kernel
theorem dX6_turn_8 : decode cX6_turn 8 = .ok (.iload_n 2, 1) := by decide +kernel
theorem dX6_turn_9 : decode cX6_turn 9 = .ok (.invokestatic 102, 3) := by decide +kernel
theorem dX6_turn_12 : decode cX6_turn 12 = .ok (.ifCond .eq 16, 3) := by decide +kernel
theorem dX6_turn_15 : decode cX6_turn 15 = .ok (.aload_n 0, 1) := by decide +kernel
theorem dX6_turn_16 : decode cX6_turn 16 = .ok (.iload_n 1, 1) := by decide +kernel
theorem dX6_turn_17 : decode cX6_turn 17 = .ok (.iconst 0, 1) := by decide +kernel
theorem dX6_turn_18 : decode cX6_turn 18 = .ok (.invokestatic 60, 3) := by decide +kernel
theorem dX6_turn_21 : decode cX6_turn 21 = .ok (.iload_n 2, 1) := by decide +kernel
theorem dX6_turn_22 : decode cX6_turn 22 = .ok (.invokevirtual 85, 3) := by decide +kernel
theorem dX6_turn_25 : decode cX6_turn 25 = .ok (.goto 9, 3) := by decide +kernel
theorem dX6_turn_28 : decode cX6_turn 28 = .ok (.aload_n 0, 1) := by decide +kernel
theorem dX6_turn_29 : decode cX6_turn 29 = .ok (.ldc 44, 2) := by decide +kernel
theorem dX6_turn_31 : decode cX6_turn 31 = .ok (.invokevirtual 69, 3) := by decide +kernel
theorem dX6_turn_34 : decode cX6_turn 34 = .ok (.ireturn, 1) := by decide +kernel
theorem dX6_above_0 : decode cX6_above 0 = .ok (.iload_n 0, 1) := by decide +kernel
theorem dX6_above_1 : decode cX6_above 1 = .ok (.iconst 3, 1) := by decide +kernel
theorem dX6_above_2 : decode cX6_above 2 = .ok (.if_icmp .eq 8, 3) := by decide +kernel
theorem dX6_above_5 : decode cX6_above 5 = .ok (.iload_n 0, 1) := by decide +kernel
theorem dX6_above_6 : decode cX6_above 6 = .ok (.iconst 5, 1) := by decide +kernel
theorem dX6_above_7 : decode cX6_above 7 = .ok (.if_icmp .ne 7, 3) := by decide +kernel
theorem dX6_above_10 : decode cX6_above 10 = .ok (.iconst 1, 1) := by decide +kernel
theorem dX6_above_11 : decode cX6_above 11 = .ok (.goto 13, 3) := by decide +kernel
theorem dX6_above_14 : decode cX6_above 14 = .ok (.iload_n 0, 1) := by decide +kernel
theorem dX6_above_15 : decode cX6_above 15 = .ok (.iconst 4, 1) := by decide +kernel
theorem dX6_above_16 : decode cX6_above 16 = .ok (.if_icmp .ne 7, 3) := by decide +kernel
theorem dX6_above_19 : decode cX6_above 19 = .ok (.iconst 2, 1) := by decide +kernel
theorem dX6_above_20 : decode cX6_above 20 = .ok (.goto 4, 3) := by decide +kernel
theorem dX6_above_23 : decode cX6_above 23 = .ok (.iconst 0, 1) := by decide +kernel
theorem dX6_above_24 : decode cX6_above 24 = .ok (.ireturn, 1) := by decide +kernel
theorem dX6_as_0 : decode cX6_as 0 = .ok (.aload_n 0, 1) := by decide +kernel
theorem dX6_as_1 : decode cX6_as 1 = .ok (.iload_n 1, 1) := by decide +kernel
theorem dX6_as_2 : decode cX6_as 2 = .ok (.invokevirtual 124, 3) := by decide +kernel
theorem dX6_as_5 : decode cX6_as 5 = .ok (.ifCond .eq 10, 3) := by decide +kernel
theorem dX6_as_8 : decode cX6_as 8 = .ok (.iload_n 2, 1) := by decide +kernel
theorem dX6_as_9 : decode cX6_as 9 = .ok (.invokestatic 102, 3) := by decide +kernel
theorem dX6_as_12 : decode cX6_as 12 = .ok (.ifCond .ne 10, 3) := by decide +kernel
theorem dX6_as_15 : decode cX6_as 15 = .ok (.aload_n 0, 1) := by decide +kernel
theorem dX6_as_16 : decode cX6_as 16 = .ok (.ldc 44, 2) := by decide +kernel
theorem dX6_as_18 : decode cX6_as 18 = .ok (.invokevirtual 69, 3) := by decide +kernel
theorem dX6_as_21 : decode cX6_as 21 = .ok (.ireturn, 1) := by decide +kernel
theorem dX6_as_22 : decode cX6_as 22 = .ok (.aload_n 0, 1) := by decide +kernel
theorem dX6_as_23 : decode cX6_as 23 = .ok (.iload_n 1, 1) := by decide +kernel
theorem dX6_as_24 : decode cX6_as 24 = .ok (.iconst 0, 1) := by decide +kernel
theorem dX6_as_25 : decode cX6_as 25 = .ok (.invokevirtual 64, 3) := by decide +kernel
theorem dX6_as_28 : decode cX6_as 28 = .ok (.istore_n 3, 1) := by decide +kernel
theorem dX6_as_29 : decode cX6_as 29 = .ok (.iload_n 3, 1) := by decide +kernel
theorem dX6_as_30 : decode cX6_as 30 = .ok (.iload_n 2, 1) := by decide +kernel
theorem dX6_as_31 : decode cX6_as 31 = .ok (.if_icmp .eq 15, 3) := by decide +kernel
theorem dX6_as_34 : decode cX6_as 34 = .ok (.iload_n 3, 1) := by decide +kernel
theorem dX6_as_35 : decode cX6_as 35 = .ok (.ifCond .eq 11, 3) := by decide +kernel
theorem dX6_as_38 : decode cX6_as 38 = .ok (.iload_n 3, 1) := by decide +kernel
theorem dX6_as_39 : decode cX6_as 39 = .ok (.invokestatic 130, 3) := by decide +kernel
theorem dX6_as_42 : decode cX6_as 42 = .ok (.istore_n 3, 1) := by decide +kernel
theorem dX6_as_43 : decode cX6_as 43 = .ok (.goto (-14), 3) := by decide +kernel
theorem dX6_as_46 : decode cX6_as 46 = .ok (.iload_n 3, 1) := by decide +kernel
theorem dX6_as_47 : decode cX6_as 47 = .ok (.iload_n 2, 1) := by decide +kernel
theorem dX6_as_48 : decode cX6_as 48 = .ok (.if_icmp .ne 12, 3) := by decide +kernel
theorem dX6_as_51 : decode cX6_as 51 = .ok (.aload_n 0, 1) := by decide +kernel
theorem dX6_as_52 : decode cX6_as 52 = .ok (.iload_n 1, 1) := by decide +kernel
theorem dX6_as_53 : decode cX6_as 53 = .ok (.iconst 3, 1) := by decide +kernel
theorem dX6_as_54 : decode cX6_as 54 = .ok (.invokevirtual 64, 3) := by decide +kernel
theorem dX6_as_57 : decode cX6_as 57 = .ok (.goto 9, 3) := by decide +kernel
theorem dX6_as_60 : decode cX6_as 60 = .ok (.aload_n 0, 1) := by decide +kernel
theorem dX6_as_61 : decode cX6_as 61 = .ok (.ldc 133, 2) := by decide +kernel
theorem dX6_as_63 : decode cX6_as 63 = .ok (.invokevirtual 69, 3) := by decide +kernel
theorem dX6_as_66 : decode cX6_as 66 = .ok (.ireturn, 1) := by decide +kernel
theorem dX6_step_0 : decode cX6_step 0 = .ok (.aload_n 0, 1) := by decide +kernel
theorem dX6_step_1 : decode cX6_step 1 = .ok (.iload_n 1, 1) := by decide +kernel
theorem dX6_step_2 : decode cX6_step 2 = .ok (.invokevirtual 124, 3) := by decide +kernel
theorem dX6_step_5 : decode cX6_step 5 = .ok (.ifCond .ne 10, 3) := by decide +kernel
theorem dX6_step_8 : decode cX6_step 8 = .ok (.aload_n 0, 1) := by decide +kernel
theorem dX6_step_9 : decode cX6_step 9 = .ok (.ldc 44, 2) := by decide +kernel
theorem dX6_step_11 : decode cX6_step 11 = .ok (.invokevirtual 69, 3) := by decide +kernel
theorem dX6_step_14 : decode cX6_step 14 = .ok (.ireturn, 1) := by decide +kernel
theorem dX6_step_15 : decode cX6_step 15 = .ok (.aload_n 0, 1) := by decide +kernel
theorem dX6_step_16 : decode cX6_step 16 = .ok (.iload_n 1, 1) := by decide +kernel
theorem dX6_step_17 : decode cX6_step 17 = .ok (.invokevirtual 134, 3) := by decide +kernel
theorem dX6_step_20 : decode cX6_step 20 = .ok (.aload_n 0, 1) := by decide +kernel
theorem dX6_step_21 : decode cX6_step 21 = .ok (.iload_n 1, 1) := by decide +kernel
theorem dX6_step_22 : decode cX6_step 22 = .ok (.iconst 1, 1) := by decide +kernel
theorem dX6_step_23 : decode cX6_step 23 = .ok (.invokevirtual 64, 3) := by decide +kernel
theorem dX6_step_26 : decode cX6_step 26 = .ok (.ireturn, 1) := by decide +kernel
theorem dX6_allMiles_0 : decode cX6_allMiles 0 = .ok (.iconst 0, 1) := by decide +kernel
theorem dX6_allMiles_1 : decode cX6_allMiles 1 = .ok (.istore_n 1, 1) := by decide +kernel
theorem dX6_allMiles_2 : decode cX6_allMiles 2 = .ok (.iconst 0, 1) := by decide +kernel
theorem dX6_allMiles_3 : decode cX6_allMiles 3 = .ok (.istore_n 2, 1) := by decide +kernel
theorem dX6_allMiles_4 : decode cX6_allMiles 4 = .ok (.iload_n 2, 1) := by decide +kernel
theorem dX6_allMiles_5 : decode cX6_allMiles 5 = .ok (.aload_n 0, 1) := by decide +kernel
theorem dX6_allMiles_6 : decode cX6_allMiles 6 = .ok (.getfield 7, 3) := by decide +kernel
theorem dX6_allMiles_9 : decode cX6_allMiles 9 = .ok (.iconst 1, 1) := by decide +kernel
theorem dX6_allMiles_10 : decode cX6_allMiles 10 = .ok (.iaload, 1) := by decide +kernel
theorem dX6_allMiles_11 : decode cX6_allMiles 11 = .ok (.if_icmp .ge 18, 3) := by decide +kernel
theorem dX6_allMiles_14 : decode cX6_allMiles 14 = .ok (.iload_n 1, 1) := by decide +kernel
theorem dX6_allMiles_15 : decode cX6_allMiles 15 = .ok (.aload_n 0, 1) := by decide +kernel
theorem dX6_allMiles_16 : decode cX6_allMiles 16 = .ok (.iload_n 2, 1) := by decide +kernel
theorem dX6_allMiles_17 : decode cX6_allMiles 17 = .ok (.iconst 3, 1) := by decide +kernel
theorem dX6_allMiles_18 : decode cX6_allMiles 18 = .ok (.invokevirtual 64, 3) := by decide +kernel
theorem dX6_allMiles_21 : decode cX6_allMiles 21 = .ok (.iadd, 1) := by decide +kernel
theorem dX6_allMiles_22 : decode cX6_allMiles 22 = .ok (.istore_n 1, 1) := by decide +kernel
theorem dX6_allMiles_23 : decode cX6_allMiles 23 = .ok (.iinc 2 1, 3) := by decide +kernel
theorem dX6_allMiles_26 : decode cX6_allMiles 26 = .ok (.goto (-22), 3) := by decide +kernel
theorem dX6_allMiles_29 : decode cX6_allMiles 29 = .ok (.iload_n 1, 1) := by decide +kernel
theorem dX6_allMiles_30 : decode cX6_allMiles 30 = .ok (.ireturn, 1) := by decide +kernel
theorem dX6_all_0 : decode cX6_all 0 = .ok (.iconst 0, 1) := by decide +kernel
theorem dX6_all_1 : decode cX6_all 1 = .ok (.istore_n 1, 1) := by decide +kernel
theorem dX6_all_2 : decode cX6_all 2 = .ok (.iload_n 1, 1) := by decide +kernel
theorem dX6_all_3 : decode cX6_all 3 = .ok (.aload_n 0, 1) := by decide +kernel
theorem dX6_all_4 : decode cX6_all 4 = .ok (.getfield 7, 3) := by decide +kernel
theorem dX6_all_7 : decode cX6_all 7 = .ok (.iconst 1, 1) := by decide +kernel
theorem dX6_all_8 : decode cX6_all 8 = .ok (.iaload, 1) := by decide +kernel
theorem dX6_all_9 : decode cX6_all 9 = .ok (.if_icmp .ge 14, 3) := by decide +kernel
theorem dX6_all_12 : decode cX6_all 12 = .ok (.aload_n 0, 1) := by decide +kernel
theorem dX6_all_13 : decode cX6_all 13 = .ok (.iload_n 1, 1) := by decide +kernel
theorem dX6_all_14 : decode cX6_all 14 = .ok (.invokevirtual 134, 3) := by decide +kernel
theorem dX6_all_17 : decode cX6_all 17 = .ok (.iinc 1 1, 3) := by decide +kernel
theorem dX6_all_20 : decode cX6_all 20 = .ok (.goto (-18), 3) := by decide +kernel
theorem dX6_all_23 : decode cX6_all 23 = .ok (.return_, 1) := by decide +kernel
theorem dX6_steps_0 : decode cX6_steps 0 = .ok (.iload_n 1, 1) := by decide +kernel
theorem dX6_steps_1 : decode cX6_steps 1 = .ok (.i2l, 1) := by decide +kernel
theorem dX6_steps_2 : decode cX6_steps 2 = .ok (.lconst 1, 1) := by decide +kernel
theorem dX6_steps_3 : decode cX6_steps 3 = .ok (.ldc2_w 137, 3) := by decide +kernel
theorem dX6_steps_6 : decode cX6_steps 6 = .ok (.invokestatic 45, 3) := by decide +kernel
theorem dX6_steps_9 : decode cX6_steps 9 = .ok (.ifCond .ne 10, 3) := by decide +kernel
theorem dX6_steps_12 : decode cX6_steps 12 = .ok (.aload_n 0, 1) := by decide +kernel
theorem dX6_steps_13 : decode cX6_steps 13 = .ok (.ldc 44, 2) := by decide +kernel
theorem dX6_steps_15 : decode cX6_steps 15 = .ok (.invokevirtual 69, 3) := by decide +kernel
theorem dX6_steps_18 : decode cX6_steps 18 = .ok (.ireturn, 1) := by decide +kernel
theorem dX6_steps_19 : decode cX6_steps 19 = .ok (.iconst 0, 1) := by decide +kernel
theorem dX6_steps_20 : decode cX6_steps 20 = .ok (.istore_n 2, 1) := by decide +kernel
theorem dX6_steps_21 : decode cX6_steps 21 = .ok (.iload_n 2, 1) := by decide +kernel
theorem dX6_steps_22 : decode cX6_steps 22 = .ok (.iload_n 1, 1) := by decide +kernel
theorem dX6_steps_23 : decode cX6_steps 23 = .ok (.if_icmp .ge 13, 3) := by decide +kernel
theorem dX6_steps_26 : decode cX6_steps 26 = .ok (.aload_n 0, 1) := by decide +kernel
theorem dX6_steps_27 : decode cX6_steps 27 = .ok (.invokevirtual 139, 3) := by decide +kernel
theorem dX6_steps_30 : decode cX6_steps 30 = .ok (.iinc 2 1, 3) := by decide +kernel
theorem dX6_steps_33 : decode cX6_steps 33 = .ok (.goto (-12), 3) := by decide +kernel
theorem dX6_steps_36 : decode cX6_steps 36 = .ok (.aload_n 0, 1) := by decide +kernel
theorem dX6_steps_37 : decode cX6_steps 37 = .ok (.invokevirtual 142, 3) := by decide +kernel
theorem dX6_steps_40 : decode cX6_steps 40 = .ok (.ireturn, 1) := by decide +kernel
theorem dX6_on_0 : decode cX6_on 0 = .ok (.aload_n 0, 1) := by decide +kernel
theorem dX6_on_1 : decode cX6_on 1 = .ok (.iload_n 1, 1) := by decide +kernel
theorem dX6_on_2 : decode cX6_on 2 = .ok (.invokevirtual 124, 3) := by decide +kernel
theorem dX6_on_5 : decode cX6_on 5 = .ok (.ifCond .eq 27, 3) := by decide +kernel
theorem dX6_on_8 : decode cX6_on 8 = .ok (.iload_n 2, 1) := by decide +kernel
theorem dX6_on_9 : decode cX6_on 9 = .ok (.i2l, 1) := by decide +kernel
theorem dX6_on_10 : decode cX6_on 10 = .ok (.lconst 0, 1) := by decide +kernel
theorem dX6_on_11 : decode cX6_on 11 = .ok (.ldc2_w 137, 3) := by decide +kernel
theorem dX6_on_14 : decode cX6_on 14 = .ok (.invokestatic 45, 3) := by decide +kernel
theorem dX6_on_17 : decode cX6_on 17 = .ok (.ifCond .eq 15, 3) := by decide +kernel
theorem dX6_on_20 : decode cX6_on 20 = .ok (.iload_n 3, 1) := by decide +kernel
theorem dX6_on_21 : decode cX6_on 21 = .ok (.i2l, 1) := by decide +kernel
theorem dX6_on_22 : decode cX6_on 22 = .ok (.lconst 0, 1) := by decide +kernel
theorem dX6_on_23 : decode cX6_on 23 = .ok (.ldc2_w 49, 3) := by decide +kernel
theorem dX6_on_26 : decode cX6_on 26 = .ok (.invokestatic 45, 3) := by decide +kernel
theorem dX6_on_29 : decode cX6_on 29 = .ok (.ifCond .ne 10, 3) := by decide +kernel
theorem dX6_on_32 : decode cX6_on 32 = .ok (.aload_n 0, 1) := by decide +kernel
theorem dX6_on_33 : decode cX6_on 33 = .ok (.ldc 44, 2) := by decide +kernel
theorem dX6_on_35 : decode cX6_on 35 = .ok (.invokevirtual 69, 3) := by decide +kernel
theorem dX6_on_38 : decode cX6_on 38 = .ok (.ireturn, 1) := by decide +kernel
theorem dX6_on_39 : decode cX6_on 39 = .ok (.aload_n 0, 1) := by decide +kernel
theorem dX6_on_40 : decode cX6_on 40 = .ok (.invokevirtual 146, 3) := by decide +kernel
theorem dX6_on_43 : decode cX6_on 43 = .ok (.iconst 0, 1) := by decide +kernel
theorem dX6_on_44 : decode cX6_on 44 = .ok (.istore 4, 2) := by decide +kernel
theorem dX6_on_46 : decode cX6_on 46 = .ok (.iload 4, 2) := by decide +kernel
theorem dX6_on_48 : decode cX6_on 48 = .ok (.iload_n 2, 1) := by decide +kernel
theorem dX6_on_49 : decode cX6_on 49 = .ok (.if_icmp .ge 14, 3) := by decide +kernel
theorem dX6_on_52 : decode cX6_on 52 = .ok (.aload_n 0, 1) := by decide +kernel
theorem dX6_on_53 : decode cX6_on 53 = .ok (.iload_n 1, 1) := by decide +kernel
theorem dX6_on_54 : decode cX6_on 54 = .ok (.invokevirtual 134, 3) := by decide +kernel
theorem dX6_on_57 : decode cX6_on 57 = .ok (.iinc 4 1, 3) := by decide +kernel
theorem dX6_on_60 : decode cX6_on 60 = .ok (.goto (-14), 3) := by decide +kernel
theorem dX6_on_63 : decode cX6_on 63 = .ok (.aload_n 0, 1) := by decide +kernel
theorem dX6_on_64 : decode cX6_on 64 = .ok (.aload_n 0, 1) := by decide +kernel
theorem dX6_on_65 : decode cX6_on 65 = .ok (.iload_n 1, 1) := by decide +kernel
theorem dX6_on_66 : decode cX6_on 66 = .ok (.iload_n 3, 1) := by decide +kernel
theorem dX6_on_67 : decode cX6_on 67 = .ok (.iconst 1, 1) := by decide +kernel
theorem dX6_on_68 : decode cX6_on 68 = .ok (.iadd, 1) := by decide +kernel
theorem dX6_on_69 : decode cX6_on 69 = .ok (.invokevirtual 64, 3) := by decide +kernel
theorem dX6_on_72 : decode cX6_on 72 = .ok (.invokevirtual 149, 3) := by decide +kernel
theorem dX6_on_75 : decode cX6_on 75 = .ok (.ireturn, 1) := by decide +kernel
theorem dX6_orNone_0 : decode cX6_orNone 0 = .ok (.iload_n 1, 1) := by decide +kernel
theorem dX6_orNone_1 : decode cX6_orNone 1 = .ok (.iload_n 2, 1) := by decide +kernel
theorem dX6_orNone_2 : decode cX6_orNone 2 = .ok (.if_icmp .le 12, 3) := by decide +kernel
theorem dX6_orNone_5 : decode cX6_orNone 5 = .ok (.aload_n 0, 1) := by decide +kernel
theorem dX6_orNone_6 : decode cX6_orNone 6 = .ok (.ldc 101, 2) := by decide +kernel
theorem dX6_orNone_8 : decode cX6_orNone 8 = .ok (.invokevirtual 69, 3) := by decide +kernel
theorem dX6_orNone_11 : decode cX6_orNone 11 = .ok (.goto 4, 3) := by decide +kernel
theorem dX6_orNone_14 : decode cX6_orNone 14 = .ok (.iload_n 1, 1) := by decide +kernel
theorem dX6_orNone_15 : decode cX6_orNone 15 = .ok (.ireturn, 1) := by decide +kernel
theorem dX6_when_0 : decode cX6_when 0 = .ok (.aload_n 0, 1) := by decide +kernel
theorem dX6_when_1 : decode cX6_when 1 = .ok (.iload_n 1, 1) := by decide +kernel
theorem dX6_when_2 : decode cX6_when 2 = .ok (.invokevirtual 124, 3) := by decide +kernel
theorem dX6_when_5 : decode cX6_when 5 = .ok (.ifCond .eq 11, 3) := by decide +kernel
theorem dX6_when_8 : decode cX6_when 8 = .ok (.aload_n 0, 1) := by decide +kernel
theorem dX6_when_9 : decode cX6_when 9 = .ok (.iload_n 2, 1) := by decide +kernel
theorem dX6_when_10 : decode cX6_when 10 = .ok (.invokevirtual 53, 3) := by decide +kernel
theorem dX6_when_13 : decode cX6_when 13 = .ok (.ifCond .ne 10, 3) := by decide +kernel
theorem dX6_when_16 : decode cX6_when 16 = .ok (.aload_n 0, 1) := by decide +kernel
theorem dX6_when_17 : decode cX6_when 17 = .ok (.ldc 44, 2) := by decide +kernel
theorem dX6_when_19 : decode cX6_when 19 = .ok (.invokevirtual 69, 3) := by decide +kernel
theorem dX6_when_22 : decode cX6_when 22 = .ok (.ireturn, 1) := by decide +kernel
theorem dX6_when_23 : decode cX6_when 23 = .ok (.aload_n 0, 1) := by decide +kernel
theorem dX6_when_24 : decode cX6_when 24 = .ok (.invokevirtual 146, 3) := by decide +kernel
theorem dX6_when_27 : decode cX6_when 27 = .ok (.iconst 0, 1) := by decide +kernel
theorem dX6_when_28 : decode cX6_when 28 = .ok (.istore_n 3, 1) := by decide +kernel
theorem dX6_when_29 : decode cX6_when 29 = .ok (.iload_n 3, 1) := by decide +kernel
theorem dX6_when_30 : decode cX6_when 30 = .ok (.bipush 100, 2) := by decide +kernel
theorem dX6_when_32 : decode cX6_when 32 = .ok (.if_icmp .gt 24, 3) := by decide +kernel
theorem dX6_when_35 : decode cX6_when 35 = .ok (.aload_n 0, 1) := by decide +kernel
theorem dX6_when_36 : decode cX6_when 36 = .ok (.iload_n 1, 1) := by decide +kernel
theorem dX6_when_37 : decode cX6_when 37 = .ok (.iconst 1, 1) := by decide +kernel
theorem dX6_when_38 : decode cX6_when 38 = .ok (.invokevirtual 64, 3) := by decide +kernel
theorem dX6_when_41 : decode cX6_when 41 = .ok (.iload_n 2, 1) := by decide +kernel
theorem dX6_when_42 : decode cX6_when 42 = .ok (.if_icmp .eq 14, 3) := by decide +kernel
theorem dX6_when_45 : decode cX6_when 45 = .ok (.aload_n 0, 1) := by decide +kernel
theorem dX6_when_46 : decode cX6_when 46 = .ok (.iload_n 1, 1) := by decide +kernel
theorem dX6_when_47 : decode cX6_when 47 = .ok (.invokevirtual 134, 3) := by decide +kernel
theorem dX6_when_50 : decode cX6_when 50 = .ok (.iinc 3 1, 3) := by decide +kernel
theorem dX6_when_53 : decode cX6_when 53 = .ok (.goto (-24), 3) := by decide +kernel
theorem dX6_when_56 : decode cX6_when 56 = .ok (.aload_n 0, 1) := by decide +kernel
theorem dX6_when_57 : decode cX6_when 57 = .ok (.aload_n 0, 1) := by decide +kernel
theorem dX6_when_58 : decode cX6_when 58 = .ok (.iload_n 3, 1) := by decide +kernel
theorem dX6_when_59 : decode cX6_when 59 = .ok (.invokevirtual 149, 3) := by decide +kernel
theorem dX6_when_62 : decode cX6_when 62 = .ok (.bipush 100, 2) := by decide +kernel
theorem dX6_when_64 : decode cX6_when 64 = .ok (.invokevirtual 152, 3) := by decide +kernel
theorem dX6_when_67 : decode cX6_when 67 = .ok (.ireturn, 1) := by decide +kernel
theorem dX6_back_0 : decode cX6_back 0 = .ok (.aload_n 0, 1) := by decide +kernel
theorem dX6_back_1 : decode cX6_back 1 = .ok (.iload_n 1, 1) := by decide +kernel
theorem dX6_back_2 : decode cX6_back 2 = .ok (.invokevirtual 124, 3) := by decide +kernel
theorem dX6_back_5 : decode cX6_back 5 = .ok (.ifCond .ne 10, 3) := by decide +kernel
theorem dX6_back_8 : decode cX6_back 8 = .ok (.aload_n 0, 1) := by decide +kernel
theorem dX6_back_9 : decode cX6_back 9 = .ok (.ldc 44, 2) := by decide +kernel
theorem dX6_back_11 : decode cX6_back 11 = .ok (.invokevirtual 69, 3) := by decide +kernel
theorem dX6_back_14 : decode cX6_back 14 = .ok (.ireturn, 1) := by decide +kernel
theorem dX6_back_15 : decode cX6_back 15 = .ok (.aload_n 0, 1) := by decide +kernel
theorem dX6_back_16 : decode cX6_back 16 = .ok (.invokevirtual 146, 3) := by decide +kernel
theorem dX6_back_19 : decode cX6_back 19 = .ok (.aload_n 0, 1) := by decide +kernel
theorem dX6_back_20 : decode cX6_back 20 = .ok (.iload_n 1, 1) := by decide +kernel
theorem dX6_back_21 : decode cX6_back 21 = .ok (.invokevirtual 109, 3) := by decide +kernel
theorem dX6_back_24 : decode cX6_back 24 = .ok (.istore_n 2, 1) := by decide +kernel
theorem dX6_back_25 : decode cX6_back 25 = .ok (.aload_n 0, 1) := by decide +kernel
theorem dX6_back_26 : decode cX6_back 26 = .ok (.iload_n 1, 1) := by decide +kernel
theorem dX6_back_27 : decode cX6_back 27 = .ok (.invokevirtual 134, 3) := by decide +kernel
theorem dX6_back_30 : decode cX6_back 30 = .ok (.iconst 1, 1) := by decide +kernel
theorem dX6_back_31 : decode cX6_back 31 = .ok (.istore_n 3, 1) := by decide +kernel
theorem dX6_back_32 : decode cX6_back 32 = .ok (.iload_n 3, 1) := by decide +kernel
theorem dX6_back_33 : decode cX6_back 33 = .ok (.sipush 200, 3) := by decide +kernel
theorem dX6_back_36 : decode cX6_back 36 = .ok (.if_icmp .gt 23, 3) := by decide +kernel
theorem dX6_back_39 : decode cX6_back 39 = .ok (.aload_n 0, 1) := by decide +kernel
theorem dX6_back_40 : decode cX6_back 40 = .ok (.iload_n 1, 1) := by decide +kernel
theorem dX6_back_41 : decode cX6_back 41 = .ok (.invokevirtual 109, 3) := by decide +kernel
theorem dX6_back_44 : decode cX6_back 44 = .ok (.iload_n 2, 1) := by decide +kernel
theorem dX6_back_45 : decode cX6_back 45 = .ok (.if_icmp .eq 14, 3) := by decide +kernel
theorem dX6_back_48 : decode cX6_back 48 = .ok (.aload_n 0, 1) := by decide +kernel
theorem dX6_back_49 : decode cX6_back 49 = .ok (.iload_n 1, 1) := by decide +kernel
theorem dX6_back_50 : decode cX6_back 50 = .ok (.invokevirtual 134, 3) := by decide +kernel
theorem dX6_back_53 : decode cX6_back 53 = .ok (.iinc 3 1, 3) := by decide +kernel
theorem dX6_back_56 : decode cX6_back 56 = .ok (.goto (-24), 3) := by decide +kernel
theorem dX6_back_59 : decode cX6_back 59 = .ok (.aload_n 0, 1) := by decide +kernel
theorem dX6_back_60 : decode cX6_back 60 = .ok (.aload_n 0, 1) := by decide +kernel
theorem dX6_back_61 : decode cX6_back 61 = .ok (.iload_n 3, 1) := by decide +kernel
theorem dX6_back_62 : decode cX6_back 62 = .ok (.invokevirtual 149, 3) := by decide +kernel
theorem dX6_back_65 : decode cX6_back 65 = .ok (.sipush 200, 3) := by decide +kernel
theorem dX6_back_68 : decode cX6_back 68 = .ok (.invokevirtual 152, 3) := by decide +kernel
theorem dX6_back_71 : decode cX6_back 71 = .ok (.ireturn, 1) := by decide +kernel
theorem dX6_meet_0 : decode cX6_meet 0 = .ok (.aload_n 0, 1) := by decide +kernel
theorem dX6_meet_1 : decode cX6_meet 1 = .ok (.iload_n 1, 1) := by decide +kernel
theorem dX6_meet_2 : decode cX6_meet 2 = .ok (.invokevirtual 124, 3) := by decide +kernel
theorem dX6_meet_5 : decode cX6_meet 5 = .ok (.ifCond .eq 16, 3) := by decide +kernel
theorem dX6_meet_8 : decode cX6_meet 8 = .ok (.aload_n 0, 1) := by decide +kernel
theorem dX6_meet_9 : decode cX6_meet 9 = .ok (.iload_n 2, 1) := by decide +kernel
theorem dX6_meet_10 : decode cX6_meet 10 = .ok (.invokevirtual 124, 3) := by decide +kernel
theorem dX6_meet_13 : decode cX6_meet 13 = .ok (.ifCond .eq 8, 3) := by decide +kernel
theorem dX6_meet_16 : decode cX6_meet 16 = .ok (.iload_n 1, 1) := by decide +kernel
theorem dX6_meet_17 : decode cX6_meet 17 = .ok (.iload_n 2, 1) := by decide +kernel
theorem dX6_meet_18 : decode cX6_meet 18 = .ok (.if_icmp .ne 10, 3) := by decide +kernel
theorem dX6_meet_21 : decode cX6_meet 21 = .ok (.aload_n 0, 1) := by decide +kernel
theorem dX6_meet_22 : decode cX6_meet 22 = .ok (.ldc 44, 2) := by decide +kernel
theorem dX6_meet_24 : decode cX6_meet 24 = .ok (.invokevirtual 69, 3) := by decide +kernel
theorem dX6_meet_27 : decode cX6_meet 27 = .ok (.ireturn, 1) := by decide +kernel
theorem dX6_meet_28 : decode cX6_meet 28 = .ok (.aload_n 0, 1) := by decide +kernel
theorem dX6_meet_29 : decode cX6_meet 29 = .ok (.invokevirtual 146, 3) := by decide +kernel
theorem dX6_meet_32 : decode cX6_meet 32 = .ok (.iconst 0, 1) := by decide +kernel
theorem dX6_meet_33 : decode cX6_meet 33 = .ok (.istore_n 3, 1) := by decide +kernel
theorem dX6_meet_34 : decode cX6_meet 34 = .ok (.iload_n 3, 1) := by decide +kernel
theorem dX6_meet_35 : decode cX6_meet 35 = .ok (.bipush 100, 2) := by decide +kernel
theorem dX6_meet_37 : decode cX6_meet 37 = .ok (.if_icmp .gt 28, 3) := by decide +kernel
theorem dX6_meet_40 : decode cX6_meet 40 = .ok (.aload_n 0, 1) := by decide +kernel
theorem dX6_meet_41 : decode cX6_meet 41 = .ok (.iload_n 1, 1) := by decide +kernel
theorem dX6_meet_42 : decode cX6_meet 42 = .ok (.iconst 1, 1) := by decide +kernel
theorem dX6_meet_43 : decode cX6_meet 43 = .ok (.invokevirtual 64, 3) := by decide +kernel
theorem dX6_meet_46 : decode cX6_meet 46 = .ok (.aload_n 0, 1) := by decide +kernel
theorem dX6_meet_47 : decode cX6_meet 47 = .ok (.iload_n 2, 1) := by decide +kernel
theorem dX6_meet_48 : decode cX6_meet 48 = .ok (.iconst 1, 1) := by decide +kernel
theorem dX6_meet_49 : decode cX6_meet 49 = .ok (.invokevirtual 64, 3) := by decide +kernel
theorem dX6_meet_52 : decode cX6_meet 52 = .ok (.if_icmp .eq 13, 3) := by decide +kernel
theorem dX6_meet_55 : decode cX6_meet 55 = .ok (.aload_n 0, 1) := by decide +kernel
theorem dX6_meet_56 : decode cX6_meet 56 = .ok (.invokevirtual 139, 3) := by decide +kernel
theorem dX6_meet_59 : decode cX6_meet 59 = .ok (.iinc 3 1, 3) := by decide +kernel
theorem dX6_meet_62 : decode cX6_meet 62 = .ok (.goto (-28), 3) := by decide +kernel
theorem dX6_meet_65 : decode cX6_meet 65 = .ok (.aload_n 0, 1) := by decide +kernel
theorem dX6_meet_66 : decode cX6_meet 66 = .ok (.aload_n 0, 1) := by decide +kernel
theorem dX6_meet_67 : decode cX6_meet 67 = .ok (.iload_n 3, 1) := by decide +kernel
theorem dX6_meet_68 : decode cX6_meet 68 = .ok (.invokevirtual 149, 3) := by decide +kernel
theorem dX6_meet_71 : decode cX6_meet 71 = .ok (.bipush 100, 2) := by decide +kernel
theorem dX6_meet_73 : decode cX6_meet 73 = .ok (.invokevirtual 152, 3) := by decide +kernel
theorem dX6_meet_76 : decode cX6_meet 76 = .ok (.ireturn, 1) := by decide +kernel
theorem dX6_spares_0 : decode cX6_spares 0 = .ok (.iload_n 1, 1) := by decide +kernel
theorem dX6_spares_1 : decode cX6_spares 1 = .ok (.i2l, 1) := by decide +kernel
theorem dX6_spares_2 : decode cX6_spares 2 = .ok (.lconst 0, 1) := by decide +kernel
theorem dX6_spares_3 : decode cX6_spares 3 = .ok (.ldc2_w 137, 3) := by decide +kernel
theorem dX6_spares_6 : decode cX6_spares 6 = .ok (.invokestatic 45, 3) := by decide +kernel
theorem dX6_spares_9 : decode cX6_spares 9 = .ok (.ifCond .ne 10, 3) := by decide +kernel
theorem dX6_spares_12 : decode cX6_spares 12 = .ok (.aload_n 0, 1) := by decide +kernel
theorem dX6_spares_13 : decode cX6_spares 13 = .ok (.ldc 44, 2) := by decide +kernel
theorem dX6_spares_15 : decode cX6_spares 15 = .ok (.invokevirtual 69, 3) := by decide +kernel
theorem dX6_spares_18 : decode cX6_spares 18 = .ok (.ireturn, 1) := by decide +kernel
theorem dX6_spares_19 : decode cX6_spares 19 = .ok (.aload_n 0, 1) := by decide +kernel
theorem dX6_spares_20 : decode cX6_spares 20 = .ok (.invokevirtual 146, 3) := by decide +kernel
theorem dX6_spares_23 : decode cX6_spares 23 = .ok (.iconst 0, 1) := by decide +kernel
theorem dX6_spares_24 : decode cX6_spares 24 = .ok (.istore_n 2, 1) := by decide +kernel
theorem dX6_spares_25 : decode cX6_spares 25 = .ok (.iload_n 2, 1) := by decide +kernel
theorem dX6_spares_26 : decode cX6_spares 26 = .ok (.iload_n 1, 1) := by decide +kernel
theorem dX6_spares_27 : decode cX6_spares 27 = .ok (.if_icmp .ge 13, 3) := by decide +kernel
theorem dX6_spares_30 : decode cX6_spares 30 = .ok (.aload_n 0, 1) := by decide +kernel
theorem dX6_spares_31 : decode cX6_spares 31 = .ok (.invokevirtual 139, 3) := by decide +kernel
theorem dX6_spares_34 : decode cX6_spares 34 = .ok (.iinc 2 1, 3) := by decide +kernel
theorem dX6_spares_37 : decode cX6_spares 37 = .ok (.goto (-12), 3) := by decide +kernel
theorem dX6_spares_40 : decode cX6_spares 40 = .ok (.iconst (-1), 1) := by decide +kernel
theorem dX6_spares_41 : decode cX6_spares 41 = .ok (.istore_n 2, 1) := by decide +kernel
theorem dX6_spares_42 : decode cX6_spares 42 = .ok (.iconst 0, 1) := by decide +kernel
theorem dX6_spares_43 : decode cX6_spares 43 = .ok (.istore_n 3, 1) := by decide +kernel
theorem dX6_spares_44 : decode cX6_spares 44 = .ok (.iload_n 3, 1) := by decide +kernel
theorem dX6_spares_45 : decode cX6_spares 45 = .ok (.aload_n 0, 1) := by decide +kernel
theorem dX6_spares_46 : decode cX6_spares 46 = .ok (.getfield 7, 3) := by decide +kernel
theorem dX6_spares_49 : decode cX6_spares 49 = .ok (.iconst 1, 1) := by decide +kernel
theorem dX6_spares_50 : decode cX6_spares 50 = .ok (.iaload, 1) := by decide +kernel
theorem dX6_spares_51 : decode cX6_spares 51 = .ok (.if_icmp .ge 34, 3) := by decide +kernel
theorem dX6_spares_54 : decode cX6_spares 54 = .ok (.iload_n 2, 1) := by decide +kernel
theorem dX6_spares_55 : decode cX6_spares 55 = .ok (.ifCond .lt 18, 3) := by decide +kernel
theorem dX6_spares_58 : decode cX6_spares 58 = .ok (.aload_n 0, 1) := by decide +kernel
theorem dX6_spares_59 : decode cX6_spares 59 = .ok (.iload_n 3, 1) := by decide +kernel
theorem dX6_spares_60 : decode cX6_spares 60 = .ok (.iconst 3, 1) := by decide +kernel
theorem dX6_spares_61 : decode cX6_spares 61 = .ok (.invokevirtual 64, 3) := by decide +kernel
theorem dX6_spares_64 : decode cX6_spares 64 = .ok (.aload_n 0, 1) := by decide +kernel
theorem dX6_spares_65 : decode cX6_spares 65 = .ok (.iload_n 2, 1) := by decide +kernel
theorem dX6_spares_66 : decode cX6_spares 66 = .ok (.iconst 3, 1) := by decide +kernel
theorem dX6_spares_67 : decode cX6_spares 67 = .ok (.invokevirtual 64, 3) := by decide +kernel
theorem dX6_spares_70 : decode cX6_spares 70 = .ok (.if_icmp .ge 7, 3) := by decide +kernel
theorem dX6_spares_73 : decode cX6_spares 73 = .ok (.iload_n 3, 1) := by decide +kernel
theorem dX6_spares_74 : decode cX6_spares 74 = .ok (.goto 4, 3) := by decide +kernel
theorem dX6_spares_77 : decode cX6_spares 77 = .ok (.iload_n 2, 1) := by decide +kernel
theorem dX6_spares_78 : decode cX6_spares 78 = .ok (.istore_n 2, 1) := by decide +kernel
theorem dX6_spares_79 : decode cX6_spares 79 = .ok (.iinc 3 1, 3) := by decide +kernel
theorem dX6_spares_82 : decode cX6_spares 82 = .ok (.goto (-38), 3) := by decide +kernel
theorem dX6_spares_85 : decode cX6_spares 85 = .ok (.aload_n 0, 1) := by decide +kernel
theorem dX6_spares_86 : decode cX6_spares 86 = .ok (.iload_n 2, 1) := by decide +kernel
theorem dX6_spares_87 : decode cX6_spares 87 = .ok (.invokevirtual 149, 3) := by decide +kernel
theorem dX6_spares_90 : decode cX6_spares 90 = .ok (.istore_n 3, 1) := by decide +kernel
theorem dX6_spares_91 : decode cX6_spares 91 = .ok (.iload_n 3, 1) := by decide +kernel
theorem dX6_spares_92 : decode cX6_spares 92 = .ok (.ifCond .ge 12, 3) := by decide +kernel
theorem dX6_spares_95 : decode cX6_spares 95 = .ok (.aload_n 0, 1) := by decide +kernel
theorem dX6_spares_96 : decode cX6_spares 96 = .ok (.ldc 101, 2) := by decide +kernel
theorem dX6_spares_98 : decode cX6_spares 98 = .ok (.invokevirtual 69, 3) := by decide +kernel
theorem dX6_spares_101 : decode cX6_spares 101 = .ok (.goto 4, 3) := by decide +kernel
theorem dX6_spares_104 : decode cX6_spares 104 = .ok (.iload_n 3, 1) := by decide +kernel
theorem dX6_spares_105 : decode cX6_spares 105 = .ok (.ireturn, 1) := by decide +kernel
theorem dX6_closes_0 : decode cX6_closes 0 = .ok (.aload_n 0, 1) := by decide +kernel
theorem dX6_closes_1 : decode cX6_closes 1 = .ok (.iload_n 1, 1) := by decide +kernel
theorem dX6_closes_2 : decode cX6_closes 2 = .ok (.iload_n 2, 1) := by decide +kernel
theorem dX6_closes_3 : decode cX6_closes 3 = .ok (.invokevirtual 88, 3) := by decide +kernel
theorem dX6_closes_6 : decode cX6_closes 6 = .ok (.ifCond .ne 10, 3) := by decide +kernel
theorem dX6_closes_9 : decode cX6_closes 9 = .ok (.aload_n 0, 1) := by decide +kernel
theorem dX6_closes_10 : decode cX6_closes 10 = .ok (.ldc 44, 2) := by decide +kernel
theorem dX6_closes_12 : decode cX6_closes 12 = .ok (.invokevirtual 69, 3) := by decide +kernel
theorem dX6_closes_15 : decode cX6_closes 15 = .ok (.ireturn, 1) := by decide +kernel
theorem dX6_closes_16 : decode cX6_closes 16 = .ok (.iconst 4, 1) := by decide +kernel
theorem dX6_closes_17 : decode cX6_closes 17 = .ok (.iload_n 1, 1) := by decide +kernel
theorem dX6_closes_18 : decode cX6_closes 18 = .ok (.imul, 1) := by decide +kernel
theorem dX6_closes_19 : decode cX6_closes 19 = .ok (.iload_n 2, 1) := by decide +kernel
theorem dX6_closes_20 : decode cX6_closes 20 = .ok (.iadd, 1) := by decide +kernel
theorem dX6_closes_21 : decode cX6_closes 21 = .ok (.istore_n 3, 1) := by decide +kernel
theorem dX6_closes_22 : decode cX6_closes 22 = .ok (.aload_n 0, 1) := by decide +kernel
theorem dX6_closes_23 : decode cX6_closes 23 = .ok (.iload_n 3, 1) := by decide +kernel
theorem dX6_closes_24 : decode cX6_closes 24 = .ok (.invokevirtual 112, 3) := by decide +kernel
theorem dX6_closes_27 : decode cX6_closes 27 = .ok (.istore 4, 2) := by decide +kernel
theorem dX6_closes_29 : decode cX6_closes 29 = .ok (.iconst 1, 1) := by decide +kernel
theorem dX6_closes_30 : decode cX6_closes 30 = .ok (.istore 5, 2) := by decide +kernel
theorem dX6_closes_32 : decode cX6_closes 32 = .ok (.iload 4, 2) := by decide +kernel
theorem dX6_closes_34 : decode cX6_closes 34 = .ok (.ifCond .lt 23, 3) := by decide +kernel
theorem dX6_closes_37 : decode cX6_closes 37 = .ok (.iload 4, 2) := by decide +kernel
theorem dX6_closes_39 : decode cX6_closes 39 = .ok (.iload_n 3, 1) := by decide +kernel
theorem dX6_closes_40 : decode cX6_closes 40 = .ok (.if_icmp .eq 17, 3) := by decide +kernel
theorem dX6_closes_43 : decode cX6_closes 43 = .ok (.aload_n 0, 1) := by decide +kernel
theorem dX6_closes_44 : decode cX6_closes 44 = .ok (.iload 4, 2) := by decide +kernel
theorem dX6_closes_46 : decode cX6_closes 46 = .ok (.invokevirtual 112, 3) := by decide +kernel
theorem dX6_closes_49 : decode cX6_closes 49 = .ok (.istore 4, 2) := by decide +kernel
theorem dX6_closes_51 : decode cX6_closes 51 = .ok (.iinc 5 1, 3) := by decide +kernel
theorem dX6_closes_54 : decode cX6_closes 54 = .ok (.goto (-22), 3) := by decide +kernel
theorem dX6_closes_57 : decode cX6_closes 57 = .ok (.iload 4, 2) := by decide +kernel
theorem dX6_closes_59 : decode cX6_closes 59 = .ok (.ifCond .ge 12, 3) := by decide +kernel
theorem dX6_closes_62 : decode cX6_closes 62 = .ok (.aload_n 0, 1) := by decide +kernel
theorem dX6_closes_63 : decode cX6_closes 63 = .ok (.ldc 101, 2) := by decide +kernel
theorem dX6_closes_65 : decode cX6_closes 65 = .ok (.invokevirtual 69, 3) := by decide +kernel
theorem dX6_closes_68 : decode cX6_closes 68 = .ok (.goto 5, 3) := by decide +kernel
theorem dX6_closes_71 : decode cX6_closes 71 = .ok (.iload 5, 2) := by decide +kernel
theorem dX6_closes_73 : decode cX6_closes 73 = .ok (.ireturn, 1) := by decide +kernel
theorem dX6_bumps_0 : decode cX6_bumps 0 = .ok (.aload_n 0, 1) := by decide +kernel
theorem dX6_bumps_1 : decode cX6_bumps 1 = .ok (.iload_n 1, 1) := by decide +kernel
theorem dX6_bumps_2 : decode cX6_bumps 2 = .ok (.iload_n 2, 1) := by decide +kernel
theorem dX6_bumps_3 : decode cX6_bumps 3 = .ok (.invokevirtual 88, 3) := by decide +kernel
theorem dX6_bumps_6 : decode cX6_bumps 6 = .ok (.ifCond .ne 10, 3) := by decide +kernel
theorem dX6_bumps_9 : decode cX6_bumps 9 = .ok (.aload_n 0, 1) := by decide +kernel
theorem dX6_bumps_10 : decode cX6_bumps 10 = .ok (.ldc 44, 2) := by decide +kernel
theorem dX6_bumps_12 : decode cX6_bumps 12 = .ok (.invokevirtual 69, 3) := by decide +kernel
theorem dX6_bumps_15 : decode cX6_bumps 15 = .ok (.ireturn, 1) := by decide +kernel
theorem dX6_bumps_16 : decode cX6_bumps 16 = .ok (.aload_n 0, 1) := by decide +kernel
theorem dX6_bumps_17 : decode cX6_bumps 17 = .ok (.iconst 4, 1) := by decide +kernel
theorem dX6_bumps_18 : decode cX6_bumps 18 = .ok (.iload_n 1, 1) := by decide +kernel
theorem dX6_bumps_19 : decode cX6_bumps 19 = .ok (.imul, 1) := by decide +kernel
theorem dX6_bumps_20 : decode cX6_bumps 20 = .ok (.iload_n 2, 1) := by decide +kernel
theorem dX6_bumps_21 : decode cX6_bumps 21 = .ok (.iadd, 1) := by decide +kernel
theorem dX6_bumps_22 : decode cX6_bumps 22 = .ok (.invokevirtual 112, 3) := by decide +kernel
theorem dX6_bumps_25 : decode cX6_bumps 25 = .ok (.istore_n 3, 1) := by decide +kernel
theorem dX6_bumps_26 : decode cX6_bumps 26 = .ok (.iconst 0, 1) := by decide +kernel
theorem dX6_bumps_27 : decode cX6_bumps 27 = .ok (.istore 4, 2) := by decide +kernel
theorem dX6_bumps_29 : decode cX6_bumps 29 = .ok (.iload_n 3, 1) := by decide +kernel
theorem dX6_bumps_30 : decode cX6_bumps 30 = .ok (.ifCond .lt 22, 3) := by decide +kernel
theorem dX6_bumps_33 : decode cX6_bumps 33 = .ok (.iload 4, 2) := by decide +kernel
theorem dX6_bumps_35 : decode cX6_bumps 35 = .ok (.bipush 64, 2) := by decide +kernel
theorem dX6_bumps_37 : decode cX6_bumps 37 = .ok (.if_icmp .gt 15, 3) := by decide +kernel
theorem dX6_bumps_40 : decode cX6_bumps 40 = .ok (.aload_n 0, 1) := by decide +kernel
theorem dX6_bumps_41 : decode cX6_bumps 41 = .ok (.iload_n 3, 1) := by decide +kernel
theorem dX6_bumps_42 : decode cX6_bumps 42 = .ok (.invokevirtual 112, 3) := by decide +kernel
theorem dX6_bumps_45 : decode cX6_bumps 45 = .ok (.istore_n 3, 1) := by decide +kernel
theorem dX6_bumps_46 : decode cX6_bumps 46 = .ok (.iinc 4 1, 3) := by decide +kernel
theorem dX6_bumps_49 : decode cX6_bumps 49 = .ok (.goto (-20), 3) := by decide +kernel
theorem dX6_bumps_52 : decode cX6_bumps 52 = .ok (.iload_n 3, 1) := by decide +kernel
theorem dX6_bumps_53 : decode cX6_bumps 53 = .ok (.ifCond .ge 8, 3) := by decide +kernel
theorem dX6_bumps_56 : decode cX6_bumps 56 = .ok (.iload 4, 2) := by decide +kernel
theorem dX6_bumps_58 : decode cX6_bumps 58 = .ok (.goto 9, 3) := by decide +kernel
theorem dX6_bumps_61 : decode cX6_bumps 61 = .ok (.aload_n 0, 1) := by decide +kernel
theorem dX6_bumps_62 : decode cX6_bumps 62 = .ok (.ldc 101, 2) := by decide +kernel
theorem dX6_bumps_64 : decode cX6_bumps 64 = .ok (.invokevirtual 69, 3) := by decide +kernel
theorem dX6_bumps_67 : decode cX6_bumps 67 = .ok (.ireturn, 1) := by decide +kernel
theorem dX6_square_0 : decode cX6_square 0 = .ok (.aload_n 0, 1) := by decide +kernel
theorem dX6_square_1 : decode cX6_square 1 = .ok (.iload_n 1, 1) := by decide +kernel
theorem dX6_square_2 : decode cX6_square 2 = .ok (.iload_n 2, 1) := by decide +kernel
theorem dX6_square_3 : decode cX6_square 3 = .ok (.invokevirtual 88, 3) := by decide +kernel
theorem dX6_square_6 : decode cX6_square 6 = .ok (.ifCond .eq 15, 3) := by decide +kernel
theorem dX6_square_9 : decode cX6_square 9 = .ok (.iload_n 3, 1) := by decide +kernel
theorem dX6_square_10 : decode cX6_square 10 = .ok (.i2l, 1) := by decide +kernel
theorem dX6_square_11 : decode cX6_square 11 = .ok (.lconst 1, 1) := by decide +kernel
theorem dX6_square_12 : decode cX6_square 12 = .ok (.ldc2_w 67, 3) := by decide +kernel
theorem dX6_square_15 : decode cX6_square 15 = .ok (.invokestatic 45, 3) := by decide +kernel
theorem dX6_square_18 : decode cX6_square 18 = .ok (.ifCond .ne 10, 3) := by decide +kernel
theorem dX6_square_21 : decode cX6_square 21 = .ok (.aload_n 0, 1) := by decide +kernel
theorem dX6_square_22 : decode cX6_square 22 = .ok (.ldc 44, 2) := by decide +kernel
theorem dX6_square_24 : decode cX6_square 24 = .ok (.invokevirtual 69, 3) := by decide +kernel
theorem dX6_square_27 : decode cX6_square 27 = .ok (.ireturn, 1) := by decide +kernel
theorem dX6_square_28 : decode cX6_square 28 = .ok (.iconst 4, 1) := by decide +kernel
theorem dX6_square_29 : decode cX6_square 29 = .ok (.iload_n 1, 1) := by decide +kernel
theorem dX6_square_30 : decode cX6_square 30 = .ok (.imul, 1) := by decide +kernel
theorem dX6_square_31 : decode cX6_square 31 = .ok (.iload_n 2, 1) := by decide +kernel
theorem dX6_square_32 : decode cX6_square 32 = .ok (.iadd, 1) := by decide +kernel
theorem dX6_square_33 : decode cX6_square 33 = .ok (.istore 4, 2) := by decide +kernel
theorem dX6_square_35 : decode cX6_square 35 = .ok (.iload 4, 2) := by decide +kernel
theorem dX6_square_37 : decode cX6_square 37 = .ok (.istore 5, 2) := by decide +kernel
theorem dX6_square_39 : decode cX6_square 39 = .ok (.iconst 1, 1) := by decide +kernel
theorem dX6_square_40 : decode cX6_square 40 = .ok (.istore 6, 2) := by decide +kernel
theorem dX6_square_42 : decode cX6_square 42 = .ok (.iload 6, 2) := by decide +kernel
theorem dX6_square_44 : decode cX6_square 44 = .ok (.bipush 64, 2) := by decide +kernel
theorem dX6_square_46 : decode cX6_square 46 = .ok (.if_icmp .gt 74, 3) := by decide +kernel
theorem dX6_square_49 : decode cX6_square 49 = .ok (.iconst 0, 1) := by decide +kernel
theorem dX6_square_50 : decode cX6_square 50 = .ok (.istore 7, 2) := by decide +kernel
theorem dX6_square_52 : decode cX6_square 52 = .ok (.iload 7, 2) := by decide +kernel
theorem dX6_square_54 : decode cX6_square 54 = .ok (.iload_n 3, 1) := by decide +kernel
theorem dX6_square_55 : decode cX6_square 55 = .ok (.if_icmp .ge 22, 3) := by decide +kernel
theorem dX6_square_58 : decode cX6_square 58 = .ok (.iload 5, 2) := by decide +kernel
theorem dX6_square_60 : decode cX6_square 60 = .ok (.ifCond .lt 17, 3) := by decide +kernel
theorem dX6_square_63 : decode cX6_square 63 = .ok (.aload_n 0, 1) := by decide +kernel
theorem dX6_square_64 : decode cX6_square 64 = .ok (.iload 5, 2) := by decide +kernel
theorem dX6_square_66 : decode cX6_square 66 = .ok (.invokevirtual 112, 3) := by decide +kernel
theorem dX6_square_69 : decode cX6_square 69 = .ok (.istore 5, 2) := by decide +kernel
theorem dX6_square_71 : decode cX6_square 71 = .ok (.iinc 7 1, 3) := by decide +kernel
theorem dX6_square_74 : decode cX6_square 74 = .ok (.goto (-22), 3) := by decide +kernel
theorem dX6_square_77 : decode cX6_square 77 = .ok (.iload 5, 2) := by decide +kernel
theorem dX6_square_79 : decode cX6_square 79 = .ok (.ifCond .ge 10, 3) := by decide +kernel
theorem dX6_square_82 : decode cX6_square 82 = .ok (.aload_n 0, 1) := by decide +kernel
theorem dX6_square_83 : decode cX6_square 83 = .ok (.ldc 101, 2) := by decide +kernel
theorem dX6_square_85 : decode cX6_square 85 = .ok (.invokevirtual 69, 3) := by decide +kernel
theorem dX6_square_88 : decode cX6_square 88 = .ok (.ireturn, 1) := by decide +kernel
theorem dX6_square_89 : decode cX6_square 89 = .ok (.iload 5, 2) := by decide +kernel
theorem dX6_square_91 : decode cX6_square 91 = .ok (.iconst 4, 1) := by decide +kernel
theorem dX6_square_92 : decode cX6_square 92 = .ok (.idiv, 1) := by decide +kernel
theorem dX6_square_93 : decode cX6_square 93 = .ok (.iconst 4, 1) := by decide +kernel
theorem dX6_square_94 : decode cX6_square 94 = .ok (.imul, 1) := by decide +kernel
theorem dX6_square_95 : decode cX6_square 95 = .ok (.iload 5, 2) := by decide +kernel
theorem dX6_square_97 : decode cX6_square 97 = .ok (.iconst 1, 1) := by decide +kernel
theorem dX6_square_98 : decode cX6_square 98 = .ok (.iadd, 1) := by decide +kernel
theorem dX6_square_99 : decode cX6_square 99 = .ok (.iconst 4, 1) := by decide +kernel
theorem dX6_square_100 : decode cX6_square 100 = .ok (.irem, 1) := by decide +kernel
theorem dX6_square_101 : decode cX6_square 101 = .ok (.iadd, 1) := by decide +kernel
theorem dX6_square_102 : decode cX6_square 102 = .ok (.istore 5, 2) := by decide +kernel
theorem dX6_square_104 : decode cX6_square 104 = .ok (.iload 5, 2) := by decide +kernel
theorem dX6_square_106 : decode cX6_square 106 = .ok (.iload 4, 2) := by decide +kernel
theorem dX6_square_108 : decode cX6_square 108 = .ok (.if_icmp .ne 6, 3) := by decide +kernel
theorem dX6_square_111 : decode cX6_square 111 = .ok (.iload 6, 2) := by decide +kernel
theorem dX6_square_113 : decode cX6_square 113 = .ok (.ireturn, 1) := by decide +kernel
theorem dX6_square_114 : decode cX6_square 114 = .ok (.iinc 6 1, 3) := by decide +kernel
theorem dX6_square_117 : decode cX6_square 117 = .ok (.goto (-75), 3) := by decide +kernel
theorem dX6_square_120 : decode cX6_square 120 = .ok (.aload_n 0, 1) := by decide +kernel
theorem dX6_square_121 : decode cX6_square 121 = .ok (.ldc 101, 2) := by decide +kernel
theorem dX6_square_123 : decode cX6_square 123 = .ok (.invokevirtual 69, 3) := by decide +kernel
theorem dX6_square_126 : decode cX6_square 126 = .ok (.ireturn, 1) := by decide +kernel
theorem dX6_dine_0 : decode cX6_dine 0 = .ok (.aload_n 0, 1) := by decide +kernel
theorem dX6_dine_1 : decode cX6_dine 1 = .ok (.iload_n 1, 1) := by decide +kernel
theorem dX6_dine_2 : decode cX6_dine 2 = .ok (.iload_n 2, 1) := by decide +kernel
theorem dX6_dine_3 : decode cX6_dine 3 = .ok (.invokevirtual 88, 3) := by decide +kernel
theorem dX6_dine_6 : decode cX6_dine 6 = .ok (.ifCond .eq 13, 3) := by decide +kernel
theorem dX6_dine_9 : decode cX6_dine 9 = .ok (.aload_n 0, 1) := by decide +kernel
theorem dX6_dine_10 : decode cX6_dine 10 = .ok (.iload_n 3, 1) := by decide +kernel
theorem dX6_dine_11 : decode cX6_dine 11 = .ok (.iload 4, 2) := by decide +kernel
theorem dX6_dine_13 : decode cX6_dine 13 = .ok (.invokevirtual 88, 3) := by decide +kernel
theorem dX6_dine_16 : decode cX6_dine 16 = .ok (.ifCond .ne 10, 3) := by decide +kernel
theorem dX6_dine_19 : decode cX6_dine 19 = .ok (.aload_n 0, 1) := by decide +kernel
theorem dX6_dine_20 : decode cX6_dine 20 = .ok (.ldc 44, 2) := by decide +kernel
theorem dX6_dine_22 : decode cX6_dine 22 = .ok (.invokevirtual 69, 3) := by decide +kernel
theorem dX6_dine_25 : decode cX6_dine 25 = .ok (.ireturn, 1) := by decide +kernel
theorem dX6_dine_26 : decode cX6_dine 26 = .ok (.iconst 4, 1) := by decide +kernel
theorem dX6_dine_27 : decode cX6_dine 27 = .ok (.iload_n 1, 1) := by decide +kernel
theorem dX6_dine_28 : decode cX6_dine 28 = .ok (.imul, 1) := by decide +kernel
theorem dX6_dine_29 : decode cX6_dine 29 = .ok (.iload_n 2, 1) := by decide +kernel
theorem dX6_dine_30 : decode cX6_dine 30 = .ok (.iadd, 1) := by decide +kernel
theorem dX6_dine_31 : decode cX6_dine 31 = .ok (.istore 5, 2) := by decide +kernel
theorem dX6_dine_33 : decode cX6_dine 33 = .ok (.iconst 4, 1) := by decide +kernel
theorem dX6_dine_34 : decode cX6_dine 34 = .ok (.iload_n 3, 1) := by decide +kernel
theorem dX6_dine_35 : decode cX6_dine 35 = .ok (.imul, 1) := by decide +kernel
theorem dX6_dine_36 : decode cX6_dine 36 = .ok (.iload 4, 2) := by decide +kernel
theorem dX6_dine_38 : decode cX6_dine 38 = .ok (.iadd, 1) := by decide +kernel
theorem dX6_dine_39 : decode cX6_dine 39 = .ok (.istore 6, 2) := by decide +kernel
theorem dX6_dine_41 : decode cX6_dine 41 = .ok (.iconst 0, 1) := by decide +kernel
theorem dX6_dine_42 : decode cX6_dine 42 = .ok (.istore 7, 2) := by decide +kernel
theorem dX6_dine_44 : decode cX6_dine 44 = .ok (.iload 7, 2) := by decide +kernel
theorem dX6_dine_46 : decode cX6_dine 46 = .ok (.bipush 64, 2) := by decide +kernel
theorem dX6_dine_48 : decode cX6_dine 48 = .ok (.if_icmp .gt 49, 3) := by decide +kernel
theorem dX6_dine_51 : decode cX6_dine 51 = .ok (.iload 5, 2) := by decide +kernel
theorem dX6_dine_53 : decode cX6_dine 53 = .ok (.ifCond .lt 44, 3) := by decide +kernel
theorem dX6_dine_56 : decode cX6_dine 56 = .ok (.iload 6, 2) := by decide +kernel
theorem dX6_dine_58 : decode cX6_dine 58 = .ok (.ifCond .lt 39, 3) := by decide +kernel
theorem dX6_dine_61 : decode cX6_dine 61 = .ok (.iload 5, 2) := by decide +kernel
theorem dX6_dine_63 : decode cX6_dine 63 = .ok (.iconst 4, 1) := by decide +kernel
theorem dX6_dine_64 : decode cX6_dine 64 = .ok (.idiv, 1) := by decide +kernel
theorem dX6_dine_65 : decode cX6_dine 65 = .ok (.iload 6, 2) := by decide +kernel
theorem dX6_dine_67 : decode cX6_dine 67 = .ok (.iconst 4, 1) := by decide +kernel
theorem dX6_dine_68 : decode cX6_dine 68 = .ok (.idiv, 1) := by decide +kernel
theorem dX6_dine_69 : decode cX6_dine 69 = .ok (.if_icmp .ne 6, 3) := by decide +kernel
theorem dX6_dine_72 : decode cX6_dine 72 = .ok (.iload 7, 2) := by decide +kernel
theorem dX6_dine_74 : decode cX6_dine 74 = .ok (.ireturn, 1) := by decide +kernel
theorem dX6_dine_75 : decode cX6_dine 75 = .ok (.aload_n 0, 1) := by decide +kernel
theorem dX6_dine_76 : decode cX6_dine 76 = .ok (.iload 5, 2) := by decide +kernel
theorem dX6_dine_78 : decode cX6_dine 78 = .ok (.invokevirtual 112, 3) := by decide +kernel
theorem dX6_dine_81 : decode cX6_dine 81 = .ok (.istore 5, 2) := by decide +kernel
theorem dX6_dine_83 : decode cX6_dine 83 = .ok (.aload_n 0, 1) := by decide +kernel
theorem dX6_dine_84 : decode cX6_dine 84 = .ok (.iload 6, 2) := by decide +kernel
theorem dX6_dine_86 : decode cX6_dine 86 = .ok (.invokevirtual 112, 3) := by decide +kernel
theorem dX6_dine_89 : decode cX6_dine 89 = .ok (.istore 6, 2) := by decide +kernel
theorem dX6_dine_91 : decode cX6_dine 91 = .ok (.iinc 7 1, 3) := by decide +kernel
theorem dX6_dine_94 : decode cX6_dine 94 = .ok (.goto (-50), 3) := by decide +kernel
theorem dX6_dine_97 : decode cX6_dine 97 = .ok (.aload_n 0, 1) := by decide +kernel
theorem dX6_dine_98 : decode cX6_dine 98 = .ok (.ldc 101, 2) := by decide +kernel
theorem dX6_dine_100 : decode cX6_dine 100 = .ok (.invokevirtual 69, 3) := by decide +kernel
theorem dX6_dine_103 : decode cX6_dine 103 = .ok (.ireturn, 1) := by decide +kernel
theorem dX6_seen_0 : decode cX6_seen 0 = .ok (.iconst 1, 1) := by decide +kernel
theorem dX6_seen_1 : decode cX6_seen 1 = .ok (.iload_n 1, 1) := by decide +kernel
theorem dX6_seen_2 : decode cX6_seen 2 = .ok (.iconst 4, 1) := by decide +kernel
theorem dX6_seen_3 : decode cX6_seen 3 = .ok (.idiv, 1) := by decide +kernel
theorem dX6_seen_4 : decode cX6_seen 4 = .ok (.ishl, 1) := by decide +kernel
theorem dX6_seen_5 : decode cX6_seen 5 = .ok (.istore_n 2, 1) := by decide +kernel
theorem dX6_seen_6 : decode cX6_seen 6 = .ok (.aload_n 0, 1) := by decide +kernel
theorem dX6_seen_7 : decode cX6_seen 7 = .ok (.iload_n 1, 1) := by decide +kernel
theorem dX6_seen_8 : decode cX6_seen 8 = .ok (.invokevirtual 112, 3) := by decide +kernel
theorem dX6_seen_11 : decode cX6_seen 11 = .ok (.istore_n 3, 1) := by decide +kernel
theorem dX6_seen_12 : decode cX6_seen 12 = .ok (.iload_n 3, 1) := by decide +kernel
theorem dX6_seen_13 : decode cX6_seen 13 = .ok (.ifCond .lt 25, 3) := by decide +kernel
theorem dX6_seen_16 : decode cX6_seen 16 = .ok (.iload_n 3, 1) := by decide +kernel
theorem dX6_seen_17 : decode cX6_seen 17 = .ok (.iload_n 1, 1) := by decide +kernel
theorem dX6_seen_18 : decode cX6_seen 18 = .ok (.if_icmp .eq 20, 3) := by decide +kernel
theorem dX6_seen_21 : decode cX6_seen 21 = .ok (.iload_n 2, 1) := by decide +kernel
theorem dX6_seen_22 : decode cX6_seen 22 = .ok (.iconst 1, 1) := by decide +kernel
theorem dX6_seen_23 : decode cX6_seen 23 = .ok (.iload_n 3, 1) := by decide +kernel
theorem dX6_seen_24 : decode cX6_seen 24 = .ok (.iconst 4, 1) := by decide +kernel
theorem dX6_seen_25 : decode cX6_seen 25 = .ok (.idiv, 1) := by decide +kernel
theorem dX6_seen_26 : decode cX6_seen 26 = .ok (.ishl, 1) := by decide +kernel
theorem dX6_seen_27 : decode cX6_seen 27 = .ok (.ior, 1) := by decide +kernel
theorem dX6_seen_28 : decode cX6_seen 28 = .ok (.istore_n 2, 1) := by decide +kernel
theorem dX6_seen_29 : decode cX6_seen 29 = .ok (.aload_n 0, 1) := by decide +kernel
theorem dX6_seen_30 : decode cX6_seen 30 = .ok (.iload_n 3, 1) := by decide +kernel
theorem dX6_seen_31 : decode cX6_seen 31 = .ok (.invokevirtual 112, 3) := by decide +kernel
theorem dX6_seen_34 : decode cX6_seen 34 = .ok (.istore_n 3, 1) := by decide +kernel
theorem dX6_seen_35 : decode cX6_seen 35 = .ok (.goto (-23), 3) := by decide +kernel
theorem dX6_seen_38 : decode cX6_seen 38 = .ok (.iload_n 2, 1) := by decide +kernel
theorem dX6_seen_39 : decode cX6_seen 39 = .ok (.ireturn, 1) := by decide +kernel
theorem dX6_sees_0 : decode cX6_sees 0 = .ok (.aload_n 0, 1) := by decide +kernel
theorem dX6_sees_1 : decode cX6_sees 1 = .ok (.iload_n 1, 1) := by decide +kernel
theorem dX6_sees_2 : decode cX6_sees 2 = .ok (.iload_n 2, 1) := by decide +kernel
theorem dX6_sees_3 : decode cX6_sees 3 = .ok (.invokevirtual 88, 3) := by decide +kernel
theorem dX6_sees_6 : decode cX6_sees 6 = .ok (.ifCond .eq 15, 3) := by decide +kernel
theorem dX6_sees_9 : decode cX6_sees 9 = .ok (.aload_n 0, 1) := by decide +kernel
theorem dX6_sees_10 : decode cX6_sees 10 = .ok (.iconst 4, 1) := by decide +kernel
theorem dX6_sees_11 : decode cX6_sees 11 = .ok (.iload_n 1, 1) := by decide +kernel
theorem dX6_sees_12 : decode cX6_sees 12 = .ok (.imul, 1) := by decide +kernel
theorem dX6_sees_13 : decode cX6_sees 13 = .ok (.iload_n 2, 1) := by decide +kernel
theorem dX6_sees_14 : decode cX6_sees 14 = .ok (.iadd, 1) := by decide +kernel
theorem dX6_sees_15 : decode cX6_sees 15 = .ok (.invokevirtual 155, 3) := by decide +kernel
theorem dX6_sees_18 : decode cX6_sees 18 = .ok (.goto 9, 3) := by decide +kernel
theorem dX6_sees_21 : decode cX6_sees 21 = .ok (.aload_n 0, 1) := by decide +kernel
theorem dX6_sees_22 : decode cX6_sees 22 = .ok (.ldc 44, 2) := by decide +kernel
theorem dX6_sees_24 : decode cX6_sees 24 = .ok (.invokevirtual 69, 3) := by decide +kernel
theorem dX6_sees_27 : decode cX6_sees 27 = .ok (.ireturn, 1) := by decide +kernel
theorem dX6_ones_0 : decode cX6_ones 0 = .ok (.iconst 0, 1) := by decide +kernel
theorem dX6_ones_1 : decode cX6_ones 1 = .ok (.istore_n 1, 1) := by decide +kernel
theorem dX6_ones_2 : decode cX6_ones 2 = .ok (.iload_n 0, 1) := by decide +kernel
theorem dX6_ones_3 : decode cX6_ones 3 = .ok (.istore_n 2, 1) := by decide +kernel
theorem dX6_ones_4 : decode cX6_ones 4 = .ok (.iload_n 2, 1) := by decide +kernel
theorem dX6_ones_5 : decode cX6_ones 5 = .ok (.ifCond .eq 15, 3) := by decide +kernel
theorem dX6_ones_8 : decode cX6_ones 8 = .ok (.iinc 1 1, 3) := by decide +kernel
theorem dX6_ones_11 : decode cX6_ones 11 = .ok (.iload_n 2, 1) := by decide +kernel
theorem dX6_ones_12 : decode cX6_ones 12 = .ok (.iload_n 2, 1) := by decide +kernel
theorem dX6_ones_13 : decode cX6_ones 13 = .ok (.iconst 1, 1) := by decide +kernel
theorem dX6_ones_14 : decode cX6_ones 14 = .ok (.isub, 1) := by decide +kernel
theorem dX6_ones_15 : decode cX6_ones 15 = .ok (.iand, 1) := by decide +kernel
theorem dX6_ones_16 : decode cX6_ones 16 = .ok (.istore_n 2, 1) := by decide +kernel
theorem dX6_ones_17 : decode cX6_ones 17 = .ok (.goto (-13), 3) := by decide +kernel
theorem dX6_ones_20 : decode cX6_ones 20 = .ok (.iload_n 1, 1) := by decide +kernel
theorem dX6_ones_21 : decode cX6_ones 21 = .ok (.ireturn, 1) := by decide +kernel
theorem dX6_twice_0 : decode cX6_twice 0 = .ok (.aload_n 0, 1) := by decide +kernel
theorem dX6_twice_1 : decode cX6_twice 1 = .ok (.iload_n 1, 1) := by decide +kernel
theorem dX6_twice_2 : decode cX6_twice 2 = .ok (.invokevirtual 53, 3) := by decide +kernel
theorem dX6_twice_5 : decode cX6_twice 5 = .ok (.ifCond .ne 10, 3) := by decide +kernel
theorem dX6_twice_8 : decode cX6_twice 8 = .ok (.aload_n 0, 1) := by decide +kernel
theorem dX6_twice_9 : decode cX6_twice 9 = .ok (.ldc 44, 2) := by decide +kernel
theorem dX6_twice_11 : decode cX6_twice 11 = .ok (.invokevirtual 69, 3) := by decide +kernel
theorem dX6_twice_14 : decode cX6_twice 14 = .ok (.ireturn, 1) := by decide +kernel
theorem dX6_twice_15 : decode cX6_twice 15 = .ok (.iconst 0, 1) := by decide +kernel
theorem dX6_twice_16 : decode cX6_twice 16 = .ok (.istore_n 2, 1) := by decide +kernel
theorem dX6_twice_17 : decode cX6_twice 17 = .ok (.iconst 0, 1) := by decide +kernel
theorem dX6_twice_18 : decode cX6_twice 18 = .ok (.istore_n 3, 1) := by decide +kernel
theorem dX6_twice_19 : decode cX6_twice 19 = .ok (.iconst 0, 1) := by decide +kernel
theorem dX6_twice_20 : decode cX6_twice 20 = .ok (.istore 4, 2) := by decide +kernel
theorem dX6_twice_22 : decode cX6_twice 22 = .ok (.iload 4, 2) := by decide +kernel
theorem dX6_twice_24 : decode cX6_twice 24 = .ok (.iconst 4, 1) := by decide +kernel
theorem dX6_twice_25 : decode cX6_twice 25 = .ok (.if_icmp .ge 39, 3) := by decide +kernel
theorem dX6_twice_28 : decode cX6_twice 28 = .ok (.aload_n 0, 1) := by decide +kernel
theorem dX6_twice_29 : decode cX6_twice 29 = .ok (.iconst 4, 1) := by decide +kernel
theorem dX6_twice_30 : decode cX6_twice 30 = .ok (.iload_n 1, 1) := by decide +kernel
theorem dX6_twice_31 : decode cX6_twice 31 = .ok (.imul, 1) := by decide +kernel
theorem dX6_twice_32 : decode cX6_twice 32 = .ok (.iload 4, 2) := by decide +kernel
theorem dX6_twice_34 : decode cX6_twice 34 = .ok (.iadd, 1) := by decide +kernel
theorem dX6_twice_35 : decode cX6_twice 35 = .ok (.invokevirtual 155, 3) := by decide +kernel
theorem dX6_twice_38 : decode cX6_twice 38 = .ok (.iconst 1, 1) := by decide +kernel
theorem dX6_twice_39 : decode cX6_twice 39 = .ok (.iload_n 1, 1) := by decide +kernel
theorem dX6_twice_40 : decode cX6_twice 40 = .ok (.ishl, 1) := by decide +kernel
theorem dX6_twice_41 : decode cX6_twice 41 = .ok (.iconst (-1), 1) := by decide +kernel
theorem dX6_twice_42 : decode cX6_twice 42 = .ok (.ixor, 1) := by decide +kernel
theorem dX6_twice_43 : decode cX6_twice 43 = .ok (.iand, 1) := by decide +kernel
theorem dX6_twice_44 : decode cX6_twice 44 = .ok (.istore 5, 2) := by decide +kernel
theorem dX6_twice_46 : decode cX6_twice 46 = .ok (.iload_n 3, 1) := by decide +kernel
theorem dX6_twice_47 : decode cX6_twice 47 = .ok (.iload_n 2, 1) := by decide +kernel
theorem dX6_twice_48 : decode cX6_twice 48 = .ok (.iload 5, 2) := by decide +kernel
theorem dX6_twice_50 : decode cX6_twice 50 = .ok (.iand, 1) := by decide +kernel
theorem dX6_twice_51 : decode cX6_twice 51 = .ok (.ior, 1) := by decide +kernel
theorem dX6_twice_52 : decode cX6_twice 52 = .ok (.istore_n 3, 1) := by decide +kernel
theorem dX6_twice_53 : decode cX6_twice 53 = .ok (.iload_n 2, 1) := by decide +kernel
theorem dX6_twice_54 : decode cX6_twice 54 = .ok (.iload 5, 2) := by decide +kernel
theorem dX6_twice_56 : decode cX6_twice 56 = .ok (.ior, 1) := by decide +kernel
theorem dX6_twice_57 : decode cX6_twice 57 = .ok (.istore_n 2, 1) := by decide +kernel
theorem dX6_twice_58 : decode cX6_twice 58 = .ok (.iinc 4 1, 3) := by decide +kernel
theorem dX6_twice_61 : decode cX6_twice 61 = .ok (.goto (-39), 3) := by decide +kernel
theorem dX6_twice_64 : decode cX6_twice 64 = .ok (.iload_n 3, 1) := by decide +kernel
theorem dX6_twice_65 : decode cX6_twice 65 = .ok (.invokestatic 158, 3) := by decide +kernel
theorem dX6_twice_68 : decode cX6_twice 68 = .ok (.ireturn, 1) := by decide +kernel
theorem dX6_beside_0 : decode cX6_beside 0 = .ok (.aload_n 0, 1) := by decide +kernel
theorem dX6_beside_1 : decode cX6_beside 1 = .ok (.getfield 7, 3) := by decide +kernel
theorem dX6_beside_4 : decode cX6_beside 4 = .ok (.bipush 18, 2) := by decide +kernel
theorem dX6_beside_6 : decode cX6_beside 6 = .ok (.iload_n 1, 1) := by decide +kernel
theorem dX6_beside_7 : decode cX6_beside 7 = .ok (.iadd, 1) := by decide +kernel
theorem dX6_beside_8 : decode cX6_beside 8 = .ok (.iaload, 1) := by decide +kernel
theorem dX6_beside_9 : decode cX6_beside 9 = .ok (.iconst 1, 1) := by decide +kernel
theorem dX6_beside_10 : decode cX6_beside 10 = .ok (.isub, 1) := by decide +kernel
theorem dX6_beside_11 : decode cX6_beside 11 = .ok (.istore_n 2, 1) := by decide +kernel
theorem dX6_beside_12 : decode cX6_beside 12 = .ok (.iload_n 2, 1) := by decide +kernel
theorem dX6_beside_13 : decode cX6_beside 13 = .ok (.ifCond .ge 7, 3) := by decide +kernel
theorem dX6_beside_16 : decode cX6_beside 16 = .ok (.iconst (-1), 1) := by decide +kernel
theorem dX6_beside_17 : decode cX6_beside 17 = .ok (.goto 14, 3) := by decide +kernel
theorem dX6_beside_20 : decode cX6_beside 20 = .ok (.iload_n 2, 1) := by decide +kernel
theorem dX6_beside_21 : decode cX6_beside 21 = .ok (.iconst 4, 1) := by decide +kernel
theorem dX6_beside_22 : decode cX6_beside 22 = .ok (.idiv, 1) := by decide +kernel
theorem dX6_beside_23 : decode cX6_beside 23 = .ok (.iconst 4, 1) := by decide +kernel
theorem dX6_beside_24 : decode cX6_beside 24 = .ok (.imul, 1) := by decide +kernel
theorem dX6_beside_25 : decode cX6_beside 25 = .ok (.iload_n 2, 1) := by decide +kernel
theorem dX6_beside_26 : decode cX6_beside 26 = .ok (.iconst 3, 1) := by decide +kernel
theorem dX6_beside_27 : decode cX6_beside 27 = .ok (.iadd, 1) := by decide +kernel
theorem dX6_beside_28 : decode cX6_beside 28 = .ok (.iconst 4, 1) := by decide +kernel
theorem dX6_beside_29 : decode cX6_beside 29 = .ok (.irem, 1) := by decide +kernel
theorem dX6_beside_30 : decode cX6_beside 30 = .ok (.iadd, 1) := by decide +kernel
theorem dX6_beside_31 : decode cX6_beside 31 = .ok (.ireturn, 1) := by decide +kernel
theorem dX6_aboutOf_0 : decode cX6_aboutOf 0 = .ok (.aload_n 0, 1) := by decide +kernel
theorem dX6_aboutOf_1 : decode cX6_aboutOf 1 = .ok (.iload_n 1, 1) := by decide +kernel
theorem dX6_aboutOf_2 : decode cX6_aboutOf 2 = .ok (.invokevirtual 161, 3) := by decide +kernel
theorem dX6_aboutOf_5 : decode cX6_aboutOf 5 = .ok (.istore_n 2, 1) := by decide +kernel
theorem dX6_aboutOf_6 : decode cX6_aboutOf 6 = .ok (.iconst 1, 1) := by decide +kernel
theorem dX6_aboutOf_7 : decode cX6_aboutOf 7 = .ok (.istore_n 3, 1) := by decide +kernel
theorem dX6_aboutOf_8 : decode cX6_aboutOf 8 = .ok (.iload_n 2, 1) := by decide +kernel
theorem dX6_aboutOf_9 : decode cX6_aboutOf 9 = .ok (.ifCond .lt 20, 3) := by decide +kernel
theorem dX6_aboutOf_12 : decode cX6_aboutOf 12 = .ok (.iload_n 2, 1) := by decide +kernel
theorem dX6_aboutOf_13 : decode cX6_aboutOf 13 = .ok (.iload_n 1, 1) := by decide +kernel
theorem dX6_aboutOf_14 : decode cX6_aboutOf 14 = .ok (.if_icmp .eq 15, 3) := by decide +kernel
theorem dX6_aboutOf_17 : decode cX6_aboutOf 17 = .ok (.aload_n 0, 1) := by decide +kernel
theorem dX6_aboutOf_18 : decode cX6_aboutOf 18 = .ok (.iload_n 2, 1) := by decide +kernel
theorem dX6_aboutOf_19 : decode cX6_aboutOf 19 = .ok (.invokevirtual 161, 3) := by decide +kernel
theorem dX6_aboutOf_22 : decode cX6_aboutOf 22 = .ok (.istore_n 2, 1) := by decide +kernel
theorem dX6_aboutOf_23 : decode cX6_aboutOf 23 = .ok (.iinc 3 1, 3) := by decide +kernel
theorem dX6_aboutOf_26 : decode cX6_aboutOf 26 = .ok (.goto (-18), 3) := by decide +kernel
theorem dX6_aboutOf_29 : decode cX6_aboutOf 29 = .ok (.iload_n 2, 1) := by decide +kernel
theorem dX6_aboutOf_30 : decode cX6_aboutOf 30 = .ok (.ifCond .ge 7, 3) := by decide +kernel
theorem dX6_aboutOf_33 : decode cX6_aboutOf 33 = .ok (.iconst 0, 1) := by decide +kernel
theorem dX6_aboutOf_34 : decode cX6_aboutOf 34 = .ok (.goto 4, 3) := by decide +kernel
theorem dX6_aboutOf_37 : decode cX6_aboutOf 37 = .ok (.iload_n 3, 1) := by decide +kernel
theorem dX6_aboutOf_38 : decode cX6_aboutOf 38 = .ok (.ireturn, 1) := by decide +kernel
theorem dX6_isFirst_0 : decode cX6_isFirst 0 = .ok (.iconst 1, 1) := by decide +kernel
theorem dX6_isFirst_1 : decode cX6_isFirst 1 = .ok (.istore_n 2, 1) := by decide +kernel
theorem dX6_isFirst_2 : decode cX6_isFirst 2 = .ok (.aload_n 0, 1) := by decide +kernel
theorem dX6_isFirst_3 : decode cX6_isFirst 3 = .ok (.iload_n 1, 1) := by decide +kernel
theorem dX6_isFirst_4 : decode cX6_isFirst 4 = .ok (.invokevirtual 161, 3) := by decide +kernel
theorem dX6_isFirst_7 : decode cX6_isFirst 7 = .ok (.istore_n 3, 1) := by decide +kernel
theorem dX6_isFirst_8 : decode cX6_isFirst 8 = .ok (.iload_n 3, 1) := by decide +kernel
theorem dX6_isFirst_9 : decode cX6_isFirst 9 = .ok (.iload_n 1, 1) := by decide +kernel
theorem dX6_isFirst_10 : decode cX6_isFirst 10 = .ok (.if_icmp .eq 27, 3) := by decide +kernel
theorem dX6_isFirst_13 : decode cX6_isFirst 13 = .ok (.iload_n 2, 1) := by decide +kernel
theorem dX6_isFirst_14 : decode cX6_isFirst 14 = .ok (.ifCond .eq 23, 3) := by decide +kernel
theorem dX6_isFirst_17 : decode cX6_isFirst 17 = .ok (.iload_n 3, 1) := by decide +kernel
theorem dX6_isFirst_18 : decode cX6_isFirst 18 = .ok (.iload_n 1, 1) := by decide +kernel
theorem dX6_isFirst_19 : decode cX6_isFirst 19 = .ok (.if_icmp .le 7, 3) := by decide +kernel
theorem dX6_isFirst_22 : decode cX6_isFirst 22 = .ok (.iconst 1, 1) := by decide +kernel
theorem dX6_isFirst_23 : decode cX6_isFirst 23 = .ok (.goto 4, 3) := by decide +kernel
theorem dX6_isFirst_26 : decode cX6_isFirst 26 = .ok (.iconst 0, 1) := by decide +kernel
theorem dX6_isFirst_27 : decode cX6_isFirst 27 = .ok (.istore_n 2, 1) := by decide +kernel
theorem dX6_isFirst_28 : decode cX6_isFirst 28 = .ok (.aload_n 0, 1) := by decide +kernel
theorem dX6_isFirst_29 : decode cX6_isFirst 29 = .ok (.iload_n 3, 1) := by decide +kernel
theorem dX6_isFirst_30 : decode cX6_isFirst 30 = .ok (.invokevirtual 161, 3) := by decide +kernel
theorem dX6_isFirst_33 : decode cX6_isFirst 33 = .ok (.istore_n 3, 1) := by decide +kernel
theorem dX6_isFirst_34 : decode cX6_isFirst 34 = .ok (.goto (-26), 3) := by decide +kernel
theorem dX6_isFirst_37 : decode cX6_isFirst 37 = .ok (.iload_n 2, 1) := by decide +kernel
theorem dX6_isFirst_38 : decode cX6_isFirst 38 = .ok (.ireturn, 1) := by decide +kernel
theorem dX6_about_0 : decode cX6_about 0 = .ok (.aload_n 0, 1) := by decide +kernel
theorem dX6_about_1 : decode cX6_about 1 = .ok (.iload_n 1, 1) := by decide +kernel
theorem dX6_about_2 : decode cX6_about 2 = .ok (.iload_n 2, 1) := by decide +kernel
theorem dX6_about_3 : decode cX6_about 3 = .ok (.invokevirtual 88, 3) := by decide +kernel
theorem dX6_about_6 : decode cX6_about 6 = .ok (.ifCond .ne 10, 3) := by decide +kernel
theorem dX6_about_9 : decode cX6_about 9 = .ok (.aload_n 0, 1) := by decide +kernel
theorem dX6_about_10 : decode cX6_about 10 = .ok (.ldc 44, 2) := by decide +kernel
theorem dX6_about_12 : decode cX6_about 12 = .ok (.invokevirtual 69, 3) := by decide +kernel
theorem dX6_about_15 : decode cX6_about 15 = .ok (.ireturn, 1) := by decide +kernel
theorem dX6_about_16 : decode cX6_about 16 = .ok (.aload_n 0, 1) := by decide +kernel
theorem dX6_about_17 : decode cX6_about 17 = .ok (.iconst 4, 1) := by decide +kernel
theorem dX6_about_18 : decode cX6_about 18 = .ok (.iload_n 1, 1) := by decide +kernel
theorem dX6_about_19 : decode cX6_about 19 = .ok (.imul, 1) := by decide +kernel
theorem dX6_about_20 : decode cX6_about 20 = .ok (.iload_n 2, 1) := by decide +kernel
theorem dX6_about_21 : decode cX6_about 21 = .ok (.iadd, 1) := by decide +kernel
theorem dX6_about_22 : decode cX6_about 22 = .ok (.invokevirtual 164, 3) := by decide +kernel
theorem dX6_about_25 : decode cX6_about 25 = .ok (.istore_n 3, 1) := by decide +kernel
theorem dX6_about_26 : decode cX6_about 26 = .ok (.iload_n 3, 1) := by decide +kernel
theorem dX6_about_27 : decode cX6_about 27 = .ok (.ifCond .ne 12, 3) := by decide +kernel
theorem dX6_about_30 : decode cX6_about 30 = .ok (.aload_n 0, 1) := by decide +kernel
theorem dX6_about_31 : decode cX6_about 31 = .ok (.ldc 101, 2) := by decide +kernel
theorem dX6_about_33 : decode cX6_about 33 = .ok (.invokevirtual 69, 3) := by decide +kernel
theorem dX6_about_36 : decode cX6_about 36 = .ok (.goto 4, 3) := by decide +kernel
theorem dX6_about_39 : decode cX6_about 39 = .ok (.iload_n 3, 1) := by decide +kernel
theorem dX6_about_40 : decode cX6_about 40 = .ok (.ireturn, 1) := by decide +kernel
theorem dX6_corners_0 : decode cX6_corners 0 = .ok (.iconst 0, 1) := by decide +kernel
theorem dX6_corners_1 : decode cX6_corners 1 = .ok (.istore_n 1, 1) := by decide +kernel
theorem dX6_corners_2 : decode cX6_corners 2 = .ok (.iconst 0, 1) := by decide +kernel
theorem dX6_corners_3 : decode cX6_corners 3 = .ok (.istore_n 2, 1) := by decide +kernel
theorem dX6_corners_4 : decode cX6_corners 4 = .ok (.iload_n 2, 1) := by decide +kernel
theorem dX6_corners_5 : decode cX6_corners 5 = .ok (.iconst 4, 1) := by decide +kernel
theorem dX6_corners_6 : decode cX6_corners 6 = .ok (.aload_n 0, 1) := by decide +kernel
theorem dX6_corners_7 : decode cX6_corners 7 = .ok (.getfield 7, 3) := by decide +kernel
theorem dX6_corners_10 : decode cX6_corners 10 = .ok (.iconst 0, 1) := by decide +kernel
theorem dX6_corners_11 : decode cX6_corners 11 = .ok (.iaload, 1) := by decide +kernel
theorem dX6_corners_12 : decode cX6_corners 12 = .ok (.imul, 1) := by decide +kernel
theorem dX6_corners_13 : decode cX6_corners 13 = .ok (.if_icmp .ge 33, 3) := by decide +kernel
theorem dX6_corners_16 : decode cX6_corners 16 = .ok (.iload_n 1, 1) := by decide +kernel
theorem dX6_corners_17 : decode cX6_corners 17 = .ok (.aload_n 0, 1) := by decide +kernel
theorem dX6_corners_18 : decode cX6_corners 18 = .ok (.iload_n 2, 1) := by decide +kernel
theorem dX6_corners_19 : decode cX6_corners 19 = .ok (.invokevirtual 164, 3) := by decide +kernel
theorem dX6_corners_22 : decode cX6_corners 22 = .ok (.ifCond .le 15, 3) := by decide +kernel
theorem dX6_corners_25 : decode cX6_corners 25 = .ok (.aload_n 0, 1) := by decide +kernel
theorem dX6_corners_26 : decode cX6_corners 26 = .ok (.iload_n 2, 1) := by decide +kernel
theorem dX6_corners_27 : decode cX6_corners 27 = .ok (.invokevirtual 167, 3) := by decide +kernel
theorem dX6_corners_30 : decode cX6_corners 30 = .ok (.ifCond .eq 7, 3) := by decide +kernel
theorem dX6_corners_33 : decode cX6_corners 33 = .ok (.iconst 1, 1) := by decide +kernel
theorem dX6_corners_34 : decode cX6_corners 34 = .ok (.goto 4, 3) := by decide +kernel
theorem dX6_corners_37 : decode cX6_corners 37 = .ok (.iconst 0, 1) := by decide +kernel
theorem dX6_corners_38 : decode cX6_corners 38 = .ok (.iadd, 1) := by decide +kernel
theorem dX6_corners_39 : decode cX6_corners 39 = .ok (.istore_n 1, 1) := by decide +kernel
theorem dX6_corners_40 : decode cX6_corners 40 = .ok (.iinc 2 1, 3) := by decide +kernel
theorem dX6_corners_43 : decode cX6_corners 43 = .ok (.goto (-39), 3) := by decide +kernel
theorem dX6_corners_46 : decode cX6_corners 46 = .ok (.iload_n 1, 1) := by decide +kernel
theorem dX6_corners_47 : decode cX6_corners 47 = .ok (.ireturn, 1) := by decide +kernel
theorem dX6_excess_0 : decode cX6_excess 0 = .ok (.iconst 0, 1) := by decide +kernel
theorem dX6_excess_1 : decode cX6_excess 1 = .ok (.istore_n 1, 1) := by decide +kernel
theorem dX6_excess_2 : decode cX6_excess 2 = .ok (.iconst 0, 1) := by decide +kernel
theorem dX6_excess_3 : decode cX6_excess 3 = .ok (.istore_n 2, 1) := by decide +kernel
theorem dX6_excess_4 : decode cX6_excess 4 = .ok (.iload_n 2, 1) := by decide +kernel
theorem dX6_excess_5 : decode cX6_excess 5 = .ok (.iconst 4, 1) := by decide +kernel
theorem dX6_excess_6 : decode cX6_excess 6 = .ok (.aload_n 0, 1) := by decide +kernel
theorem dX6_excess_7 : decode cX6_excess 7 = .ok (.getfield 7, 3) := by decide +kernel
theorem dX6_excess_10 : decode cX6_excess 10 = .ok (.iconst 0, 1) := by decide +kernel
theorem dX6_excess_11 : decode cX6_excess 11 = .ok (.iaload, 1) := by decide +kernel
theorem dX6_excess_12 : decode cX6_excess 12 = .ok (.imul, 1) := by decide +kernel
theorem dX6_excess_13 : decode cX6_excess 13 = .ok (.if_icmp .ge 39, 3) := by decide +kernel
theorem dX6_excess_16 : decode cX6_excess 16 = .ok (.iload_n 1, 1) := by decide +kernel
theorem dX6_excess_17 : decode cX6_excess 17 = .ok (.aload_n 0, 1) := by decide +kernel
theorem dX6_excess_18 : decode cX6_excess 18 = .ok (.iload_n 2, 1) := by decide +kernel
theorem dX6_excess_19 : decode cX6_excess 19 = .ok (.invokevirtual 164, 3) := by decide +kernel
theorem dX6_excess_22 : decode cX6_excess 22 = .ok (.ifCond .le 21, 3) := by decide +kernel
theorem dX6_excess_25 : decode cX6_excess 25 = .ok (.aload_n 0, 1) := by decide +kernel
theorem dX6_excess_26 : decode cX6_excess 26 = .ok (.iload_n 2, 1) := by decide +kernel
theorem dX6_excess_27 : decode cX6_excess 27 = .ok (.invokevirtual 167, 3) := by decide +kernel
theorem dX6_excess_30 : decode cX6_excess 30 = .ok (.ifCond .eq 13, 3) := by decide +kernel
theorem dX6_excess_33 : decode cX6_excess 33 = .ok (.iconst 4, 1) := by decide +kernel
theorem dX6_excess_34 : decode cX6_excess 34 = .ok (.aload_n 0, 1) := by decide +kernel
theorem dX6_excess_35 : decode cX6_excess 35 = .ok (.iload_n 2, 1) := by decide +kernel
theorem dX6_excess_36 : decode cX6_excess 36 = .ok (.invokevirtual 164, 3) := by decide +kernel
theorem dX6_excess_39 : decode cX6_excess 39 = .ok (.isub, 1) := by decide +kernel
theorem dX6_excess_40 : decode cX6_excess 40 = .ok (.goto 4, 3) := by decide +kernel
theorem dX6_excess_43 : decode cX6_excess 43 = .ok (.iconst 0, 1) := by decide +kernel
theorem dX6_excess_44 : decode cX6_excess 44 = .ok (.iadd, 1) := by decide +kernel
theorem dX6_excess_45 : decode cX6_excess 45 = .ok (.istore_n 1, 1) := by decide +kernel
theorem dX6_excess_46 : decode cX6_excess 46 = .ok (.iinc 2 1, 3) := by decide +kernel
theorem dX6_excess_49 : decode cX6_excess 49 = .ok (.goto (-45), 3) := by decide +kernel
theorem dX6_excess_52 : decode cX6_excess 52 = .ok (.iload_n 1, 1) := by decide +kernel
theorem dX6_excess_53 : decode cX6_excess 53 = .ok (.ireturn, 1) := by decide +kernel
theorem dX6_bent_0 : decode cX6_bent 0 = .ok (.iconst 0, 1) := by decide +kernel
theorem dX6_bent_1 : decode cX6_bent 1 = .ok (.istore_n 1, 1) := by decide +kernel
theorem dX6_bent_2 : decode cX6_bent 2 = .ok (.iconst 0, 1) := by decide +kernel
theorem dX6_bent_3 : decode cX6_bent 3 = .ok (.istore_n 2, 1) := by decide +kernel
theorem dX6_bent_4 : decode cX6_bent 4 = .ok (.iload_n 2, 1) := by decide +kernel
theorem dX6_bent_5 : decode cX6_bent 5 = .ok (.iconst 4, 1) := by decide +kernel
theorem dX6_bent_6 : decode cX6_bent 6 = .ok (.aload_n 0, 1) := by decide +kernel
theorem dX6_bent_7 : decode cX6_bent 7 = .ok (.getfield 7, 3) := by decide +kernel
theorem dX6_bent_10 : decode cX6_bent 10 = .ok (.iconst 0, 1) := by decide +kernel
theorem dX6_bent_11 : decode cX6_bent 11 = .ok (.iaload, 1) := by decide +kernel
theorem dX6_bent_12 : decode cX6_bent 12 = .ok (.imul, 1) := by decide +kernel
theorem dX6_bent_13 : decode cX6_bent 13 = .ok (.if_icmp .ge 38, 3) := by decide +kernel
theorem dX6_bent_16 : decode cX6_bent 16 = .ok (.iload_n 1, 1) := by decide +kernel
theorem dX6_bent_17 : decode cX6_bent 17 = .ok (.aload_n 0, 1) := by decide +kernel
theorem dX6_bent_18 : decode cX6_bent 18 = .ok (.iload_n 2, 1) := by decide +kernel
theorem dX6_bent_19 : decode cX6_bent 19 = .ok (.invokevirtual 164, 3) := by decide +kernel
theorem dX6_bent_22 : decode cX6_bent 22 = .ok (.ifCond .le 20, 3) := by decide +kernel
theorem dX6_bent_25 : decode cX6_bent 25 = .ok (.aload_n 0, 1) := by decide +kernel
theorem dX6_bent_26 : decode cX6_bent 26 = .ok (.iload_n 2, 1) := by decide +kernel
theorem dX6_bent_27 : decode cX6_bent 27 = .ok (.invokevirtual 164, 3) := by decide +kernel
theorem dX6_bent_30 : decode cX6_bent 30 = .ok (.iconst 4, 1) := by decide +kernel
theorem dX6_bent_31 : decode cX6_bent 31 = .ok (.if_icmp .eq 11, 3) := by decide +kernel
theorem dX6_bent_34 : decode cX6_bent 34 = .ok (.iconst 1, 1) := by decide +kernel
theorem dX6_bent_35 : decode cX6_bent 35 = .ok (.iload_n 2, 1) := by decide +kernel
theorem dX6_bent_36 : decode cX6_bent 36 = .ok (.iconst 4, 1) := by decide +kernel
theorem dX6_bent_37 : decode cX6_bent 37 = .ok (.idiv, 1) := by decide +kernel
theorem dX6_bent_38 : decode cX6_bent 38 = .ok (.ishl, 1) := by decide +kernel
theorem dX6_bent_39 : decode cX6_bent 39 = .ok (.goto 4, 3) := by decide +kernel
theorem dX6_bent_42 : decode cX6_bent 42 = .ok (.iconst 0, 1) := by decide +kernel
theorem dX6_bent_43 : decode cX6_bent 43 = .ok (.ior, 1) := by decide +kernel
theorem dX6_bent_44 : decode cX6_bent 44 = .ok (.istore_n 1, 1) := by decide +kernel
theorem dX6_bent_45 : decode cX6_bent 45 = .ok (.iinc 2 1, 3) := by decide +kernel
theorem dX6_bent_48 : decode cX6_bent 48 = .ok (.goto (-44), 3) := by decide +kernel
theorem dX6_bent_51 : decode cX6_bent 51 = .ok (.iload_n 1, 1) := by decide +kernel
theorem dX6_bent_52 : decode cX6_bent 52 = .ok (.ireturn, 1) := by decide +kernel
theorem dX6_spread_0 : decode cX6_spread 0 = .ok (.iload_n 1, 1) := by decide +kernel
theorem dX6_spread_1 : decode cX6_spread 1 = .ok (.istore_n 2, 1) := by decide +kernel
theorem dX6_spread_2 : decode cX6_spread 2 = .ok (.iconst 0, 1) := by decide +kernel
theorem dX6_spread_3 : decode cX6_spread 3 = .ok (.istore_n 3, 1) := by decide +kernel
theorem dX6_spread_4 : decode cX6_spread 4 = .ok (.iload_n 3, 1) := by decide +kernel
theorem dX6_spread_5 : decode cX6_spread 5 = .ok (.iconst 4, 1) := by decide +kernel
theorem dX6_spread_6 : decode cX6_spread 6 = .ok (.aload_n 0, 1) := by decide +kernel
theorem dX6_spread_7 : decode cX6_spread 7 = .ok (.getfield 7, 3) := by decide +kernel
theorem dX6_spread_10 : decode cX6_spread 10 = .ok (.iconst 0, 1) := by decide +kernel
theorem dX6_spread_11 : decode cX6_spread 11 = .ok (.iaload, 1) := by decide +kernel
theorem dX6_spread_12 : decode cX6_spread 12 = .ok (.imul, 1) := by decide +kernel
theorem dX6_spread_13 : decode cX6_spread 13 = .ok (.if_icmp .ge 54, 3) := by decide +kernel
theorem dX6_spread_16 : decode cX6_spread 16 = .ok (.iload_n 2, 1) := by decide +kernel
theorem dX6_spread_17 : decode cX6_spread 17 = .ok (.iload_n 1, 1) := by decide +kernel
theorem dX6_spread_18 : decode cX6_spread 18 = .ok (.iload_n 3, 1) := by decide +kernel
theorem dX6_spread_19 : decode cX6_spread 19 = .ok (.iconst 4, 1) := by decide +kernel
theorem dX6_spread_20 : decode cX6_spread 20 = .ok (.idiv, 1) := by decide +kernel
theorem dX6_spread_21 : decode cX6_spread 21 = .ok (.ishr, 1) := by decide +kernel
theorem dX6_spread_22 : decode cX6_spread 22 = .ok (.iconst 1, 1) := by decide +kernel
theorem dX6_spread_23 : decode cX6_spread 23 = .ok (.iand, 1) := by decide +kernel
theorem dX6_spread_24 : decode cX6_spread 24 = .ok (.iconst 1, 1) := by decide +kernel
theorem dX6_spread_25 : decode cX6_spread 25 = .ok (.if_icmp .ne 33, 3) := by decide +kernel
theorem dX6_spread_28 : decode cX6_spread 28 = .ok (.aload_n 0, 1) := by decide +kernel
theorem dX6_spread_29 : decode cX6_spread 29 = .ok (.getfield 7, 3) := by decide +kernel
theorem dX6_spread_32 : decode cX6_spread 32 = .ok (.bipush 18, 2) := by decide +kernel
theorem dX6_spread_34 : decode cX6_spread 34 = .ok (.iload_n 3, 1) := by decide +kernel
theorem dX6_spread_35 : decode cX6_spread 35 = .ok (.iadd, 1) := by decide +kernel
theorem dX6_spread_36 : decode cX6_spread 36 = .ok (.iaload, 1) := by decide +kernel
theorem dX6_spread_37 : decode cX6_spread 37 = .ok (.ifCond .le 21, 3) := by decide +kernel
theorem dX6_spread_40 : decode cX6_spread 40 = .ok (.iconst 1, 1) := by decide +kernel
theorem dX6_spread_41 : decode cX6_spread 41 = .ok (.aload_n 0, 1) := by decide +kernel
theorem dX6_spread_42 : decode cX6_spread 42 = .ok (.getfield 7, 3) := by decide +kernel
theorem dX6_spread_45 : decode cX6_spread 45 = .ok (.bipush 18, 2) := by decide +kernel
theorem dX6_spread_47 : decode cX6_spread 47 = .ok (.iload_n 3, 1) := by decide +kernel
theorem dX6_spread_48 : decode cX6_spread 48 = .ok (.iadd, 1) := by decide +kernel
theorem dX6_spread_49 : decode cX6_spread 49 = .ok (.iaload, 1) := by decide +kernel
theorem dX6_spread_50 : decode cX6_spread 50 = .ok (.iconst 1, 1) := by decide +kernel
theorem dX6_spread_51 : decode cX6_spread 51 = .ok (.isub, 1) := by decide +kernel
theorem dX6_spread_52 : decode cX6_spread 52 = .ok (.iconst 4, 1) := by decide +kernel
theorem dX6_spread_53 : decode cX6_spread 53 = .ok (.idiv, 1) := by decide +kernel
theorem dX6_spread_54 : decode cX6_spread 54 = .ok (.ishl, 1) := by decide +kernel
theorem dX6_spread_55 : decode cX6_spread 55 = .ok (.goto 4, 3) := by decide +kernel
theorem dX6_spread_58 : decode cX6_spread 58 = .ok (.iconst 0, 1) := by decide +kernel
theorem dX6_spread_59 : decode cX6_spread 59 = .ok (.ior, 1) := by decide +kernel
theorem dX6_spread_60 : decode cX6_spread 60 = .ok (.istore_n 2, 1) := by decide +kernel
theorem dX6_spread_61 : decode cX6_spread 61 = .ok (.iinc 3 1, 3) := by decide +kernel
theorem dX6_spread_64 : decode cX6_spread 64 = .ok (.goto (-60), 3) := by decide +kernel
theorem dX6_spread_67 : decode cX6_spread 67 = .ok (.iload_n 2, 1) := by decide +kernel
theorem dX6_spread_68 : decode cX6_spread 68 = .ok (.ireturn, 1) := by decide +kernel
theorem dX6_parts_0 : decode cX6_parts 0 = .ok (.iconst 0, 1) := by decide +kernel
theorem dX6_parts_1 : decode cX6_parts 1 = .ok (.istore_n 1, 1) := by decide +kernel
theorem dX6_parts_2 : decode cX6_parts 2 = .ok (.iconst 0, 1) := by decide +kernel
theorem dX6_parts_3 : decode cX6_parts 3 = .ok (.istore_n 2, 1) := by decide +kernel
theorem dX6_parts_4 : decode cX6_parts 4 = .ok (.iconst 0, 1) := by decide +kernel
theorem dX6_parts_5 : decode cX6_parts 5 = .ok (.istore_n 3, 1) := by decide +kernel
theorem dX6_parts_6 : decode cX6_parts 6 = .ok (.iload_n 3, 1) := by decide +kernel
theorem dX6_parts_7 : decode cX6_parts 7 = .ok (.aload_n 0, 1) := by decide +kernel
theorem dX6_parts_8 : decode cX6_parts 8 = .ok (.getfield 7, 3) := by decide +kernel
theorem dX6_parts_11 : decode cX6_parts 11 = .ok (.iconst 0, 1) := by decide +kernel
theorem dX6_parts_12 : decode cX6_parts 12 = .ok (.iaload, 1) := by decide +kernel
theorem dX6_parts_13 : decode cX6_parts 13 = .ok (.if_icmp .ge 54, 3) := by decide +kernel
theorem dX6_parts_16 : decode cX6_parts 16 = .ok (.iload_n 2, 1) := by decide +kernel
theorem dX6_parts_17 : decode cX6_parts 17 = .ok (.iload_n 3, 1) := by decide +kernel
theorem dX6_parts_18 : decode cX6_parts 18 = .ok (.ishr, 1) := by decide +kernel
theorem dX6_parts_19 : decode cX6_parts 19 = .ok (.iconst 1, 1) := by decide +kernel
theorem dX6_parts_20 : decode cX6_parts 20 = .ok (.iand, 1) := by decide +kernel
theorem dX6_parts_21 : decode cX6_parts 21 = .ok (.ifCond .ne 40, 3) := by decide +kernel
theorem dX6_parts_24 : decode cX6_parts 24 = .ok (.iinc 1 1, 3) := by decide +kernel
theorem dX6_parts_27 : decode cX6_parts 27 = .ok (.iconst 1, 1) := by decide +kernel
theorem dX6_parts_28 : decode cX6_parts 28 = .ok (.iload_n 3, 1) := by decide +kernel
theorem dX6_parts_29 : decode cX6_parts 29 = .ok (.ishl, 1) := by decide +kernel
theorem dX6_parts_30 : decode cX6_parts 30 = .ok (.istore 4, 2) := by decide +kernel
theorem dX6_parts_32 : decode cX6_parts 32 = .ok (.iconst 0, 1) := by decide +kernel
theorem dX6_parts_33 : decode cX6_parts 33 = .ok (.istore 5, 2) := by decide +kernel
theorem dX6_parts_35 : decode cX6_parts 35 = .ok (.iload 5, 2) := by decide +kernel
theorem dX6_parts_37 : decode cX6_parts 37 = .ok (.bipush 16, 2) := by decide +kernel
theorem dX6_parts_39 : decode cX6_parts 39 = .ok (.if_icmp .ge 17, 3) := by decide +kernel
theorem dX6_parts_42 : decode cX6_parts 42 = .ok (.aload_n 0, 1) := by decide +kernel
theorem dX6_parts_43 : decode cX6_parts 43 = .ok (.iload 4, 2) := by decide +kernel
theorem dX6_parts_45 : decode cX6_parts 45 = .ok (.invokevirtual 170, 3) := by decide +kernel
theorem dX6_parts_48 : decode cX6_parts 48 = .ok (.istore 4, 2) := by decide +kernel
theorem dX6_parts_50 : decode cX6_parts 50 = .ok (.iinc 5 1, 3) := by decide +kernel
theorem dX6_parts_53 : decode cX6_parts 53 = .ok (.goto (-18), 3) := by decide +kernel
theorem dX6_parts_56 : decode cX6_parts 56 = .ok (.iload_n 2, 1) := by decide +kernel
theorem dX6_parts_57 : decode cX6_parts 57 = .ok (.iload 4, 2) := by decide +kernel
theorem dX6_parts_59 : decode cX6_parts 59 = .ok (.ior, 1) := by decide +kernel
theorem dX6_parts_60 : decode cX6_parts 60 = .ok (.istore_n 2, 1) := by decide +kernel
theorem dX6_parts_61 : decode cX6_parts 61 = .ok (.iinc 3 1, 3) := by decide +kernel
theorem dX6_parts_64 : decode cX6_parts 64 = .ok (.goto (-58), 3) := by decide +kernel
theorem dX6_parts_67 : decode cX6_parts 67 = .ok (.iload_n 1, 1) := by decide +kernel
theorem dX6_parts_68 : decode cX6_parts 68 = .ok (.ireturn, 1) := by decide +kernel
theorem dX6_farOf_0 : decode cX6_farOf 0 = .ok (.iconst 1, 1) := by decide +kernel
theorem dX6_farOf_1 : decode cX6_farOf 1 = .ok (.iload_n 1, 1) := by decide +kernel
theorem dX6_farOf_2 : decode cX6_farOf 2 = .ok (.ishl, 1) := by decide +kernel
theorem dX6_farOf_3 : decode cX6_farOf 3 = .ok (.istore_n 3, 1) := by decide +kernel
theorem dX6_farOf_4 : decode cX6_farOf 4 = .ok (.iconst 0, 1) := by decide +kernel
theorem dX6_farOf_5 : decode cX6_farOf 5 = .ok (.istore 4, 2) := by decide +kernel
theorem dX6_farOf_7 : decode cX6_farOf 7 = .ok (.iload 4, 2) := by decide +kernel
theorem dX6_farOf_9 : decode cX6_farOf 9 = .ok (.bipush 16, 2) := by decide +kernel
theorem dX6_farOf_11 : decode cX6_farOf 11 = .ok (.if_icmp .gt 27, 3) := by decide +kernel
theorem dX6_farOf_14 : decode cX6_farOf 14 = .ok (.iload_n 3, 1) := by decide +kernel
theorem dX6_farOf_15 : decode cX6_farOf 15 = .ok (.iload_n 2, 1) := by decide +kernel
theorem dX6_farOf_16 : decode cX6_farOf 16 = .ok (.ishr, 1) := by decide +kernel
theorem dX6_farOf_17 : decode cX6_farOf 17 = .ok (.iconst 1, 1) := by decide +kernel
theorem dX6_farOf_18 : decode cX6_farOf 18 = .ok (.iand, 1) := by decide +kernel
theorem dX6_farOf_19 : decode cX6_farOf 19 = .ok (.iconst 1, 1) := by decide +kernel
theorem dX6_farOf_20 : decode cX6_farOf 20 = .ok (.if_icmp .ne 6, 3) := by decide +kernel
theorem dX6_farOf_23 : decode cX6_farOf 23 = .ok (.iload 4, 2) := by decide +kernel
theorem dX6_farOf_25 : decode cX6_farOf 25 = .ok (.ireturn, 1) := by decide +kernel
theorem dX6_farOf_26 : decode cX6_farOf 26 = .ok (.aload_n 0, 1) := by decide +kernel
theorem dX6_farOf_27 : decode cX6_farOf 27 = .ok (.iload_n 3, 1) := by decide +kernel
theorem dX6_farOf_28 : decode cX6_farOf 28 = .ok (.invokevirtual 170, 3) := by decide +kernel
theorem dX6_farOf_31 : decode cX6_farOf 31 = .ok (.istore_n 3, 1) := by decide +kernel
theorem dX6_farOf_32 : decode cX6_farOf 32 = .ok (.iinc 4 1, 3) := by decide +kernel
theorem dX6_farOf_35 : decode cX6_farOf 35 = .ok (.goto (-28), 3) := by decide +kernel
theorem dX6_farOf_38 : decode cX6_farOf 38 = .ok (.ldc 173, 2) := by decide +kernel
theorem dX6_farOf_40 : decode cX6_farOf 40 = .ok (.ireturn, 1) := by decide +kernel
theorem dX6_far_0 : decode cX6_far 0 = .ok (.aload_n 0, 1) := by decide +kernel
theorem dX6_far_1 : decode cX6_far 1 = .ok (.iload_n 1, 1) := by decide +kernel
theorem dX6_far_2 : decode cX6_far 2 = .ok (.invokevirtual 53, 3) := by decide +kernel
theorem dX6_far_5 : decode cX6_far 5 = .ok (.ifCond .eq 26, 3) := by decide +kernel
theorem dX6_far_8 : decode cX6_far 8 = .ok (.aload_n 0, 1) := by decide +kernel
theorem dX6_far_9 : decode cX6_far 9 = .ok (.iload_n 2, 1) := by decide +kernel
theorem dX6_far_10 : decode cX6_far 10 = .ok (.invokevirtual 53, 3) := by decide +kernel
theorem dX6_far_13 : decode cX6_far 13 = .ok (.ifCond .eq 18, 3) := by decide +kernel
theorem dX6_far_16 : decode cX6_far 16 = .ok (.aload_n 0, 1) := by decide +kernel
theorem dX6_far_17 : decode cX6_far 17 = .ok (.aload_n 0, 1) := by decide +kernel
theorem dX6_far_18 : decode cX6_far 18 = .ok (.iload_n 1, 1) := by decide +kernel
theorem dX6_far_19 : decode cX6_far 19 = .ok (.iload_n 2, 1) := by decide +kernel
theorem dX6_far_20 : decode cX6_far 20 = .ok (.invokevirtual 174, 3) := by decide +kernel
theorem dX6_far_23 : decode cX6_far 23 = .ok (.ldc 177, 2) := by decide +kernel
theorem dX6_far_25 : decode cX6_far 25 = .ok (.invokevirtual 152, 3) := by decide +kernel
theorem dX6_far_28 : decode cX6_far 28 = .ok (.goto 9, 3) := by decide +kernel
theorem dX6_far_31 : decode cX6_far 31 = .ok (.aload_n 0, 1) := by decide +kernel
theorem dX6_far_32 : decode cX6_far 32 = .ok (.ldc 44, 2) := by decide +kernel
theorem dX6_far_34 : decode cX6_far 34 = .ok (.invokevirtual 69, 3) := by decide +kernel
theorem dX6_far_37 : decode cX6_far 37 = .ok (.ireturn, 1) := by decide +kernel
theorem dX6_smooth_0 : decode cX6_smooth 0 = .ok (.aload_n 0, 1) := by decide +kernel
theorem dX6_smooth_1 : decode cX6_smooth 1 = .ok (.iload_n 1, 1) := by decide +kernel
theorem dX6_smooth_2 : decode cX6_smooth 2 = .ok (.invokevirtual 53, 3) := by decide +kernel
theorem dX6_smooth_5 : decode cX6_smooth 5 = .ok (.ifCond .eq 11, 3) := by decide +kernel
theorem dX6_smooth_8 : decode cX6_smooth 8 = .ok (.aload_n 0, 1) := by decide +kernel
theorem dX6_smooth_9 : decode cX6_smooth 9 = .ok (.iload_n 2, 1) := by decide +kernel
theorem dX6_smooth_10 : decode cX6_smooth 10 = .ok (.invokevirtual 53, 3) := by decide +kernel
theorem dX6_smooth_13 : decode cX6_smooth 13 = .ok (.ifCond .ne 10, 3) := by decide +kernel
theorem dX6_smooth_16 : decode cX6_smooth 16 = .ok (.aload_n 0, 1) := by decide +kernel
theorem dX6_smooth_17 : decode cX6_smooth 17 = .ok (.ldc 44, 2) := by decide +kernel
theorem dX6_smooth_19 : decode cX6_smooth 19 = .ok (.invokevirtual 69, 3) := by decide +kernel
theorem dX6_smooth_22 : decode cX6_smooth 22 = .ok (.ireturn, 1) := by decide +kernel
theorem dX6_smooth_23 : decode cX6_smooth 23 = .ok (.iconst 0, 1) := by decide +kernel
theorem dX6_smooth_24 : decode cX6_smooth 24 = .ok (.istore_n 3, 1) := by decide +kernel
theorem dX6_smooth_25 : decode cX6_smooth 25 = .ok (.iload_n 3, 1) := by decide +kernel
theorem dX6_smooth_26 : decode cX6_smooth 26 = .ok (.aload_n 0, 1) := by decide +kernel
theorem dX6_smooth_27 : decode cX6_smooth 27 = .ok (.getfield 7, 3) := by decide +kernel
theorem dX6_smooth_30 : decode cX6_smooth 30 = .ok (.iconst 0, 1) := by decide +kernel
theorem dX6_smooth_31 : decode cX6_smooth 31 = .ok (.iaload, 1) := by decide +kernel
theorem dX6_smooth_32 : decode cX6_smooth 32 = .ok (.if_icmp .ge 26, 3) := by decide +kernel
theorem dX6_smooth_35 : decode cX6_smooth 35 = .ok (.aload_n 0, 1) := by decide +kernel
theorem dX6_smooth_36 : decode cX6_smooth 36 = .ok (.getfield 25, 3) := by decide +kernel
theorem dX6_smooth_39 : decode cX6_smooth 39 = .ok (.iload_n 3, 1) := by decide +kernel
theorem dX6_smooth_40 : decode cX6_smooth 40 = .ok (.iload_n 3, 1) := by decide +kernel
theorem dX6_smooth_41 : decode cX6_smooth 41 = .ok (.iload_n 1, 1) := by decide +kernel
theorem dX6_smooth_42 : decode cX6_smooth 42 = .ok (.if_icmp .ne 7, 3) := by decide +kernel
theorem dX6_smooth_45 : decode cX6_smooth 45 = .ok (.iconst 0, 1) := by decide +kernel
theorem dX6_smooth_46 : decode cX6_smooth 46 = .ok (.goto 5, 3) := by decide +kernel
theorem dX6_smooth_49 : decode cX6_smooth 49 = .ok (.ldc 173, 2) := by decide +kernel
theorem dX6_smooth_51 : decode cX6_smooth 51 = .ok (.iastore, 1) := by decide +kernel
theorem dX6_smooth_52 : decode cX6_smooth 52 = .ok (.iinc 3 1, 3) := by decide +kernel
theorem dX6_smooth_55 : decode cX6_smooth 55 = .ok (.goto (-30), 3) := by decide +kernel
theorem dX6_smooth_58 : decode cX6_smooth 58 = .ok (.iconst 0, 1) := by decide +kernel
theorem dX6_smooth_59 : decode cX6_smooth 59 = .ok (.istore_n 3, 1) := by decide +kernel
theorem dX6_smooth_60 : decode cX6_smooth 60 = .ok (.iload_n 3, 1) := by decide +kernel
theorem dX6_smooth_61 : decode cX6_smooth 61 = .ok (.bipush 16, 2) := by decide +kernel
theorem dX6_smooth_63 : decode cX6_smooth 63 = .ok (.if_icmp .ge 132, 3) := by decide +kernel
theorem dX6_smooth_66 : decode cX6_smooth 66 = .ok (.iconst 0, 1) := by decide +kernel
theorem dX6_smooth_67 : decode cX6_smooth 67 = .ok (.istore 4, 2) := by decide +kernel
theorem dX6_smooth_69 : decode cX6_smooth 69 = .ok (.iload 4, 2) := by decide +kernel
theorem dX6_smooth_71 : decode cX6_smooth 71 = .ok (.iconst 4, 1) := by decide +kernel
theorem dX6_smooth_72 : decode cX6_smooth 72 = .ok (.aload_n 0, 1) := by decide +kernel
theorem dX6_smooth_73 : decode cX6_smooth 73 = .ok (.getfield 7, 3) := by decide +kernel
theorem dX6_smooth_76 : decode cX6_smooth 76 = .ok (.iconst 0, 1) := by decide +kernel
theorem dX6_smooth_77 : decode cX6_smooth 77 = .ok (.iaload, 1) := by decide +kernel
theorem dX6_smooth_78 : decode cX6_smooth 78 = .ok (.imul, 1) := by decide +kernel
theorem dX6_smooth_79 : decode cX6_smooth 79 = .ok (.if_icmp .ge 110, 3) := by decide +kernel
theorem dX6_smooth_82 : decode cX6_smooth 82 = .ok (.aload_n 0, 1) := by decide +kernel
theorem dX6_smooth_83 : decode cX6_smooth 83 = .ok (.getfield 7, 3) := by decide +kernel
theorem dX6_smooth_86 : decode cX6_smooth 86 = .ok (.bipush 18, 2) := by decide +kernel
theorem dX6_smooth_88 : decode cX6_smooth 88 = .ok (.iload 4, 2) := by decide +kernel
theorem dX6_smooth_90 : decode cX6_smooth 90 = .ok (.iadd, 1) := by decide +kernel
theorem dX6_smooth_91 : decode cX6_smooth 91 = .ok (.iaload, 1) := by decide +kernel
theorem dX6_smooth_92 : decode cX6_smooth 92 = .ok (.ifCond .ne 10, 3) := by decide +kernel
theorem dX6_smooth_95 : decode cX6_smooth 95 = .ok (.iload 4, 2) := by decide +kernel
theorem dX6_smooth_97 : decode cX6_smooth 97 = .ok (.iconst 4, 1) := by decide +kernel
theorem dX6_smooth_98 : decode cX6_smooth 98 = .ok (.idiv, 1) := by decide +kernel
theorem dX6_smooth_99 : decode cX6_smooth 99 = .ok (.goto 17, 3) := by decide +kernel
theorem dX6_smooth_102 : decode cX6_smooth 102 = .ok (.aload_n 0, 1) := by decide +kernel
theorem dX6_smooth_103 : decode cX6_smooth 103 = .ok (.getfield 7, 3) := by decide +kernel
theorem dX6_smooth_106 : decode cX6_smooth 106 = .ok (.bipush 18, 2) := by decide +kernel
theorem dX6_smooth_108 : decode cX6_smooth 108 = .ok (.iload 4, 2) := by decide +kernel
theorem dX6_smooth_110 : decode cX6_smooth 110 = .ok (.iadd, 1) := by decide +kernel
theorem dX6_smooth_111 : decode cX6_smooth 111 = .ok (.iaload, 1) := by decide +kernel
theorem dX6_smooth_112 : decode cX6_smooth 112 = .ok (.iconst 1, 1) := by decide +kernel
theorem dX6_smooth_113 : decode cX6_smooth 113 = .ok (.isub, 1) := by decide +kernel
theorem dX6_smooth_114 : decode cX6_smooth 114 = .ok (.iconst 4, 1) := by decide +kernel
theorem dX6_smooth_115 : decode cX6_smooth 115 = .ok (.idiv, 1) := by decide +kernel
theorem dX6_smooth_116 : decode cX6_smooth 116 = .ok (.istore 5, 2) := by decide +kernel
theorem dX6_smooth_118 : decode cX6_smooth 118 = .ok (.aload_n 0, 1) := by decide +kernel
theorem dX6_smooth_119 : decode cX6_smooth 119 = .ok (.getfield 25, 3) := by decide +kernel
theorem dX6_smooth_122 : decode cX6_smooth 122 = .ok (.iload 4, 2) := by decide +kernel
theorem dX6_smooth_124 : decode cX6_smooth 124 = .ok (.iconst 4, 1) := by decide +kernel
theorem dX6_smooth_125 : decode cX6_smooth 125 = .ok (.idiv, 1) := by decide +kernel
theorem dX6_smooth_126 : decode cX6_smooth 126 = .ok (.iaload, 1) := by decide +kernel
theorem dX6_smooth_127 : decode cX6_smooth 127 = .ok (.aload_n 0, 1) := by decide +kernel
theorem dX6_smooth_128 : decode cX6_smooth 128 = .ok (.getfield 7, 3) := by decide +kernel
theorem dX6_smooth_131 : decode cX6_smooth 131 = .ok (.iconst 2, 1) := by decide +kernel
theorem dX6_smooth_132 : decode cX6_smooth 132 = .ok (.iload 5, 2) := by decide +kernel
theorem dX6_smooth_134 : decode cX6_smooth 134 = .ok (.iadd, 1) := by decide +kernel
theorem dX6_smooth_135 : decode cX6_smooth 135 = .ok (.iaload, 1) := by decide +kernel
theorem dX6_smooth_136 : decode cX6_smooth 136 = .ok (.iadd, 1) := by decide +kernel
theorem dX6_smooth_137 : decode cX6_smooth 137 = .ok (.istore 6, 2) := by decide +kernel
theorem dX6_smooth_139 : decode cX6_smooth 139 = .ok (.aload_n 0, 1) := by decide +kernel
theorem dX6_smooth_140 : decode cX6_smooth 140 = .ok (.getfield 25, 3) := by decide +kernel
theorem dX6_smooth_143 : decode cX6_smooth 143 = .ok (.iload 5, 2) := by decide +kernel
theorem dX6_smooth_145 : decode cX6_smooth 145 = .ok (.aload_n 0, 1) := by decide +kernel
theorem dX6_smooth_146 : decode cX6_smooth 146 = .ok (.getfield 7, 3) := by decide +kernel
theorem dX6_smooth_149 : decode cX6_smooth 149 = .ok (.bipush 18, 2) := by decide +kernel
theorem dX6_smooth_151 : decode cX6_smooth 151 = .ok (.iload 4, 2) := by decide +kernel
theorem dX6_smooth_153 : decode cX6_smooth 153 = .ok (.iadd, 1) := by decide +kernel
theorem dX6_smooth_154 : decode cX6_smooth 154 = .ok (.iaload, 1) := by decide +kernel
theorem dX6_smooth_155 : decode cX6_smooth 155 = .ok (.ifCond .le 20, 3) := by decide +kernel
theorem dX6_smooth_158 : decode cX6_smooth 158 = .ok (.iload 6, 2) := by decide +kernel
theorem dX6_smooth_160 : decode cX6_smooth 160 = .ok (.aload_n 0, 1) := by decide +kernel
theorem dX6_smooth_161 : decode cX6_smooth 161 = .ok (.getfield 25, 3) := by decide +kernel
theorem dX6_smooth_164 : decode cX6_smooth 164 = .ok (.iload 5, 2) := by decide +kernel
theorem dX6_smooth_166 : decode cX6_smooth 166 = .ok (.iaload, 1) := by decide +kernel
theorem dX6_smooth_167 : decode cX6_smooth 167 = .ok (.if_icmp .ge 8, 3) := by decide +kernel
theorem dX6_smooth_170 : decode cX6_smooth 170 = .ok (.iload 6, 2) := by decide +kernel
theorem dX6_smooth_172 : decode cX6_smooth 172 = .ok (.goto 10, 3) := by decide +kernel
theorem dX6_smooth_175 : decode cX6_smooth 175 = .ok (.aload_n 0, 1) := by decide +kernel
theorem dX6_smooth_176 : decode cX6_smooth 176 = .ok (.getfield 25, 3) := by decide +kernel
theorem dX6_smooth_179 : decode cX6_smooth 179 = .ok (.iload 5, 2) := by decide +kernel
theorem dX6_smooth_181 : decode cX6_smooth 181 = .ok (.iaload, 1) := by decide +kernel
theorem dX6_smooth_182 : decode cX6_smooth 182 = .ok (.iastore, 1) := by decide +kernel
theorem dX6_smooth_183 : decode cX6_smooth 183 = .ok (.iinc 4 1, 3) := by decide +kernel
theorem dX6_smooth_186 : decode cX6_smooth 186 = .ok (.goto (-117), 3) := by decide +kernel
theorem dX6_smooth_189 : decode cX6_smooth 189 = .ok (.iinc 3 1, 3) := by decide +kernel
theorem dX6_smooth_192 : decode cX6_smooth 192 = .ok (.goto (-132), 3) := by decide +kernel
theorem dX6_smooth_195 : decode cX6_smooth 195 = .ok (.aload_n 0, 1) := by decide +kernel
theorem dX6_smooth_196 : decode cX6_smooth 196 = .ok (.aload_n 0, 1) := by decide +kernel
theorem dX6_smooth_197 : decode cX6_smooth 197 = .ok (.getfield 25, 3) := by decide +kernel
theorem dX6_smooth_200 : decode cX6_smooth 200 = .ok (.iload_n 2, 1) := by decide +kernel
theorem dX6_smooth_201 : decode cX6_smooth 201 = .ok (.iaload, 1) := by decide +kernel
theorem dX6_smooth_202 : decode cX6_smooth 202 = .ok (.ldc 177, 2) := by decide +kernel
theorem dX6_smooth_204 : decode cX6_smooth 204 = .ok (.invokevirtual 152, 3) := by decide +kernel
theorem dX6_smooth_207 : decode cX6_smooth 207 = .ok (.ireturn, 1) := by decide +kernel
theorem dX6_turns_0 : decode cX6_turns 0 = .ok (.aload_n 0, 1) := by decide +kernel
theorem dX6_turns_1 : decode cX6_turns 1 = .ok (.iload_n 1, 1) := by decide +kernel
theorem dX6_turns_2 : decode cX6_turns 2 = .ok (.iload_n 2, 1) := by decide +kernel
theorem dX6_turns_3 : decode cX6_turns 3 = .ok (.invokevirtual 88, 3) := by decide +kernel
theorem dX6_turns_6 : decode cX6_turns 6 = .ok (.ifCond .eq 11, 3) := by decide +kernel
theorem dX6_turns_9 : decode cX6_turns 9 = .ok (.aload_n 0, 1) := by decide +kernel
theorem dX6_turns_10 : decode cX6_turns 10 = .ok (.iload_n 3, 1) := by decide +kernel
theorem dX6_turns_11 : decode cX6_turns 11 = .ok (.invokevirtual 53, 3) := by decide +kernel
theorem dX6_turns_14 : decode cX6_turns 14 = .ok (.ifCond .ne 10, 3) := by decide +kernel
theorem dX6_turns_17 : decode cX6_turns 17 = .ok (.aload_n 0, 1) := by decide +kernel
theorem dX6_turns_18 : decode cX6_turns 18 = .ok (.ldc 44, 2) := by decide +kernel
theorem dX6_turns_20 : decode cX6_turns 20 = .ok (.invokevirtual 69, 3) := by decide +kernel
theorem dX6_turns_23 : decode cX6_turns 23 = .ok (.ireturn, 1) := by decide +kernel
theorem dX6_turns_24 : decode cX6_turns 24 = .ok (.iconst 0, 1) := by decide +kernel
theorem dX6_turns_25 : decode cX6_turns 25 = .ok (.istore 4, 2) := by decide +kernel
theorem dX6_turns_27 : decode cX6_turns 27 = .ok (.iload 4, 2) := by decide +kernel
theorem dX6_turns_29 : decode cX6_turns 29 = .ok (.iconst 4, 1) := by decide +kernel
theorem dX6_turns_30 : decode cX6_turns 30 = .ok (.aload_n 0, 1) := by decide +kernel
theorem dX6_turns_31 : decode cX6_turns 31 = .ok (.getfield 7, 3) := by decide +kernel
theorem dX6_turns_34 : decode cX6_turns 34 = .ok (.iconst 0, 1) := by decide +kernel
theorem dX6_turns_35 : decode cX6_turns 35 = .ok (.iaload, 1) := by decide +kernel
theorem dX6_turns_36 : decode cX6_turns 36 = .ok (.imul, 1) := by decide +kernel
theorem dX6_turns_37 : decode cX6_turns 37 = .ok (.if_icmp .ge 32, 3) := by decide +kernel
theorem dX6_turns_40 : decode cX6_turns 40 = .ok (.aload_n 0, 1) := by decide +kernel
theorem dX6_turns_41 : decode cX6_turns 41 = .ok (.getfield 25, 3) := by decide +kernel
theorem dX6_turns_44 : decode cX6_turns 44 = .ok (.iload 4, 2) := by decide +kernel
theorem dX6_turns_46 : decode cX6_turns 46 = .ok (.iload 4, 2) := by decide +kernel
theorem dX6_turns_48 : decode cX6_turns 48 = .ok (.iconst 4, 1) := by decide +kernel
theorem dX6_turns_49 : decode cX6_turns 49 = .ok (.iload_n 1, 1) := by decide +kernel
theorem dX6_turns_50 : decode cX6_turns 50 = .ok (.imul, 1) := by decide +kernel
theorem dX6_turns_51 : decode cX6_turns 51 = .ok (.iload_n 2, 1) := by decide +kernel
theorem dX6_turns_52 : decode cX6_turns 52 = .ok (.iadd, 1) := by decide +kernel
theorem dX6_turns_53 : decode cX6_turns 53 = .ok (.if_icmp .ne 7, 3) := by decide +kernel
theorem dX6_turns_56 : decode cX6_turns 56 = .ok (.iconst 0, 1) := by decide +kernel
theorem dX6_turns_57 : decode cX6_turns 57 = .ok (.goto 5, 3) := by decide +kernel
theorem dX6_turns_60 : decode cX6_turns 60 = .ok (.ldc 173, 2) := by decide +kernel
theorem dX6_turns_62 : decode cX6_turns 62 = .ok (.iastore, 1) := by decide +kernel
theorem dX6_turns_63 : decode cX6_turns 63 = .ok (.iinc 4 1, 3) := by decide +kernel
theorem dX6_turns_66 : decode cX6_turns 66 = .ok (.goto (-39), 3) := by decide +kernel
theorem dX6_turns_69 : decode cX6_turns 69 = .ok (.iconst 0, 1) := by decide +kernel
theorem dX6_turns_70 : decode cX6_turns 70 = .ok (.istore 4, 2) := by decide +kernel
theorem dX6_turns_72 : decode cX6_turns 72 = .ok (.iload 4, 2) := by decide +kernel
theorem dX6_turns_74 : decode cX6_turns 74 = .ok (.sipush 128, 3) := by decide +kernel
theorem dX6_turns_77 : decode cX6_turns 77 = .ok (.if_icmp .ge 184, 3) := by decide +kernel
theorem dX6_turns_80 : decode cX6_turns 80 = .ok (.iconst 0, 1) := by decide +kernel
theorem dX6_turns_81 : decode cX6_turns 81 = .ok (.istore 5, 2) := by decide +kernel
theorem dX6_turns_83 : decode cX6_turns 83 = .ok (.iload 5, 2) := by decide +kernel
theorem dX6_turns_85 : decode cX6_turns 85 = .ok (.iconst 4, 1) := by decide +kernel
theorem dX6_turns_86 : decode cX6_turns 86 = .ok (.aload_n 0, 1) := by decide +kernel
theorem dX6_turns_87 : decode cX6_turns 87 = .ok (.getfield 7, 3) := by decide +kernel
theorem dX6_turns_90 : decode cX6_turns 90 = .ok (.iconst 0, 1) := by decide +kernel
theorem dX6_turns_91 : decode cX6_turns 91 = .ok (.iaload, 1) := by decide +kernel
theorem dX6_turns_92 : decode cX6_turns 92 = .ok (.imul, 1) := by decide +kernel
theorem dX6_turns_93 : decode cX6_turns 93 = .ok (.if_icmp .ge 162, 3) := by decide +kernel
theorem dX6_turns_96 : decode cX6_turns 96 = .ok (.aload_n 0, 1) := by decide +kernel
theorem dX6_turns_97 : decode cX6_turns 97 = .ok (.iload 5, 2) := by decide +kernel
theorem dX6_turns_99 : decode cX6_turns 99 = .ok (.invokevirtual 112, 3) := by decide +kernel
theorem dX6_turns_102 : decode cX6_turns 102 = .ok (.istore 6, 2) := by decide +kernel
theorem dX6_turns_104 : decode cX6_turns 104 = .ok (.iload 5, 2) := by decide +kernel
theorem dX6_turns_106 : decode cX6_turns 106 = .ok (.iconst 4, 1) := by decide +kernel
theorem dX6_turns_107 : decode cX6_turns 107 = .ok (.idiv, 1) := by decide +kernel
theorem dX6_turns_108 : decode cX6_turns 108 = .ok (.iconst 4, 1) := by decide +kernel
theorem dX6_turns_109 : decode cX6_turns 109 = .ok (.imul, 1) := by decide +kernel
theorem dX6_turns_110 : decode cX6_turns 110 = .ok (.iload 5, 2) := by decide +kernel
theorem dX6_turns_112 : decode cX6_turns 112 = .ok (.iconst 1, 1) := by decide +kernel
theorem dX6_turns_113 : decode cX6_turns 113 = .ok (.iadd, 1) := by decide +kernel
theorem dX6_turns_114 : decode cX6_turns 114 = .ok (.iconst 4, 1) := by decide +kernel
theorem dX6_turns_115 : decode cX6_turns 115 = .ok (.irem, 1) := by decide +kernel
theorem dX6_turns_116 : decode cX6_turns 116 = .ok (.iadd, 1) := by decide +kernel
theorem dX6_turns_117 : decode cX6_turns 117 = .ok (.istore 7, 2) := by decide +kernel
theorem dX6_turns_119 : decode cX6_turns 119 = .ok (.iload 5, 2) := by decide +kernel
theorem dX6_turns_121 : decode cX6_turns 121 = .ok (.iconst 4, 1) := by decide +kernel
theorem dX6_turns_122 : decode cX6_turns 122 = .ok (.idiv, 1) := by decide +kernel
theorem dX6_turns_123 : decode cX6_turns 123 = .ok (.iconst 4, 1) := by decide +kernel
theorem dX6_turns_124 : decode cX6_turns 124 = .ok (.imul, 1) := by decide +kernel
theorem dX6_turns_125 : decode cX6_turns 125 = .ok (.iload 5, 2) := by decide +kernel
theorem dX6_turns_127 : decode cX6_turns 127 = .ok (.iconst 3, 1) := by decide +kernel
theorem dX6_turns_128 : decode cX6_turns 128 = .ok (.iadd, 1) := by decide +kernel
theorem dX6_turns_129 : decode cX6_turns 129 = .ok (.iconst 4, 1) := by decide +kernel
theorem dX6_turns_130 : decode cX6_turns 130 = .ok (.irem, 1) := by decide +kernel
theorem dX6_turns_131 : decode cX6_turns 131 = .ok (.iadd, 1) := by decide +kernel
theorem dX6_turns_132 : decode cX6_turns 132 = .ok (.istore 8, 2) := by decide +kernel
theorem dX6_turns_134 : decode cX6_turns 134 = .ok (.aload_n 0, 1) := by decide +kernel
theorem dX6_turns_135 : decode cX6_turns 135 = .ok (.getfield 25, 3) := by decide +kernel
theorem dX6_turns_138 : decode cX6_turns 138 = .ok (.iload 5, 2) := by decide +kernel
theorem dX6_turns_140 : decode cX6_turns 140 = .ok (.iaload, 1) := by decide +kernel
theorem dX6_turns_141 : decode cX6_turns 141 = .ok (.istore 9, 2) := by decide +kernel
theorem dX6_turns_143 : decode cX6_turns 143 = .ok (.iload 6, 2) := by decide +kernel
theorem dX6_turns_145 : decode cX6_turns 145 = .ok (.ifCond .lt 34, 3) := by decide +kernel
theorem dX6_turns_148 : decode cX6_turns 148 = .ok (.aload_n 0, 1) := by decide +kernel
theorem dX6_turns_149 : decode cX6_turns 149 = .ok (.getfield 25, 3) := by decide +kernel
theorem dX6_turns_152 : decode cX6_turns 152 = .ok (.iload 6, 2) := by decide +kernel
theorem dX6_turns_154 : decode cX6_turns 154 = .ok (.iload 9, 2) := by decide +kernel
theorem dX6_turns_156 : decode cX6_turns 156 = .ok (.aload_n 0, 1) := by decide +kernel
theorem dX6_turns_157 : decode cX6_turns 157 = .ok (.getfield 25, 3) := by decide +kernel
theorem dX6_turns_160 : decode cX6_turns 160 = .ok (.iload 6, 2) := by decide +kernel
theorem dX6_turns_162 : decode cX6_turns 162 = .ok (.iaload, 1) := by decide +kernel
theorem dX6_turns_163 : decode cX6_turns 163 = .ok (.if_icmp .ge 8, 3) := by decide +kernel
theorem dX6_turns_166 : decode cX6_turns 166 = .ok (.iload 9, 2) := by decide +kernel
theorem dX6_turns_168 : decode cX6_turns 168 = .ok (.goto 10, 3) := by decide +kernel
theorem dX6_turns_171 : decode cX6_turns 171 = .ok (.aload_n 0, 1) := by decide +kernel
theorem dX6_turns_172 : decode cX6_turns 172 = .ok (.getfield 25, 3) := by decide +kernel
theorem dX6_turns_175 : decode cX6_turns 175 = .ok (.iload 6, 2) := by decide +kernel
theorem dX6_turns_177 : decode cX6_turns 177 = .ok (.iaload, 1) := by decide +kernel
theorem dX6_turns_178 : decode cX6_turns 178 = .ok (.iastore, 1) := by decide +kernel
theorem dX6_turns_179 : decode cX6_turns 179 = .ok (.aload_n 0, 1) := by decide +kernel
theorem dX6_turns_180 : decode cX6_turns 180 = .ok (.getfield 25, 3) := by decide +kernel
theorem dX6_turns_183 : decode cX6_turns 183 = .ok (.iload 7, 2) := by decide +kernel
theorem dX6_turns_185 : decode cX6_turns 185 = .ok (.iload 9, 2) := by decide +kernel
theorem dX6_turns_187 : decode cX6_turns 187 = .ok (.iconst 1, 1) := by decide +kernel
theorem dX6_turns_188 : decode cX6_turns 188 = .ok (.iadd, 1) := by decide +kernel
theorem dX6_turns_189 : decode cX6_turns 189 = .ok (.aload_n 0, 1) := by decide +kernel
theorem dX6_turns_190 : decode cX6_turns 190 = .ok (.getfield 25, 3) := by decide +kernel
theorem dX6_turns_193 : decode cX6_turns 193 = .ok (.iload 7, 2) := by decide +kernel
theorem dX6_turns_195 : decode cX6_turns 195 = .ok (.iaload, 1) := by decide +kernel
theorem dX6_turns_196 : decode cX6_turns 196 = .ok (.if_icmp .ge 10, 3) := by decide +kernel
theorem dX6_turns_199 : decode cX6_turns 199 = .ok (.iload 9, 2) := by decide +kernel
theorem dX6_turns_201 : decode cX6_turns 201 = .ok (.iconst 1, 1) := by decide +kernel
theorem dX6_turns_202 : decode cX6_turns 202 = .ok (.iadd, 1) := by decide +kernel
theorem dX6_turns_203 : decode cX6_turns 203 = .ok (.goto 10, 3) := by decide +kernel
theorem dX6_turns_206 : decode cX6_turns 206 = .ok (.aload_n 0, 1) := by decide +kernel
theorem dX6_turns_207 : decode cX6_turns 207 = .ok (.getfield 25, 3) := by decide +kernel
theorem dX6_turns_210 : decode cX6_turns 210 = .ok (.iload 7, 2) := by decide +kernel
theorem dX6_turns_212 : decode cX6_turns 212 = .ok (.iaload, 1) := by decide +kernel
theorem dX6_turns_213 : decode cX6_turns 213 = .ok (.iastore, 1) := by decide +kernel
theorem dX6_turns_214 : decode cX6_turns 214 = .ok (.aload_n 0, 1) := by decide +kernel
theorem dX6_turns_215 : decode cX6_turns 215 = .ok (.getfield 25, 3) := by decide +kernel
theorem dX6_turns_218 : decode cX6_turns 218 = .ok (.iload 8, 2) := by decide +kernel
theorem dX6_turns_220 : decode cX6_turns 220 = .ok (.iload 9, 2) := by decide +kernel
theorem dX6_turns_222 : decode cX6_turns 222 = .ok (.iconst 1, 1) := by decide +kernel
theorem dX6_turns_223 : decode cX6_turns 223 = .ok (.iadd, 1) := by decide +kernel
theorem dX6_turns_224 : decode cX6_turns 224 = .ok (.aload_n 0, 1) := by decide +kernel
theorem dX6_turns_225 : decode cX6_turns 225 = .ok (.getfield 25, 3) := by decide +kernel
theorem dX6_turns_228 : decode cX6_turns 228 = .ok (.iload 8, 2) := by decide +kernel
theorem dX6_turns_230 : decode cX6_turns 230 = .ok (.iaload, 1) := by decide +kernel
theorem dX6_turns_231 : decode cX6_turns 231 = .ok (.if_icmp .ge 10, 3) := by decide +kernel
theorem dX6_turns_234 : decode cX6_turns 234 = .ok (.iload 9, 2) := by decide +kernel
theorem dX6_turns_236 : decode cX6_turns 236 = .ok (.iconst 1, 1) := by decide +kernel
theorem dX6_turns_237 : decode cX6_turns 237 = .ok (.iadd, 1) := by decide +kernel
theorem dX6_turns_238 : decode cX6_turns 238 = .ok (.goto 10, 3) := by decide +kernel
theorem dX6_turns_241 : decode cX6_turns 241 = .ok (.aload_n 0, 1) := by decide +kernel
theorem dX6_turns_242 : decode cX6_turns 242 = .ok (.getfield 25, 3) := by decide +kernel
theorem dX6_turns_245 : decode cX6_turns 245 = .ok (.iload 8, 2) := by decide +kernel
theorem dX6_turns_247 : decode cX6_turns 247 = .ok (.iaload, 1) := by decide +kernel
theorem dX6_turns_248 : decode cX6_turns 248 = .ok (.iastore, 1) := by decide +kernel
theorem dX6_turns_249 : decode cX6_turns 249 = .ok (.iinc 5 1, 3) := by decide +kernel
theorem dX6_turns_252 : decode cX6_turns 252 = .ok (.goto (-169), 3) := by decide +kernel
theorem dX6_turns_255 : decode cX6_turns 255 = .ok (.iinc 4 1, 3) := by decide +kernel
theorem dX6_turns_258 : decode cX6_turns 258 = .ok (.goto (-186), 3) := by decide +kernel
theorem dX6_turns_261 : decode cX6_turns 261 = .ok (.ldc 173, 2) := by decide +kernel
theorem dX6_turns_263 : decode cX6_turns 263 = .ok (.istore 4, 2) := by decide +kernel
theorem dX6_turns_265 : decode cX6_turns 265 = .ok (.iconst 0, 1) := by decide +kernel
theorem dX6_turns_266 : decode cX6_turns 266 = .ok (.istore 5, 2) := by decide +kernel
theorem dX6_turns_268 : decode cX6_turns 268 = .ok (.iload 5, 2) := by decide +kernel
theorem dX6_turns_270 : decode cX6_turns 270 = .ok (.iconst 4, 1) := by decide +kernel
theorem dX6_turns_271 : decode cX6_turns 271 = .ok (.if_icmp .ge 43, 3) := by decide +kernel
theorem dX6_turns_274 : decode cX6_turns 274 = .ok (.aload_n 0, 1) := by decide +kernel
theorem dX6_turns_275 : decode cX6_turns 275 = .ok (.getfield 25, 3) := by decide +kernel
theorem dX6_turns_278 : decode cX6_turns 278 = .ok (.iconst 4, 1) := by decide +kernel
theorem dX6_turns_279 : decode cX6_turns 279 = .ok (.iload_n 3, 1) := by decide +kernel
theorem dX6_turns_280 : decode cX6_turns 280 = .ok (.imul, 1) := by decide +kernel
theorem dX6_turns_281 : decode cX6_turns 281 = .ok (.iload 5, 2) := by decide +kernel
theorem dX6_turns_283 : decode cX6_turns 283 = .ok (.iadd, 1) := by decide +kernel
theorem dX6_turns_284 : decode cX6_turns 284 = .ok (.iaload, 1) := by decide +kernel
theorem dX6_turns_285 : decode cX6_turns 285 = .ok (.iload 4, 2) := by decide +kernel
theorem dX6_turns_287 : decode cX6_turns 287 = .ok (.if_icmp .ge 17, 3) := by decide +kernel
theorem dX6_turns_290 : decode cX6_turns 290 = .ok (.aload_n 0, 1) := by decide +kernel
theorem dX6_turns_291 : decode cX6_turns 291 = .ok (.getfield 25, 3) := by decide +kernel
theorem dX6_turns_294 : decode cX6_turns 294 = .ok (.iconst 4, 1) := by decide +kernel
theorem dX6_turns_295 : decode cX6_turns 295 = .ok (.iload_n 3, 1) := by decide +kernel
theorem dX6_turns_296 : decode cX6_turns 296 = .ok (.imul, 1) := by decide +kernel
theorem dX6_turns_297 : decode cX6_turns 297 = .ok (.iload 5, 2) := by decide +kernel
theorem dX6_turns_299 : decode cX6_turns 299 = .ok (.iadd, 1) := by decide +kernel
theorem dX6_turns_300 : decode cX6_turns 300 = .ok (.iaload, 1) := by decide +kernel
theorem dX6_turns_301 : decode cX6_turns 301 = .ok (.goto 5, 3) := by decide +kernel
theorem dX6_turns_304 : decode cX6_turns 304 = .ok (.iload 4, 2) := by decide +kernel
theorem dX6_turns_306 : decode cX6_turns 306 = .ok (.istore 4, 2) := by decide +kernel
theorem dX6_turns_308 : decode cX6_turns 308 = .ok (.iinc 5 1, 3) := by decide +kernel
theorem dX6_turns_311 : decode cX6_turns 311 = .ok (.goto (-43), 3) := by decide +kernel
theorem dX6_turns_314 : decode cX6_turns 314 = .ok (.aload_n 0, 1) := by decide +kernel
theorem dX6_turns_315 : decode cX6_turns 315 = .ok (.iload 4, 2) := by decide +kernel
theorem dX6_turns_317 : decode cX6_turns 317 = .ok (.ldc 177, 2) := by decide +kernel
theorem dX6_turns_319 : decode cX6_turns 319 = .ok (.invokevirtual 152, 3) := by decide +kernel
theorem dX6_turns_322 : decode cX6_turns 322 = .ok (.ireturn, 1) := by decide +kernel
theorem dX6_within_0 : decode cX6_within 0 = .ok (.aload_n 0, 1) := by decide +kernel
theorem dX6_within_1 : decode cX6_within 1 = .ok (.iload_n 1, 1) := by decide +kernel
theorem dX6_within_2 : decode cX6_within 2 = .ok (.invokevirtual 53, 3) := by decide +kernel
theorem dX6_within_5 : decode cX6_within 5 = .ok (.ifCond .eq 15, 3) := by decide +kernel
theorem dX6_within_8 : decode cX6_within 8 = .ok (.iload_n 2, 1) := by decide +kernel
theorem dX6_within_9 : decode cX6_within 9 = .ok (.i2l, 1) := by decide +kernel
theorem dX6_within_10 : decode cX6_within 10 = .ok (.lconst 0, 1) := by decide +kernel
theorem dX6_within_11 : decode cX6_within 11 = .ok (.ldc2_w 178, 3) := by decide +kernel
theorem dX6_within_14 : decode cX6_within 14 = .ok (.invokestatic 45, 3) := by decide +kernel
theorem dX6_within_17 : decode cX6_within 17 = .ok (.ifCond .ne 10, 3) := by decide +kernel
theorem dX6_within_20 : decode cX6_within 20 = .ok (.aload_n 0, 1) := by decide +kernel
theorem dX6_within_21 : decode cX6_within 21 = .ok (.ldc 44, 2) := by decide +kernel
theorem dX6_within_23 : decode cX6_within 23 = .ok (.invokevirtual 69, 3) := by decide +kernel
theorem dX6_within_26 : decode cX6_within 26 = .ok (.ireturn, 1) := by decide +kernel
theorem dX6_within_27 : decode cX6_within 27 = .ok (.iconst 1, 1) := by decide +kernel
theorem dX6_within_28 : decode cX6_within 28 = .ok (.iload_n 1, 1) := by decide +kernel
theorem dX6_within_29 : decode cX6_within 29 = .ok (.ishl, 1) := by decide +kernel
theorem dX6_within_30 : decode cX6_within 30 = .ok (.istore_n 3, 1) := by decide +kernel
theorem dX6_within_31 : decode cX6_within 31 = .ok (.iconst 0, 1) := by decide +kernel
theorem dX6_within_32 : decode cX6_within 32 = .ok (.istore 4, 2) := by decide +kernel
theorem dX6_within_34 : decode cX6_within 34 = .ok (.iload 4, 2) := by decide +kernel
theorem dX6_within_36 : decode cX6_within 36 = .ok (.iload_n 2, 1) := by decide +kernel
theorem dX6_within_37 : decode cX6_within 37 = .ok (.if_icmp .ge 15, 3) := by decide +kernel
theorem dX6_within_40 : decode cX6_within 40 = .ok (.aload_n 0, 1) := by decide +kernel
theorem dX6_within_41 : decode cX6_within 41 = .ok (.iload_n 3, 1) := by decide +kernel
theorem dX6_within_42 : decode cX6_within 42 = .ok (.invokevirtual 170, 3) := by decide +kernel
theorem dX6_within_45 : decode cX6_within 45 = .ok (.istore_n 3, 1) := by decide +kernel
theorem dX6_within_46 : decode cX6_within 46 = .ok (.iinc 4 1, 3) := by decide +kernel
theorem dX6_within_49 : decode cX6_within 49 = .ok (.goto (-15), 3) := by decide +kernel
theorem dX6_within_52 : decode cX6_within 52 = .ok (.iload_n 3, 1) := by decide +kernel
theorem dX6_within_53 : decode cX6_within 53 = .ok (.invokestatic 158, 3) := by decide +kernel
theorem dX6_within_56 : decode cX6_within 56 = .ok (.ireturn, 1) := by decide +kernel
theorem dX6_mends_0 : decode cX6_mends 0 = .ok (.aload_n 0, 1) := by decide +kernel
theorem dX6_mends_1 : decode cX6_mends 1 = .ok (.iload_n 1, 1) := by decide +kernel
theorem dX6_mends_2 : decode cX6_mends 2 = .ok (.invokevirtual 53, 3) := by decide +kernel
theorem dX6_mends_5 : decode cX6_mends 5 = .ok (.ifCond .eq 11, 3) := by decide +kernel
theorem dX6_mends_8 : decode cX6_mends 8 = .ok (.aload_n 0, 1) := by decide +kernel
theorem dX6_mends_9 : decode cX6_mends 9 = .ok (.iload_n 2, 1) := by decide +kernel
theorem dX6_mends_10 : decode cX6_mends 10 = .ok (.invokevirtual 53, 3) := by decide +kernel
theorem dX6_mends_13 : decode cX6_mends 13 = .ok (.ifCond .ne 10, 3) := by decide +kernel
theorem dX6_mends_16 : decode cX6_mends 16 = .ok (.aload_n 0, 1) := by decide +kernel
theorem dX6_mends_17 : decode cX6_mends 17 = .ok (.ldc 44, 2) := by decide +kernel
theorem dX6_mends_19 : decode cX6_mends 19 = .ok (.invokevirtual 69, 3) := by decide +kernel
theorem dX6_mends_22 : decode cX6_mends 22 = .ok (.ireturn, 1) := by decide +kernel
theorem dX6_mends_23 : decode cX6_mends 23 = .ok (.iconst (-1), 1) := by decide +kernel
theorem dX6_mends_24 : decode cX6_mends 24 = .ok (.istore_n 3, 1) := by decide +kernel
theorem dX6_mends_25 : decode cX6_mends 25 = .ok (.aload_n 0, 1) := by decide +kernel
theorem dX6_mends_26 : decode cX6_mends 26 = .ok (.iload_n 1, 1) := by decide +kernel
theorem dX6_mends_27 : decode cX6_mends 27 = .ok (.iload_n 2, 1) := by decide +kernel
theorem dX6_mends_28 : decode cX6_mends 28 = .ok (.invokevirtual 174, 3) := by decide +kernel
theorem dX6_mends_31 : decode cX6_mends 31 = .ok (.istore 4, 2) := by decide +kernel
theorem dX6_mends_33 : decode cX6_mends 33 = .ok (.iconst 0, 1) := by decide +kernel
theorem dX6_mends_34 : decode cX6_mends 34 = .ok (.istore 5, 2) := by decide +kernel
theorem dX6_mends_36 : decode cX6_mends 36 = .ok (.iload 5, 2) := by decide +kernel
theorem dX6_mends_38 : decode cX6_mends 38 = .ok (.iconst 4, 1) := by decide +kernel
theorem dX6_mends_39 : decode cX6_mends 39 = .ok (.aload_n 0, 1) := by decide +kernel
theorem dX6_mends_40 : decode cX6_mends 40 = .ok (.getfield 7, 3) := by decide +kernel
theorem dX6_mends_43 : decode cX6_mends 43 = .ok (.iconst 0, 1) := by decide +kernel
theorem dX6_mends_44 : decode cX6_mends 44 = .ok (.iaload, 1) := by decide +kernel
theorem dX6_mends_45 : decode cX6_mends 45 = .ok (.imul, 1) := by decide +kernel
theorem dX6_mends_46 : decode cX6_mends 46 = .ok (.if_icmp .ge 121, 3) := by decide +kernel
theorem dX6_mends_49 : decode cX6_mends 49 = .ok (.iload 5, 2) := by decide +kernel
theorem dX6_mends_51 : decode cX6_mends 51 = .ok (.iconst 1, 1) := by decide +kernel
theorem dX6_mends_52 : decode cX6_mends 52 = .ok (.iadd, 1) := by decide +kernel
theorem dX6_mends_53 : decode cX6_mends 53 = .ok (.istore 6, 2) := by decide +kernel
theorem dX6_mends_55 : decode cX6_mends 55 = .ok (.iload 6, 2) := by decide +kernel
theorem dX6_mends_57 : decode cX6_mends 57 = .ok (.iconst 4, 1) := by decide +kernel
theorem dX6_mends_58 : decode cX6_mends 58 = .ok (.aload_n 0, 1) := by decide +kernel
theorem dX6_mends_59 : decode cX6_mends 59 = .ok (.getfield 7, 3) := by decide +kernel
theorem dX6_mends_62 : decode cX6_mends 62 = .ok (.iconst 0, 1) := by decide +kernel
theorem dX6_mends_63 : decode cX6_mends 63 = .ok (.iaload, 1) := by decide +kernel
theorem dX6_mends_64 : decode cX6_mends 64 = .ok (.imul, 1) := by decide +kernel
theorem dX6_mends_65 : decode cX6_mends 65 = .ok (.if_icmp .ge 96, 3) := by decide +kernel
theorem dX6_mends_68 : decode cX6_mends 68 = .ok (.aload_n 0, 1) := by decide +kernel
theorem dX6_mends_69 : decode cX6_mends 69 = .ok (.getfield 7, 3) := by decide +kernel
theorem dX6_mends_72 : decode cX6_mends 72 = .ok (.bipush 18, 2) := by decide +kernel
theorem dX6_mends_74 : decode cX6_mends 74 = .ok (.iload 5, 2) := by decide +kernel
theorem dX6_mends_76 : decode cX6_mends 76 = .ok (.iadd, 1) := by decide +kernel
theorem dX6_mends_77 : decode cX6_mends 77 = .ok (.iaload, 1) := by decide +kernel
theorem dX6_mends_78 : decode cX6_mends 78 = .ok (.ifCond .gt 77, 3) := by decide +kernel
theorem dX6_mends_81 : decode cX6_mends 81 = .ok (.aload_n 0, 1) := by decide +kernel
theorem dX6_mends_82 : decode cX6_mends 82 = .ok (.getfield 7, 3) := by decide +kernel
theorem dX6_mends_85 : decode cX6_mends 85 = .ok (.bipush 18, 2) := by decide +kernel
theorem dX6_mends_87 : decode cX6_mends 87 = .ok (.iload 6, 2) := by decide +kernel
theorem dX6_mends_89 : decode cX6_mends 89 = .ok (.iadd, 1) := by decide +kernel
theorem dX6_mends_90 : decode cX6_mends 90 = .ok (.iaload, 1) := by decide +kernel
theorem dX6_mends_91 : decode cX6_mends 91 = .ok (.ifCond .le 6, 3) := by decide +kernel
theorem dX6_mends_94 : decode cX6_mends 94 = .ok (.goto 61, 3) := by decide +kernel
theorem dX6_mends_97 : decode cX6_mends 97 = .ok (.aload_n 0, 1) := by decide +kernel
theorem dX6_mends_98 : decode cX6_mends 98 = .ok (.iload 5, 2) := by decide +kernel
theorem dX6_mends_100 : decode cX6_mends 100 = .ok (.iload 6, 2) := by decide +kernel
theorem dX6_mends_102 : decode cX6_mends 102 = .ok (.invokevirtual 93, 3) := by decide +kernel
theorem dX6_mends_105 : decode cX6_mends 105 = .ok (.aload_n 0, 1) := by decide +kernel
theorem dX6_mends_106 : decode cX6_mends 106 = .ok (.iload_n 1, 1) := by decide +kernel
theorem dX6_mends_107 : decode cX6_mends 107 = .ok (.iload_n 2, 1) := by decide +kernel
theorem dX6_mends_108 : decode cX6_mends 108 = .ok (.invokevirtual 174, 3) := by decide +kernel
theorem dX6_mends_111 : decode cX6_mends 111 = .ok (.istore 7, 2) := by decide +kernel
theorem dX6_mends_113 : decode cX6_mends 113 = .ok (.aload_n 0, 1) := by decide +kernel
theorem dX6_mends_114 : decode cX6_mends 114 = .ok (.iload 5, 2) := by decide +kernel
theorem dX6_mends_116 : decode cX6_mends 116 = .ok (.invokevirtual 97, 3) := by decide +kernel
theorem dX6_mends_119 : decode cX6_mends 119 = .ok (.iload 7, 2) := by decide +kernel
theorem dX6_mends_121 : decode cX6_mends 121 = .ok (.iload 4, 2) := by decide +kernel
theorem dX6_mends_123 : decode cX6_mends 123 = .ok (.if_icmp .ge 14, 3) := by decide +kernel
theorem dX6_mends_126 : decode cX6_mends 126 = .ok (.bipush 64, 2) := by decide +kernel
theorem dX6_mends_128 : decode cX6_mends 128 = .ok (.iload 5, 2) := by decide +kernel
theorem dX6_mends_130 : decode cX6_mends 130 = .ok (.imul, 1) := by decide +kernel
theorem dX6_mends_131 : decode cX6_mends 131 = .ok (.iload 6, 2) := by decide +kernel
theorem dX6_mends_133 : decode cX6_mends 133 = .ok (.iadd, 1) := by decide +kernel
theorem dX6_mends_134 : decode cX6_mends 134 = .ok (.goto 4, 3) := by decide +kernel
theorem dX6_mends_137 : decode cX6_mends 137 = .ok (.iload_n 3, 1) := by decide +kernel
theorem dX6_mends_138 : decode cX6_mends 138 = .ok (.istore_n 3, 1) := by decide +kernel
theorem dX6_mends_139 : decode cX6_mends 139 = .ok (.iload 7, 2) := by decide +kernel
theorem dX6_mends_141 : decode cX6_mends 141 = .ok (.iload 4, 2) := by decide +kernel
theorem dX6_mends_143 : decode cX6_mends 143 = .ok (.if_icmp .ge 8, 3) := by decide +kernel
theorem dX6_mends_146 : decode cX6_mends 146 = .ok (.iload 7, 2) := by decide +kernel
theorem dX6_mends_148 : decode cX6_mends 148 = .ok (.goto 5, 3) := by decide +kernel
theorem dX6_mends_151 : decode cX6_mends 151 = .ok (.iload 4, 2) := by decide +kernel
theorem dX6_mends_153 : decode cX6_mends 153 = .ok (.istore 4, 2) := by decide +kernel
theorem dX6_mends_155 : decode cX6_mends 155 = .ok (.iinc 6 1, 3) := by decide +kernel
theorem dX6_mends_158 : decode cX6_mends 158 = .ok (.goto (-103), 3) := by decide +kernel
theorem dX6_mends_161 : decode cX6_mends 161 = .ok (.iinc 5 1, 3) := by decide +kernel
theorem dX6_mends_164 : decode cX6_mends 164 = .ok (.goto (-128), 3) := by decide +kernel
theorem dX6_mends_167 : decode cX6_mends 167 = .ok (.iload_n 3, 1) := by decide +kernel
theorem dX6_mends_168 : decode cX6_mends 168 = .ok (.ifCond .ge 12, 3) := by decide +kernel
theorem dX6_mends_171 : decode cX6_mends 171 = .ok (.aload_n 0, 1) := by decide +kernel
theorem dX6_mends_172 : decode cX6_mends 172 = .ok (.ldc 101, 2) := by decide +kernel
theorem dX6_mends_174 : decode cX6_mends 174 = .ok (.invokevirtual 69, 3) := by decide +kernel
theorem dX6_mends_177 : decode cX6_mends 177 = .ok (.goto 4, 3) := by decide +kernel
theorem dX6_mends_180 : decode cX6_mends 180 = .ok (.iload_n 3, 1) := by decide +kernel
theorem dX6_mends_181 : decode cX6_mends 181 = .ok (.ireturn, 1) := by decide +kernel
theorem dX6_feed_0 : decode cX6_feed 0 = .ok (.iload_n 2, 1) := by decide +kernel
theorem dX6_feed_1 : decode cX6_feed 1 = .ok (.i2l, 1) := by decide +kernel
theorem dX6_feed_2 : decode cX6_feed 2 = .ok (.lconst 1, 1) := by decide +kernel
theorem dX6_feed_3 : decode cX6_feed 3 = .ok (.ldc2_w 180, 3) := by decide +kernel
theorem dX6_feed_6 : decode cX6_feed 6 = .ok (.invokestatic 45, 3) := by decide +kernel
theorem dX6_feed_9 : decode cX6_feed 9 = .ok (.ifCond .ne 10, 3) := by decide +kernel
theorem dX6_feed_12 : decode cX6_feed 12 = .ok (.aload_n 0, 1) := by decide +kernel
theorem dX6_feed_13 : decode cX6_feed 13 = .ok (.ldc 44, 2) := by decide +kernel
theorem dX6_feed_15 : decode cX6_feed 15 = .ok (.invokevirtual 69, 3) := by decide +kernel
theorem dX6_feed_18 : decode cX6_feed 18 = .ok (.ireturn, 1) := by decide +kernel
theorem dX6_feed_19 : decode cX6_feed 19 = .ok (.aload_n 0, 1) := by decide +kernel
theorem dX6_feed_20 : decode cX6_feed 20 = .ok (.getfield 182, 3) := by decide +kernel
theorem dX6_feed_23 : decode cX6_feed 23 = .ok (.iload_n 2, 1) := by decide +kernel
theorem dX6_feed_24 : decode cX6_feed 24 = .ok (.iadd, 1) := by decide +kernel
theorem dX6_feed_25 : decode cX6_feed 25 = .ok (.bipush 120, 2) := by decide +kernel
theorem dX6_feed_27 : decode cX6_feed 27 = .ok (.if_icmp .le 10, 3) := by decide +kernel
theorem dX6_feed_30 : decode cX6_feed 30 = .ok (.aload_n 0, 1) := by decide +kernel
theorem dX6_feed_31 : decode cX6_feed 31 = .ok (.ldc 73, 2) := by decide +kernel
theorem dX6_feed_33 : decode cX6_feed 33 = .ok (.invokevirtual 69, 3) := by decide +kernel
theorem dX6_feed_36 : decode cX6_feed 36 = .ok (.ireturn, 1) := by decide +kernel
theorem dX6_feed_37 : decode cX6_feed 37 = .ok (.iload_n 2, 1) := by decide +kernel
theorem dX6_feed_38 : decode cX6_feed 38 = .ok (.iconst 1, 1) := by decide +kernel
theorem dX6_feed_39 : decode cX6_feed 39 = .ok (.isub, 1) := by decide +kernel
theorem dX6_feed_40 : decode cX6_feed 40 = .ok (.istore_n 3, 1) := by decide +kernel
theorem dX6_feed_41 : decode cX6_feed 41 = .ok (.iload_n 3, 1) := by decide +kernel
theorem dX6_feed_42 : decode cX6_feed 42 = .ok (.ifCond .lt 38, 3) := by decide +kernel
theorem dX6_feed_45 : decode cX6_feed 45 = .ok (.aload_n 0, 1) := by decide +kernel
theorem dX6_feed_46 : decode cX6_feed 46 = .ok (.getfield 28, 3) := by decide +kernel
theorem dX6_feed_49 : decode cX6_feed 49 = .ok (.aload_n 0, 1) := by decide +kernel
theorem dX6_feed_50 : decode cX6_feed 50 = .ok (.getfield 182, 3) := by decide +kernel
theorem dX6_feed_53 : decode cX6_feed 53 = .ok (.iload_n 1, 1) := by decide +kernel
theorem dX6_feed_54 : decode cX6_feed 54 = .ok (.bipush 8, 2) := by decide +kernel
theorem dX6_feed_56 : decode cX6_feed 56 = .ok (.iload_n 3, 1) := by decide +kernel
theorem dX6_feed_57 : decode cX6_feed 57 = .ok (.imul, 1) := by decide +kernel
theorem dX6_feed_58 : decode cX6_feed 58 = .ok (.ishr, 1) := by decide +kernel
theorem dX6_feed_59 : decode cX6_feed 59 = .ok (.sipush 255, 3) := by decide +kernel
theorem dX6_feed_62 : decode cX6_feed 62 = .ok (.iand, 1) := by decide +kernel
theorem dX6_feed_63 : decode cX6_feed 63 = .ok (.iastore, 1) := by decide +kernel
theorem dX6_feed_64 : decode cX6_feed 64 = .ok (.aload_n 0, 1) := by decide +kernel
theorem dX6_feed_65 : decode cX6_feed 65 = .ok (.dup, 1) := by decide +kernel
theorem dX6_feed_66 : decode cX6_feed 66 = .ok (.getfield 182, 3) := by decide +kernel
theorem dX6_feed_69 : decode cX6_feed 69 = .ok (.iconst 1, 1) := by decide +kernel
theorem dX6_feed_70 : decode cX6_feed 70 = .ok (.iadd, 1) := by decide +kernel
theorem dX6_feed_71 : decode cX6_feed 71 = .ok (.putfield 182, 3) := by decide +kernel
theorem dX6_feed_74 : decode cX6_feed 74 = .ok (.iinc 3 (-1), 3) := by decide +kernel
theorem dX6_feed_77 : decode cX6_feed 77 = .ok (.goto (-36), 3) := by decide +kernel
theorem dX6_feed_80 : decode cX6_feed 80 = .ok (.aload_n 0, 1) := by decide +kernel
theorem dX6_feed_81 : decode cX6_feed 81 = .ok (.getfield 182, 3) := by decide +kernel
theorem dX6_feed_84 : decode cX6_feed 84 = .ok (.ireturn, 1) := by decide +kernel
theorem dX6_wipe_0 : decode cX6_wipe 0 = .ok (.aload_n 0, 1) := by decide +kernel
theorem dX6_wipe_1 : decode cX6_wipe 1 = .ok (.getfield 182, 3) := by decide +kernel
theorem dX6_wipe_4 : decode cX6_wipe 4 = .ok (.istore_n 1, 1) := by decide +kernel
theorem dX6_wipe_5 : decode cX6_wipe 5 = .ok (.aload_n 0, 1) := by decide +kernel
theorem dX6_wipe_6 : decode cX6_wipe 6 = .ok (.iconst 0, 1) := by decide +kernel
theorem dX6_wipe_7 : decode cX6_wipe 7 = .ok (.putfield 182, 3) := by decide +kernel
theorem dX6_wipe_10 : decode cX6_wipe 10 = .ok (.iload_n 1, 1) := by decide +kernel
theorem dX6_wipe_11 : decode cX6_wipe 11 = .ok (.ireturn, 1) := by decide +kernel
theorem dX6_byteAt_0 : decode cX6_byteAt 0 = .ok (.iload_n 1, 1) := by decide +kernel
theorem dX6_byteAt_1 : decode cX6_byteAt 1 = .ok (.aload_n 0, 1) := by decide +kernel
theorem dX6_byteAt_2 : decode cX6_byteAt 2 = .ok (.getfield 182, 3) := by decide +kernel
theorem dX6_byteAt_5 : decode cX6_byteAt 5 = .ok (.if_icmp .ge 12, 3) := by decide +kernel
theorem dX6_byteAt_8 : decode cX6_byteAt 8 = .ok (.aload_n 0, 1) := by decide +kernel
theorem dX6_byteAt_9 : decode cX6_byteAt 9 = .ok (.getfield 28, 3) := by decide +kernel
theorem dX6_byteAt_12 : decode cX6_byteAt 12 = .ok (.iload_n 1, 1) := by decide +kernel
theorem dX6_byteAt_13 : decode cX6_byteAt 13 = .ok (.iaload, 1) := by decide +kernel
theorem dX6_byteAt_14 : decode cX6_byteAt 14 = .ok (.goto 4, 3) := by decide +kernel
theorem dX6_byteAt_17 : decode cX6_byteAt 17 = .ok (.iconst (-1), 1) := by decide +kernel
theorem dX6_byteAt_18 : decode cX6_byteAt 18 = .ok (.ireturn, 1) := by decide +kernel
theorem dX6_isLetter_0 : decode cX6_isLetter 0 = .ok (.iload_n 0, 1) := by decide +kernel
theorem dX6_isLetter_1 : decode cX6_isLetter 1 = .ok (.i2l, 1) := by decide +kernel
theorem dX6_isLetter_2 : decode cX6_isLetter 2 = .ok (.ldc2_w 186, 3) := by decide +kernel
theorem dX6_isLetter_5 : decode cX6_isLetter 5 = .ok (.ldc2_w 188, 3) := by decide +kernel
theorem dX6_isLetter_8 : decode cX6_isLetter 8 = .ok (.invokestatic 45, 3) := by decide +kernel
theorem dX6_isLetter_11 : decode cX6_isLetter 11 = .ok (.ireturn, 1) := by decide +kernel
theorem dX6_isDigit_0 : decode cX6_isDigit 0 = .ok (.iload_n 0, 1) := by decide +kernel
theorem dX6_isDigit_1 : decode cX6_isDigit 1 = .ok (.i2l, 1) := by decide +kernel
theorem dX6_isDigit_2 : decode cX6_isDigit 2 = .ok (.ldc2_w 190, 3) := by decide +kernel
theorem dX6_isDigit_5 : decode cX6_isDigit 5 = .ok (.ldc2_w 192, 3) := by decide +kernel
theorem dX6_isDigit_8 : decode cX6_isDigit 8 = .ok (.invokestatic 45, 3) := by decide +kernel
theorem dX6_isDigit_11 : decode cX6_isDigit 11 = .ok (.ireturn, 1) := by decide +kernel
theorem dX6_token_0 : decode cX6_token 0 = .ok (.aload_n 0, 1) := by decide +kernel
theorem dX6_token_1 : decode cX6_token 1 = .ok (.aload_n 0, 1) := by decide +kernel
theorem dX6_token_2 : decode cX6_token 2 = .ok (.getfield 194, 3) := by decide +kernel
theorem dX6_token_5 : decode cX6_token 5 = .ok (.putfield 197, 3) := by decide +kernel
theorem dX6_token_8 : decode cX6_token 8 = .ok (.aload_n 0, 1) := by decide +kernel
theorem dX6_token_9 : decode cX6_token 9 = .ok (.aload_n 0, 1) := by decide +kernel
theorem dX6_token_10 : decode cX6_token 10 = .ok (.getfield 197, 3) := by decide +kernel
theorem dX6_token_13 : decode cX6_token 13 = .ok (.invokevirtual 200, 3) := by decide +kernel
theorem dX6_token_16 : decode cX6_token 16 = .ok (.bipush 32, 2) := by decide +kernel
theorem dX6_token_18 : decode cX6_token 18 = .ok (.if_icmp .ne 16, 3) := by decide +kernel
theorem dX6_token_21 : decode cX6_token 21 = .ok (.aload_n 0, 1) := by decide +kernel
theorem dX6_token_22 : decode cX6_token 22 = .ok (.dup, 1) := by decide +kernel
theorem dX6_token_23 : decode cX6_token 23 = .ok (.getfield 197, 3) := by decide +kernel
theorem dX6_token_26 : decode cX6_token 26 = .ok (.iconst 1, 1) := by decide +kernel
theorem dX6_token_27 : decode cX6_token 27 = .ok (.iadd, 1) := by decide +kernel
theorem dX6_token_28 : decode cX6_token 28 = .ok (.putfield 197, 3) := by decide +kernel
theorem dX6_token_31 : decode cX6_token 31 = .ok (.goto (-23), 3) := by decide +kernel
theorem dX6_token_34 : decode cX6_token 34 = .ok (.aload_n 0, 1) := by decide +kernel
theorem dX6_token_35 : decode cX6_token 35 = .ok (.aload_n 0, 1) := by decide +kernel
theorem dX6_token_36 : decode cX6_token 36 = .ok (.getfield 197, 3) := by decide +kernel
theorem dX6_token_39 : decode cX6_token 39 = .ok (.invokevirtual 200, 3) := by decide +kernel
theorem dX6_token_42 : decode cX6_token 42 = .ok (.invokestatic 203, 3) := by decide +kernel
theorem dX6_token_45 : decode cX6_token 45 = .ok (.istore_n 1, 1) := by decide +kernel
theorem dX6_token_46 : decode cX6_token 46 = .ok (.aload_n 0, 1) := by decide +kernel
theorem dX6_token_47 : decode cX6_token 47 = .ok (.aload_n 0, 1) := by decide +kernel
theorem dX6_token_48 : decode cX6_token 48 = .ok (.getfield 197, 3) := by decide +kernel
theorem dX6_token_51 : decode cX6_token 51 = .ok (.invokevirtual 200, 3) := by decide +kernel
theorem dX6_token_54 : decode cX6_token 54 = .ok (.invokestatic 206, 3) := by decide +kernel
theorem dX6_token_57 : decode cX6_token 57 = .ok (.istore_n 2, 1) := by decide +kernel
theorem dX6_token_58 : decode cX6_token 58 = .ok (.aload_n 0, 1) := by decide +kernel
theorem dX6_token_59 : decode cX6_token 59 = .ok (.aload_n 0, 1) := by decide +kernel
theorem dX6_token_60 : decode cX6_token 60 = .ok (.getfield 197, 3) := by decide +kernel
theorem dX6_token_63 : decode cX6_token 63 = .ok (.aload_n 0, 1) := by decide +kernel
theorem dX6_token_64 : decode cX6_token 64 = .ok (.getfield 182, 3) := by decide +kernel
theorem dX6_token_67 : decode cX6_token 67 = .ok (.if_icmp .ge 12, 3) := by decide +kernel
theorem dX6_token_70 : decode cX6_token 70 = .ok (.aload_n 0, 1) := by decide +kernel
theorem dX6_token_71 : decode cX6_token 71 = .ok (.getfield 197, 3) := by decide +kernel
theorem dX6_token_74 : decode cX6_token 74 = .ok (.iconst 1, 1) := by decide +kernel
theorem dX6_token_75 : decode cX6_token 75 = .ok (.iadd, 1) := by decide +kernel
theorem dX6_token_76 : decode cX6_token 76 = .ok (.goto 7, 3) := by decide +kernel
theorem dX6_token_79 : decode cX6_token 79 = .ok (.aload_n 0, 1) := by decide +kernel
theorem dX6_token_80 : decode cX6_token 80 = .ok (.getfield 197, 3) := by decide +kernel
theorem dX6_token_83 : decode cX6_token 83 = .ok (.putfield 194, 3) := by decide +kernel
theorem dX6_token_86 : decode cX6_token 86 = .ok (.iload_n 1, 1) := by decide +kernel
theorem dX6_token_87 : decode cX6_token 87 = .ok (.ifCond .eq 17, 3) := by decide +kernel
theorem dX6_token_90 : decode cX6_token 90 = .ok (.aload_n 0, 1) := by decide +kernel
theorem dX6_token_91 : decode cX6_token 91 = .ok (.aload_n 0, 1) := by decide +kernel
theorem dX6_token_92 : decode cX6_token 92 = .ok (.getfield 194, 3) := by decide +kernel
theorem dX6_token_95 : decode cX6_token 95 = .ok (.invokevirtual 200, 3) := by decide +kernel
theorem dX6_token_98 : decode cX6_token 98 = .ok (.invokestatic 203, 3) := by decide +kernel
theorem dX6_token_101 : decode cX6_token 101 = .ok (.ifCond .ne 21, 3) := by decide +kernel
theorem dX6_token_104 : decode cX6_token 104 = .ok (.iload_n 2, 1) := by decide +kernel
theorem dX6_token_105 : decode cX6_token 105 = .ok (.ifCond .eq 30, 3) := by decide +kernel
theorem dX6_token_108 : decode cX6_token 108 = .ok (.aload_n 0, 1) := by decide +kernel
theorem dX6_token_109 : decode cX6_token 109 = .ok (.aload_n 0, 1) := by decide +kernel
theorem dX6_token_110 : decode cX6_token 110 = .ok (.getfield 194, 3) := by decide +kernel
theorem dX6_token_113 : decode cX6_token 113 = .ok (.invokevirtual 200, 3) := by decide +kernel
theorem dX6_token_116 : decode cX6_token 116 = .ok (.invokestatic 206, 3) := by decide +kernel
theorem dX6_token_119 : decode cX6_token 119 = .ok (.ifCond .eq 16, 3) := by decide +kernel
theorem dX6_token_122 : decode cX6_token 122 = .ok (.aload_n 0, 1) := by decide +kernel
theorem dX6_token_123 : decode cX6_token 123 = .ok (.dup, 1) := by decide +kernel
theorem dX6_token_124 : decode cX6_token 124 = .ok (.getfield 194, 3) := by decide +kernel
theorem dX6_token_127 : decode cX6_token 127 = .ok (.iconst 1, 1) := by decide +kernel
theorem dX6_token_128 : decode cX6_token 128 = .ok (.iadd, 1) := by decide +kernel
theorem dX6_token_129 : decode cX6_token 129 = .ok (.putfield 194, 3) := by decide +kernel
theorem dX6_token_132 : decode cX6_token 132 = .ok (.goto (-46), 3) := by decide +kernel
theorem dX6_token_135 : decode cX6_token 135 = .ok (.return_, 1) := by decide +kernel
theorem dX6_wants_0 : decode cX6_wants 0 = .ok (.aload_n 0, 1) := by decide +kernel
theorem dX6_wants_1 : decode cX6_wants 1 = .ok (.aload_n 0, 1) := by decide +kernel
theorem dX6_wants_2 : decode cX6_wants 2 = .ok (.getfield 209, 3) := by decide +kernel
theorem dX6_wants_5 : decode cX6_wants 5 = .ok (.ifCond .ne 7, 3) := by decide +kernel
theorem dX6_wants_8 : decode cX6_wants 8 = .ok (.iload_n 1, 1) := by decide +kernel
theorem dX6_wants_9 : decode cX6_wants 9 = .ok (.ifCond .ne 7, 3) := by decide +kernel
theorem dX6_wants_12 : decode cX6_wants 12 = .ok (.iconst 1, 1) := by decide +kernel
theorem dX6_wants_13 : decode cX6_wants 13 = .ok (.goto 4, 3) := by decide +kernel
theorem dX6_wants_16 : decode cX6_wants 16 = .ok (.iconst 0, 1) := by decide +kernel
theorem dX6_wants_17 : decode cX6_wants 17 = .ok (.putfield 209, 3) := by decide +kernel
theorem dX6_wants_20 : decode cX6_wants 20 = .ok (.aload_n 0, 1) := by decide +kernel
theorem dX6_wants_21 : decode cX6_wants 21 = .ok (.getfield 209, 3) := by decide +kernel
theorem dX6_wants_24 : decode cX6_wants 24 = .ok (.ifCond .ne 7, 3) := by decide +kernel
theorem dX6_wants_27 : decode cX6_wants 27 = .ok (.aload_n 0, 1) := by decide +kernel
theorem dX6_wants_28 : decode cX6_wants 28 = .ok (.invokevirtual 213, 3) := by decide +kernel
theorem dX6_wants_31 : decode cX6_wants 31 = .ok (.return_, 1) := by decide +kernel
theorem dX6_word_0 : decode cX6_word 0 = .ok (.lconst 0, 1) := by decide +kernel
theorem dX6_word_1 : decode cX6_word 1 = .ok (.lstore_n 1, 1) := by decide +kernel
theorem dX6_word_2 : decode cX6_word 2 = .ok (.aload_n 0, 1) := by decide +kernel
theorem dX6_word_3 : decode cX6_word 3 = .ok (.getfield 197, 3) := by decide +kernel
theorem dX6_word_6 : decode cX6_word 6 = .ok (.istore_n 3, 1) := by decide +kernel
theorem dX6_word_7 : decode cX6_word 7 = .ok (.iload_n 3, 1) := by decide +kernel
theorem dX6_word_8 : decode cX6_word 8 = .ok (.aload_n 0, 1) := by decide +kernel
theorem dX6_word_9 : decode cX6_word 9 = .ok (.getfield 194, 3) := by decide +kernel
theorem dX6_word_12 : decode cX6_word 12 = .ok (.if_icmp .ge 38, 3) := by decide +kernel
theorem dX6_word_15 : decode cX6_word 15 = .ok (.lload_n 1, 1) := by decide +kernel
theorem dX6_word_16 : decode cX6_word 16 = .ok (.ldc2_w 216, 3) := by decide +kernel
theorem dX6_word_19 : decode cX6_word 19 = .ok (.lcmp, 1) := by decide +kernel
theorem dX6_word_20 : decode cX6_word 20 = .ok (.ifCond .le 7, 3) := by decide +kernel
theorem dX6_word_23 : decode cX6_word 23 = .ok (.lload_n 1, 1) := by decide +kernel
theorem dX6_word_24 : decode cX6_word 24 = .ok (.goto 19, 3) := by decide +kernel
theorem dX6_word_27 : decode cX6_word 27 = .ok (.ldc2_w 218, 3) := by decide +kernel
theorem dX6_word_30 : decode cX6_word 30 = .ok (.lload_n 1, 1) := by decide +kernel
theorem dX6_word_31 : decode cX6_word 31 = .ok (.lmul, 1) := by decide +kernel
theorem dX6_word_32 : decode cX6_word 32 = .ok (.aload_n 0, 1) := by decide +kernel
theorem dX6_word_33 : decode cX6_word 33 = .ok (.getfield 28, 3) := by decide +kernel
theorem dX6_word_36 : decode cX6_word 36 = .ok (.iload_n 3, 1) := by decide +kernel
theorem dX6_word_37 : decode cX6_word 37 = .ok (.iaload, 1) := by decide +kernel
theorem dX6_word_38 : decode cX6_word 38 = .ok (.bipush 96, 2) := by decide +kernel
theorem dX6_word_40 : decode cX6_word 40 = .ok (.isub, 1) := by decide +kernel
theorem dX6_word_41 : decode cX6_word 41 = .ok (.i2l, 1) := by decide +kernel
theorem dX6_word_42 : decode cX6_word 42 = .ok (.ladd, 1) := by decide +kernel
theorem dX6_word_43 : decode cX6_word 43 = .ok (.lstore_n 1, 1) := by decide +kernel
theorem dX6_word_44 : decode cX6_word 44 = .ok (.iinc 3 1, 3) := by decide +kernel
theorem dX6_word_47 : decode cX6_word 47 = .ok (.goto (-40), 3) := by decide +kernel
theorem dX6_word_50 : decode cX6_word 50 = .ok (.aload_n 0, 1) := by decide +kernel
theorem dX6_word_51 : decode cX6_word 51 = .ok (.getfield 209, 3) := by decide +kernel
theorem dX6_word_54 : decode cX6_word 54 = .ok (.ifCond .ne 17, 3) := by decide +kernel
theorem dX6_word_57 : decode cX6_word 57 = .ok (.aload_n 0, 1) := by decide +kernel
theorem dX6_word_58 : decode cX6_word 58 = .ok (.aload_n 0, 1) := by decide +kernel
theorem dX6_word_59 : decode cX6_word 59 = .ok (.getfield 197, 3) := by decide +kernel
theorem dX6_word_62 : decode cX6_word 62 = .ok (.invokevirtual 200, 3) := by decide +kernel
theorem dX6_word_65 : decode cX6_word 65 = .ok (.invokestatic 203, 3) := by decide +kernel
theorem dX6_word_68 : decode cX6_word 68 = .ok (.ifCond .ne 7, 3) := by decide +kernel
theorem dX6_word_71 : decode cX6_word 71 = .ok (.lconst 0, 1) := by decide +kernel
theorem dX6_word_72 : decode cX6_word 72 = .ok (.goto 4, 3) := by decide +kernel
theorem dX6_word_75 : decode cX6_word 75 = .ok (.lload_n 1, 1) := by decide +kernel
theorem dX6_word_76 : decode cX6_word 76 = .ok (.lreturn, 1) := by decide +kernel
theorem dX6_number_0 : decode cX6_number 0 = .ok (.aload_n 0, 1) := by decide +kernel
theorem dX6_number_1 : decode cX6_number 1 = .ok (.getfield 209, 3) := by decide +kernel
theorem dX6_number_4 : decode cX6_number 4 = .ok (.ifCond .eq 4, 3) := by decide +kernel
theorem dX6_number_7 : decode cX6_number 7 = .ok (.return_, 1) := by decide +kernel
theorem dX6_number_8 : decode cX6_number 8 = .ok (.aload_n 0, 1) := by decide +kernel
theorem dX6_number_9 : decode cX6_number 9 = .ok (.aload_n 0, 1) := by decide +kernel
theorem dX6_number_10 : decode cX6_number 10 = .ok (.getfield 197, 3) := by decide +kernel
theorem dX6_number_13 : decode cX6_number 13 = .ok (.invokevirtual 200, 3) := by decide +kernel
theorem dX6_number_16 : decode cX6_number 16 = .ok (.invokestatic 206, 3) := by decide +kernel
theorem dX6_number_19 : decode cX6_number 19 = .ok (.istore_n 3, 1) := by decide +kernel
theorem dX6_number_20 : decode cX6_number 20 = .ok (.iconst 0, 1) := by decide +kernel
theorem dX6_number_21 : decode cX6_number 21 = .ok (.istore 4, 2) := by decide +kernel
theorem dX6_number_23 : decode cX6_number 23 = .ok (.aload_n 0, 1) := by decide +kernel
theorem dX6_number_24 : decode cX6_number 24 = .ok (.getfield 197, 3) := by decide +kernel
theorem dX6_number_27 : decode cX6_number 27 = .ok (.istore 5, 2) := by decide +kernel
theorem dX6_number_29 : decode cX6_number 29 = .ok (.iload 5, 2) := by decide +kernel
theorem dX6_number_31 : decode cX6_number 31 = .ok (.aload_n 0, 1) := by decide +kernel
theorem dX6_number_32 : decode cX6_number 32 = .ok (.getfield 194, 3) := by decide +kernel
theorem dX6_number_35 : decode cX6_number 35 = .ok (.if_icmp .ge 44, 3) := by decide +kernel
theorem dX6_number_38 : decode cX6_number 38 = .ok (.iload_n 3, 1) := by decide +kernel
theorem dX6_number_39 : decode cX6_number 39 = .ok (.ifCond .eq 40, 3) := by decide +kernel
theorem dX6_number_42 : decode cX6_number 42 = .ok (.iload 4, 2) := by decide +kernel
theorem dX6_number_44 : decode cX6_number 44 = .ok (.sipush 999, 3) := by decide +kernel
theorem dX6_number_47 : decode cX6_number 47 = .ok (.if_icmp .le 8, 3) := by decide +kernel
theorem dX6_number_50 : decode cX6_number 50 = .ok (.iload 4, 2) := by decide +kernel
theorem dX6_number_52 : decode cX6_number 52 = .ok (.goto 19, 3) := by decide +kernel
theorem dX6_number_55 : decode cX6_number 55 = .ok (.bipush 10, 2) := by decide +kernel
theorem dX6_number_57 : decode cX6_number 57 = .ok (.iload 4, 2) := by decide +kernel
theorem dX6_number_59 : decode cX6_number 59 = .ok (.imul, 1) := by decide +kernel
theorem dX6_number_60 : decode cX6_number 60 = .ok (.aload_n 0, 1) := by decide +kernel
theorem dX6_number_61 : decode cX6_number 61 = .ok (.getfield 28, 3) := by decide +kernel
theorem dX6_number_64 : decode cX6_number 64 = .ok (.iload 5, 2) := by decide +kernel
theorem dX6_number_66 : decode cX6_number 66 = .ok (.iaload, 1) := by decide +kernel
theorem dX6_number_67 : decode cX6_number 67 = .ok (.iadd, 1) := by decide +kernel
theorem dX6_number_68 : decode cX6_number 68 = .ok (.bipush 48, 2) := by decide +kernel
theorem dX6_number_70 : decode cX6_number 70 = .ok (.isub, 1) := by decide +kernel
theorem dX6_number_71 : decode cX6_number 71 = .ok (.istore 4, 2) := by decide +kernel
theorem dX6_number_73 : decode cX6_number 73 = .ok (.iinc 5 1, 3) := by decide +kernel
theorem dX6_number_76 : decode cX6_number 76 = .ok (.goto (-47), 3) := by decide +kernel
theorem dX6_number_79 : decode cX6_number 79 = .ok (.aload_n 0, 1) := by decide +kernel
theorem dX6_number_80 : decode cX6_number 80 = .ok (.iload 4, 2) := by decide +kernel
theorem dX6_number_82 : decode cX6_number 82 = .ok (.putfield 220, 3) := by decide +kernel
theorem dX6_number_85 : decode cX6_number 85 = .ok (.aload_n 0, 1) := by decide +kernel
theorem dX6_number_86 : decode cX6_number 86 = .ok (.iload_n 3, 1) := by decide +kernel
theorem dX6_number_87 : decode cX6_number 87 = .ok (.ifCond .eq 20, 3) := by decide +kernel
theorem dX6_number_90 : decode cX6_number 90 = .ok (.iload 4, 2) := by decide +kernel
theorem dX6_number_92 : decode cX6_number 92 = .ok (.i2l, 1) := by decide +kernel
theorem dX6_number_93 : decode cX6_number 93 = .ok (.iload_n 1, 1) := by decide +kernel
theorem dX6_number_94 : decode cX6_number 94 = .ok (.i2l, 1) := by decide +kernel
theorem dX6_number_95 : decode cX6_number 95 = .ok (.iload_n 2, 1) := by decide +kernel
theorem dX6_number_96 : decode cX6_number 96 = .ok (.i2l, 1) := by decide +kernel
theorem dX6_number_97 : decode cX6_number 97 = .ok (.invokestatic 45, 3) := by decide +kernel
theorem dX6_number_100 : decode cX6_number 100 = .ok (.ifCond .eq 7, 3) := by decide +kernel
theorem dX6_number_103 : decode cX6_number 103 = .ok (.iconst 1, 1) := by decide +kernel
theorem dX6_number_104 : decode cX6_number 104 = .ok (.goto 4, 3) := by decide +kernel
theorem dX6_number_107 : decode cX6_number 107 = .ok (.iconst 0, 1) := by decide +kernel
theorem dX6_number_108 : decode cX6_number 108 = .ok (.invokevirtual 223, 3) := by decide +kernel
theorem dX6_number_111 : decode cX6_number 111 = .ok (.return_, 1) := by decide +kernel
theorem dX6_kindHere_0 : decode cX6_kindHere 0 = .ok (.aload_n 0, 1) := by decide +kernel
theorem dX6_kindHere_1 : decode cX6_kindHere 1 = .ok (.invokevirtual 227, 3) := by decide +kernel
theorem dX6_kindHere_4 : decode cX6_kindHere 4 = .ok (.lstore_n 1, 1) := by decide +kernel
theorem dX6_kindHere_5 : decode cX6_kindHere 5 = .ok (.lload_n 1, 1) := by decide +kernel
theorem dX6_kindHere_6 : decode cX6_kindHere 6 = .ok (.ldc2_w 231, 3) := by decide +kernel
theorem dX6_kindHere_9 : decode cX6_kindHere 9 = .ok (.lcmp, 1) := by decide +kernel
theorem dX6_kindHere_10 : decode cX6_kindHere 10 = .ok (.ifCond .ne 7, 3) := by decide +kernel
theorem dX6_kindHere_13 : decode cX6_kindHere 13 = .ok (.iconst 0, 1) := by decide +kernel
theorem dX6_kindHere_14 : decode cX6_kindHere 14 = .ok (.goto 64, 3) := by decide +kernel
theorem dX6_kindHere_17 : decode cX6_kindHere 17 = .ok (.lload_n 1, 1) := by decide +kernel
theorem dX6_kindHere_18 : decode cX6_kindHere 18 = .ok (.ldc2_w 233, 3) := by decide +kernel
theorem dX6_kindHere_21 : decode cX6_kindHere 21 = .ok (.lcmp, 1) := by decide +kernel
theorem dX6_kindHere_22 : decode cX6_kindHere 22 = .ok (.ifCond .ne 7, 3) := by decide +kernel
theorem dX6_kindHere_25 : decode cX6_kindHere 25 = .ok (.iconst 1, 1) := by decide +kernel
theorem dX6_kindHere_26 : decode cX6_kindHere 26 = .ok (.goto 52, 3) := by decide +kernel
theorem dX6_kindHere_29 : decode cX6_kindHere 29 = .ok (.lload_n 1, 1) := by decide +kernel
theorem dX6_kindHere_30 : decode cX6_kindHere 30 = .ok (.ldc2_w 235, 3) := by decide +kernel
theorem dX6_kindHere_33 : decode cX6_kindHere 33 = .ok (.lcmp, 1) := by decide +kernel
theorem dX6_kindHere_34 : decode cX6_kindHere 34 = .ok (.ifCond .ne 7, 3) := by decide +kernel
theorem dX6_kindHere_37 : decode cX6_kindHere 37 = .ok (.iconst 2, 1) := by decide +kernel
theorem dX6_kindHere_38 : decode cX6_kindHere 38 = .ok (.goto 40, 3) := by decide +kernel
theorem dX6_kindHere_41 : decode cX6_kindHere 41 = .ok (.lload_n 1, 1) := by decide +kernel
theorem dX6_kindHere_42 : decode cX6_kindHere 42 = .ok (.ldc2_w 237, 3) := by decide +kernel
theorem dX6_kindHere_45 : decode cX6_kindHere 45 = .ok (.lcmp, 1) := by decide +kernel
theorem dX6_kindHere_46 : decode cX6_kindHere 46 = .ok (.ifCond .ne 7, 3) := by decide +kernel
theorem dX6_kindHere_49 : decode cX6_kindHere 49 = .ok (.iconst 3, 1) := by decide +kernel
theorem dX6_kindHere_50 : decode cX6_kindHere 50 = .ok (.goto 28, 3) := by decide +kernel
theorem dX6_kindHere_53 : decode cX6_kindHere 53 = .ok (.lload_n 1, 1) := by decide +kernel
theorem dX6_kindHere_54 : decode cX6_kindHere 54 = .ok (.ldc2_w 239, 3) := by decide +kernel
theorem dX6_kindHere_57 : decode cX6_kindHere 57 = .ok (.lcmp, 1) := by decide +kernel
theorem dX6_kindHere_58 : decode cX6_kindHere 58 = .ok (.ifCond .ne 7, 3) := by decide +kernel
theorem dX6_kindHere_61 : decode cX6_kindHere 61 = .ok (.iconst 4, 1) := by decide +kernel
theorem dX6_kindHere_62 : decode cX6_kindHere 62 = .ok (.goto 16, 3) := by decide +kernel
theorem dX6_kindHere_65 : decode cX6_kindHere 65 = .ok (.lload_n 1, 1) := by decide +kernel
theorem dX6_kindHere_66 : decode cX6_kindHere 66 = .ok (.ldc2_w 241, 3) := by decide +kernel
theorem dX6_kindHere_69 : decode cX6_kindHere 69 = .ok (.lcmp, 1) := by decide +kernel
theorem dX6_kindHere_70 : decode cX6_kindHere 70 = .ok (.ifCond .ne 7, 3) := by decide +kernel
theorem dX6_kindHere_73 : decode cX6_kindHere 73 = .ok (.iconst 5, 1) := by decide +kernel
theorem dX6_kindHere_74 : decode cX6_kindHere 74 = .ok (.goto 4, 3) := by decide +kernel
theorem dX6_kindHere_77 : decode cX6_kindHere 77 = .ok (.iconst (-1), 1) := by decide +kernel
theorem dX6_kindHere_78 : decode cX6_kindHere 78 = .ok (.ireturn, 1) := by decide +kernel
theorem dX6_fieldHere_0 : decode cX6_fieldHere 0 = .ok (.aload_n 0, 1) := by decide +kernel
theorem dX6_fieldHere_1 : decode cX6_fieldHere 1 = .ok (.iconst 0, 1) := by decide +kernel
theorem dX6_fieldHere_2 : decode cX6_fieldHere 2 = .ok (.aload_n 0, 1) := by decide +kernel
theorem dX6_fieldHere_3 : decode cX6_fieldHere 3 = .ok (.getfield 7, 3) := by decide +kernel
theorem dX6_fieldHere_6 : decode cX6_fieldHere 6 = .ok (.iconst 0, 1) := by decide +kernel
theorem dX6_fieldHere_7 : decode cX6_fieldHere 7 = .ok (.iaload, 1) := by decide +kernel
theorem dX6_fieldHere_8 : decode cX6_fieldHere 8 = .ok (.iconst 1, 1) := by decide +kernel
theorem dX6_fieldHere_9 : decode cX6_fieldHere 9 = .ok (.isub, 1) := by decide +kernel
theorem dX6_fieldHere_10 : decode cX6_fieldHere 10 = .ok (.invokevirtual 243, 3) := by decide +kernel
theorem dX6_fieldHere_13 : decode cX6_fieldHere 13 = .ok (.return_, 1) := by decide +kernel
theorem dX6_sideNamed_0 : decode cX6_sideNamed 0 = .ok (.aload_n 0, 1) := by decide +kernel
theorem dX6_sideNamed_1 : decode cX6_sideNamed 1 = .ok (.invokevirtual 227, 3) := by decide +kernel
theorem dX6_sideNamed_4 : decode cX6_sideNamed 4 = .ok (.lstore_n 1, 1) := by decide +kernel
theorem dX6_sideNamed_5 : decode cX6_sideNamed 5 = .ok (.lload_n 1, 1) := by decide +kernel
theorem dX6_sideNamed_6 : decode cX6_sideNamed 6 = .ok (.ldc2_w 246, 3) := by decide +kernel
theorem dX6_sideNamed_9 : decode cX6_sideNamed 9 = .ok (.lcmp, 1) := by decide +kernel
theorem dX6_sideNamed_10 : decode cX6_sideNamed 10 = .ok (.ifCond .ne 7, 3) := by decide +kernel
theorem dX6_sideNamed_13 : decode cX6_sideNamed 13 = .ok (.iconst 0, 1) := by decide +kernel
theorem dX6_sideNamed_14 : decode cX6_sideNamed 14 = .ok (.goto 40, 3) := by decide +kernel
theorem dX6_sideNamed_17 : decode cX6_sideNamed 17 = .ok (.lload_n 1, 1) := by decide +kernel
theorem dX6_sideNamed_18 : decode cX6_sideNamed 18 = .ok (.ldc2_w 248, 3) := by decide +kernel
theorem dX6_sideNamed_21 : decode cX6_sideNamed 21 = .ok (.lcmp, 1) := by decide +kernel
theorem dX6_sideNamed_22 : decode cX6_sideNamed 22 = .ok (.ifCond .ne 7, 3) := by decide +kernel
theorem dX6_sideNamed_25 : decode cX6_sideNamed 25 = .ok (.iconst 1, 1) := by decide +kernel
theorem dX6_sideNamed_26 : decode cX6_sideNamed 26 = .ok (.goto 28, 3) := by decide +kernel
theorem dX6_sideNamed_29 : decode cX6_sideNamed 29 = .ok (.lload_n 1, 1) := by decide +kernel
theorem dX6_sideNamed_30 : decode cX6_sideNamed 30 = .ok (.ldc2_w 250, 3) := by decide +kernel
theorem dX6_sideNamed_33 : decode cX6_sideNamed 33 = .ok (.lcmp, 1) := by decide +kernel
theorem dX6_sideNamed_34 : decode cX6_sideNamed 34 = .ok (.ifCond .ne 7, 3) := by decide +kernel
theorem dX6_sideNamed_37 : decode cX6_sideNamed 37 = .ok (.iconst 2, 1) := by decide +kernel
theorem dX6_sideNamed_38 : decode cX6_sideNamed 38 = .ok (.goto 16, 3) := by decide +kernel
theorem dX6_sideNamed_41 : decode cX6_sideNamed 41 = .ok (.lload_n 1, 1) := by decide +kernel
theorem dX6_sideNamed_42 : decode cX6_sideNamed 42 = .ok (.ldc2_w 252, 3) := by decide +kernel
theorem dX6_sideNamed_45 : decode cX6_sideNamed 45 = .ok (.lcmp, 1) := by decide +kernel
theorem dX6_sideNamed_46 : decode cX6_sideNamed 46 = .ok (.ifCond .ne 7, 3) := by decide +kernel
theorem dX6_sideNamed_49 : decode cX6_sideNamed 49 = .ok (.iconst 3, 1) := by decide +kernel
theorem dX6_sideNamed_50 : decode cX6_sideNamed 50 = .ok (.goto 4, 3) := by decide +kernel
theorem dX6_sideNamed_53 : decode cX6_sideNamed 53 = .ok (.iconst (-1), 1) := by decide +kernel
theorem dX6_sideNamed_54 : decode cX6_sideNamed 54 = .ok (.ireturn, 1) := by decide +kernel
theorem dX6_sideHere_0 : decode cX6_sideHere 0 = .ok (.aload_n 0, 1) := by decide +kernel
theorem dX6_sideHere_1 : decode cX6_sideHere 1 = .ok (.invokevirtual 254, 3) := by decide +kernel
theorem dX6_sideHere_4 : decode cX6_sideHere 4 = .ok (.istore 4, 2) := by decide +kernel
theorem dX6_sideHere_6 : decode cX6_sideHere 6 = .ok (.iconst 4, 1) := by decide +kernel
theorem dX6_sideHere_7 : decode cX6_sideHere 7 = .ok (.iload_n 1, 1) := by decide +kernel
theorem dX6_sideHere_8 : decode cX6_sideHere 8 = .ok (.imul, 1) := by decide +kernel
theorem dX6_sideHere_9 : decode cX6_sideHere 9 = .ok (.iload 4, 2) := by decide +kernel
theorem dX6_sideHere_11 : decode cX6_sideHere 11 = .ok (.iadd, 1) := by decide +kernel
theorem dX6_sideHere_12 : decode cX6_sideHere 12 = .ok (.istore 5, 2) := by decide +kernel
theorem dX6_sideHere_14 : decode cX6_sideHere 14 = .ok (.aload_n 0, 1) := by decide +kernel
theorem dX6_sideHere_15 : decode cX6_sideHere 15 = .ok (.iload 4, 2) := by decide +kernel
theorem dX6_sideHere_17 : decode cX6_sideHere 17 = .ok (.ifCond .lt 35, 3) := by decide +kernel
theorem dX6_sideHere_20 : decode cX6_sideHere 20 = .ok (.iload 5, 2) := by decide +kernel
theorem dX6_sideHere_22 : decode cX6_sideHere 22 = .ok (.iload_n 3, 1) := by decide +kernel
theorem dX6_sideHere_23 : decode cX6_sideHere 23 = .ok (.if_icmp .eq 29, 3) := by decide +kernel
theorem dX6_sideHere_26 : decode cX6_sideHere 26 = .ok (.aload_n 0, 1) := by decide +kernel
theorem dX6_sideHere_27 : decode cX6_sideHere 27 = .ok (.getfield 7, 3) := by decide +kernel
theorem dX6_sideHere_30 : decode cX6_sideHere 30 = .ok (.bipush 18, 2) := by decide +kernel
theorem dX6_sideHere_32 : decode cX6_sideHere 32 = .ok (.iload 5, 2) := by decide +kernel
theorem dX6_sideHere_34 : decode cX6_sideHere 34 = .ok (.iadd, 1) := by decide +kernel
theorem dX6_sideHere_35 : decode cX6_sideHere 35 = .ok (.iaload, 1) := by decide +kernel
theorem dX6_sideHere_36 : decode cX6_sideHere 36 = .ok (.ifCond .le 7, 3) := by decide +kernel
theorem dX6_sideHere_39 : decode cX6_sideHere 39 = .ok (.iconst 1, 1) := by decide +kernel
theorem dX6_sideHere_40 : decode cX6_sideHere 40 = .ok (.goto 4, 3) := by decide +kernel
theorem dX6_sideHere_43 : decode cX6_sideHere 43 = .ok (.iconst 0, 1) := by decide +kernel
theorem dX6_sideHere_44 : decode cX6_sideHere 44 = .ok (.iload_n 2, 1) := by decide +kernel
theorem dX6_sideHere_45 : decode cX6_sideHere 45 = .ok (.if_icmp .ne 7, 3) := by decide +kernel
theorem dX6_sideHere_48 : decode cX6_sideHere 48 = .ok (.iconst 1, 1) := by decide +kernel
theorem dX6_sideHere_49 : decode cX6_sideHere 49 = .ok (.goto 4, 3) := by decide +kernel
theorem dX6_sideHere_52 : decode cX6_sideHere 52 = .ok (.iconst 0, 1) := by decide +kernel
theorem dX6_sideHere_53 : decode cX6_sideHere 53 = .ok (.invokevirtual 223, 3) := by decide +kernel
theorem dX6_sideHere_56 : decode cX6_sideHere 56 = .ok (.iload 5, 2) := by decide +kernel
theorem dX6_sideHere_58 : decode cX6_sideHere 58 = .ok (.ireturn, 1) := by decide +kernel
theorem dX6_fieldItem_0 : decode cX6_fieldItem 0 = .ok (.aload_n 0, 1) := by decide +kernel
theorem dX6_fieldItem_1 : decode cX6_fieldItem 1 = .ok (.aload_n 0, 1) := by decide +kernel
theorem dX6_fieldItem_2 : decode cX6_fieldItem 2 = .ok (.getfield 7, 3) := by decide +kernel
theorem dX6_fieldItem_5 : decode cX6_fieldItem 5 = .ok (.iconst 0, 1) := by decide +kernel
theorem dX6_fieldItem_6 : decode cX6_fieldItem 6 = .ok (.iaload, 1) := by decide +kernel
theorem dX6_fieldItem_7 : decode cX6_fieldItem 7 = .ok (.bipush 16, 2) := by decide +kernel
theorem dX6_fieldItem_9 : decode cX6_fieldItem 9 = .ok (.if_icmp .ge 7, 3) := by decide +kernel
theorem dX6_fieldItem_12 : decode cX6_fieldItem 12 = .ok (.iconst 1, 1) := by decide +kernel
theorem dX6_fieldItem_13 : decode cX6_fieldItem 13 = .ok (.goto 4, 3) := by decide +kernel
theorem dX6_fieldItem_16 : decode cX6_fieldItem 16 = .ok (.iconst 0, 1) := by decide +kernel
theorem dX6_fieldItem_17 : decode cX6_fieldItem 17 = .ok (.invokevirtual 223, 3) := by decide +kernel
theorem dX6_fieldItem_20 : decode cX6_fieldItem 20 = .ok (.iconst 0, 1) := by decide +kernel
theorem dX6_fieldItem_21 : decode cX6_fieldItem 21 = .ok (.istore_n 1, 1) := by decide +kernel
theorem dX6_fieldItem_22 : decode cX6_fieldItem 22 = .ok (.aload_n 0, 1) := by decide +kernel
theorem dX6_fieldItem_23 : decode cX6_fieldItem 23 = .ok (.invokevirtual 227, 3) := by decide +kernel
theorem dX6_fieldItem_26 : decode cX6_fieldItem 26 = .ok (.ldc2_w 257, 3) := by decide +kernel
theorem dX6_fieldItem_29 : decode cX6_fieldItem 29 = .ok (.lcmp, 1) := by decide +kernel
theorem dX6_fieldItem_30 : decode cX6_fieldItem 30 = .ok (.ifCond .ne 20, 3) := by decide +kernel
theorem dX6_fieldItem_33 : decode cX6_fieldItem 33 = .ok (.aload_n 0, 1) := by decide +kernel
theorem dX6_fieldItem_34 : decode cX6_fieldItem 34 = .ok (.iconst 1, 1) := by decide +kernel
theorem dX6_fieldItem_35 : decode cX6_fieldItem 35 = .ok (.invokevirtual 223, 3) := by decide +kernel
theorem dX6_fieldItem_38 : decode cX6_fieldItem 38 = .ok (.aload_n 0, 1) := by decide +kernel
theorem dX6_fieldItem_39 : decode cX6_fieldItem 39 = .ok (.iconst 0, 1) := by decide +kernel
theorem dX6_fieldItem_40 : decode cX6_fieldItem 40 = .ok (.bipush 9, 2) := by decide +kernel
theorem dX6_fieldItem_42 : decode cX6_fieldItem 42 = .ok (.invokevirtual 243, 3) := by decide +kernel
theorem dX6_fieldItem_45 : decode cX6_fieldItem 45 = .ok (.aload_n 0, 1) := by decide +kernel
theorem dX6_fieldItem_46 : decode cX6_fieldItem 46 = .ok (.getfield 220, 3) := by decide +kernel
theorem dX6_fieldItem_49 : decode cX6_fieldItem 49 = .ok (.istore_n 1, 1) := by decide +kernel
theorem dX6_fieldItem_50 : decode cX6_fieldItem 50 = .ok (.aload_n 0, 1) := by decide +kernel
theorem dX6_fieldItem_51 : decode cX6_fieldItem 51 = .ok (.getfield 209, 3) := by decide +kernel
theorem dX6_fieldItem_54 : decode cX6_fieldItem 54 = .ok (.ifCond .ne 9, 3) := by decide +kernel
theorem dX6_fieldItem_57 : decode cX6_fieldItem 57 = .ok (.aload_n 0, 1) := by decide +kernel
theorem dX6_fieldItem_58 : decode cX6_fieldItem 58 = .ok (.iload_n 1, 1) := by decide +kernel
theorem dX6_fieldItem_59 : decode cX6_fieldItem 59 = .ok (.invokevirtual 74, 3) := by decide +kernel
theorem dX6_fieldItem_62 : decode cX6_fieldItem 62 = .ok (.istore_n 2, 1) := by decide +kernel
theorem dX6_fieldItem_63 : decode cX6_fieldItem 63 = .ok (.return_, 1) := by decide +kernel
theorem dX6_glueItem_0 : decode cX6_glueItem 0 = .ok (.aload_n 0, 1) := by decide +kernel
theorem dX6_glueItem_1 : decode cX6_glueItem 1 = .ok (.iconst 1, 1) := by decide +kernel
theorem dX6_glueItem_2 : decode cX6_glueItem 2 = .ok (.invokevirtual 223, 3) := by decide +kernel
theorem dX6_glueItem_5 : decode cX6_glueItem 5 = .ok (.aload_n 0, 1) := by decide +kernel
theorem dX6_glueItem_6 : decode cX6_glueItem 6 = .ok (.invokevirtual 259, 3) := by decide +kernel
theorem dX6_glueItem_9 : decode cX6_glueItem 9 = .ok (.aload_n 0, 1) := by decide +kernel
theorem dX6_glueItem_10 : decode cX6_glueItem 10 = .ok (.getfield 209, 3) := by decide +kernel
theorem dX6_glueItem_13 : decode cX6_glueItem 13 = .ok (.ifCond .eq 7, 3) := by decide +kernel
theorem dX6_glueItem_16 : decode cX6_glueItem 16 = .ok (.iconst 0, 1) := by decide +kernel
theorem dX6_glueItem_17 : decode cX6_glueItem 17 = .ok (.goto 13, 3) := by decide +kernel
theorem dX6_glueItem_20 : decode cX6_glueItem 20 = .ok (.aload_n 0, 1) := by decide +kernel
theorem dX6_glueItem_21 : decode cX6_glueItem 21 = .ok (.aload_n 0, 1) := by decide +kernel
theorem dX6_glueItem_22 : decode cX6_glueItem 22 = .ok (.getfield 220, 3) := by decide +kernel
theorem dX6_glueItem_25 : decode cX6_glueItem 25 = .ok (.iconst 0, 1) := by decide +kernel
theorem dX6_glueItem_26 : decode cX6_glueItem 26 = .ok (.iconst (-1), 1) := by decide +kernel
theorem dX6_glueItem_27 : decode cX6_glueItem 27 = .ok (.invokevirtual 262, 3) := by decide +kernel
theorem dX6_glueItem_30 : decode cX6_glueItem 30 = .ok (.istore_n 1, 1) := by decide +kernel
theorem dX6_glueItem_31 : decode cX6_glueItem 31 = .ok (.aload_n 0, 1) := by decide +kernel
theorem dX6_glueItem_32 : decode cX6_glueItem 32 = .ok (.invokevirtual 259, 3) := by decide +kernel
theorem dX6_glueItem_35 : decode cX6_glueItem 35 = .ok (.aload_n 0, 1) := by decide +kernel
theorem dX6_glueItem_36 : decode cX6_glueItem 36 = .ok (.getfield 209, 3) := by decide +kernel
theorem dX6_glueItem_39 : decode cX6_glueItem 39 = .ok (.ifCond .eq 7, 3) := by decide +kernel
theorem dX6_glueItem_42 : decode cX6_glueItem 42 = .ok (.iconst 0, 1) := by decide +kernel
theorem dX6_glueItem_43 : decode cX6_glueItem 43 = .ok (.goto 13, 3) := by decide +kernel
theorem dX6_glueItem_46 : decode cX6_glueItem 46 = .ok (.aload_n 0, 1) := by decide +kernel
theorem dX6_glueItem_47 : decode cX6_glueItem 47 = .ok (.aload_n 0, 1) := by decide +kernel
theorem dX6_glueItem_48 : decode cX6_glueItem 48 = .ok (.getfield 220, 3) := by decide +kernel
theorem dX6_glueItem_51 : decode cX6_glueItem 51 = .ok (.iconst 0, 1) := by decide +kernel
theorem dX6_glueItem_52 : decode cX6_glueItem 52 = .ok (.iload_n 1, 1) := by decide +kernel
theorem dX6_glueItem_53 : decode cX6_glueItem 53 = .ok (.invokevirtual 262, 3) := by decide +kernel
theorem dX6_glueItem_56 : decode cX6_glueItem 56 = .ok (.istore_n 2, 1) := by decide +kernel
theorem dX6_glueItem_57 : decode cX6_glueItem 57 = .ok (.aload_n 0, 1) := by decide +kernel
theorem dX6_glueItem_58 : decode cX6_glueItem 58 = .ok (.getfield 209, 3) := by decide +kernel
theorem dX6_glueItem_61 : decode cX6_glueItem 61 = .ok (.ifCond .ne 9, 3) := by decide +kernel
theorem dX6_glueItem_64 : decode cX6_glueItem 64 = .ok (.aload_n 0, 1) := by decide +kernel
theorem dX6_glueItem_65 : decode cX6_glueItem 65 = .ok (.iload_n 1, 1) := by decide +kernel
theorem dX6_glueItem_66 : decode cX6_glueItem 66 = .ok (.iload_n 2, 1) := by decide +kernel
theorem dX6_glueItem_67 : decode cX6_glueItem 67 = .ok (.invokevirtual 93, 3) := by decide +kernel
theorem dX6_glueItem_70 : decode cX6_glueItem 70 = .ok (.return_, 1) := by decide +kernel
theorem dX6_cutItem_0 : decode cX6_cutItem 0 = .ok (.aload_n 0, 1) := by decide +kernel
theorem dX6_cutItem_1 : decode cX6_cutItem 1 = .ok (.iconst 1, 1) := by decide +kernel
theorem dX6_cutItem_2 : decode cX6_cutItem 2 = .ok (.invokevirtual 223, 3) := by decide +kernel
theorem dX6_cutItem_5 : decode cX6_cutItem 5 = .ok (.aload_n 0, 1) := by decide +kernel
theorem dX6_cutItem_6 : decode cX6_cutItem 6 = .ok (.invokevirtual 259, 3) := by decide +kernel
theorem dX6_cutItem_9 : decode cX6_cutItem 9 = .ok (.aload_n 0, 1) := by decide +kernel
theorem dX6_cutItem_10 : decode cX6_cutItem 10 = .ok (.getfield 209, 3) := by decide +kernel
theorem dX6_cutItem_13 : decode cX6_cutItem 13 = .ok (.ifCond .eq 7, 3) := by decide +kernel
theorem dX6_cutItem_16 : decode cX6_cutItem 16 = .ok (.iconst 0, 1) := by decide +kernel
theorem dX6_cutItem_17 : decode cX6_cutItem 17 = .ok (.goto 13, 3) := by decide +kernel
theorem dX6_cutItem_20 : decode cX6_cutItem 20 = .ok (.aload_n 0, 1) := by decide +kernel
theorem dX6_cutItem_21 : decode cX6_cutItem 21 = .ok (.aload_n 0, 1) := by decide +kernel
theorem dX6_cutItem_22 : decode cX6_cutItem 22 = .ok (.getfield 220, 3) := by decide +kernel
theorem dX6_cutItem_25 : decode cX6_cutItem 25 = .ok (.iconst 1, 1) := by decide +kernel
theorem dX6_cutItem_26 : decode cX6_cutItem 26 = .ok (.iconst (-1), 1) := by decide +kernel
theorem dX6_cutItem_27 : decode cX6_cutItem 27 = .ok (.invokevirtual 262, 3) := by decide +kernel
theorem dX6_cutItem_30 : decode cX6_cutItem 30 = .ok (.istore_n 1, 1) := by decide +kernel
theorem dX6_cutItem_31 : decode cX6_cutItem 31 = .ok (.aload_n 0, 1) := by decide +kernel
theorem dX6_cutItem_32 : decode cX6_cutItem 32 = .ok (.getfield 209, 3) := by decide +kernel
theorem dX6_cutItem_35 : decode cX6_cutItem 35 = .ok (.ifCond .ne 8, 3) := by decide +kernel
theorem dX6_cutItem_38 : decode cX6_cutItem 38 = .ok (.aload_n 0, 1) := by decide +kernel
theorem dX6_cutItem_39 : decode cX6_cutItem 39 = .ok (.iload_n 1, 1) := by decide +kernel
theorem dX6_cutItem_40 : decode cX6_cutItem 40 = .ok (.invokevirtual 97, 3) := by decide +kernel
theorem dX6_cutItem_43 : decode cX6_cutItem 43 = .ok (.return_, 1) := by decide +kernel
theorem dX6_walkerItem_0 : decode cX6_walkerItem 0 = .ok (.aload_n 0, 1) := by decide +kernel
theorem dX6_walkerItem_1 : decode cX6_walkerItem 1 = .ok (.aload_n 0, 1) := by decide +kernel
theorem dX6_walkerItem_2 : decode cX6_walkerItem 2 = .ok (.getfield 7, 3) := by decide +kernel
theorem dX6_walkerItem_5 : decode cX6_walkerItem 5 = .ok (.iconst 1, 1) := by decide +kernel
theorem dX6_walkerItem_6 : decode cX6_walkerItem 6 = .ok (.iaload, 1) := by decide +kernel
theorem dX6_walkerItem_7 : decode cX6_walkerItem 7 = .ok (.bipush 6, 2) := by decide +kernel
theorem dX6_walkerItem_9 : decode cX6_walkerItem 9 = .ok (.if_icmp .ge 7, 3) := by decide +kernel
theorem dX6_walkerItem_12 : decode cX6_walkerItem 12 = .ok (.iconst 1, 1) := by decide +kernel
theorem dX6_walkerItem_13 : decode cX6_walkerItem 13 = .ok (.goto 4, 3) := by decide +kernel
theorem dX6_walkerItem_16 : decode cX6_walkerItem 16 = .ok (.iconst 0, 1) := by decide +kernel
theorem dX6_walkerItem_17 : decode cX6_walkerItem 17 = .ok (.invokevirtual 223, 3) := by decide +kernel
theorem dX6_walkerItem_20 : decode cX6_walkerItem 20 = .ok (.aload_n 0, 1) := by decide +kernel
theorem dX6_walkerItem_21 : decode cX6_walkerItem 21 = .ok (.aload_n 0, 1) := by decide +kernel
theorem dX6_walkerItem_22 : decode cX6_walkerItem 22 = .ok (.invokevirtual 227, 3) := by decide +kernel
theorem dX6_walkerItem_25 : decode cX6_walkerItem 25 = .ok (.ldc2_w 266, 3) := by decide +kernel
theorem dX6_walkerItem_28 : decode cX6_walkerItem 28 = .ok (.lcmp, 1) := by decide +kernel
theorem dX6_walkerItem_29 : decode cX6_walkerItem 29 = .ok (.ifCond .ne 7, 3) := by decide +kernel
theorem dX6_walkerItem_32 : decode cX6_walkerItem 32 = .ok (.iconst 1, 1) := by decide +kernel
theorem dX6_walkerItem_33 : decode cX6_walkerItem 33 = .ok (.goto 4, 3) := by decide +kernel
theorem dX6_walkerItem_36 : decode cX6_walkerItem 36 = .ok (.iconst 0, 1) := by decide +kernel
theorem dX6_walkerItem_37 : decode cX6_walkerItem 37 = .ok (.invokevirtual 223, 3) := by decide +kernel
theorem dX6_walkerItem_40 : decode cX6_walkerItem 40 = .ok (.aload_n 0, 1) := by decide +kernel
theorem dX6_walkerItem_41 : decode cX6_walkerItem 41 = .ok (.invokevirtual 259, 3) := by decide +kernel
theorem dX6_walkerItem_44 : decode cX6_walkerItem 44 = .ok (.aload_n 0, 1) := by decide +kernel
theorem dX6_walkerItem_45 : decode cX6_walkerItem 45 = .ok (.getfield 220, 3) := by decide +kernel
theorem dX6_walkerItem_48 : decode cX6_walkerItem 48 = .ok (.istore_n 2, 1) := by decide +kernel
theorem dX6_walkerItem_49 : decode cX6_walkerItem 49 = .ok (.aload_n 0, 1) := by decide +kernel
theorem dX6_walkerItem_50 : decode cX6_walkerItem 50 = .ok (.getfield 209, 3) := by decide +kernel
theorem dX6_walkerItem_53 : decode cX6_walkerItem 53 = .ok (.ifCond .eq 7, 3) := by decide +kernel
theorem dX6_walkerItem_56 : decode cX6_walkerItem 56 = .ok (.iconst 0, 1) := by decide +kernel
theorem dX6_walkerItem_57 : decode cX6_walkerItem 57 = .ok (.goto 7, 3) := by decide +kernel
theorem dX6_walkerItem_60 : decode cX6_walkerItem 60 = .ok (.aload_n 0, 1) := by decide +kernel
theorem dX6_walkerItem_61 : decode cX6_walkerItem 61 = .ok (.invokevirtual 254, 3) := by decide +kernel
theorem dX6_walkerItem_64 : decode cX6_walkerItem 64 = .ok (.istore_n 3, 1) := by decide +kernel
theorem dX6_walkerItem_65 : decode cX6_walkerItem 65 = .ok (.aload_n 0, 1) := by decide +kernel
theorem dX6_walkerItem_66 : decode cX6_walkerItem 66 = .ok (.iload_n 3, 1) := by decide +kernel
theorem dX6_walkerItem_67 : decode cX6_walkerItem 67 = .ok (.ifCond .lt 7, 3) := by decide +kernel
theorem dX6_walkerItem_70 : decode cX6_walkerItem 70 = .ok (.iconst 1, 1) := by decide +kernel
theorem dX6_walkerItem_71 : decode cX6_walkerItem 71 = .ok (.goto 4, 3) := by decide +kernel
theorem dX6_walkerItem_74 : decode cX6_walkerItem 74 = .ok (.iconst 0, 1) := by decide +kernel
theorem dX6_walkerItem_75 : decode cX6_walkerItem 75 = .ok (.invokevirtual 223, 3) := by decide +kernel
theorem dX6_walkerItem_78 : decode cX6_walkerItem 78 = .ok (.aload_n 0, 1) := by decide +kernel
theorem dX6_walkerItem_79 : decode cX6_walkerItem 79 = .ok (.getfield 209, 3) := by decide +kernel
theorem dX6_walkerItem_82 : decode cX6_walkerItem 82 = .ok (.ifCond .ne 12, 3) := by decide +kernel
theorem dX6_walkerItem_85 : decode cX6_walkerItem 85 = .ok (.aload_n 0, 1) := by decide +kernel
theorem dX6_walkerItem_86 : decode cX6_walkerItem 86 = .ok (.iload_n 1, 1) := by decide +kernel
theorem dX6_walkerItem_87 : decode cX6_walkerItem 87 = .ok (.iload_n 2, 1) := by decide +kernel
theorem dX6_walkerItem_88 : decode cX6_walkerItem 88 = .ok (.iload_n 3, 1) := by decide +kernel
theorem dX6_walkerItem_89 : decode cX6_walkerItem 89 = .ok (.invokevirtual 105, 3) := by decide +kernel
theorem dX6_walkerItem_92 : decode cX6_walkerItem 92 = .ok (.istore 4, 2) := by decide +kernel
theorem dX6_walkerItem_94 : decode cX6_walkerItem 94 = .ok (.return_, 1) := by decide +kernel
theorem dX6_item_0 : decode cX6_item 0 = .ok (.aload_n 0, 1) := by decide +kernel
theorem dX6_item_1 : decode cX6_item 1 = .ok (.invokevirtual 268, 3) := by decide +kernel
theorem dX6_item_4 : decode cX6_item 4 = .ok (.istore_n 1, 1) := by decide +kernel
theorem dX6_item_5 : decode cX6_item 5 = .ok (.aload_n 0, 1) := by decide +kernel
theorem dX6_item_6 : decode cX6_item 6 = .ok (.invokevirtual 227, 3) := by decide +kernel
theorem dX6_item_9 : decode cX6_item 9 = .ok (.lstore_n 2, 1) := by decide +kernel
theorem dX6_item_10 : decode cX6_item 10 = .ok (.iload_n 1, 1) := by decide +kernel
theorem dX6_item_11 : decode cX6_item 11 = .ok (.ifCond .lt 11, 3) := by decide +kernel
theorem dX6_item_14 : decode cX6_item 14 = .ok (.aload_n 0, 1) := by decide +kernel
theorem dX6_item_15 : decode cX6_item 15 = .ok (.iload_n 1, 1) := by decide +kernel
theorem dX6_item_16 : decode cX6_item 16 = .ok (.invokevirtual 271, 3) := by decide +kernel
theorem dX6_item_19 : decode cX6_item 19 = .ok (.goto 53, 3) := by decide +kernel
theorem dX6_item_22 : decode cX6_item 22 = .ok (.lload_n 2, 1) := by decide +kernel
theorem dX6_item_23 : decode cX6_item 23 = .ok (.ldc2_w 274, 3) := by decide +kernel
theorem dX6_item_26 : decode cX6_item 26 = .ok (.lcmp, 1) := by decide +kernel
theorem dX6_item_27 : decode cX6_item 27 = .ok (.ifCond .ne 10, 3) := by decide +kernel
theorem dX6_item_30 : decode cX6_item 30 = .ok (.aload_n 0, 1) := by decide +kernel
theorem dX6_item_31 : decode cX6_item 31 = .ok (.invokevirtual 276, 3) := by decide +kernel
theorem dX6_item_34 : decode cX6_item 34 = .ok (.goto 38, 3) := by decide +kernel
theorem dX6_item_37 : decode cX6_item 37 = .ok (.lload_n 2, 1) := by decide +kernel
theorem dX6_item_38 : decode cX6_item 38 = .ok (.ldc2_w 279, 3) := by decide +kernel
theorem dX6_item_41 : decode cX6_item 41 = .ok (.lcmp, 1) := by decide +kernel
theorem dX6_item_42 : decode cX6_item 42 = .ok (.ifCond .ne 10, 3) := by decide +kernel
theorem dX6_item_45 : decode cX6_item 45 = .ok (.aload_n 0, 1) := by decide +kernel
theorem dX6_item_46 : decode cX6_item 46 = .ok (.invokevirtual 281, 3) := by decide +kernel
theorem dX6_item_49 : decode cX6_item 49 = .ok (.goto 23, 3) := by decide +kernel
theorem dX6_item_52 : decode cX6_item 52 = .ok (.lload_n 2, 1) := by decide +kernel
theorem dX6_item_53 : decode cX6_item 53 = .ok (.ldc2_w 284, 3) := by decide +kernel
theorem dX6_item_56 : decode cX6_item 56 = .ok (.lcmp, 1) := by decide +kernel
theorem dX6_item_57 : decode cX6_item 57 = .ok (.ifCond .ne 10, 3) := by decide +kernel
theorem dX6_item_60 : decode cX6_item 60 = .ok (.aload_n 0, 1) := by decide +kernel
theorem dX6_item_61 : decode cX6_item 61 = .ok (.invokevirtual 286, 3) := by decide +kernel
theorem dX6_item_64 : decode cX6_item 64 = .ok (.goto 8, 3) := by decide +kernel
theorem dX6_item_67 : decode cX6_item 67 = .ok (.aload_n 0, 1) := by decide +kernel
theorem dX6_item_68 : decode cX6_item 68 = .ok (.iconst 0, 1) := by decide +kernel
theorem dX6_item_69 : decode cX6_item 69 = .ok (.invokevirtual 223, 3) := by decide +kernel
theorem dX6_item_72 : decode cX6_item 72 = .ok (.return_, 1) := by decide +kernel
theorem dX6_plain_0 : decode cX6_plain 0 = .ok (.aload_n 0, 1) := by decide +kernel
theorem dX6_plain_1 : decode cX6_plain 1 = .ok (.invokevirtual 289, 3) := by decide +kernel
theorem dX6_plain_4 : decode cX6_plain 4 = .ok (.aload_n 0, 1) := by decide +kernel
theorem dX6_plain_5 : decode cX6_plain 5 = .ok (.iconst 0, 1) := by decide +kernel
theorem dX6_plain_6 : decode cX6_plain 6 = .ok (.putfield 209, 3) := by decide +kernel
theorem dX6_plain_9 : decode cX6_plain 9 = .ok (.aload_n 0, 1) := by decide +kernel
theorem dX6_plain_10 : decode cX6_plain 10 = .ok (.iconst 0, 1) := by decide +kernel
theorem dX6_plain_11 : decode cX6_plain 11 = .ok (.putfield 194, 3) := by decide +kernel
theorem dX6_plain_14 : decode cX6_plain 14 = .ok (.aload_n 0, 1) := by decide +kernel
theorem dX6_plain_15 : decode cX6_plain 15 = .ok (.invokevirtual 213, 3) := by decide +kernel
theorem dX6_plain_18 : decode cX6_plain 18 = .ok (.iconst 1, 1) := by decide +kernel
theorem dX6_plain_19 : decode cX6_plain 19 = .ok (.istore_n 1, 1) := by decide +kernel
theorem dX6_plain_20 : decode cX6_plain 20 = .ok (.aload_n 0, 1) := by decide +kernel
theorem dX6_plain_21 : decode cX6_plain 21 = .ok (.invokevirtual 292, 3) := by decide +kernel
theorem dX6_plain_24 : decode cX6_plain 24 = .ok (.aload_n 0, 1) := by decide +kernel
theorem dX6_plain_25 : decode cX6_plain 25 = .ok (.getfield 209, 3) := by decide +kernel
theorem dX6_plain_28 : decode cX6_plain 28 = .ok (.ifCond .ne 31, 3) := by decide +kernel
theorem dX6_plain_31 : decode cX6_plain 31 = .ok (.aload_n 0, 1) := by decide +kernel
theorem dX6_plain_32 : decode cX6_plain 32 = .ok (.aload_n 0, 1) := by decide +kernel
theorem dX6_plain_33 : decode cX6_plain 33 = .ok (.getfield 197, 3) := by decide +kernel
theorem dX6_plain_36 : decode cX6_plain 36 = .ok (.invokevirtual 200, 3) := by decide +kernel
theorem dX6_plain_39 : decode cX6_plain 39 = .ok (.bipush 59, 2) := by decide +kernel
theorem dX6_plain_41 : decode cX6_plain 41 = .ok (.if_icmp .ne 18, 3) := by decide +kernel
theorem dX6_plain_44 : decode cX6_plain 44 = .ok (.aload_n 0, 1) := by decide +kernel
theorem dX6_plain_45 : decode cX6_plain 45 = .ok (.iconst 1, 1) := by decide +kernel
theorem dX6_plain_46 : decode cX6_plain 46 = .ok (.invokevirtual 223, 3) := by decide +kernel
theorem dX6_plain_49 : decode cX6_plain 49 = .ok (.aload_n 0, 1) := by decide +kernel
theorem dX6_plain_50 : decode cX6_plain 50 = .ok (.invokevirtual 292, 3) := by decide +kernel
theorem dX6_plain_53 : decode cX6_plain 53 = .ok (.iinc 1 1, 3) := by decide +kernel
theorem dX6_plain_56 : decode cX6_plain 56 = .ok (.goto (-32), 3) := by decide +kernel
theorem dX6_plain_59 : decode cX6_plain 59 = .ok (.aload_n 0, 1) := by decide +kernel
theorem dX6_plain_60 : decode cX6_plain 60 = .ok (.aload_n 0, 1) := by decide +kernel
theorem dX6_plain_61 : decode cX6_plain 61 = .ok (.getfield 209, 3) := by decide +kernel
theorem dX6_plain_64 : decode cX6_plain 64 = .ok (.ifCond .ne 14, 3) := by decide +kernel
theorem dX6_plain_67 : decode cX6_plain 67 = .ok (.aload_n 0, 1) := by decide +kernel
theorem dX6_plain_68 : decode cX6_plain 68 = .ok (.getfield 197, 3) := by decide +kernel
theorem dX6_plain_71 : decode cX6_plain 71 = .ok (.aload_n 0, 1) := by decide +kernel
theorem dX6_plain_72 : decode cX6_plain 72 = .ok (.getfield 182, 3) := by decide +kernel
theorem dX6_plain_75 : decode cX6_plain 75 = .ok (.if_icmp .ge 7, 3) := by decide +kernel
theorem dX6_plain_78 : decode cX6_plain 78 = .ok (.iconst 1, 1) := by decide +kernel
theorem dX6_plain_79 : decode cX6_plain 79 = .ok (.goto 4, 3) := by decide +kernel
theorem dX6_plain_82 : decode cX6_plain 82 = .ok (.iconst 0, 1) := by decide +kernel
theorem dX6_plain_83 : decode cX6_plain 83 = .ok (.putfield 209, 3) := by decide +kernel
theorem dX6_plain_86 : decode cX6_plain 86 = .ok (.aload_n 0, 1) := by decide +kernel
theorem dX6_plain_87 : decode cX6_plain 87 = .ok (.getfield 209, 3) := by decide +kernel
theorem dX6_plain_90 : decode cX6_plain 90 = .ok (.ifCond .eq 7, 3) := by decide +kernel
theorem dX6_plain_93 : decode cX6_plain 93 = .ok (.aload_n 0, 1) := by decide +kernel
theorem dX6_plain_94 : decode cX6_plain 94 = .ok (.invokevirtual 295, 3) := by decide +kernel
theorem dX6_plain_97 : decode cX6_plain 97 = .ok (.aload_n 0, 1) := by decide +kernel
theorem dX6_plain_98 : decode cX6_plain 98 = .ok (.iconst 0, 1) := by decide +kernel
theorem dX6_plain_99 : decode cX6_plain 99 = .ok (.putfield 182, 3) := by decide +kernel
theorem dX6_plain_102 : decode cX6_plain 102 = .ok (.aload_n 0, 1) := by decide +kernel
theorem dX6_plain_103 : decode cX6_plain 103 = .ok (.getfield 209, 3) := by decide +kernel
theorem dX6_plain_106 : decode cX6_plain 106 = .ok (.ifCond .eq 12, 3) := by decide +kernel
theorem dX6_plain_109 : decode cX6_plain 109 = .ok (.iconst (-1), 1) := by decide +kernel
theorem dX6_plain_110 : decode cX6_plain 110 = .ok (.aload_n 0, 1) := by decide +kernel
theorem dX6_plain_111 : decode cX6_plain 111 = .ok (.getfield 197, 3) := by decide +kernel
theorem dX6_plain_114 : decode cX6_plain 114 = .ok (.isub, 1) := by decide +kernel
theorem dX6_plain_115 : decode cX6_plain 115 = .ok (.goto 4, 3) := by decide +kernel
theorem dX6_plain_118 : decode cX6_plain 118 = .ok (.iload_n 1, 1) := by decide +kernel
theorem dX6_plain_119 : decode cX6_plain 119 = .ok (.ireturn, 1) := by decide +kernel
theorem dX6_isOne_0 : decode cX6_isOne 0 = .ok (.iload_n 0, 1) := by decide +kernel
theorem dX6_isOne_1 : decode cX6_isOne 1 = .ok (.i2l, 1) := by decide +kernel
theorem dX6_isOne_2 : decode cX6_isOne 2 = .ok (.lconst 0, 1) := by decide +kernel
theorem dX6_isOne_3 : decode cX6_isOne 3 = .ok (.ldc2_w 49, 3) := by decide +kernel
theorem dX6_isOne_6 : decode cX6_isOne 6 = .ok (.invokestatic 45, 3) := by decide +kernel
theorem dX6_isOne_9 : decode cX6_isOne 9 = .ok (.ireturn, 1) := by decide +kernel
theorem dX6_sheet_0 : decode cX6_sheet 0 = .ok (.iload_n 1, 1) := by decide +kernel
theorem dX6_sheet_1 : decode cX6_sheet 1 = .ok (.invokestatic 298, 3) := by decide +kernel
theorem dX6_sheet_4 : decode cX6_sheet 4 = .ok (.ifCond .eq 25, 3) := by decide +kernel
theorem dX6_sheet_7 : decode cX6_sheet 7 = .ok (.iload_n 2, 1) := by decide +kernel
theorem dX6_sheet_8 : decode cX6_sheet 8 = .ok (.ifCond .eq 28, 3) := by decide +kernel
theorem dX6_sheet_11 : decode cX6_sheet 11 = .ok (.iload_n 2, 1) := by decide +kernel
theorem dX6_sheet_12 : decode cX6_sheet 12 = .ok (.bipush 8, 2) := by decide +kernel
theorem dX6_sheet_14 : decode cX6_sheet 14 = .ok (.if_icmp .eq 22, 3) := by decide +kernel
theorem dX6_sheet_17 : decode cX6_sheet 17 = .ok (.iload_n 2, 1) := by decide +kernel
theorem dX6_sheet_18 : decode cX6_sheet 18 = .ok (.bipush 16, 2) := by decide +kernel
theorem dX6_sheet_20 : decode cX6_sheet 20 = .ok (.if_icmp .eq 16, 3) := by decide +kernel
theorem dX6_sheet_23 : decode cX6_sheet 23 = .ok (.iload_n 2, 1) := by decide +kernel
theorem dX6_sheet_24 : decode cX6_sheet 24 = .ok (.bipush 64, 2) := by decide +kernel
theorem dX6_sheet_26 : decode cX6_sheet 26 = .ok (.if_icmp .eq 10, 3) := by decide +kernel
theorem dX6_sheet_29 : decode cX6_sheet 29 = .ok (.aload_n 0, 1) := by decide +kernel
theorem dX6_sheet_30 : decode cX6_sheet 30 = .ok (.ldc 44, 2) := by decide +kernel
theorem dX6_sheet_32 : decode cX6_sheet 32 = .ok (.invokevirtual 69, 3) := by decide +kernel
theorem dX6_sheet_35 : decode cX6_sheet 35 = .ok (.ireturn, 1) := by decide +kernel
theorem dX6_sheet_36 : decode cX6_sheet 36 = .ok (.iload_n 3, 1) := by decide +kernel
theorem dX6_sheet_37 : decode cX6_sheet 37 = .ok (.ifCond .ge 11, 3) := by decide +kernel
theorem dX6_sheet_40 : decode cX6_sheet 40 = .ok (.aload_n 0, 1) := by decide +kernel
theorem dX6_sheet_41 : decode cX6_sheet 41 = .ok (.ldc_w 301, 3) := by decide +kernel
theorem dX6_sheet_44 : decode cX6_sheet 44 = .ok (.invokevirtual 69, 3) := by decide +kernel
theorem dX6_sheet_47 : decode cX6_sheet 47 = .ok (.ireturn, 1) := by decide +kernel
theorem dX6_sheet_48 : decode cX6_sheet 48 = .ok (.iload_n 3, 1) := by decide +kernel
theorem dX6_sheet_49 : decode cX6_sheet 49 = .ok (.bipush 40, 2) := by decide +kernel
theorem dX6_sheet_51 : decode cX6_sheet 51 = .ok (.if_icmp .le 10, 3) := by decide +kernel
theorem dX6_sheet_54 : decode cX6_sheet 54 = .ok (.aload_n 0, 1) := by decide +kernel
theorem dX6_sheet_55 : decode cX6_sheet 55 = .ok (.ldc 44, 2) := by decide +kernel
theorem dX6_sheet_57 : decode cX6_sheet 57 = .ok (.invokevirtual 69, 3) := by decide +kernel
theorem dX6_sheet_60 : decode cX6_sheet 60 = .ok (.ireturn, 1) := by decide +kernel
theorem dX6_sheet_61 : decode cX6_sheet 61 = .ok (.aload_n 0, 1) := by decide +kernel
theorem dX6_sheet_62 : decode cX6_sheet 62 = .ok (.getfield 31, 3) := by decide +kernel
theorem dX6_sheet_65 : decode cX6_sheet 65 = .ok (.iload_n 1, 1) := by decide +kernel
theorem dX6_sheet_66 : decode cX6_sheet 66 = .ok (.iload_n 2, 1) := by decide +kernel
theorem dX6_sheet_67 : decode cX6_sheet 67 = .ok (.iastore, 1) := by decide +kernel
theorem dX6_sheet_68 : decode cX6_sheet 68 = .ok (.aload_n 0, 1) := by decide +kernel
theorem dX6_sheet_69 : decode cX6_sheet 69 = .ok (.getfield 34, 3) := by decide +kernel
theorem dX6_sheet_72 : decode cX6_sheet 72 = .ok (.iload_n 1, 1) := by decide +kernel
theorem dX6_sheet_73 : decode cX6_sheet 73 = .ok (.iload_n 2, 1) := by decide +kernel
theorem dX6_sheet_74 : decode cX6_sheet 74 = .ok (.ifCond .ne 7, 3) := by decide +kernel
theorem dX6_sheet_77 : decode cX6_sheet 77 = .ok (.iconst 0, 1) := by decide +kernel
theorem dX6_sheet_78 : decode cX6_sheet 78 = .ok (.goto 4, 3) := by decide +kernel
theorem dX6_sheet_81 : decode cX6_sheet 81 = .ok (.iload_n 3, 1) := by decide +kernel
theorem dX6_sheet_82 : decode cX6_sheet 82 = .ok (.iastore, 1) := by decide +kernel
theorem dX6_sheet_83 : decode cX6_sheet 83 = .ok (.iconst 0, 1) := by decide +kernel
theorem dX6_sheet_84 : decode cX6_sheet 84 = .ok (.istore 4, 2) := by decide +kernel
theorem dX6_sheet_86 : decode cX6_sheet 86 = .ok (.iload 4, 2) := by decide +kernel
theorem dX6_sheet_88 : decode cX6_sheet 88 = .ok (.bipush 40, 2) := by decide +kernel
theorem dX6_sheet_90 : decode cX6_sheet 90 = .ok (.if_icmp .ge 22, 3) := by decide +kernel
theorem dX6_sheet_93 : decode cX6_sheet 93 = .ok (.aload_n 0, 1) := by decide +kernel
theorem dX6_sheet_94 : decode cX6_sheet 94 = .ok (.getfield 37, 3) := by decide +kernel
theorem dX6_sheet_97 : decode cX6_sheet 97 = .ok (.bipush 40, 2) := by decide +kernel
theorem dX6_sheet_99 : decode cX6_sheet 99 = .ok (.iload_n 1, 1) := by decide +kernel
theorem dX6_sheet_100 : decode cX6_sheet 100 = .ok (.imul, 1) := by decide +kernel
theorem dX6_sheet_101 : decode cX6_sheet 101 = .ok (.iload 4, 2) := by decide +kernel
theorem dX6_sheet_103 : decode cX6_sheet 103 = .ok (.iadd, 1) := by decide +kernel
theorem dX6_sheet_104 : decode cX6_sheet 104 = .ok (.lconst 0, 1) := by decide +kernel
theorem dX6_sheet_105 : decode cX6_sheet 105 = .ok (.lastore, 1) := by decide +kernel
theorem dX6_sheet_106 : decode cX6_sheet 106 = .ok (.iinc 4 1, 3) := by decide +kernel
theorem dX6_sheet_109 : decode cX6_sheet 109 = .ok (.goto (-23), 3) := by decide +kernel
theorem dX6_sheet_112 : decode cX6_sheet 112 = .ok (.aload_n 0, 1) := by decide +kernel
theorem dX6_sheet_113 : decode cX6_sheet 113 = .ok (.getfield 34, 3) := by decide +kernel
theorem dX6_sheet_116 : decode cX6_sheet 116 = .ok (.iload_n 1, 1) := by decide +kernel
theorem dX6_sheet_117 : decode cX6_sheet 117 = .ok (.iaload, 1) := by decide +kernel
theorem dX6_sheet_118 : decode cX6_sheet 118 = .ok (.ireturn, 1) := by decide +kernel
theorem dX6_narrowed_0 : decode cX6_narrowed 0 = .ok (.iload_n 0, 1) := by decide +kernel
theorem dX6_narrowed_1 : decode cX6_narrowed 1 = .ok (.bipush 8, 2) := by decide +kernel
theorem dX6_narrowed_3 : decode cX6_narrowed 3 = .ok (.if_icmp .ne 10, 3) := by decide +kernel
theorem dX6_narrowed_6 : decode cX6_narrowed 6 = .ok (.lload_n 1, 1) := by decide +kernel
theorem dX6_narrowed_7 : decode cX6_narrowed 7 = .ok (.l2i, 1) := by decide +kernel
theorem dX6_narrowed_8 : decode cX6_narrowed 8 = .ok (.i2b, 1) := by decide +kernel
theorem dX6_narrowed_9 : decode cX6_narrowed 9 = .ok (.i2l, 1) := by decide +kernel
theorem dX6_narrowed_10 : decode cX6_narrowed 10 = .ok (.goto 17, 3) := by decide +kernel
theorem dX6_narrowed_13 : decode cX6_narrowed 13 = .ok (.iload_n 0, 1) := by decide +kernel
theorem dX6_narrowed_14 : decode cX6_narrowed 14 = .ok (.bipush 16, 2) := by decide +kernel
theorem dX6_narrowed_16 : decode cX6_narrowed 16 = .ok (.if_icmp .ne 10, 3) := by decide +kernel
theorem dX6_narrowed_19 : decode cX6_narrowed 19 = .ok (.lload_n 1, 1) := by decide +kernel
theorem dX6_narrowed_20 : decode cX6_narrowed 20 = .ok (.l2i, 1) := by decide +kernel
theorem dX6_narrowed_21 : decode cX6_narrowed 21 = .ok (.i2s, 1) := by decide +kernel
theorem dX6_narrowed_22 : decode cX6_narrowed 22 = .ok (.i2l, 1) := by decide +kernel
theorem dX6_narrowed_23 : decode cX6_narrowed 23 = .ok (.goto 4, 3) := by decide +kernel
theorem dX6_narrowed_26 : decode cX6_narrowed 26 = .ok (.lload_n 1, 1) := by decide +kernel
theorem dX6_narrowed_27 : decode cX6_narrowed 27 = .ok (.lreturn, 1) := by decide +kernel
theorem dX6_wrong_0 : decode cX6_wrong 0 = .ok (.iload_n 1, 1) := by decide +kernel
theorem dX6_wrong_1 : decode cX6_wrong 1 = .ok (.invokestatic 298, 3) := by decide +kernel
theorem dX6_wrong_4 : decode cX6_wrong 4 = .ok (.ifCond .ne 8, 3) := by decide +kernel
theorem dX6_wrong_7 : decode cX6_wrong 7 = .ok (.ldc 44, 2) := by decide +kernel
theorem dX6_wrong_9 : decode cX6_wrong 9 = .ok (.goto 19, 3) := by decide +kernel
theorem dX6_wrong_12 : decode cX6_wrong 12 = .ok (.aload_n 0, 1) := by decide +kernel
theorem dX6_wrong_13 : decode cX6_wrong 13 = .ok (.getfield 31, 3) := by decide +kernel
theorem dX6_wrong_16 : decode cX6_wrong 16 = .ok (.iload_n 1, 1) := by decide +kernel
theorem dX6_wrong_17 : decode cX6_wrong 17 = .ok (.iaload, 1) := by decide +kernel
theorem dX6_wrong_18 : decode cX6_wrong 18 = .ok (.ifCond .ne 9, 3) := by decide +kernel
theorem dX6_wrong_21 : decode cX6_wrong 21 = .ok (.ldc_w 302, 3) := by decide +kernel
theorem dX6_wrong_24 : decode cX6_wrong 24 = .ok (.goto 4, 3) := by decide +kernel
theorem dX6_wrong_27 : decode cX6_wrong 27 = .ok (.iconst 0, 1) := by decide +kernel
theorem dX6_wrong_28 : decode cX6_wrong 28 = .ok (.ireturn, 1) := by decide +kernel
theorem dX6_write_0 : decode cX6_write 0 = .ok (.aload_n 0, 1) := by decide +kernel
theorem dX6_write_1 : decode cX6_write 1 = .ok (.iload_n 1, 1) := by decide +kernel
theorem dX6_write_2 : decode cX6_write 2 = .ok (.invokevirtual 303, 3) := by decide +kernel
theorem dX6_write_5 : decode cX6_write 5 = .ok (.istore 5, 2) := by decide +kernel
theorem dX6_write_7 : decode cX6_write 7 = .ok (.iload 5, 2) := by decide +kernel
theorem dX6_write_9 : decode cX6_write 9 = .ok (.ifCond .eq 11, 3) := by decide +kernel
theorem dX6_write_12 : decode cX6_write 12 = .ok (.aload_n 0, 1) := by decide +kernel
theorem dX6_write_13 : decode cX6_write 13 = .ok (.iload 5, 2) := by decide +kernel
theorem dX6_write_15 : decode cX6_write 15 = .ok (.invokevirtual 69, 3) := by decide +kernel
theorem dX6_write_18 : decode cX6_write 18 = .ok (.i2l, 1) := by decide +kernel
theorem dX6_write_19 : decode cX6_write 19 = .ok (.lreturn, 1) := by decide +kernel
theorem dX6_write_20 : decode cX6_write 20 = .ok (.iload_n 2, 1) := by decide +kernel
theorem dX6_write_21 : decode cX6_write 21 = .ok (.i2l, 1) := by decide +kernel
theorem dX6_write_22 : decode cX6_write 22 = .ok (.lconst 0, 1) := by decide +kernel
theorem dX6_write_23 : decode cX6_write 23 = .ok (.aload_n 0, 1) := by decide +kernel
theorem dX6_write_24 : decode cX6_write 24 = .ok (.getfield 34, 3) := by decide +kernel
theorem dX6_write_27 : decode cX6_write 27 = .ok (.iload_n 1, 1) := by decide +kernel
theorem dX6_write_28 : decode cX6_write 28 = .ok (.iaload, 1) := by decide +kernel
theorem dX6_write_29 : decode cX6_write 29 = .ok (.iconst 1, 1) := by decide +kernel
theorem dX6_write_30 : decode cX6_write 30 = .ok (.isub, 1) := by decide +kernel
theorem dX6_write_31 : decode cX6_write 31 = .ok (.i2l, 1) := by decide +kernel
theorem dX6_write_32 : decode cX6_write 32 = .ok (.invokestatic 45, 3) := by decide +kernel
theorem dX6_write_35 : decode cX6_write 35 = .ok (.ifCond .ne 11, 3) := by decide +kernel
theorem dX6_write_38 : decode cX6_write 38 = .ok (.aload_n 0, 1) := by decide +kernel
theorem dX6_write_39 : decode cX6_write 39 = .ok (.ldc 44, 2) := by decide +kernel
theorem dX6_write_41 : decode cX6_write 41 = .ok (.invokevirtual 69, 3) := by decide +kernel
theorem dX6_write_44 : decode cX6_write 44 = .ok (.i2l, 1) := by decide +kernel
theorem dX6_write_45 : decode cX6_write 45 = .ok (.lreturn, 1) := by decide +kernel
theorem dX6_write_46 : decode cX6_write 46 = .ok (.aload_n 0, 1) := by decide +kernel
theorem dX6_write_47 : decode cX6_write 47 = .ok (.getfield 37, 3) := by decide +kernel
theorem dX6_write_50 : decode cX6_write 50 = .ok (.bipush 40, 2) := by decide +kernel
theorem dX6_write_52 : decode cX6_write 52 = .ok (.iload_n 1, 1) := by decide +kernel
theorem dX6_write_53 : decode cX6_write 53 = .ok (.imul, 1) := by decide +kernel
theorem dX6_write_54 : decode cX6_write 54 = .ok (.iload_n 2, 1) := by decide +kernel
theorem dX6_write_55 : decode cX6_write 55 = .ok (.iadd, 1) := by decide +kernel
theorem dX6_write_56 : decode cX6_write 56 = .ok (.laload, 1) := by decide +kernel
theorem dX6_write_57 : decode cX6_write 57 = .ok (.lstore 6, 2) := by decide +kernel
theorem dX6_write_59 : decode cX6_write 59 = .ok (.aload_n 0, 1) := by decide +kernel
theorem dX6_write_60 : decode cX6_write 60 = .ok (.getfield 37, 3) := by decide +kernel
theorem dX6_write_63 : decode cX6_write 63 = .ok (.bipush 40, 2) := by decide +kernel
theorem dX6_write_65 : decode cX6_write 65 = .ok (.iload_n 1, 1) := by decide +kernel
theorem dX6_write_66 : decode cX6_write 66 = .ok (.imul, 1) := by decide +kernel
theorem dX6_write_67 : decode cX6_write 67 = .ok (.iload_n 2, 1) := by decide +kernel
theorem dX6_write_68 : decode cX6_write 68 = .ok (.iadd, 1) := by decide +kernel
theorem dX6_write_69 : decode cX6_write 69 = .ok (.aload_n 0, 1) := by decide +kernel
theorem dX6_write_70 : decode cX6_write 70 = .ok (.getfield 31, 3) := by decide +kernel
theorem dX6_write_73 : decode cX6_write 73 = .ok (.iload_n 1, 1) := by decide +kernel
theorem dX6_write_74 : decode cX6_write 74 = .ok (.iaload, 1) := by decide +kernel
theorem dX6_write_75 : decode cX6_write 75 = .ok (.lload_n 3, 1) := by decide +kernel
theorem dX6_write_76 : decode cX6_write 76 = .ok (.invokestatic 306, 3) := by decide +kernel
theorem dX6_write_79 : decode cX6_write 79 = .ok (.lastore, 1) := by decide +kernel
theorem dX6_write_80 : decode cX6_write 80 = .ok (.lload 6, 2) := by decide +kernel
theorem dX6_write_82 : decode cX6_write 82 = .ok (.lreturn, 1) := by decide +kernel
theorem dX6_copy_0 : decode cX6_copy 0 = .ok (.iload_n 1, 1) := by decide +kernel
theorem dX6_copy_1 : decode cX6_copy 1 = .ok (.invokestatic 298, 3) := by decide +kernel
theorem dX6_copy_4 : decode cX6_copy 4 = .ok (.ifCond .eq 10, 3) := by decide +kernel
theorem dX6_copy_7 : decode cX6_copy 7 = .ok (.iload_n 3, 1) := by decide +kernel
theorem dX6_copy_8 : decode cX6_copy 8 = .ok (.invokestatic 298, 3) := by decide +kernel
theorem dX6_copy_11 : decode cX6_copy 11 = .ok (.ifCond .ne 10, 3) := by decide +kernel
theorem dX6_copy_14 : decode cX6_copy 14 = .ok (.aload_n 0, 1) := by decide +kernel
theorem dX6_copy_15 : decode cX6_copy 15 = .ok (.ldc 44, 2) := by decide +kernel
theorem dX6_copy_17 : decode cX6_copy 17 = .ok (.invokevirtual 69, 3) := by decide +kernel
theorem dX6_copy_20 : decode cX6_copy 20 = .ok (.ireturn, 1) := by decide +kernel
theorem dX6_copy_21 : decode cX6_copy 21 = .ok (.aload_n 0, 1) := by decide +kernel
theorem dX6_copy_22 : decode cX6_copy 22 = .ok (.getfield 31, 3) := by decide +kernel
theorem dX6_copy_25 : decode cX6_copy 25 = .ok (.iload_n 1, 1) := by decide +kernel
theorem dX6_copy_26 : decode cX6_copy 26 = .ok (.iaload, 1) := by decide +kernel
theorem dX6_copy_27 : decode cX6_copy 27 = .ok (.ifCond .eq 12, 3) := by decide +kernel
theorem dX6_copy_30 : decode cX6_copy 30 = .ok (.aload_n 0, 1) := by decide +kernel
theorem dX6_copy_31 : decode cX6_copy 31 = .ok (.getfield 31, 3) := by decide +kernel
theorem dX6_copy_34 : decode cX6_copy 34 = .ok (.iload_n 3, 1) := by decide +kernel
theorem dX6_copy_35 : decode cX6_copy 35 = .ok (.iaload, 1) := by decide +kernel
theorem dX6_copy_36 : decode cX6_copy 36 = .ok (.ifCond .ne 11, 3) := by decide +kernel
theorem dX6_copy_39 : decode cX6_copy 39 = .ok (.aload_n 0, 1) := by decide +kernel
theorem dX6_copy_40 : decode cX6_copy 40 = .ok (.ldc_w 302, 3) := by decide +kernel
theorem dX6_copy_43 : decode cX6_copy 43 = .ok (.invokevirtual 69, 3) := by decide +kernel
theorem dX6_copy_46 : decode cX6_copy 46 = .ok (.ireturn, 1) := by decide +kernel
theorem dX6_copy_47 : decode cX6_copy 47 = .ok (.aload_n 0, 1) := by decide +kernel
theorem dX6_copy_48 : decode cX6_copy 48 = .ok (.getfield 31, 3) := by decide +kernel
theorem dX6_copy_51 : decode cX6_copy 51 = .ok (.iload_n 1, 1) := by decide +kernel
theorem dX6_copy_52 : decode cX6_copy 52 = .ok (.iaload, 1) := by decide +kernel
theorem dX6_copy_53 : decode cX6_copy 53 = .ok (.aload_n 0, 1) := by decide +kernel
theorem dX6_copy_54 : decode cX6_copy 54 = .ok (.getfield 31, 3) := by decide +kernel
theorem dX6_copy_57 : decode cX6_copy 57 = .ok (.iload_n 3, 1) := by decide +kernel
theorem dX6_copy_58 : decode cX6_copy 58 = .ok (.iaload, 1) := by decide +kernel
theorem dX6_copy_59 : decode cX6_copy 59 = .ok (.if_icmp .eq 10, 3) := by decide +kernel
theorem dX6_copy_62 : decode cX6_copy 62 = .ok (.aload_n 0, 1) := by decide +kernel
theorem dX6_copy_63 : decode cX6_copy 63 = .ok (.ldc 133, 2) := by decide +kernel
theorem dX6_copy_65 : decode cX6_copy 65 = .ok (.invokevirtual 69, 3) := by decide +kernel
theorem dX6_copy_68 : decode cX6_copy 68 = .ok (.ireturn, 1) := by decide +kernel
theorem dX6_copy_69 : decode cX6_copy 69 = .ok (.iload_n 2, 1) := by decide +kernel
theorem dX6_copy_70 : decode cX6_copy 70 = .ok (.ifCond .lt 40, 3) := by decide +kernel
theorem dX6_copy_73 : decode cX6_copy 73 = .ok (.iload 4, 2) := by decide +kernel
theorem dX6_copy_75 : decode cX6_copy 75 = .ok (.ifCond .lt 35, 3) := by decide +kernel
theorem dX6_copy_78 : decode cX6_copy 78 = .ok (.iload 5, 2) := by decide +kernel
theorem dX6_copy_80 : decode cX6_copy 80 = .ok (.ifCond .lt 30, 3) := by decide +kernel
theorem dX6_copy_83 : decode cX6_copy 83 = .ok (.iload 5, 2) := by decide +kernel
theorem dX6_copy_85 : decode cX6_copy 85 = .ok (.aload_n 0, 1) := by decide +kernel
theorem dX6_copy_86 : decode cX6_copy 86 = .ok (.getfield 34, 3) := by decide +kernel
theorem dX6_copy_89 : decode cX6_copy 89 = .ok (.iload_n 1, 1) := by decide +kernel
theorem dX6_copy_90 : decode cX6_copy 90 = .ok (.iaload, 1) := by decide +kernel
theorem dX6_copy_91 : decode cX6_copy 91 = .ok (.iload_n 2, 1) := by decide +kernel
theorem dX6_copy_92 : decode cX6_copy 92 = .ok (.isub, 1) := by decide +kernel
theorem dX6_copy_93 : decode cX6_copy 93 = .ok (.if_icmp .gt 17, 3) := by decide +kernel
theorem dX6_copy_96 : decode cX6_copy 96 = .ok (.iload 5, 2) := by decide +kernel
theorem dX6_copy_98 : decode cX6_copy 98 = .ok (.aload_n 0, 1) := by decide +kernel
theorem dX6_copy_99 : decode cX6_copy 99 = .ok (.getfield 34, 3) := by decide +kernel
theorem dX6_copy_102 : decode cX6_copy 102 = .ok (.iload_n 3, 1) := by decide +kernel
theorem dX6_copy_103 : decode cX6_copy 103 = .ok (.iaload, 1) := by decide +kernel
theorem dX6_copy_104 : decode cX6_copy 104 = .ok (.iload 4, 2) := by decide +kernel
theorem dX6_copy_106 : decode cX6_copy 106 = .ok (.isub, 1) := by decide +kernel
theorem dX6_copy_107 : decode cX6_copy 107 = .ok (.if_icmp .le 10, 3) := by decide +kernel
theorem dX6_copy_110 : decode cX6_copy 110 = .ok (.aload_n 0, 1) := by decide +kernel
theorem dX6_copy_111 : decode cX6_copy 111 = .ok (.ldc 44, 2) := by decide +kernel
theorem dX6_copy_113 : decode cX6_copy 113 = .ok (.invokevirtual 69, 3) := by decide +kernel
theorem dX6_copy_116 : decode cX6_copy 116 = .ok (.ireturn, 1) := by decide +kernel
theorem dX6_copy_117 : decode cX6_copy 117 = .ok (.iconst 0, 1) := by decide +kernel
theorem dX6_copy_118 : decode cX6_copy 118 = .ok (.istore 6, 2) := by decide +kernel
theorem dX6_copy_120 : decode cX6_copy 120 = .ok (.iload 6, 2) := by decide +kernel
theorem dX6_copy_122 : decode cX6_copy 122 = .ok (.iload 5, 2) := by decide +kernel
theorem dX6_copy_124 : decode cX6_copy 124 = .ok (.if_icmp .ge 30, 3) := by decide +kernel
theorem dX6_copy_127 : decode cX6_copy 127 = .ok (.aload_n 0, 1) := by decide +kernel
theorem dX6_copy_128 : decode cX6_copy 128 = .ok (.getfield 41, 3) := by decide +kernel
theorem dX6_copy_131 : decode cX6_copy 131 = .ok (.iload 6, 2) := by decide +kernel
theorem dX6_copy_133 : decode cX6_copy 133 = .ok (.aload_n 0, 1) := by decide +kernel
theorem dX6_copy_134 : decode cX6_copy 134 = .ok (.getfield 37, 3) := by decide +kernel
theorem dX6_copy_137 : decode cX6_copy 137 = .ok (.bipush 40, 2) := by decide +kernel
theorem dX6_copy_139 : decode cX6_copy 139 = .ok (.iload_n 1, 1) := by decide +kernel
theorem dX6_copy_140 : decode cX6_copy 140 = .ok (.imul, 1) := by decide +kernel
theorem dX6_copy_141 : decode cX6_copy 141 = .ok (.iload_n 2, 1) := by decide +kernel
theorem dX6_copy_142 : decode cX6_copy 142 = .ok (.iadd, 1) := by decide +kernel
theorem dX6_copy_143 : decode cX6_copy 143 = .ok (.iload 6, 2) := by decide +kernel
theorem dX6_copy_145 : decode cX6_copy 145 = .ok (.iadd, 1) := by decide +kernel
theorem dX6_copy_146 : decode cX6_copy 146 = .ok (.laload, 1) := by decide +kernel
theorem dX6_copy_147 : decode cX6_copy 147 = .ok (.lastore, 1) := by decide +kernel
theorem dX6_copy_148 : decode cX6_copy 148 = .ok (.iinc 6 1, 3) := by decide +kernel
theorem dX6_copy_151 : decode cX6_copy 151 = .ok (.goto (-31), 3) := by decide +kernel
theorem dX6_copy_154 : decode cX6_copy 154 = .ok (.iconst 0, 1) := by decide +kernel
theorem dX6_copy_155 : decode cX6_copy 155 = .ok (.istore 6, 2) := by decide +kernel
theorem dX6_copy_157 : decode cX6_copy 157 = .ok (.iload 6, 2) := by decide +kernel
theorem dX6_copy_159 : decode cX6_copy 159 = .ok (.iload 5, 2) := by decide +kernel
theorem dX6_copy_161 : decode cX6_copy 161 = .ok (.if_icmp .ge 31, 3) := by decide +kernel
theorem dX6_copy_164 : decode cX6_copy 164 = .ok (.aload_n 0, 1) := by decide +kernel
theorem dX6_copy_165 : decode cX6_copy 165 = .ok (.getfield 37, 3) := by decide +kernel
theorem dX6_copy_168 : decode cX6_copy 168 = .ok (.bipush 40, 2) := by decide +kernel
theorem dX6_copy_170 : decode cX6_copy 170 = .ok (.iload_n 3, 1) := by decide +kernel
theorem dX6_copy_171 : decode cX6_copy 171 = .ok (.imul, 1) := by decide +kernel
theorem dX6_copy_172 : decode cX6_copy 172 = .ok (.iload 4, 2) := by decide +kernel
theorem dX6_copy_174 : decode cX6_copy 174 = .ok (.iadd, 1) := by decide +kernel
theorem dX6_copy_175 : decode cX6_copy 175 = .ok (.iload 6, 2) := by decide +kernel
theorem dX6_copy_177 : decode cX6_copy 177 = .ok (.iadd, 1) := by decide +kernel
theorem dX6_copy_178 : decode cX6_copy 178 = .ok (.aload_n 0, 1) := by decide +kernel
theorem dX6_copy_179 : decode cX6_copy 179 = .ok (.getfield 41, 3) := by decide +kernel
theorem dX6_copy_182 : decode cX6_copy 182 = .ok (.iload 6, 2) := by decide +kernel
theorem dX6_copy_184 : decode cX6_copy 184 = .ok (.laload, 1) := by decide +kernel
theorem dX6_copy_185 : decode cX6_copy 185 = .ok (.lastore, 1) := by decide +kernel
theorem dX6_copy_186 : decode cX6_copy 186 = .ok (.iinc 6 1, 3) := by decide +kernel
theorem dX6_copy_189 : decode cX6_copy 189 = .ok (.goto (-32), 3) := by decide +kernel
theorem dX6_copy_192 : decode cX6_copy 192 = .ok (.iload 5, 2) := by decide +kernel
theorem dX6_copy_194 : decode cX6_copy 194 = .ok (.ireturn, 1) := by decide +kernel
theorem dX6_lays_0 : decode cX6_lays 0 = .ok (.aload_n 0, 1) := by decide +kernel
theorem dX6_lays_1 : decode cX6_lays 1 = .ok (.iload_n 1, 1) := by decide +kernel
theorem dX6_lays_2 : decode cX6_lays 2 = .ok (.invokevirtual 303, 3) := by decide +kernel
theorem dX6_lays_5 : decode cX6_lays 5 = .ok (.istore_n 2, 1) := by decide +kernel
theorem dX6_lays_6 : decode cX6_lays 6 = .ok (.iload_n 2, 1) := by decide +kernel
theorem dX6_lays_7 : decode cX6_lays 7 = .ok (.ifCond .eq 9, 3) := by decide +kernel
theorem dX6_lays_10 : decode cX6_lays 10 = .ok (.aload_n 0, 1) := by decide +kernel
theorem dX6_lays_11 : decode cX6_lays 11 = .ok (.iload_n 2, 1) := by decide +kernel
theorem dX6_lays_12 : decode cX6_lays 12 = .ok (.invokevirtual 69, 3) := by decide +kernel
theorem dX6_lays_15 : decode cX6_lays 15 = .ok (.ireturn, 1) := by decide +kernel
theorem dX6_lays_16 : decode cX6_lays 16 = .ok (.iconst 0, 1) := by decide +kernel
theorem dX6_lays_17 : decode cX6_lays 17 = .ok (.istore_n 3, 1) := by decide +kernel
theorem dX6_lays_18 : decode cX6_lays 18 = .ok (.iconst 0, 1) := by decide +kernel
theorem dX6_lays_19 : decode cX6_lays 19 = .ok (.istore 4, 2) := by decide +kernel
theorem dX6_lays_21 : decode cX6_lays 21 = .ok (.iload 4, 2) := by decide +kernel
theorem dX6_lays_23 : decode cX6_lays 23 = .ok (.aload_n 0, 1) := by decide +kernel
theorem dX6_lays_24 : decode cX6_lays 24 = .ok (.getfield 34, 3) := by decide +kernel
theorem dX6_lays_27 : decode cX6_lays 27 = .ok (.iload_n 1, 1) := by decide +kernel
theorem dX6_lays_28 : decode cX6_lays 28 = .ok (.iaload, 1) := by decide +kernel
theorem dX6_lays_29 : decode cX6_lays 29 = .ok (.if_icmp .ge 61, 3) := by decide +kernel
theorem dX6_lays_32 : decode cX6_lays 32 = .ok (.iload 4, 2) := by decide +kernel
theorem dX6_lays_34 : decode cX6_lays 34 = .ok (.aload_n 0, 1) := by decide +kernel
theorem dX6_lays_35 : decode cX6_lays 35 = .ok (.getfield 7, 3) := by decide +kernel
theorem dX6_lays_38 : decode cX6_lays 38 = .ok (.iconst 0, 1) := by decide +kernel
theorem dX6_lays_39 : decode cX6_lays 39 = .ok (.iaload, 1) := by decide +kernel
theorem dX6_lays_40 : decode cX6_lays 40 = .ok (.if_icmp .ge 50, 3) := by decide +kernel
theorem dX6_lays_43 : decode cX6_lays 43 = .ok (.aload_n 0, 1) := by decide +kernel
theorem dX6_lays_44 : decode cX6_lays 44 = .ok (.getfield 37, 3) := by decide +kernel
theorem dX6_lays_47 : decode cX6_lays 47 = .ok (.bipush 40, 2) := by decide +kernel
theorem dX6_lays_49 : decode cX6_lays 49 = .ok (.iload_n 1, 1) := by decide +kernel
theorem dX6_lays_50 : decode cX6_lays 50 = .ok (.imul, 1) := by decide +kernel
theorem dX6_lays_51 : decode cX6_lays 51 = .ok (.iload 4, 2) := by decide +kernel
theorem dX6_lays_53 : decode cX6_lays 53 = .ok (.iadd, 1) := by decide +kernel
theorem dX6_lays_54 : decode cX6_lays 54 = .ok (.laload, 1) := by decide +kernel
theorem dX6_lays_55 : decode cX6_lays 55 = .ok (.lstore 5, 2) := by decide +kernel
theorem dX6_lays_57 : decode cX6_lays 57 = .ok (.lload 5, 2) := by decide +kernel
theorem dX6_lays_59 : decode cX6_lays 59 = .ok (.lconst 0, 1) := by decide +kernel
theorem dX6_lays_60 : decode cX6_lays 60 = .ok (.ldc2_w 67, 3) := by decide +kernel
theorem dX6_lays_63 : decode cX6_lays 63 = .ok (.invokestatic 45, 3) := by decide +kernel
theorem dX6_lays_66 : decode cX6_lays 66 = .ok (.ifCond .eq 18, 3) := by decide +kernel
theorem dX6_lays_69 : decode cX6_lays 69 = .ok (.aload_n 0, 1) := by decide +kernel
theorem dX6_lays_70 : decode cX6_lays 70 = .ok (.getfield 7, 3) := by decide +kernel
theorem dX6_lays_73 : decode cX6_lays 73 = .ok (.iconst 2, 1) := by decide +kernel
theorem dX6_lays_74 : decode cX6_lays 74 = .ok (.iload 4, 2) := by decide +kernel
theorem dX6_lays_76 : decode cX6_lays 76 = .ok (.iadd, 1) := by decide +kernel
theorem dX6_lays_77 : decode cX6_lays 77 = .ok (.lload 5, 2) := by decide +kernel
theorem dX6_lays_79 : decode cX6_lays 79 = .ok (.l2i, 1) := by decide +kernel
theorem dX6_lays_80 : decode cX6_lays 80 = .ok (.iastore, 1) := by decide +kernel
theorem dX6_lays_81 : decode cX6_lays 81 = .ok (.iinc 3 1, 3) := by decide +kernel
theorem dX6_lays_84 : decode cX6_lays 84 = .ok (.iinc 4 1, 3) := by decide +kernel
theorem dX6_lays_87 : decode cX6_lays 87 = .ok (.goto (-66), 3) := by decide +kernel
theorem dX6_lays_90 : decode cX6_lays 90 = .ok (.iload_n 3, 1) := by decide +kernel
theorem dX6_lays_91 : decode cX6_lays 91 = .ok (.ireturn, 1) := by decide +kernel
theorem dX6_wrongBook_0 : decode cX6_wrongBook 0 = .ok (.aload_n 0, 1) := by decide +kernel
theorem dX6_wrongBook_1 : decode cX6_wrongBook 1 = .ok (.iload_n 1, 1) := by decide +kernel
theorem dX6_wrongBook_2 : decode cX6_wrongBook 2 = .ok (.invokevirtual 303, 3) := by decide +kernel
theorem dX6_wrongBook_5 : decode cX6_wrongBook 5 = .ok (.istore_n 3, 1) := by decide +kernel
theorem dX6_wrongBook_6 : decode cX6_wrongBook 6 = .ok (.iload_n 3, 1) := by decide +kernel
theorem dX6_wrongBook_7 : decode cX6_wrongBook 7 = .ok (.ifCond .eq 7, 3) := by decide +kernel
theorem dX6_wrongBook_10 : decode cX6_wrongBook 10 = .ok (.iload_n 3, 1) := by decide +kernel
theorem dX6_wrongBook_11 : decode cX6_wrongBook 11 = .ok (.goto 17, 3) := by decide +kernel
theorem dX6_wrongBook_14 : decode cX6_wrongBook 14 = .ok (.aload_n 0, 1) := by decide +kernel
theorem dX6_wrongBook_15 : decode cX6_wrongBook 15 = .ok (.iload_n 2, 1) := by decide +kernel
theorem dX6_wrongBook_16 : decode cX6_wrongBook 16 = .ok (.invokevirtual 124, 3) := by decide +kernel
theorem dX6_wrongBook_19 : decode cX6_wrongBook 19 = .ok (.ifCond .eq 7, 3) := by decide +kernel
theorem dX6_wrongBook_22 : decode cX6_wrongBook 22 = .ok (.iconst 0, 1) := by decide +kernel
theorem dX6_wrongBook_23 : decode cX6_wrongBook 23 = .ok (.goto 5, 3) := by decide +kernel
theorem dX6_wrongBook_26 : decode cX6_wrongBook 26 = .ok (.ldc 44, 2) := by decide +kernel
theorem dX6_wrongBook_28 : decode cX6_wrongBook 28 = .ok (.ireturn, 1) := by decide +kernel
theorem dX6_book_0 : decode cX6_book 0 = .ok (.aload_n 0, 1) := by decide +kernel
theorem dX6_book_1 : decode cX6_book 1 = .ok (.iload_n 1, 1) := by decide +kernel
theorem dX6_book_2 : decode cX6_book 2 = .ok (.iload_n 2, 1) := by decide +kernel
theorem dX6_book_3 : decode cX6_book 3 = .ok (.invokevirtual 310, 3) := by decide +kernel
theorem dX6_book_6 : decode cX6_book 6 = .ok (.istore_n 3, 1) := by decide +kernel
theorem dX6_book_7 : decode cX6_book 7 = .ok (.iload_n 3, 1) := by decide +kernel
theorem dX6_book_8 : decode cX6_book 8 = .ok (.ifCond .eq 9, 3) := by decide +kernel
theorem dX6_book_11 : decode cX6_book 11 = .ok (.aload_n 0, 1) := by decide +kernel
theorem dX6_book_12 : decode cX6_book 12 = .ok (.iload_n 3, 1) := by decide +kernel
theorem dX6_book_13 : decode cX6_book 13 = .ok (.invokevirtual 69, 3) := by decide +kernel
theorem dX6_book_16 : decode cX6_book 16 = .ok (.ireturn, 1) := by decide +kernel
theorem dX6_book_17 : decode cX6_book 17 = .ok (.aload_n 0, 1) := by decide +kernel
theorem dX6_book_18 : decode cX6_book 18 = .ok (.invokevirtual 146, 3) := by decide +kernel
theorem dX6_book_21 : decode cX6_book 21 = .ok (.iconst 0, 1) := by decide +kernel
theorem dX6_book_22 : decode cX6_book 22 = .ok (.istore 4, 2) := by decide +kernel
theorem dX6_book_24 : decode cX6_book 24 = .ok (.iload 4, 2) := by decide +kernel
theorem dX6_book_26 : decode cX6_book 26 = .ok (.aload_n 0, 1) := by decide +kernel
theorem dX6_book_27 : decode cX6_book 27 = .ok (.getfield 34, 3) := by decide +kernel
theorem dX6_book_30 : decode cX6_book 30 = .ok (.iload_n 1, 1) := by decide +kernel
theorem dX6_book_31 : decode cX6_book 31 = .ok (.iaload, 1) := by decide +kernel
theorem dX6_book_32 : decode cX6_book 32 = .ok (.if_icmp .ge 33, 3) := by decide +kernel
theorem dX6_book_35 : decode cX6_book 35 = .ok (.aload_n 0, 1) := by decide +kernel
theorem dX6_book_36 : decode cX6_book 36 = .ok (.getfield 37, 3) := by decide +kernel
theorem dX6_book_39 : decode cX6_book 39 = .ok (.bipush 40, 2) := by decide +kernel
theorem dX6_book_41 : decode cX6_book 41 = .ok (.iload_n 1, 1) := by decide +kernel
theorem dX6_book_42 : decode cX6_book 42 = .ok (.imul, 1) := by decide +kernel
theorem dX6_book_43 : decode cX6_book 43 = .ok (.iload 4, 2) := by decide +kernel
theorem dX6_book_45 : decode cX6_book 45 = .ok (.iadd, 1) := by decide +kernel
theorem dX6_book_46 : decode cX6_book 46 = .ok (.aload_n 0, 1) := by decide +kernel
theorem dX6_book_47 : decode cX6_book 47 = .ok (.iload_n 2, 1) := by decide +kernel
theorem dX6_book_48 : decode cX6_book 48 = .ok (.iconst 1, 1) := by decide +kernel
theorem dX6_book_49 : decode cX6_book 49 = .ok (.invokevirtual 64, 3) := by decide +kernel
theorem dX6_book_52 : decode cX6_book 52 = .ok (.i2l, 1) := by decide +kernel
theorem dX6_book_53 : decode cX6_book 53 = .ok (.lastore, 1) := by decide +kernel
theorem dX6_book_54 : decode cX6_book 54 = .ok (.aload_n 0, 1) := by decide +kernel
theorem dX6_book_55 : decode cX6_book 55 = .ok (.iload_n 2, 1) := by decide +kernel
theorem dX6_book_56 : decode cX6_book 56 = .ok (.invokevirtual 134, 3) := by decide +kernel
theorem dX6_book_59 : decode cX6_book 59 = .ok (.iinc 4 1, 3) := by decide +kernel
theorem dX6_book_62 : decode cX6_book 62 = .ok (.goto (-38), 3) := by decide +kernel
theorem dX6_book_65 : decode cX6_book 65 = .ok (.aload_n 0, 1) := by decide +kernel
theorem dX6_book_66 : decode cX6_book 66 = .ok (.aload_n 0, 1) := by decide +kernel
theorem dX6_book_67 : decode cX6_book 67 = .ok (.getfield 34, 3) := by decide +kernel
theorem dX6_book_70 : decode cX6_book 70 = .ok (.iload_n 1, 1) := by decide +kernel
theorem dX6_book_71 : decode cX6_book 71 = .ok (.iaload, 1) := by decide +kernel
theorem dX6_book_72 : decode cX6_book 72 = .ok (.invokevirtual 149, 3) := by decide +kernel
theorem dX6_book_75 : decode cX6_book 75 = .ok (.ireturn, 1) := by decide +kernel
theorem dX6_isSo_0 : decode cX6_isSo 0 = .ok (.iconst 1, 1) := by decide +kernel
theorem dX6_isSo_1 : decode cX6_isSo 1 = .ok (.istore_n 3, 1) := by decide +kernel
theorem dX6_isSo_2 : decode cX6_isSo 2 = .ok (.iconst 0, 1) := by decide +kernel
theorem dX6_isSo_3 : decode cX6_isSo 3 = .ok (.istore 4, 2) := by decide +kernel
theorem dX6_isSo_5 : decode cX6_isSo 5 = .ok (.iload 4, 2) := by decide +kernel
theorem dX6_isSo_7 : decode cX6_isSo 7 = .ok (.aload_n 0, 1) := by decide +kernel
theorem dX6_isSo_8 : decode cX6_isSo 8 = .ok (.getfield 34, 3) := by decide +kernel
theorem dX6_isSo_11 : decode cX6_isSo 11 = .ok (.iload_n 1, 1) := by decide +kernel
theorem dX6_isSo_12 : decode cX6_isSo 12 = .ok (.iaload, 1) := by decide +kernel
theorem dX6_isSo_13 : decode cX6_isSo 13 = .ok (.if_icmp .ge 47, 3) := by decide +kernel
theorem dX6_isSo_16 : decode cX6_isSo 16 = .ok (.iload_n 3, 1) := by decide +kernel
theorem dX6_isSo_17 : decode cX6_isSo 17 = .ok (.ifCond .eq 43, 3) := by decide +kernel
theorem dX6_isSo_20 : decode cX6_isSo 20 = .ok (.aload_n 0, 1) := by decide +kernel
theorem dX6_isSo_21 : decode cX6_isSo 21 = .ok (.getfield 37, 3) := by decide +kernel
theorem dX6_isSo_24 : decode cX6_isSo 24 = .ok (.bipush 40, 2) := by decide +kernel
theorem dX6_isSo_26 : decode cX6_isSo 26 = .ok (.iload_n 1, 1) := by decide +kernel
theorem dX6_isSo_27 : decode cX6_isSo 27 = .ok (.imul, 1) := by decide +kernel
theorem dX6_isSo_28 : decode cX6_isSo 28 = .ok (.iload 4, 2) := by decide +kernel
theorem dX6_isSo_30 : decode cX6_isSo 30 = .ok (.iadd, 1) := by decide +kernel
theorem dX6_isSo_31 : decode cX6_isSo 31 = .ok (.laload, 1) := by decide +kernel
theorem dX6_isSo_32 : decode cX6_isSo 32 = .ok (.aload_n 0, 1) := by decide +kernel
theorem dX6_isSo_33 : decode cX6_isSo 33 = .ok (.iload_n 2, 1) := by decide +kernel
theorem dX6_isSo_34 : decode cX6_isSo 34 = .ok (.iconst 1, 1) := by decide +kernel
theorem dX6_isSo_35 : decode cX6_isSo 35 = .ok (.invokevirtual 64, 3) := by decide +kernel
theorem dX6_isSo_38 : decode cX6_isSo 38 = .ok (.i2l, 1) := by decide +kernel
theorem dX6_isSo_39 : decode cX6_isSo 39 = .ok (.lcmp, 1) := by decide +kernel
theorem dX6_isSo_40 : decode cX6_isSo 40 = .ok (.ifCond .ne 7, 3) := by decide +kernel
theorem dX6_isSo_43 : decode cX6_isSo 43 = .ok (.iconst 1, 1) := by decide +kernel
theorem dX6_isSo_44 : decode cX6_isSo 44 = .ok (.goto 4, 3) := by decide +kernel
theorem dX6_isSo_47 : decode cX6_isSo 47 = .ok (.iconst 0, 1) := by decide +kernel
theorem dX6_isSo_48 : decode cX6_isSo 48 = .ok (.istore_n 3, 1) := by decide +kernel
theorem dX6_isSo_49 : decode cX6_isSo 49 = .ok (.aload_n 0, 1) := by decide +kernel
theorem dX6_isSo_50 : decode cX6_isSo 50 = .ok (.iload_n 2, 1) := by decide +kernel
theorem dX6_isSo_51 : decode cX6_isSo 51 = .ok (.invokevirtual 134, 3) := by decide +kernel
theorem dX6_isSo_54 : decode cX6_isSo 54 = .ok (.iinc 4 1, 3) := by decide +kernel
theorem dX6_isSo_57 : decode cX6_isSo 57 = .ok (.goto (-52), 3) := by decide +kernel
theorem dX6_isSo_60 : decode cX6_isSo 60 = .ok (.iload_n 3, 1) := by decide +kernel
theorem dX6_isSo_61 : decode cX6_isSo 61 = .ok (.ifCond .eq 7, 3) := by decide +kernel
theorem dX6_isSo_64 : decode cX6_isSo 64 = .ok (.iconst 1, 1) := by decide +kernel
theorem dX6_isSo_65 : decode cX6_isSo 65 = .ok (.goto 4, 3) := by decide +kernel
theorem dX6_isSo_68 : decode cX6_isSo 68 = .ok (.iconst 0, 1) := by decide +kernel
theorem dX6_isSo_69 : decode cX6_isSo 69 = .ok (.ireturn, 1) := by decide +kernel
theorem dX6_read_0 : decode cX6_read 0 = .ok (.aload_n 0, 1) := by decide +kernel
theorem dX6_read_1 : decode cX6_read 1 = .ok (.iload_n 1, 1) := by decide +kernel
theorem dX6_read_2 : decode cX6_read 2 = .ok (.iload_n 2, 1) := by decide +kernel
theorem dX6_read_3 : decode cX6_read 3 = .ok (.invokevirtual 310, 3) := by decide +kernel
theorem dX6_read_6 : decode cX6_read 6 = .ok (.istore_n 3, 1) := by decide +kernel
theorem dX6_read_7 : decode cX6_read 7 = .ok (.iload_n 3, 1) := by decide +kernel
theorem dX6_read_8 : decode cX6_read 8 = .ok (.ifCond .eq 9, 3) := by decide +kernel
theorem dX6_read_11 : decode cX6_read 11 = .ok (.aload_n 0, 1) := by decide +kernel
theorem dX6_read_12 : decode cX6_read 12 = .ok (.iload_n 3, 1) := by decide +kernel
theorem dX6_read_13 : decode cX6_read 13 = .ok (.invokevirtual 69, 3) := by decide +kernel
theorem dX6_read_16 : decode cX6_read 16 = .ok (.ireturn, 1) := by decide +kernel
theorem dX6_read_17 : decode cX6_read 17 = .ok (.aload_n 0, 1) := by decide +kernel
theorem dX6_read_18 : decode cX6_read 18 = .ok (.invokevirtual 146, 3) := by decide +kernel
theorem dX6_read_21 : decode cX6_read 21 = .ok (.iconst 0, 1) := by decide +kernel
theorem dX6_read_22 : decode cX6_read 22 = .ok (.istore 4, 2) := by decide +kernel
theorem dX6_read_24 : decode cX6_read 24 = .ok (.iconst 0, 1) := by decide +kernel
theorem dX6_read_25 : decode cX6_read 25 = .ok (.istore 5, 2) := by decide +kernel
theorem dX6_read_27 : decode cX6_read 27 = .ok (.iload 5, 2) := by decide +kernel
theorem dX6_read_29 : decode cX6_read 29 = .ok (.iconst 4, 1) := by decide +kernel
theorem dX6_read_30 : decode cX6_read 30 = .ok (.aload_n 0, 1) := by decide +kernel
theorem dX6_read_31 : decode cX6_read 31 = .ok (.getfield 7, 3) := by decide +kernel
theorem dX6_read_34 : decode cX6_read 34 = .ok (.iconst 0, 1) := by decide +kernel
theorem dX6_read_35 : decode cX6_read 35 = .ok (.iaload, 1) := by decide +kernel
theorem dX6_read_36 : decode cX6_read 36 = .ok (.imul, 1) := by decide +kernel
theorem dX6_read_37 : decode cX6_read 37 = .ok (.if_icmp .ge 31, 3) := by decide +kernel
theorem dX6_read_40 : decode cX6_read 40 = .ok (.aload_n 0, 1) := by decide +kernel
theorem dX6_read_41 : decode cX6_read 41 = .ok (.iload_n 2, 1) := by decide +kernel
theorem dX6_read_42 : decode cX6_read 42 = .ok (.iload 5, 2) := by decide +kernel
theorem dX6_read_44 : decode cX6_read 44 = .ok (.invokevirtual 127, 3) := by decide +kernel
theorem dX6_read_47 : decode cX6_read 47 = .ok (.iload 4, 2) := by decide +kernel
theorem dX6_read_49 : decode cX6_read 49 = .ok (.aload_n 0, 1) := by decide +kernel
theorem dX6_read_50 : decode cX6_read 50 = .ok (.aload_n 0, 1) := by decide +kernel
theorem dX6_read_51 : decode cX6_read 51 = .ok (.iload_n 1, 1) := by decide +kernel
theorem dX6_read_52 : decode cX6_read 52 = .ok (.iload_n 2, 1) := by decide +kernel
theorem dX6_read_53 : decode cX6_read 53 = .ok (.invokevirtual 313, 3) := by decide +kernel
theorem dX6_read_56 : decode cX6_read 56 = .ok (.invokevirtual 149, 3) := by decide +kernel
theorem dX6_read_59 : decode cX6_read 59 = .ok (.iadd, 1) := by decide +kernel
theorem dX6_read_60 : decode cX6_read 60 = .ok (.istore 4, 2) := by decide +kernel
theorem dX6_read_62 : decode cX6_read 62 = .ok (.iinc 5 1, 3) := by decide +kernel
theorem dX6_read_65 : decode cX6_read 65 = .ok (.goto (-38), 3) := by decide +kernel
theorem dX6_read_68 : decode cX6_read 68 = .ok (.iload 4, 2) := by decide +kernel
theorem dX6_read_70 : decode cX6_read 70 = .ok (.ireturn, 1) := by decide +kernel
theorem dX6_image_0 : decode cX6_image 0 = .ok (.iconst 0, 1) := by decide +kernel
theorem dX6_image_1 : decode cX6_image 1 = .ok (.istore_n 1, 1) := by decide +kernel
theorem dX6_image_2 : decode cX6_image 2 = .ok (.iload_n 1, 1) := by decide +kernel
theorem dX6_image_3 : decode cX6_image 3 = .ok (.bipush 112, 2) := by decide +kernel
theorem dX6_image_5 : decode cX6_image 5 = .ok (.if_icmp .ge 21, 3) := by decide +kernel
theorem dX6_image_8 : decode cX6_image 8 = .ok (.aload_n 0, 1) := by decide +kernel
theorem dX6_image_9 : decode cX6_image 9 = .ok (.getfield 13, 3) := by decide +kernel
theorem dX6_image_12 : decode cX6_image 12 = .ok (.iload_n 1, 1) := by decide +kernel
theorem dX6_image_13 : decode cX6_image 13 = .ok (.aload_n 0, 1) := by decide +kernel
theorem dX6_image_14 : decode cX6_image 14 = .ok (.getfield 7, 3) := by decide +kernel
theorem dX6_image_17 : decode cX6_image 17 = .ok (.iload_n 1, 1) := by decide +kernel
theorem dX6_image_18 : decode cX6_image 18 = .ok (.iaload, 1) := by decide +kernel
theorem dX6_image_19 : decode cX6_image 19 = .ok (.iastore, 1) := by decide +kernel
theorem dX6_image_20 : decode cX6_image 20 = .ok (.iinc 1 1, 3) := by decide +kernel
theorem dX6_image_23 : decode cX6_image 23 = .ok (.goto (-21), 3) := by decide +kernel
theorem dX6_image_26 : decode cX6_image 26 = .ok (.aload_n 0, 1) := by decide +kernel
theorem dX6_image_27 : decode cX6_image 27 = .ok (.iconst 1, 1) := by decide +kernel
theorem dX6_image_28 : decode cX6_image 28 = .ok (.putfield 316, 3) := by decide +kernel
theorem dX6_image_31 : decode cX6_image 31 = .ok (.iconst 1, 1) := by decide +kernel
theorem dX6_image_32 : decode cX6_image 32 = .ok (.ireturn, 1) := by decide +kernel
theorem dX6_undo_0 : decode cX6_undo 0 = .ok (.aload_n 0, 1) := by decide +kernel
theorem dX6_undo_1 : decode cX6_undo 1 = .ok (.getfield 316, 3) := by decide +kernel
theorem dX6_undo_4 : decode cX6_undo 4 = .ok (.ifCond .ne 10, 3) := by decide +kernel
theorem dX6_undo_7 : decode cX6_undo 7 = .ok (.aload_n 0, 1) := by decide +kernel
theorem dX6_undo_8 : decode cX6_undo 8 = .ok (.ldc 101, 2) := by decide +kernel
theorem dX6_undo_10 : decode cX6_undo 10 = .ok (.invokevirtual 69, 3) := by decide +kernel
theorem dX6_undo_13 : decode cX6_undo 13 = .ok (.ireturn, 1) := by decide +kernel
theorem dX6_undo_14 : decode cX6_undo 14 = .ok (.iconst 0, 1) := by decide +kernel
theorem dX6_undo_15 : decode cX6_undo 15 = .ok (.istore_n 1, 1) := by decide +kernel
theorem dX6_undo_16 : decode cX6_undo 16 = .ok (.iload_n 1, 1) := by decide +kernel
theorem dX6_undo_17 : decode cX6_undo 17 = .ok (.bipush 112, 2) := by decide +kernel
theorem dX6_undo_19 : decode cX6_undo 19 = .ok (.if_icmp .ge 21, 3) := by decide +kernel
theorem dX6_undo_22 : decode cX6_undo 22 = .ok (.aload_n 0, 1) := by decide +kernel
theorem dX6_undo_23 : decode cX6_undo 23 = .ok (.getfield 7, 3) := by decide +kernel
theorem dX6_undo_26 : decode cX6_undo 26 = .ok (.iload_n 1, 1) := by decide +kernel
theorem dX6_undo_27 : decode cX6_undo 27 = .ok (.aload_n 0, 1) := by decide +kernel
theorem dX6_undo_28 : decode cX6_undo 28 = .ok (.getfield 13, 3) := by decide +kernel
theorem dX6_undo_31 : decode cX6_undo 31 = .ok (.iload_n 1, 1) := by decide +kernel
theorem dX6_undo_32 : decode cX6_undo 32 = .ok (.iaload, 1) := by decide +kernel
theorem dX6_undo_33 : decode cX6_undo 33 = .ok (.iastore, 1) := by decide +kernel
theorem dX6_undo_34 : decode cX6_undo 34 = .ok (.iinc 1 1, 3) := by decide +kernel
theorem dX6_undo_37 : decode cX6_undo 37 = .ok (.goto (-21), 3) := by decide +kernel
theorem dX6_undo_40 : decode cX6_undo 40 = .ok (.aload_n 0, 1) := by decide +kernel
theorem dX6_undo_41 : decode cX6_undo 41 = .ok (.getfield 7, 3) := by decide +kernel
theorem dX6_undo_44 : decode cX6_undo 44 = .ok (.iconst 0, 1) := by decide +kernel
theorem dX6_undo_45 : decode cX6_undo 45 = .ok (.iaload, 1) := by decide +kernel
theorem dX6_undo_46 : decode cX6_undo 46 = .ok (.ireturn, 1) := by decide +kernel
theorem dX6_tear_0 : decode cX6_tear 0 = .ok (.aload_n 0, 1) := by decide +kernel
theorem dX6_tear_1 : decode cX6_tear 1 = .ok (.getfield 316, 3) := by decide +kernel
theorem dX6_tear_4 : decode cX6_tear 4 = .ok (.ifCond .eq 7, 3) := by decide +kernel
theorem dX6_tear_7 : decode cX6_tear 7 = .ok (.iconst 1, 1) := by decide +kernel
theorem dX6_tear_8 : decode cX6_tear 8 = .ok (.goto 4, 3) := by decide +kernel
theorem dX6_tear_11 : decode cX6_tear 11 = .ok (.iconst 0, 1) := by decide +kernel
theorem dX6_tear_12 : decode cX6_tear 12 = .ok (.istore_n 1, 1) := by decide +kernel
theorem dX6_tear_13 : decode cX6_tear 13 = .ok (.aload_n 0, 1) := by decide +kernel
theorem dX6_tear_14 : decode cX6_tear 14 = .ok (.iconst 0, 1) := by decide +kernel
theorem dX6_tear_15 : decode cX6_tear 15 = .ok (.putfield 316, 3) := by decide +kernel
theorem dX6_tear_18 : decode cX6_tear 18 = .ok (.iload_n 1, 1) := by decide +kernel
theorem dX6_tear_19 : decode cX6_tear 19 = .ok (.ireturn, 1) := by decide +kernel
theorem dX6_gluedSides_0 : decode cX6_gluedSides 0 = .ok (.iconst 0, 1) := by decide +kernel
theorem dX6_gluedSides_1 : decode cX6_gluedSides 1 = .ok (.istore_n 1, 1) := by decide +kernel
theorem dX6_gluedSides_2 : decode cX6_gluedSides 2 = .ok (.iconst 0, 1) := by decide +kernel
theorem dX6_gluedSides_3 : decode cX6_gluedSides 3 = .ok (.istore_n 2, 1) := by decide +kernel
theorem dX6_gluedSides_4 : decode cX6_gluedSides 4 = .ok (.iload_n 2, 1) := by decide +kernel
theorem dX6_gluedSides_5 : decode cX6_gluedSides 5 = .ok (.bipush 64, 2) := by decide +kernel
theorem dX6_gluedSides_7 : decode cX6_gluedSides 7 = .ok (.if_icmp .ge 29, 3) := by decide +kernel
theorem dX6_gluedSides_10 : decode cX6_gluedSides 10 = .ok (.iload_n 1, 1) := by decide +kernel
theorem dX6_gluedSides_11 : decode cX6_gluedSides 11 = .ok (.aload_n 0, 1) := by decide +kernel
theorem dX6_gluedSides_12 : decode cX6_gluedSides 12 = .ok (.getfield 7, 3) := by decide +kernel
theorem dX6_gluedSides_15 : decode cX6_gluedSides 15 = .ok (.bipush 18, 2) := by decide +kernel
theorem dX6_gluedSides_17 : decode cX6_gluedSides 17 = .ok (.iload_n 2, 1) := by decide +kernel
theorem dX6_gluedSides_18 : decode cX6_gluedSides 18 = .ok (.iadd, 1) := by decide +kernel
theorem dX6_gluedSides_19 : decode cX6_gluedSides 19 = .ok (.iaload, 1) := by decide +kernel
theorem dX6_gluedSides_20 : decode cX6_gluedSides 20 = .ok (.ifCond .le 7, 3) := by decide +kernel
theorem dX6_gluedSides_23 : decode cX6_gluedSides 23 = .ok (.iconst 1, 1) := by decide +kernel
theorem dX6_gluedSides_24 : decode cX6_gluedSides 24 = .ok (.goto 4, 3) := by decide +kernel
theorem dX6_gluedSides_27 : decode cX6_gluedSides 27 = .ok (.iconst 0, 1) := by decide +kernel
theorem dX6_gluedSides_28 : decode cX6_gluedSides 28 = .ok (.iadd, 1) := by decide +kernel
theorem dX6_gluedSides_29 : decode cX6_gluedSides 29 = .ok (.istore_n 1, 1) := by decide +kernel
theorem dX6_gluedSides_30 : decode cX6_gluedSides 30 = .ok (.iinc 2 1, 3) := by decide +kernel
theorem dX6_gluedSides_33 : decode cX6_gluedSides 33 = .ok (.goto (-29), 3) := by decide +kernel
theorem dX6_gluedSides_36 : decode cX6_gluedSides 36 = .ok (.iload_n 1, 1) := by decide +kernel
theorem dX6_gluedSides_37 : decode cX6_gluedSides 37 = .ok (.ireturn, 1) := by decide +kernel
theorem dX6_count_0 : decode cX6_count 0 = .ok (.iload_n 1, 1) := by decide +kernel
theorem dX6_count_1 : decode cX6_count 1 = .ok (.tableswitch 64 0 4 #[35, 42, 49, 54, 59], 35) := by decide +kernel
theorem dX6_count_36 : decode cX6_count 36 = .ok (.aload_n 0, 1) := by decide +kernel
theorem dX6_count_37 : decode cX6_count 37 = .ok (.getfield 7, 3) := by decide +kernel
theorem dX6_count_40 : decode cX6_count 40 = .ok (.iconst 0, 1) := by decide +kernel
theorem dX6_count_41 : decode cX6_count 41 = .ok (.iaload, 1) := by decide +kernel
theorem dX6_count_42 : decode cX6_count 42 = .ok (.ireturn, 1) := by decide +kernel
theorem dX6_count_43 : decode cX6_count 43 = .ok (.aload_n 0, 1) := by decide +kernel
theorem dX6_count_44 : decode cX6_count 44 = .ok (.getfield 7, 3) := by decide +kernel
theorem dX6_count_47 : decode cX6_count 47 = .ok (.iconst 1, 1) := by decide +kernel
theorem dX6_count_48 : decode cX6_count 48 = .ok (.iaload, 1) := by decide +kernel
theorem dX6_count_49 : decode cX6_count 49 = .ok (.ireturn, 1) := by decide +kernel
theorem dX6_count_50 : decode cX6_count 50 = .ok (.aload_n 0, 1) := by decide +kernel
theorem dX6_count_51 : decode cX6_count 51 = .ok (.getfield 182, 3) := by decide +kernel
theorem dX6_count_54 : decode cX6_count 54 = .ok (.ireturn, 1) := by decide +kernel
theorem dX6_count_55 : decode cX6_count 55 = .ok (.aload_n 0, 1) := by decide +kernel
theorem dX6_count_56 : decode cX6_count 56 = .ok (.invokevirtual 319, 3) := by decide +kernel
theorem dX6_count_59 : decode cX6_count 59 = .ok (.ireturn, 1) := by decide +kernel
theorem dX6_count_60 : decode cX6_count 60 = .ok (.aload_n 0, 1) := by decide +kernel
theorem dX6_count_61 : decode cX6_count 61 = .ok (.invokevirtual 142, 3) := by decide +kernel
theorem dX6_count_64 : decode cX6_count 64 = .ok (.ireturn, 1) := by decide +kernel
theorem dX6_count_65 : decode cX6_count 65 = .ok (.aload_n 0, 1) := by decide +kernel
theorem dX6_count_66 : decode cX6_count 66 = .ok (.ldc 44, 2) := by decide +kernel
theorem dX6_count_68 : decode cX6_count 68 = .ok (.invokevirtual 69, 3) := by decide +kernel
theorem dX6_count_71 : decode cX6_count 71 = .ok (.ireturn, 1) := by decide +kernel
theorem dX6_status_0 : decode cX6_status 0 = .ok (.iload_n 1, 1) := by decide +kernel
theorem dX6_status_1 : decode cX6_status 1 = .ok (.i2l, 1) := by decide +kernel
theorem dX6_status_2 : decode cX6_status 2 = .ok (.ldc2_w 322, 3) := by decide +kernel
theorem dX6_status_5 : decode cX6_status 5 = .ok (.ldc2_w 324, 3) := by decide +kernel
theorem dX6_status_8 : decode cX6_status 8 = .ok (.invokestatic 45, 3) := by decide +kernel
theorem dX6_status_11 : decode cX6_status 11 = .ok (.ifCond .ne 10, 3) := by decide +kernel
theorem dX6_status_14 : decode cX6_status 14 = .ok (.aload_n 0, 1) := by decide +kernel
theorem dX6_status_15 : decode cX6_status 15 = .ok (.ldc 44, 2) := by decide +kernel
theorem dX6_status_17 : decode cX6_status 17 = .ok (.invokevirtual 69, 3) := by decide +kernel
theorem dX6_status_20 : decode cX6_status 20 = .ok (.ireturn, 1) := by decide +kernel
theorem dX6_status_21 : decode cX6_status 21 = .ok (.iconst 0, 1) := by decide +kernel
theorem dX6_status_22 : decode cX6_status 22 = .ok (.istore_n 2, 1) := by decide +kernel
theorem dX6_status_23 : decode cX6_status 23 = .ok (.iconst 0, 1) := by decide +kernel
theorem dX6_status_24 : decode cX6_status 24 = .ok (.istore_n 3, 1) := by decide +kernel
theorem dX6_status_25 : decode cX6_status 25 = .ok (.iload_n 3, 1) := by decide +kernel
theorem dX6_status_26 : decode cX6_status 26 = .ok (.bipush 7, 2) := by decide +kernel
theorem dX6_status_28 : decode cX6_status 28 = .ok (.if_icmp .ge 31, 3) := by decide +kernel
theorem dX6_status_31 : decode cX6_status 31 = .ok (.iload_n 2, 1) := by decide +kernel
theorem dX6_status_32 : decode cX6_status 32 = .ok (.iload_n 1, 1) := by decide +kernel
theorem dX6_status_33 : decode cX6_status 33 = .ok (.ifCond .lt 8, 3) := by decide +kernel
theorem dX6_status_36 : decode cX6_status 36 = .ok (.iload_n 3, 1) := by decide +kernel
theorem dX6_status_37 : decode cX6_status 37 = .ok (.iload_n 1, 1) := by decide +kernel
theorem dX6_status_38 : decode cX6_status 38 = .ok (.if_icmp .ne 12, 3) := by decide +kernel
theorem dX6_status_41 : decode cX6_status 41 = .ok (.aload_n 0, 1) := by decide +kernel
theorem dX6_status_42 : decode cX6_status 42 = .ok (.getfield 22, 3) := by decide +kernel
theorem dX6_status_45 : decode cX6_status 45 = .ok (.iload_n 3, 1) := by decide +kernel
theorem dX6_status_46 : decode cX6_status 46 = .ok (.iaload, 1) := by decide +kernel
theorem dX6_status_47 : decode cX6_status 47 = .ok (.goto 4, 3) := by decide +kernel
theorem dX6_status_50 : decode cX6_status 50 = .ok (.iconst 0, 1) := by decide +kernel
theorem dX6_status_51 : decode cX6_status 51 = .ok (.iadd, 1) := by decide +kernel
theorem dX6_status_52 : decode cX6_status 52 = .ok (.istore_n 2, 1) := by decide +kernel
theorem dX6_status_53 : decode cX6_status 53 = .ok (.iinc 3 1, 3) := by decide +kernel
theorem dX6_status_56 : decode cX6_status 56 = .ok (.goto (-31), 3) := by decide +kernel
theorem dX6_status_59 : decode cX6_status 59 = .ok (.iload_n 2, 1) := by decide +kernel
theorem dX6_status_60 : decode cX6_status 60 = .ok (.ireturn, 1) := by decide +kernel
