theorem dX5_init_0 : decode cX5_init 0 = .ok (.aload_n 0, 1) := by decide +kernel
theorem dX5_init_1 : decode cX5_init 1 = .ok (.invokespecial 3, 3) := by decide +kernel
theorem dX5_init_4 : decode cX5_init 4 = .ok (.aload_n 0, 1) := by decide +kernel
theorem dX5_init_5 : decode cX5_init 5 = .ok (.new 9, 3) := by decide +kernel
theorem dX5_init_8 : decode cX5_init 8 = .ok (.dup, 1) := by decide +kernel
theorem dX5_init_9 : decode cX5_init 9 = .ok (.invokespecial 11, 3) := by decide +kernel
theorem dX5_init_12 : decode cX5_init 12 = .ok (.putfield 12, 3) := by decide +kernel
theorem dX5_init_15 : decode cX5_init 15 = .ok (.aload_n 0, 1) := by decide +kernel
theorem dX5_init_16 : decode cX5_init 16 = .ok (.new 9, 3) := by decide +kernel
theorem dX5_init_19 : decode cX5_init 19 = .ok (.dup, 1) := by decide +kernel
theorem dX5_init_20 : decode cX5_init 20 = .ok (.invokespecial 11, 3) := by decide +kernel
theorem dX5_init_23 : decode cX5_init 23 = .ok (.putfield 16, 3) := by decide +kernel
theorem dX5_init_26 : decode cX5_init 26 = .ok (.aload_n 0, 1) := by decide +kernel
theorem dX5_init_27 : decode cX5_init 27 = .ok (.new 9, 3) := by decide +kernel
theorem dX5_init_30 : decode cX5_init 30 = .ok (.dup, 1) := by decide +kernel
theorem dX5_init_31 : decode cX5_init 31 = .ok (.invokespecial 11, 3) := by decide +kernel
theorem dX5_init_34 : decode cX5_init 34 = .ok (.putfield 19, 3) := by decide +kernel
theorem dX5_init_37 : decode cX5_init 37 = .ok (.aload_n 0, 1) := by decide +kernel
theorem dX5_init_38 : decode cX5_init 38 = .ok (.new 22, 3) := by decide +kernel
theorem dX5_init_41 : decode cX5_init 41 = .ok (.dup, 1) := by decide +kernel
theorem dX5_init_42 : decode cX5_init 42 = .ok (.invokespecial 24, 3) := by decide +kernel
theorem dX5_init_45 : decode cX5_init 45 = .ok (.putfield 25, 3) := by decide +kernel
theorem dX5_init_48 : decode cX5_init 48 = .ok (.aload_n 0, 1) := by decide +kernel
theorem dX5_init_49 : decode cX5_init 49 = .ok (.new 22, 3) := by decide +kernel
theorem dX5_init_52 : decode cX5_init 52 = .ok (.dup, 1) := by decide +kernel
theorem dX5_init_53 : decode cX5_init 53 = .ok (.invokespecial 24, 3) := by decide +kernel
theorem dX5_init_56 : decode cX5_init 56 = .ok (.putfield 29, 3) := by decide +kernel
theorem dX5_init_59 : decode cX5_init 59 = .ok (.aload_n 0, 1) := by decide +kernel
theorem dX5_init_60 : decode cX5_init 60 = .ok (.bipush 16, 2) := by decide +kernel
theorem dX5_init_62 : decode cX5_init 62 = .ok (.newarray .int, 2) := by decide +kernel
theorem dX5_init_64 : decode cX5_init 64 = .ok (.putfield 32, 3) := by decide +kernel
theorem dX5_init_67 : decode cX5_init 67 = .ok (.aload_n 0, 1) := by decide +kernel
theorem dX5_init_68 : decode cX5_init 68 = .ok (.bipush 16, 2) := by decide +kernel
theorem dX5_init_70 : decode cX5_init 70 = .ok (.newarray .int, 2) := by decide +kernel
theorem dX5_init_72 : decode cX5_init 72 = .ok (.putfield 36, 3) := by decide +kernel
theorem dX5_init_75 : decode cX5_init 75 = .ok (.aload_n 0, 1) := by decide +kernel
theorem dX5_init_76 : decode cX5_init 76 = .ok (.bipush 64, 2) := by decide +kernel
theorem dX5_init_78 : decode cX5_init 78 = .ok (.newarray .int, 2) := by decide +kernel
theorem dX5_init_80 : decode cX5_init 80 = .ok (.putfield 39, 3) := by decide +kernel
theorem dX5_init_83 : decode cX5_init 83 = .ok (.aload_n 0, 1) := by decide +kernel
theorem dX5_init_84 : decode cX5_init 84 = .ok (.new 42, 3) := by decide +kernel
theorem dX5_init_87 : decode cX5_init 87 = .ok (.dup, 1) := by decide +kernel
theorem dX5_init_88 : decode cX5_init 88 = .ok (.invokespecial 44, 3) := by decide +kernel
theorem dX5_init_91 : decode cX5_init 91 = .ok (.putfield 45, 3) := by decide +kernel
theorem dX5_init_94 : decode cX5_init 94 = .ok (.aload_n 0, 1) := by decide +kernel
theorem dX5_init_95 : decode cX5_init 95 = .ok (.iconst 4, 1) := by decide +kernel
theorem dX5_init_96 : decode cX5_init 96 = .ok (.anewarray 49, 3) := by decide +kernel
theorem dX5_init_99 : decode cX5_init 99 = .ok (.putfield 51, 3) := by decide +kernel
theorem dX5_init_102 : decode cX5_init 102 = .ok (.aload_n 0, 1) := by decide +kernel
theorem dX5_init_103 : decode cX5_init 103 = .ok (.bipush 7, 2) := by decide +kernel
theorem dX5_init_105 : decode cX5_init 105 = .ok (.newarray .int, 2) := by decide +kernel
theorem dX5_init_107 : decode cX5_init 107 = .ok (.putfield 55, 3) := by decide +kernel
theorem dX5_init_110 : decode cX5_init 110 = .ok (.iconst 0, 1) := by decide +kernel
theorem dX5_init_111 : decode cX5_init 111 = .ok (.istore_n 1, 1) := by decide +kernel
theorem dX5_init_112 : decode cX5_init 112 = .ok (.iload_n 1, 1) := by decide +kernel
theorem dX5_init_113 : decode cX5_init 113 = .ok (.iconst 4, 1) := by decide +kernel
theorem dX5_init_114 : decode cX5_init 114 = .ok (.if_icmp .ge 22, 3) := by decide +kernel
theorem dX5_init_117 : decode cX5_init 117 = .ok (.aload_n 0, 1) := by decide +kernel
theorem dX5_init_118 : decode cX5_init 118 = .ok (.getfield 51, 3) := by decide +kernel
theorem dX5_init_121 : decode cX5_init 121 = .ok (.iload_n 1, 1) := by decide +kernel
theorem dX5_init_122 : decode cX5_init 122 = .ok (.new 49, 3) := by decide +kernel
theorem dX5_init_125 : decode cX5_init 125 = .ok (.dup, 1) := by decide +kernel
theorem dX5_init_126 : decode cX5_init 126 = .ok (.invokespecial 58, 3) := by decide +kernel
theorem dX5_init_129 : decode cX5_init 129 = .ok (.aastore, 1) := by decide +kernel
theorem dX5_init_130 : decode cX5_init 130 = .ok (.iinc 1 1, 3) := by decide +kernel
theorem dX5_init_133 : decode cX5_init 133 = .ok (.goto (-21), 3) := by decide +kernel
theorem dX5_init_136 : decode cX5_init 136 = .ok (.return_, 1) := by decide +kernel
theorem dX5_field_0 : decode cX5_field 0 = .ok (.iload_n 1, 1) := by decide +kernel
theorem dX5_field_1 : decode cX5_field 1 = .ok (.invokestatic 59, 3) := by decide +kernel
theorem dX5_field_4 : decode cX5_field 4 = .ok (.ifCond .ne 10, 3) := by decide +kernel
theorem dX5_field_7 : decode cX5_field 7 = .ok (.aload_n 0, 1) := by decide +kernel
theorem dX5_field_8 : decode cX5_field 8 = .ok (.ldc 63, 2) := by decide +kernel
theorem dX5_field_10 : decode cX5_field 10 = .ok (.invokevirtual 64, 3) := by decide +kernel
theorem dX5_field_13 : decode cX5_field 13 = .ok (.ireturn, 1) := by decide +kernel
theorem dX5_field_14 : decode cX5_field 14 = .ok (.aload_n 0, 1) := by decide +kernel
theorem dX5_field_15 : decode cX5_field 15 = .ok (.getfield 12, 3) := by decide +kernel
theorem dX5_field_18 : decode cX5_field 18 = .ok (.getfield 68, 3) := by decide +kernel
theorem dX5_field_21 : decode cX5_field 21 = .ok (.bipush 16, 2) := by decide +kernel
theorem dX5_field_23 : decode cX5_field 23 = .ok (.if_icmp .lt 10, 3) := by decide +kernel
theorem dX5_field_26 : decode cX5_field 26 = .ok (.aload_n 0, 1) := by decide +kernel
theorem dX5_field_27 : decode cX5_field 27 = .ok (.ldc 72, 2) := by decide +kernel
theorem dX5_field_29 : decode cX5_field 29 = .ok (.invokevirtual 64, 3) := by decide +kernel
theorem dX5_field_32 : decode cX5_field 32 = .ok (.ireturn, 1) := by decide +kernel
theorem dX5_field_33 : decode cX5_field 33 = .ok (.aload_n 0, 1) := by decide +kernel
theorem dX5_field_34 : decode cX5_field 34 = .ok (.getfield 12, 3) := by decide +kernel
theorem dX5_field_37 : decode cX5_field 37 = .ok (.iload_n 1, 1) := by decide +kernel
theorem dX5_field_38 : decode cX5_field 38 = .ok (.invokevirtual 73, 3) := by decide +kernel
theorem dX5_field_41 : decode cX5_field 41 = .ok (.ireturn, 1) := by decide +kernel
theorem dX5_of_0 : decode cX5_of 0 = .ok (.aload_n 0, 1) := by decide +kernel
theorem dX5_of_1 : decode cX5_of 1 = .ok (.getfield 12, 3) := by decide +kernel
theorem dX5_of_4 : decode cX5_of 4 = .ok (.iload_n 1, 1) := by decide +kernel
theorem dX5_of_5 : decode cX5_of 5 = .ok (.invokevirtual 76, 3) := by decide +kernel
theorem dX5_of_8 : decode cX5_of 8 = .ok (.ifCond .ne 10, 3) := by decide +kernel
theorem dX5_of_11 : decode cX5_of 11 = .ok (.aload_n 0, 1) := by decide +kernel
theorem dX5_of_12 : decode cX5_of 12 = .ok (.ldc 63, 2) := by decide +kernel
theorem dX5_of_14 : decode cX5_of 14 = .ok (.invokevirtual 64, 3) := by decide +kernel
theorem dX5_of_17 : decode cX5_of 17 = .ok (.ireturn, 1) := by decide +kernel
theorem dX5_of_18 : decode cX5_of 18 = .ok (.iload_n 2, 1) := by decide +kernel
theorem dX5_of_19 : decode cX5_of 19 = .ok (.tableswitch 52 0 2 #[25, 34, 43], 25) := by decide +kernel
theorem dX5_of_44 : decode cX5_of 44 = .ok (.aload_n 0, 1) := by decide +kernel
theorem dX5_of_45 : decode cX5_of 45 = .ok (.getfield 12, 3) := by decide +kernel
theorem dX5_of_48 : decode cX5_of 48 = .ok (.iload_n 1, 1) := by decide +kernel
theorem dX5_of_49 : decode cX5_of 49 = .ok (.invokevirtual 79, 3) := by decide +kernel
theorem dX5_of_52 : decode cX5_of 52 = .ok (.ireturn, 1) := by decide +kernel
theorem dX5_of_53 : decode cX5_of 53 = .ok (.aload_n 0, 1) := by decide +kernel
theorem dX5_of_54 : decode cX5_of 54 = .ok (.getfield 12, 3) := by decide +kernel
theorem dX5_of_57 : decode cX5_of 57 = .ok (.iload_n 1, 1) := by decide +kernel
theorem dX5_of_58 : decode cX5_of 58 = .ok (.invokevirtual 82, 3) := by decide +kernel
theorem dX5_of_61 : decode cX5_of 61 = .ok (.ireturn, 1) := by decide +kernel
theorem dX5_of_62 : decode cX5_of 62 = .ok (.aload_n 0, 1) := by decide +kernel
theorem dX5_of_63 : decode cX5_of 63 = .ok (.getfield 12, 3) := by decide +kernel
theorem dX5_of_66 : decode cX5_of 66 = .ok (.iload_n 1, 1) := by decide +kernel
theorem dX5_of_67 : decode cX5_of 67 = .ok (.invokevirtual 85, 3) := by decide +kernel
theorem dX5_of_70 : decode cX5_of 70 = .ok (.ireturn, 1) := by decide +kernel
theorem dX5_of_71 : decode cX5_of 71 = .ok (.aload_n 0, 1) := by decide +kernel
theorem dX5_of_72 : decode cX5_of 72 = .ok (.ldc 63, 2) := by decide +kernel
theorem dX5_of_74 : decode cX5_of 74 = .ok (.invokevirtual 64, 3) := by decide +kernel
theorem dX5_of_77 : decode cX5_of 77 = .ok (.ireturn, 1) := by decide +kernel
theorem dX5_rough_0 : decode cX5_rough 0 = .ok (.aload_n 0, 1) := by decide +kernel
theorem dX5_rough_1 : decode cX5_rough 1 = .ok (.getfield 12, 3) := by decide +kernel
theorem dX5_rough_4 : decode cX5_rough 4 = .ok (.iload_n 1, 1) := by decide +kernel
theorem dX5_rough_5 : decode cX5_rough 5 = .ok (.invokevirtual 76, 3) := by decide +kernel
theorem dX5_rough_8 : decode cX5_rough 8 = .ok (.ifCond .eq 10, 3) := by decide +kernel
theorem dX5_rough_11 : decode cX5_rough 11 = .ok (.iload_n 2, 1) := by decide +kernel
theorem dX5_rough_12 : decode cX5_rough 12 = .ok (.invokestatic 59, 3) := by decide +kernel
theorem dX5_rough_15 : decode cX5_rough 15 = .ok (.ifCond .ne 10, 3) := by decide +kernel
theorem dX5_rough_18 : decode cX5_rough 18 = .ok (.aload_n 0, 1) := by decide +kernel
theorem dX5_rough_19 : decode cX5_rough 19 = .ok (.ldc 63, 2) := by decide +kernel
theorem dX5_rough_21 : decode cX5_rough 21 = .ok (.invokevirtual 64, 3) := by decide +kernel
theorem dX5_rough_24 : decode cX5_rough 24 = .ok (.ireturn, 1) := by decide +kernel
theorem dX5_rough_25 : decode cX5_rough 25 = .ok (.aload_n 0, 1) := by decide +kernel
theorem dX5_rough_26 : decode cX5_rough 26 = .ok (.getfield 12, 3) := by decide +kernel
theorem dX5_rough_29 : decode cX5_rough 29 = .ok (.iload_n 1, 1) := by decide +kernel
theorem dX5_rough_30 : decode cX5_rough 30 = .ok (.invokevirtual 79, 3) := by decide +kernel
theorem dX5_rough_33 : decode cX5_rough 33 = .ok (.istore_n 3, 1) := by decide +kernel
theorem dX5_rough_34 : decode cX5_rough 34 = .ok (.aload_n 0, 1) := by decide +kernel
theorem dX5_rough_35 : decode cX5_rough 35 = .ok (.getfield 12, 3) := by decide +kernel
theorem dX5_rough_38 : decode cX5_rough 38 = .ok (.iload_n 1, 1) := by decide +kernel
theorem dX5_rough_39 : decode cX5_rough 39 = .ok (.iload_n 2, 1) := by decide +kernel
theorem dX5_rough_40 : decode cX5_rough 40 = .ok (.invokevirtual 88, 3) := by decide +kernel
theorem dX5_rough_43 : decode cX5_rough 43 = .ok (.iload_n 3, 1) := by decide +kernel
theorem dX5_rough_44 : decode cX5_rough 44 = .ok (.ireturn, 1) := by decide +kernel
theorem dX5_glue_0 : decode cX5_glue 0 = .ok (.aload_n 0, 1) := by decide +kernel
theorem dX5_glue_1 : decode cX5_glue 1 = .ok (.getfield 12, 3) := by decide +kernel
theorem dX5_glue_4 : decode cX5_glue 4 = .ok (.iload_n 1, 1) := by decide +kernel
theorem dX5_glue_5 : decode cX5_glue 5 = .ok (.iload_n 2, 1) := by decide +kernel
theorem dX5_glue_6 : decode cX5_glue 6 = .ok (.invokevirtual 92, 3) := by decide +kernel
theorem dX5_glue_9 : decode cX5_glue 9 = .ok (.ifCond .eq 16, 3) := by decide +kernel
theorem dX5_glue_12 : decode cX5_glue 12 = .ok (.aload_n 0, 1) := by decide +kernel
theorem dX5_glue_13 : decode cX5_glue 13 = .ok (.getfield 12, 3) := by decide +kernel
theorem dX5_glue_16 : decode cX5_glue 16 = .ok (.iload_n 3, 1) := by decide +kernel
theorem dX5_glue_17 : decode cX5_glue 17 = .ok (.iload 4, 2) := by decide +kernel
theorem dX5_glue_19 : decode cX5_glue 19 = .ok (.invokevirtual 92, 3) := by decide +kernel
theorem dX5_glue_22 : decode cX5_glue 22 = .ok (.ifCond .ne 10, 3) := by decide +kernel
theorem dX5_glue_25 : decode cX5_glue 25 = .ok (.aload_n 0, 1) := by decide +kernel
theorem dX5_glue_26 : decode cX5_glue 26 = .ok (.ldc 63, 2) := by decide +kernel
theorem dX5_glue_28 : decode cX5_glue 28 = .ok (.invokevirtual 64, 3) := by decide +kernel
theorem dX5_glue_31 : decode cX5_glue 31 = .ok (.ireturn, 1) := by decide +kernel
theorem dX5_glue_32 : decode cX5_glue 32 = .ok (.iload_n 1, 1) := by decide +kernel
theorem dX5_glue_33 : decode cX5_glue 33 = .ok (.iload_n 2, 1) := by decide +kernel
theorem dX5_glue_34 : decode cX5_glue 34 = .ok (.invokestatic 96, 3) := by decide +kernel
theorem dX5_glue_37 : decode cX5_glue 37 = .ok (.istore 5, 2) := by decide +kernel
theorem dX5_glue_39 : decode cX5_glue 39 = .ok (.iload_n 3, 1) := by decide +kernel
theorem dX5_glue_40 : decode cX5_glue 40 = .ok (.iload 4, 2) := by decide +kernel
theorem dX5_glue_42 : decode cX5_glue 42 = .ok (.invokestatic 96, 3) := by decide +kernel
theorem dX5_glue_45 : decode cX5_glue 45 = .ok (.istore 6, 2) := by decide +kernel
theorem dX5_glue_47 : decode cX5_glue 47 = .ok (.iload 5, 2) := by decide +kernel
theorem dX5_glue_49 : decode cX5_glue 49 = .ok (.iload 6, 2) := by decide +kernel
theorem dX5_glue_51 : decode cX5_glue 51 = .ok (.if_icmp .ne 10, 3) := by decide +kernel
theorem dX5_glue_54 : decode cX5_glue 54 = .ok (.aload_n 0, 1) := by decide +kernel
theorem dX5_glue_55 : decode cX5_glue 55 = .ok (.ldc 63, 2) := by decide +kernel
theorem dX5_glue_57 : decode cX5_glue 57 = .ok (.invokevirtual 64, 3) := by decide +kernel
theorem dX5_glue_60 : decode cX5_glue 60 = .ok (.ireturn, 1) := by decide +kernel
theorem dX5_glue_61 : decode cX5_glue 61 = .ok (.aload_n 0, 1) := by decide +kernel
theorem dX5_glue_62 : decode cX5_glue 62 = .ok (.getfield 12, 3) := by decide +kernel
theorem dX5_glue_65 : decode cX5_glue 65 = .ok (.iload 5, 2) := by decide +kernel
theorem dX5_glue_67 : decode cX5_glue 67 = .ok (.invokevirtual 100, 3) := by decide +kernel
theorem dX5_glue_70 : decode cX5_glue 70 = .ok (.ifCond .eq 15, 3) := by decide +kernel
theorem dX5_glue_73 : decode cX5_glue 73 = .ok (.aload_n 0, 1) := by decide +kernel
theorem dX5_glue_74 : decode cX5_glue 74 = .ok (.getfield 12, 3) := by decide +kernel
theorem dX5_glue_77 : decode cX5_glue 77 = .ok (.iload 6, 2) := by decide +kernel
theorem dX5_glue_79 : decode cX5_glue 79 = .ok (.invokevirtual 100, 3) := by decide +kernel
theorem dX5_glue_82 : decode cX5_glue 82 = .ok (.ifCond .ne 10, 3) := by decide +kernel
theorem dX5_glue_85 : decode cX5_glue 85 = .ok (.aload_n 0, 1) := by decide +kernel
theorem dX5_glue_86 : decode cX5_glue 86 = .ok (.ldc 103, 2) := by decide +kernel
theorem dX5_glue_88 : decode cX5_glue 88 = .ok (.invokevirtual 64, 3) := by decide +kernel
theorem dX5_glue_91 : decode cX5_glue 91 = .ok (.ireturn, 1) := by decide +kernel
theorem dX5_glue_92 : decode cX5_glue 92 = .ok (.aload_n 0, 1) := by decide +kernel
theorem dX5_glue_93 : decode cX5_glue 93 = .ok (.getfield 12, 3) := by decide +kernel
theorem dX5_glue_96 : decode cX5_glue 96 = .ok (.iload 5, 2) := by decide +kernel
theorem dX5_glue_98 : decode cX5_glue 98 = .ok (.iload 6, 2) := by decide +kernel
theorem dX5_glue_100 : decode cX5_glue 100 = .ok (.invokevirtual 104, 3) := by decide +kernel
theorem dX5_glue_103 : decode cX5_glue 103 = .ok (.iconst 1, 1) := by decide +kernel
theorem dX5_glue_104 : decode cX5_glue 104 = .ok (.ireturn, 1) := by decide +kernel
theorem dX5_cut_0 : decode cX5_cut 0 = .ok (.aload_n 0, 1) := by decide +kernel
theorem dX5_cut_1 : decode cX5_cut 1 = .ok (.getfield 12, 3) := by decide +kernel
theorem dX5_cut_4 : decode cX5_cut 4 = .ok (.iload_n 1, 1) := by decide +kernel
theorem dX5_cut_5 : decode cX5_cut 5 = .ok (.iload_n 2, 1) := by decide +kernel
theorem dX5_cut_6 : decode cX5_cut 6 = .ok (.invokevirtual 92, 3) := by decide +kernel
theorem dX5_cut_9 : decode cX5_cut 9 = .ok (.ifCond .ne 10, 3) := by decide +kernel
theorem dX5_cut_12 : decode cX5_cut 12 = .ok (.aload_n 0, 1) := by decide +kernel
theorem dX5_cut_13 : decode cX5_cut 13 = .ok (.ldc 63, 2) := by decide +kernel
theorem dX5_cut_15 : decode cX5_cut 15 = .ok (.invokevirtual 64, 3) := by decide +kernel
theorem dX5_cut_18 : decode cX5_cut 18 = .ok (.ireturn, 1) := by decide +kernel
theorem dX5_cut_19 : decode cX5_cut 19 = .ok (.iload_n 1, 1) := by decide +kernel
theorem dX5_cut_20 : decode cX5_cut 20 = .ok (.iload_n 2, 1) := by decide +kernel
theorem dX5_cut_21 : decode cX5_cut 21 = .ok (.invokestatic 96, 3) := by decide +kernel
theorem dX5_cut_24 : decode cX5_cut 24 = .ok (.istore_n 3, 1) := by decide +kernel
theorem dX5_cut_25 : decode cX5_cut 25 = .ok (.aload_n 0, 1) := by decide +kernel
theorem dX5_cut_26 : decode cX5_cut 26 = .ok (.getfield 12, 3) := by decide +kernel
theorem dX5_cut_29 : decode cX5_cut 29 = .ok (.iload_n 3, 1) := by decide +kernel
theorem dX5_cut_30 : decode cX5_cut 30 = .ok (.invokevirtual 107, 3) := by decide +kernel
theorem dX5_cut_33 : decode cX5_cut 33 = .ok (.istore 4, 2) := by decide +kernel
theorem dX5_cut_35 : decode cX5_cut 35 = .ok (.iload 4, 2) := by decide +kernel
theorem dX5_cut_37 : decode cX5_cut 37 = .ok (.iconst (-1), 1) := by decide +kernel
theorem dX5_cut_38 : decode cX5_cut 38 = .ok (.if_icmp .ne 10, 3) := by decide +kernel
theorem dX5_cut_41 : decode cX5_cut 41 = .ok (.aload_n 0, 1) := by decide +kernel
theorem dX5_cut_42 : decode cX5_cut 42 = .ok (.ldc 103, 2) := by decide +kernel
theorem dX5_cut_44 : decode cX5_cut 44 = .ok (.invokevirtual 64, 3) := by decide +kernel
theorem dX5_cut_47 : decode cX5_cut 47 = .ok (.ireturn, 1) := by decide +kernel
theorem dX5_cut_48 : decode cX5_cut 48 = .ok (.aload_n 0, 1) := by decide +kernel
theorem dX5_cut_49 : decode cX5_cut 49 = .ok (.getfield 12, 3) := by decide +kernel
theorem dX5_cut_52 : decode cX5_cut 52 = .ok (.iload_n 3, 1) := by decide +kernel
theorem dX5_cut_53 : decode cX5_cut 53 = .ok (.invokevirtual 110, 3) := by decide +kernel
theorem dX5_cut_56 : decode cX5_cut 56 = .ok (.iload 4, 2) := by decide +kernel
theorem dX5_cut_58 : decode cX5_cut 58 = .ok (.ireturn, 1) := by decide +kernel
theorem dX5_over_0 : decode cX5_over 0 = .ok (.aload_n 0, 1) := by decide +kernel
theorem dX5_over_1 : decode cX5_over 1 = .ok (.getfield 12, 3) := by decide +kernel
theorem dX5_over_4 : decode cX5_over 4 = .ok (.iload_n 1, 1) := by decide +kernel
theorem dX5_over_5 : decode cX5_over 5 = .ok (.iload_n 2, 1) := by decide +kernel
theorem dX5_over_6 : decode cX5_over 6 = .ok (.invokevirtual 92, 3) := by decide +kernel
theorem dX5_over_9 : decode cX5_over 9 = .ok (.ifCond .ne 10, 3) := by decide +kernel
theorem dX5_over_12 : decode cX5_over 12 = .ok (.aload_n 0, 1) := by decide +kernel
theorem dX5_over_13 : decode cX5_over 13 = .ok (.ldc 63, 2) := by decide +kernel
theorem dX5_over_15 : decode cX5_over 15 = .ok (.invokevirtual 64, 3) := by decide +kernel
theorem dX5_over_18 : decode cX5_over 18 = .ok (.ireturn, 1) := by decide +kernel
theorem dX5_over_19 : decode cX5_over 19 = .ok (.aload_n 0, 1) := by decide +kernel
theorem dX5_over_20 : decode cX5_over 20 = .ok (.aload_n 0, 1) := by decide +kernel
theorem dX5_over_21 : decode cX5_over 21 = .ok (.getfield 12, 3) := by decide +kernel
theorem dX5_over_24 : decode cX5_over 24 = .ok (.iload_n 1, 1) := by decide +kernel
theorem dX5_over_25 : decode cX5_over 25 = .ok (.iload_n 2, 1) := by decide +kernel
theorem dX5_over_26 : decode cX5_over 26 = .ok (.invokestatic 96, 3) := by decide +kernel
theorem dX5_over_29 : decode cX5_over 29 = .ok (.invokevirtual 107, 3) := by decide +kernel
theorem dX5_over_32 : decode cX5_over 32 = .ok (.invokevirtual 114, 3) := by decide +kernel
theorem dX5_over_35 : decode cX5_over 35 = .ok (.ireturn, 1) := by decide +kernel
theorem dX5_walker_0 : decode cX5_walker 0 = .ok (.iload_n 1, 1) := by decide +kernel
theorem dX5_walker_1 : decode cX5_walker 1 = .ok (.invokestatic 117, 3) := by decide +kernel
theorem dX5_walker_4 : decode cX5_walker 4 = .ok (.ifCond .eq 15, 3) := by decide +kernel
theorem dX5_walker_7 : decode cX5_walker 7 = .ok (.aload_n 0, 1) := by decide +kernel
theorem dX5_walker_8 : decode cX5_walker 8 = .ok (.getfield 12, 3) := by decide +kernel
theorem dX5_walker_11 : decode cX5_walker 11 = .ok (.iload_n 2, 1) := by decide +kernel
theorem dX5_walker_12 : decode cX5_walker 12 = .ok (.iload_n 3, 1) := by decide +kernel
theorem dX5_walker_13 : decode cX5_walker 13 = .ok (.invokevirtual 92, 3) := by decide +kernel
theorem dX5_walker_16 : decode cX5_walker 16 = .ok (.ifCond .ne 10, 3) := by decide +kernel
theorem dX5_walker_19 : decode cX5_walker 19 = .ok (.aload_n 0, 1) := by decide +kernel
theorem dX5_walker_20 : decode cX5_walker 20 = .ok (.ldc 63, 2) := by decide +kernel
theorem dX5_walker_22 : decode cX5_walker 22 = .ok (.invokevirtual 64, 3) := by decide +kernel
theorem dX5_walker_25 : decode cX5_walker 25 = .ok (.ireturn, 1) := by decide +kernel
theorem dX5_walker_26 : decode cX5_walker 26 = .ok (.aload_n 0, 1) := by decide +kernel
theorem dX5_walker_27 : decode cX5_walker 27 = .ok (.getfield 12, 3) := by decide +kernel
theorem dX5_walker_30 : decode cX5_walker 30 = .ok (.getfield 120, 3) := by decide +kernel
theorem dX5_walker_33 : decode cX5_walker 33 = .ok (.bipush 6, 2) := by decide +kernel
theorem dX5_walker_35 : decode cX5_walker 35 = .ok (.if_icmp .lt 10, 3) := by decide +kernel
theorem dX5_walker_38 : decode cX5_walker 38 = .ok (.aload_n 0, 1) := by decide +kernel
theorem dX5_walker_39 : decode cX5_walker 39 = .ok (.ldc 72, 2) := by decide +kernel
theorem dX5_walker_41 : decode cX5_walker 41 = .ok (.invokevirtual 64, 3) := by decide +kernel
theorem dX5_walker_44 : decode cX5_walker 44 = .ok (.ireturn, 1) := by decide +kernel
theorem dX5_walker_45 : decode cX5_walker 45 = .ok (.aload_n 0, 1) := by decide +kernel
theorem dX5_walker_46 : decode cX5_walker 46 = .ok (.getfield 12, 3) := by decide +kernel
theorem dX5_walker_49 : decode cX5_walker 49 = .ok (.iload_n 1, 1) := by decide +kernel
theorem dX5_walker_50 : decode cX5_walker 50 = .ok (.iload_n 2, 1) := by decide +kernel
theorem dX5_walker_51 : decode cX5_walker 51 = .ok (.iload_n 3, 1) := by decide +kernel
theorem dX5_walker_52 : decode cX5_walker 52 = .ok (.invokestatic 96, 3) := by decide +kernel
theorem dX5_walker_55 : decode cX5_walker 55 = .ok (.invokevirtual 123, 3) := by decide +kernel
theorem dX5_walker_58 : decode cX5_walker 58 = .ok (.ireturn, 1) := by decide +kernel
theorem dX5_its_0 : decode cX5_its 0 = .ok (.aload_n 0, 1) := by decide +kernel
theorem dX5_its_1 : decode cX5_its 1 = .ok (.getfield 12, 3) := by decide +kernel
theorem dX5_its_4 : decode cX5_its 4 = .ok (.iload_n 1, 1) := by decide +kernel
theorem dX5_its_5 : decode cX5_its 5 = .ok (.invokevirtual 126, 3) := by decide +kernel
theorem dX5_its_8 : decode cX5_its 8 = .ok (.ifCond .ne 10, 3) := by decide +kernel
theorem dX5_its_11 : decode cX5_its 11 = .ok (.aload_n 0, 1) := by decide +kernel
theorem dX5_its_12 : decode cX5_its 12 = .ok (.ldc 63, 2) := by decide +kernel
theorem dX5_its_14 : decode cX5_its 14 = .ok (.invokevirtual 64, 3) := by decide +kernel
theorem dX5_its_17 : decode cX5_its 17 = .ok (.ireturn, 1) := by decide +kernel
theorem dX5_its_18 : decode cX5_its 18 = .ok (.aload_n 0, 1) := by decide +kernel
theorem dX5_its_19 : decode cX5_its 19 = .ok (.getfield 12, 3) := by decide +kernel
theorem dX5_its_22 : decode cX5_its 22 = .ok (.getfield 129, 3) := by decide +kernel
theorem dX5_its_25 : decode cX5_its 25 = .ok (.iload_n 1, 1) := by decide +kernel
theorem dX5_its_26 : decode cX5_its 26 = .ok (.aaload, 1) := by decide +kernel
theorem dX5_its_27 : decode cX5_its 27 = .ok (.astore_n 3, 1) := by decide +kernel
theorem dX5_its_28 : decode cX5_its 28 = .ok (.iload_n 2, 1) := by decide +kernel
theorem dX5_its_29 : decode cX5_its 29 = .ok (.tableswitch 92 0 5 #[39, 44, 52, 60, 65, 70], 39) := by decide +kernel
theorem dX5_its_68 : decode cX5_its 68 = .ok (.aload_n 3, 1) := by decide +kernel
theorem dX5_its_69 : decode cX5_its 69 = .ok (.getfield 133, 3) := by decide +kernel
theorem dX5_its_72 : decode cX5_its 72 = .ok (.ireturn, 1) := by decide +kernel
theorem dX5_its_73 : decode cX5_its 73 = .ok (.aload_n 3, 1) := by decide +kernel
theorem dX5_its_74 : decode cX5_its 74 = .ok (.getfield 136, 3) := by decide +kernel
theorem dX5_its_77 : decode cX5_its 77 = .ok (.invokestatic 139, 3) := by decide +kernel
theorem dX5_its_80 : decode cX5_its 80 = .ok (.ireturn, 1) := by decide +kernel
theorem dX5_its_81 : decode cX5_its 81 = .ok (.aload_n 3, 1) := by decide +kernel
theorem dX5_its_82 : decode cX5_its 82 = .ok (.getfield 136, 3) := by decide +kernel
theorem dX5_its_85 : decode cX5_its 85 = .ok (.invokestatic 142, 3) := by decide +kernel
theorem dX5_its_88 : decode cX5_its 88 = .ok (.ireturn, 1) := by decide +kernel
theorem dX5_its_89 : decode cX5_its 89 = .ok (.aload_n 3, 1) := by decide +kernel
theorem dX5_its_90 : decode cX5_its 90 = .ok (.getfield 145, 3) := by decide +kernel
theorem dX5_its_93 : decode cX5_its 93 = .ok (.ireturn, 1) := by decide +kernel
theorem dX5_its_94 : decode cX5_its 94 = .ok (.aload_n 3, 1) := by decide +kernel
theorem dX5_its_95 : decode cX5_its 95 = .ok (.getfield 148, 3) := by decide +kernel
theorem dX5_its_98 : decode cX5_its 98 = .ok (.ireturn, 1) := by decide +kernel
theorem dX5_its_99 : decode cX5_its 99 = .ok (.aload_n 3, 1) := by decide +kernel
theorem dX5_its_100 : decode cX5_its 100 = .ok (.getfield 133, 3) := by decide +kernel
theorem dX5_its_103 : decode cX5_its 103 = .ok (.aload_n 0, 1) := by decide +kernel
theorem dX5_its_104 : decode cX5_its 104 = .ok (.getfield 12, 3) := by decide +kernel
theorem dX5_its_107 : decode cX5_its 107 = .ok (.aload_n 3, 1) := by decide +kernel
theorem dX5_its_108 : decode cX5_its 108 = .ok (.getfield 136, 3) := by decide +kernel
theorem dX5_its_111 : decode cX5_its 111 = .ok (.invokestatic 139, 3) := by decide +kernel
theorem dX5_its_114 : decode cX5_its 114 = .ok (.invokevirtual 79, 3) := by decide +kernel
theorem dX5_its_117 : decode cX5_its 117 = .ok (.invokestatic 151, 3) := by decide +kernel
theorem dX5_its_120 : decode cX5_its 120 = .ok (.ireturn, 1) := by decide +kernel
theorem dX5_its_121 : decode cX5_its 121 = .ok (.aload_n 0, 1) := by decide +kernel
theorem dX5_its_122 : decode cX5_its 122 = .ok (.ldc 63, 2) := by decide +kernel
theorem dX5_its_124 : decode cX5_its 124 = .ok (.invokevirtual 64, 3) := by decide +kernel
theorem dX5_its_127 : decode cX5_its 127 = .ok (.ireturn, 1) := by decide +kernel
theorem dX5_place_0 : decode cX5_place 0 = .ok (.aload_n 0, 1) := by decide +kernel
theorem dX5_place_1 : decode cX5_place 1 = .ok (.getfield 12, 3) := by decide +kernel
theorem dX5_place_4 : decode cX5_place 4 = .ok (.iload_n 1, 1) := by decide +kernel
theorem dX5_place_5 : decode cX5_place 5 = .ok (.invokevirtual 126, 3) := by decide +kernel
theorem dX5_place_8 : decode cX5_place 8 = .ok (.ifCond .eq 15, 3) := by decide +kernel
theorem dX5_place_11 : decode cX5_place 11 = .ok (.aload_n 0, 1) := by decide +kernel
theorem dX5_place_12 : decode cX5_place 12 = .ok (.getfield 12, 3) := by decide +kernel
theorem dX5_place_15 : decode cX5_place 15 = .ok (.iload_n 2, 1) := by decide +kernel
theorem dX5_place_16 : decode cX5_place 16 = .ok (.iload_n 3, 1) := by decide +kernel
theorem dX5_place_17 : decode cX5_place 17 = .ok (.invokevirtual 92, 3) := by decide +kernel
theorem dX5_place_20 : decode cX5_place 20 = .ok (.ifCond .ne 10, 3) := by decide +kernel
theorem dX5_place_23 : decode cX5_place 23 = .ok (.aload_n 0, 1) := by decide +kernel
theorem dX5_place_24 : decode cX5_place 24 = .ok (.ldc 63, 2) := by decide +kernel
theorem dX5_place_26 : decode cX5_place 26 = .ok (.invokevirtual 64, 3) := by decide +kernel
theorem dX5_place_29 : decode cX5_place 29 = .ok (.ireturn, 1) := by decide +kernel
theorem dX5_place_30 : decode cX5_place 30 = .ok (.aload_n 0, 1) := by decide +kernel
theorem dX5_place_31 : decode cX5_place 31 = .ok (.getfield 12, 3) := by decide +kernel
theorem dX5_place_34 : decode cX5_place 34 = .ok (.getfield 129, 3) := by decide +kernel
theorem dX5_place_37 : decode cX5_place 37 = .ok (.iload_n 1, 1) := by decide +kernel
theorem dX5_place_38 : decode cX5_place 38 = .ok (.aaload, 1) := by decide +kernel
theorem dX5_place_39 : decode cX5_place 39 = .ok (.astore 4, 2) := by decide +kernel
theorem dX5_place_41 : decode cX5_place 41 = .ok (.aload 4, 2) := by decide +kernel
theorem dX5_place_43 : decode cX5_place 43 = .ok (.getfield 136, 3) := by decide +kernel
theorem dX5_place_46 : decode cX5_place 46 = .ok (.istore 5, 2) := by decide +kernel
theorem dX5_place_48 : decode cX5_place 48 = .ok (.aload 4, 2) := by decide +kernel
theorem dX5_place_50 : decode cX5_place 50 = .ok (.iload_n 2, 1) := by decide +kernel
theorem dX5_place_51 : decode cX5_place 51 = .ok (.iload_n 3, 1) := by decide +kernel
theorem dX5_place_52 : decode cX5_place 52 = .ok (.invokestatic 96, 3) := by decide +kernel
theorem dX5_place_55 : decode cX5_place 55 = .ok (.putfield 136, 3) := by decide +kernel
theorem dX5_place_58 : decode cX5_place 58 = .ok (.iload 5, 2) := by decide +kernel
theorem dX5_place_60 : decode cX5_place 60 = .ok (.ireturn, 1) := by decide +kernel
theorem dX5_turn_0 : decode cX5_turn 0 = .ok (.aload_n 0, 1) := by decide +kernel
theorem dX5_turn_1 : decode cX5_turn 1 = .ok (.getfield 12, 3) := by decide +kernel
theorem dX5_turn_4 : decode cX5_turn 4 = .ok (.iload_n 1, 1) := by decide +kernel
theorem dX5_turn_5 : decode cX5_turn 5 = .ok (.invokevirtual 126, 3) := by decide +kernel
theorem dX5_turn_8 : decode cX5_turn 8 = .ok (.ifCond .eq 10, 3) := by decide +kernel
theorem dX5_turn_11 : decode cX5_turn 11 = .ok (.iload_n 2, 1) := by decide +kernel
theorem dX5_turn_12 : decode cX5_turn 12 = .ok (.invokestatic 117, 3) := by decide +kernel
theorem dX5_turn_15 : decode cX5_turn 15 = .ok (.ifCond .ne 10, 3) := by decide +kernel
theorem dX5_turn_18 : decode cX5_turn 18 = .ok (.aload_n 0, 1) := by decide +kernel
theorem dX5_turn_19 : decode cX5_turn 19 = .ok (.ldc 63, 2) := by decide +kernel
theorem dX5_turn_21 : decode cX5_turn 21 = .ok (.invokevirtual 64, 3) := by decide +kernel
theorem dX5_turn_24 : decode cX5_turn 24 = .ok (.ireturn, 1) := by decide +kernel
theorem dX5_turn_25 : decode cX5_turn 25 = .ok (.aload_n 0, 1) := by decide +kernel
theorem dX5_turn_26 : decode cX5_turn 26 = .ok (.getfield 12, 3) := by decide +kernel
theorem dX5_turn_29 : decode cX5_turn 29 = .ok (.getfield 129, 3) := by decide +kernel
theorem dX5_turn_32 : decode cX5_turn 32 = .ok (.iload_n 1, 1) := by decide +kernel
theorem dX5_turn_33 : decode cX5_turn 33 = .ok (.aaload, 1) := by decide +kernel
theorem dX5_turn_34 : decode cX5_turn 34 = .ok (.astore_n 3, 1) := by decide +kernel
theorem dX5_turn_35 : decode cX5_turn 35 = .ok (.aload_n 3, 1) := by decide +kernel
theorem dX5_turn_36 : decode cX5_turn 36 = .ok (.getfield 133, 3) := by decide +kernel
theorem dX5_turn_39 : decode cX5_turn 39 = .ok (.istore 4, 2) := by decide +kernel
theorem dX5_turn_41 : decode cX5_turn 41 = .ok (.aload_n 3, 1) := by decide +kernel
theorem dX5_turn_42 : decode cX5_turn 42 = .ok (.iload_n 2, 1) := by decide +kernel
theorem dX5_turn_43 : decode cX5_turn 43 = .ok (.putfield 133, 3) := by decide +kernel
theorem dX5_turn_46 : decode cX5_turn 46 = .ok (.iload 4, 2) := by decide +kernel
theorem dX5_turn_48 : decode cX5_turn 48 = .ok (.ireturn, 1) := by decide +kernel
theorem dX5_as_0 : decode cX5_as 0 = .ok (.aload_n 0, 1) := by decide +kernel
theorem dX5_as_1 : decode cX5_as 1 = .ok (.getfield 12, 3) := by decide +kernel
theorem dX5_as_4 : decode cX5_as 4 = .ok (.iload_n 1, 1) := by decide +kernel
theorem dX5_as_5 : decode cX5_as 5 = .ok (.invokevirtual 126, 3) := by decide +kernel
theorem dX5_as_8 : decode cX5_as 8 = .ok (.ifCond .eq 10, 3) := by decide +kernel
theorem dX5_as_11 : decode cX5_as 11 = .ok (.iload_n 2, 1) := by decide +kernel
theorem dX5_as_12 : decode cX5_as 12 = .ok (.invokestatic 117, 3) := by decide +kernel
theorem dX5_as_15 : decode cX5_as 15 = .ok (.ifCond .ne 10, 3) := by decide +kernel
theorem dX5_as_18 : decode cX5_as 18 = .ok (.aload_n 0, 1) := by decide +kernel
theorem dX5_as_19 : decode cX5_as 19 = .ok (.ldc 63, 2) := by decide +kernel
theorem dX5_as_21 : decode cX5_as 21 = .ok (.invokevirtual 64, 3) := by decide +kernel
theorem dX5_as_24 : decode cX5_as 24 = .ok (.ireturn, 1) := by decide +kernel
theorem dX5_as_25 : decode cX5_as 25 = .ok (.aload_n 0, 1) := by decide +kernel
theorem dX5_as_26 : decode cX5_as 26 = .ok (.getfield 12, 3) := by decide +kernel
theorem dX5_as_29 : decode cX5_as 29 = .ok (.getfield 129, 3) := by decide +kernel
theorem dX5_as_32 : decode cX5_as 32 = .ok (.iload_n 1, 1) := by decide +kernel
theorem dX5_as_33 : decode cX5_as 33 = .ok (.aaload, 1) := by decide +kernel
theorem dX5_as_34 : decode cX5_as 34 = .ok (.astore_n 3, 1) := by decide +kernel
theorem dX5_as_35 : decode cX5_as 35 = .ok (.aload_n 3, 1) := by decide +kernel
theorem dX5_as_36 : decode cX5_as 36 = .ok (.getfield 133, 3) := by decide +kernel
theorem dX5_as_39 : decode cX5_as 39 = .ok (.iload_n 2, 1) := by decide +kernel
theorem dX5_as_40 : decode cX5_as 40 = .ok (.invokestatic 154, 3) := by decide +kernel
theorem dX5_as_43 : decode cX5_as 43 = .ok (.ifCond .ne 10, 3) := by decide +kernel
theorem dX5_as_46 : decode cX5_as 46 = .ok (.aload_n 0, 1) := by decide +kernel
theorem dX5_as_47 : decode cX5_as 47 = .ok (.ldc 157, 2) := by decide +kernel
theorem dX5_as_49 : decode cX5_as 49 = .ok (.invokevirtual 64, 3) := by decide +kernel
theorem dX5_as_52 : decode cX5_as 52 = .ok (.ireturn, 1) := by decide +kernel
theorem dX5_as_53 : decode cX5_as 53 = .ok (.aload_n 3, 1) := by decide +kernel
theorem dX5_as_54 : decode cX5_as 54 = .ok (.getfield 145, 3) := by decide +kernel
theorem dX5_as_57 : decode cX5_as 57 = .ok (.ireturn, 1) := by decide +kernel
theorem dX5_step_0 : decode cX5_step 0 = .ok (.aload_n 0, 1) := by decide +kernel
theorem dX5_step_1 : decode cX5_step 1 = .ok (.getfield 12, 3) := by decide +kernel
theorem dX5_step_4 : decode cX5_step 4 = .ok (.iload_n 1, 1) := by decide +kernel
theorem dX5_step_5 : decode cX5_step 5 = .ok (.invokevirtual 126, 3) := by decide +kernel
theorem dX5_step_8 : decode cX5_step 8 = .ok (.ifCond .ne 10, 3) := by decide +kernel
theorem dX5_step_11 : decode cX5_step 11 = .ok (.aload_n 0, 1) := by decide +kernel
theorem dX5_step_12 : decode cX5_step 12 = .ok (.ldc 63, 2) := by decide +kernel
theorem dX5_step_14 : decode cX5_step 14 = .ok (.invokevirtual 64, 3) := by decide +kernel
theorem dX5_step_17 : decode cX5_step 17 = .ok (.ireturn, 1) := by decide +kernel
theorem dX5_step_18 : decode cX5_step 18 = .ok (.aload_n 0, 1) := by decide +kernel
theorem dX5_step_19 : decode cX5_step 19 = .ok (.getfield 12, 3) := by decide +kernel
theorem dX5_step_22 : decode cX5_step 22 = .ok (.getfield 129, 3) := by decide +kernel
theorem dX5_step_25 : decode cX5_step 25 = .ok (.iload_n 1, 1) := by decide +kernel
theorem dX5_step_26 : decode cX5_step 26 = .ok (.aaload, 1) := by decide +kernel
theorem dX5_step_27 : decode cX5_step 27 = .ok (.astore_n 2, 1) := by decide +kernel
theorem dX5_step_28 : decode cX5_step 28 = .ok (.aload_n 2, 1) := by decide +kernel
theorem dX5_step_29 : decode cX5_step 29 = .ok (.aload_n 0, 1) := by decide +kernel
theorem dX5_step_30 : decode cX5_step 30 = .ok (.getfield 12, 3) := by decide +kernel
theorem dX5_step_33 : decode cX5_step 33 = .ok (.invokevirtual 158, 3) := by decide +kernel
theorem dX5_step_36 : decode cX5_step 36 = .ok (.aload_n 2, 1) := by decide +kernel
theorem dX5_step_37 : decode cX5_step 37 = .ok (.getfield 136, 3) := by decide +kernel
theorem dX5_step_40 : decode cX5_step 40 = .ok (.invokestatic 139, 3) := by decide +kernel
theorem dX5_step_43 : decode cX5_step 43 = .ok (.ireturn, 1) := by decide +kernel
theorem dX5_steps_0 : decode cX5_steps 0 = .ok (.iload_n 1, 1) := by decide +kernel
theorem dX5_steps_1 : decode cX5_steps 1 = .ok (.iconst 1, 1) := by decide +kernel
theorem dX5_steps_2 : decode cX5_steps 2 = .ok (.if_icmp .lt 9, 3) := by decide +kernel
theorem dX5_steps_5 : decode cX5_steps 5 = .ok (.iload_n 1, 1) := by decide +kernel
theorem dX5_steps_6 : decode cX5_steps 6 = .ok (.bipush 100, 2) := by decide +kernel
theorem dX5_steps_8 : decode cX5_steps 8 = .ok (.if_icmp .le 10, 3) := by decide +kernel
theorem dX5_steps_11 : decode cX5_steps 11 = .ok (.aload_n 0, 1) := by decide +kernel
theorem dX5_steps_12 : decode cX5_steps 12 = .ok (.ldc 63, 2) := by decide +kernel
theorem dX5_steps_14 : decode cX5_steps 14 = .ok (.invokevirtual 64, 3) := by decide +kernel
theorem dX5_steps_17 : decode cX5_steps 17 = .ok (.ireturn, 1) := by decide +kernel
theorem dX5_steps_18 : decode cX5_steps 18 = .ok (.iconst 0, 1) := by decide +kernel
theorem dX5_steps_19 : decode cX5_steps 19 = .ok (.istore_n 2, 1) := by decide +kernel
theorem dX5_steps_20 : decode cX5_steps 20 = .ok (.iload_n 2, 1) := by decide +kernel
theorem dX5_steps_21 : decode cX5_steps 21 = .ok (.aload_n 0, 1) := by decide +kernel
theorem dX5_steps_22 : decode cX5_steps 22 = .ok (.getfield 12, 3) := by decide +kernel
theorem dX5_steps_25 : decode cX5_steps 25 = .ok (.getfield 120, 3) := by decide +kernel
theorem dX5_steps_28 : decode cX5_steps 28 = .ok (.if_icmp .ge 26, 3) := by decide +kernel
theorem dX5_steps_31 : decode cX5_steps 31 = .ok (.aload_n 0, 1) := by decide +kernel
theorem dX5_steps_32 : decode cX5_steps 32 = .ok (.getfield 12, 3) := by decide +kernel
theorem dX5_steps_35 : decode cX5_steps 35 = .ok (.getfield 129, 3) := by decide +kernel
theorem dX5_steps_38 : decode cX5_steps 38 = .ok (.iload_n 2, 1) := by decide +kernel
theorem dX5_steps_39 : decode cX5_steps 39 = .ok (.aaload, 1) := by decide +kernel
theorem dX5_steps_40 : decode cX5_steps 40 = .ok (.aload_n 0, 1) := by decide +kernel
theorem dX5_steps_41 : decode cX5_steps 41 = .ok (.getfield 12, 3) := by decide +kernel
theorem dX5_steps_44 : decode cX5_steps 44 = .ok (.iload_n 1, 1) := by decide +kernel
theorem dX5_steps_45 : decode cX5_steps 45 = .ok (.invokevirtual 162, 3) := by decide +kernel
theorem dX5_steps_48 : decode cX5_steps 48 = .ok (.iinc 2 1, 3) := by decide +kernel
theorem dX5_steps_51 : decode cX5_steps 51 = .ok (.goto (-31), 3) := by decide +kernel
theorem dX5_steps_54 : decode cX5_steps 54 = .ok (.aload_n 0, 1) := by decide +kernel
theorem dX5_steps_55 : decode cX5_steps 55 = .ok (.getfield 12, 3) := by decide +kernel
theorem dX5_steps_58 : decode cX5_steps 58 = .ok (.invokevirtual 166, 3) := by decide +kernel
theorem dX5_steps_61 : decode cX5_steps 61 = .ok (.ireturn, 1) := by decide +kernel
theorem dX5_on_0 : decode cX5_on 0 = .ok (.aload_n 0, 1) := by decide +kernel
theorem dX5_on_1 : decode cX5_on 1 = .ok (.getfield 12, 3) := by decide +kernel
theorem dX5_on_4 : decode cX5_on 4 = .ok (.iload_n 1, 1) := by decide +kernel
theorem dX5_on_5 : decode cX5_on 5 = .ok (.invokevirtual 126, 3) := by decide +kernel
theorem dX5_on_8 : decode cX5_on 8 = .ok (.ifCond .eq 10, 3) := by decide +kernel
theorem dX5_on_11 : decode cX5_on 11 = .ok (.iload_n 2, 1) := by decide +kernel
theorem dX5_on_12 : decode cX5_on 12 = .ok (.invokestatic 170, 3) := by decide +kernel
theorem dX5_on_15 : decode cX5_on 15 = .ok (.ifCond .ne 10, 3) := by decide +kernel
theorem dX5_on_18 : decode cX5_on 18 = .ok (.aload_n 0, 1) := by decide +kernel
theorem dX5_on_19 : decode cX5_on 19 = .ok (.ldc 63, 2) := by decide +kernel
theorem dX5_on_21 : decode cX5_on 21 = .ok (.invokevirtual 64, 3) := by decide +kernel
theorem dX5_on_24 : decode cX5_on 24 = .ok (.ireturn, 1) := by decide +kernel
theorem dX5_on_25 : decode cX5_on 25 = .ok (.aload_n 0, 1) := by decide +kernel
theorem dX5_on_26 : decode cX5_on 26 = .ok (.getfield 25, 3) := by decide +kernel
theorem dX5_on_29 : decode cX5_on 29 = .ok (.aload_n 0, 1) := by decide +kernel
theorem dX5_on_30 : decode cX5_on 30 = .ok (.getfield 12, 3) := by decide +kernel
theorem dX5_on_33 : decode cX5_on 33 = .ok (.getfield 129, 3) := by decide +kernel
theorem dX5_on_36 : decode cX5_on 36 = .ok (.iload_n 1, 1) := by decide +kernel
theorem dX5_on_37 : decode cX5_on 37 = .ok (.aaload, 1) := by decide +kernel
theorem dX5_on_38 : decode cX5_on 38 = .ok (.invokevirtual 173, 3) := by decide +kernel
theorem dX5_on_41 : decode cX5_on 41 = .ok (.aload_n 0, 1) := by decide +kernel
theorem dX5_on_42 : decode cX5_on 42 = .ok (.getfield 25, 3) := by decide +kernel
theorem dX5_on_45 : decode cX5_on 45 = .ok (.aload_n 0, 1) := by decide +kernel
theorem dX5_on_46 : decode cX5_on 46 = .ok (.getfield 12, 3) := by decide +kernel
theorem dX5_on_49 : decode cX5_on 49 = .ok (.iload_n 2, 1) := by decide +kernel
theorem dX5_on_50 : decode cX5_on 50 = .ok (.invokevirtual 162, 3) := by decide +kernel
theorem dX5_on_53 : decode cX5_on 53 = .ok (.iload_n 3, 1) := by decide +kernel
theorem dX5_on_54 : decode cX5_on 54 = .ok (.tableswitch 68 0 3 #[30, 41, 52, 60], 30) := by decide +kernel
theorem dX5_on_84 : decode cX5_on 84 = .ok (.aload_n 0, 1) := by decide +kernel
theorem dX5_on_85 : decode cX5_on 85 = .ok (.getfield 25, 3) := by decide +kernel
theorem dX5_on_88 : decode cX5_on 88 = .ok (.getfield 136, 3) := by decide +kernel
theorem dX5_on_91 : decode cX5_on 91 = .ok (.invokestatic 139, 3) := by decide +kernel
theorem dX5_on_94 : decode cX5_on 94 = .ok (.ireturn, 1) := by decide +kernel
theorem dX5_on_95 : decode cX5_on 95 = .ok (.aload_n 0, 1) := by decide +kernel
theorem dX5_on_96 : decode cX5_on 96 = .ok (.getfield 25, 3) := by decide +kernel
theorem dX5_on_99 : decode cX5_on 99 = .ok (.getfield 136, 3) := by decide +kernel
theorem dX5_on_102 : decode cX5_on 102 = .ok (.invokestatic 142, 3) := by decide +kernel
theorem dX5_on_105 : decode cX5_on 105 = .ok (.ireturn, 1) := by decide +kernel
theorem dX5_on_106 : decode cX5_on 106 = .ok (.aload_n 0, 1) := by decide +kernel
theorem dX5_on_107 : decode cX5_on 107 = .ok (.getfield 25, 3) := by decide +kernel
theorem dX5_on_110 : decode cX5_on 110 = .ok (.getfield 145, 3) := by decide +kernel
theorem dX5_on_113 : decode cX5_on 113 = .ok (.ireturn, 1) := by decide +kernel
theorem dX5_on_114 : decode cX5_on 114 = .ok (.aload_n 0, 1) := by decide +kernel
theorem dX5_on_115 : decode cX5_on 115 = .ok (.getfield 25, 3) := by decide +kernel
theorem dX5_on_118 : decode cX5_on 118 = .ok (.getfield 148, 3) := by decide +kernel
theorem dX5_on_121 : decode cX5_on 121 = .ok (.ireturn, 1) := by decide +kernel
theorem dX5_on_122 : decode cX5_on 122 = .ok (.aload_n 0, 1) := by decide +kernel
theorem dX5_on_123 : decode cX5_on 123 = .ok (.ldc 63, 2) := by decide +kernel
theorem dX5_on_125 : decode cX5_on 125 = .ok (.invokevirtual 64, 3) := by decide +kernel
theorem dX5_on_128 : decode cX5_on 128 = .ok (.ireturn, 1) := by decide +kernel
theorem dX5_when_0 : decode cX5_when 0 = .ok (.aload_n 0, 1) := by decide +kernel
theorem dX5_when_1 : decode cX5_when 1 = .ok (.getfield 12, 3) := by decide +kernel
theorem dX5_when_4 : decode cX5_when 4 = .ok (.iload_n 1, 1) := by decide +kernel
theorem dX5_when_5 : decode cX5_when 5 = .ok (.invokevirtual 126, 3) := by decide +kernel
theorem dX5_when_8 : decode cX5_when 8 = .ok (.ifCond .eq 14, 3) := by decide +kernel
theorem dX5_when_11 : decode cX5_when 11 = .ok (.aload_n 0, 1) := by decide +kernel
theorem dX5_when_12 : decode cX5_when 12 = .ok (.getfield 12, 3) := by decide +kernel
theorem dX5_when_15 : decode cX5_when 15 = .ok (.iload_n 2, 1) := by decide +kernel
theorem dX5_when_16 : decode cX5_when 16 = .ok (.invokevirtual 76, 3) := by decide +kernel
theorem dX5_when_19 : decode cX5_when 19 = .ok (.ifCond .ne 10, 3) := by decide +kernel
theorem dX5_when_22 : decode cX5_when 22 = .ok (.aload_n 0, 1) := by decide +kernel
theorem dX5_when_23 : decode cX5_when 23 = .ok (.ldc 63, 2) := by decide +kernel
theorem dX5_when_25 : decode cX5_when 25 = .ok (.invokevirtual 64, 3) := by decide +kernel
theorem dX5_when_28 : decode cX5_when 28 = .ok (.ireturn, 1) := by decide +kernel
theorem dX5_when_29 : decode cX5_when 29 = .ok (.aload_n 0, 1) := by decide +kernel
theorem dX5_when_30 : decode cX5_when 30 = .ok (.getfield 25, 3) := by decide +kernel
theorem dX5_when_33 : decode cX5_when 33 = .ok (.aload_n 0, 1) := by decide +kernel
theorem dX5_when_34 : decode cX5_when 34 = .ok (.getfield 12, 3) := by decide +kernel
theorem dX5_when_37 : decode cX5_when 37 = .ok (.getfield 129, 3) := by decide +kernel
theorem dX5_when_40 : decode cX5_when 40 = .ok (.iload_n 1, 1) := by decide +kernel
theorem dX5_when_41 : decode cX5_when 41 = .ok (.aaload, 1) := by decide +kernel
theorem dX5_when_42 : decode cX5_when 42 = .ok (.invokevirtual 173, 3) := by decide +kernel
theorem dX5_when_45 : decode cX5_when 45 = .ok (.iconst 0, 1) := by decide +kernel
theorem dX5_when_46 : decode cX5_when 46 = .ok (.istore_n 3, 1) := by decide +kernel
theorem dX5_when_47 : decode cX5_when 47 = .ok (.iload_n 3, 1) := by decide +kernel
theorem dX5_when_48 : decode cX5_when 48 = .ok (.bipush 100, 2) := by decide +kernel
theorem dX5_when_50 : decode cX5_when 50 = .ok (.if_icmp .gt 36, 3) := by decide +kernel
theorem dX5_when_53 : decode cX5_when 53 = .ok (.aload_n 0, 1) := by decide +kernel
theorem dX5_when_54 : decode cX5_when 54 = .ok (.getfield 25, 3) := by decide +kernel
theorem dX5_when_57 : decode cX5_when 57 = .ok (.getfield 136, 3) := by decide +kernel
theorem dX5_when_60 : decode cX5_when 60 = .ok (.invokestatic 139, 3) := by decide +kernel
theorem dX5_when_63 : decode cX5_when 63 = .ok (.iload_n 2, 1) := by decide +kernel
theorem dX5_when_64 : decode cX5_when 64 = .ok (.if_icmp .ne 5, 3) := by decide +kernel
theorem dX5_when_67 : decode cX5_when 67 = .ok (.iload_n 3, 1) := by decide +kernel
theorem dX5_when_68 : decode cX5_when 68 = .ok (.ireturn, 1) := by decide +kernel
theorem dX5_when_69 : decode cX5_when 69 = .ok (.aload_n 0, 1) := by decide +kernel
theorem dX5_when_70 : decode cX5_when 70 = .ok (.getfield 25, 3) := by decide +kernel
theorem dX5_when_73 : decode cX5_when 73 = .ok (.aload_n 0, 1) := by decide +kernel
theorem dX5_when_74 : decode cX5_when 74 = .ok (.getfield 12, 3) := by decide +kernel
theorem dX5_when_77 : decode cX5_when 77 = .ok (.invokevirtual 158, 3) := by decide +kernel
theorem dX5_when_80 : decode cX5_when 80 = .ok (.iinc 3 1, 3) := by decide +kernel
theorem dX5_when_83 : decode cX5_when 83 = .ok (.goto (-36), 3) := by decide +kernel
theorem dX5_when_86 : decode cX5_when 86 = .ok (.aload_n 0, 1) := by decide +kernel
theorem dX5_when_87 : decode cX5_when 87 = .ok (.ldc 177, 2) := by decide +kernel
theorem dX5_when_89 : decode cX5_when 89 = .ok (.invokevirtual 64, 3) := by decide +kernel
theorem dX5_when_92 : decode cX5_when 92 = .ok (.ireturn, 1) := by decide +kernel
theorem dX5_back_0 : decode cX5_back 0 = .ok (.aload_n 0, 1) := by decide +kernel
theorem dX5_back_1 : decode cX5_back 1 = .ok (.getfield 12, 3) := by decide +kernel
theorem dX5_back_4 : decode cX5_back 4 = .ok (.iload_n 1, 1) := by decide +kernel
theorem dX5_back_5 : decode cX5_back 5 = .ok (.invokevirtual 126, 3) := by decide +kernel
theorem dX5_back_8 : decode cX5_back 8 = .ok (.ifCond .ne 10, 3) := by decide +kernel
theorem dX5_back_11 : decode cX5_back 11 = .ok (.aload_n 0, 1) := by decide +kernel
theorem dX5_back_12 : decode cX5_back 12 = .ok (.ldc 63, 2) := by decide +kernel
theorem dX5_back_14 : decode cX5_back 14 = .ok (.invokevirtual 64, 3) := by decide +kernel
theorem dX5_back_17 : decode cX5_back 17 = .ok (.ireturn, 1) := by decide +kernel
theorem dX5_back_18 : decode cX5_back 18 = .ok (.aload_n 0, 1) := by decide +kernel
theorem dX5_back_19 : decode cX5_back 19 = .ok (.getfield 25, 3) := by decide +kernel
theorem dX5_back_22 : decode cX5_back 22 = .ok (.aload_n 0, 1) := by decide +kernel
theorem dX5_back_23 : decode cX5_back 23 = .ok (.getfield 12, 3) := by decide +kernel
theorem dX5_back_26 : decode cX5_back 26 = .ok (.getfield 129, 3) := by decide +kernel
theorem dX5_back_29 : decode cX5_back 29 = .ok (.iload_n 1, 1) := by decide +kernel
theorem dX5_back_30 : decode cX5_back 30 = .ok (.aaload, 1) := by decide +kernel
theorem dX5_back_31 : decode cX5_back 31 = .ok (.invokevirtual 173, 3) := by decide +kernel
theorem dX5_back_34 : decode cX5_back 34 = .ok (.aload_n 0, 1) := by decide +kernel
theorem dX5_back_35 : decode cX5_back 35 = .ok (.getfield 25, 3) := by decide +kernel
theorem dX5_back_38 : decode cX5_back 38 = .ok (.getfield 136, 3) := by decide +kernel
theorem dX5_back_41 : decode cX5_back 41 = .ok (.istore_n 2, 1) := by decide +kernel
theorem dX5_back_42 : decode cX5_back 42 = .ok (.iconst 1, 1) := by decide +kernel
theorem dX5_back_43 : decode cX5_back 43 = .ok (.istore_n 3, 1) := by decide +kernel
theorem dX5_back_44 : decode cX5_back 44 = .ok (.iload_n 3, 1) := by decide +kernel
theorem dX5_back_45 : decode cX5_back 45 = .ok (.sipush 200, 3) := by decide +kernel
theorem dX5_back_48 : decode cX5_back 48 = .ok (.if_icmp .gt 33, 3) := by decide +kernel
theorem dX5_back_51 : decode cX5_back 51 = .ok (.aload_n 0, 1) := by decide +kernel
theorem dX5_back_52 : decode cX5_back 52 = .ok (.getfield 25, 3) := by decide +kernel
theorem dX5_back_55 : decode cX5_back 55 = .ok (.aload_n 0, 1) := by decide +kernel
theorem dX5_back_56 : decode cX5_back 56 = .ok (.getfield 12, 3) := by decide +kernel
theorem dX5_back_59 : decode cX5_back 59 = .ok (.invokevirtual 158, 3) := by decide +kernel
theorem dX5_back_62 : decode cX5_back 62 = .ok (.aload_n 0, 1) := by decide +kernel
theorem dX5_back_63 : decode cX5_back 63 = .ok (.getfield 25, 3) := by decide +kernel
theorem dX5_back_66 : decode cX5_back 66 = .ok (.getfield 136, 3) := by decide +kernel
theorem dX5_back_69 : decode cX5_back 69 = .ok (.iload_n 2, 1) := by decide +kernel
theorem dX5_back_70 : decode cX5_back 70 = .ok (.if_icmp .ne 5, 3) := by decide +kernel
theorem dX5_back_73 : decode cX5_back 73 = .ok (.iload_n 3, 1) := by decide +kernel
theorem dX5_back_74 : decode cX5_back 74 = .ok (.ireturn, 1) := by decide +kernel
theorem dX5_back_75 : decode cX5_back 75 = .ok (.iinc 3 1, 3) := by decide +kernel
theorem dX5_back_78 : decode cX5_back 78 = .ok (.goto (-34), 3) := by decide +kernel
theorem dX5_back_81 : decode cX5_back 81 = .ok (.aload_n 0, 1) := by decide +kernel
theorem dX5_back_82 : decode cX5_back 82 = .ok (.ldc 177, 2) := by decide +kernel
theorem dX5_back_84 : decode cX5_back 84 = .ok (.invokevirtual 64, 3) := by decide +kernel
theorem dX5_back_87 : decode cX5_back 87 = .ok (.ireturn, 1) := by decide +kernel
theorem dX5_meet_0 : decode cX5_meet 0 = .ok (.aload_n 0, 1) := by decide +kernel
theorem dX5_meet_1 : decode cX5_meet 1 = .ok (.getfield 12, 3) := by decide +kernel
theorem dX5_meet_4 : decode cX5_meet 4 = .ok (.iload_n 1, 1) := by decide +kernel
theorem dX5_meet_5 : decode cX5_meet 5 = .ok (.invokevirtual 126, 3) := by decide +kernel
theorem dX5_meet_8 : decode cX5_meet 8 = .ok (.ifCond .eq 19, 3) := by decide +kernel
theorem dX5_meet_11 : decode cX5_meet 11 = .ok (.aload_n 0, 1) := by decide +kernel
theorem dX5_meet_12 : decode cX5_meet 12 = .ok (.getfield 12, 3) := by decide +kernel
theorem dX5_meet_15 : decode cX5_meet 15 = .ok (.iload_n 2, 1) := by decide +kernel
theorem dX5_meet_16 : decode cX5_meet 16 = .ok (.invokevirtual 126, 3) := by decide +kernel
theorem dX5_meet_19 : decode cX5_meet 19 = .ok (.ifCond .eq 8, 3) := by decide +kernel
theorem dX5_meet_22 : decode cX5_meet 22 = .ok (.iload_n 1, 1) := by decide +kernel
theorem dX5_meet_23 : decode cX5_meet 23 = .ok (.iload_n 2, 1) := by decide +kernel
theorem dX5_meet_24 : decode cX5_meet 24 = .ok (.if_icmp .ne 10, 3) := by decide +kernel
theorem dX5_meet_27 : decode cX5_meet 27 = .ok (.aload_n 0, 1) := by decide +kernel
theorem dX5_meet_28 : decode cX5_meet 28 = .ok (.ldc 63, 2) := by decide +kernel
theorem dX5_meet_30 : decode cX5_meet 30 = .ok (.invokevirtual 64, 3) := by decide +kernel
theorem dX5_meet_33 : decode cX5_meet 33 = .ok (.ireturn, 1) := by decide +kernel
theorem dX5_meet_34 : decode cX5_meet 34 = .ok (.aload_n 0, 1) := by decide +kernel
theorem dX5_meet_35 : decode cX5_meet 35 = .ok (.getfield 25, 3) := by decide +kernel
theorem dX5_meet_38 : decode cX5_meet 38 = .ok (.aload_n 0, 1) := by decide +kernel
theorem dX5_meet_39 : decode cX5_meet 39 = .ok (.getfield 12, 3) := by decide +kernel
theorem dX5_meet_42 : decode cX5_meet 42 = .ok (.getfield 129, 3) := by decide +kernel
theorem dX5_meet_45 : decode cX5_meet 45 = .ok (.iload_n 1, 1) := by decide +kernel
theorem dX5_meet_46 : decode cX5_meet 46 = .ok (.aaload, 1) := by decide +kernel
theorem dX5_meet_47 : decode cX5_meet 47 = .ok (.invokevirtual 173, 3) := by decide +kernel
theorem dX5_meet_50 : decode cX5_meet 50 = .ok (.aload_n 0, 1) := by decide +kernel
theorem dX5_meet_51 : decode cX5_meet 51 = .ok (.getfield 29, 3) := by decide +kernel
theorem dX5_meet_54 : decode cX5_meet 54 = .ok (.aload_n 0, 1) := by decide +kernel
theorem dX5_meet_55 : decode cX5_meet 55 = .ok (.getfield 12, 3) := by decide +kernel
theorem dX5_meet_58 : decode cX5_meet 58 = .ok (.getfield 129, 3) := by decide +kernel
theorem dX5_meet_61 : decode cX5_meet 61 = .ok (.iload_n 2, 1) := by decide +kernel
theorem dX5_meet_62 : decode cX5_meet 62 = .ok (.aaload, 1) := by decide +kernel
theorem dX5_meet_63 : decode cX5_meet 63 = .ok (.invokevirtual 173, 3) := by decide +kernel
theorem dX5_meet_66 : decode cX5_meet 66 = .ok (.iconst 0, 1) := by decide +kernel
theorem dX5_meet_67 : decode cX5_meet 67 = .ok (.istore_n 3, 1) := by decide +kernel
theorem dX5_meet_68 : decode cX5_meet 68 = .ok (.iload_n 3, 1) := by decide +kernel
theorem dX5_meet_69 : decode cX5_meet 69 = .ok (.bipush 100, 2) := by decide +kernel
theorem dX5_meet_71 : decode cX5_meet 71 = .ok (.if_icmp .gt 56, 3) := by decide +kernel
theorem dX5_meet_74 : decode cX5_meet 74 = .ok (.aload_n 0, 1) := by decide +kernel
theorem dX5_meet_75 : decode cX5_meet 75 = .ok (.getfield 25, 3) := by decide +kernel
theorem dX5_meet_78 : decode cX5_meet 78 = .ok (.getfield 136, 3) := by decide +kernel
theorem dX5_meet_81 : decode cX5_meet 81 = .ok (.invokestatic 139, 3) := by decide +kernel
theorem dX5_meet_84 : decode cX5_meet 84 = .ok (.aload_n 0, 1) := by decide +kernel
theorem dX5_meet_85 : decode cX5_meet 85 = .ok (.getfield 29, 3) := by decide +kernel
theorem dX5_meet_88 : decode cX5_meet 88 = .ok (.getfield 136, 3) := by decide +kernel
theorem dX5_meet_91 : decode cX5_meet 91 = .ok (.invokestatic 139, 3) := by decide +kernel
theorem dX5_meet_94 : decode cX5_meet 94 = .ok (.if_icmp .ne 5, 3) := by decide +kernel
theorem dX5_meet_97 : decode cX5_meet 97 = .ok (.iload_n 3, 1) := by decide +kernel
theorem dX5_meet_98 : decode cX5_meet 98 = .ok (.ireturn, 1) := by decide +kernel
theorem dX5_meet_99 : decode cX5_meet 99 = .ok (.aload_n 0, 1) := by decide +kernel
theorem dX5_meet_100 : decode cX5_meet 100 = .ok (.getfield 25, 3) := by decide +kernel
theorem dX5_meet_103 : decode cX5_meet 103 = .ok (.aload_n 0, 1) := by decide +kernel
theorem dX5_meet_104 : decode cX5_meet 104 = .ok (.getfield 12, 3) := by decide +kernel
theorem dX5_meet_107 : decode cX5_meet 107 = .ok (.invokevirtual 158, 3) := by decide +kernel
theorem dX5_meet_110 : decode cX5_meet 110 = .ok (.aload_n 0, 1) := by decide +kernel
theorem dX5_meet_111 : decode cX5_meet 111 = .ok (.getfield 29, 3) := by decide +kernel
theorem dX5_meet_114 : decode cX5_meet 114 = .ok (.aload_n 0, 1) := by decide +kernel
theorem dX5_meet_115 : decode cX5_meet 115 = .ok (.getfield 12, 3) := by decide +kernel
theorem dX5_meet_118 : decode cX5_meet 118 = .ok (.invokevirtual 158, 3) := by decide +kernel
theorem dX5_meet_121 : decode cX5_meet 121 = .ok (.iinc 3 1, 3) := by decide +kernel
theorem dX5_meet_124 : decode cX5_meet 124 = .ok (.goto (-56), 3) := by decide +kernel
theorem dX5_meet_127 : decode cX5_meet 127 = .ok (.aload_n 0, 1) := by decide +kernel
theorem dX5_meet_128 : decode cX5_meet 128 = .ok (.ldc 177, 2) := by decide +kernel
theorem dX5_meet_130 : decode cX5_meet 130 = .ok (.invokevirtual 64, 3) := by decide +kernel
theorem dX5_meet_133 : decode cX5_meet 133 = .ok (.ireturn, 1) := by decide +kernel
theorem dX5_spares_0 : decode cX5_spares 0 = .ok (.iload_n 1, 1) := by decide +kernel
theorem dX5_spares_1 : decode cX5_spares 1 = .ok (.invokestatic 170, 3) := by decide +kernel
theorem dX5_spares_4 : decode cX5_spares 4 = .ok (.ifCond .ne 10, 3) := by decide +kernel
theorem dX5_spares_7 : decode cX5_spares 7 = .ok (.aload_n 0, 1) := by decide +kernel
theorem dX5_spares_8 : decode cX5_spares 8 = .ok (.ldc 63, 2) := by decide +kernel
theorem dX5_spares_10 : decode cX5_spares 10 = .ok (.invokevirtual 64, 3) := by decide +kernel
theorem dX5_spares_13 : decode cX5_spares 13 = .ok (.ireturn, 1) := by decide +kernel
theorem dX5_spares_14 : decode cX5_spares 14 = .ok (.iconst (-1), 1) := by decide +kernel
theorem dX5_spares_15 : decode cX5_spares 15 = .ok (.istore_n 2, 1) := by decide +kernel
theorem dX5_spares_16 : decode cX5_spares 16 = .ok (.iconst 0, 1) := by decide +kernel
theorem dX5_spares_17 : decode cX5_spares 17 = .ok (.istore_n 3, 1) := by decide +kernel
theorem dX5_spares_18 : decode cX5_spares 18 = .ok (.iconst 0, 1) := by decide +kernel
theorem dX5_spares_19 : decode cX5_spares 19 = .ok (.istore 4, 2) := by decide +kernel
theorem dX5_spares_21 : decode cX5_spares 21 = .ok (.iload 4, 2) := by decide +kernel
theorem dX5_spares_23 : decode cX5_spares 23 = .ok (.aload_n 0, 1) := by decide +kernel
theorem dX5_spares_24 : decode cX5_spares 24 = .ok (.getfield 12, 3) := by decide +kernel
theorem dX5_spares_27 : decode cX5_spares 27 = .ok (.getfield 120, 3) := by decide +kernel
theorem dX5_spares_30 : decode cX5_spares 30 = .ok (.if_icmp .ge 65, 3) := by decide +kernel
theorem dX5_spares_33 : decode cX5_spares 33 = .ok (.aload_n 0, 1) := by decide +kernel
theorem dX5_spares_34 : decode cX5_spares 34 = .ok (.getfield 25, 3) := by decide +kernel
theorem dX5_spares_37 : decode cX5_spares 37 = .ok (.aload_n 0, 1) := by decide +kernel
theorem dX5_spares_38 : decode cX5_spares 38 = .ok (.getfield 12, 3) := by decide +kernel
theorem dX5_spares_41 : decode cX5_spares 41 = .ok (.getfield 129, 3) := by decide +kernel
theorem dX5_spares_44 : decode cX5_spares 44 = .ok (.iload 4, 2) := by decide +kernel
theorem dX5_spares_46 : decode cX5_spares 46 = .ok (.aaload, 1) := by decide +kernel
theorem dX5_spares_47 : decode cX5_spares 47 = .ok (.invokevirtual 173, 3) := by decide +kernel
theorem dX5_spares_50 : decode cX5_spares 50 = .ok (.aload_n 0, 1) := by decide +kernel
theorem dX5_spares_51 : decode cX5_spares 51 = .ok (.getfield 25, 3) := by decide +kernel
theorem dX5_spares_54 : decode cX5_spares 54 = .ok (.aload_n 0, 1) := by decide +kernel
theorem dX5_spares_55 : decode cX5_spares 55 = .ok (.getfield 12, 3) := by decide +kernel
theorem dX5_spares_58 : decode cX5_spares 58 = .ok (.iload_n 1, 1) := by decide +kernel
theorem dX5_spares_59 : decode cX5_spares 59 = .ok (.invokevirtual 162, 3) := by decide +kernel
theorem dX5_spares_62 : decode cX5_spares 62 = .ok (.iload_n 2, 1) := by decide +kernel
theorem dX5_spares_63 : decode cX5_spares 63 = .ok (.iconst (-1), 1) := by decide +kernel
theorem dX5_spares_64 : decode cX5_spares 64 = .ok (.if_icmp .eq 14, 3) := by decide +kernel
theorem dX5_spares_67 : decode cX5_spares 67 = .ok (.aload_n 0, 1) := by decide +kernel
theorem dX5_spares_68 : decode cX5_spares 68 = .ok (.getfield 25, 3) := by decide +kernel
theorem dX5_spares_71 : decode cX5_spares 71 = .ok (.getfield 145, 3) := by decide +kernel
theorem dX5_spares_74 : decode cX5_spares 74 = .ok (.iload_n 3, 1) := by decide +kernel
theorem dX5_spares_75 : decode cX5_spares 75 = .ok (.if_icmp .ge 14, 3) := by decide +kernel
theorem dX5_spares_78 : decode cX5_spares 78 = .ok (.iload 4, 2) := by decide +kernel
theorem dX5_spares_80 : decode cX5_spares 80 = .ok (.istore_n 2, 1) := by decide +kernel
theorem dX5_spares_81 : decode cX5_spares 81 = .ok (.aload_n 0, 1) := by decide +kernel
theorem dX5_spares_82 : decode cX5_spares 82 = .ok (.getfield 25, 3) := by decide +kernel
theorem dX5_spares_85 : decode cX5_spares 85 = .ok (.getfield 145, 3) := by decide +kernel
theorem dX5_spares_88 : decode cX5_spares 88 = .ok (.istore_n 3, 1) := by decide +kernel
theorem dX5_spares_89 : decode cX5_spares 89 = .ok (.iinc 4 1, 3) := by decide +kernel
theorem dX5_spares_92 : decode cX5_spares 92 = .ok (.goto (-71), 3) := by decide +kernel
theorem dX5_spares_95 : decode cX5_spares 95 = .ok (.aload_n 0, 1) := by decide +kernel
theorem dX5_spares_96 : decode cX5_spares 96 = .ok (.iload_n 2, 1) := by decide +kernel
theorem dX5_spares_97 : decode cX5_spares 97 = .ok (.invokevirtual 114, 3) := by decide +kernel
theorem dX5_spares_100 : decode cX5_spares 100 = .ok (.ireturn, 1) := by decide +kernel
theorem dX5_closes_0 : decode cX5_closes 0 = .ok (.aload_n 0, 1) := by decide +kernel
theorem dX5_closes_1 : decode cX5_closes 1 = .ok (.getfield 12, 3) := by decide +kernel
theorem dX5_closes_4 : decode cX5_closes 4 = .ok (.iload_n 1, 1) := by decide +kernel
theorem dX5_closes_5 : decode cX5_closes 5 = .ok (.iload_n 2, 1) := by decide +kernel
theorem dX5_closes_6 : decode cX5_closes 6 = .ok (.invokevirtual 92, 3) := by decide +kernel
theorem dX5_closes_9 : decode cX5_closes 9 = .ok (.ifCond .ne 10, 3) := by decide +kernel
theorem dX5_closes_12 : decode cX5_closes 12 = .ok (.aload_n 0, 1) := by decide +kernel
theorem dX5_closes_13 : decode cX5_closes 13 = .ok (.ldc 63, 2) := by decide +kernel
theorem dX5_closes_15 : decode cX5_closes 15 = .ok (.invokevirtual 64, 3) := by decide +kernel
theorem dX5_closes_18 : decode cX5_closes 18 = .ok (.ireturn, 1) := by decide +kernel
theorem dX5_closes_19 : decode cX5_closes 19 = .ok (.iload_n 1, 1) := by decide +kernel
theorem dX5_closes_20 : decode cX5_closes 20 = .ok (.iload_n 2, 1) := by decide +kernel
theorem dX5_closes_21 : decode cX5_closes 21 = .ok (.invokestatic 96, 3) := by decide +kernel
theorem dX5_closes_24 : decode cX5_closes 24 = .ok (.istore_n 3, 1) := by decide +kernel
theorem dX5_closes_25 : decode cX5_closes 25 = .ok (.iload_n 3, 1) := by decide +kernel
theorem dX5_closes_26 : decode cX5_closes 26 = .ok (.istore 4, 2) := by decide +kernel
theorem dX5_closes_28 : decode cX5_closes 28 = .ok (.iconst 1, 1) := by decide +kernel
theorem dX5_closes_29 : decode cX5_closes 29 = .ok (.istore 5, 2) := by decide +kernel
theorem dX5_closes_31 : decode cX5_closes 31 = .ok (.iload 5, 2) := by decide +kernel
theorem dX5_closes_33 : decode cX5_closes 33 = .ok (.bipush 64, 2) := by decide +kernel
theorem dX5_closes_35 : decode cX5_closes 35 = .ok (.if_icmp .gt 29, 3) := by decide +kernel
theorem dX5_closes_38 : decode cX5_closes 38 = .ok (.aload_n 0, 1) := by decide +kernel
theorem dX5_closes_39 : decode cX5_closes 39 = .ok (.getfield 12, 3) := by decide +kernel
theorem dX5_closes_42 : decode cX5_closes 42 = .ok (.iload 4, 2) := by decide +kernel
theorem dX5_closes_44 : decode cX5_closes 44 = .ok (.invokevirtual 178, 3) := by decide +kernel
theorem dX5_closes_47 : decode cX5_closes 47 = .ok (.istore 4, 2) := by decide +kernel
theorem dX5_closes_49 : decode cX5_closes 49 = .ok (.iload 4, 2) := by decide +kernel
theorem dX5_closes_51 : decode cX5_closes 51 = .ok (.iload_n 3, 1) := by decide +kernel
theorem dX5_closes_52 : decode cX5_closes 52 = .ok (.if_icmp .ne 6, 3) := by decide +kernel
theorem dX5_closes_55 : decode cX5_closes 55 = .ok (.iload 5, 2) := by decide +kernel
theorem dX5_closes_57 : decode cX5_closes 57 = .ok (.ireturn, 1) := by decide +kernel
theorem dX5_closes_58 : decode cX5_closes 58 = .ok (.iinc 5 1, 3) := by decide +kernel
theorem dX5_closes_61 : decode cX5_closes 61 = .ok (.goto (-30), 3) := by decide +kernel
theorem dX5_closes_64 : decode cX5_closes 64 = .ok (.aload_n 0, 1) := by decide +kernel
theorem dX5_closes_65 : decode cX5_closes 65 = .ok (.ldc 177, 2) := by decide +kernel
theorem dX5_closes_67 : decode cX5_closes 67 = .ok (.invokevirtual 64, 3) := by decide +kernel
theorem dX5_closes_70 : decode cX5_closes 70 = .ok (.ireturn, 1) := by decide +kernel
theorem dX5_bumps_0 : decode cX5_bumps 0 = .ok (.aload_n 0, 1) := by decide +kernel
theorem dX5_bumps_1 : decode cX5_bumps 1 = .ok (.getfield 12, 3) := by decide +kernel
theorem dX5_bumps_4 : decode cX5_bumps 4 = .ok (.iload_n 1, 1) := by decide +kernel
theorem dX5_bumps_5 : decode cX5_bumps 5 = .ok (.iload_n 2, 1) := by decide +kernel
theorem dX5_bumps_6 : decode cX5_bumps 6 = .ok (.invokevirtual 92, 3) := by decide +kernel
theorem dX5_bumps_9 : decode cX5_bumps 9 = .ok (.ifCond .ne 10, 3) := by decide +kernel
theorem dX5_bumps_12 : decode cX5_bumps 12 = .ok (.aload_n 0, 1) := by decide +kernel
theorem dX5_bumps_13 : decode cX5_bumps 13 = .ok (.ldc 63, 2) := by decide +kernel
theorem dX5_bumps_15 : decode cX5_bumps 15 = .ok (.invokevirtual 64, 3) := by decide +kernel
theorem dX5_bumps_18 : decode cX5_bumps 18 = .ok (.ireturn, 1) := by decide +kernel
theorem dX5_bumps_19 : decode cX5_bumps 19 = .ok (.iload_n 1, 1) := by decide +kernel
theorem dX5_bumps_20 : decode cX5_bumps 20 = .ok (.iload_n 2, 1) := by decide +kernel
theorem dX5_bumps_21 : decode cX5_bumps 21 = .ok (.invokestatic 96, 3) := by decide +kernel
theorem dX5_bumps_24 : decode cX5_bumps 24 = .ok (.istore_n 3, 1) := by decide +kernel
theorem dX5_bumps_25 : decode cX5_bumps 25 = .ok (.iconst 0, 1) := by decide +kernel
theorem dX5_bumps_26 : decode cX5_bumps 26 = .ok (.istore 4, 2) := by decide +kernel
theorem dX5_bumps_28 : decode cX5_bumps 28 = .ok (.iload 4, 2) := by decide +kernel
theorem dX5_bumps_30 : decode cX5_bumps 30 = .ok (.bipush 64, 2) := by decide +kernel
theorem dX5_bumps_32 : decode cX5_bumps 32 = .ok (.if_icmp .gt 26, 3) := by decide +kernel
theorem dX5_bumps_35 : decode cX5_bumps 35 = .ok (.aload_n 0, 1) := by decide +kernel
theorem dX5_bumps_36 : decode cX5_bumps 36 = .ok (.getfield 12, 3) := by decide +kernel
theorem dX5_bumps_39 : decode cX5_bumps 39 = .ok (.iload_n 3, 1) := by decide +kernel
theorem dX5_bumps_40 : decode cX5_bumps 40 = .ok (.invokevirtual 178, 3) := by decide +kernel
theorem dX5_bumps_43 : decode cX5_bumps 43 = .ok (.istore_n 3, 1) := by decide +kernel
theorem dX5_bumps_44 : decode cX5_bumps 44 = .ok (.iload_n 3, 1) := by decide +kernel
theorem dX5_bumps_45 : decode cX5_bumps 45 = .ok (.iconst (-1), 1) := by decide +kernel
theorem dX5_bumps_46 : decode cX5_bumps 46 = .ok (.if_icmp .ne 6, 3) := by decide +kernel
theorem dX5_bumps_49 : decode cX5_bumps 49 = .ok (.iload 4, 2) := by decide +kernel
theorem dX5_bumps_51 : decode cX5_bumps 51 = .ok (.ireturn, 1) := by decide +kernel
theorem dX5_bumps_52 : decode cX5_bumps 52 = .ok (.iinc 4 1, 3) := by decide +kernel
theorem dX5_bumps_55 : decode cX5_bumps 55 = .ok (.goto (-27), 3) := by decide +kernel
theorem dX5_bumps_58 : decode cX5_bumps 58 = .ok (.aload_n 0, 1) := by decide +kernel
theorem dX5_bumps_59 : decode cX5_bumps 59 = .ok (.ldc 177, 2) := by decide +kernel
theorem dX5_bumps_61 : decode cX5_bumps 61 = .ok (.invokevirtual 64, 3) := by decide +kernel
theorem dX5_bumps_64 : decode cX5_bumps 64 = .ok (.ireturn, 1) := by decide +kernel
theorem dX5_square_0 : decode cX5_square 0 = .ok (.aload_n 0, 1) := by decide +kernel
theorem dX5_square_1 : decode cX5_square 1 = .ok (.getfield 12, 3) := by decide +kernel
theorem dX5_square_4 : decode cX5_square 4 = .ok (.iload_n 1, 1) := by decide +kernel
theorem dX5_square_5 : decode cX5_square 5 = .ok (.iload_n 2, 1) := by decide +kernel
theorem dX5_square_6 : decode cX5_square 6 = .ok (.invokevirtual 92, 3) := by decide +kernel
theorem dX5_square_9 : decode cX5_square 9 = .ok (.ifCond .eq 14, 3) := by decide +kernel
theorem dX5_square_12 : decode cX5_square 12 = .ok (.iload_n 3, 1) := by decide +kernel
theorem dX5_square_13 : decode cX5_square 13 = .ok (.iconst 1, 1) := by decide +kernel
theorem dX5_square_14 : decode cX5_square 14 = .ok (.if_icmp .lt 9, 3) := by decide +kernel
theorem dX5_square_17 : decode cX5_square 17 = .ok (.iload_n 3, 1) := by decide +kernel
theorem dX5_square_18 : decode cX5_square 18 = .ok (.bipush 9, 2) := by decide +kernel
theorem dX5_square_20 : decode cX5_square 20 = .ok (.if_icmp .le 10, 3) := by decide +kernel
theorem dX5_square_23 : decode cX5_square 23 = .ok (.aload_n 0, 1) := by decide +kernel
theorem dX5_square_24 : decode cX5_square 24 = .ok (.ldc 63, 2) := by decide +kernel
theorem dX5_square_26 : decode cX5_square 26 = .ok (.invokevirtual 64, 3) := by decide +kernel
theorem dX5_square_29 : decode cX5_square 29 = .ok (.ireturn, 1) := by decide +kernel
theorem dX5_square_30 : decode cX5_square 30 = .ok (.iload_n 1, 1) := by decide +kernel
theorem dX5_square_31 : decode cX5_square 31 = .ok (.iload_n 2, 1) := by decide +kernel
theorem dX5_square_32 : decode cX5_square 32 = .ok (.invokestatic 96, 3) := by decide +kernel
theorem dX5_square_35 : decode cX5_square 35 = .ok (.istore 4, 2) := by decide +kernel
theorem dX5_square_37 : decode cX5_square 37 = .ok (.iload 4, 2) := by decide +kernel
theorem dX5_square_39 : decode cX5_square 39 = .ok (.istore 5, 2) := by decide +kernel
theorem dX5_square_41 : decode cX5_square 41 = .ok (.iconst 1, 1) := by decide +kernel
theorem dX5_square_42 : decode cX5_square 42 = .ok (.istore 6, 2) := by decide +kernel
theorem dX5_square_44 : decode cX5_square 44 = .ok (.iload 6, 2) := by decide +kernel
theorem dX5_square_46 : decode cX5_square 46 = .ok (.bipush 64, 2) := by decide +kernel
theorem dX5_square_48 : decode cX5_square 48 = .ok (.if_icmp .gt 52, 3) := by decide +kernel
theorem dX5_square_51 : decode cX5_square 51 = .ok (.aload_n 0, 1) := by decide +kernel
theorem dX5_square_52 : decode cX5_square 52 = .ok (.getfield 12, 3) := by decide +kernel
theorem dX5_square_55 : decode cX5_square 55 = .ok (.iload 5, 2) := by decide +kernel
theorem dX5_square_57 : decode cX5_square 57 = .ok (.iload_n 3, 1) := by decide +kernel
theorem dX5_square_58 : decode cX5_square 58 = .ok (.invokevirtual 181, 3) := by decide +kernel
theorem dX5_square_61 : decode cX5_square 61 = .ok (.istore 5, 2) := by decide +kernel
theorem dX5_square_63 : decode cX5_square 63 = .ok (.iload 5, 2) := by decide +kernel
theorem dX5_square_65 : decode cX5_square 65 = .ok (.iconst (-1), 1) := by decide +kernel
theorem dX5_square_66 : decode cX5_square 66 = .ok (.if_icmp .ne 10, 3) := by decide +kernel
theorem dX5_square_69 : decode cX5_square 69 = .ok (.aload_n 0, 1) := by decide +kernel
theorem dX5_square_70 : decode cX5_square 70 = .ok (.ldc 177, 2) := by decide +kernel
theorem dX5_square_72 : decode cX5_square 72 = .ok (.invokevirtual 64, 3) := by decide +kernel
theorem dX5_square_75 : decode cX5_square 75 = .ok (.ireturn, 1) := by decide +kernel
theorem dX5_square_76 : decode cX5_square 76 = .ok (.iload 5, 2) := by decide +kernel
theorem dX5_square_78 : decode cX5_square 78 = .ok (.iconst 1, 1) := by decide +kernel
theorem dX5_square_79 : decode cX5_square 79 = .ok (.invokestatic 184, 3) := by decide +kernel
theorem dX5_square_82 : decode cX5_square 82 = .ok (.istore 5, 2) := by decide +kernel
theorem dX5_square_84 : decode cX5_square 84 = .ok (.iload 5, 2) := by decide +kernel
theorem dX5_square_86 : decode cX5_square 86 = .ok (.iload 4, 2) := by decide +kernel
theorem dX5_square_88 : decode cX5_square 88 = .ok (.if_icmp .ne 6, 3) := by decide +kernel
theorem dX5_square_91 : decode cX5_square 91 = .ok (.iload 6, 2) := by decide +kernel
theorem dX5_square_93 : decode cX5_square 93 = .ok (.ireturn, 1) := by decide +kernel
theorem dX5_square_94 : decode cX5_square 94 = .ok (.iinc 6 1, 3) := by decide +kernel
theorem dX5_square_97 : decode cX5_square 97 = .ok (.goto (-53), 3) := by decide +kernel
theorem dX5_square_100 : decode cX5_square 100 = .ok (.aload_n 0, 1) := by decide +kernel
theorem dX5_square_101 : decode cX5_square 101 = .ok (.ldc 177, 2) := by decide +kernel
theorem dX5_square_103 : decode cX5_square 103 = .ok (.invokevirtual 64, 3) := by decide +kernel
theorem dX5_square_106 : decode cX5_square 106 = .ok (.ireturn, 1) := by decide +kernel
theorem dX5_dine_0 : decode cX5_dine 0 = .ok (.aload_n 0, 1) := by decide +kernel
theorem dX5_dine_1 : decode cX5_dine 1 = .ok (.getfield 12, 3) := by decide +kernel
theorem dX5_dine_4 : decode cX5_dine 4 = .ok (.iload_n 1, 1) := by decide +kernel
theorem dX5_dine_5 : decode cX5_dine 5 = .ok (.iload_n 2, 1) := by decide +kernel
theorem dX5_dine_6 : decode cX5_dine 6 = .ok (.invokevirtual 92, 3) := by decide +kernel
theorem dX5_dine_9 : decode cX5_dine 9 = .ok (.ifCond .eq 16, 3) := by decide +kernel
theorem dX5_dine_12 : decode cX5_dine 12 = .ok (.aload_n 0, 1) := by decide +kernel
theorem dX5_dine_13 : decode cX5_dine 13 = .ok (.getfield 12, 3) := by decide +kernel
theorem dX5_dine_16 : decode cX5_dine 16 = .ok (.iload_n 3, 1) := by decide +kernel
theorem dX5_dine_17 : decode cX5_dine 17 = .ok (.iload 4, 2) := by decide +kernel
theorem dX5_dine_19 : decode cX5_dine 19 = .ok (.invokevirtual 92, 3) := by decide +kernel
theorem dX5_dine_22 : decode cX5_dine 22 = .ok (.ifCond .ne 10, 3) := by decide +kernel
theorem dX5_dine_25 : decode cX5_dine 25 = .ok (.aload_n 0, 1) := by decide +kernel
theorem dX5_dine_26 : decode cX5_dine 26 = .ok (.ldc 63, 2) := by decide +kernel
theorem dX5_dine_28 : decode cX5_dine 28 = .ok (.invokevirtual 64, 3) := by decide +kernel
theorem dX5_dine_31 : decode cX5_dine 31 = .ok (.ireturn, 1) := by decide +kernel
theorem dX5_dine_32 : decode cX5_dine 32 = .ok (.iload_n 1, 1) := by decide +kernel
theorem dX5_dine_33 : decode cX5_dine 33 = .ok (.iload_n 2, 1) := by decide +kernel
theorem dX5_dine_34 : decode cX5_dine 34 = .ok (.invokestatic 96, 3) := by decide +kernel
theorem dX5_dine_37 : decode cX5_dine 37 = .ok (.istore 5, 2) := by decide +kernel
theorem dX5_dine_39 : decode cX5_dine 39 = .ok (.iload_n 3, 1) := by decide +kernel
theorem dX5_dine_40 : decode cX5_dine 40 = .ok (.iload 4, 2) := by decide +kernel
theorem dX5_dine_42 : decode cX5_dine 42 = .ok (.invokestatic 96, 3) := by decide +kernel
theorem dX5_dine_45 : decode cX5_dine 45 = .ok (.istore 6, 2) := by decide +kernel
theorem dX5_dine_47 : decode cX5_dine 47 = .ok (.iconst 0, 1) := by decide +kernel
theorem dX5_dine_48 : decode cX5_dine 48 = .ok (.istore 7, 2) := by decide +kernel
theorem dX5_dine_50 : decode cX5_dine 50 = .ok (.iload 7, 2) := by decide +kernel
theorem dX5_dine_52 : decode cX5_dine 52 = .ok (.bipush 64, 2) := by decide +kernel
theorem dX5_dine_54 : decode cX5_dine 54 = .ok (.if_icmp .gt 66, 3) := by decide +kernel
theorem dX5_dine_57 : decode cX5_dine 57 = .ok (.iload 5, 2) := by decide +kernel
theorem dX5_dine_59 : decode cX5_dine 59 = .ok (.invokestatic 139, 3) := by decide +kernel
theorem dX5_dine_62 : decode cX5_dine 62 = .ok (.iload 6, 2) := by decide +kernel
theorem dX5_dine_64 : decode cX5_dine 64 = .ok (.invokestatic 139, 3) := by decide +kernel
theorem dX5_dine_67 : decode cX5_dine 67 = .ok (.if_icmp .ne 6, 3) := by decide +kernel
theorem dX5_dine_70 : decode cX5_dine 70 = .ok (.iload 7, 2) := by decide +kernel
theorem dX5_dine_72 : decode cX5_dine 72 = .ok (.ireturn, 1) := by decide +kernel
theorem dX5_dine_73 : decode cX5_dine 73 = .ok (.aload_n 0, 1) := by decide +kernel
theorem dX5_dine_74 : decode cX5_dine 74 = .ok (.getfield 12, 3) := by decide +kernel
theorem dX5_dine_77 : decode cX5_dine 77 = .ok (.iload 5, 2) := by decide +kernel
theorem dX5_dine_79 : decode cX5_dine 79 = .ok (.invokevirtual 178, 3) := by decide +kernel
theorem dX5_dine_82 : decode cX5_dine 82 = .ok (.istore 5, 2) := by decide +kernel
theorem dX5_dine_84 : decode cX5_dine 84 = .ok (.aload_n 0, 1) := by decide +kernel
theorem dX5_dine_85 : decode cX5_dine 85 = .ok (.getfield 12, 3) := by decide +kernel
theorem dX5_dine_88 : decode cX5_dine 88 = .ok (.iload 6, 2) := by decide +kernel
theorem dX5_dine_90 : decode cX5_dine 90 = .ok (.invokevirtual 178, 3) := by decide +kernel
theorem dX5_dine_93 : decode cX5_dine 93 = .ok (.istore 6, 2) := by decide +kernel
theorem dX5_dine_95 : decode cX5_dine 95 = .ok (.iload 5, 2) := by decide +kernel
theorem dX5_dine_97 : decode cX5_dine 97 = .ok (.iconst (-1), 1) := by decide +kernel
theorem dX5_dine_98 : decode cX5_dine 98 = .ok (.if_icmp .eq 9, 3) := by decide +kernel
theorem dX5_dine_101 : decode cX5_dine 101 = .ok (.iload 6, 2) := by decide +kernel
theorem dX5_dine_103 : decode cX5_dine 103 = .ok (.iconst (-1), 1) := by decide +kernel
theorem dX5_dine_104 : decode cX5_dine 104 = .ok (.if_icmp .ne 10, 3) := by decide +kernel
theorem dX5_dine_107 : decode cX5_dine 107 = .ok (.aload_n 0, 1) := by decide +kernel
theorem dX5_dine_108 : decode cX5_dine 108 = .ok (.ldc 177, 2) := by decide +kernel
theorem dX5_dine_110 : decode cX5_dine 110 = .ok (.invokevirtual 64, 3) := by decide +kernel
theorem dX5_dine_113 : decode cX5_dine 113 = .ok (.ireturn, 1) := by decide +kernel
theorem dX5_dine_114 : decode cX5_dine 114 = .ok (.iinc 7 1, 3) := by decide +kernel
theorem dX5_dine_117 : decode cX5_dine 117 = .ok (.goto (-67), 3) := by decide +kernel
theorem dX5_dine_120 : decode cX5_dine 120 = .ok (.aload_n 0, 1) := by decide +kernel
theorem dX5_dine_121 : decode cX5_dine 121 = .ok (.ldc 177, 2) := by decide +kernel
theorem dX5_dine_123 : decode cX5_dine 123 = .ok (.invokevirtual 64, 3) := by decide +kernel
theorem dX5_dine_126 : decode cX5_dine 126 = .ok (.ireturn, 1) := by decide +kernel
theorem dX5_sees_0 : decode cX5_sees 0 = .ok (.aload_n 0, 1) := by decide +kernel
theorem dX5_sees_1 : decode cX5_sees 1 = .ok (.getfield 12, 3) := by decide +kernel
theorem dX5_sees_4 : decode cX5_sees 4 = .ok (.iload_n 1, 1) := by decide +kernel
theorem dX5_sees_5 : decode cX5_sees 5 = .ok (.iload_n 2, 1) := by decide +kernel
theorem dX5_sees_6 : decode cX5_sees 6 = .ok (.invokevirtual 92, 3) := by decide +kernel
theorem dX5_sees_9 : decode cX5_sees 9 = .ok (.ifCond .ne 10, 3) := by decide +kernel
theorem dX5_sees_12 : decode cX5_sees 12 = .ok (.aload_n 0, 1) := by decide +kernel
theorem dX5_sees_13 : decode cX5_sees 13 = .ok (.ldc 63, 2) := by decide +kernel
theorem dX5_sees_15 : decode cX5_sees 15 = .ok (.invokevirtual 64, 3) := by decide +kernel
theorem dX5_sees_18 : decode cX5_sees 18 = .ok (.ireturn, 1) := by decide +kernel
theorem dX5_sees_19 : decode cX5_sees 19 = .ok (.aload_n 0, 1) := by decide +kernel
theorem dX5_sees_20 : decode cX5_sees 20 = .ok (.getfield 12, 3) := by decide +kernel
theorem dX5_sees_23 : decode cX5_sees 23 = .ok (.iload_n 1, 1) := by decide +kernel
theorem dX5_sees_24 : decode cX5_sees 24 = .ok (.iload_n 2, 1) := by decide +kernel
theorem dX5_sees_25 : decode cX5_sees 25 = .ok (.invokestatic 96, 3) := by decide +kernel
theorem dX5_sees_28 : decode cX5_sees 28 = .ok (.invokevirtual 187, 3) := by decide +kernel
theorem dX5_sees_31 : decode cX5_sees 31 = .ok (.ireturn, 1) := by decide +kernel
theorem dX5_twice_0 : decode cX5_twice 0 = .ok (.aload_n 0, 1) := by decide +kernel
theorem dX5_twice_1 : decode cX5_twice 1 = .ok (.getfield 12, 3) := by decide +kernel
theorem dX5_twice_4 : decode cX5_twice 4 = .ok (.iload_n 1, 1) := by decide +kernel
theorem dX5_twice_5 : decode cX5_twice 5 = .ok (.invokevirtual 76, 3) := by decide +kernel
theorem dX5_twice_8 : decode cX5_twice 8 = .ok (.ifCond .ne 10, 3) := by decide +kernel
theorem dX5_twice_11 : decode cX5_twice 11 = .ok (.aload_n 0, 1) := by decide +kernel
theorem dX5_twice_12 : decode cX5_twice 12 = .ok (.ldc 63, 2) := by decide +kernel
theorem dX5_twice_14 : decode cX5_twice 14 = .ok (.invokevirtual 64, 3) := by decide +kernel
theorem dX5_twice_17 : decode cX5_twice 17 = .ok (.ireturn, 1) := by decide +kernel
theorem dX5_twice_18 : decode cX5_twice 18 = .ok (.iconst 0, 1) := by decide +kernel
theorem dX5_twice_19 : decode cX5_twice 19 = .ok (.istore_n 2, 1) := by decide +kernel
theorem dX5_twice_20 : decode cX5_twice 20 = .ok (.iconst 0, 1) := by decide +kernel
theorem dX5_twice_21 : decode cX5_twice 21 = .ok (.istore_n 3, 1) := by decide +kernel
theorem dX5_twice_22 : decode cX5_twice 22 = .ok (.iconst 0, 1) := by decide +kernel
theorem dX5_twice_23 : decode cX5_twice 23 = .ok (.istore 4, 2) := by decide +kernel
theorem dX5_twice_25 : decode cX5_twice 25 = .ok (.iload 4, 2) := by decide +kernel
theorem dX5_twice_27 : decode cX5_twice 27 = .ok (.iconst 4, 1) := by decide +kernel
theorem dX5_twice_28 : decode cX5_twice 28 = .ok (.if_icmp .ge 36, 3) := by decide +kernel
theorem dX5_twice_31 : decode cX5_twice 31 = .ok (.aload_n 0, 1) := by decide +kernel
theorem dX5_twice_32 : decode cX5_twice 32 = .ok (.getfield 12, 3) := by decide +kernel
theorem dX5_twice_35 : decode cX5_twice 35 = .ok (.iload_n 1, 1) := by decide +kernel
theorem dX5_twice_36 : decode cX5_twice 36 = .ok (.iload 4, 2) := by decide +kernel
theorem dX5_twice_38 : decode cX5_twice 38 = .ok (.invokestatic 96, 3) := by decide +kernel
theorem dX5_twice_41 : decode cX5_twice 41 = .ok (.invokevirtual 187, 3) := by decide +kernel
theorem dX5_twice_44 : decode cX5_twice 44 = .ok (.istore 5, 2) := by decide +kernel
theorem dX5_twice_46 : decode cX5_twice 46 = .ok (.iload_n 3, 1) := by decide +kernel
theorem dX5_twice_47 : decode cX5_twice 47 = .ok (.iload_n 2, 1) := by decide +kernel
theorem dX5_twice_48 : decode cX5_twice 48 = .ok (.iload 5, 2) := by decide +kernel
theorem dX5_twice_50 : decode cX5_twice 50 = .ok (.iand, 1) := by decide +kernel
theorem dX5_twice_51 : decode cX5_twice 51 = .ok (.ior, 1) := by decide +kernel
theorem dX5_twice_52 : decode cX5_twice 52 = .ok (.istore_n 3, 1) := by decide +kernel
theorem dX5_twice_53 : decode cX5_twice 53 = .ok (.iload_n 2, 1) := by decide +kernel
theorem dX5_twice_54 : decode cX5_twice 54 = .ok (.iload 5, 2) := by decide +kernel
theorem dX5_twice_56 : decode cX5_twice 56 = .ok (.ior, 1) := by decide +kernel
theorem dX5_twice_57 : decode cX5_twice 57 = .ok (.istore_n 2, 1) := by decide +kernel
theorem dX5_twice_58 : decode cX5_twice 58 = .ok (.iinc 4 1, 3) := by decide +kernel
theorem dX5_twice_61 : decode cX5_twice 61 = .ok (.goto (-36), 3) := by decide +kernel
theorem dX5_twice_64 : decode cX5_twice 64 = .ok (.iload_n 3, 1) := by decide +kernel
theorem dX5_twice_65 : decode cX5_twice 65 = .ok (.iconst 1, 1) := by decide +kernel
theorem dX5_twice_66 : decode cX5_twice 66 = .ok (.iload_n 1, 1) := by decide +kernel
theorem dX5_twice_67 : decode cX5_twice 67 = .ok (.ishl, 1) := by decide +kernel
theorem dX5_twice_68 : decode cX5_twice 68 = .ok (.iconst (-1), 1) := by decide +kernel
theorem dX5_twice_69 : decode cX5_twice 69 = .ok (.ixor, 1) := by decide +kernel
theorem dX5_twice_70 : decode cX5_twice 70 = .ok (.iand, 1) := by decide +kernel
theorem dX5_twice_71 : decode cX5_twice 71 = .ok (.invokestatic 190, 3) := by decide +kernel
theorem dX5_twice_74 : decode cX5_twice 74 = .ok (.ireturn, 1) := by decide +kernel
theorem dX5_about_0 : decode cX5_about 0 = .ok (.aload_n 0, 1) := by decide +kernel
theorem dX5_about_1 : decode cX5_about 1 = .ok (.getfield 12, 3) := by decide +kernel
theorem dX5_about_4 : decode cX5_about 4 = .ok (.iload_n 1, 1) := by decide +kernel
theorem dX5_about_5 : decode cX5_about 5 = .ok (.iload_n 2, 1) := by decide +kernel
theorem dX5_about_6 : decode cX5_about 6 = .ok (.invokevirtual 92, 3) := by decide +kernel
theorem dX5_about_9 : decode cX5_about 9 = .ok (.ifCond .ne 10, 3) := by decide +kernel
theorem dX5_about_12 : decode cX5_about 12 = .ok (.aload_n 0, 1) := by decide +kernel
theorem dX5_about_13 : decode cX5_about 13 = .ok (.ldc 63, 2) := by decide +kernel
theorem dX5_about_15 : decode cX5_about 15 = .ok (.invokevirtual 64, 3) := by decide +kernel
theorem dX5_about_18 : decode cX5_about 18 = .ok (.ireturn, 1) := by decide +kernel
theorem dX5_about_19 : decode cX5_about 19 = .ok (.aload_n 0, 1) := by decide +kernel
theorem dX5_about_20 : decode cX5_about 20 = .ok (.getfield 12, 3) := by decide +kernel
theorem dX5_about_23 : decode cX5_about 23 = .ok (.iload_n 1, 1) := by decide +kernel
theorem dX5_about_24 : decode cX5_about 24 = .ok (.iload_n 2, 1) := by decide +kernel
theorem dX5_about_25 : decode cX5_about 25 = .ok (.invokestatic 96, 3) := by decide +kernel
theorem dX5_about_28 : decode cX5_about 28 = .ok (.invokevirtual 195, 3) := by decide +kernel
theorem dX5_about_31 : decode cX5_about 31 = .ok (.lstore_n 3, 1) := by decide +kernel
theorem dX5_about_32 : decode cX5_about 32 = .ok (.lload_n 3, 1) := by decide +kernel
theorem dX5_about_33 : decode cX5_about 33 = .ok (.lconst 0, 1) := by decide +kernel
theorem dX5_about_34 : decode cX5_about 34 = .ok (.lcmp, 1) := by decide +kernel
theorem dX5_about_35 : decode cX5_about 35 = .ok (.ifCond .ne 12, 3) := by decide +kernel
theorem dX5_about_38 : decode cX5_about 38 = .ok (.aload_n 0, 1) := by decide +kernel
theorem dX5_about_39 : decode cX5_about 39 = .ok (.ldc 177, 2) := by decide +kernel
theorem dX5_about_41 : decode cX5_about 41 = .ok (.invokevirtual 64, 3) := by decide +kernel
theorem dX5_about_44 : decode cX5_about 44 = .ok (.goto 7, 3) := by decide +kernel
theorem dX5_about_47 : decode cX5_about 47 = .ok (.lload_n 3, 1) := by decide +kernel
theorem dX5_about_48 : decode cX5_about 48 = .ok (.invokestatic 199, 3) := by decide +kernel
theorem dX5_about_51 : decode cX5_about 51 = .ok (.ireturn, 1) := by decide +kernel
theorem dX5_corners_0 : decode cX5_corners 0 = .ok (.aload_n 0, 1) := by decide +kernel
theorem dX5_corners_1 : decode cX5_corners 1 = .ok (.getfield 12, 3) := by decide +kernel
theorem dX5_corners_4 : decode cX5_corners 4 = .ok (.iconst 1, 1) := by decide +kernel
theorem dX5_corners_5 : decode cX5_corners 5 = .ok (.iconst 0, 1) := by decide +kernel
theorem dX5_corners_6 : decode cX5_corners 6 = .ok (.invokevirtual 204, 3) := by decide +kernel
theorem dX5_corners_9 : decode cX5_corners 9 = .ok (.ireturn, 1) := by decide +kernel
theorem dX5_excess_0 : decode cX5_excess 0 = .ok (.aload_n 0, 1) := by decide +kernel
theorem dX5_excess_1 : decode cX5_excess 1 = .ok (.getfield 12, 3) := by decide +kernel
theorem dX5_excess_4 : decode cX5_excess 4 = .ok (.iconst 4, 1) := by decide +kernel
theorem dX5_excess_5 : decode cX5_excess 5 = .ok (.iconst 1, 1) := by decide +kernel
theorem dX5_excess_6 : decode cX5_excess 6 = .ok (.invokevirtual 204, 3) := by decide +kernel
theorem dX5_excess_9 : decode cX5_excess 9 = .ok (.ireturn, 1) := by decide +kernel
theorem dX5_bent_0 : decode cX5_bent 0 = .ok (.iconst 0, 1) := by decide +kernel
theorem dX5_bent_1 : decode cX5_bent 1 = .ok (.istore_n 1, 1) := by decide +kernel
theorem dX5_bent_2 : decode cX5_bent 2 = .ok (.iconst 0, 1) := by decide +kernel
theorem dX5_bent_3 : decode cX5_bent 3 = .ok (.istore_n 2, 1) := by decide +kernel
theorem dX5_bent_4 : decode cX5_bent 4 = .ok (.iload_n 2, 1) := by decide +kernel
theorem dX5_bent_5 : decode cX5_bent 5 = .ok (.aload_n 0, 1) := by decide +kernel
theorem dX5_bent_6 : decode cX5_bent 6 = .ok (.getfield 12, 3) := by decide +kernel
theorem dX5_bent_9 : decode cX5_bent 9 = .ok (.invokevirtual 207, 3) := by decide +kernel
theorem dX5_bent_12 : decode cX5_bent 12 = .ok (.if_icmp .ge 41, 3) := by decide +kernel
theorem dX5_bent_15 : decode cX5_bent 15 = .ok (.aload_n 0, 1) := by decide +kernel
theorem dX5_bent_16 : decode cX5_bent 16 = .ok (.getfield 12, 3) := by decide +kernel
theorem dX5_bent_19 : decode cX5_bent 19 = .ok (.iload_n 2, 1) := by decide +kernel
theorem dX5_bent_20 : decode cX5_bent 20 = .ok (.invokevirtual 195, 3) := by decide +kernel
theorem dX5_bent_23 : decode cX5_bent 23 = .ok (.lstore_n 3, 1) := by decide +kernel
theorem dX5_bent_24 : decode cX5_bent 24 = .ok (.lload_n 3, 1) := by decide +kernel
theorem dX5_bent_25 : decode cX5_bent 25 = .ok (.lconst 0, 1) := by decide +kernel
theorem dX5_bent_26 : decode cX5_bent 26 = .ok (.lcmp, 1) := by decide +kernel
theorem dX5_bent_27 : decode cX5_bent 27 = .ok (.ifCond .eq 20, 3) := by decide +kernel
theorem dX5_bent_30 : decode cX5_bent 30 = .ok (.lload_n 3, 1) := by decide +kernel
theorem dX5_bent_31 : decode cX5_bent 31 = .ok (.invokestatic 199, 3) := by decide +kernel
theorem dX5_bent_34 : decode cX5_bent 34 = .ok (.iconst 4, 1) := by decide +kernel
theorem dX5_bent_35 : decode cX5_bent 35 = .ok (.if_icmp .eq 12, 3) := by decide +kernel
theorem dX5_bent_38 : decode cX5_bent 38 = .ok (.iload_n 1, 1) := by decide +kernel
theorem dX5_bent_39 : decode cX5_bent 39 = .ok (.iconst 1, 1) := by decide +kernel
theorem dX5_bent_40 : decode cX5_bent 40 = .ok (.iload_n 2, 1) := by decide +kernel
theorem dX5_bent_41 : decode cX5_bent 41 = .ok (.invokestatic 139, 3) := by decide +kernel
theorem dX5_bent_44 : decode cX5_bent 44 = .ok (.ishl, 1) := by decide +kernel
theorem dX5_bent_45 : decode cX5_bent 45 = .ok (.ior, 1) := by decide +kernel
theorem dX5_bent_46 : decode cX5_bent 46 = .ok (.istore_n 1, 1) := by decide +kernel
theorem dX5_bent_47 : decode cX5_bent 47 = .ok (.iinc 2 1, 3) := by decide +kernel
theorem dX5_bent_50 : decode cX5_bent 50 = .ok (.goto (-46), 3) := by decide +kernel
theorem dX5_bent_53 : decode cX5_bent 53 = .ok (.iload_n 1, 1) := by decide +kernel
theorem dX5_bent_54 : decode cX5_bent 54 = .ok (.ireturn, 1) := by decide +kernel
theorem dX5_parts_0 : decode cX5_parts 0 = .ok (.iconst 0, 1) := by decide +kernel
theorem dX5_parts_1 : decode cX5_parts 1 = .ok (.istore_n 1, 1) := by decide +kernel
theorem dX5_parts_2 : decode cX5_parts 2 = .ok (.iconst 0, 1) := by decide +kernel
theorem dX5_parts_3 : decode cX5_parts 3 = .ok (.istore_n 2, 1) := by decide +kernel
theorem dX5_parts_4 : decode cX5_parts 4 = .ok (.iconst 0, 1) := by decide +kernel
theorem dX5_parts_5 : decode cX5_parts 5 = .ok (.istore_n 3, 1) := by decide +kernel
theorem dX5_parts_6 : decode cX5_parts 6 = .ok (.iload_n 3, 1) := by decide +kernel
theorem dX5_parts_7 : decode cX5_parts 7 = .ok (.aload_n 0, 1) := by decide +kernel
theorem dX5_parts_8 : decode cX5_parts 8 = .ok (.getfield 12, 3) := by decide +kernel
theorem dX5_parts_11 : decode cX5_parts 11 = .ok (.getfield 68, 3) := by decide +kernel
theorem dX5_parts_14 : decode cX5_parts 14 = .ok (.if_icmp .ge 42, 3) := by decide +kernel
theorem dX5_parts_17 : decode cX5_parts 17 = .ok (.iload_n 1, 1) := by decide +kernel
theorem dX5_parts_18 : decode cX5_parts 18 = .ok (.iload_n 3, 1) := by decide +kernel
theorem dX5_parts_19 : decode cX5_parts 19 = .ok (.ishr, 1) := by decide +kernel
theorem dX5_parts_20 : decode cX5_parts 20 = .ok (.iconst 1, 1) := by decide +kernel
theorem dX5_parts_21 : decode cX5_parts 21 = .ok (.iand, 1) := by decide +kernel
theorem dX5_parts_22 : decode cX5_parts 22 = .ok (.ifCond .ne 28, 3) := by decide +kernel
theorem dX5_parts_25 : decode cX5_parts 25 = .ok (.iinc 2 1, 3) := by decide +kernel
theorem dX5_parts_28 : decode cX5_parts 28 = .ok (.aload_n 0, 1) := by decide +kernel
theorem dX5_parts_29 : decode cX5_parts 29 = .ok (.getfield 12, 3) := by decide +kernel
theorem dX5_parts_32 : decode cX5_parts 32 = .ok (.aload_n 0, 1) := by decide +kernel
theorem dX5_parts_33 : decode cX5_parts 33 = .ok (.getfield 32, 3) := by decide +kernel
theorem dX5_parts_36 : decode cX5_parts 36 = .ok (.iload_n 3, 1) := by decide +kernel
theorem dX5_parts_37 : decode cX5_parts 37 = .ok (.iconst 0, 1) := by decide +kernel
theorem dX5_parts_38 : decode cX5_parts 38 = .ok (.invokevirtual 210, 3) := by decide +kernel
theorem dX5_parts_41 : decode cX5_parts 41 = .ok (.iload_n 1, 1) := by decide +kernel
theorem dX5_parts_42 : decode cX5_parts 42 = .ok (.aload_n 0, 1) := by decide +kernel
theorem dX5_parts_43 : decode cX5_parts 43 = .ok (.ldc 214, 2) := by decide +kernel
theorem dX5_parts_45 : decode cX5_parts 45 = .ok (.invokevirtual 215, 3) := by decide +kernel
theorem dX5_parts_48 : decode cX5_parts 48 = .ok (.ior, 1) := by decide +kernel
theorem dX5_parts_49 : decode cX5_parts 49 = .ok (.istore_n 1, 1) := by decide +kernel
theorem dX5_parts_50 : decode cX5_parts 50 = .ok (.iinc 3 1, 3) := by decide +kernel
theorem dX5_parts_53 : decode cX5_parts 53 = .ok (.goto (-47), 3) := by decide +kernel
theorem dX5_parts_56 : decode cX5_parts 56 = .ok (.iload_n 2, 1) := by decide +kernel
theorem dX5_parts_57 : decode cX5_parts 57 = .ok (.ireturn, 1) := by decide +kernel
theorem dX5_far_0 : decode cX5_far 0 = .ok (.aload_n 0, 1) := by decide +kernel
theorem dX5_far_1 : decode cX5_far 1 = .ok (.iload_n 1, 1) := by decide +kernel
theorem dX5_far_2 : decode cX5_far 2 = .ok (.iload_n 2, 1) := by decide +kernel
theorem dX5_far_3 : decode cX5_far 3 = .ok (.iconst 0, 1) := by decide +kernel
theorem dX5_far_4 : decode cX5_far 4 = .ok (.invokevirtual 218, 3) := by decide +kernel
theorem dX5_far_7 : decode cX5_far 7 = .ok (.ireturn, 1) := by decide +kernel
theorem dX5_smooth_0 : decode cX5_smooth 0 = .ok (.aload_n 0, 1) := by decide +kernel
theorem dX5_smooth_1 : decode cX5_smooth 1 = .ok (.iload_n 1, 1) := by decide +kernel
theorem dX5_smooth_2 : decode cX5_smooth 2 = .ok (.iload_n 2, 1) := by decide +kernel
theorem dX5_smooth_3 : decode cX5_smooth 3 = .ok (.iconst 1, 1) := by decide +kernel
theorem dX5_smooth_4 : decode cX5_smooth 4 = .ok (.invokevirtual 218, 3) := by decide +kernel
theorem dX5_smooth_7 : decode cX5_smooth 7 = .ok (.ireturn, 1) := by decide +kernel
theorem dX5_turns_0 : decode cX5_turns 0 = .ok (.aload_n 0, 1) := by decide +kernel
theorem dX5_turns_1 : decode cX5_turns 1 = .ok (.getfield 12, 3) := by decide +kernel
theorem dX5_turns_4 : decode cX5_turns 4 = .ok (.iload_n 1, 1) := by decide +kernel
theorem dX5_turns_5 : decode cX5_turns 5 = .ok (.iload_n 2, 1) := by decide +kernel
theorem dX5_turns_6 : decode cX5_turns 6 = .ok (.invokevirtual 92, 3) := by decide +kernel
theorem dX5_turns_9 : decode cX5_turns 9 = .ok (.ifCond .eq 14, 3) := by decide +kernel
theorem dX5_turns_12 : decode cX5_turns 12 = .ok (.aload_n 0, 1) := by decide +kernel
theorem dX5_turns_13 : decode cX5_turns 13 = .ok (.getfield 12, 3) := by decide +kernel
theorem dX5_turns_16 : decode cX5_turns 16 = .ok (.iload_n 3, 1) := by decide +kernel
theorem dX5_turns_17 : decode cX5_turns 17 = .ok (.invokevirtual 76, 3) := by decide +kernel
theorem dX5_turns_20 : decode cX5_turns 20 = .ok (.ifCond .ne 10, 3) := by decide +kernel
theorem dX5_turns_23 : decode cX5_turns 23 = .ok (.aload_n 0, 1) := by decide +kernel
theorem dX5_turns_24 : decode cX5_turns 24 = .ok (.ldc 63, 2) := by decide +kernel
theorem dX5_turns_26 : decode cX5_turns 26 = .ok (.invokevirtual 64, 3) := by decide +kernel
theorem dX5_turns_29 : decode cX5_turns 29 = .ok (.ireturn, 1) := by decide +kernel
theorem dX5_turns_30 : decode cX5_turns 30 = .ok (.aload_n 0, 1) := by decide +kernel
theorem dX5_turns_31 : decode cX5_turns 31 = .ok (.getfield 12, 3) := by decide +kernel
theorem dX5_turns_34 : decode cX5_turns 34 = .ok (.aload_n 0, 1) := by decide +kernel
theorem dX5_turns_35 : decode cX5_turns 35 = .ok (.getfield 39, 3) := by decide +kernel
theorem dX5_turns_38 : decode cX5_turns 38 = .ok (.iload_n 1, 1) := by decide +kernel
theorem dX5_turns_39 : decode cX5_turns 39 = .ok (.iload_n 2, 1) := by decide +kernel
theorem dX5_turns_40 : decode cX5_turns 40 = .ok (.invokestatic 96, 3) := by decide +kernel
theorem dX5_turns_43 : decode cX5_turns 43 = .ok (.invokevirtual 222, 3) := by decide +kernel
theorem dX5_turns_46 : decode cX5_turns 46 = .ok (.ldc 226, 2) := by decide +kernel
theorem dX5_turns_48 : decode cX5_turns 48 = .ok (.istore 4, 2) := by decide +kernel
theorem dX5_turns_50 : decode cX5_turns 50 = .ok (.iconst 0, 1) := by decide +kernel
theorem dX5_turns_51 : decode cX5_turns 51 = .ok (.istore 5, 2) := by decide +kernel
theorem dX5_turns_53 : decode cX5_turns 53 = .ok (.iload 5, 2) := by decide +kernel
theorem dX5_turns_55 : decode cX5_turns 55 = .ok (.iconst 4, 1) := by decide +kernel
theorem dX5_turns_56 : decode cX5_turns 56 = .ok (.if_icmp .ge 27, 3) := by decide +kernel
theorem dX5_turns_59 : decode cX5_turns 59 = .ok (.iload 4, 2) := by decide +kernel
theorem dX5_turns_61 : decode cX5_turns 61 = .ok (.aload_n 0, 1) := by decide +kernel
theorem dX5_turns_62 : decode cX5_turns 62 = .ok (.getfield 39, 3) := by decide +kernel
theorem dX5_turns_65 : decode cX5_turns 65 = .ok (.iload_n 3, 1) := by decide +kernel
theorem dX5_turns_66 : decode cX5_turns 66 = .ok (.iload 5, 2) := by decide +kernel
theorem dX5_turns_68 : decode cX5_turns 68 = .ok (.invokestatic 96, 3) := by decide +kernel
theorem dX5_turns_71 : decode cX5_turns 71 = .ok (.iaload, 1) := by decide +kernel
theorem dX5_turns_72 : decode cX5_turns 72 = .ok (.invokestatic 227, 3) := by decide +kernel
theorem dX5_turns_75 : decode cX5_turns 75 = .ok (.istore 4, 2) := by decide +kernel
theorem dX5_turns_77 : decode cX5_turns 77 = .ok (.iinc 5 1, 3) := by decide +kernel
theorem dX5_turns_80 : decode cX5_turns 80 = .ok (.goto (-27), 3) := by decide +kernel
theorem dX5_turns_83 : decode cX5_turns 83 = .ok (.iload 4, 2) := by decide +kernel
theorem dX5_turns_85 : decode cX5_turns 85 = .ok (.ldc 226, 2) := by decide +kernel
theorem dX5_turns_87 : decode cX5_turns 87 = .ok (.if_icmp .ne 12, 3) := by decide +kernel
theorem dX5_turns_90 : decode cX5_turns 90 = .ok (.aload_n 0, 1) := by decide +kernel
theorem dX5_turns_91 : decode cX5_turns 91 = .ok (.ldc 177, 2) := by decide +kernel
theorem dX5_turns_93 : decode cX5_turns 93 = .ok (.invokevirtual 64, 3) := by decide +kernel
theorem dX5_turns_96 : decode cX5_turns 96 = .ok (.goto 5, 3) := by decide +kernel
theorem dX5_turns_99 : decode cX5_turns 99 = .ok (.iload 4, 2) := by decide +kernel
theorem dX5_turns_101 : decode cX5_turns 101 = .ok (.ireturn, 1) := by decide +kernel
theorem dX5_within_0 : decode cX5_within 0 = .ok (.aload_n 0, 1) := by decide +kernel
theorem dX5_within_1 : decode cX5_within 1 = .ok (.getfield 12, 3) := by decide +kernel
theorem dX5_within_4 : decode cX5_within 4 = .ok (.iload_n 1, 1) := by decide +kernel
theorem dX5_within_5 : decode cX5_within 5 = .ok (.invokevirtual 76, 3) := by decide +kernel
theorem dX5_within_8 : decode cX5_within 8 = .ok (.ifCond .eq 13, 3) := by decide +kernel
theorem dX5_within_11 : decode cX5_within 11 = .ok (.iload_n 2, 1) := by decide +kernel
theorem dX5_within_12 : decode cX5_within 12 = .ok (.ifCond .lt 9, 3) := by decide +kernel
theorem dX5_within_15 : decode cX5_within 15 = .ok (.iload_n 2, 1) := by decide +kernel
theorem dX5_within_16 : decode cX5_within 16 = .ok (.bipush 16, 2) := by decide +kernel
theorem dX5_within_18 : decode cX5_within 18 = .ok (.if_icmp .le 10, 3) := by decide +kernel
theorem dX5_within_21 : decode cX5_within 21 = .ok (.aload_n 0, 1) := by decide +kernel
theorem dX5_within_22 : decode cX5_within 22 = .ok (.ldc 63, 2) := by decide +kernel
theorem dX5_within_24 : decode cX5_within 24 = .ok (.invokevirtual 64, 3) := by decide +kernel
theorem dX5_within_27 : decode cX5_within 27 = .ok (.ireturn, 1) := by decide +kernel
theorem dX5_within_28 : decode cX5_within 28 = .ok (.aload_n 0, 1) := by decide +kernel
theorem dX5_within_29 : decode cX5_within 29 = .ok (.getfield 12, 3) := by decide +kernel
theorem dX5_within_32 : decode cX5_within 32 = .ok (.aload_n 0, 1) := by decide +kernel
theorem dX5_within_33 : decode cX5_within 33 = .ok (.getfield 32, 3) := by decide +kernel
theorem dX5_within_36 : decode cX5_within 36 = .ok (.iload_n 1, 1) := by decide +kernel
theorem dX5_within_37 : decode cX5_within 37 = .ok (.iconst 0, 1) := by decide +kernel
theorem dX5_within_38 : decode cX5_within 38 = .ok (.invokevirtual 210, 3) := by decide +kernel
theorem dX5_within_41 : decode cX5_within 41 = .ok (.aload_n 0, 1) := by decide +kernel
theorem dX5_within_42 : decode cX5_within 42 = .ok (.iload_n 2, 1) := by decide +kernel
theorem dX5_within_43 : decode cX5_within 43 = .ok (.invokevirtual 215, 3) := by decide +kernel
theorem dX5_within_46 : decode cX5_within 46 = .ok (.invokestatic 190, 3) := by decide +kernel
theorem dX5_within_49 : decode cX5_within 49 = .ok (.ireturn, 1) := by decide +kernel
theorem dX5_mends_0 : decode cX5_mends 0 = .ok (.aload_n 0, 1) := by decide +kernel
theorem dX5_mends_1 : decode cX5_mends 1 = .ok (.getfield 12, 3) := by decide +kernel
theorem dX5_mends_4 : decode cX5_mends 4 = .ok (.iload_n 1, 1) := by decide +kernel
theorem dX5_mends_5 : decode cX5_mends 5 = .ok (.invokevirtual 76, 3) := by decide +kernel
theorem dX5_mends_8 : decode cX5_mends 8 = .ok (.ifCond .eq 14, 3) := by decide +kernel
theorem dX5_mends_11 : decode cX5_mends 11 = .ok (.aload_n 0, 1) := by decide +kernel
theorem dX5_mends_12 : decode cX5_mends 12 = .ok (.getfield 12, 3) := by decide +kernel
theorem dX5_mends_15 : decode cX5_mends 15 = .ok (.iload_n 2, 1) := by decide +kernel
theorem dX5_mends_16 : decode cX5_mends 16 = .ok (.invokevirtual 76, 3) := by decide +kernel
theorem dX5_mends_19 : decode cX5_mends 19 = .ok (.ifCond .ne 10, 3) := by decide +kernel
theorem dX5_mends_22 : decode cX5_mends 22 = .ok (.aload_n 0, 1) := by decide +kernel
theorem dX5_mends_23 : decode cX5_mends 23 = .ok (.ldc 63, 2) := by decide +kernel
theorem dX5_mends_25 : decode cX5_mends 25 = .ok (.invokevirtual 64, 3) := by decide +kernel
theorem dX5_mends_28 : decode cX5_mends 28 = .ok (.ireturn, 1) := by decide +kernel
theorem dX5_mends_29 : decode cX5_mends 29 = .ok (.aload_n 0, 1) := by decide +kernel
theorem dX5_mends_30 : decode cX5_mends 30 = .ok (.getfield 12, 3) := by decide +kernel
theorem dX5_mends_33 : decode cX5_mends 33 = .ok (.aload_n 0, 1) := by decide +kernel
theorem dX5_mends_34 : decode cX5_mends 34 = .ok (.getfield 32, 3) := by decide +kernel
theorem dX5_mends_37 : decode cX5_mends 37 = .ok (.iload_n 1, 1) := by decide +kernel
theorem dX5_mends_38 : decode cX5_mends 38 = .ok (.iconst 0, 1) := by decide +kernel
theorem dX5_mends_39 : decode cX5_mends 39 = .ok (.invokevirtual 210, 3) := by decide +kernel
theorem dX5_mends_42 : decode cX5_mends 42 = .ok (.aload_n 0, 1) := by decide +kernel
theorem dX5_mends_43 : decode cX5_mends 43 = .ok (.getfield 12, 3) := by decide +kernel
theorem dX5_mends_46 : decode cX5_mends 46 = .ok (.aload_n 0, 1) := by decide +kernel
theorem dX5_mends_47 : decode cX5_mends 47 = .ok (.getfield 36, 3) := by decide +kernel
theorem dX5_mends_50 : decode cX5_mends 50 = .ok (.iload_n 2, 1) := by decide +kernel
theorem dX5_mends_51 : decode cX5_mends 51 = .ok (.iconst 0, 1) := by decide +kernel
theorem dX5_mends_52 : decode cX5_mends 52 = .ok (.invokevirtual 210, 3) := by decide +kernel
theorem dX5_mends_55 : decode cX5_mends 55 = .ok (.aload_n 0, 1) := by decide +kernel
theorem dX5_mends_56 : decode cX5_mends 56 = .ok (.getfield 32, 3) := by decide +kernel
theorem dX5_mends_59 : decode cX5_mends 59 = .ok (.iload_n 2, 1) := by decide +kernel
theorem dX5_mends_60 : decode cX5_mends 60 = .ok (.iaload, 1) := by decide +kernel
theorem dX5_mends_61 : decode cX5_mends 61 = .ok (.istore_n 3, 1) := by decide +kernel
theorem dX5_mends_62 : decode cX5_mends 62 = .ok (.iconst (-1), 1) := by decide +kernel
theorem dX5_mends_63 : decode cX5_mends 63 = .ok (.istore 4, 2) := by decide +kernel
theorem dX5_mends_65 : decode cX5_mends 65 = .ok (.iconst 0, 1) := by decide +kernel
theorem dX5_mends_66 : decode cX5_mends 66 = .ok (.istore 5, 2) := by decide +kernel
theorem dX5_mends_68 : decode cX5_mends 68 = .ok (.iload 5, 2) := by decide +kernel
theorem dX5_mends_70 : decode cX5_mends 70 = .ok (.aload_n 0, 1) := by decide +kernel
theorem dX5_mends_71 : decode cX5_mends 71 = .ok (.getfield 12, 3) := by decide +kernel
theorem dX5_mends_74 : decode cX5_mends 74 = .ok (.invokevirtual 207, 3) := by decide +kernel
theorem dX5_mends_77 : decode cX5_mends 77 = .ok (.if_icmp .ge 92, 3) := by decide +kernel
theorem dX5_mends_80 : decode cX5_mends 80 = .ok (.iload 5, 2) := by decide +kernel
theorem dX5_mends_82 : decode cX5_mends 82 = .ok (.iconst 1, 1) := by decide +kernel
theorem dX5_mends_83 : decode cX5_mends 83 = .ok (.iadd, 1) := by decide +kernel
theorem dX5_mends_84 : decode cX5_mends 84 = .ok (.istore 6, 2) := by decide +kernel
theorem dX5_mends_86 : decode cX5_mends 86 = .ok (.iload 6, 2) := by decide +kernel
theorem dX5_mends_88 : decode cX5_mends 88 = .ok (.aload_n 0, 1) := by decide +kernel
theorem dX5_mends_89 : decode cX5_mends 89 = .ok (.getfield 12, 3) := by decide +kernel
theorem dX5_mends_92 : decode cX5_mends 92 = .ok (.invokevirtual 207, 3) := by decide +kernel
theorem dX5_mends_95 : decode cX5_mends 95 = .ok (.if_icmp .ge 68, 3) := by decide +kernel
theorem dX5_mends_98 : decode cX5_mends 98 = .ok (.aload_n 0, 1) := by decide +kernel
theorem dX5_mends_99 : decode cX5_mends 99 = .ok (.getfield 12, 3) := by decide +kernel
theorem dX5_mends_102 : decode cX5_mends 102 = .ok (.iload 5, 2) := by decide +kernel
theorem dX5_mends_104 : decode cX5_mends 104 = .ok (.invokevirtual 100, 3) := by decide +kernel
theorem dX5_mends_107 : decode cX5_mends 107 = .ok (.ifCond .eq 56, 3) := by decide +kernel
theorem dX5_mends_110 : decode cX5_mends 110 = .ok (.aload_n 0, 1) := by decide +kernel
theorem dX5_mends_111 : decode cX5_mends 111 = .ok (.iload 5, 2) := by decide +kernel
theorem dX5_mends_113 : decode cX5_mends 113 = .ok (.invokestatic 139, 3) := by decide +kernel
theorem dX5_mends_116 : decode cX5_mends 116 = .ok (.iload 6, 2) := by decide +kernel
theorem dX5_mends_118 : decode cX5_mends 118 = .ok (.invokestatic 139, 3) := by decide +kernel
theorem dX5_mends_121 : decode cX5_mends 121 = .ok (.invokevirtual 232, 3) := by decide +kernel
theorem dX5_mends_124 : decode cX5_mends 124 = .ok (.istore 7, 2) := by decide +kernel
theorem dX5_mends_126 : decode cX5_mends 126 = .ok (.iload 7, 2) := by decide +kernel
theorem dX5_mends_128 : decode cX5_mends 128 = .ok (.iload_n 3, 1) := by decide +kernel
theorem dX5_mends_129 : decode cX5_mends 129 = .ok (.if_icmp .ge 28, 3) := by decide +kernel
theorem dX5_mends_132 : decode cX5_mends 132 = .ok (.aload_n 0, 1) := by decide +kernel
theorem dX5_mends_133 : decode cX5_mends 133 = .ok (.getfield 12, 3) := by decide +kernel
theorem dX5_mends_136 : decode cX5_mends 136 = .ok (.iload 6, 2) := by decide +kernel
theorem dX5_mends_138 : decode cX5_mends 138 = .ok (.invokevirtual 100, 3) := by decide +kernel
theorem dX5_mends_141 : decode cX5_mends 141 = .ok (.ifCond .eq 16, 3) := by decide +kernel
theorem dX5_mends_144 : decode cX5_mends 144 = .ok (.iload 7, 2) := by decide +kernel
theorem dX5_mends_146 : decode cX5_mends 146 = .ok (.istore_n 3, 1) := by decide +kernel
theorem dX5_mends_147 : decode cX5_mends 147 = .ok (.bipush 64, 2) := by decide +kernel
theorem dX5_mends_149 : decode cX5_mends 149 = .ok (.iload 5, 2) := by decide +kernel
theorem dX5_mends_151 : decode cX5_mends 151 = .ok (.imul, 1) := by decide +kernel
theorem dX5_mends_152 : decode cX5_mends 152 = .ok (.iload 6, 2) := by decide +kernel
theorem dX5_mends_154 : decode cX5_mends 154 = .ok (.iadd, 1) := by decide +kernel
theorem dX5_mends_155 : decode cX5_mends 155 = .ok (.istore 4, 2) := by decide +kernel
theorem dX5_mends_157 : decode cX5_mends 157 = .ok (.iinc 6 1, 3) := by decide +kernel
theorem dX5_mends_160 : decode cX5_mends 160 = .ok (.goto (-74), 3) := by decide +kernel
theorem dX5_mends_163 : decode cX5_mends 163 = .ok (.iinc 5 1, 3) := by decide +kernel
theorem dX5_mends_166 : decode cX5_mends 166 = .ok (.goto (-98), 3) := by decide +kernel
theorem dX5_mends_169 : decode cX5_mends 169 = .ok (.aload_n 0, 1) := by decide +kernel
theorem dX5_mends_170 : decode cX5_mends 170 = .ok (.iload 4, 2) := by decide +kernel
theorem dX5_mends_172 : decode cX5_mends 172 = .ok (.invokevirtual 114, 3) := by decide +kernel
theorem dX5_mends_175 : decode cX5_mends 175 = .ok (.ireturn, 1) := by decide +kernel
theorem dX5_feed_0 : decode cX5_feed 0 = .ok (.iload_n 2, 1) := by decide +kernel
theorem dX5_feed_1 : decode cX5_feed 1 = .ok (.iconst 1, 1) := by decide +kernel
theorem dX5_feed_2 : decode cX5_feed 2 = .ok (.if_icmp .lt 8, 3) := by decide +kernel
theorem dX5_feed_5 : decode cX5_feed 5 = .ok (.iload_n 2, 1) := by decide +kernel
theorem dX5_feed_6 : decode cX5_feed 6 = .ok (.iconst 4, 1) := by decide +kernel
theorem dX5_feed_7 : decode cX5_feed 7 = .ok (.if_icmp .le 10, 3) := by decide +kernel
theorem dX5_feed_10 : decode cX5_feed 10 = .ok (.aload_n 0, 1) := by decide +kernel
theorem dX5_feed_11 : decode cX5_feed 11 = .ok (.ldc 63, 2) := by decide +kernel
theorem dX5_feed_13 : decode cX5_feed 13 = .ok (.invokevirtual 64, 3) := by decide +kernel
theorem dX5_feed_16 : decode cX5_feed 16 = .ok (.ireturn, 1) := by decide +kernel
theorem dX5_feed_17 : decode cX5_feed 17 = .ok (.aload_n 0, 1) := by decide +kernel
theorem dX5_feed_18 : decode cX5_feed 18 = .ok (.getfield 45, 3) := by decide +kernel
theorem dX5_feed_21 : decode cX5_feed 21 = .ok (.getfield 235, 3) := by decide +kernel
theorem dX5_feed_24 : decode cX5_feed 24 = .ok (.iload_n 2, 1) := by decide +kernel
theorem dX5_feed_25 : decode cX5_feed 25 = .ok (.iadd, 1) := by decide +kernel
theorem dX5_feed_26 : decode cX5_feed 26 = .ok (.bipush 120, 2) := by decide +kernel
theorem dX5_feed_28 : decode cX5_feed 28 = .ok (.if_icmp .le 10, 3) := by decide +kernel
theorem dX5_feed_31 : decode cX5_feed 31 = .ok (.aload_n 0, 1) := by decide +kernel
theorem dX5_feed_32 : decode cX5_feed 32 = .ok (.ldc 72, 2) := by decide +kernel
theorem dX5_feed_34 : decode cX5_feed 34 = .ok (.invokevirtual 64, 3) := by decide +kernel
theorem dX5_feed_37 : decode cX5_feed 37 = .ok (.ireturn, 1) := by decide +kernel
theorem dX5_feed_38 : decode cX5_feed 38 = .ok (.iload_n 2, 1) := by decide +kernel
theorem dX5_feed_39 : decode cX5_feed 39 = .ok (.iconst 1, 1) := by decide +kernel
theorem dX5_feed_40 : decode cX5_feed 40 = .ok (.isub, 1) := by decide +kernel
theorem dX5_feed_41 : decode cX5_feed 41 = .ok (.istore_n 3, 1) := by decide +kernel
theorem dX5_feed_42 : decode cX5_feed 42 = .ok (.iload_n 3, 1) := by decide +kernel
theorem dX5_feed_43 : decode cX5_feed 43 = .ok (.ifCond .lt 26, 3) := by decide +kernel
theorem dX5_feed_46 : decode cX5_feed 46 = .ok (.aload_n 0, 1) := by decide +kernel
theorem dX5_feed_47 : decode cX5_feed 47 = .ok (.getfield 45, 3) := by decide +kernel
theorem dX5_feed_50 : decode cX5_feed 50 = .ok (.iload_n 1, 1) := by decide +kernel
theorem dX5_feed_51 : decode cX5_feed 51 = .ok (.bipush 8, 2) := by decide +kernel
theorem dX5_feed_53 : decode cX5_feed 53 = .ok (.iload_n 3, 1) := by decide +kernel
theorem dX5_feed_54 : decode cX5_feed 54 = .ok (.imul, 1) := by decide +kernel
theorem dX5_feed_55 : decode cX5_feed 55 = .ok (.ishr, 1) := by decide +kernel
theorem dX5_feed_56 : decode cX5_feed 56 = .ok (.sipush 255, 3) := by decide +kernel
theorem dX5_feed_59 : decode cX5_feed 59 = .ok (.iand, 1) := by decide +kernel
theorem dX5_feed_60 : decode cX5_feed 60 = .ok (.invokevirtual 238, 3) := by decide +kernel
theorem dX5_feed_63 : decode cX5_feed 63 = .ok (.iinc 3 (-1), 3) := by decide +kernel
theorem dX5_feed_66 : decode cX5_feed 66 = .ok (.goto (-24), 3) := by decide +kernel
theorem dX5_feed_69 : decode cX5_feed 69 = .ok (.aload_n 0, 1) := by decide +kernel
theorem dX5_feed_70 : decode cX5_feed 70 = .ok (.getfield 45, 3) := by decide +kernel
theorem dX5_feed_73 : decode cX5_feed 73 = .ok (.getfield 235, 3) := by decide +kernel
theorem dX5_feed_76 : decode cX5_feed 76 = .ok (.ireturn, 1) := by decide +kernel
theorem dX5_wipe_0 : decode cX5_wipe 0 = .ok (.aload_n 0, 1) := by decide +kernel
theorem dX5_wipe_1 : decode cX5_wipe 1 = .ok (.getfield 45, 3) := by decide +kernel
theorem dX5_wipe_4 : decode cX5_wipe 4 = .ok (.getfield 235, 3) := by decide +kernel
theorem dX5_wipe_7 : decode cX5_wipe 7 = .ok (.istore_n 1, 1) := by decide +kernel
theorem dX5_wipe_8 : decode cX5_wipe 8 = .ok (.aload_n 0, 1) := by decide +kernel
theorem dX5_wipe_9 : decode cX5_wipe 9 = .ok (.getfield 45, 3) := by decide +kernel
theorem dX5_wipe_12 : decode cX5_wipe 12 = .ok (.iconst 0, 1) := by decide +kernel
theorem dX5_wipe_13 : decode cX5_wipe 13 = .ok (.putfield 235, 3) := by decide +kernel
theorem dX5_wipe_16 : decode cX5_wipe 16 = .ok (.iload_n 1, 1) := by decide +kernel
theorem dX5_wipe_17 : decode cX5_wipe 17 = .ok (.ireturn, 1) := by decide +kernel
theorem dX5_plain_0 : decode cX5_plain 0 = .ok (.aload_n 0, 1) := by decide +kernel
theorem dX5_plain_1 : decode cX5_plain 1 = .ok (.getfield 19, 3) := by decide +kernel
theorem dX5_plain_4 : decode cX5_plain 4 = .ok (.aload_n 0, 1) := by decide +kernel
theorem dX5_plain_5 : decode cX5_plain 5 = .ok (.getfield 12, 3) := by decide +kernel
theorem dX5_plain_8 : decode cX5_plain 8 = .ok (.invokevirtual 241, 3) := by decide +kernel
theorem dX5_plain_11 : decode cX5_plain 11 = .ok (.aload_n 0, 1) := by decide +kernel
theorem dX5_plain_12 : decode cX5_plain 12 = .ok (.getfield 45, 3) := by decide +kernel
theorem dX5_plain_15 : decode cX5_plain 15 = .ok (.aload_n 0, 1) := by decide +kernel
theorem dX5_plain_16 : decode cX5_plain 16 = .ok (.getfield 12, 3) := by decide +kernel
theorem dX5_plain_19 : decode cX5_plain 19 = .ok (.invokestatic 243, 3) := by decide +kernel
theorem dX5_plain_22 : decode cX5_plain 22 = .ok (.istore_n 1, 1) := by decide +kernel
theorem dX5_plain_23 : decode cX5_plain 23 = .ok (.iload_n 1, 1) := by decide +kernel
theorem dX5_plain_24 : decode cX5_plain 24 = .ok (.ifCond .ge 14, 3) := by decide +kernel
theorem dX5_plain_27 : decode cX5_plain 27 = .ok (.aload_n 0, 1) := by decide +kernel
theorem dX5_plain_28 : decode cX5_plain 28 = .ok (.getfield 12, 3) := by decide +kernel
theorem dX5_plain_31 : decode cX5_plain 31 = .ok (.aload_n 0, 1) := by decide +kernel
theorem dX5_plain_32 : decode cX5_plain 32 = .ok (.getfield 19, 3) := by decide +kernel
theorem dX5_plain_35 : decode cX5_plain 35 = .ok (.invokevirtual 241, 3) := by decide +kernel
theorem dX5_plain_38 : decode cX5_plain 38 = .ok (.aload_n 0, 1) := by decide +kernel
theorem dX5_plain_39 : decode cX5_plain 39 = .ok (.getfield 45, 3) := by decide +kernel
theorem dX5_plain_42 : decode cX5_plain 42 = .ok (.iconst 0, 1) := by decide +kernel
theorem dX5_plain_43 : decode cX5_plain 43 = .ok (.putfield 235, 3) := by decide +kernel
theorem dX5_plain_46 : decode cX5_plain 46 = .ok (.iload_n 1, 1) := by decide +kernel
theorem dX5_plain_47 : decode cX5_plain 47 = .ok (.ireturn, 1) := by decide +kernel
theorem dX5_sheet_0 : decode cX5_sheet 0 = .ok (.iload_n 1, 1) := by decide +kernel
theorem dX5_sheet_1 : decode cX5_sheet 1 = .ok (.invokestatic 249, 3) := by decide +kernel
theorem dX5_sheet_4 : decode cX5_sheet 4 = .ok (.ifCond .eq 25, 3) := by decide +kernel
theorem dX5_sheet_7 : decode cX5_sheet 7 = .ok (.iload_n 2, 1) := by decide +kernel
theorem dX5_sheet_8 : decode cX5_sheet 8 = .ok (.ifCond .eq 28, 3) := by decide +kernel
theorem dX5_sheet_11 : decode cX5_sheet 11 = .ok (.iload_n 2, 1) := by decide +kernel
theorem dX5_sheet_12 : decode cX5_sheet 12 = .ok (.bipush 8, 2) := by decide +kernel
theorem dX5_sheet_14 : decode cX5_sheet 14 = .ok (.if_icmp .eq 22, 3) := by decide +kernel
theorem dX5_sheet_17 : decode cX5_sheet 17 = .ok (.iload_n 2, 1) := by decide +kernel
theorem dX5_sheet_18 : decode cX5_sheet 18 = .ok (.bipush 16, 2) := by decide +kernel
theorem dX5_sheet_20 : decode cX5_sheet 20 = .ok (.if_icmp .eq 16, 3) := by decide +kernel
theorem dX5_sheet_23 : decode cX5_sheet 23 = .ok (.iload_n 2, 1) := by decide +kernel
theorem dX5_sheet_24 : decode cX5_sheet 24 = .ok (.bipush 64, 2) := by decide +kernel
theorem dX5_sheet_26 : decode cX5_sheet 26 = .ok (.if_icmp .eq 10, 3) := by decide +kernel
theorem dX5_sheet_29 : decode cX5_sheet 29 = .ok (.aload_n 0, 1) := by decide +kernel
theorem dX5_sheet_30 : decode cX5_sheet 30 = .ok (.ldc 63, 2) := by decide +kernel
theorem dX5_sheet_32 : decode cX5_sheet 32 = .ok (.invokevirtual 64, 3) := by decide +kernel
theorem dX5_sheet_35 : decode cX5_sheet 35 = .ok (.ireturn, 1) := by decide +kernel
theorem dX5_sheet_36 : decode cX5_sheet 36 = .ok (.iload_n 3, 1) := by decide +kernel
theorem dX5_sheet_37 : decode cX5_sheet 37 = .ok (.ifCond .ge 10, 3) := by decide +kernel
theorem dX5_sheet_40 : decode cX5_sheet 40 = .ok (.aload_n 0, 1) := by decide +kernel
theorem dX5_sheet_41 : decode cX5_sheet 41 = .ok (.ldc 252, 2) := by decide +kernel
theorem dX5_sheet_43 : decode cX5_sheet 43 = .ok (.invokevirtual 64, 3) := by decide +kernel
theorem dX5_sheet_46 : decode cX5_sheet 46 = .ok (.ireturn, 1) := by decide +kernel
theorem dX5_sheet_47 : decode cX5_sheet 47 = .ok (.iload_n 3, 1) := by decide +kernel
theorem dX5_sheet_48 : decode cX5_sheet 48 = .ok (.bipush 40, 2) := by decide +kernel
theorem dX5_sheet_50 : decode cX5_sheet 50 = .ok (.if_icmp .le 10, 3) := by decide +kernel
theorem dX5_sheet_53 : decode cX5_sheet 53 = .ok (.aload_n 0, 1) := by decide +kernel
theorem dX5_sheet_54 : decode cX5_sheet 54 = .ok (.ldc 63, 2) := by decide +kernel
theorem dX5_sheet_56 : decode cX5_sheet 56 = .ok (.invokevirtual 64, 3) := by decide +kernel
theorem dX5_sheet_59 : decode cX5_sheet 59 = .ok (.ireturn, 1) := by decide +kernel
theorem dX5_sheet_60 : decode cX5_sheet 60 = .ok (.aload_n 0, 1) := by decide +kernel
theorem dX5_sheet_61 : decode cX5_sheet 61 = .ok (.getfield 51, 3) := by decide +kernel
theorem dX5_sheet_64 : decode cX5_sheet 64 = .ok (.iload_n 1, 1) := by decide +kernel
theorem dX5_sheet_65 : decode cX5_sheet 65 = .ok (.aaload, 1) := by decide +kernel
theorem dX5_sheet_66 : decode cX5_sheet 66 = .ok (.astore 4, 2) := by decide +kernel
theorem dX5_sheet_68 : decode cX5_sheet 68 = .ok (.aload 4, 2) := by decide +kernel
theorem dX5_sheet_70 : decode cX5_sheet 70 = .ok (.iload_n 2, 1) := by decide +kernel
theorem dX5_sheet_71 : decode cX5_sheet 71 = .ok (.iload_n 2, 1) := by decide +kernel
theorem dX5_sheet_72 : decode cX5_sheet 72 = .ok (.ifCond .ne 7, 3) := by decide +kernel
theorem dX5_sheet_75 : decode cX5_sheet 75 = .ok (.iconst 0, 1) := by decide +kernel
theorem dX5_sheet_76 : decode cX5_sheet 76 = .ok (.goto 4, 3) := by decide +kernel
theorem dX5_sheet_79 : decode cX5_sheet 79 = .ok (.iload_n 3, 1) := by decide +kernel
theorem dX5_sheet_80 : decode cX5_sheet 80 = .ok (.invokevirtual 253, 3) := by decide +kernel
theorem dX5_sheet_83 : decode cX5_sheet 83 = .ok (.aload 4, 2) := by decide +kernel
theorem dX5_sheet_85 : decode cX5_sheet 85 = .ok (.getfield 256, 3) := by decide +kernel
theorem dX5_sheet_88 : decode cX5_sheet 88 = .ok (.ireturn, 1) := by decide +kernel
theorem dX5_write_0 : decode cX5_write 0 = .ok (.aload_n 0, 1) := by decide +kernel
theorem dX5_write_1 : decode cX5_write 1 = .ok (.iload_n 1, 1) := by decide +kernel
theorem dX5_write_2 : decode cX5_write 2 = .ok (.invokevirtual 259, 3) := by decide +kernel
theorem dX5_write_5 : decode cX5_write 5 = .ok (.istore 5, 2) := by decide +kernel
theorem dX5_write_7 : decode cX5_write 7 = .ok (.iload 5, 2) := by decide +kernel
theorem dX5_write_9 : decode cX5_write 9 = .ok (.ifCond .eq 11, 3) := by decide +kernel
theorem dX5_write_12 : decode cX5_write 12 = .ok (.aload_n 0, 1) := by decide +kernel
theorem dX5_write_13 : decode cX5_write 13 = .ok (.iload 5, 2) := by decide +kernel
theorem dX5_write_15 : decode cX5_write 15 = .ok (.invokevirtual 64, 3) := by decide +kernel
theorem dX5_write_18 : decode cX5_write 18 = .ok (.i2l, 1) := by decide +kernel
theorem dX5_write_19 : decode cX5_write 19 = .ok (.lreturn, 1) := by decide +kernel
theorem dX5_write_20 : decode cX5_write 20 = .ok (.aload_n 0, 1) := by decide +kernel
theorem dX5_write_21 : decode cX5_write 21 = .ok (.getfield 51, 3) := by decide +kernel
theorem dX5_write_24 : decode cX5_write 24 = .ok (.iload_n 1, 1) := by decide +kernel
theorem dX5_write_25 : decode cX5_write 25 = .ok (.aaload, 1) := by decide +kernel
theorem dX5_write_26 : decode cX5_write 26 = .ok (.astore 6, 2) := by decide +kernel
theorem dX5_write_28 : decode cX5_write 28 = .ok (.iload_n 2, 1) := by decide +kernel
theorem dX5_write_29 : decode cX5_write 29 = .ok (.ifCond .lt 12, 3) := by decide +kernel
theorem dX5_write_32 : decode cX5_write 32 = .ok (.iload_n 2, 1) := by decide +kernel
theorem dX5_write_33 : decode cX5_write 33 = .ok (.aload 6, 2) := by decide +kernel
theorem dX5_write_35 : decode cX5_write 35 = .ok (.getfield 256, 3) := by decide +kernel
theorem dX5_write_38 : decode cX5_write 38 = .ok (.if_icmp .lt 11, 3) := by decide +kernel
theorem dX5_write_41 : decode cX5_write 41 = .ok (.aload_n 0, 1) := by decide +kernel
theorem dX5_write_42 : decode cX5_write 42 = .ok (.ldc 63, 2) := by decide +kernel
theorem dX5_write_44 : decode cX5_write 44 = .ok (.invokevirtual 64, 3) := by decide +kernel
theorem dX5_write_47 : decode cX5_write 47 = .ok (.i2l, 1) := by decide +kernel
theorem dX5_write_48 : decode cX5_write 48 = .ok (.lreturn, 1) := by decide +kernel
theorem dX5_write_49 : decode cX5_write 49 = .ok (.aload 6, 2) := by decide +kernel
theorem dX5_write_51 : decode cX5_write 51 = .ok (.getfield 262, 3) := by decide +kernel
theorem dX5_write_54 : decode cX5_write 54 = .ok (.iload_n 2, 1) := by decide +kernel
theorem dX5_write_55 : decode cX5_write 55 = .ok (.laload, 1) := by decide +kernel
theorem dX5_write_56 : decode cX5_write 56 = .ok (.lstore 7, 2) := by decide +kernel
theorem dX5_write_58 : decode cX5_write 58 = .ok (.aload 6, 2) := by decide +kernel
theorem dX5_write_60 : decode cX5_write 60 = .ok (.getfield 262, 3) := by decide +kernel
theorem dX5_write_63 : decode cX5_write 63 = .ok (.iload_n 2, 1) := by decide +kernel
theorem dX5_write_64 : decode cX5_write 64 = .ok (.aload 6, 2) := by decide +kernel
theorem dX5_write_66 : decode cX5_write 66 = .ok (.lload_n 3, 1) := by decide +kernel
theorem dX5_write_67 : decode cX5_write 67 = .ok (.invokevirtual 266, 3) := by decide +kernel
theorem dX5_write_70 : decode cX5_write 70 = .ok (.lastore, 1) := by decide +kernel
theorem dX5_write_71 : decode cX5_write 71 = .ok (.lload 7, 2) := by decide +kernel
theorem dX5_write_73 : decode cX5_write 73 = .ok (.lreturn, 1) := by decide +kernel
theorem dX5_copy_0 : decode cX5_copy 0 = .ok (.iload_n 1, 1) := by decide +kernel
theorem dX5_copy_1 : decode cX5_copy 1 = .ok (.invokestatic 249, 3) := by decide +kernel
theorem dX5_copy_4 : decode cX5_copy 4 = .ok (.ifCond .eq 10, 3) := by decide +kernel
theorem dX5_copy_7 : decode cX5_copy 7 = .ok (.iload_n 3, 1) := by decide +kernel
theorem dX5_copy_8 : decode cX5_copy 8 = .ok (.invokestatic 249, 3) := by decide +kernel
theorem dX5_copy_11 : decode cX5_copy 11 = .ok (.ifCond .ne 10, 3) := by decide +kernel
theorem dX5_copy_14 : decode cX5_copy 14 = .ok (.aload_n 0, 1) := by decide +kernel
theorem dX5_copy_15 : decode cX5_copy 15 = .ok (.ldc 63, 2) := by decide +kernel
theorem dX5_copy_17 : decode cX5_copy 17 = .ok (.invokevirtual 64, 3) := by decide +kernel
theorem dX5_copy_20 : decode cX5_copy 20 = .ok (.ireturn, 1) := by decide +kernel
theorem dX5_copy_21 : decode cX5_copy 21 = .ok (.aload_n 0, 1) := by decide +kernel
theorem dX5_copy_22 : decode cX5_copy 22 = .ok (.getfield 51, 3) := by decide +kernel
theorem dX5_copy_25 : decode cX5_copy 25 = .ok (.iload_n 1, 1) := by decide +kernel
theorem dX5_copy_26 : decode cX5_copy 26 = .ok (.aaload, 1) := by decide +kernel
theorem dX5_copy_27 : decode cX5_copy 27 = .ok (.astore 6, 2) := by decide +kernel
theorem dX5_copy_29 : decode cX5_copy 29 = .ok (.aload_n 0, 1) := by decide +kernel
theorem dX5_copy_30 : decode cX5_copy 30 = .ok (.getfield 51, 3) := by decide +kernel
theorem dX5_copy_33 : decode cX5_copy 33 = .ok (.iload_n 3, 1) := by decide +kernel
theorem dX5_copy_34 : decode cX5_copy 34 = .ok (.aaload, 1) := by decide +kernel
theorem dX5_copy_35 : decode cX5_copy 35 = .ok (.astore 7, 2) := by decide +kernel
theorem dX5_copy_37 : decode cX5_copy 37 = .ok (.aload 6, 2) := by decide +kernel
theorem dX5_copy_39 : decode cX5_copy 39 = .ok (.getfield 270, 3) := by decide +kernel
theorem dX5_copy_42 : decode cX5_copy 42 = .ok (.ifCond .eq 11, 3) := by decide +kernel
theorem dX5_copy_45 : decode cX5_copy 45 = .ok (.aload 7, 2) := by decide +kernel
theorem dX5_copy_47 : decode cX5_copy 47 = .ok (.getfield 270, 3) := by decide +kernel
theorem dX5_copy_50 : decode cX5_copy 50 = .ok (.ifCond .ne 11, 3) := by decide +kernel
theorem dX5_copy_53 : decode cX5_copy 53 = .ok (.aload_n 0, 1) := by decide +kernel
theorem dX5_copy_54 : decode cX5_copy 54 = .ok (.ldc_w 273, 3) := by decide +kernel
theorem dX5_copy_57 : decode cX5_copy 57 = .ok (.invokevirtual 64, 3) := by decide +kernel
theorem dX5_copy_60 : decode cX5_copy 60 = .ok (.ireturn, 1) := by decide +kernel
theorem dX5_copy_61 : decode cX5_copy 61 = .ok (.aload 6, 2) := by decide +kernel
theorem dX5_copy_63 : decode cX5_copy 63 = .ok (.getfield 270, 3) := by decide +kernel
theorem dX5_copy_66 : decode cX5_copy 66 = .ok (.aload 7, 2) := by decide +kernel
theorem dX5_copy_68 : decode cX5_copy 68 = .ok (.getfield 270, 3) := by decide +kernel
theorem dX5_copy_71 : decode cX5_copy 71 = .ok (.if_icmp .eq 10, 3) := by decide +kernel
theorem dX5_copy_74 : decode cX5_copy 74 = .ok (.aload_n 0, 1) := by decide +kernel
theorem dX5_copy_75 : decode cX5_copy 75 = .ok (.ldc 157, 2) := by decide +kernel
theorem dX5_copy_77 : decode cX5_copy 77 = .ok (.invokevirtual 64, 3) := by decide +kernel
theorem dX5_copy_80 : decode cX5_copy 80 = .ok (.ireturn, 1) := by decide +kernel
theorem dX5_copy_81 : decode cX5_copy 81 = .ok (.aload 6, 2) := by decide +kernel
theorem dX5_copy_83 : decode cX5_copy 83 = .ok (.iload_n 2, 1) := by decide +kernel
theorem dX5_copy_84 : decode cX5_copy 84 = .ok (.iload 5, 2) := by decide +kernel
theorem dX5_copy_86 : decode cX5_copy 86 = .ok (.invokevirtual 274, 3) := by decide +kernel
theorem dX5_copy_89 : decode cX5_copy 89 = .ok (.ifCond .eq 15, 3) := by decide +kernel
theorem dX5_copy_92 : decode cX5_copy 92 = .ok (.aload 7, 2) := by decide +kernel
theorem dX5_copy_94 : decode cX5_copy 94 = .ok (.iload 4, 2) := by decide +kernel
theorem dX5_copy_96 : decode cX5_copy 96 = .ok (.iload 5, 2) := by decide +kernel
theorem dX5_copy_98 : decode cX5_copy 98 = .ok (.invokevirtual 274, 3) := by decide +kernel
theorem dX5_copy_101 : decode cX5_copy 101 = .ok (.ifCond .ne 10, 3) := by decide +kernel
theorem dX5_copy_104 : decode cX5_copy 104 = .ok (.aload_n 0, 1) := by decide +kernel
theorem dX5_copy_105 : decode cX5_copy 105 = .ok (.ldc 63, 2) := by decide +kernel
theorem dX5_copy_107 : decode cX5_copy 107 = .ok (.invokevirtual 64, 3) := by decide +kernel
theorem dX5_copy_110 : decode cX5_copy 110 = .ok (.ireturn, 1) := by decide +kernel
theorem dX5_copy_111 : decode cX5_copy 111 = .ok (.aload 6, 2) := by decide +kernel
theorem dX5_copy_113 : decode cX5_copy 113 = .ok (.getfield 262, 3) := by decide +kernel
theorem dX5_copy_116 : decode cX5_copy 116 = .ok (.iload_n 2, 1) := by decide +kernel
theorem dX5_copy_117 : decode cX5_copy 117 = .ok (.aload 7, 2) := by decide +kernel
theorem dX5_copy_119 : decode cX5_copy 119 = .ok (.getfield 262, 3) := by decide +kernel
theorem dX5_copy_122 : decode cX5_copy 122 = .ok (.iload 4, 2) := by decide +kernel
theorem dX5_copy_124 : decode cX5_copy 124 = .ok (.iload 5, 2) := by decide +kernel
theorem dX5_copy_126 : decode cX5_copy 126 = .ok (.invokestatic 277, 3) := by decide +kernel
theorem dX5_copy_129 : decode cX5_copy 129 = .ok (.iload 5, 2) := by decide +kernel
theorem dX5_copy_131 : decode cX5_copy 131 = .ok (.ireturn, 1) := by decide +kernel
theorem dX5_lays_0 : decode cX5_lays 0 = .ok (.aload_n 0, 1) := by decide +kernel
theorem dX5_lays_1 : decode cX5_lays 1 = .ok (.iload_n 1, 1) := by decide +kernel
theorem dX5_lays_2 : decode cX5_lays 2 = .ok (.invokevirtual 259, 3) := by decide +kernel
theorem dX5_lays_5 : decode cX5_lays 5 = .ok (.istore_n 2, 1) := by decide +kernel
theorem dX5_lays_6 : decode cX5_lays 6 = .ok (.iload_n 2, 1) := by decide +kernel
theorem dX5_lays_7 : decode cX5_lays 7 = .ok (.ifCond .eq 9, 3) := by decide +kernel
theorem dX5_lays_10 : decode cX5_lays 10 = .ok (.aload_n 0, 1) := by decide +kernel
theorem dX5_lays_11 : decode cX5_lays 11 = .ok (.iload_n 2, 1) := by decide +kernel
theorem dX5_lays_12 : decode cX5_lays 12 = .ok (.invokevirtual 64, 3) := by decide +kernel
theorem dX5_lays_15 : decode cX5_lays 15 = .ok (.ireturn, 1) := by decide +kernel
theorem dX5_lays_16 : decode cX5_lays 16 = .ok (.aload_n 0, 1) := by decide +kernel
theorem dX5_lays_17 : decode cX5_lays 17 = .ok (.getfield 51, 3) := by decide +kernel
theorem dX5_lays_20 : decode cX5_lays 20 = .ok (.iload_n 1, 1) := by decide +kernel
theorem dX5_lays_21 : decode cX5_lays 21 = .ok (.aaload, 1) := by decide +kernel
theorem dX5_lays_22 : decode cX5_lays 22 = .ok (.astore_n 3, 1) := by decide +kernel
theorem dX5_lays_23 : decode cX5_lays 23 = .ok (.iconst 0, 1) := by decide +kernel
theorem dX5_lays_24 : decode cX5_lays 24 = .ok (.istore 4, 2) := by decide +kernel
theorem dX5_lays_26 : decode cX5_lays 26 = .ok (.iconst 0, 1) := by decide +kernel
theorem dX5_lays_27 : decode cX5_lays 27 = .ok (.istore 5, 2) := by decide +kernel
theorem dX5_lays_29 : decode cX5_lays 29 = .ok (.iload 5, 2) := by decide +kernel
theorem dX5_lays_31 : decode cX5_lays 31 = .ok (.aload_n 3, 1) := by decide +kernel
theorem dX5_lays_32 : decode cX5_lays 32 = .ok (.getfield 256, 3) := by decide +kernel
theorem dX5_lays_35 : decode cX5_lays 35 = .ok (.if_icmp .ge 61, 3) := by decide +kernel
theorem dX5_lays_38 : decode cX5_lays 38 = .ok (.iload 5, 2) := by decide +kernel
theorem dX5_lays_40 : decode cX5_lays 40 = .ok (.aload_n 0, 1) := by decide +kernel
theorem dX5_lays_41 : decode cX5_lays 41 = .ok (.getfield 12, 3) := by decide +kernel
theorem dX5_lays_44 : decode cX5_lays 44 = .ok (.getfield 68, 3) := by decide +kernel
theorem dX5_lays_47 : decode cX5_lays 47 = .ok (.if_icmp .ge 49, 3) := by decide +kernel
theorem dX5_lays_50 : decode cX5_lays 50 = .ok (.aload_n 3, 1) := by decide +kernel
theorem dX5_lays_51 : decode cX5_lays 51 = .ok (.getfield 262, 3) := by decide +kernel
theorem dX5_lays_54 : decode cX5_lays 54 = .ok (.iload 5, 2) := by decide +kernel
theorem dX5_lays_56 : decode cX5_lays 56 = .ok (.laload, 1) := by decide +kernel
theorem dX5_lays_57 : decode cX5_lays 57 = .ok (.lstore 6, 2) := by decide +kernel
theorem dX5_lays_59 : decode cX5_lays 59 = .ok (.lload 6, 2) := by decide +kernel
theorem dX5_lays_61 : decode cX5_lays 61 = .ok (.lconst 0, 1) := by decide +kernel
theorem dX5_lays_62 : decode cX5_lays 62 = .ok (.lcmp, 1) := by decide +kernel
theorem dX5_lays_63 : decode cX5_lays 63 = .ok (.ifCond .lt 27, 3) := by decide +kernel
theorem dX5_lays_66 : decode cX5_lays 66 = .ok (.lload 6, 2) := by decide +kernel
theorem dX5_lays_68 : decode cX5_lays 68 = .ok (.ldc2_w 283, 3) := by decide +kernel
theorem dX5_lays_71 : decode cX5_lays 71 = .ok (.lcmp, 1) := by decide +kernel
theorem dX5_lays_72 : decode cX5_lays 72 = .ok (.ifCond .gt 18, 3) := by decide +kernel
theorem dX5_lays_75 : decode cX5_lays 75 = .ok (.aload_n 0, 1) := by decide +kernel
theorem dX5_lays_76 : decode cX5_lays 76 = .ok (.getfield 12, 3) := by decide +kernel
theorem dX5_lays_79 : decode cX5_lays 79 = .ok (.iload 5, 2) := by decide +kernel
theorem dX5_lays_81 : decode cX5_lays 81 = .ok (.lload 6, 2) := by decide +kernel
theorem dX5_lays_83 : decode cX5_lays 83 = .ok (.l2i, 1) := by decide +kernel
theorem dX5_lays_84 : decode cX5_lays 84 = .ok (.invokevirtual 88, 3) := by decide +kernel
theorem dX5_lays_87 : decode cX5_lays 87 = .ok (.iinc 4 1, 3) := by decide +kernel
theorem dX5_lays_90 : decode cX5_lays 90 = .ok (.iinc 5 1, 3) := by decide +kernel
theorem dX5_lays_93 : decode cX5_lays 93 = .ok (.goto (-64), 3) := by decide +kernel
theorem dX5_lays_96 : decode cX5_lays 96 = .ok (.iload 4, 2) := by decide +kernel
theorem dX5_lays_98 : decode cX5_lays 98 = .ok (.ireturn, 1) := by decide +kernel
theorem dX5_book_0 : decode cX5_book 0 = .ok (.aload_n 0, 1) := by decide +kernel
theorem dX5_book_1 : decode cX5_book 1 = .ok (.iload_n 1, 1) := by decide +kernel
theorem dX5_book_2 : decode cX5_book 2 = .ok (.iload_n 2, 1) := by decide +kernel
theorem dX5_book_3 : decode cX5_book 3 = .ok (.invokevirtual 285, 3) := by decide +kernel
theorem dX5_book_6 : decode cX5_book 6 = .ok (.istore_n 3, 1) := by decide +kernel
theorem dX5_book_7 : decode cX5_book 7 = .ok (.iload_n 3, 1) := by decide +kernel
theorem dX5_book_8 : decode cX5_book 8 = .ok (.ifCond .eq 9, 3) := by decide +kernel
theorem dX5_book_11 : decode cX5_book 11 = .ok (.aload_n 0, 1) := by decide +kernel
theorem dX5_book_12 : decode cX5_book 12 = .ok (.iload_n 3, 1) := by decide +kernel
theorem dX5_book_13 : decode cX5_book 13 = .ok (.invokevirtual 64, 3) := by decide +kernel
theorem dX5_book_16 : decode cX5_book 16 = .ok (.ireturn, 1) := by decide +kernel
theorem dX5_book_17 : decode cX5_book 17 = .ok (.aload_n 0, 1) := by decide +kernel
theorem dX5_book_18 : decode cX5_book 18 = .ok (.getfield 51, 3) := by decide +kernel
theorem dX5_book_21 : decode cX5_book 21 = .ok (.iload_n 1, 1) := by decide +kernel
theorem dX5_book_22 : decode cX5_book 22 = .ok (.aaload, 1) := by decide +kernel
theorem dX5_book_23 : decode cX5_book 23 = .ok (.astore 4, 2) := by decide +kernel
theorem dX5_book_25 : decode cX5_book 25 = .ok (.aload_n 0, 1) := by decide +kernel
theorem dX5_book_26 : decode cX5_book 26 = .ok (.getfield 25, 3) := by decide +kernel
theorem dX5_book_29 : decode cX5_book 29 = .ok (.aload_n 0, 1) := by decide +kernel
theorem dX5_book_30 : decode cX5_book 30 = .ok (.getfield 12, 3) := by decide +kernel
theorem dX5_book_33 : decode cX5_book 33 = .ok (.getfield 129, 3) := by decide +kernel
theorem dX5_book_36 : decode cX5_book 36 = .ok (.iload_n 2, 1) := by decide +kernel
theorem dX5_book_37 : decode cX5_book 37 = .ok (.aaload, 1) := by decide +kernel
theorem dX5_book_38 : decode cX5_book 38 = .ok (.invokevirtual 173, 3) := by decide +kernel
theorem dX5_book_41 : decode cX5_book 41 = .ok (.iconst 0, 1) := by decide +kernel
theorem dX5_book_42 : decode cX5_book 42 = .ok (.istore 5, 2) := by decide +kernel
theorem dX5_book_44 : decode cX5_book 44 = .ok (.iload 5, 2) := by decide +kernel
theorem dX5_book_46 : decode cX5_book 46 = .ok (.aload 4, 2) := by decide +kernel
theorem dX5_book_48 : decode cX5_book 48 = .ok (.getfield 256, 3) := by decide +kernel
theorem dX5_book_51 : decode cX5_book 51 = .ok (.if_icmp .ge 39, 3) := by decide +kernel
theorem dX5_book_54 : decode cX5_book 54 = .ok (.aload 4, 2) := by decide +kernel
theorem dX5_book_56 : decode cX5_book 56 = .ok (.getfield 262, 3) := by decide +kernel
theorem dX5_book_59 : decode cX5_book 59 = .ok (.iload 5, 2) := by decide +kernel
theorem dX5_book_61 : decode cX5_book 61 = .ok (.aload_n 0, 1) := by decide +kernel
theorem dX5_book_62 : decode cX5_book 62 = .ok (.getfield 25, 3) := by decide +kernel
theorem dX5_book_65 : decode cX5_book 65 = .ok (.getfield 136, 3) := by decide +kernel
theorem dX5_book_68 : decode cX5_book 68 = .ok (.invokestatic 139, 3) := by decide +kernel
theorem dX5_book_71 : decode cX5_book 71 = .ok (.i2l, 1) := by decide +kernel
theorem dX5_book_72 : decode cX5_book 72 = .ok (.lastore, 1) := by decide +kernel
theorem dX5_book_73 : decode cX5_book 73 = .ok (.aload_n 0, 1) := by decide +kernel
theorem dX5_book_74 : decode cX5_book 74 = .ok (.getfield 25, 3) := by decide +kernel
theorem dX5_book_77 : decode cX5_book 77 = .ok (.aload_n 0, 1) := by decide +kernel
theorem dX5_book_78 : decode cX5_book 78 = .ok (.getfield 12, 3) := by decide +kernel
theorem dX5_book_81 : decode cX5_book 81 = .ok (.invokevirtual 158, 3) := by decide +kernel
theorem dX5_book_84 : decode cX5_book 84 = .ok (.iinc 5 1, 3) := by decide +kernel
theorem dX5_book_87 : decode cX5_book 87 = .ok (.goto (-43), 3) := by decide +kernel
theorem dX5_book_90 : decode cX5_book 90 = .ok (.aload 4, 2) := by decide +kernel
theorem dX5_book_92 : decode cX5_book 92 = .ok (.getfield 256, 3) := by decide +kernel
theorem dX5_book_95 : decode cX5_book 95 = .ok (.ireturn, 1) := by decide +kernel
theorem dX5_read_0 : decode cX5_read 0 = .ok (.aload_n 0, 1) := by decide +kernel
theorem dX5_read_1 : decode cX5_read 1 = .ok (.iload_n 1, 1) := by decide +kernel
theorem dX5_read_2 : decode cX5_read 2 = .ok (.iload_n 2, 1) := by decide +kernel
theorem dX5_read_3 : decode cX5_read 3 = .ok (.invokevirtual 285, 3) := by decide +kernel
theorem dX5_read_6 : decode cX5_read 6 = .ok (.istore_n 3, 1) := by decide +kernel
theorem dX5_read_7 : decode cX5_read 7 = .ok (.iload_n 3, 1) := by decide +kernel
theorem dX5_read_8 : decode cX5_read 8 = .ok (.ifCond .eq 9, 3) := by decide +kernel
theorem dX5_read_11 : decode cX5_read 11 = .ok (.aload_n 0, 1) := by decide +kernel
theorem dX5_read_12 : decode cX5_read 12 = .ok (.iload_n 3, 1) := by decide +kernel
theorem dX5_read_13 : decode cX5_read 13 = .ok (.invokevirtual 64, 3) := by decide +kernel
theorem dX5_read_16 : decode cX5_read 16 = .ok (.ireturn, 1) := by decide +kernel
theorem dX5_read_17 : decode cX5_read 17 = .ok (.iconst 0, 1) := by decide +kernel
theorem dX5_read_18 : decode cX5_read 18 = .ok (.istore 4, 2) := by decide +kernel
theorem dX5_read_20 : decode cX5_read 20 = .ok (.iconst 0, 1) := by decide +kernel
theorem dX5_read_21 : decode cX5_read 21 = .ok (.istore 5, 2) := by decide +kernel
theorem dX5_read_23 : decode cX5_read 23 = .ok (.iload 5, 2) := by decide +kernel
theorem dX5_read_25 : decode cX5_read 25 = .ok (.aload_n 0, 1) := by decide +kernel
theorem dX5_read_26 : decode cX5_read 26 = .ok (.getfield 12, 3) := by decide +kernel
theorem dX5_read_29 : decode cX5_read 29 = .ok (.invokevirtual 207, 3) := by decide +kernel
theorem dX5_read_32 : decode cX5_read 32 = .ok (.if_icmp .ge 50, 3) := by decide +kernel
theorem dX5_read_35 : decode cX5_read 35 = .ok (.aload_n 0, 1) := by decide +kernel
theorem dX5_read_36 : decode cX5_read 36 = .ok (.getfield 25, 3) := by decide +kernel
theorem dX5_read_39 : decode cX5_read 39 = .ok (.aload_n 0, 1) := by decide +kernel
theorem dX5_read_40 : decode cX5_read 40 = .ok (.getfield 12, 3) := by decide +kernel
theorem dX5_read_43 : decode cX5_read 43 = .ok (.getfield 129, 3) := by decide +kernel
theorem dX5_read_46 : decode cX5_read 46 = .ok (.iload_n 2, 1) := by decide +kernel
theorem dX5_read_47 : decode cX5_read 47 = .ok (.aaload, 1) := by decide +kernel
theorem dX5_read_48 : decode cX5_read 48 = .ok (.invokevirtual 173, 3) := by decide +kernel
theorem dX5_read_51 : decode cX5_read 51 = .ok (.aload_n 0, 1) := by decide +kernel
theorem dX5_read_52 : decode cX5_read 52 = .ok (.getfield 25, 3) := by decide +kernel
theorem dX5_read_55 : decode cX5_read 55 = .ok (.iload 5, 2) := by decide +kernel
theorem dX5_read_57 : decode cX5_read 57 = .ok (.putfield 136, 3) := by decide +kernel
theorem dX5_read_60 : decode cX5_read 60 = .ok (.aload_n 0, 1) := by decide +kernel
theorem dX5_read_61 : decode cX5_read 61 = .ok (.aload_n 0, 1) := by decide +kernel
theorem dX5_read_62 : decode cX5_read 62 = .ok (.getfield 51, 3) := by decide +kernel
theorem dX5_read_65 : decode cX5_read 65 = .ok (.iload_n 1, 1) := by decide +kernel
theorem dX5_read_66 : decode cX5_read 66 = .ok (.aaload, 1) := by decide +kernel
theorem dX5_read_67 : decode cX5_read 67 = .ok (.invokevirtual 288, 3) := by decide +kernel
theorem dX5_read_70 : decode cX5_read 70 = .ok (.ifCond .eq 6, 3) := by decide +kernel
theorem dX5_read_73 : decode cX5_read 73 = .ok (.iinc 4 1, 3) := by decide +kernel
theorem dX5_read_76 : decode cX5_read 76 = .ok (.iinc 5 1, 3) := by decide +kernel
theorem dX5_read_79 : decode cX5_read 79 = .ok (.goto (-56), 3) := by decide +kernel
theorem dX5_read_82 : decode cX5_read 82 = .ok (.iload 4, 2) := by decide +kernel
theorem dX5_read_84 : decode cX5_read 84 = .ok (.ireturn, 1) := by decide +kernel
theorem dX5_image_0 : decode cX5_image 0 = .ok (.aload_n 0, 1) := by decide +kernel
theorem dX5_image_1 : decode cX5_image 1 = .ok (.getfield 16, 3) := by decide +kernel
theorem dX5_image_4 : decode cX5_image 4 = .ok (.aload_n 0, 1) := by decide +kernel
theorem dX5_image_5 : decode cX5_image 5 = .ok (.getfield 12, 3) := by decide +kernel
theorem dX5_image_8 : decode cX5_image 8 = .ok (.invokevirtual 241, 3) := by decide +kernel
theorem dX5_image_11 : decode cX5_image 11 = .ok (.aload_n 0, 1) := by decide +kernel
theorem dX5_image_12 : decode cX5_image 12 = .ok (.iconst 1, 1) := by decide +kernel
theorem dX5_image_13 : decode cX5_image 13 = .ok (.putfield 292, 3) := by decide +kernel
theorem dX5_image_16 : decode cX5_image 16 = .ok (.iconst 1, 1) := by decide +kernel
theorem dX5_image_17 : decode cX5_image 17 = .ok (.ireturn, 1) := by decide +kernel
theorem dX5_undo_0 : decode cX5_undo 0 = .ok (.aload_n 0, 1) := by decide +kernel
theorem dX5_undo_1 : decode cX5_undo 1 = .ok (.getfield 292, 3) := by decide +kernel
theorem dX5_undo_4 : decode cX5_undo 4 = .ok (.ifCond .ne 10, 3) := by decide +kernel
theorem dX5_undo_7 : decode cX5_undo 7 = .ok (.aload_n 0, 1) := by decide +kernel
theorem dX5_undo_8 : decode cX5_undo 8 = .ok (.ldc 177, 2) := by decide +kernel
theorem dX5_undo_10 : decode cX5_undo 10 = .ok (.invokevirtual 64, 3) := by decide +kernel
theorem dX5_undo_13 : decode cX5_undo 13 = .ok (.ireturn, 1) := by decide +kernel
theorem dX5_undo_14 : decode cX5_undo 14 = .ok (.aload_n 0, 1) := by decide +kernel
theorem dX5_undo_15 : decode cX5_undo 15 = .ok (.getfield 12, 3) := by decide +kernel
theorem dX5_undo_18 : decode cX5_undo 18 = .ok (.aload_n 0, 1) := by decide +kernel
theorem dX5_undo_19 : decode cX5_undo 19 = .ok (.getfield 16, 3) := by decide +kernel
theorem dX5_undo_22 : decode cX5_undo 22 = .ok (.invokevirtual 241, 3) := by decide +kernel
theorem dX5_undo_25 : decode cX5_undo 25 = .ok (.aload_n 0, 1) := by decide +kernel
theorem dX5_undo_26 : decode cX5_undo 26 = .ok (.getfield 12, 3) := by decide +kernel
theorem dX5_undo_29 : decode cX5_undo 29 = .ok (.getfield 68, 3) := by decide +kernel
theorem dX5_undo_32 : decode cX5_undo 32 = .ok (.ireturn, 1) := by decide +kernel
theorem dX5_tear_0 : decode cX5_tear 0 = .ok (.aload_n 0, 1) := by decide +kernel
theorem dX5_tear_1 : decode cX5_tear 1 = .ok (.getfield 292, 3) := by decide +kernel
theorem dX5_tear_4 : decode cX5_tear 4 = .ok (.ifCond .eq 7, 3) := by decide +kernel
theorem dX5_tear_7 : decode cX5_tear 7 = .ok (.iconst 1, 1) := by decide +kernel
theorem dX5_tear_8 : decode cX5_tear 8 = .ok (.goto 4, 3) := by decide +kernel
theorem dX5_tear_11 : decode cX5_tear 11 = .ok (.iconst 0, 1) := by decide +kernel
theorem dX5_tear_12 : decode cX5_tear 12 = .ok (.istore_n 1, 1) := by decide +kernel
theorem dX5_tear_13 : decode cX5_tear 13 = .ok (.aload_n 0, 1) := by decide +kernel
theorem dX5_tear_14 : decode cX5_tear 14 = .ok (.iconst 0, 1) := by decide +kernel
theorem dX5_tear_15 : decode cX5_tear 15 = .ok (.putfield 292, 3) := by decide +kernel
theorem dX5_tear_18 : decode cX5_tear 18 = .ok (.iload_n 1, 1) := by decide +kernel
theorem dX5_tear_19 : decode cX5_tear 19 = .ok (.ireturn, 1) := by decide +kernel
theorem dX5_count_0 : decode cX5_count 0 = .ok (.iload_n 1, 1) := by decide +kernel
theorem dX5_count_1 : decode cX5_count 1 = .ok (.tableswitch 75 0 4 #[35, 43, 51, 59, 67], 35) := by decide +kernel
theorem dX5_count_36 : decode cX5_count 36 = .ok (.aload_n 0, 1) := by decide +kernel
theorem dX5_count_37 : decode cX5_count 37 = .ok (.getfield 12, 3) := by decide +kernel
theorem dX5_count_40 : decode cX5_count 40 = .ok (.getfield 68, 3) := by decide +kernel
theorem dX5_count_43 : decode cX5_count 43 = .ok (.ireturn, 1) := by decide +kernel
theorem dX5_count_44 : decode cX5_count 44 = .ok (.aload_n 0, 1) := by decide +kernel
theorem dX5_count_45 : decode cX5_count 45 = .ok (.getfield 12, 3) := by decide +kernel
theorem dX5_count_48 : decode cX5_count 48 = .ok (.getfield 120, 3) := by decide +kernel
theorem dX5_count_51 : decode cX5_count 51 = .ok (.ireturn, 1) := by decide +kernel
theorem dX5_count_52 : decode cX5_count 52 = .ok (.aload_n 0, 1) := by decide +kernel
theorem dX5_count_53 : decode cX5_count 53 = .ok (.getfield 45, 3) := by decide +kernel
theorem dX5_count_56 : decode cX5_count 56 = .ok (.getfield 235, 3) := by decide +kernel
theorem dX5_count_59 : decode cX5_count 59 = .ok (.ireturn, 1) := by decide +kernel
theorem dX5_count_60 : decode cX5_count 60 = .ok (.aload_n 0, 1) := by decide +kernel
theorem dX5_count_61 : decode cX5_count 61 = .ok (.getfield 12, 3) := by decide +kernel
theorem dX5_count_64 : decode cX5_count 64 = .ok (.invokevirtual 296, 3) := by decide +kernel
theorem dX5_count_67 : decode cX5_count 67 = .ok (.ireturn, 1) := by decide +kernel
theorem dX5_count_68 : decode cX5_count 68 = .ok (.aload_n 0, 1) := by decide +kernel
theorem dX5_count_69 : decode cX5_count 69 = .ok (.getfield 12, 3) := by decide +kernel
theorem dX5_count_72 : decode cX5_count 72 = .ok (.invokevirtual 166, 3) := by decide +kernel
theorem dX5_count_75 : decode cX5_count 75 = .ok (.ireturn, 1) := by decide +kernel
theorem dX5_count_76 : decode cX5_count 76 = .ok (.aload_n 0, 1) := by decide +kernel
theorem dX5_count_77 : decode cX5_count 77 = .ok (.ldc 63, 2) := by decide +kernel
theorem dX5_count_79 : decode cX5_count 79 = .ok (.invokevirtual 64, 3) := by decide +kernel
theorem dX5_count_82 : decode cX5_count 82 = .ok (.ireturn, 1) := by decide +kernel
theorem dX5_status_0 : decode cX5_status 0 = .ok (.iload_n 1, 1) := by decide +kernel
theorem dX5_status_1 : decode cX5_status 1 = .ok (.iconst (-1), 1) := by decide +kernel
theorem dX5_status_2 : decode cX5_status 2 = .ok (.if_icmp .lt 9, 3) := by decide +kernel
theorem dX5_status_5 : decode cX5_status 5 = .ok (.iload_n 1, 1) := by decide +kernel
theorem dX5_status_6 : decode cX5_status 6 = .ok (.bipush 7, 2) := by decide +kernel
theorem dX5_status_8 : decode cX5_status 8 = .ok (.if_icmp .lt 10, 3) := by decide +kernel
theorem dX5_status_11 : decode cX5_status 11 = .ok (.aload_n 0, 1) := by decide +kernel
theorem dX5_status_12 : decode cX5_status 12 = .ok (.ldc 63, 2) := by decide +kernel
theorem dX5_status_14 : decode cX5_status 14 = .ok (.invokevirtual 64, 3) := by decide +kernel
theorem dX5_status_17 : decode cX5_status 17 = .ok (.ireturn, 1) := by decide +kernel
theorem dX5_status_18 : decode cX5_status 18 = .ok (.iload_n 1, 1) := by decide +kernel
theorem dX5_status_19 : decode cX5_status 19 = .ok (.ifCond .lt 10, 3) := by decide +kernel
theorem dX5_status_22 : decode cX5_status 22 = .ok (.aload_n 0, 1) := by decide +kernel
theorem dX5_status_23 : decode cX5_status 23 = .ok (.getfield 55, 3) := by decide +kernel
theorem dX5_status_26 : decode cX5_status 26 = .ok (.iload_n 1, 1) := by decide +kernel
theorem dX5_status_27 : decode cX5_status 27 = .ok (.iaload, 1) := by decide +kernel
theorem dX5_status_28 : decode cX5_status 28 = .ok (.ireturn, 1) := by decide +kernel
theorem dX5_status_29 : decode cX5_status 29 = .ok (.iconst 0, 1) := by decide +kernel
theorem dX5_status_30 : decode cX5_status 30 = .ok (.istore_n 2, 1) := by decide +kernel
theorem dX5_status_31 : decode cX5_status 31 = .ok (.iconst 0, 1) := by decide +kernel
theorem dX5_status_32 : decode cX5_status 32 = .ok (.istore_n 3, 1) := by decide +kernel
theorem dX5_status_33 : decode cX5_status 33 = .ok (.iload_n 3, 1) := by decide +kernel
theorem dX5_status_34 : decode cX5_status 34 = .ok (.bipush 7, 2) := by decide +kernel
theorem dX5_status_36 : decode cX5_status 36 = .ok (.if_icmp .ge 18, 3) := by decide +kernel
theorem dX5_status_39 : decode cX5_status 39 = .ok (.iload_n 2, 1) := by decide +kernel
theorem dX5_status_40 : decode cX5_status 40 = .ok (.aload_n 0, 1) := by decide +kernel
theorem dX5_status_41 : decode cX5_status 41 = .ok (.getfield 55, 3) := by decide +kernel
theorem dX5_status_44 : decode cX5_status 44 = .ok (.iload_n 3, 1) := by decide +kernel
theorem dX5_status_45 : decode cX5_status 45 = .ok (.iaload, 1) := by decide +kernel
theorem dX5_status_46 : decode cX5_status 46 = .ok (.iadd, 1) := by decide +kernel
theorem dX5_status_47 : decode cX5_status 47 = .ok (.istore_n 2, 1) := by decide +kernel
theorem dX5_status_48 : decode cX5_status 48 = .ok (.iinc 3 1, 3) := by decide +kernel
theorem dX5_status_51 : decode cX5_status 51 = .ok (.goto (-18), 3) := by decide +kernel
theorem dX5_status_54 : decode cX5_status 54 = .ok (.iload_n 2, 1) := by decide +kernel
theorem dX5_status_55 : decode cX5_status 55 = .ok (.ireturn, 1) := by decide +kernel
theorem dX5_tell_0 : decode cX5_tell 0 = .ok (.ldc 63, 2) := by decide +kernel
theorem dX5_tell_2 : decode cX5_tell 2 = .ok (.iload_n 1, 1) := by decide +kernel
theorem dX5_tell_3 : decode cX5_tell 3 = .ok (.isub, 1) := by decide +kernel
theorem dX5_tell_4 : decode cX5_tell 4 = .ok (.istore_n 2, 1) := by decide +kernel
theorem dX5_tell_5 : decode cX5_tell 5 = .ok (.iload_n 2, 1) := by decide +kernel
theorem dX5_tell_6 : decode cX5_tell 6 = .ok (.ifCond .lt 19, 3) := by decide +kernel
theorem dX5_tell_9 : decode cX5_tell 9 = .ok (.iload_n 2, 1) := by decide +kernel
theorem dX5_tell_10 : decode cX5_tell 10 = .ok (.bipush 7, 2) := by decide +kernel
theorem dX5_tell_12 : decode cX5_tell 12 = .ok (.if_icmp .ge 13, 3) := by decide +kernel
theorem dX5_tell_15 : decode cX5_tell 15 = .ok (.aload_n 0, 1) := by decide +kernel
theorem dX5_tell_16 : decode cX5_tell 16 = .ok (.getfield 55, 3) := by decide +kernel
theorem dX5_tell_19 : decode cX5_tell 19 = .ok (.iload_n 2, 1) := by decide +kernel
theorem dX5_tell_20 : decode cX5_tell 20 = .ok (.dup2, 1) := by decide +kernel
theorem dX5_tell_21 : decode cX5_tell 21 = .ok (.iaload, 1) := by decide +kernel
theorem dX5_tell_22 : decode cX5_tell 22 = .ok (.iconst 1, 1) := by decide +kernel
theorem dX5_tell_23 : decode cX5_tell 23 = .ok (.iadd, 1) := by decide +kernel
theorem dX5_tell_24 : decode cX5_tell 24 = .ok (.iastore, 1) := by decide +kernel
theorem dX5_tell_25 : decode cX5_tell 25 = .ok (.iload_n 1, 1) := by decide +kernel
theorem dX5_tell_26 : decode cX5_tell 26 = .ok (.ireturn, 1) := by decide +kernel
theorem dX5_numberOrNone_0 : decode cX5_numberOrNone 0 = .ok (.iload_n 1, 1) := by decide +kernel
theorem dX5_numberOrNone_1 : decode cX5_numberOrNone 1 = .ok (.iconst (-1), 1) := by decide +kernel
theorem dX5_numberOrNone_2 : decode cX5_numberOrNone 2 = .ok (.if_icmp .ne 12, 3) := by decide +kernel
theorem dX5_numberOrNone_5 : decode cX5_numberOrNone 5 = .ok (.aload_n 0, 1) := by decide +kernel
theorem dX5_numberOrNone_6 : decode cX5_numberOrNone 6 = .ok (.ldc 177, 2) := by decide +kernel
theorem dX5_numberOrNone_8 : decode cX5_numberOrNone 8 = .ok (.invokevirtual 64, 3) := by decide +kernel
theorem dX5_numberOrNone_11 : decode cX5_numberOrNone 11 = .ok (.goto 4, 3) := by decide +kernel
theorem dX5_numberOrNone_14 : decode cX5_numberOrNone 14 = .ok (.iload_n 1, 1) := by decide +kernel
theorem dX5_numberOrNone_15 : decode cX5_numberOrNone 15 = .ok (.ireturn, 1) := by decide +kernel
theorem dX5_least_0 : decode cX5_least 0 = .ok (.aload_n 0, 1) := by decide +kernel
theorem dX5_least_1 : decode cX5_least 1 = .ok (.getfield 12, 3) := by decide +kernel
theorem dX5_least_4 : decode cX5_least 4 = .ok (.iload_n 1, 1) := by decide +kernel
theorem dX5_least_5 : decode cX5_least 5 = .ok (.invokevirtual 76, 3) := by decide +kernel
theorem dX5_least_8 : decode cX5_least 8 = .ok (.ifCond .eq 14, 3) := by decide +kernel
theorem dX5_least_11 : decode cX5_least 11 = .ok (.aload_n 0, 1) := by decide +kernel
theorem dX5_least_12 : decode cX5_least 12 = .ok (.getfield 12, 3) := by decide +kernel
theorem dX5_least_15 : decode cX5_least 15 = .ok (.iload_n 2, 1) := by decide +kernel
theorem dX5_least_16 : decode cX5_least 16 = .ok (.invokevirtual 76, 3) := by decide +kernel
theorem dX5_least_19 : decode cX5_least 19 = .ok (.ifCond .ne 10, 3) := by decide +kernel
theorem dX5_least_22 : decode cX5_least 22 = .ok (.aload_n 0, 1) := by decide +kernel
theorem dX5_least_23 : decode cX5_least 23 = .ok (.ldc 63, 2) := by decide +kernel
theorem dX5_least_25 : decode cX5_least 25 = .ok (.invokevirtual 64, 3) := by decide +kernel
theorem dX5_least_28 : decode cX5_least 28 = .ok (.ireturn, 1) := by decide +kernel
theorem dX5_least_29 : decode cX5_least 29 = .ok (.aload_n 0, 1) := by decide +kernel
theorem dX5_least_30 : decode cX5_least 30 = .ok (.getfield 12, 3) := by decide +kernel
theorem dX5_least_33 : decode cX5_least 33 = .ok (.aload_n 0, 1) := by decide +kernel
theorem dX5_least_34 : decode cX5_least 34 = .ok (.getfield 32, 3) := by decide +kernel
theorem dX5_least_37 : decode cX5_least 37 = .ok (.iload_n 1, 1) := by decide +kernel
theorem dX5_least_38 : decode cX5_least 38 = .ok (.iload_n 3, 1) := by decide +kernel
theorem dX5_least_39 : decode cX5_least 39 = .ok (.invokevirtual 210, 3) := by decide +kernel
theorem dX5_least_42 : decode cX5_least 42 = .ok (.aload_n 0, 1) := by decide +kernel
theorem dX5_least_43 : decode cX5_least 43 = .ok (.getfield 32, 3) := by decide +kernel
theorem dX5_least_46 : decode cX5_least 46 = .ok (.iload_n 2, 1) := by decide +kernel
theorem dX5_least_47 : decode cX5_least 47 = .ok (.iaload, 1) := by decide +kernel
theorem dX5_least_48 : decode cX5_least 48 = .ok (.istore 4, 2) := by decide +kernel
theorem dX5_least_50 : decode cX5_least 50 = .ok (.iload 4, 2) := by decide +kernel
theorem dX5_least_52 : decode cX5_least 52 = .ok (.ldc 226, 2) := by decide +kernel
theorem dX5_least_54 : decode cX5_least 54 = .ok (.if_icmp .ne 12, 3) := by decide +kernel
theorem dX5_least_57 : decode cX5_least 57 = .ok (.aload_n 0, 1) := by decide +kernel
theorem dX5_least_58 : decode cX5_least 58 = .ok (.ldc 177, 2) := by decide +kernel
theorem dX5_least_60 : decode cX5_least 60 = .ok (.invokevirtual 64, 3) := by decide +kernel
theorem dX5_least_63 : decode cX5_least 63 = .ok (.goto 5, 3) := by decide +kernel
theorem dX5_least_66 : decode cX5_least 66 = .ok (.iload 4, 2) := by decide +kernel
theorem dX5_least_68 : decode cX5_least 68 = .ok (.ireturn, 1) := by decide +kernel
theorem dX5_reached_0 : decode cX5_reached 0 = .ok (.iconst 0, 1) := by decide +kernel
theorem dX5_reached_1 : decode cX5_reached 1 = .ok (.istore_n 2, 1) := by decide +kernel
theorem dX5_reached_2 : decode cX5_reached 2 = .ok (.iconst 0, 1) := by decide +kernel
theorem dX5_reached_3 : decode cX5_reached 3 = .ok (.istore_n 3, 1) := by decide +kernel
theorem dX5_reached_4 : decode cX5_reached 4 = .ok (.iload_n 3, 1) := by decide +kernel
theorem dX5_reached_5 : decode cX5_reached 5 = .ok (.aload_n 0, 1) := by decide +kernel
theorem dX5_reached_6 : decode cX5_reached 6 = .ok (.getfield 12, 3) := by decide +kernel
theorem dX5_reached_9 : decode cX5_reached 9 = .ok (.getfield 68, 3) := by decide +kernel
theorem dX5_reached_12 : decode cX5_reached 12 = .ok (.if_icmp .ge 25, 3) := by decide +kernel
theorem dX5_reached_15 : decode cX5_reached 15 = .ok (.aload_n 0, 1) := by decide +kernel
theorem dX5_reached_16 : decode cX5_reached 16 = .ok (.getfield 32, 3) := by decide +kernel
theorem dX5_reached_19 : decode cX5_reached 19 = .ok (.iload_n 3, 1) := by decide +kernel
theorem dX5_reached_20 : decode cX5_reached 20 = .ok (.iaload, 1) := by decide +kernel
theorem dX5_reached_21 : decode cX5_reached 21 = .ok (.iload_n 1, 1) := by decide +kernel
theorem dX5_reached_22 : decode cX5_reached 22 = .ok (.if_icmp .gt 9, 3) := by decide +kernel
theorem dX5_reached_25 : decode cX5_reached 25 = .ok (.iload_n 2, 1) := by decide +kernel
theorem dX5_reached_26 : decode cX5_reached 26 = .ok (.iconst 1, 1) := by decide +kernel
theorem dX5_reached_27 : decode cX5_reached 27 = .ok (.iload_n 3, 1) := by decide +kernel
theorem dX5_reached_28 : decode cX5_reached 28 = .ok (.ishl, 1) := by decide +kernel
theorem dX5_reached_29 : decode cX5_reached 29 = .ok (.ior, 1) := by decide +kernel
theorem dX5_reached_30 : decode cX5_reached 30 = .ok (.istore_n 2, 1) := by decide +kernel
theorem dX5_reached_31 : decode cX5_reached 31 = .ok (.iinc 3 1, 3) := by decide +kernel
theorem dX5_reached_34 : decode cX5_reached 34 = .ok (.goto (-30), 3) := by decide +kernel
theorem dX5_reached_37 : decode cX5_reached 37 = .ok (.iload_n 2, 1) := by decide +kernel
theorem dX5_reached_38 : decode cX5_reached 38 = .ok (.ireturn, 1) := by decide +kernel
theorem dX5_farThrough_0 : decode cX5_farThrough 0 = .ok (.aload_n 0, 1) := by decide +kernel
theorem dX5_farThrough_1 : decode cX5_farThrough 1 = .ok (.getfield 32, 3) := by decide +kernel
theorem dX5_farThrough_4 : decode cX5_farThrough 4 = .ok (.iload_n 1, 1) := by decide +kernel
theorem dX5_farThrough_5 : decode cX5_farThrough 5 = .ok (.iaload, 1) := by decide +kernel
theorem dX5_farThrough_6 : decode cX5_farThrough 6 = .ok (.aload_n 0, 1) := by decide +kernel
theorem dX5_farThrough_7 : decode cX5_farThrough 7 = .ok (.getfield 36, 3) := by decide +kernel
theorem dX5_farThrough_10 : decode cX5_farThrough 10 = .ok (.iload_n 2, 1) := by decide +kernel
theorem dX5_farThrough_11 : decode cX5_farThrough 11 = .ok (.iaload, 1) := by decide +kernel
theorem dX5_farThrough_12 : decode cX5_farThrough 12 = .ok (.iadd, 1) := by decide +kernel
theorem dX5_farThrough_13 : decode cX5_farThrough 13 = .ok (.istore_n 3, 1) := by decide +kernel
theorem dX5_farThrough_14 : decode cX5_farThrough 14 = .ok (.aload_n 0, 1) := by decide +kernel
theorem dX5_farThrough_15 : decode cX5_farThrough 15 = .ok (.getfield 32, 3) := by decide +kernel
theorem dX5_farThrough_18 : decode cX5_farThrough 18 = .ok (.iload_n 2, 1) := by decide +kernel
theorem dX5_farThrough_19 : decode cX5_farThrough 19 = .ok (.iaload, 1) := by decide +kernel
theorem dX5_farThrough_20 : decode cX5_farThrough 20 = .ok (.aload_n 0, 1) := by decide +kernel
theorem dX5_farThrough_21 : decode cX5_farThrough 21 = .ok (.getfield 36, 3) := by decide +kernel
theorem dX5_farThrough_24 : decode cX5_farThrough 24 = .ok (.iload_n 1, 1) := by decide +kernel
theorem dX5_farThrough_25 : decode cX5_farThrough 25 = .ok (.iaload, 1) := by decide +kernel
theorem dX5_farThrough_26 : decode cX5_farThrough 26 = .ok (.iadd, 1) := by decide +kernel
theorem dX5_farThrough_27 : decode cX5_farThrough 27 = .ok (.istore 4, 2) := by decide +kernel
theorem dX5_farThrough_29 : decode cX5_farThrough 29 = .ok (.iload_n 3, 1) := by decide +kernel
theorem dX5_farThrough_30 : decode cX5_farThrough 30 = .ok (.iload 4, 2) := by decide +kernel
theorem dX5_farThrough_32 : decode cX5_farThrough 32 = .ok (.invokestatic 227, 3) := by decide +kernel
theorem dX5_farThrough_35 : decode cX5_farThrough 35 = .ok (.iconst 1, 1) := by decide +kernel
theorem dX5_farThrough_36 : decode cX5_farThrough 36 = .ok (.iadd, 1) := by decide +kernel
theorem dX5_farThrough_37 : decode cX5_farThrough 37 = .ok (.ireturn, 1) := by decide +kernel
theorem dX5_sheetFinding_0 : decode cX5_sheetFinding 0 = .ok (.iload_n 1, 1) := by decide +kernel
theorem dX5_sheetFinding_1 : decode cX5_sheetFinding 1 = .ok (.invokestatic 249, 3) := by decide +kernel
theorem dX5_sheetFinding_4 : decode cX5_sheetFinding 4 = .ok (.ifCond .ne 6, 3) := by decide +kernel
theorem dX5_sheetFinding_7 : decode cX5_sheetFinding 7 = .ok (.ldc 63, 2) := by decide +kernel
theorem dX5_sheetFinding_9 : decode cX5_sheetFinding 9 = .ok (.ireturn, 1) := by decide +kernel
theorem dX5_sheetFinding_10 : decode cX5_sheetFinding 10 = .ok (.aload_n 0, 1) := by decide +kernel
theorem dX5_sheetFinding_11 : decode cX5_sheetFinding 11 = .ok (.getfield 51, 3) := by decide +kernel
theorem dX5_sheetFinding_14 : decode cX5_sheetFinding 14 = .ok (.iload_n 1, 1) := by decide +kernel
theorem dX5_sheetFinding_15 : decode cX5_sheetFinding 15 = .ok (.aaload, 1) := by decide +kernel
theorem dX5_sheetFinding_16 : decode cX5_sheetFinding 16 = .ok (.getfield 270, 3) := by decide +kernel
theorem dX5_sheetFinding_19 : decode cX5_sheetFinding 19 = .ok (.ifCond .ne 9, 3) := by decide +kernel
theorem dX5_sheetFinding_22 : decode cX5_sheetFinding 22 = .ok (.ldc_w 273, 3) := by decide +kernel
theorem dX5_sheetFinding_25 : decode cX5_sheetFinding 25 = .ok (.goto 4, 3) := by decide +kernel
theorem dX5_sheetFinding_28 : decode cX5_sheetFinding 28 = .ok (.iconst 0, 1) := by decide +kernel
theorem dX5_sheetFinding_29 : decode cX5_sheetFinding 29 = .ok (.ireturn, 1) := by decide +kernel
theorem dX5_bookFinding_0 : decode cX5_bookFinding 0 = .ok (.aload_n 0, 1) := by decide +kernel
theorem dX5_bookFinding_1 : decode cX5_bookFinding 1 = .ok (.iload_n 1, 1) := by decide +kernel
theorem dX5_bookFinding_2 : decode cX5_bookFinding 2 = .ok (.invokevirtual 259, 3) := by decide +kernel
theorem dX5_bookFinding_5 : decode cX5_bookFinding 5 = .ok (.istore_n 3, 1) := by decide +kernel
theorem dX5_bookFinding_6 : decode cX5_bookFinding 6 = .ok (.iload_n 3, 1) := by decide +kernel
theorem dX5_bookFinding_7 : decode cX5_bookFinding 7 = .ok (.ifCond .eq 5, 3) := by decide +kernel
theorem dX5_bookFinding_10 : decode cX5_bookFinding 10 = .ok (.iload_n 3, 1) := by decide +kernel
theorem dX5_bookFinding_11 : decode cX5_bookFinding 11 = .ok (.ireturn, 1) := by decide +kernel
theorem dX5_bookFinding_12 : decode cX5_bookFinding 12 = .ok (.aload_n 0, 1) := by decide +kernel
theorem dX5_bookFinding_13 : decode cX5_bookFinding 13 = .ok (.getfield 12, 3) := by decide +kernel
theorem dX5_bookFinding_16 : decode cX5_bookFinding 16 = .ok (.iload_n 2, 1) := by decide +kernel
theorem dX5_bookFinding_17 : decode cX5_bookFinding 17 = .ok (.invokevirtual 126, 3) := by decide +kernel
theorem dX5_bookFinding_20 : decode cX5_bookFinding 20 = .ok (.ifCond .eq 7, 3) := by decide +kernel
theorem dX5_bookFinding_23 : decode cX5_bookFinding 23 = .ok (.iconst 0, 1) := by decide +kernel
theorem dX5_bookFinding_24 : decode cX5_bookFinding 24 = .ok (.goto 5, 3) := by decide +kernel
theorem dX5_bookFinding_27 : decode cX5_bookFinding 27 = .ok (.ldc 63, 2) := by decide +kernel
theorem dX5_bookFinding_29 : decode cX5_bookFinding 29 = .ok (.ireturn, 1) := by decide +kernel
theorem dX5_goesByBook_0 : decode cX5_goesByBook 0 = .ok (.iconst 0, 1) := by decide +kernel
theorem dX5_goesByBook_1 : decode cX5_goesByBook 1 = .ok (.istore_n 2, 1) := by decide +kernel
theorem dX5_goesByBook_2 : decode cX5_goesByBook 2 = .ok (.iload_n 2, 1) := by decide +kernel
theorem dX5_goesByBook_3 : decode cX5_goesByBook 3 = .ok (.aload_n 1, 1) := by decide +kernel
theorem dX5_goesByBook_4 : decode cX5_goesByBook 4 = .ok (.getfield 256, 3) := by decide +kernel
theorem dX5_goesByBook_7 : decode cX5_goesByBook 7 = .ok (.if_icmp .ge 43, 3) := by decide +kernel
theorem dX5_goesByBook_10 : decode cX5_goesByBook 10 = .ok (.aload_n 1, 1) := by decide +kernel
theorem dX5_goesByBook_11 : decode cX5_goesByBook 11 = .ok (.getfield 262, 3) := by decide +kernel
theorem dX5_goesByBook_14 : decode cX5_goesByBook 14 = .ok (.iload_n 2, 1) := by decide +kernel
theorem dX5_goesByBook_15 : decode cX5_goesByBook 15 = .ok (.laload, 1) := by decide +kernel
theorem dX5_goesByBook_16 : decode cX5_goesByBook 16 = .ok (.aload_n 0, 1) := by decide +kernel
theorem dX5_goesByBook_17 : decode cX5_goesByBook 17 = .ok (.getfield 25, 3) := by decide +kernel
theorem dX5_goesByBook_20 : decode cX5_goesByBook 20 = .ok (.getfield 136, 3) := by decide +kernel
theorem dX5_goesByBook_23 : decode cX5_goesByBook 23 = .ok (.invokestatic 139, 3) := by decide +kernel
theorem dX5_goesByBook_26 : decode cX5_goesByBook 26 = .ok (.i2l, 1) := by decide +kernel
theorem dX5_goesByBook_27 : decode cX5_goesByBook 27 = .ok (.lcmp, 1) := by decide +kernel
theorem dX5_goesByBook_28 : decode cX5_goesByBook 28 = .ok (.ifCond .eq 5, 3) := by decide +kernel
theorem dX5_goesByBook_31 : decode cX5_goesByBook 31 = .ok (.iconst 0, 1) := by decide +kernel
theorem dX5_goesByBook_32 : decode cX5_goesByBook 32 = .ok (.ireturn, 1) := by decide +kernel
theorem dX5_goesByBook_33 : decode cX5_goesByBook 33 = .ok (.aload_n 0, 1) := by decide +kernel
theorem dX5_goesByBook_34 : decode cX5_goesByBook 34 = .ok (.getfield 25, 3) := by decide +kernel
theorem dX5_goesByBook_37 : decode cX5_goesByBook 37 = .ok (.aload_n 0, 1) := by decide +kernel
theorem dX5_goesByBook_38 : decode cX5_goesByBook 38 = .ok (.getfield 12, 3) := by decide +kernel
theorem dX5_goesByBook_41 : decode cX5_goesByBook 41 = .ok (.invokevirtual 158, 3) := by decide +kernel
theorem dX5_goesByBook_44 : decode cX5_goesByBook 44 = .ok (.iinc 2 1, 3) := by decide +kernel
theorem dX5_goesByBook_47 : decode cX5_goesByBook 47 = .ok (.goto (-45), 3) := by decide +kernel
theorem dX5_goesByBook_50 : decode cX5_goesByBook 50 = .ok (.iconst 1, 1) := by decide +kernel
theorem dX5_goesByBook_51 : decode cX5_goesByBook 51 = .ok (.ireturn, 1) := by decide +kernel
theorem dX5_isRough_0 : decode cX5_isRough 0 = .ok (.iload_n 0, 1) := by decide +kernel
theorem dX5_isRough_1 : decode cX5_isRough 1 = .ok (.ifCond .lt 13, 3) := by decide +kernel
theorem dX5_isRough_4 : decode cX5_isRough 4 = .ok (.iload_n 0, 1) := by decide +kernel
theorem dX5_isRough_5 : decode cX5_isRough 5 = .ok (.bipush 9, 2) := by decide +kernel
theorem dX5_isRough_7 : decode cX5_isRough 7 = .ok (.if_icmp .gt 7, 3) := by decide +kernel
theorem dX5_isRough_10 : decode cX5_isRough 10 = .ok (.iconst 1, 1) := by decide +kernel
theorem dX5_isRough_11 : decode cX5_isRough 11 = .ok (.goto 4, 3) := by decide +kernel
theorem dX5_isRough_14 : decode cX5_isRough 14 = .ok (.iconst 0, 1) := by decide +kernel
theorem dX5_isRough_15 : decode cX5_isRough 15 = .ok (.ireturn, 1) := by decide +kernel
theorem dX5_isKind_0 : decode cX5_isKind 0 = .ok (.iload_n 0, 1) := by decide +kernel
theorem dX5_isKind_1 : decode cX5_isKind 1 = .ok (.ifCond .lt 13, 3) := by decide +kernel
theorem dX5_isKind_4 : decode cX5_isKind 4 = .ok (.iload_n 0, 1) := by decide +kernel
theorem dX5_isKind_5 : decode cX5_isKind 5 = .ok (.bipush 6, 2) := by decide +kernel
theorem dX5_isKind_7 : decode cX5_isKind 7 = .ok (.if_icmp .ge 7, 3) := by decide +kernel
theorem dX5_isKind_10 : decode cX5_isKind 10 = .ok (.iconst 1, 1) := by decide +kernel
theorem dX5_isKind_11 : decode cX5_isKind 11 = .ok (.goto 4, 3) := by decide +kernel
theorem dX5_isKind_14 : decode cX5_isKind 14 = .ok (.iconst 0, 1) := by decide +kernel
theorem dX5_isKind_15 : decode cX5_isKind 15 = .ok (.ireturn, 1) := by decide +kernel
theorem dX5_isSheet_0 : decode cX5_isSheet 0 = .ok (.iload_n 0, 1) := by decide +kernel
theorem dX5_isSheet_1 : decode cX5_isSheet 1 = .ok (.ifCond .lt 12, 3) := by decide +kernel
theorem dX5_isSheet_4 : decode cX5_isSheet 4 = .ok (.iload_n 0, 1) := by decide +kernel
theorem dX5_isSheet_5 : decode cX5_isSheet 5 = .ok (.iconst 4, 1) := by decide +kernel
theorem dX5_isSheet_6 : decode cX5_isSheet 6 = .ok (.if_icmp .ge 7, 3) := by decide +kernel
theorem dX5_isSheet_9 : decode cX5_isSheet 9 = .ok (.iconst 1, 1) := by decide +kernel
theorem dX5_isSheet_10 : decode cX5_isSheet 10 = .ok (.goto 4, 3) := by decide +kernel
theorem dX5_isSheet_13 : decode cX5_isSheet 13 = .ok (.iconst 0, 1) := by decide +kernel
theorem dX5_isSheet_14 : decode cX5_isSheet 14 = .ok (.ireturn, 1) := by decide +kernel
theorem dX5_isStepsOn_0 : decode cX5_isStepsOn 0 = .ok (.iload_n 0, 1) := by decide +kernel
theorem dX5_isStepsOn_1 : decode cX5_isStepsOn 1 = .ok (.ifCond .lt 13, 3) := by decide +kernel
theorem dX5_isStepsOn_4 : decode cX5_isStepsOn 4 = .ok (.iload_n 0, 1) := by decide +kernel
theorem dX5_isStepsOn_5 : decode cX5_isStepsOn 5 = .ok (.bipush 100, 2) := by decide +kernel
theorem dX5_isStepsOn_7 : decode cX5_isStepsOn 7 = .ok (.if_icmp .gt 7, 3) := by decide +kernel
theorem dX5_isStepsOn_10 : decode cX5_isStepsOn 10 = .ok (.iconst 1, 1) := by decide +kernel
theorem dX5_isStepsOn_11 : decode cX5_isStepsOn 11 = .ok (.goto 4, 3) := by decide +kernel
theorem dX5_isStepsOn_14 : decode cX5_isStepsOn 14 = .ok (.iconst 0, 1) := by decide +kernel
theorem dX5_isStepsOn_15 : decode cX5_isStepsOn 15 = .ok (.ireturn, 1) := by decide +kernel
theorem dX5_wayOf_0 : decode cX5_wayOf 0 = .ok (.iload_n 0, 1) := by decide +kernel
theorem dX5_wayOf_1 : decode cX5_wayOf 1 = .ok (.iconst 4, 1) := by decide +kernel
theorem dX5_wayOf_2 : decode cX5_wayOf 2 = .ok (.imul, 1) := by decide +kernel
theorem dX5_wayOf_3 : decode cX5_wayOf 3 = .ok (.iload_n 1, 1) := by decide +kernel
theorem dX5_wayOf_4 : decode cX5_wayOf 4 = .ok (.iadd, 1) := by decide +kernel
theorem dX5_wayOf_5 : decode cX5_wayOf 5 = .ok (.ireturn, 1) := by decide +kernel
theorem dX5_fieldOf_0 : decode cX5_fieldOf 0 = .ok (.iload_n 0, 1) := by decide +kernel
theorem dX5_fieldOf_1 : decode cX5_fieldOf 1 = .ok (.iconst 4, 1) := by decide +kernel
theorem dX5_fieldOf_2 : decode cX5_fieldOf 2 = .ok (.idiv, 1) := by decide +kernel
theorem dX5_fieldOf_3 : decode cX5_fieldOf 3 = .ok (.ireturn, 1) := by decide +kernel
theorem dX5_headingOf_0 : decode cX5_headingOf 0 = .ok (.iload_n 0, 1) := by decide +kernel
theorem dX5_headingOf_1 : decode cX5_headingOf 1 = .ok (.iconst 4, 1) := by decide +kernel
theorem dX5_headingOf_2 : decode cX5_headingOf 2 = .ok (.irem, 1) := by decide +kernel
theorem dX5_headingOf_3 : decode cX5_headingOf 3 = .ok (.ireturn, 1) := by decide +kernel
theorem dX5_turned_0 : decode cX5_turned 0 = .ok (.iload_n 0, 1) := by decide +kernel
theorem dX5_turned_1 : decode cX5_turned 1 = .ok (.invokestatic 139, 3) := by decide +kernel
theorem dX5_turned_4 : decode cX5_turned 4 = .ok (.iload_n 0, 1) := by decide +kernel
theorem dX5_turned_5 : decode cX5_turned 5 = .ok (.invokestatic 142, 3) := by decide +kernel
theorem dX5_turned_8 : decode cX5_turned 8 = .ok (.iload_n 1, 1) := by decide +kernel
theorem dX5_turned_9 : decode cX5_turned 9 = .ok (.iadd, 1) := by decide +kernel
theorem dX5_turned_10 : decode cX5_turned 10 = .ok (.iconst 4, 1) := by decide +kernel
theorem dX5_turned_11 : decode cX5_turned 11 = .ok (.irem, 1) := by decide +kernel
theorem dX5_turned_12 : decode cX5_turned 12 = .ok (.invokestatic 96, 3) := by decide +kernel
theorem dX5_turned_15 : decode cX5_turned 15 = .ok (.ireturn, 1) := by decide +kernel
