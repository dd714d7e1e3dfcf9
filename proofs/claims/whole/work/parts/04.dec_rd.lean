abbrev m_Rd_init : MethodName × ByteArray × Nat × Option FieldType := (⟨"TestText$Reader", "<init>", "(LTestText$Plan;[B)V"⟩, prog_4_method_1_code, 3, (Option.none : Option FieldType))
theorem d_Rd_init_0 : decode prog_4_method_1_code 0 = .ok (.aload_n 0, 1) := by decide +kernel
theorem d_Rd_init_1 : decode prog_4_method_1_code 1 = .ok (.invokespecial 3, 3) := by decide +kernel
theorem d_Rd_init_4 : decode prog_4_method_1_code 4 = .ok (.aload_n 0, 1) := by decide +kernel
theorem d_Rd_init_5 : decode prog_4_method_1_code 5 = .ok (.aload_n 1, 1) := by decide +kernel
theorem d_Rd_init_6 : decode prog_4_method_1_code 6 = .ok (.putfield 9, 3) := by decide +kernel
theorem d_Rd_init_9 : decode prog_4_method_1_code 9 = .ok (.aload_n 0, 1) := by decide +kernel
theorem d_Rd_init_10 : decode prog_4_method_1_code 10 = .ok (.aload_n 2, 1) := by decide +kernel
theorem d_Rd_init_11 : decode prog_4_method_1_code 11 = .ok (.putfield 15, 3) := by decide +kernel
theorem d_Rd_init_14 : decode prog_4_method_1_code 14 = .ok (.aload_n 0, 1) := by decide +kernel
theorem d_Rd_init_15 : decode prog_4_method_1_code 15 = .ok (.new 19, 3) := by decide +kernel
theorem d_Rd_init_18 : decode prog_4_method_1_code 18 = .ok (.dup, 1) := by decide +kernel
theorem d_Rd_init_19 : decode prog_4_method_1_code 19 = .ok (.aload_n 2, 1) := by decide +kernel
theorem d_Rd_init_20 : decode prog_4_method_1_code 20 = .ok (.invokespecial 21, 3) := by decide +kernel
theorem d_Rd_init_23 : decode prog_4_method_1_code 23 = .ok (.putfield 24, 3) := by decide +kernel
theorem d_Rd_init_26 : decode prog_4_method_1_code 26 = .ok (.aload_n 0, 1) := by decide +kernel
theorem d_Rd_init_27 : decode prog_4_method_1_code 27 = .ok (.bipush 8, 2) := by decide +kernel
theorem d_Rd_init_29 : decode prog_4_method_1_code 29 = .ok (.newarray .int, 2) := by decide +kernel
theorem d_Rd_init_31 : decode prog_4_method_1_code 31 = .ok (.putfield 28, 3) := by decide +kernel
theorem d_Rd_init_34 : decode prog_4_method_1_code 34 = .ok (.return_, 1) := by decide +kernel
abbrev m_Rd_readLines : MethodName × ByteArray × Nat × Option FieldType := (⟨"TestText$Reader", "readLines", "(I)I"⟩, prog_4_method_2_code, 6, (Option.some FieldType.int))
theorem d_Rd_readLines_0 : decode prog_4_method_2_code 0 = .ok (.iconst 0, 1) := by decide +kernel
theorem d_Rd_readLines_1 : decode prog_4_method_2_code 1 = .ok (.istore_n 2, 1) := by decide +kernel
theorem d_Rd_readLines_2 : decode prog_4_method_2_code 2 = .ok (.iconst 0, 1) := by decide +kernel
theorem d_Rd_readLines_3 : decode prog_4_method_2_code 3 = .ok (.istore_n 3, 1) := by decide +kernel
theorem d_Rd_readLines_4 : decode prog_4_method_2_code 4 = .ok (.iconst 0, 1) := by decide +kernel
theorem d_Rd_readLines_5 : decode prog_4_method_2_code 5 = .ok (.istore 4, 2) := by decide +kernel
theorem d_Rd_readLines_7 : decode prog_4_method_2_code 7 = .ok (.iload 4, 2) := by decide +kernel
theorem d_Rd_readLines_9 : decode prog_4_method_2_code 9 = .ok (.iload_n 1, 1) := by decide +kernel
theorem d_Rd_readLines_10 : decode prog_4_method_2_code 10 = .ok (.if_icmp .ge 101, 3) := by decide +kernel
theorem d_Rd_readLines_13 : decode prog_4_method_2_code 13 = .ok (.iload 4, 2) := by decide +kernel
theorem d_Rd_readLines_15 : decode prog_4_method_2_code 15 = .ok (.aload_n 0, 1) := by decide +kernel
theorem d_Rd_readLines_16 : decode prog_4_method_2_code 16 = .ok (.getfield 15, 3) := by decide +kernel
theorem d_Rd_readLines_19 : decode prog_4_method_2_code 19 = .ok (.arraylength, 1) := by decide +kernel
theorem d_Rd_readLines_20 : decode prog_4_method_2_code 20 = .ok (.if_icmp .ge 91, 3) := by decide +kernel
theorem d_Rd_readLines_23 : decode prog_4_method_2_code 23 = .ok (.aload_n 0, 1) := by decide +kernel
theorem d_Rd_readLines_24 : decode prog_4_method_2_code 24 = .ok (.getfield 15, 3) := by decide +kernel
theorem d_Rd_readLines_27 : decode prog_4_method_2_code 27 = .ok (.iload 4, 2) := by decide +kernel
theorem d_Rd_readLines_29 : decode prog_4_method_2_code 29 = .ok (.baload, 1) := by decide +kernel
theorem d_Rd_readLines_30 : decode prog_4_method_2_code 30 = .ok (.bipush 10, 2) := by decide +kernel
theorem d_Rd_readLines_32 : decode prog_4_method_2_code 32 = .ok (.if_icmp .ne 7, 3) := by decide +kernel
theorem d_Rd_readLines_35 : decode prog_4_method_2_code 35 = .ok (.iconst 1, 1) := by decide +kernel
theorem d_Rd_readLines_36 : decode prog_4_method_2_code 36 = .ok (.goto 4, 3) := by decide +kernel
theorem d_Rd_readLines_39 : decode prog_4_method_2_code 39 = .ok (.iconst 0, 1) := by decide +kernel
theorem d_Rd_readLines_40 : decode prog_4_method_2_code 40 = .ok (.istore 5, 2) := by decide +kernel
theorem d_Rd_readLines_42 : decode prog_4_method_2_code 42 = .ok (.iload 5, 2) := by decide +kernel
theorem d_Rd_readLines_44 : decode prog_4_method_2_code 44 = .ok (.ifCond .ne 11, 3) := by decide +kernel
theorem d_Rd_readLines_47 : decode prog_4_method_2_code 47 = .ok (.iload 4, 2) := by decide +kernel
theorem d_Rd_readLines_49 : decode prog_4_method_2_code 49 = .ok (.iload_n 1, 1) := by decide +kernel
theorem d_Rd_readLines_50 : decode prog_4_method_2_code 50 = .ok (.iconst 1, 1) := by decide +kernel
theorem d_Rd_readLines_51 : decode prog_4_method_2_code 51 = .ok (.isub, 1) := by decide +kernel
theorem d_Rd_readLines_52 : decode prog_4_method_2_code 52 = .ok (.if_icmp .ne 53, 3) := by decide +kernel
theorem d_Rd_readLines_55 : decode prog_4_method_2_code 55 = .ok (.iinc 2 1, 3) := by decide +kernel
theorem d_Rd_readLines_58 : decode prog_4_method_2_code 58 = .ok (.aload_n 0, 1) := by decide +kernel
theorem d_Rd_readLines_59 : decode prog_4_method_2_code 59 = .ok (.getfield 24, 3) := by decide +kernel
theorem d_Rd_readLines_62 : decode prog_4_method_2_code 62 = .ok (.iload_n 3, 1) := by decide +kernel
theorem d_Rd_readLines_63 : decode prog_4_method_2_code 63 = .ok (.iload 5, 2) := by decide +kernel
theorem d_Rd_readLines_65 : decode prog_4_method_2_code 65 = .ok (.ifCond .eq 8, 3) := by decide +kernel
theorem d_Rd_readLines_68 : decode prog_4_method_2_code 68 = .ok (.iload 4, 2) := by decide +kernel
theorem d_Rd_readLines_70 : decode prog_4_method_2_code 70 = .ok (.goto 7, 3) := by decide +kernel
theorem d_Rd_readLines_73 : decode prog_4_method_2_code 73 = .ok (.iload 4, 2) := by decide +kernel
theorem d_Rd_readLines_75 : decode prog_4_method_2_code 75 = .ok (.iconst 1, 1) := by decide +kernel
theorem d_Rd_readLines_76 : decode prog_4_method_2_code 76 = .ok (.iadd, 1) := by decide +kernel
theorem d_Rd_readLines_77 : decode prog_4_method_2_code 77 = .ok (.invokevirtual 32, 3) := by decide +kernel
theorem d_Rd_readLines_80 : decode prog_4_method_2_code 80 = .ok (.iload 4, 2) := by decide +kernel
theorem d_Rd_readLines_82 : decode prog_4_method_2_code 82 = .ok (.iconst 1, 1) := by decide +kernel
theorem d_Rd_readLines_83 : decode prog_4_method_2_code 83 = .ok (.iadd, 1) := by decide +kernel
theorem d_Rd_readLines_84 : decode prog_4_method_2_code 84 = .ok (.istore_n 3, 1) := by decide +kernel
theorem d_Rd_readLines_85 : decode prog_4_method_2_code 85 = .ok (.aload_n 0, 1) := by decide +kernel
theorem d_Rd_readLines_86 : decode prog_4_method_2_code 86 = .ok (.getfield 24, 3) := by decide +kernel
theorem d_Rd_readLines_89 : decode prog_4_method_2_code 89 = .ok (.getfield 36, 3) := by decide +kernel
theorem d_Rd_readLines_92 : decode prog_4_method_2_code 92 = .ok (.ifCond .le 13, 3) := by decide +kernel
theorem d_Rd_readLines_95 : decode prog_4_method_2_code 95 = .ok (.aload_n 0, 1) := by decide +kernel
theorem d_Rd_readLines_96 : decode prog_4_method_2_code 96 = .ok (.iload_n 2, 1) := by decide +kernel
theorem d_Rd_readLines_97 : decode prog_4_method_2_code 97 = .ok (.invokevirtual 40, 3) := by decide +kernel
theorem d_Rd_readLines_100 : decode prog_4_method_2_code 100 = .ok (.ifCond .ne 5, 3) := by decide +kernel
theorem d_Rd_readLines_103 : decode prog_4_method_2_code 103 = .ok (.iload_n 2, 1) := by decide +kernel
theorem d_Rd_readLines_104 : decode prog_4_method_2_code 104 = .ok (.ireturn, 1) := by decide +kernel
theorem d_Rd_readLines_105 : decode prog_4_method_2_code 105 = .ok (.iinc 4 1, 3) := by decide +kernel
theorem d_Rd_readLines_108 : decode prog_4_method_2_code 108 = .ok (.goto (-101), 3) := by decide +kernel
theorem d_Rd_readLines_111 : decode prog_4_method_2_code 111 = .ok (.aload_n 0, 1) := by decide +kernel
theorem d_Rd_readLines_112 : decode prog_4_method_2_code 112 = .ok (.getfield 44, 3) := by decide +kernel
theorem d_Rd_readLines_115 : decode prog_4_method_2_code 115 = .ok (.ifCond .le 9, 3) := by decide +kernel
theorem d_Rd_readLines_118 : decode prog_4_method_2_code 118 = .ok (.iload_n 2, 1) := by decide +kernel
theorem d_Rd_readLines_119 : decode prog_4_method_2_code 119 = .ok (.iconst 1, 1) := by decide +kernel
theorem d_Rd_readLines_120 : decode prog_4_method_2_code 120 = .ok (.iadd, 1) := by decide +kernel
theorem d_Rd_readLines_121 : decode prog_4_method_2_code 121 = .ok (.goto 4, 3) := by decide +kernel
theorem d_Rd_readLines_124 : decode prog_4_method_2_code 124 = .ok (.iconst 0, 1) := by decide +kernel
theorem d_Rd_readLines_125 : decode prog_4_method_2_code 125 = .ok (.ireturn, 1) := by decide +kernel
abbrev m_Rd_takeLine : MethodName × ByteArray × Nat × Option FieldType := (⟨"TestText$Reader", "takeLine", "(I)Z"⟩, prog_4_method_3_code, 3, (Option.some FieldType.boolean))
theorem d_Rd_takeLine_0 : decode prog_4_method_3_code 0 = .ok (.aload_n 0, 1) := by decide +kernel
theorem d_Rd_takeLine_1 : decode prog_4_method_3_code 1 = .ok (.getfield 24, 3) := by decide +kernel
theorem d_Rd_takeLine_4 : decode prog_4_method_3_code 4 = .ok (.iconst 0, 1) := by decide +kernel
theorem d_Rd_takeLine_5 : decode prog_4_method_3_code 5 = .ok (.ldc 47, 2) := by decide +kernel
theorem d_Rd_takeLine_7 : decode prog_4_method_3_code 7 = .ok (.invokevirtual 49, 3) := by decide +kernel
theorem d_Rd_takeLine_10 : decode prog_4_method_3_code 10 = .ok (.ifCond .eq 8, 3) := by decide +kernel
theorem d_Rd_takeLine_13 : decode prog_4_method_3_code 13 = .ok (.aload_n 0, 1) := by decide +kernel
theorem d_Rd_takeLine_14 : decode prog_4_method_3_code 14 = .ok (.invokevirtual 53, 3) := by decide +kernel
theorem d_Rd_takeLine_17 : decode prog_4_method_3_code 17 = .ok (.ireturn, 1) := by decide +kernel
theorem d_Rd_takeLine_18 : decode prog_4_method_3_code 18 = .ok (.aload_n 0, 1) := by decide +kernel
theorem d_Rd_takeLine_19 : decode prog_4_method_3_code 19 = .ok (.getfield 24, 3) := by decide +kernel
theorem d_Rd_takeLine_22 : decode prog_4_method_3_code 22 = .ok (.iconst 0, 1) := by decide +kernel
theorem d_Rd_takeLine_23 : decode prog_4_method_3_code 23 = .ok (.ldc 57, 2) := by decide +kernel
theorem d_Rd_takeLine_25 : decode prog_4_method_3_code 25 = .ok (.invokevirtual 49, 3) := by decide +kernel
theorem d_Rd_takeLine_28 : decode prog_4_method_3_code 28 = .ok (.ifCond .eq 8, 3) := by decide +kernel
theorem d_Rd_takeLine_31 : decode prog_4_method_3_code 31 = .ok (.aload_n 0, 1) := by decide +kernel
theorem d_Rd_takeLine_32 : decode prog_4_method_3_code 32 = .ok (.invokevirtual 59, 3) := by decide +kernel
theorem d_Rd_takeLine_35 : decode prog_4_method_3_code 35 = .ok (.ireturn, 1) := by decide +kernel
theorem d_Rd_takeLine_36 : decode prog_4_method_3_code 36 = .ok (.aload_n 0, 1) := by decide +kernel
theorem d_Rd_takeLine_37 : decode prog_4_method_3_code 37 = .ok (.getfield 24, 3) := by decide +kernel
theorem d_Rd_takeLine_40 : decode prog_4_method_3_code 40 = .ok (.iconst 0, 1) := by decide +kernel
theorem d_Rd_takeLine_41 : decode prog_4_method_3_code 41 = .ok (.ldc 62, 2) := by decide +kernel
theorem d_Rd_takeLine_43 : decode prog_4_method_3_code 43 = .ok (.invokevirtual 49, 3) := by decide +kernel
theorem d_Rd_takeLine_46 : decode prog_4_method_3_code 46 = .ok (.ifCond .eq 8, 3) := by decide +kernel
theorem d_Rd_takeLine_49 : decode prog_4_method_3_code 49 = .ok (.aload_n 0, 1) := by decide +kernel
theorem d_Rd_takeLine_50 : decode prog_4_method_3_code 50 = .ok (.invokevirtual 64, 3) := by decide +kernel
theorem d_Rd_takeLine_53 : decode prog_4_method_3_code 53 = .ok (.ireturn, 1) := by decide +kernel
theorem d_Rd_takeLine_54 : decode prog_4_method_3_code 54 = .ok (.aload_n 0, 1) := by decide +kernel
theorem d_Rd_takeLine_55 : decode prog_4_method_3_code 55 = .ok (.getfield 67, 3) := by decide +kernel
theorem d_Rd_takeLine_58 : decode prog_4_method_3_code 58 = .ok (.ifnull 23, 3) := by decide +kernel
theorem d_Rd_takeLine_61 : decode prog_4_method_3_code 61 = .ok (.aload_n 0, 1) := by decide +kernel
theorem d_Rd_takeLine_62 : decode prog_4_method_3_code 62 = .ok (.getfield 67, 3) := by decide +kernel
theorem d_Rd_takeLine_65 : decode prog_4_method_3_code 65 = .ok (.getfield 70, 3) := by decide +kernel
theorem d_Rd_takeLine_68 : decode prog_4_method_3_code 68 = .ok (.aload_n 0, 1) := by decide +kernel
theorem d_Rd_takeLine_69 : decode prog_4_method_3_code 69 = .ok (.getfield 67, 3) := by decide +kernel
theorem d_Rd_takeLine_72 : decode prog_4_method_3_code 72 = .ok (.getfield 75, 3) := by decide +kernel
theorem d_Rd_takeLine_75 : decode prog_4_method_3_code 75 = .ok (.isub, 1) := by decide +kernel
theorem d_Rd_takeLine_76 : decode prog_4_method_3_code 76 = .ok (.bipush 100, 2) := by decide +kernel
theorem d_Rd_takeLine_78 : decode prog_4_method_3_code 78 = .ok (.if_icmp .lt 5, 3) := by decide +kernel
theorem d_Rd_takeLine_81 : decode prog_4_method_3_code 81 = .ok (.iconst 0, 1) := by decide +kernel
theorem d_Rd_takeLine_82 : decode prog_4_method_3_code 82 = .ok (.ireturn, 1) := by decide +kernel
theorem d_Rd_takeLine_83 : decode prog_4_method_3_code 83 = .ok (.new 78, 3) := by decide +kernel
theorem d_Rd_takeLine_86 : decode prog_4_method_3_code 86 = .ok (.dup, 1) := by decide +kernel
theorem d_Rd_takeLine_87 : decode prog_4_method_3_code 87 = .ok (.aload_n 0, 1) := by decide +kernel
theorem d_Rd_takeLine_88 : decode prog_4_method_3_code 88 = .ok (.invokevirtual 80, 3) := by decide +kernel
theorem d_Rd_takeLine_91 : decode prog_4_method_3_code 91 = .ok (.iload_n 1, 1) := by decide +kernel
theorem d_Rd_takeLine_92 : decode prog_4_method_3_code 92 = .ok (.aload_n 0, 1) := by decide +kernel
theorem d_Rd_takeLine_93 : decode prog_4_method_3_code 93 = .ok (.getfield 9, 3) := by decide +kernel
theorem d_Rd_takeLine_96 : decode prog_4_method_3_code 96 = .ok (.getfield 84, 3) := by decide +kernel
theorem d_Rd_takeLine_99 : decode prog_4_method_3_code 99 = .ok (.invokevirtual 90, 3) := by decide +kernel
theorem d_Rd_takeLine_102 : decode prog_4_method_3_code 102 = .ok (.invokespecial 95, 3) := by decide +kernel
theorem d_Rd_takeLine_105 : decode prog_4_method_3_code 105 = .ok (.astore_n 2, 1) := by decide +kernel
theorem d_Rd_takeLine_106 : decode prog_4_method_3_code 106 = .ok (.aload_n 0, 1) := by decide +kernel
theorem d_Rd_takeLine_107 : decode prog_4_method_3_code 107 = .ok (.aload_n 2, 1) := by decide +kernel
theorem d_Rd_takeLine_108 : decode prog_4_method_3_code 108 = .ok (.invokevirtual 98, 3) := by decide +kernel
theorem d_Rd_takeLine_111 : decode prog_4_method_3_code 111 = .ok (.ifCond .ne 5, 3) := by decide +kernel
theorem d_Rd_takeLine_114 : decode prog_4_method_3_code 114 = .ok (.iconst 0, 1) := by decide +kernel
theorem d_Rd_takeLine_115 : decode prog_4_method_3_code 115 = .ok (.ireturn, 1) := by decide +kernel
theorem d_Rd_takeLine_116 : decode prog_4_method_3_code 116 = .ok (.aload_n 0, 1) := by decide +kernel
theorem d_Rd_takeLine_117 : decode prog_4_method_3_code 117 = .ok (.getfield 67, 3) := by decide +kernel
theorem d_Rd_takeLine_120 : decode prog_4_method_3_code 120 = .ok (.aload_n 2, 1) := by decide +kernel
theorem d_Rd_takeLine_121 : decode prog_4_method_3_code 121 = .ok (.invokevirtual 102, 3) := by decide +kernel
theorem d_Rd_takeLine_124 : decode prog_4_method_3_code 124 = .ok (.aload_n 0, 1) := by decide +kernel
theorem d_Rd_takeLine_125 : decode prog_4_method_3_code 125 = .ok (.getfield 9, 3) := by decide +kernel
theorem d_Rd_takeLine_128 : decode prog_4_method_3_code 128 = .ok (.getfield 84, 3) := by decide +kernel
theorem d_Rd_takeLine_131 : decode prog_4_method_3_code 131 = .ok (.aload_n 2, 1) := by decide +kernel
theorem d_Rd_takeLine_132 : decode prog_4_method_3_code 132 = .ok (.invokevirtual 106, 3) := by decide +kernel
theorem d_Rd_takeLine_135 : decode prog_4_method_3_code 135 = .ok (.pop, 1) := by decide +kernel
theorem d_Rd_takeLine_136 : decode prog_4_method_3_code 136 = .ok (.iconst 1, 1) := by decide +kernel
theorem d_Rd_takeLine_137 : decode prog_4_method_3_code 137 = .ok (.ireturn, 1) := by decide +kernel
abbrev m_Rd_takeName : MethodName × ByteArray × Nat × Option FieldType := (⟨"TestText$Reader", "takeName", "()Z"⟩, prog_4_method_4_code, 3, (Option.some FieldType.boolean))
theorem d_Rd_takeName_0 : decode prog_4_method_4_code 0 = .ok (.aload_n 0, 1) := by decide +kernel
theorem d_Rd_takeName_1 : decode prog_4_method_4_code 1 = .ok (.getfield 24, 3) := by decide +kernel
theorem d_Rd_takeName_4 : decode prog_4_method_4_code 4 = .ok (.iconst 1, 1) := by decide +kernel
theorem d_Rd_takeName_5 : decode prog_4_method_4_code 5 = .ok (.invokevirtual 110, 3) := by decide +kernel
theorem d_Rd_takeName_8 : decode prog_4_method_4_code 8 = .ok (.lstore_n 1, 1) := by decide +kernel
theorem d_Rd_takeName_9 : decode prog_4_method_4_code 9 = .ok (.aload_n 0, 1) := by decide +kernel
theorem d_Rd_takeName_10 : decode prog_4_method_4_code 10 = .ok (.getfield 24, 3) := by decide +kernel
theorem d_Rd_takeName_13 : decode prog_4_method_4_code 13 = .ok (.getfield 36, 3) := by decide +kernel
theorem d_Rd_takeName_16 : decode prog_4_method_4_code 16 = .ok (.iconst 2, 1) := by decide +kernel
theorem d_Rd_takeName_17 : decode prog_4_method_4_code 17 = .ok (.if_icmp .ne 32, 3) := by decide +kernel
theorem d_Rd_takeName_20 : decode prog_4_method_4_code 20 = .ok (.lload_n 1, 1) := by decide +kernel
theorem d_Rd_takeName_21 : decode prog_4_method_4_code 21 = .ok (.lconst 0, 1) := by decide +kernel
theorem d_Rd_takeName_22 : decode prog_4_method_4_code 22 = .ok (.lcmp, 1) := by decide +kernel
theorem d_Rd_takeName_23 : decode prog_4_method_4_code 23 = .ok (.ifCond .eq 26, 3) := by decide +kernel
theorem d_Rd_takeName_26 : decode prog_4_method_4_code 26 = .ok (.aload_n 0, 1) := by decide +kernel
theorem d_Rd_takeName_27 : decode prog_4_method_4_code 27 = .ok (.getfield 9, 3) := by decide +kernel
theorem d_Rd_takeName_30 : decode prog_4_method_4_code 30 = .ok (.lload_n 1, 1) := by decide +kernel
theorem d_Rd_takeName_31 : decode prog_4_method_4_code 31 = .ok (.invokevirtual 114, 3) := by decide +kernel
theorem d_Rd_takeName_34 : decode prog_4_method_4_code 34 = .ok (.ifCond .ne 15, 3) := by decide +kernel
theorem d_Rd_takeName_37 : decode prog_4_method_4_code 37 = .ok (.aload_n 0, 1) := by decide +kernel
theorem d_Rd_takeName_38 : decode prog_4_method_4_code 38 = .ok (.getfield 9, 3) := by decide +kernel
theorem d_Rd_takeName_41 : decode prog_4_method_4_code 41 = .ok (.getfield 118, 3) := by decide +kernel
theorem d_Rd_takeName_44 : decode prog_4_method_4_code 44 = .ok (.bipush 20, 2) := by decide +kernel
theorem d_Rd_takeName_46 : decode prog_4_method_4_code 46 = .ok (.if_icmp .lt 5, 3) := by decide +kernel
theorem d_Rd_takeName_49 : decode prog_4_method_4_code 49 = .ok (.iconst 0, 1) := by decide +kernel
theorem d_Rd_takeName_50 : decode prog_4_method_4_code 50 = .ok (.ireturn, 1) := by decide +kernel
theorem d_Rd_takeName_51 : decode prog_4_method_4_code 51 = .ok (.aload_n 0, 1) := by decide +kernel
theorem d_Rd_takeName_52 : decode prog_4_method_4_code 52 = .ok (.getfield 9, 3) := by decide +kernel
theorem d_Rd_takeName_55 : decode prog_4_method_4_code 55 = .ok (.getfield 121, 3) := by decide +kernel
theorem d_Rd_takeName_58 : decode prog_4_method_4_code 58 = .ok (.aload_n 0, 1) := by decide +kernel
theorem d_Rd_takeName_59 : decode prog_4_method_4_code 59 = .ok (.getfield 9, 3) := by decide +kernel
theorem d_Rd_takeName_62 : decode prog_4_method_4_code 62 = .ok (.getfield 118, 3) := by decide +kernel
theorem d_Rd_takeName_65 : decode prog_4_method_4_code 65 = .ok (.lload_n 1, 1) := by decide +kernel
theorem d_Rd_takeName_66 : decode prog_4_method_4_code 66 = .ok (.lastore, 1) := by decide +kernel
theorem d_Rd_takeName_67 : decode prog_4_method_4_code 67 = .ok (.aload_n 0, 1) := by decide +kernel
theorem d_Rd_takeName_68 : decode prog_4_method_4_code 68 = .ok (.getfield 9, 3) := by decide +kernel
theorem d_Rd_takeName_71 : decode prog_4_method_4_code 71 = .ok (.dup, 1) := by decide +kernel
theorem d_Rd_takeName_72 : decode prog_4_method_4_code 72 = .ok (.getfield 118, 3) := by decide +kernel
theorem d_Rd_takeName_75 : decode prog_4_method_4_code 75 = .ok (.iconst 1, 1) := by decide +kernel
theorem d_Rd_takeName_76 : decode prog_4_method_4_code 76 = .ok (.iadd, 1) := by decide +kernel
theorem d_Rd_takeName_77 : decode prog_4_method_4_code 77 = .ok (.putfield 118, 3) := by decide +kernel
theorem d_Rd_takeName_80 : decode prog_4_method_4_code 80 = .ok (.iconst 1, 1) := by decide +kernel
theorem d_Rd_takeName_81 : decode prog_4_method_4_code 81 = .ok (.ireturn, 1) := by decide +kernel
abbrev m_Rd_takeTest : MethodName × ByteArray × Nat × Option FieldType := (⟨"TestText$Reader", "takeTest", "()Z"⟩, prog_4_method_5_code, 3, (Option.some FieldType.boolean))
theorem d_Rd_takeTest_0 : decode prog_4_method_5_code 0 = .ok (.aload_n 0, 1) := by decide +kernel
theorem d_Rd_takeTest_1 : decode prog_4_method_5_code 1 = .ok (.getfield 24, 3) := by decide +kernel
theorem d_Rd_takeTest_4 : decode prog_4_method_5_code 4 = .ok (.iconst 1, 1) := by decide +kernel
theorem d_Rd_takeTest_5 : decode prog_4_method_5_code 5 = .ok (.invokevirtual 110, 3) := by decide +kernel
theorem d_Rd_takeTest_8 : decode prog_4_method_5_code 8 = .ok (.lstore_n 1, 1) := by decide +kernel
theorem d_Rd_takeTest_9 : decode prog_4_method_5_code 9 = .ok (.aload_n 0, 1) := by decide +kernel
theorem d_Rd_takeTest_10 : decode prog_4_method_5_code 10 = .ok (.getfield 24, 3) := by decide +kernel
theorem d_Rd_takeTest_13 : decode prog_4_method_5_code 13 = .ok (.getfield 36, 3) := by decide +kernel
theorem d_Rd_takeTest_16 : decode prog_4_method_5_code 16 = .ok (.iconst 2, 1) := by decide +kernel
theorem d_Rd_takeTest_17 : decode prog_4_method_5_code 17 = .ok (.if_icmp .ne 20, 3) := by decide +kernel
theorem d_Rd_takeTest_20 : decode prog_4_method_5_code 20 = .ok (.lload_n 1, 1) := by decide +kernel
theorem d_Rd_takeTest_21 : decode prog_4_method_5_code 21 = .ok (.lconst 0, 1) := by decide +kernel
theorem d_Rd_takeTest_22 : decode prog_4_method_5_code 22 = .ok (.lcmp, 1) := by decide +kernel
theorem d_Rd_takeTest_23 : decode prog_4_method_5_code 23 = .ok (.ifCond .eq 14, 3) := by decide +kernel
theorem d_Rd_takeTest_26 : decode prog_4_method_5_code 26 = .ok (.aload_n 0, 1) := by decide +kernel
theorem d_Rd_takeTest_27 : decode prog_4_method_5_code 27 = .ok (.getfield 9, 3) := by decide +kernel
theorem d_Rd_takeTest_30 : decode prog_4_method_5_code 30 = .ok (.lload_n 1, 1) := by decide +kernel
theorem d_Rd_takeTest_31 : decode prog_4_method_5_code 31 = .ok (.invokevirtual 114, 3) := by decide +kernel
theorem d_Rd_takeTest_34 : decode prog_4_method_5_code 34 = .ok (.ifCond .eq 5, 3) := by decide +kernel
theorem d_Rd_takeTest_37 : decode prog_4_method_5_code 37 = .ok (.iconst 0, 1) := by decide +kernel
theorem d_Rd_takeTest_38 : decode prog_4_method_5_code 38 = .ok (.ireturn, 1) := by decide +kernel
theorem d_Rd_takeTest_39 : decode prog_4_method_5_code 39 = .ok (.aload_n 0, 1) := by decide +kernel
theorem d_Rd_takeTest_40 : decode prog_4_method_5_code 40 = .ok (.getfield 44, 3) := by decide +kernel
theorem d_Rd_takeTest_43 : decode prog_4_method_5_code 43 = .ok (.ifCond .gt 18, 3) := by decide +kernel
theorem d_Rd_takeTest_46 : decode prog_4_method_5_code 46 = .ok (.aload_n 0, 1) := by decide +kernel
theorem d_Rd_takeTest_47 : decode prog_4_method_5_code 47 = .ok (.getfield 9, 3) := by decide +kernel
theorem d_Rd_takeTest_50 : decode prog_4_method_5_code 50 = .ok (.getfield 125, 3) := by decide +kernel
theorem d_Rd_takeTest_53 : decode prog_4_method_5_code 53 = .ok (.invokevirtual 90, 3) := by decide +kernel
theorem d_Rd_takeTest_56 : decode prog_4_method_5_code 56 = .ok (.bipush 12, 2) := by decide +kernel
theorem d_Rd_takeTest_58 : decode prog_4_method_5_code 58 = .ok (.if_icmp .lt 5, 3) := by decide +kernel
theorem d_Rd_takeTest_61 : decode prog_4_method_5_code 61 = .ok (.iconst 0, 1) := by decide +kernel
theorem d_Rd_takeTest_62 : decode prog_4_method_5_code 62 = .ok (.ireturn, 1) := by decide +kernel
theorem d_Rd_takeTest_63 : decode prog_4_method_5_code 63 = .ok (.aload_n 0, 1) := by decide +kernel
theorem d_Rd_takeTest_64 : decode prog_4_method_5_code 64 = .ok (.new 71, 3) := by decide +kernel
theorem d_Rd_takeTest_67 : decode prog_4_method_5_code 67 = .ok (.dup, 1) := by decide +kernel
theorem d_Rd_takeTest_68 : decode prog_4_method_5_code 68 = .ok (.lload_n 1, 1) := by decide +kernel
theorem d_Rd_takeTest_69 : decode prog_4_method_5_code 69 = .ok (.aload_n 0, 1) := by decide +kernel
theorem d_Rd_takeTest_70 : decode prog_4_method_5_code 70 = .ok (.getfield 9, 3) := by decide +kernel
theorem d_Rd_takeTest_73 : decode prog_4_method_5_code 73 = .ok (.getfield 84, 3) := by decide +kernel
theorem d_Rd_takeTest_76 : decode prog_4_method_5_code 76 = .ok (.invokevirtual 90, 3) := by decide +kernel
theorem d_Rd_takeTest_79 : decode prog_4_method_5_code 79 = .ok (.invokespecial 128, 3) := by decide +kernel
theorem d_Rd_takeTest_82 : decode prog_4_method_5_code 82 = .ok (.putfield 67, 3) := by decide +kernel
theorem d_Rd_takeTest_85 : decode prog_4_method_5_code 85 = .ok (.aload_n 0, 1) := by decide +kernel
theorem d_Rd_takeTest_86 : decode prog_4_method_5_code 86 = .ok (.getfield 9, 3) := by decide +kernel
theorem d_Rd_takeTest_89 : decode prog_4_method_5_code 89 = .ok (.getfield 125, 3) := by decide +kernel
theorem d_Rd_takeTest_92 : decode prog_4_method_5_code 92 = .ok (.aload_n 0, 1) := by decide +kernel
theorem d_Rd_takeTest_93 : decode prog_4_method_5_code 93 = .ok (.getfield 67, 3) := by decide +kernel
theorem d_Rd_takeTest_96 : decode prog_4_method_5_code 96 = .ok (.invokevirtual 106, 3) := by decide +kernel
theorem d_Rd_takeTest_99 : decode prog_4_method_5_code 99 = .ok (.pop, 1) := by decide +kernel
theorem d_Rd_takeTest_100 : decode prog_4_method_5_code 100 = .ok (.iconst 1, 1) := by decide +kernel
theorem d_Rd_takeTest_101 : decode prog_4_method_5_code 101 = .ok (.ireturn, 1) := by decide +kernel
abbrev m_Rd_takeEnd : MethodName × ByteArray × Nat × Option FieldType := (⟨"TestText$Reader", "takeEnd", "()Z"⟩, prog_4_method_6_code, 1, (Option.some FieldType.boolean))
theorem d_Rd_takeEnd_0 : decode prog_4_method_6_code 0 = .ok (.aload_n 0, 1) := by decide +kernel
theorem d_Rd_takeEnd_1 : decode prog_4_method_6_code 1 = .ok (.getfield 24, 3) := by decide +kernel
theorem d_Rd_takeEnd_4 : decode prog_4_method_6_code 4 = .ok (.getfield 36, 3) := by decide +kernel
theorem d_Rd_takeEnd_7 : decode prog_4_method_6_code 7 = .ok (.iconst 1, 1) := by decide +kernel
theorem d_Rd_takeEnd_8 : decode prog_4_method_6_code 8 = .ok (.if_icmp .ne 35, 3) := by decide +kernel
theorem d_Rd_takeEnd_11 : decode prog_4_method_6_code 11 = .ok (.aload_n 0, 1) := by decide +kernel
theorem d_Rd_takeEnd_12 : decode prog_4_method_6_code 12 = .ok (.getfield 44, 3) := by decide +kernel
theorem d_Rd_takeEnd_15 : decode prog_4_method_6_code 15 = .ok (.iconst 1, 1) := by decide +kernel
theorem d_Rd_takeEnd_16 : decode prog_4_method_6_code 16 = .ok (.if_icmp .lt 27, 3) := by decide +kernel
theorem d_Rd_takeEnd_19 : decode prog_4_method_6_code 19 = .ok (.aload_n 0, 1) := by decide +kernel
theorem d_Rd_takeEnd_20 : decode prog_4_method_6_code 20 = .ok (.getfield 28, 3) := by decide +kernel
theorem d_Rd_takeEnd_23 : decode prog_4_method_6_code 23 = .ok (.aload_n 0, 1) := by decide +kernel
theorem d_Rd_takeEnd_24 : decode prog_4_method_6_code 24 = .ok (.getfield 44, 3) := by decide +kernel
theorem d_Rd_takeEnd_27 : decode prog_4_method_6_code 27 = .ok (.iconst 1, 1) := by decide +kernel
theorem d_Rd_takeEnd_28 : decode prog_4_method_6_code 28 = .ok (.isub, 1) := by decide +kernel
theorem d_Rd_takeEnd_29 : decode prog_4_method_6_code 29 = .ok (.iaload, 1) := by decide +kernel
theorem d_Rd_takeEnd_30 : decode prog_4_method_6_code 30 = .ok (.aload_n 0, 1) := by decide +kernel
theorem d_Rd_takeEnd_31 : decode prog_4_method_6_code 31 = .ok (.getfield 9, 3) := by decide +kernel
theorem d_Rd_takeEnd_34 : decode prog_4_method_6_code 34 = .ok (.getfield 84, 3) := by decide +kernel
theorem d_Rd_takeEnd_37 : decode prog_4_method_6_code 37 = .ok (.invokevirtual 90, 3) := by decide +kernel
theorem d_Rd_takeEnd_40 : decode prog_4_method_6_code 40 = .ok (.if_icmp .lt 5, 3) := by decide +kernel
theorem d_Rd_takeEnd_43 : decode prog_4_method_6_code 43 = .ok (.iconst 0, 1) := by decide +kernel
theorem d_Rd_takeEnd_44 : decode prog_4_method_6_code 44 = .ok (.ireturn, 1) := by decide +kernel
theorem d_Rd_takeEnd_45 : decode prog_4_method_6_code 45 = .ok (.aload_n 0, 1) := by decide +kernel
theorem d_Rd_takeEnd_46 : decode prog_4_method_6_code 46 = .ok (.dup, 1) := by decide +kernel
theorem d_Rd_takeEnd_47 : decode prog_4_method_6_code 47 = .ok (.getfield 44, 3) := by decide +kernel
theorem d_Rd_takeEnd_50 : decode prog_4_method_6_code 50 = .ok (.iconst 1, 1) := by decide +kernel
theorem d_Rd_takeEnd_51 : decode prog_4_method_6_code 51 = .ok (.isub, 1) := by decide +kernel
theorem d_Rd_takeEnd_52 : decode prog_4_method_6_code 52 = .ok (.putfield 44, 3) := by decide +kernel
theorem d_Rd_takeEnd_55 : decode prog_4_method_6_code 55 = .ok (.aload_n 0, 1) := by decide +kernel
theorem d_Rd_takeEnd_56 : decode prog_4_method_6_code 56 = .ok (.getfield 9, 3) := by decide +kernel
theorem d_Rd_takeEnd_59 : decode prog_4_method_6_code 59 = .ok (.getfield 84, 3) := by decide +kernel
theorem d_Rd_takeEnd_62 : decode prog_4_method_6_code 62 = .ok (.aload_n 0, 1) := by decide +kernel
theorem d_Rd_takeEnd_63 : decode prog_4_method_6_code 63 = .ok (.getfield 28, 3) := by decide +kernel
theorem d_Rd_takeEnd_66 : decode prog_4_method_6_code 66 = .ok (.aload_n 0, 1) := by decide +kernel
theorem d_Rd_takeEnd_67 : decode prog_4_method_6_code 67 = .ok (.getfield 44, 3) := by decide +kernel
theorem d_Rd_takeEnd_70 : decode prog_4_method_6_code 70 = .ok (.iaload, 1) := by decide +kernel
theorem d_Rd_takeEnd_71 : decode prog_4_method_6_code 71 = .ok (.invokevirtual 131, 3) := by decide +kernel
theorem d_Rd_takeEnd_74 : decode prog_4_method_6_code 74 = .ok (.checkcast 78, 3) := by decide +kernel
theorem d_Rd_takeEnd_77 : decode prog_4_method_6_code 77 = .ok (.aload_n 0, 1) := by decide +kernel
theorem d_Rd_takeEnd_78 : decode prog_4_method_6_code 78 = .ok (.getfield 9, 3) := by decide +kernel
theorem d_Rd_takeEnd_81 : decode prog_4_method_6_code 81 = .ok (.getfield 84, 3) := by decide +kernel
theorem d_Rd_takeEnd_84 : decode prog_4_method_6_code 84 = .ok (.invokevirtual 90, 3) := by decide +kernel
theorem d_Rd_takeEnd_87 : decode prog_4_method_6_code 87 = .ok (.putfield 135, 3) := by decide +kernel
theorem d_Rd_takeEnd_90 : decode prog_4_method_6_code 90 = .ok (.iconst 1, 1) := by decide +kernel
theorem d_Rd_takeEnd_91 : decode prog_4_method_6_code 91 = .ok (.ireturn, 1) := by decide +kernel
abbrev m_Rd_kindOfStep : MethodName × ByteArray × Nat × Option FieldType := (⟨"TestText$Reader", "kindOfStep", "()I"⟩, prog_4_method_7_code, 1, (Option.some FieldType.int))
theorem d_Rd_kindOfStep_0 : decode prog_4_method_7_code 0 = .ok (.aload_n 0, 1) := by decide +kernel
theorem d_Rd_kindOfStep_1 : decode prog_4_method_7_code 1 = .ok (.getfield 24, 3) := by decide +kernel
theorem d_Rd_kindOfStep_4 : decode prog_4_method_7_code 4 = .ok (.iconst 0, 1) := by decide +kernel
theorem d_Rd_kindOfStep_5 : decode prog_4_method_7_code 5 = .ok (.ldc 136, 2) := by decide +kernel
theorem d_Rd_kindOfStep_7 : decode prog_4_method_7_code 7 = .ok (.invokevirtual 49, 3) := by decide +kernel
theorem d_Rd_kindOfStep_10 : decode prog_4_method_7_code 10 = .ok (.ifCond .eq 5, 3) := by decide +kernel
theorem d_Rd_kindOfStep_13 : decode prog_4_method_7_code 13 = .ok (.iconst 1, 1) := by decide +kernel
theorem d_Rd_kindOfStep_14 : decode prog_4_method_7_code 14 = .ok (.ireturn, 1) := by decide +kernel
theorem d_Rd_kindOfStep_15 : decode prog_4_method_7_code 15 = .ok (.aload_n 0, 1) := by decide +kernel
theorem d_Rd_kindOfStep_16 : decode prog_4_method_7_code 16 = .ok (.getfield 24, 3) := by decide +kernel
theorem d_Rd_kindOfStep_19 : decode prog_4_method_7_code 19 = .ok (.iconst 0, 1) := by decide +kernel
theorem d_Rd_kindOfStep_20 : decode prog_4_method_7_code 20 = .ok (.ldc 138, 2) := by decide +kernel
theorem d_Rd_kindOfStep_22 : decode prog_4_method_7_code 22 = .ok (.invokevirtual 49, 3) := by decide +kernel
theorem d_Rd_kindOfStep_25 : decode prog_4_method_7_code 25 = .ok (.ifCond .eq 5, 3) := by decide +kernel
theorem d_Rd_kindOfStep_28 : decode prog_4_method_7_code 28 = .ok (.iconst 2, 1) := by decide +kernel
theorem d_Rd_kindOfStep_29 : decode prog_4_method_7_code 29 = .ok (.ireturn, 1) := by decide +kernel
theorem d_Rd_kindOfStep_30 : decode prog_4_method_7_code 30 = .ok (.aload_n 0, 1) := by decide +kernel
theorem d_Rd_kindOfStep_31 : decode prog_4_method_7_code 31 = .ok (.getfield 24, 3) := by decide +kernel
theorem d_Rd_kindOfStep_34 : decode prog_4_method_7_code 34 = .ok (.iconst 0, 1) := by decide +kernel
theorem d_Rd_kindOfStep_35 : decode prog_4_method_7_code 35 = .ok (.ldc 140, 2) := by decide +kernel
theorem d_Rd_kindOfStep_37 : decode prog_4_method_7_code 37 = .ok (.invokevirtual 49, 3) := by decide +kernel
theorem d_Rd_kindOfStep_40 : decode prog_4_method_7_code 40 = .ok (.ifCond .eq 5, 3) := by decide +kernel
theorem d_Rd_kindOfStep_43 : decode prog_4_method_7_code 43 = .ok (.iconst 3, 1) := by decide +kernel
theorem d_Rd_kindOfStep_44 : decode prog_4_method_7_code 44 = .ok (.ireturn, 1) := by decide +kernel
theorem d_Rd_kindOfStep_45 : decode prog_4_method_7_code 45 = .ok (.aload_n 0, 1) := by decide +kernel
theorem d_Rd_kindOfStep_46 : decode prog_4_method_7_code 46 = .ok (.getfield 24, 3) := by decide +kernel
theorem d_Rd_kindOfStep_49 : decode prog_4_method_7_code 49 = .ok (.iconst 0, 1) := by decide +kernel
theorem d_Rd_kindOfStep_50 : decode prog_4_method_7_code 50 = .ok (.ldc 142, 2) := by decide +kernel
theorem d_Rd_kindOfStep_52 : decode prog_4_method_7_code 52 = .ok (.invokevirtual 49, 3) := by decide +kernel
theorem d_Rd_kindOfStep_55 : decode prog_4_method_7_code 55 = .ok (.ifCond .eq 5, 3) := by decide +kernel
theorem d_Rd_kindOfStep_58 : decode prog_4_method_7_code 58 = .ok (.iconst 4, 1) := by decide +kernel
theorem d_Rd_kindOfStep_59 : decode prog_4_method_7_code 59 = .ok (.ireturn, 1) := by decide +kernel
theorem d_Rd_kindOfStep_60 : decode prog_4_method_7_code 60 = .ok (.aload_n 0, 1) := by decide +kernel
theorem d_Rd_kindOfStep_61 : decode prog_4_method_7_code 61 = .ok (.getfield 24, 3) := by decide +kernel
theorem d_Rd_kindOfStep_64 : decode prog_4_method_7_code 64 = .ok (.iconst 0, 1) := by decide +kernel
theorem d_Rd_kindOfStep_65 : decode prog_4_method_7_code 65 = .ok (.ldc 144, 2) := by decide +kernel
theorem d_Rd_kindOfStep_67 : decode prog_4_method_7_code 67 = .ok (.invokevirtual 49, 3) := by decide +kernel
theorem d_Rd_kindOfStep_70 : decode prog_4_method_7_code 70 = .ok (.ifCond .eq 5, 3) := by decide +kernel
theorem d_Rd_kindOfStep_73 : decode prog_4_method_7_code 73 = .ok (.iconst 5, 1) := by decide +kernel
theorem d_Rd_kindOfStep_74 : decode prog_4_method_7_code 74 = .ok (.ireturn, 1) := by decide +kernel
theorem d_Rd_kindOfStep_75 : decode prog_4_method_7_code 75 = .ok (.aload_n 0, 1) := by decide +kernel
theorem d_Rd_kindOfStep_76 : decode prog_4_method_7_code 76 = .ok (.getfield 24, 3) := by decide +kernel
theorem d_Rd_kindOfStep_79 : decode prog_4_method_7_code 79 = .ok (.iconst 0, 1) := by decide +kernel
theorem d_Rd_kindOfStep_80 : decode prog_4_method_7_code 80 = .ok (.ldc 146, 2) := by decide +kernel
theorem d_Rd_kindOfStep_82 : decode prog_4_method_7_code 82 = .ok (.invokevirtual 49, 3) := by decide +kernel
theorem d_Rd_kindOfStep_85 : decode prog_4_method_7_code 85 = .ok (.ifCond .eq 6, 3) := by decide +kernel
theorem d_Rd_kindOfStep_88 : decode prog_4_method_7_code 88 = .ok (.bipush 6, 2) := by decide +kernel
theorem d_Rd_kindOfStep_90 : decode prog_4_method_7_code 90 = .ok (.ireturn, 1) := by decide +kernel
theorem d_Rd_kindOfStep_91 : decode prog_4_method_7_code 91 = .ok (.aload_n 0, 1) := by decide +kernel
theorem d_Rd_kindOfStep_92 : decode prog_4_method_7_code 92 = .ok (.getfield 24, 3) := by decide +kernel
theorem d_Rd_kindOfStep_95 : decode prog_4_method_7_code 95 = .ok (.iconst 0, 1) := by decide +kernel
theorem d_Rd_kindOfStep_96 : decode prog_4_method_7_code 96 = .ok (.ldc 148, 2) := by decide +kernel
theorem d_Rd_kindOfStep_98 : decode prog_4_method_7_code 98 = .ok (.invokevirtual 49, 3) := by decide +kernel
theorem d_Rd_kindOfStep_101 : decode prog_4_method_7_code 101 = .ok (.ifCond .eq 6, 3) := by decide +kernel
theorem d_Rd_kindOfStep_104 : decode prog_4_method_7_code 104 = .ok (.bipush 7, 2) := by decide +kernel
theorem d_Rd_kindOfStep_106 : decode prog_4_method_7_code 106 = .ok (.ireturn, 1) := by decide +kernel
theorem d_Rd_kindOfStep_107 : decode prog_4_method_7_code 107 = .ok (.aload_n 0, 1) := by decide +kernel
theorem d_Rd_kindOfStep_108 : decode prog_4_method_7_code 108 = .ok (.getfield 24, 3) := by decide +kernel
theorem d_Rd_kindOfStep_111 : decode prog_4_method_7_code 111 = .ok (.iconst 0, 1) := by decide +kernel
theorem d_Rd_kindOfStep_112 : decode prog_4_method_7_code 112 = .ok (.ldc 150, 2) := by decide +kernel
theorem d_Rd_kindOfStep_114 : decode prog_4_method_7_code 114 = .ok (.invokevirtual 49, 3) := by decide +kernel
theorem d_Rd_kindOfStep_117 : decode prog_4_method_7_code 117 = .ok (.ifCond .eq 8, 3) := by decide +kernel
theorem d_Rd_kindOfStep_120 : decode prog_4_method_7_code 120 = .ok (.bipush 8, 2) := by decide +kernel
theorem d_Rd_kindOfStep_122 : decode prog_4_method_7_code 122 = .ok (.goto 4, 3) := by decide +kernel
theorem d_Rd_kindOfStep_125 : decode prog_4_method_7_code 125 = .ok (.iconst 0, 1) := by decide +kernel
theorem d_Rd_kindOfStep_126 : decode prog_4_method_7_code 126 = .ok (.ireturn, 1) := by decide +kernel
abbrev m_Rd_fill : MethodName × ByteArray × Nat × Option FieldType := (⟨"TestText$Reader", "fill", "(LTestText$Step;)Z"⟩, prog_4_method_8_code, 2, (Option.some FieldType.boolean))
theorem d_Rd_fill_0 : decode prog_4_method_8_code 0 = .ok (.aload_n 1, 1) := by decide +kernel
theorem d_Rd_fill_1 : decode prog_4_method_8_code 1 = .ok (.getfield 152, 3) := by decide +kernel
theorem d_Rd_fill_4 : decode prog_4_method_8_code 4 = .ok (.tableswitch 304 1 8 #[48, 82, 131, 169, 194, 219, 251, 280], 48) := by decide +kernel
theorem d_Rd_fill_52 : decode prog_4_method_8_code 52 = .ok (.aload_n 0, 1) := by decide +kernel
theorem d_Rd_fill_53 : decode prog_4_method_8_code 53 = .ok (.getfield 24, 3) := by decide +kernel
theorem d_Rd_fill_56 : decode prog_4_method_8_code 56 = .ok (.getfield 36, 3) := by decide +kernel
theorem d_Rd_fill_59 : decode prog_4_method_8_code 59 = .ok (.iconst 3, 1) := by decide +kernel
theorem d_Rd_fill_60 : decode prog_4_method_8_code 60 = .ok (.if_icmp .ne 24, 3) := by decide +kernel
theorem d_Rd_fill_63 : decode prog_4_method_8_code 63 = .ok (.aload_n 0, 1) := by decide +kernel
theorem d_Rd_fill_64 : decode prog_4_method_8_code 64 = .ok (.aload_n 1, 1) := by decide +kernel
theorem d_Rd_fill_65 : decode prog_4_method_8_code 65 = .ok (.invokevirtual 155, 3) := by decide +kernel
theorem d_Rd_fill_68 : decode prog_4_method_8_code 68 = .ok (.ifCond .eq 16, 3) := by decide +kernel
theorem d_Rd_fill_71 : decode prog_4_method_8_code 71 = .ok (.aload_n 0, 1) := by decide +kernel
theorem d_Rd_fill_72 : decode prog_4_method_8_code 72 = .ok (.aload_n 1, 1) := by decide +kernel
theorem d_Rd_fill_73 : decode prog_4_method_8_code 73 = .ok (.iconst 2, 1) := by decide +kernel
theorem d_Rd_fill_74 : decode prog_4_method_8_code 74 = .ok (.invokevirtual 158, 3) := by decide +kernel
theorem d_Rd_fill_77 : decode prog_4_method_8_code 77 = .ok (.ifCond .eq 7, 3) := by decide +kernel
theorem d_Rd_fill_80 : decode prog_4_method_8_code 80 = .ok (.iconst 1, 1) := by decide +kernel
theorem d_Rd_fill_81 : decode prog_4_method_8_code 81 = .ok (.goto 4, 3) := by decide +kernel
theorem d_Rd_fill_84 : decode prog_4_method_8_code 84 = .ok (.iconst 0, 1) := by decide +kernel
theorem d_Rd_fill_85 : decode prog_4_method_8_code 85 = .ok (.ireturn, 1) := by decide +kernel
theorem d_Rd_fill_86 : decode prog_4_method_8_code 86 = .ok (.aload_n 0, 1) := by decide +kernel
theorem d_Rd_fill_87 : decode prog_4_method_8_code 87 = .ok (.getfield 24, 3) := by decide +kernel
theorem d_Rd_fill_90 : decode prog_4_method_8_code 90 = .ok (.getfield 36, 3) := by decide +kernel
theorem d_Rd_fill_93 : decode prog_4_method_8_code 93 = .ok (.iconst 4, 1) := by decide +kernel
theorem d_Rd_fill_94 : decode prog_4_method_8_code 94 = .ok (.if_icmp .ne 39, 3) := by decide +kernel
theorem d_Rd_fill_97 : decode prog_4_method_8_code 97 = .ok (.aload_n 0, 1) := by decide +kernel
theorem d_Rd_fill_98 : decode prog_4_method_8_code 98 = .ok (.aload_n 1, 1) := by decide +kernel
theorem d_Rd_fill_99 : decode prog_4_method_8_code 99 = .ok (.invokevirtual 155, 3) := by decide +kernel
theorem d_Rd_fill_102 : decode prog_4_method_8_code 102 = .ok (.ifCond .eq 31, 3) := by decide +kernel
theorem d_Rd_fill_105 : decode prog_4_method_8_code 105 = .ok (.aload_n 0, 1) := by decide +kernel
theorem d_Rd_fill_106 : decode prog_4_method_8_code 106 = .ok (.aload_n 1, 1) := by decide +kernel
theorem d_Rd_fill_107 : decode prog_4_method_8_code 107 = .ok (.iconst 2, 1) := by decide +kernel
theorem d_Rd_fill_108 : decode prog_4_method_8_code 108 = .ok (.invokevirtual 158, 3) := by decide +kernel
theorem d_Rd_fill_111 : decode prog_4_method_8_code 111 = .ok (.ifCond .eq 22, 3) := by decide +kernel
theorem d_Rd_fill_114 : decode prog_4_method_8_code 114 = .ok (.aload_n 0, 1) := by decide +kernel
theorem d_Rd_fill_115 : decode prog_4_method_8_code 115 = .ok (.aload_n 1, 1) := by decide +kernel
theorem d_Rd_fill_116 : decode prog_4_method_8_code 116 = .ok (.iconst 3, 1) := by decide +kernel
theorem d_Rd_fill_117 : decode prog_4_method_8_code 117 = .ok (.aload_n 1, 1) := by decide +kernel
theorem d_Rd_fill_118 : decode prog_4_method_8_code 118 = .ok (.getfield 162, 3) := by decide +kernel
theorem d_Rd_fill_121 : decode prog_4_method_8_code 121 = .ok (.ldc 165, 2) := by decide +kernel
theorem d_Rd_fill_123 : decode prog_4_method_8_code 123 = .ok (.invokevirtual 166, 3) := by decide +kernel
theorem d_Rd_fill_126 : decode prog_4_method_8_code 126 = .ok (.ifCond .eq 7, 3) := by decide +kernel
theorem d_Rd_fill_129 : decode prog_4_method_8_code 129 = .ok (.iconst 1, 1) := by decide +kernel
theorem d_Rd_fill_130 : decode prog_4_method_8_code 130 = .ok (.goto 4, 3) := by decide +kernel
theorem d_Rd_fill_133 : decode prog_4_method_8_code 133 = .ok (.iconst 0, 1) := by decide +kernel
theorem d_Rd_fill_134 : decode prog_4_method_8_code 134 = .ok (.ireturn, 1) := by decide +kernel
theorem d_Rd_fill_135 : decode prog_4_method_8_code 135 = .ok (.aload_n 0, 1) := by decide +kernel
theorem d_Rd_fill_136 : decode prog_4_method_8_code 136 = .ok (.getfield 24, 3) := by decide +kernel
theorem d_Rd_fill_139 : decode prog_4_method_8_code 139 = .ok (.getfield 36, 3) := by decide +kernel
theorem d_Rd_fill_142 : decode prog_4_method_8_code 142 = .ok (.iconst 5, 1) := by decide +kernel
theorem d_Rd_fill_143 : decode prog_4_method_8_code 143 = .ok (.if_icmp .ne 28, 3) := by decide +kernel
theorem d_Rd_fill_146 : decode prog_4_method_8_code 146 = .ok (.aload_n 0, 1) := by decide +kernel
theorem d_Rd_fill_147 : decode prog_4_method_8_code 147 = .ok (.aload_n 1, 1) := by decide +kernel
theorem d_Rd_fill_148 : decode prog_4_method_8_code 148 = .ok (.invokevirtual 170, 3) := by decide +kernel
theorem d_Rd_fill_151 : decode prog_4_method_8_code 151 = .ok (.ifCond .eq 20, 3) := by decide +kernel
theorem d_Rd_fill_154 : decode prog_4_method_8_code 154 = .ok (.aload_n 0, 1) := by decide +kernel
theorem d_Rd_fill_155 : decode prog_4_method_8_code 155 = .ok (.aload_n 1, 1) := by decide +kernel
theorem d_Rd_fill_156 : decode prog_4_method_8_code 156 = .ok (.iconst 4, 1) := by decide +kernel
theorem d_Rd_fill_157 : decode prog_4_method_8_code 157 = .ok (.iconst 0, 1) := by decide +kernel
theorem d_Rd_fill_158 : decode prog_4_method_8_code 158 = .ok (.sipush 1000, 3) := by decide +kernel
theorem d_Rd_fill_161 : decode prog_4_method_8_code 161 = .ok (.invokevirtual 166, 3) := by decide +kernel
theorem d_Rd_fill_164 : decode prog_4_method_8_code 164 = .ok (.ifCond .eq 7, 3) := by decide +kernel
theorem d_Rd_fill_167 : decode prog_4_method_8_code 167 = .ok (.iconst 1, 1) := by decide +kernel
theorem d_Rd_fill_168 : decode prog_4_method_8_code 168 = .ok (.goto 4, 3) := by decide +kernel
theorem d_Rd_fill_171 : decode prog_4_method_8_code 171 = .ok (.iconst 0, 1) := by decide +kernel
theorem d_Rd_fill_172 : decode prog_4_method_8_code 172 = .ok (.ireturn, 1) := by decide +kernel
theorem d_Rd_fill_173 : decode prog_4_method_8_code 173 = .ok (.aload_n 0, 1) := by decide +kernel
theorem d_Rd_fill_174 : decode prog_4_method_8_code 174 = .ok (.getfield 24, 3) := by decide +kernel
theorem d_Rd_fill_177 : decode prog_4_method_8_code 177 = .ok (.getfield 36, 3) := by decide +kernel
theorem d_Rd_fill_180 : decode prog_4_method_8_code 180 = .ok (.iconst 4, 1) := by decide +kernel
theorem d_Rd_fill_181 : decode prog_4_method_8_code 181 = .ok (.if_icmp .ne 15, 3) := by decide +kernel
theorem d_Rd_fill_184 : decode prog_4_method_8_code 184 = .ok (.aload_n 0, 1) := by decide +kernel
theorem d_Rd_fill_185 : decode prog_4_method_8_code 185 = .ok (.aload_n 1, 1) := by decide +kernel
theorem d_Rd_fill_186 : decode prog_4_method_8_code 186 = .ok (.invokevirtual 170, 3) := by decide +kernel
theorem d_Rd_fill_189 : decode prog_4_method_8_code 189 = .ok (.ifCond .eq 7, 3) := by decide +kernel
theorem d_Rd_fill_192 : decode prog_4_method_8_code 192 = .ok (.iconst 1, 1) := by decide +kernel
theorem d_Rd_fill_193 : decode prog_4_method_8_code 193 = .ok (.goto 4, 3) := by decide +kernel
theorem d_Rd_fill_196 : decode prog_4_method_8_code 196 = .ok (.iconst 0, 1) := by decide +kernel
theorem d_Rd_fill_197 : decode prog_4_method_8_code 197 = .ok (.ireturn, 1) := by decide +kernel
theorem d_Rd_fill_198 : decode prog_4_method_8_code 198 = .ok (.aload_n 0, 1) := by decide +kernel
theorem d_Rd_fill_199 : decode prog_4_method_8_code 199 = .ok (.getfield 24, 3) := by decide +kernel
theorem d_Rd_fill_202 : decode prog_4_method_8_code 202 = .ok (.getfield 36, 3) := by decide +kernel
theorem d_Rd_fill_205 : decode prog_4_method_8_code 205 = .ok (.iconst 3, 1) := by decide +kernel
theorem d_Rd_fill_206 : decode prog_4_method_8_code 206 = .ok (.if_icmp .ne 15, 3) := by decide +kernel
theorem d_Rd_fill_209 : decode prog_4_method_8_code 209 = .ok (.aload_n 0, 1) := by decide +kernel
theorem d_Rd_fill_210 : decode prog_4_method_8_code 210 = .ok (.aload_n 1, 1) := by decide +kernel
theorem d_Rd_fill_211 : decode prog_4_method_8_code 211 = .ok (.invokevirtual 173, 3) := by decide +kernel
theorem d_Rd_fill_214 : decode prog_4_method_8_code 214 = .ok (.ifCond .eq 7, 3) := by decide +kernel
theorem d_Rd_fill_217 : decode prog_4_method_8_code 217 = .ok (.iconst 1, 1) := by decide +kernel
theorem d_Rd_fill_218 : decode prog_4_method_8_code 218 = .ok (.goto 4, 3) := by decide +kernel
theorem d_Rd_fill_221 : decode prog_4_method_8_code 221 = .ok (.iconst 0, 1) := by decide +kernel
theorem d_Rd_fill_222 : decode prog_4_method_8_code 222 = .ok (.ireturn, 1) := by decide +kernel
theorem d_Rd_fill_223 : decode prog_4_method_8_code 223 = .ok (.aload_n 0, 1) := by decide +kernel
theorem d_Rd_fill_224 : decode prog_4_method_8_code 224 = .ok (.getfield 24, 3) := by decide +kernel
theorem d_Rd_fill_227 : decode prog_4_method_8_code 227 = .ok (.getfield 36, 3) := by decide +kernel
theorem d_Rd_fill_230 : decode prog_4_method_8_code 230 = .ok (.iconst 2, 1) := by decide +kernel
theorem d_Rd_fill_231 : decode prog_4_method_8_code 231 = .ok (.if_icmp .ne 22, 3) := by decide +kernel
theorem d_Rd_fill_234 : decode prog_4_method_8_code 234 = .ok (.aload_n 0, 1) := by decide +kernel
theorem d_Rd_fill_235 : decode prog_4_method_8_code 235 = .ok (.aload_n 1, 1) := by decide +kernel
theorem d_Rd_fill_236 : decode prog_4_method_8_code 236 = .ok (.invokevirtual 176, 3) := by decide +kernel
theorem d_Rd_fill_239 : decode prog_4_method_8_code 239 = .ok (.ifCond .eq 14, 3) := by decide +kernel
theorem d_Rd_fill_242 : decode prog_4_method_8_code 242 = .ok (.aload_n 0, 1) := by decide +kernel
theorem d_Rd_fill_243 : decode prog_4_method_8_code 243 = .ok (.invokevirtual 179, 3) := by decide +kernel
theorem d_Rd_fill_246 : decode prog_4_method_8_code 246 = .ok (.ifCond .eq 7, 3) := by decide +kernel
theorem d_Rd_fill_249 : decode prog_4_method_8_code 249 = .ok (.iconst 1, 1) := by decide +kernel
theorem d_Rd_fill_250 : decode prog_4_method_8_code 250 = .ok (.goto 4, 3) := by decide +kernel
theorem d_Rd_fill_253 : decode prog_4_method_8_code 253 = .ok (.iconst 0, 1) := by decide +kernel
theorem d_Rd_fill_254 : decode prog_4_method_8_code 254 = .ok (.ireturn, 1) := by decide +kernel
theorem d_Rd_fill_255 : decode prog_4_method_8_code 255 = .ok (.aload_n 0, 1) := by decide +kernel
theorem d_Rd_fill_256 : decode prog_4_method_8_code 256 = .ok (.aload_n 1, 1) := by decide +kernel
theorem d_Rd_fill_257 : decode prog_4_method_8_code 257 = .ok (.invokevirtual 155, 3) := by decide +kernel
theorem d_Rd_fill_260 : decode prog_4_method_8_code 260 = .ok (.ifCond .eq 22, 3) := by decide +kernel
theorem d_Rd_fill_263 : decode prog_4_method_8_code 263 = .ok (.aload_n 0, 1) := by decide +kernel
theorem d_Rd_fill_264 : decode prog_4_method_8_code 264 = .ok (.aload_n 1, 1) := by decide +kernel
theorem d_Rd_fill_265 : decode prog_4_method_8_code 265 = .ok (.invokevirtual 182, 3) := by decide +kernel
theorem d_Rd_fill_268 : decode prog_4_method_8_code 268 = .ok (.ifCond .eq 14, 3) := by decide +kernel
theorem d_Rd_fill_271 : decode prog_4_method_8_code 271 = .ok (.aload_n 0, 1) := by decide +kernel
theorem d_Rd_fill_272 : decode prog_4_method_8_code 272 = .ok (.invokevirtual 179, 3) := by decide +kernel
theorem d_Rd_fill_275 : decode prog_4_method_8_code 275 = .ok (.ifCond .eq 7, 3) := by decide +kernel
theorem d_Rd_fill_278 : decode prog_4_method_8_code 278 = .ok (.iconst 1, 1) := by decide +kernel
theorem d_Rd_fill_279 : decode prog_4_method_8_code 279 = .ok (.goto 4, 3) := by decide +kernel
theorem d_Rd_fill_282 : decode prog_4_method_8_code 282 = .ok (.iconst 0, 1) := by decide +kernel
theorem d_Rd_fill_283 : decode prog_4_method_8_code 283 = .ok (.ireturn, 1) := by decide +kernel
theorem d_Rd_fill_284 : decode prog_4_method_8_code 284 = .ok (.aload_n 0, 1) := by decide +kernel
theorem d_Rd_fill_285 : decode prog_4_method_8_code 285 = .ok (.getfield 24, 3) := by decide +kernel
theorem d_Rd_fill_288 : decode prog_4_method_8_code 288 = .ok (.getfield 36, 3) := by decide +kernel
theorem d_Rd_fill_291 : decode prog_4_method_8_code 291 = .ok (.iconst 1, 1) := by decide +kernel
theorem d_Rd_fill_292 : decode prog_4_method_8_code 292 = .ok (.if_icmp .ne 14, 3) := by decide +kernel
theorem d_Rd_fill_295 : decode prog_4_method_8_code 295 = .ok (.aload_n 0, 1) := by decide +kernel
theorem d_Rd_fill_296 : decode prog_4_method_8_code 296 = .ok (.invokevirtual 185, 3) := by decide +kernel
theorem d_Rd_fill_299 : decode prog_4_method_8_code 299 = .ok (.ifCond .eq 7, 3) := by decide +kernel
theorem d_Rd_fill_302 : decode prog_4_method_8_code 302 = .ok (.iconst 1, 1) := by decide +kernel
theorem d_Rd_fill_303 : decode prog_4_method_8_code 303 = .ok (.goto 4, 3) := by decide +kernel
theorem d_Rd_fill_306 : decode prog_4_method_8_code 306 = .ok (.iconst 0, 1) := by decide +kernel
theorem d_Rd_fill_307 : decode prog_4_method_8_code 307 = .ok (.ireturn, 1) := by decide +kernel
theorem d_Rd_fill_308 : decode prog_4_method_8_code 308 = .ok (.iconst 0, 1) := by decide +kernel
theorem d_Rd_fill_309 : decode prog_4_method_8_code 309 = .ok (.ireturn, 1) := by decide +kernel
abbrev m_Rd_takeValue : MethodName × ByteArray × Nat × Option FieldType := (⟨"TestText$Reader", "takeValue", "(LTestText$Step;)Z"⟩, prog_4_method_9_code, 2, (Option.some FieldType.boolean))
theorem d_Rd_takeValue_0 : decode prog_4_method_9_code 0 = .ok (.aload_n 1, 1) := by decide +kernel
theorem d_Rd_takeValue_1 : decode prog_4_method_9_code 1 = .ok (.aload_n 0, 1) := by decide +kernel
theorem d_Rd_takeValue_2 : decode prog_4_method_9_code 2 = .ok (.getfield 9, 3) := by decide +kernel
theorem d_Rd_takeValue_5 : decode prog_4_method_9_code 5 = .ok (.aload_n 0, 1) := by decide +kernel
theorem d_Rd_takeValue_6 : decode prog_4_method_9_code 6 = .ok (.getfield 24, 3) := by decide +kernel
theorem d_Rd_takeValue_9 : decode prog_4_method_9_code 9 = .ok (.iconst 1, 1) := by decide +kernel
theorem d_Rd_takeValue_10 : decode prog_4_method_9_code 10 = .ok (.invokevirtual 110, 3) := by decide +kernel
theorem d_Rd_takeValue_13 : decode prog_4_method_9_code 13 = .ok (.invokevirtual 188, 3) := by decide +kernel
theorem d_Rd_takeValue_16 : decode prog_4_method_9_code 16 = .ok (.putfield 192, 3) := by decide +kernel
theorem d_Rd_takeValue_19 : decode prog_4_method_9_code 19 = .ok (.aload_n 1, 1) := by decide +kernel
theorem d_Rd_takeValue_20 : decode prog_4_method_9_code 20 = .ok (.getfield 192, 3) := by decide +kernel
theorem d_Rd_takeValue_23 : decode prog_4_method_9_code 23 = .ok (.ifCond .le 7, 3) := by decide +kernel
theorem d_Rd_takeValue_26 : decode prog_4_method_9_code 26 = .ok (.iconst 1, 1) := by decide +kernel
theorem d_Rd_takeValue_27 : decode prog_4_method_9_code 27 = .ok (.goto 4, 3) := by decide +kernel
theorem d_Rd_takeValue_30 : decode prog_4_method_9_code 30 = .ok (.iconst 0, 1) := by decide +kernel
theorem d_Rd_takeValue_31 : decode prog_4_method_9_code 31 = .ok (.ireturn, 1) := by decide +kernel
abbrev m_Rd_takeNumber : MethodName × ByteArray × Nat × Option FieldType := (⟨"TestText$Reader", "takeNumber", "(LTestText$Step;I)Z"⟩, prog_4_method_10_code, 3, (Option.some FieldType.boolean))
theorem d_Rd_takeNumber_0 : decode prog_4_method_10_code 0 = .ok (.aload_n 1, 1) := by decide +kernel
theorem d_Rd_takeNumber_1 : decode prog_4_method_10_code 1 = .ok (.aload_n 0, 1) := by decide +kernel
theorem d_Rd_takeNumber_2 : decode prog_4_method_10_code 2 = .ok (.getfield 24, 3) := by decide +kernel
theorem d_Rd_takeNumber_5 : decode prog_4_method_10_code 5 = .ok (.iload_n 2, 1) := by decide +kernel
theorem d_Rd_takeNumber_6 : decode prog_4_method_10_code 6 = .ok (.invokevirtual 195, 3) := by decide +kernel
theorem d_Rd_takeNumber_9 : decode prog_4_method_10_code 9 = .ok (.putfield 162, 3) := by decide +kernel
theorem d_Rd_takeNumber_12 : decode prog_4_method_10_code 12 = .ok (.aload_n 1, 1) := by decide +kernel
theorem d_Rd_takeNumber_13 : decode prog_4_method_10_code 13 = .ok (.getfield 162, 3) := by decide +kernel
theorem d_Rd_takeNumber_16 : decode prog_4_method_10_code 16 = .ok (.ldc 199, 2) := by decide +kernel
theorem d_Rd_takeNumber_18 : decode prog_4_method_10_code 18 = .ok (.if_icmp .eq 7, 3) := by decide +kernel
theorem d_Rd_takeNumber_21 : decode prog_4_method_10_code 21 = .ok (.iconst 1, 1) := by decide +kernel
theorem d_Rd_takeNumber_22 : decode prog_4_method_10_code 22 = .ok (.goto 4, 3) := by decide +kernel
theorem d_Rd_takeNumber_25 : decode prog_4_method_10_code 25 = .ok (.iconst 0, 1) := by decide +kernel
theorem d_Rd_takeNumber_26 : decode prog_4_method_10_code 26 = .ok (.ireturn, 1) := by decide +kernel
abbrev m_Rd_takeSecond : MethodName × ByteArray × Nat × Option FieldType := (⟨"TestText$Reader", "takeSecond", "(LTestText$Step;III)Z"⟩, prog_4_method_11_code, 5, (Option.some FieldType.boolean))
theorem d_Rd_takeSecond_0 : decode prog_4_method_11_code 0 = .ok (.aload_n 1, 1) := by decide +kernel
theorem d_Rd_takeSecond_1 : decode prog_4_method_11_code 1 = .ok (.aload_n 0, 1) := by decide +kernel
theorem d_Rd_takeSecond_2 : decode prog_4_method_11_code 2 = .ok (.getfield 24, 3) := by decide +kernel
theorem d_Rd_takeSecond_5 : decode prog_4_method_11_code 5 = .ok (.iload_n 2, 1) := by decide +kernel
theorem d_Rd_takeSecond_6 : decode prog_4_method_11_code 6 = .ok (.invokevirtual 195, 3) := by decide +kernel
theorem d_Rd_takeSecond_9 : decode prog_4_method_11_code 9 = .ok (.putfield 200, 3) := by decide +kernel
theorem d_Rd_takeSecond_12 : decode prog_4_method_11_code 12 = .ok (.aload_n 1, 1) := by decide +kernel
theorem d_Rd_takeSecond_13 : decode prog_4_method_11_code 13 = .ok (.getfield 200, 3) := by decide +kernel
theorem d_Rd_takeSecond_16 : decode prog_4_method_11_code 16 = .ok (.iload_n 3, 1) := by decide +kernel
theorem d_Rd_takeSecond_17 : decode prog_4_method_11_code 17 = .ok (.if_icmp .lt 16, 3) := by decide +kernel
theorem d_Rd_takeSecond_20 : decode prog_4_method_11_code 20 = .ok (.aload_n 1, 1) := by decide +kernel
theorem d_Rd_takeSecond_21 : decode prog_4_method_11_code 21 = .ok (.getfield 200, 3) := by decide +kernel
theorem d_Rd_takeSecond_24 : decode prog_4_method_11_code 24 = .ok (.iload 4, 2) := by decide +kernel
theorem d_Rd_takeSecond_26 : decode prog_4_method_11_code 26 = .ok (.if_icmp .gt 7, 3) := by decide +kernel
theorem d_Rd_takeSecond_29 : decode prog_4_method_11_code 29 = .ok (.iconst 1, 1) := by decide +kernel
theorem d_Rd_takeSecond_30 : decode prog_4_method_11_code 30 = .ok (.goto 4, 3) := by decide +kernel
theorem d_Rd_takeSecond_33 : decode prog_4_method_11_code 33 = .ok (.iconst 0, 1) := by decide +kernel
theorem d_Rd_takeSecond_34 : decode prog_4_method_11_code 34 = .ok (.ireturn, 1) := by decide +kernel
abbrev m_Rd_takeComparison : MethodName × ByteArray × Nat × Option FieldType := (⟨"TestText$Reader", "takeComparison", "(LTestText$Step;)Z"⟩, prog_4_method_12_code, 2, (Option.some FieldType.boolean))
theorem d_Rd_takeComparison_0 : decode prog_4_method_12_code 0 = .ok (.aload_n 1, 1) := by decide +kernel
theorem d_Rd_takeComparison_1 : decode prog_4_method_12_code 1 = .ok (.aload_n 0, 1) := by decide +kernel
theorem d_Rd_takeComparison_2 : decode prog_4_method_12_code 2 = .ok (.getfield 24, 3) := by decide +kernel
theorem d_Rd_takeComparison_5 : decode prog_4_method_12_code 5 = .ok (.iconst 2, 1) := by decide +kernel
theorem d_Rd_takeComparison_6 : decode prog_4_method_12_code 6 = .ok (.invokevirtual 203, 3) := by decide +kernel
theorem d_Rd_takeComparison_9 : decode prog_4_method_12_code 9 = .ok (.putfield 206, 3) := by decide +kernel
theorem d_Rd_takeComparison_12 : decode prog_4_method_12_code 12 = .ok (.aload_n 1, 1) := by decide +kernel
theorem d_Rd_takeComparison_13 : decode prog_4_method_12_code 13 = .ok (.getfield 206, 3) := by decide +kernel
theorem d_Rd_takeComparison_16 : decode prog_4_method_12_code 16 = .ok (.ifCond .eq 24, 3) := by decide +kernel
theorem d_Rd_takeComparison_19 : decode prog_4_method_12_code 19 = .ok (.aload_n 0, 1) := by decide +kernel
theorem d_Rd_takeComparison_20 : decode prog_4_method_12_code 20 = .ok (.aload_n 1, 1) := by decide +kernel
theorem d_Rd_takeComparison_21 : decode prog_4_method_12_code 21 = .ok (.invokevirtual 155, 3) := by decide +kernel
theorem d_Rd_takeComparison_24 : decode prog_4_method_12_code 24 = .ok (.ifCond .eq 16, 3) := by decide +kernel
theorem d_Rd_takeComparison_27 : decode prog_4_method_12_code 27 = .ok (.aload_n 0, 1) := by decide +kernel
theorem d_Rd_takeComparison_28 : decode prog_4_method_12_code 28 = .ok (.aload_n 1, 1) := by decide +kernel
theorem d_Rd_takeComparison_29 : decode prog_4_method_12_code 29 = .ok (.iconst 3, 1) := by decide +kernel
theorem d_Rd_takeComparison_30 : decode prog_4_method_12_code 30 = .ok (.invokevirtual 158, 3) := by decide +kernel
theorem d_Rd_takeComparison_33 : decode prog_4_method_12_code 33 = .ok (.ifCond .eq 7, 3) := by decide +kernel
theorem d_Rd_takeComparison_36 : decode prog_4_method_12_code 36 = .ok (.iconst 1, 1) := by decide +kernel
theorem d_Rd_takeComparison_37 : decode prog_4_method_12_code 37 = .ok (.goto 4, 3) := by decide +kernel
theorem d_Rd_takeComparison_40 : decode prog_4_method_12_code 40 = .ok (.iconst 0, 1) := by decide +kernel
theorem d_Rd_takeComparison_41 : decode prog_4_method_12_code 41 = .ok (.ireturn, 1) := by decide +kernel
abbrev m_Rd_takeFault : MethodName × ByteArray × Nat × Option FieldType := (⟨"TestText$Reader", "takeFault", "(LTestText$Step;)Z"⟩, prog_4_method_13_code, 3, (Option.some FieldType.boolean))
theorem d_Rd_takeFault_0 : decode prog_4_method_13_code 0 = .ok (.aload_n 0, 1) := by decide +kernel
theorem d_Rd_takeFault_1 : decode prog_4_method_13_code 1 = .ok (.getfield 24, 3) := by decide +kernel
theorem d_Rd_takeFault_4 : decode prog_4_method_13_code 4 = .ok (.iconst 2, 1) := by decide +kernel
theorem d_Rd_takeFault_5 : decode prog_4_method_13_code 5 = .ok (.ldc 209, 2) := by decide +kernel
theorem d_Rd_takeFault_7 : decode prog_4_method_13_code 7 = .ok (.invokevirtual 49, 3) := by decide +kernel
theorem d_Rd_takeFault_10 : decode prog_4_method_13_code 10 = .ok (.istore_n 2, 1) := by decide +kernel
theorem d_Rd_takeFault_11 : decode prog_4_method_13_code 11 = .ok (.aload_n 1, 1) := by decide +kernel
theorem d_Rd_takeFault_12 : decode prog_4_method_13_code 12 = .ok (.iload_n 2, 1) := by decide +kernel
theorem d_Rd_takeFault_13 : decode prog_4_method_13_code 13 = .ok (.ifCond .eq 7, 3) := by decide +kernel
theorem d_Rd_takeFault_16 : decode prog_4_method_13_code 16 = .ok (.iconst 1, 1) := by decide +kernel
theorem d_Rd_takeFault_17 : decode prog_4_method_13_code 17 = .ok (.goto 4, 3) := by decide +kernel
theorem d_Rd_takeFault_20 : decode prog_4_method_13_code 20 = .ok (.iconst 0, 1) := by decide +kernel
theorem d_Rd_takeFault_21 : decode prog_4_method_13_code 21 = .ok (.putfield 200, 3) := by decide +kernel
theorem d_Rd_takeFault_24 : decode prog_4_method_13_code 24 = .ok (.aload_n 0, 1) := by decide +kernel
theorem d_Rd_takeFault_25 : decode prog_4_method_13_code 25 = .ok (.aload_n 1, 1) := by decide +kernel
theorem d_Rd_takeFault_26 : decode prog_4_method_13_code 26 = .ok (.iconst 1, 1) := by decide +kernel
theorem d_Rd_takeFault_27 : decode prog_4_method_13_code 27 = .ok (.invokevirtual 158, 3) := by decide +kernel
theorem d_Rd_takeFault_30 : decode prog_4_method_13_code 30 = .ok (.ifCond .eq 41, 3) := by decide +kernel
theorem d_Rd_takeFault_33 : decode prog_4_method_13_code 33 = .ok (.aload_n 1, 1) := by decide +kernel
theorem d_Rd_takeFault_34 : decode prog_4_method_13_code 34 = .ok (.getfield 162, 3) := by decide +kernel
theorem d_Rd_takeFault_37 : decode prog_4_method_13_code 37 = .ok (.iconst 1, 1) := by decide +kernel
theorem d_Rd_takeFault_38 : decode prog_4_method_13_code 38 = .ok (.if_icmp .lt 33, 3) := by decide +kernel
theorem d_Rd_takeFault_41 : decode prog_4_method_13_code 41 = .ok (.aload_n 1, 1) := by decide +kernel
theorem d_Rd_takeFault_42 : decode prog_4_method_13_code 42 = .ok (.getfield 162, 3) := by decide +kernel
theorem d_Rd_takeFault_45 : decode prog_4_method_13_code 45 = .ok (.bipush 8, 2) := by decide +kernel
theorem d_Rd_takeFault_47 : decode prog_4_method_13_code 47 = .ok (.if_icmp .gt 24, 3) := by decide +kernel
theorem d_Rd_takeFault_50 : decode prog_4_method_13_code 50 = .ok (.iload_n 2, 1) := by decide +kernel
theorem d_Rd_takeFault_51 : decode prog_4_method_13_code 51 = .ok (.ifCond .ne 16, 3) := by decide +kernel
theorem d_Rd_takeFault_54 : decode prog_4_method_13_code 54 = .ok (.aload_n 0, 1) := by decide +kernel
theorem d_Rd_takeFault_55 : decode prog_4_method_13_code 55 = .ok (.getfield 24, 3) := by decide +kernel
theorem d_Rd_takeFault_58 : decode prog_4_method_13_code 58 = .ok (.iconst 2, 1) := by decide +kernel
theorem d_Rd_takeFault_59 : decode prog_4_method_13_code 59 = .ok (.ldc 211, 2) := by decide +kernel
theorem d_Rd_takeFault_61 : decode prog_4_method_13_code 61 = .ok (.invokevirtual 49, 3) := by decide +kernel
theorem d_Rd_takeFault_64 : decode prog_4_method_13_code 64 = .ok (.ifCond .eq 7, 3) := by decide +kernel
theorem d_Rd_takeFault_67 : decode prog_4_method_13_code 67 = .ok (.iconst 1, 1) := by decide +kernel
theorem d_Rd_takeFault_68 : decode prog_4_method_13_code 68 = .ok (.goto 4, 3) := by decide +kernel
theorem d_Rd_takeFault_71 : decode prog_4_method_13_code 71 = .ok (.iconst 0, 1) := by decide +kernel
theorem d_Rd_takeFault_72 : decode prog_4_method_13_code 72 = .ok (.ireturn, 1) := by decide +kernel
abbrev m_Rd_takeTimesLooped : MethodName × ByteArray × Nat × Option FieldType := (⟨"TestText$Reader", "takeTimesLooped", "(LTestText$Step;)Z"⟩, prog_4_method_14_code, 2, (Option.some FieldType.boolean))
theorem d_Rd_takeTimesLooped_0 : decode prog_4_method_14_code 0 = .ok (.aload_n 0, 1) := by decide +kernel
theorem d_Rd_takeTimesLooped_1 : decode prog_4_method_14_code 1 = .ok (.aload_n 1, 1) := by decide +kernel
theorem d_Rd_takeTimesLooped_2 : decode prog_4_method_14_code 2 = .ok (.iconst 1, 1) := by decide +kernel
theorem d_Rd_takeTimesLooped_3 : decode prog_4_method_14_code 3 = .ok (.invokevirtual 158, 3) := by decide +kernel
theorem d_Rd_takeTimesLooped_6 : decode prog_4_method_14_code 6 = .ok (.ifCond .eq 24, 3) := by decide +kernel
theorem d_Rd_takeTimesLooped_9 : decode prog_4_method_14_code 9 = .ok (.aload_n 1, 1) := by decide +kernel
theorem d_Rd_takeTimesLooped_10 : decode prog_4_method_14_code 10 = .ok (.getfield 162, 3) := by decide +kernel
theorem d_Rd_takeTimesLooped_13 : decode prog_4_method_14_code 13 = .ok (.iconst 1, 1) := by decide +kernel
theorem d_Rd_takeTimesLooped_14 : decode prog_4_method_14_code 14 = .ok (.if_icmp .lt 16, 3) := by decide +kernel
theorem d_Rd_takeTimesLooped_17 : decode prog_4_method_14_code 17 = .ok (.aload_n 1, 1) := by decide +kernel
theorem d_Rd_takeTimesLooped_18 : decode prog_4_method_14_code 18 = .ok (.getfield 162, 3) := by decide +kernel
theorem d_Rd_takeTimesLooped_21 : decode prog_4_method_14_code 21 = .ok (.bipush 20, 2) := by decide +kernel
theorem d_Rd_takeTimesLooped_23 : decode prog_4_method_14_code 23 = .ok (.if_icmp .gt 7, 3) := by decide +kernel
theorem d_Rd_takeTimesLooped_26 : decode prog_4_method_14_code 26 = .ok (.iconst 1, 1) := by decide +kernel
theorem d_Rd_takeTimesLooped_27 : decode prog_4_method_14_code 27 = .ok (.goto 4, 3) := by decide +kernel
theorem d_Rd_takeTimesLooped_30 : decode prog_4_method_14_code 30 = .ok (.iconst 0, 1) := by decide +kernel
theorem d_Rd_takeTimesLooped_31 : decode prog_4_method_14_code 31 = .ok (.ireturn, 1) := by decide +kernel
abbrev m_Rd_openBlock : MethodName × ByteArray × Nat × Option FieldType := (⟨"TestText$Reader", "openBlock", "()Z"⟩, prog_4_method_17_code, 1, (Option.some FieldType.boolean))
theorem d_Rd_openBlock_0 : decode prog_4_method_17_code 0 = .ok (.aload_n 0, 1) := by decide +kernel
theorem d_Rd_openBlock_1 : decode prog_4_method_17_code 1 = .ok (.getfield 44, 3) := by decide +kernel
theorem d_Rd_openBlock_4 : decode prog_4_method_17_code 4 = .ok (.bipush 8, 2) := by decide +kernel
theorem d_Rd_openBlock_6 : decode prog_4_method_17_code 6 = .ok (.if_icmp .lt 5, 3) := by decide +kernel
theorem d_Rd_openBlock_9 : decode prog_4_method_17_code 9 = .ok (.iconst 0, 1) := by decide +kernel
theorem d_Rd_openBlock_10 : decode prog_4_method_17_code 10 = .ok (.ireturn, 1) := by decide +kernel
theorem d_Rd_openBlock_11 : decode prog_4_method_17_code 11 = .ok (.aload_n 0, 1) := by decide +kernel
theorem d_Rd_openBlock_12 : decode prog_4_method_17_code 12 = .ok (.getfield 28, 3) := by decide +kernel
theorem d_Rd_openBlock_15 : decode prog_4_method_17_code 15 = .ok (.aload_n 0, 1) := by decide +kernel
theorem d_Rd_openBlock_16 : decode prog_4_method_17_code 16 = .ok (.getfield 44, 3) := by decide +kernel
theorem d_Rd_openBlock_19 : decode prog_4_method_17_code 19 = .ok (.aload_n 0, 1) := by decide +kernel
theorem d_Rd_openBlock_20 : decode prog_4_method_17_code 20 = .ok (.getfield 9, 3) := by decide +kernel
theorem d_Rd_openBlock_23 : decode prog_4_method_17_code 23 = .ok (.getfield 84, 3) := by decide +kernel
theorem d_Rd_openBlock_26 : decode prog_4_method_17_code 26 = .ok (.invokevirtual 90, 3) := by decide +kernel
theorem d_Rd_openBlock_29 : decode prog_4_method_17_code 29 = .ok (.iastore, 1) := by decide +kernel
theorem d_Rd_openBlock_30 : decode prog_4_method_17_code 30 = .ok (.aload_n 0, 1) := by decide +kernel
theorem d_Rd_openBlock_31 : decode prog_4_method_17_code 31 = .ok (.dup, 1) := by decide +kernel
theorem d_Rd_openBlock_32 : decode prog_4_method_17_code 32 = .ok (.getfield 44, 3) := by decide +kernel
theorem d_Rd_openBlock_35 : decode prog_4_method_17_code 35 = .ok (.iconst 1, 1) := by decide +kernel
theorem d_Rd_openBlock_36 : decode prog_4_method_17_code 36 = .ok (.iadd, 1) := by decide +kernel
theorem d_Rd_openBlock_37 : decode prog_4_method_17_code 37 = .ok (.putfield 44, 3) := by decide +kernel
theorem d_Rd_openBlock_40 : decode prog_4_method_17_code 40 = .ok (.iconst 1, 1) := by decide +kernel
theorem d_Rd_openBlock_41 : decode prog_4_method_17_code 41 = .ok (.ireturn, 1) := by decide +kernel
abbrev m_Rd_takeNumbers : MethodName × ByteArray × Nat × Option FieldType := (⟨"TestText$Reader", "takeNumbers", "(LTestText$Step;)Z"⟩, prog_4_method_15_code, 5, (Option.some FieldType.boolean))
theorem d_Rd_takeNumbers_0 : decode prog_4_method_15_code 0 = .ok (.aload_n 0, 1) := by decide +kernel
theorem d_Rd_takeNumbers_1 : decode prog_4_method_15_code 1 = .ok (.getfield 24, 3) := by decide +kernel
theorem d_Rd_takeNumbers_4 : decode prog_4_method_15_code 4 = .ok (.getfield 36, 3) := by decide +kernel
theorem d_Rd_takeNumbers_7 : decode prog_4_method_15_code 7 = .ok (.iconst 2, 1) := by decide +kernel
theorem d_Rd_takeNumbers_8 : decode prog_4_method_15_code 8 = .ok (.isub, 1) := by decide +kernel
theorem d_Rd_takeNumbers_9 : decode prog_4_method_15_code 9 = .ok (.istore_n 2, 1) := by decide +kernel
theorem d_Rd_takeNumbers_10 : decode prog_4_method_15_code 10 = .ok (.iload_n 2, 1) := by decide +kernel
theorem d_Rd_takeNumbers_11 : decode prog_4_method_15_code 11 = .ok (.iconst 1, 1) := by decide +kernel
theorem d_Rd_takeNumbers_12 : decode prog_4_method_15_code 12 = .ok (.if_icmp .lt 9, 3) := by decide +kernel
theorem d_Rd_takeNumbers_15 : decode prog_4_method_15_code 15 = .ok (.iload_n 2, 1) := by decide +kernel
theorem d_Rd_takeNumbers_16 : decode prog_4_method_15_code 16 = .ok (.bipush 10, 2) := by decide +kernel
theorem d_Rd_takeNumbers_18 : decode prog_4_method_15_code 18 = .ok (.if_icmp .le 5, 3) := by decide +kernel
theorem d_Rd_takeNumbers_21 : decode prog_4_method_15_code 21 = .ok (.iconst 0, 1) := by decide +kernel
theorem d_Rd_takeNumbers_22 : decode prog_4_method_15_code 22 = .ok (.ireturn, 1) := by decide +kernel
theorem d_Rd_takeNumbers_23 : decode prog_4_method_15_code 23 = .ok (.iload_n 2, 1) := by decide +kernel
theorem d_Rd_takeNumbers_24 : decode prog_4_method_15_code 24 = .ok (.newarray .int, 2) := by decide +kernel
theorem d_Rd_takeNumbers_26 : decode prog_4_method_15_code 26 = .ok (.astore_n 3, 1) := by decide +kernel
theorem d_Rd_takeNumbers_27 : decode prog_4_method_15_code 27 = .ok (.iconst 0, 1) := by decide +kernel
theorem d_Rd_takeNumbers_28 : decode prog_4_method_15_code 28 = .ok (.istore 4, 2) := by decide +kernel
theorem d_Rd_takeNumbers_30 : decode prog_4_method_15_code 30 = .ok (.iload 4, 2) := by decide +kernel
theorem d_Rd_takeNumbers_32 : decode prog_4_method_15_code 32 = .ok (.iload_n 2, 1) := by decide +kernel
theorem d_Rd_takeNumbers_33 : decode prog_4_method_15_code 33 = .ok (.if_icmp .ge 35, 3) := by decide +kernel
theorem d_Rd_takeNumbers_36 : decode prog_4_method_15_code 36 = .ok (.aload_n 3, 1) := by decide +kernel
theorem d_Rd_takeNumbers_37 : decode prog_4_method_15_code 37 = .ok (.iload 4, 2) := by decide +kernel
theorem d_Rd_takeNumbers_39 : decode prog_4_method_15_code 39 = .ok (.aload_n 0, 1) := by decide +kernel
theorem d_Rd_takeNumbers_40 : decode prog_4_method_15_code 40 = .ok (.getfield 24, 3) := by decide +kernel
theorem d_Rd_takeNumbers_43 : decode prog_4_method_15_code 43 = .ok (.iload 4, 2) := by decide +kernel
theorem d_Rd_takeNumbers_45 : decode prog_4_method_15_code 45 = .ok (.iconst 2, 1) := by decide +kernel
theorem d_Rd_takeNumbers_46 : decode prog_4_method_15_code 46 = .ok (.iadd, 1) := by decide +kernel
theorem d_Rd_takeNumbers_47 : decode prog_4_method_15_code 47 = .ok (.invokevirtual 195, 3) := by decide +kernel
theorem d_Rd_takeNumbers_50 : decode prog_4_method_15_code 50 = .ok (.iastore, 1) := by decide +kernel
theorem d_Rd_takeNumbers_51 : decode prog_4_method_15_code 51 = .ok (.aload_n 3, 1) := by decide +kernel
theorem d_Rd_takeNumbers_52 : decode prog_4_method_15_code 52 = .ok (.iload 4, 2) := by decide +kernel
theorem d_Rd_takeNumbers_54 : decode prog_4_method_15_code 54 = .ok (.iaload, 1) := by decide +kernel
theorem d_Rd_takeNumbers_55 : decode prog_4_method_15_code 55 = .ok (.ldc 199, 2) := by decide +kernel
theorem d_Rd_takeNumbers_57 : decode prog_4_method_15_code 57 = .ok (.if_icmp .ne 5, 3) := by decide +kernel
theorem d_Rd_takeNumbers_60 : decode prog_4_method_15_code 60 = .ok (.iconst 0, 1) := by decide +kernel
theorem d_Rd_takeNumbers_61 : decode prog_4_method_15_code 61 = .ok (.ireturn, 1) := by decide +kernel
theorem d_Rd_takeNumbers_62 : decode prog_4_method_15_code 62 = .ok (.iinc 4 1, 3) := by decide +kernel
theorem d_Rd_takeNumbers_65 : decode prog_4_method_15_code 65 = .ok (.goto (-35), 3) := by decide +kernel
theorem d_Rd_takeNumbers_68 : decode prog_4_method_15_code 68 = .ok (.aload_n 1, 1) := by decide +kernel
theorem d_Rd_takeNumbers_69 : decode prog_4_method_15_code 69 = .ok (.aload_n 3, 1) := by decide +kernel
theorem d_Rd_takeNumbers_70 : decode prog_4_method_15_code 70 = .ok (.putfield 213, 3) := by decide +kernel
theorem d_Rd_takeNumbers_73 : decode prog_4_method_15_code 73 = .ok (.iconst 1, 1) := by decide +kernel
theorem d_Rd_takeNumbers_74 : decode prog_4_method_15_code 74 = .ok (.ireturn, 1) := by decide +kernel
abbrev m_Rd_takeAlways : MethodName × ByteArray × Nat × Option FieldType := (⟨"TestText$Reader", "takeAlways", "()Z"⟩, prog_4_method_16_code, 1, (Option.some FieldType.boolean))
theorem d_Rd_takeAlways_0 : decode prog_4_method_16_code 0 = .ok (.aload_n 0, 1) := by decide +kernel
theorem d_Rd_takeAlways_1 : decode prog_4_method_16_code 1 = .ok (.getfield 67, 3) := by decide +kernel
theorem d_Rd_takeAlways_4 : decode prog_4_method_16_code 4 = .ok (.ifnull 21, 3) := by decide +kernel
theorem d_Rd_takeAlways_7 : decode prog_4_method_16_code 7 = .ok (.aload_n 0, 1) := by decide +kernel
theorem d_Rd_takeAlways_8 : decode prog_4_method_16_code 8 = .ok (.getfield 44, 3) := by decide +kernel
theorem d_Rd_takeAlways_11 : decode prog_4_method_16_code 11 = .ok (.ifCond .gt 14, 3) := by decide +kernel
theorem d_Rd_takeAlways_14 : decode prog_4_method_16_code 14 = .ok (.aload_n 0, 1) := by decide +kernel
theorem d_Rd_takeAlways_15 : decode prog_4_method_16_code 15 = .ok (.getfield 67, 3) := by decide +kernel
theorem d_Rd_takeAlways_18 : decode prog_4_method_16_code 18 = .ok (.getfield 216, 3) := by decide +kernel
theorem d_Rd_takeAlways_21 : decode prog_4_method_16_code 21 = .ok (.iconst (-1), 1) := by decide +kernel
theorem d_Rd_takeAlways_22 : decode prog_4_method_16_code 22 = .ok (.if_icmp .eq 5, 3) := by decide +kernel
theorem d_Rd_takeAlways_25 : decode prog_4_method_16_code 25 = .ok (.iconst 0, 1) := by decide +kernel
theorem d_Rd_takeAlways_26 : decode prog_4_method_16_code 26 = .ok (.ireturn, 1) := by decide +kernel
theorem d_Rd_takeAlways_27 : decode prog_4_method_16_code 27 = .ok (.aload_n 0, 1) := by decide +kernel
theorem d_Rd_takeAlways_28 : decode prog_4_method_16_code 28 = .ok (.getfield 67, 3) := by decide +kernel
theorem d_Rd_takeAlways_31 : decode prog_4_method_16_code 31 = .ok (.aload_n 0, 1) := by decide +kernel
theorem d_Rd_takeAlways_32 : decode prog_4_method_16_code 32 = .ok (.getfield 9, 3) := by decide +kernel
theorem d_Rd_takeAlways_35 : decode prog_4_method_16_code 35 = .ok (.getfield 84, 3) := by decide +kernel
theorem d_Rd_takeAlways_38 : decode prog_4_method_16_code 38 = .ok (.invokevirtual 90, 3) := by decide +kernel
theorem d_Rd_takeAlways_41 : decode prog_4_method_16_code 41 = .ok (.putfield 216, 3) := by decide +kernel
theorem d_Rd_takeAlways_44 : decode prog_4_method_16_code 44 = .ok (.aload_n 0, 1) := by decide +kernel
theorem d_Rd_takeAlways_45 : decode prog_4_method_16_code 45 = .ok (.invokevirtual 179, 3) := by decide +kernel
theorem d_Rd_takeAlways_48 : decode prog_4_method_16_code 48 = .ok (.ireturn, 1) := by decide +kernel
abbrev m_Wd_init : MethodName × ByteArray × Nat × Option FieldType := (⟨"TestText$Words", "<init>", "([B)V"⟩, prog_9_method_1_code, 2, (Option.none : Option FieldType))
theorem d_Wd_init_0 : decode prog_9_method_1_code 0 = .ok (.aload_n 0, 1) := by decide +kernel
theorem d_Wd_init_1 : decode prog_9_method_1_code 1 = .ok (.invokespecial 3, 3) := by decide +kernel
theorem d_Wd_init_4 : decode prog_9_method_1_code 4 = .ok (.aload_n 0, 1) := by decide +kernel
theorem d_Wd_init_5 : decode prog_9_method_1_code 5 = .ok (.aload_n 1, 1) := by decide +kernel
theorem d_Wd_init_6 : decode prog_9_method_1_code 6 = .ok (.putfield 9, 3) := by decide +kernel
theorem d_Wd_init_9 : decode prog_9_method_1_code 9 = .ok (.aload_n 0, 1) := by decide +kernel
theorem d_Wd_init_10 : decode prog_9_method_1_code 10 = .ok (.bipush 13, 2) := by decide +kernel
theorem d_Wd_init_12 : decode prog_9_method_1_code 12 = .ok (.newarray .int, 2) := by decide +kernel
theorem d_Wd_init_14 : decode prog_9_method_1_code 14 = .ok (.putfield 15, 3) := by decide +kernel
theorem d_Wd_init_17 : decode prog_9_method_1_code 17 = .ok (.aload_n 0, 1) := by decide +kernel
theorem d_Wd_init_18 : decode prog_9_method_1_code 18 = .ok (.bipush 13, 2) := by decide +kernel
theorem d_Wd_init_20 : decode prog_9_method_1_code 20 = .ok (.newarray .int, 2) := by decide +kernel
theorem d_Wd_init_22 : decode prog_9_method_1_code 22 = .ok (.putfield 19, 3) := by decide +kernel
theorem d_Wd_init_25 : decode prog_9_method_1_code 25 = .ok (.return_, 1) := by decide +kernel
abbrev m_Wd_split : MethodName × ByteArray × Nat × Option FieldType := (⟨"TestText$Words", "split", "(II)V"⟩, prog_9_method_2_code, 6, (Option.none : Option FieldType))
theorem d_Wd_split_0 : decode prog_9_method_2_code 0 = .ok (.aload_n 0, 1) := by decide +kernel
theorem d_Wd_split_1 : decode prog_9_method_2_code 1 = .ok (.iconst 0, 1) := by decide +kernel
theorem d_Wd_split_2 : decode prog_9_method_2_code 2 = .ok (.putfield 22, 3) := by decide +kernel
theorem d_Wd_split_5 : decode prog_9_method_2_code 5 = .ok (.iconst 0, 1) := by decide +kernel
theorem d_Wd_split_6 : decode prog_9_method_2_code 6 = .ok (.istore_n 3, 1) := by decide +kernel
theorem d_Wd_split_7 : decode prog_9_method_2_code 7 = .ok (.iload_n 1, 1) := by decide +kernel
theorem d_Wd_split_8 : decode prog_9_method_2_code 8 = .ok (.istore 4, 2) := by decide +kernel
theorem d_Wd_split_10 : decode prog_9_method_2_code 10 = .ok (.iload 4, 2) := by decide +kernel
theorem d_Wd_split_12 : decode prog_9_method_2_code 12 = .ok (.iload_n 2, 1) := by decide +kernel
theorem d_Wd_split_13 : decode prog_9_method_2_code 13 = .ok (.if_icmp .ge 115, 3) := by decide +kernel
theorem d_Wd_split_16 : decode prog_9_method_2_code 16 = .ok (.iload 4, 2) := by decide +kernel
theorem d_Wd_split_18 : decode prog_9_method_2_code 18 = .ok (.aload_n 0, 1) := by decide +kernel
theorem d_Wd_split_19 : decode prog_9_method_2_code 19 = .ok (.getfield 9, 3) := by decide +kernel
theorem d_Wd_split_22 : decode prog_9_method_2_code 22 = .ok (.arraylength, 1) := by decide +kernel
theorem d_Wd_split_23 : decode prog_9_method_2_code 23 = .ok (.if_icmp .ge 105, 3) := by decide +kernel
theorem d_Wd_split_26 : decode prog_9_method_2_code 26 = .ok (.aload_n 0, 1) := by decide +kernel
theorem d_Wd_split_27 : decode prog_9_method_2_code 27 = .ok (.getfield 22, 3) := by decide +kernel
theorem d_Wd_split_30 : decode prog_9_method_2_code 30 = .ok (.bipush 12, 2) := by decide +kernel
theorem d_Wd_split_32 : decode prog_9_method_2_code 32 = .ok (.if_icmp .gt 96, 3) := by decide +kernel
theorem d_Wd_split_35 : decode prog_9_method_2_code 35 = .ok (.aload_n 0, 1) := by decide +kernel
theorem d_Wd_split_36 : decode prog_9_method_2_code 36 = .ok (.getfield 9, 3) := by decide +kernel
theorem d_Wd_split_39 : decode prog_9_method_2_code 39 = .ok (.iload 4, 2) := by decide +kernel
theorem d_Wd_split_41 : decode prog_9_method_2_code 41 = .ok (.baload, 1) := by decide +kernel
theorem d_Wd_split_42 : decode prog_9_method_2_code 42 = .ok (.bipush 32, 2) := by decide +kernel
theorem d_Wd_split_44 : decode prog_9_method_2_code 44 = .ok (.if_icmp .ne 7, 3) := by decide +kernel
theorem d_Wd_split_47 : decode prog_9_method_2_code 47 = .ok (.iconst 1, 1) := by decide +kernel
theorem d_Wd_split_48 : decode prog_9_method_2_code 48 = .ok (.goto 4, 3) := by decide +kernel
theorem d_Wd_split_51 : decode prog_9_method_2_code 51 = .ok (.iconst 0, 1) := by decide +kernel
theorem d_Wd_split_52 : decode prog_9_method_2_code 52 = .ok (.istore 5, 2) := by decide +kernel
theorem d_Wd_split_54 : decode prog_9_method_2_code 54 = .ok (.iload 5, 2) := by decide +kernel
theorem d_Wd_split_56 : decode prog_9_method_2_code 56 = .ok (.ifCond .ne 28, 3) := by decide +kernel
theorem d_Wd_split_59 : decode prog_9_method_2_code 59 = .ok (.iload_n 3, 1) := by decide +kernel
theorem d_Wd_split_60 : decode prog_9_method_2_code 60 = .ok (.ifCond .ne 24, 3) := by decide +kernel
theorem d_Wd_split_63 : decode prog_9_method_2_code 63 = .ok (.aload_n 0, 1) := by decide +kernel
theorem d_Wd_split_64 : decode prog_9_method_2_code 64 = .ok (.getfield 15, 3) := by decide +kernel
theorem d_Wd_split_67 : decode prog_9_method_2_code 67 = .ok (.aload_n 0, 1) := by decide +kernel
theorem d_Wd_split_68 : decode prog_9_method_2_code 68 = .ok (.getfield 22, 3) := by decide +kernel
theorem d_Wd_split_71 : decode prog_9_method_2_code 71 = .ok (.iload 4, 2) := by decide +kernel
theorem d_Wd_split_73 : decode prog_9_method_2_code 73 = .ok (.iastore, 1) := by decide +kernel
theorem d_Wd_split_74 : decode prog_9_method_2_code 74 = .ok (.aload_n 0, 1) := by decide +kernel
theorem d_Wd_split_75 : decode prog_9_method_2_code 75 = .ok (.dup, 1) := by decide +kernel
theorem d_Wd_split_76 : decode prog_9_method_2_code 76 = .ok (.getfield 22, 3) := by decide +kernel
theorem d_Wd_split_79 : decode prog_9_method_2_code 79 = .ok (.iconst 1, 1) := by decide +kernel
theorem d_Wd_split_80 : decode prog_9_method_2_code 80 = .ok (.iadd, 1) := by decide +kernel
theorem d_Wd_split_81 : decode prog_9_method_2_code 81 = .ok (.putfield 22, 3) := by decide +kernel
theorem d_Wd_split_84 : decode prog_9_method_2_code 84 = .ok (.iload 5, 2) := by decide +kernel
theorem d_Wd_split_86 : decode prog_9_method_2_code 86 = .ok (.ifCond .ne 25, 3) := by decide +kernel
theorem d_Wd_split_89 : decode prog_9_method_2_code 89 = .ok (.aload_n 0, 1) := by decide +kernel
theorem d_Wd_split_90 : decode prog_9_method_2_code 90 = .ok (.getfield 22, 3) := by decide +kernel
theorem d_Wd_split_93 : decode prog_9_method_2_code 93 = .ok (.ifCond .le 18, 3) := by decide +kernel
theorem d_Wd_split_96 : decode prog_9_method_2_code 96 = .ok (.aload_n 0, 1) := by decide +kernel
theorem d_Wd_split_97 : decode prog_9_method_2_code 97 = .ok (.getfield 19, 3) := by decide +kernel
theorem d_Wd_split_100 : decode prog_9_method_2_code 100 = .ok (.aload_n 0, 1) := by decide +kernel
theorem d_Wd_split_101 : decode prog_9_method_2_code 101 = .ok (.getfield 22, 3) := by decide +kernel
theorem d_Wd_split_104 : decode prog_9_method_2_code 104 = .ok (.iconst 1, 1) := by decide +kernel
theorem d_Wd_split_105 : decode prog_9_method_2_code 105 = .ok (.isub, 1) := by decide +kernel
theorem d_Wd_split_106 : decode prog_9_method_2_code 106 = .ok (.iload 4, 2) := by decide +kernel
theorem d_Wd_split_108 : decode prog_9_method_2_code 108 = .ok (.iconst 1, 1) := by decide +kernel
theorem d_Wd_split_109 : decode prog_9_method_2_code 109 = .ok (.iadd, 1) := by decide +kernel
theorem d_Wd_split_110 : decode prog_9_method_2_code 110 = .ok (.iastore, 1) := by decide +kernel
theorem d_Wd_split_111 : decode prog_9_method_2_code 111 = .ok (.iload 5, 2) := by decide +kernel
theorem d_Wd_split_113 : decode prog_9_method_2_code 113 = .ok (.ifCond .ne 7, 3) := by decide +kernel
theorem d_Wd_split_116 : decode prog_9_method_2_code 116 = .ok (.iconst 1, 1) := by decide +kernel
theorem d_Wd_split_117 : decode prog_9_method_2_code 117 = .ok (.goto 4, 3) := by decide +kernel
theorem d_Wd_split_120 : decode prog_9_method_2_code 120 = .ok (.iconst 0, 1) := by decide +kernel
theorem d_Wd_split_121 : decode prog_9_method_2_code 121 = .ok (.istore_n 3, 1) := by decide +kernel
theorem d_Wd_split_122 : decode prog_9_method_2_code 122 = .ok (.iinc 4 1, 3) := by decide +kernel
theorem d_Wd_split_125 : decode prog_9_method_2_code 125 = .ok (.goto (-115), 3) := by decide +kernel
theorem d_Wd_split_128 : decode prog_9_method_2_code 128 = .ok (.return_, 1) := by decide +kernel
abbrev m_Wd_is : MethodName × ByteArray × Nat × Option FieldType := (⟨"TestText$Words", "is", "(ILjava/lang/String;)Z"⟩, prog_9_method_4_code, 4, (Option.some FieldType.boolean))
theorem d_Wd_is_0 : decode prog_9_method_4_code 0 = .ok (.aload_n 0, 1) := by decide +kernel
theorem d_Wd_is_1 : decode prog_9_method_4_code 1 = .ok (.iload_n 1, 1) := by decide +kernel
theorem d_Wd_is_2 : decode prog_9_method_4_code 2 = .ok (.invokevirtual 26, 3) := by decide +kernel
theorem d_Wd_is_5 : decode prog_9_method_4_code 5 = .ok (.ifCond .eq 23, 3) := by decide +kernel
theorem d_Wd_is_8 : decode prog_9_method_4_code 8 = .ok (.aload_n 0, 1) := by decide +kernel
theorem d_Wd_is_9 : decode prog_9_method_4_code 9 = .ok (.getfield 19, 3) := by decide +kernel
theorem d_Wd_is_12 : decode prog_9_method_4_code 12 = .ok (.iload_n 1, 1) := by decide +kernel
theorem d_Wd_is_13 : decode prog_9_method_4_code 13 = .ok (.iaload, 1) := by decide +kernel
theorem d_Wd_is_14 : decode prog_9_method_4_code 14 = .ok (.aload_n 0, 1) := by decide +kernel
theorem d_Wd_is_15 : decode prog_9_method_4_code 15 = .ok (.getfield 15, 3) := by decide +kernel
theorem d_Wd_is_18 : decode prog_9_method_4_code 18 = .ok (.iload_n 1, 1) := by decide +kernel
theorem d_Wd_is_19 : decode prog_9_method_4_code 19 = .ok (.iaload, 1) := by decide +kernel
theorem d_Wd_is_20 : decode prog_9_method_4_code 20 = .ok (.isub, 1) := by decide +kernel
theorem d_Wd_is_21 : decode prog_9_method_4_code 21 = .ok (.aload_n 2, 1) := by decide +kernel
theorem d_Wd_is_22 : decode prog_9_method_4_code 22 = .ok (.invokevirtual 30, 3) := by decide +kernel
theorem d_Wd_is_25 : decode prog_9_method_4_code 25 = .ok (.if_icmp .eq 5, 3) := by decide +kernel
theorem d_Wd_is_28 : decode prog_9_method_4_code 28 = .ok (.iconst 0, 1) := by decide +kernel
theorem d_Wd_is_29 : decode prog_9_method_4_code 29 = .ok (.ireturn, 1) := by decide +kernel
theorem d_Wd_is_30 : decode prog_9_method_4_code 30 = .ok (.iconst 0, 1) := by decide +kernel
theorem d_Wd_is_31 : decode prog_9_method_4_code 31 = .ok (.istore_n 3, 1) := by decide +kernel
theorem d_Wd_is_32 : decode prog_9_method_4_code 32 = .ok (.iload_n 3, 1) := by decide +kernel
theorem d_Wd_is_33 : decode prog_9_method_4_code 33 = .ok (.aload_n 2, 1) := by decide +kernel
theorem d_Wd_is_34 : decode prog_9_method_4_code 34 = .ok (.invokevirtual 30, 3) := by decide +kernel
theorem d_Wd_is_37 : decode prog_9_method_4_code 37 = .ok (.if_icmp .ge 32, 3) := by decide +kernel
theorem d_Wd_is_40 : decode prog_9_method_4_code 40 = .ok (.aload_n 0, 1) := by decide +kernel
theorem d_Wd_is_41 : decode prog_9_method_4_code 41 = .ok (.getfield 9, 3) := by decide +kernel
theorem d_Wd_is_44 : decode prog_9_method_4_code 44 = .ok (.aload_n 0, 1) := by decide +kernel
theorem d_Wd_is_45 : decode prog_9_method_4_code 45 = .ok (.getfield 15, 3) := by decide +kernel
theorem d_Wd_is_48 : decode prog_9_method_4_code 48 = .ok (.iload_n 1, 1) := by decide +kernel
theorem d_Wd_is_49 : decode prog_9_method_4_code 49 = .ok (.iaload, 1) := by decide +kernel
theorem d_Wd_is_50 : decode prog_9_method_4_code 50 = .ok (.iload_n 3, 1) := by decide +kernel
theorem d_Wd_is_51 : decode prog_9_method_4_code 51 = .ok (.iadd, 1) := by decide +kernel
theorem d_Wd_is_52 : decode prog_9_method_4_code 52 = .ok (.baload, 1) := by decide +kernel
theorem d_Wd_is_53 : decode prog_9_method_4_code 53 = .ok (.aload_n 2, 1) := by decide +kernel
theorem d_Wd_is_54 : decode prog_9_method_4_code 54 = .ok (.iload_n 3, 1) := by decide +kernel
theorem d_Wd_is_55 : decode prog_9_method_4_code 55 = .ok (.invokevirtual 36, 3) := by decide +kernel
theorem d_Wd_is_58 : decode prog_9_method_4_code 58 = .ok (.if_icmp .eq 5, 3) := by decide +kernel
theorem d_Wd_is_61 : decode prog_9_method_4_code 61 = .ok (.iconst 0, 1) := by decide +kernel
theorem d_Wd_is_62 : decode prog_9_method_4_code 62 = .ok (.ireturn, 1) := by decide +kernel
theorem d_Wd_is_63 : decode prog_9_method_4_code 63 = .ok (.iinc 3 1, 3) := by decide +kernel
theorem d_Wd_is_66 : decode prog_9_method_4_code 66 = .ok (.goto (-34), 3) := by decide +kernel
theorem d_Wd_is_69 : decode prog_9_method_4_code 69 = .ok (.iconst 1, 1) := by decide +kernel
theorem d_Wd_is_70 : decode prog_9_method_4_code 70 = .ok (.ireturn, 1) := by decide +kernel
abbrev m_Wd_has : MethodName × ByteArray × Nat × Option FieldType := (⟨"TestText$Words", "has", "(I)Z"⟩, prog_9_method_3_code, 2, (Option.some FieldType.boolean))
theorem d_Wd_has_0 : decode prog_9_method_3_code 0 = .ok (.iload_n 1, 1) := by decide +kernel
theorem d_Wd_has_1 : decode prog_9_method_3_code 1 = .ok (.ifCond .lt 21, 3) := by decide +kernel
theorem d_Wd_has_4 : decode prog_9_method_3_code 4 = .ok (.iload_n 1, 1) := by decide +kernel
theorem d_Wd_has_5 : decode prog_9_method_3_code 5 = .ok (.aload_n 0, 1) := by decide +kernel
theorem d_Wd_has_6 : decode prog_9_method_3_code 6 = .ok (.getfield 22, 3) := by decide +kernel
theorem d_Wd_has_9 : decode prog_9_method_3_code 9 = .ok (.if_icmp .ge 13, 3) := by decide +kernel
theorem d_Wd_has_12 : decode prog_9_method_3_code 12 = .ok (.iload_n 1, 1) := by decide +kernel
theorem d_Wd_has_13 : decode prog_9_method_3_code 13 = .ok (.bipush 12, 2) := by decide +kernel
theorem d_Wd_has_15 : decode prog_9_method_3_code 15 = .ok (.if_icmp .ge 7, 3) := by decide +kernel
theorem d_Wd_has_18 : decode prog_9_method_3_code 18 = .ok (.iconst 1, 1) := by decide +kernel
theorem d_Wd_has_19 : decode prog_9_method_3_code 19 = .ok (.goto 4, 3) := by decide +kernel
theorem d_Wd_has_22 : decode prog_9_method_3_code 22 = .ok (.iconst 0, 1) := by decide +kernel
theorem d_Wd_has_23 : decode prog_9_method_3_code 23 = .ok (.ireturn, 1) := by decide +kernel
abbrev m_Wd_nameAt : MethodName × ByteArray × Nat × Option FieldType := (⟨"TestText$Words", "nameAt", "(I)J"⟩, prog_9_method_5_code, 5, (Option.some FieldType.long))
theorem d_Wd_nameAt_0 : decode prog_9_method_5_code 0 = .ok (.aload_n 0, 1) := by decide +kernel
theorem d_Wd_nameAt_1 : decode prog_9_method_5_code 1 = .ok (.iload_n 1, 1) := by decide +kernel
theorem d_Wd_nameAt_2 : decode prog_9_method_5_code 2 = .ok (.invokevirtual 26, 3) := by decide +kernel
theorem d_Wd_nameAt_5 : decode prog_9_method_5_code 5 = .ok (.ifCond .eq 21, 3) := by decide +kernel
theorem d_Wd_nameAt_8 : decode prog_9_method_5_code 8 = .ok (.aload_n 0, 1) := by decide +kernel
theorem d_Wd_nameAt_9 : decode prog_9_method_5_code 9 = .ok (.getfield 19, 3) := by decide +kernel
theorem d_Wd_nameAt_12 : decode prog_9_method_5_code 12 = .ok (.iload_n 1, 1) := by decide +kernel
theorem d_Wd_nameAt_13 : decode prog_9_method_5_code 13 = .ok (.iaload, 1) := by decide +kernel
theorem d_Wd_nameAt_14 : decode prog_9_method_5_code 14 = .ok (.aload_n 0, 1) := by decide +kernel
theorem d_Wd_nameAt_15 : decode prog_9_method_5_code 15 = .ok (.getfield 15, 3) := by decide +kernel
theorem d_Wd_nameAt_18 : decode prog_9_method_5_code 18 = .ok (.iload_n 1, 1) := by decide +kernel
theorem d_Wd_nameAt_19 : decode prog_9_method_5_code 19 = .ok (.iaload, 1) := by decide +kernel
theorem d_Wd_nameAt_20 : decode prog_9_method_5_code 20 = .ok (.isub, 1) := by decide +kernel
theorem d_Wd_nameAt_21 : decode prog_9_method_5_code 21 = .ok (.bipush 8, 2) := by decide +kernel
theorem d_Wd_nameAt_23 : decode prog_9_method_5_code 23 = .ok (.if_icmp .le 5, 3) := by decide +kernel
theorem d_Wd_nameAt_26 : decode prog_9_method_5_code 26 = .ok (.lconst 0, 1) := by decide +kernel
theorem d_Wd_nameAt_27 : decode prog_9_method_5_code 27 = .ok (.lreturn, 1) := by decide +kernel
theorem d_Wd_nameAt_28 : decode prog_9_method_5_code 28 = .ok (.lconst 0, 1) := by decide +kernel
theorem d_Wd_nameAt_29 : decode prog_9_method_5_code 29 = .ok (.lstore_n 2, 1) := by decide +kernel
theorem d_Wd_nameAt_30 : decode prog_9_method_5_code 30 = .ok (.aload_n 0, 1) := by decide +kernel
theorem d_Wd_nameAt_31 : decode prog_9_method_5_code 31 = .ok (.getfield 15, 3) := by decide +kernel
theorem d_Wd_nameAt_34 : decode prog_9_method_5_code 34 = .ok (.iload_n 1, 1) := by decide +kernel
theorem d_Wd_nameAt_35 : decode prog_9_method_5_code 35 = .ok (.iaload, 1) := by decide +kernel
theorem d_Wd_nameAt_36 : decode prog_9_method_5_code 36 = .ok (.istore 4, 2) := by decide +kernel
theorem d_Wd_nameAt_38 : decode prog_9_method_5_code 38 = .ok (.iload 4, 2) := by decide +kernel
theorem d_Wd_nameAt_40 : decode prog_9_method_5_code 40 = .ok (.aload_n 0, 1) := by decide +kernel
theorem d_Wd_nameAt_41 : decode prog_9_method_5_code 41 = .ok (.getfield 19, 3) := by decide +kernel
theorem d_Wd_nameAt_44 : decode prog_9_method_5_code 44 = .ok (.iload_n 1, 1) := by decide +kernel
theorem d_Wd_nameAt_45 : decode prog_9_method_5_code 45 = .ok (.iaload, 1) := by decide +kernel
theorem d_Wd_nameAt_46 : decode prog_9_method_5_code 46 = .ok (.if_icmp .ge 55, 3) := by decide +kernel
theorem d_Wd_nameAt_49 : decode prog_9_method_5_code 49 = .ok (.aload_n 0, 1) := by decide +kernel
theorem d_Wd_nameAt_50 : decode prog_9_method_5_code 50 = .ok (.getfield 9, 3) := by decide +kernel
theorem d_Wd_nameAt_53 : decode prog_9_method_5_code 53 = .ok (.iload 4, 2) := by decide +kernel
theorem d_Wd_nameAt_55 : decode prog_9_method_5_code 55 = .ok (.baload, 1) := by decide +kernel
theorem d_Wd_nameAt_56 : decode prog_9_method_5_code 56 = .ok (.bipush 97, 2) := by decide +kernel
theorem d_Wd_nameAt_58 : decode prog_9_method_5_code 58 = .ok (.if_icmp .lt 15, 3) := by decide +kernel
theorem d_Wd_nameAt_61 : decode prog_9_method_5_code 61 = .ok (.aload_n 0, 1) := by decide +kernel
theorem d_Wd_nameAt_62 : decode prog_9_method_5_code 62 = .ok (.getfield 9, 3) := by decide +kernel
theorem d_Wd_nameAt_65 : decode prog_9_method_5_code 65 = .ok (.iload 4, 2) := by decide +kernel
theorem d_Wd_nameAt_67 : decode prog_9_method_5_code 67 = .ok (.baload, 1) := by decide +kernel
theorem d_Wd_nameAt_68 : decode prog_9_method_5_code 68 = .ok (.bipush 122, 2) := by decide +kernel
theorem d_Wd_nameAt_70 : decode prog_9_method_5_code 70 = .ok (.if_icmp .le 5, 3) := by decide +kernel
theorem d_Wd_nameAt_73 : decode prog_9_method_5_code 73 = .ok (.lconst 0, 1) := by decide +kernel
theorem d_Wd_nameAt_74 : decode prog_9_method_5_code 74 = .ok (.lreturn, 1) := by decide +kernel
theorem d_Wd_nameAt_75 : decode prog_9_method_5_code 75 = .ok (.lload_n 2, 1) := by decide +kernel
theorem d_Wd_nameAt_76 : decode prog_9_method_5_code 76 = .ok (.ldc2_w 40, 3) := by decide +kernel
theorem d_Wd_nameAt_79 : decode prog_9_method_5_code 79 = .ok (.lmul, 1) := by decide +kernel
theorem d_Wd_nameAt_80 : decode prog_9_method_5_code 80 = .ok (.aload_n 0, 1) := by decide +kernel
theorem d_Wd_nameAt_81 : decode prog_9_method_5_code 81 = .ok (.getfield 9, 3) := by decide +kernel
theorem d_Wd_nameAt_84 : decode prog_9_method_5_code 84 = .ok (.iload 4, 2) := by decide +kernel
theorem d_Wd_nameAt_86 : decode prog_9_method_5_code 86 = .ok (.baload, 1) := by decide +kernel
theorem d_Wd_nameAt_87 : decode prog_9_method_5_code 87 = .ok (.bipush 97, 2) := by decide +kernel
theorem d_Wd_nameAt_89 : decode prog_9_method_5_code 89 = .ok (.isub, 1) := by decide +kernel
theorem d_Wd_nameAt_90 : decode prog_9_method_5_code 90 = .ok (.iconst 1, 1) := by decide +kernel
theorem d_Wd_nameAt_91 : decode prog_9_method_5_code 91 = .ok (.iadd, 1) := by decide +kernel
theorem d_Wd_nameAt_92 : decode prog_9_method_5_code 92 = .ok (.i2l, 1) := by decide +kernel
theorem d_Wd_nameAt_93 : decode prog_9_method_5_code 93 = .ok (.ladd, 1) := by decide +kernel
theorem d_Wd_nameAt_94 : decode prog_9_method_5_code 94 = .ok (.lstore_n 2, 1) := by decide +kernel
theorem d_Wd_nameAt_95 : decode prog_9_method_5_code 95 = .ok (.iinc 4 1, 3) := by decide +kernel
theorem d_Wd_nameAt_98 : decode prog_9_method_5_code 98 = .ok (.goto (-60), 3) := by decide +kernel
theorem d_Wd_nameAt_101 : decode prog_9_method_5_code 101 = .ok (.lload_n 2, 1) := by decide +kernel
theorem d_Wd_nameAt_102 : decode prog_9_method_5_code 102 = .ok (.lreturn, 1) := by decide +kernel
abbrev m_Wd_numberAt : MethodName × ByteArray × Nat × Option FieldType := (⟨"TestText$Words", "numberAt", "(I)I"⟩, prog_9_method_6_code, 7, (Option.some FieldType.int))
theorem d_Wd_numberAt_0 : decode prog_9_method_6_code 0 = .ok (.aload_n 0, 1) := by decide +kernel
theorem d_Wd_numberAt_1 : decode prog_9_method_6_code 1 = .ok (.iload_n 1, 1) := by decide +kernel
theorem d_Wd_numberAt_2 : decode prog_9_method_6_code 2 = .ok (.invokevirtual 26, 3) := by decide +kernel
theorem d_Wd_numberAt_5 : decode prog_9_method_6_code 5 = .ok (.ifCond .ne 6, 3) := by decide +kernel
theorem d_Wd_numberAt_8 : decode prog_9_method_6_code 8 = .ok (.ldc 42, 2) := by decide +kernel
theorem d_Wd_numberAt_10 : decode prog_9_method_6_code 10 = .ok (.ireturn, 1) := by decide +kernel
theorem d_Wd_numberAt_11 : decode prog_9_method_6_code 11 = .ok (.aload_n 0, 1) := by decide +kernel
theorem d_Wd_numberAt_12 : decode prog_9_method_6_code 12 = .ok (.getfield 9, 3) := by decide +kernel
theorem d_Wd_numberAt_15 : decode prog_9_method_6_code 15 = .ok (.aload_n 0, 1) := by decide +kernel
theorem d_Wd_numberAt_16 : decode prog_9_method_6_code 16 = .ok (.getfield 15, 3) := by decide +kernel
theorem d_Wd_numberAt_19 : decode prog_9_method_6_code 19 = .ok (.iload_n 1, 1) := by decide +kernel
theorem d_Wd_numberAt_20 : decode prog_9_method_6_code 20 = .ok (.iaload, 1) := by decide +kernel
theorem d_Wd_numberAt_21 : decode prog_9_method_6_code 21 = .ok (.baload, 1) := by decide +kernel
theorem d_Wd_numberAt_22 : decode prog_9_method_6_code 22 = .ok (.bipush 45, 2) := by decide +kernel
theorem d_Wd_numberAt_24 : decode prog_9_method_6_code 24 = .ok (.if_icmp .ne 7, 3) := by decide +kernel
theorem d_Wd_numberAt_27 : decode prog_9_method_6_code 27 = .ok (.iconst 1, 1) := by decide +kernel
theorem d_Wd_numberAt_28 : decode prog_9_method_6_code 28 = .ok (.goto 4, 3) := by decide +kernel
theorem d_Wd_numberAt_31 : decode prog_9_method_6_code 31 = .ok (.iconst 0, 1) := by decide +kernel
theorem d_Wd_numberAt_32 : decode prog_9_method_6_code 32 = .ok (.istore_n 2, 1) := by decide +kernel
theorem d_Wd_numberAt_33 : decode prog_9_method_6_code 33 = .ok (.iload_n 2, 1) := by decide +kernel
theorem d_Wd_numberAt_34 : decode prog_9_method_6_code 34 = .ok (.ifCond .eq 14, 3) := by decide +kernel
theorem d_Wd_numberAt_37 : decode prog_9_method_6_code 37 = .ok (.aload_n 0, 1) := by decide +kernel
theorem d_Wd_numberAt_38 : decode prog_9_method_6_code 38 = .ok (.getfield 15, 3) := by decide +kernel
theorem d_Wd_numberAt_41 : decode prog_9_method_6_code 41 = .ok (.iload_n 1, 1) := by decide +kernel
theorem d_Wd_numberAt_42 : decode prog_9_method_6_code 42 = .ok (.iaload, 1) := by decide +kernel
theorem d_Wd_numberAt_43 : decode prog_9_method_6_code 43 = .ok (.iconst 1, 1) := by decide +kernel
theorem d_Wd_numberAt_44 : decode prog_9_method_6_code 44 = .ok (.iadd, 1) := by decide +kernel
theorem d_Wd_numberAt_45 : decode prog_9_method_6_code 45 = .ok (.goto 9, 3) := by decide +kernel
theorem d_Wd_numberAt_48 : decode prog_9_method_6_code 48 = .ok (.aload_n 0, 1) := by decide +kernel
theorem d_Wd_numberAt_49 : decode prog_9_method_6_code 49 = .ok (.getfield 15, 3) := by decide +kernel
theorem d_Wd_numberAt_52 : decode prog_9_method_6_code 52 = .ok (.iload_n 1, 1) := by decide +kernel
theorem d_Wd_numberAt_53 : decode prog_9_method_6_code 53 = .ok (.iaload, 1) := by decide +kernel
theorem d_Wd_numberAt_54 : decode prog_9_method_6_code 54 = .ok (.istore_n 3, 1) := by decide +kernel
theorem d_Wd_numberAt_55 : decode prog_9_method_6_code 55 = .ok (.aload_n 0, 1) := by decide +kernel
theorem d_Wd_numberAt_56 : decode prog_9_method_6_code 56 = .ok (.getfield 19, 3) := by decide +kernel
theorem d_Wd_numberAt_59 : decode prog_9_method_6_code 59 = .ok (.iload_n 1, 1) := by decide +kernel
theorem d_Wd_numberAt_60 : decode prog_9_method_6_code 60 = .ok (.iaload, 1) := by decide +kernel
theorem d_Wd_numberAt_61 : decode prog_9_method_6_code 61 = .ok (.iload_n 3, 1) := by decide +kernel
theorem d_Wd_numberAt_62 : decode prog_9_method_6_code 62 = .ok (.isub, 1) := by decide +kernel
theorem d_Wd_numberAt_63 : decode prog_9_method_6_code 63 = .ok (.istore 4, 2) := by decide +kernel
theorem d_Wd_numberAt_65 : decode prog_9_method_6_code 65 = .ok (.iload 4, 2) := by decide +kernel
theorem d_Wd_numberAt_67 : decode prog_9_method_6_code 67 = .ok (.iconst 1, 1) := by decide +kernel
theorem d_Wd_numberAt_68 : decode prog_9_method_6_code 68 = .ok (.if_icmp .lt 10, 3) := by decide +kernel
theorem d_Wd_numberAt_71 : decode prog_9_method_6_code 71 = .ok (.iload 4, 2) := by decide +kernel
theorem d_Wd_numberAt_73 : decode prog_9_method_6_code 73 = .ok (.bipush 6, 2) := by decide +kernel
theorem d_Wd_numberAt_75 : decode prog_9_method_6_code 75 = .ok (.if_icmp .le 6, 3) := by decide +kernel
theorem d_Wd_numberAt_78 : decode prog_9_method_6_code 78 = .ok (.ldc 42, 2) := by decide +kernel
theorem d_Wd_numberAt_80 : decode prog_9_method_6_code 80 = .ok (.ireturn, 1) := by decide +kernel
theorem d_Wd_numberAt_81 : decode prog_9_method_6_code 81 = .ok (.iconst 0, 1) := by decide +kernel
theorem d_Wd_numberAt_82 : decode prog_9_method_6_code 82 = .ok (.istore 5, 2) := by decide +kernel
theorem d_Wd_numberAt_84 : decode prog_9_method_6_code 84 = .ok (.iload_n 3, 1) := by decide +kernel
theorem d_Wd_numberAt_85 : decode prog_9_method_6_code 85 = .ok (.istore 6, 2) := by decide +kernel
theorem d_Wd_numberAt_87 : decode prog_9_method_6_code 87 = .ok (.iload 6, 2) := by decide +kernel
theorem d_Wd_numberAt_89 : decode prog_9_method_6_code 89 = .ok (.aload_n 0, 1) := by decide +kernel
theorem d_Wd_numberAt_90 : decode prog_9_method_6_code 90 = .ok (.getfield 19, 3) := by decide +kernel
theorem d_Wd_numberAt_93 : decode prog_9_method_6_code 93 = .ok (.iload_n 1, 1) := by decide +kernel
theorem d_Wd_numberAt_94 : decode prog_9_method_6_code 94 = .ok (.iaload, 1) := by decide +kernel
theorem d_Wd_numberAt_95 : decode prog_9_method_6_code 95 = .ok (.if_icmp .ge 54, 3) := by decide +kernel
theorem d_Wd_numberAt_98 : decode prog_9_method_6_code 98 = .ok (.aload_n 0, 1) := by decide +kernel
theorem d_Wd_numberAt_99 : decode prog_9_method_6_code 99 = .ok (.getfield 9, 3) := by decide +kernel
theorem d_Wd_numberAt_102 : decode prog_9_method_6_code 102 = .ok (.iload 6, 2) := by decide +kernel
theorem d_Wd_numberAt_104 : decode prog_9_method_6_code 104 = .ok (.baload, 1) := by decide +kernel
theorem d_Wd_numberAt_105 : decode prog_9_method_6_code 105 = .ok (.bipush 48, 2) := by decide +kernel
theorem d_Wd_numberAt_107 : decode prog_9_method_6_code 107 = .ok (.if_icmp .lt 15, 3) := by decide +kernel
theorem d_Wd_numberAt_110 : decode prog_9_method_6_code 110 = .ok (.aload_n 0, 1) := by decide +kernel
theorem d_Wd_numberAt_111 : decode prog_9_method_6_code 111 = .ok (.getfield 9, 3) := by decide +kernel
theorem d_Wd_numberAt_114 : decode prog_9_method_6_code 114 = .ok (.iload 6, 2) := by decide +kernel
theorem d_Wd_numberAt_116 : decode prog_9_method_6_code 116 = .ok (.baload, 1) := by decide +kernel
theorem d_Wd_numberAt_117 : decode prog_9_method_6_code 117 = .ok (.bipush 57, 2) := by decide +kernel
theorem d_Wd_numberAt_119 : decode prog_9_method_6_code 119 = .ok (.if_icmp .le 6, 3) := by decide +kernel
theorem d_Wd_numberAt_122 : decode prog_9_method_6_code 122 = .ok (.ldc 42, 2) := by decide +kernel
theorem d_Wd_numberAt_124 : decode prog_9_method_6_code 124 = .ok (.ireturn, 1) := by decide +kernel
theorem d_Wd_numberAt_125 : decode prog_9_method_6_code 125 = .ok (.iload 5, 2) := by decide +kernel
theorem d_Wd_numberAt_127 : decode prog_9_method_6_code 127 = .ok (.bipush 10, 2) := by decide +kernel
theorem d_Wd_numberAt_129 : decode prog_9_method_6_code 129 = .ok (.imul, 1) := by decide +kernel
theorem d_Wd_numberAt_130 : decode prog_9_method_6_code 130 = .ok (.aload_n 0, 1) := by decide +kernel
theorem d_Wd_numberAt_131 : decode prog_9_method_6_code 131 = .ok (.getfield 9, 3) := by decide +kernel
theorem d_Wd_numberAt_134 : decode prog_9_method_6_code 134 = .ok (.iload 6, 2) := by decide +kernel
theorem d_Wd_numberAt_136 : decode prog_9_method_6_code 136 = .ok (.baload, 1) := by decide +kernel
theorem d_Wd_numberAt_137 : decode prog_9_method_6_code 137 = .ok (.bipush 48, 2) := by decide +kernel
theorem d_Wd_numberAt_139 : decode prog_9_method_6_code 139 = .ok (.isub, 1) := by decide +kernel
theorem d_Wd_numberAt_140 : decode prog_9_method_6_code 140 = .ok (.iadd, 1) := by decide +kernel
theorem d_Wd_numberAt_141 : decode prog_9_method_6_code 141 = .ok (.istore 5, 2) := by decide +kernel
theorem d_Wd_numberAt_143 : decode prog_9_method_6_code 143 = .ok (.iinc 6 1, 3) := by decide +kernel
theorem d_Wd_numberAt_146 : decode prog_9_method_6_code 146 = .ok (.goto (-59), 3) := by decide +kernel
theorem d_Wd_numberAt_149 : decode prog_9_method_6_code 149 = .ok (.iload_n 2, 1) := by decide +kernel
theorem d_Wd_numberAt_150 : decode prog_9_method_6_code 150 = .ok (.ifCond .eq 9, 3) := by decide +kernel
theorem d_Wd_numberAt_153 : decode prog_9_method_6_code 153 = .ok (.iload 5, 2) := by decide +kernel
theorem d_Wd_numberAt_155 : decode prog_9_method_6_code 155 = .ok (.ineg, 1) := by decide +kernel
theorem d_Wd_numberAt_156 : decode prog_9_method_6_code 156 = .ok (.goto 5, 3) := by decide +kernel
theorem d_Wd_numberAt_159 : decode prog_9_method_6_code 159 = .ok (.iload 5, 2) := by decide +kernel
theorem d_Wd_numberAt_161 : decode prog_9_method_6_code 161 = .ok (.ireturn, 1) := by decide +kernel
abbrev m_Wd_opAt : MethodName × ByteArray × Nat × Option FieldType := (⟨"TestText$Words", "opAt", "(I)I"⟩, prog_9_method_7_code, 3, (Option.some FieldType.int))
theorem d_Wd_opAt_0 : decode prog_9_method_7_code 0 = .ok (.aload_n 0, 1) := by decide +kernel
theorem d_Wd_opAt_1 : decode prog_9_method_7_code 1 = .ok (.iload_n 1, 1) := by decide +kernel
theorem d_Wd_opAt_2 : decode prog_9_method_7_code 2 = .ok (.ldc 43, 2) := by decide +kernel
theorem d_Wd_opAt_4 : decode prog_9_method_7_code 4 = .ok (.invokevirtual 45, 3) := by decide +kernel
theorem d_Wd_opAt_7 : decode prog_9_method_7_code 7 = .ok (.ifCond .ne 33, 3) := by decide +kernel
theorem d_Wd_opAt_10 : decode prog_9_method_7_code 10 = .ok (.aload_n 0, 1) := by decide +kernel
theorem d_Wd_opAt_11 : decode prog_9_method_7_code 11 = .ok (.iload_n 1, 1) := by decide +kernel
theorem d_Wd_opAt_12 : decode prog_9_method_7_code 12 = .ok (.ldc 49, 2) := by decide +kernel
theorem d_Wd_opAt_14 : decode prog_9_method_7_code 14 = .ok (.invokevirtual 45, 3) := by decide +kernel
theorem d_Wd_opAt_17 : decode prog_9_method_7_code 17 = .ok (.ifCond .ne 23, 3) := by decide +kernel
theorem d_Wd_opAt_20 : decode prog_9_method_7_code 20 = .ok (.aload_n 0, 1) := by decide +kernel
theorem d_Wd_opAt_21 : decode prog_9_method_7_code 21 = .ok (.iload_n 1, 1) := by decide +kernel
theorem d_Wd_opAt_22 : decode prog_9_method_7_code 22 = .ok (.ldc 51, 2) := by decide +kernel
theorem d_Wd_opAt_24 : decode prog_9_method_7_code 24 = .ok (.invokevirtual 45, 3) := by decide +kernel
theorem d_Wd_opAt_27 : decode prog_9_method_7_code 27 = .ok (.ifCond .ne 13, 3) := by decide +kernel
theorem d_Wd_opAt_30 : decode prog_9_method_7_code 30 = .ok (.aload_n 0, 1) := by decide +kernel
theorem d_Wd_opAt_31 : decode prog_9_method_7_code 31 = .ok (.iload_n 1, 1) := by decide +kernel
theorem d_Wd_opAt_32 : decode prog_9_method_7_code 32 = .ok (.ldc 53, 2) := by decide +kernel
theorem d_Wd_opAt_34 : decode prog_9_method_7_code 34 = .ok (.invokevirtual 45, 3) := by decide +kernel
theorem d_Wd_opAt_37 : decode prog_9_method_7_code 37 = .ok (.ifCond .eq 7, 3) := by decide +kernel
theorem d_Wd_opAt_40 : decode prog_9_method_7_code 40 = .ok (.iconst 1, 1) := by decide +kernel
theorem d_Wd_opAt_41 : decode prog_9_method_7_code 41 = .ok (.goto 4, 3) := by decide +kernel
theorem d_Wd_opAt_44 : decode prog_9_method_7_code 44 = .ok (.iconst 0, 1) := by decide +kernel
theorem d_Wd_opAt_45 : decode prog_9_method_7_code 45 = .ok (.istore_n 2, 1) := by decide +kernel
theorem d_Wd_opAt_46 : decode prog_9_method_7_code 46 = .ok (.iload_n 2, 1) := by decide +kernel
theorem d_Wd_opAt_47 : decode prog_9_method_7_code 47 = .ok (.ifCond .eq 17, 3) := by decide +kernel
theorem d_Wd_opAt_50 : decode prog_9_method_7_code 50 = .ok (.aload_n 0, 1) := by decide +kernel
theorem d_Wd_opAt_51 : decode prog_9_method_7_code 51 = .ok (.getfield 9, 3) := by decide +kernel
theorem d_Wd_opAt_54 : decode prog_9_method_7_code 54 = .ok (.aload_n 0, 1) := by decide +kernel
theorem d_Wd_opAt_55 : decode prog_9_method_7_code 55 = .ok (.getfield 15, 3) := by decide +kernel
theorem d_Wd_opAt_58 : decode prog_9_method_7_code 58 = .ok (.iload_n 1, 1) := by decide +kernel
theorem d_Wd_opAt_59 : decode prog_9_method_7_code 59 = .ok (.iaload, 1) := by decide +kernel
theorem d_Wd_opAt_60 : decode prog_9_method_7_code 60 = .ok (.baload, 1) := by decide +kernel
theorem d_Wd_opAt_61 : decode prog_9_method_7_code 61 = .ok (.goto 4, 3) := by decide +kernel
theorem d_Wd_opAt_64 : decode prog_9_method_7_code 64 = .ok (.iconst 0, 1) := by decide +kernel
theorem d_Wd_opAt_65 : decode prog_9_method_7_code 65 = .ok (.ireturn, 1) := by decide +kernel
