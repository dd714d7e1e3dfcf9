abbrev m_Run_init : MethodName × ByteArray × Nat × Option FieldType := (⟨"TestText$Runner", "<init>", "(LTestText$Plan;LTestText$Answers;LTestText$Trace;JI)V"⟩, prog_5_method_1_code, 7, (Option.none : Option FieldType))
theorem d_Run_init_0 : decode prog_5_method_1_code 0 = .ok (.aload_n 0, 1) := by decide +kernel
theorem d_Run_init_1 : decode prog_5_method_1_code 1 = .ok (.invokespecial 3, 3) := by decide +kernel
theorem d_Run_init_4 : decode prog_5_method_1_code 4 = .ok (.aload_n 0, 1) := by decide +kernel
theorem d_Run_init_5 : decode prog_5_method_1_code 5 = .ok (.aload_n 1, 1) := by decide +kernel
theorem d_Run_init_6 : decode prog_5_method_1_code 6 = .ok (.putfield 9, 3) := by decide +kernel
theorem d_Run_init_9 : decode prog_5_method_1_code 9 = .ok (.aload_n 0, 1) := by decide +kernel
theorem d_Run_init_10 : decode prog_5_method_1_code 10 = .ok (.aload_n 2, 1) := by decide +kernel
theorem d_Run_init_11 : decode prog_5_method_1_code 11 = .ok (.putfield 15, 3) := by decide +kernel
theorem d_Run_init_14 : decode prog_5_method_1_code 14 = .ok (.aload_n 0, 1) := by decide +kernel
theorem d_Run_init_15 : decode prog_5_method_1_code 15 = .ok (.aload_n 3, 1) := by decide +kernel
theorem d_Run_init_16 : decode prog_5_method_1_code 16 = .ok (.putfield 19, 3) := by decide +kernel
theorem d_Run_init_19 : decode prog_5_method_1_code 19 = .ok (.aload_n 0, 1) := by decide +kernel
theorem d_Run_init_20 : decode prog_5_method_1_code 20 = .ok (.lload 4, 2) := by decide +kernel
theorem d_Run_init_22 : decode prog_5_method_1_code 22 = .ok (.putfield 23, 3) := by decide +kernel
theorem d_Run_init_25 : decode prog_5_method_1_code 25 = .ok (.aload_n 0, 1) := by decide +kernel
theorem d_Run_init_26 : decode prog_5_method_1_code 26 = .ok (.iload 6, 2) := by decide +kernel
theorem d_Run_init_28 : decode prog_5_method_1_code 28 = .ok (.putfield 27, 3) := by decide +kernel
theorem d_Run_init_31 : decode prog_5_method_1_code 31 = .ok (.aload_n 0, 1) := by decide +kernel
theorem d_Run_init_32 : decode prog_5_method_1_code 32 = .ok (.bipush 21, 2) := by decide +kernel
theorem d_Run_init_34 : decode prog_5_method_1_code 34 = .ok (.newarray .int, 2) := by decide +kernel
theorem d_Run_init_36 : decode prog_5_method_1_code 36 = .ok (.putfield 31, 3) := by decide +kernel
theorem d_Run_init_39 : decode prog_5_method_1_code 39 = .ok (.aload_n 0, 1) := by decide +kernel
theorem d_Run_init_40 : decode prog_5_method_1_code 40 = .ok (.bipush 21, 2) := by decide +kernel
theorem d_Run_init_42 : decode prog_5_method_1_code 42 = .ok (.newarray .int, 2) := by decide +kernel
theorem d_Run_init_44 : decode prog_5_method_1_code 44 = .ok (.putfield 35, 3) := by decide +kernel
theorem d_Run_init_47 : decode prog_5_method_1_code 47 = .ok (.return_, 1) := by decide +kernel
abbrev m_Run_doTest : MethodName × ByteArray × Nat × Option FieldType := (⟨"TestText$Runner", "doTest", "(LTestText$Test;)V"⟩, prog_5_method_2_code, 2, (Option.none : Option FieldType))
theorem d_Run_doTest_0 : decode prog_5_method_2_code 0 = .ok (.aload_n 1, 1) := by decide +kernel
theorem d_Run_doTest_1 : decode prog_5_method_2_code 1 = .ok (.invokevirtual 38, 3) := by decide +kernel
theorem d_Run_doTest_4 : decode prog_5_method_2_code 4 = .ok (.aload_n 0, 1) := by decide +kernel
theorem d_Run_doTest_5 : decode prog_5_method_2_code 5 = .ok (.iconst 0, 1) := by decide +kernel
theorem d_Run_doTest_6 : decode prog_5_method_2_code 6 = .ok (.putfield 43, 3) := by decide +kernel
theorem d_Run_doTest_9 : decode prog_5_method_2_code 9 = .ok (.aload_n 0, 1) := by decide +kernel
theorem d_Run_doTest_10 : decode prog_5_method_2_code 10 = .ok (.aload_n 0, 1) := by decide +kernel
theorem d_Run_doTest_11 : decode prog_5_method_2_code 11 = .ok (.getfield 27, 3) := by decide +kernel
theorem d_Run_doTest_14 : decode prog_5_method_2_code 14 = .ok (.putfield 46, 3) := by decide +kernel
theorem d_Run_doTest_17 : decode prog_5_method_2_code 17 = .ok (.aload_n 0, 1) := by decide +kernel
theorem d_Run_doTest_18 : decode prog_5_method_2_code 18 = .ok (.getfield 31, 3) := by decide +kernel
theorem d_Run_doTest_21 : decode prog_5_method_2_code 21 = .ok (.iconst (-1), 1) := by decide +kernel
theorem d_Run_doTest_22 : decode prog_5_method_2_code 22 = .ok (.invokestatic 49, 3) := by decide +kernel
theorem d_Run_doTest_25 : decode prog_5_method_2_code 25 = .ok (.aload_n 0, 1) := by decide +kernel
theorem d_Run_doTest_26 : decode prog_5_method_2_code 26 = .ok (.iconst 0, 1) := by decide +kernel
theorem d_Run_doTest_27 : decode prog_5_method_2_code 27 = .ok (.putfield 55, 3) := by decide +kernel
theorem d_Run_doTest_30 : decode prog_5_method_2_code 30 = .ok (.aload_n 0, 1) := by decide +kernel
theorem d_Run_doTest_31 : decode prog_5_method_2_code 31 = .ok (.aload_n 1, 1) := by decide +kernel
theorem d_Run_doTest_32 : decode prog_5_method_2_code 32 = .ok (.aload_n 1, 1) := by decide +kernel
theorem d_Run_doTest_33 : decode prog_5_method_2_code 33 = .ok (.getfield 59, 3) := by decide +kernel
theorem d_Run_doTest_36 : decode prog_5_method_2_code 36 = .ok (.aload_n 1, 1) := by decide +kernel
theorem d_Run_doTest_37 : decode prog_5_method_2_code 37 = .ok (.getfield 62, 3) := by decide +kernel
theorem d_Run_doTest_40 : decode prog_5_method_2_code 40 = .ok (.iconst 0, 1) := by decide +kernel
theorem d_Run_doTest_41 : decode prog_5_method_2_code 41 = .ok (.invokevirtual 65, 3) := by decide +kernel
theorem d_Run_doTest_44 : decode prog_5_method_2_code 44 = .ok (.pop, 1) := by decide +kernel
theorem d_Run_doTest_45 : decode prog_5_method_2_code 45 = .ok (.aload_n 1, 1) := by decide +kernel
theorem d_Run_doTest_46 : decode prog_5_method_2_code 46 = .ok (.getfield 69, 3) := by decide +kernel
theorem d_Run_doTest_49 : decode prog_5_method_2_code 49 = .ok (.iconst (-1), 1) := by decide +kernel
theorem d_Run_doTest_50 : decode prog_5_method_2_code 50 = .ok (.if_icmp .eq 70, 3) := by decide +kernel
theorem d_Run_doTest_53 : decode prog_5_method_2_code 53 = .ok (.aload_n 1, 1) := by decide +kernel
theorem d_Run_doTest_54 : decode prog_5_method_2_code 54 = .ok (.getfield 69, 3) := by decide +kernel
theorem d_Run_doTest_57 : decode prog_5_method_2_code 57 = .ok (.aload_n 0, 1) := by decide +kernel
theorem d_Run_doTest_58 : decode prog_5_method_2_code 58 = .ok (.getfield 9, 3) := by decide +kernel
theorem d_Run_doTest_61 : decode prog_5_method_2_code 61 = .ok (.getfield 72, 3) := by decide +kernel
theorem d_Run_doTest_64 : decode prog_5_method_2_code 64 = .ok (.invokevirtual 78, 3) := by decide +kernel
theorem d_Run_doTest_67 : decode prog_5_method_2_code 67 = .ok (.if_icmp .ge 53, 3) := by decide +kernel
theorem d_Run_doTest_70 : decode prog_5_method_2_code 70 = .ok (.aload_n 0, 1) := by decide +kernel
theorem d_Run_doTest_71 : decode prog_5_method_2_code 71 = .ok (.getfield 55, 3) := by decide +kernel
theorem d_Run_doTest_74 : decode prog_5_method_2_code 74 = .ok (.ifCond .ne 46, 3) := by decide +kernel
theorem d_Run_doTest_77 : decode prog_5_method_2_code 77 = .ok (.aload_n 1, 1) := by decide +kernel
theorem d_Run_doTest_78 : decode prog_5_method_2_code 78 = .ok (.dup, 1) := by decide +kernel
theorem d_Run_doTest_79 : decode prog_5_method_2_code 79 = .ok (.getfield 84, 3) := by decide +kernel
theorem d_Run_doTest_82 : decode prog_5_method_2_code 82 = .ok (.iconst 1, 1) := by decide +kernel
theorem d_Run_doTest_83 : decode prog_5_method_2_code 83 = .ok (.iadd, 1) := by decide +kernel
theorem d_Run_doTest_84 : decode prog_5_method_2_code 84 = .ok (.putfield 84, 3) := by decide +kernel
theorem d_Run_doTest_87 : decode prog_5_method_2_code 87 = .ok (.aload_n 0, 1) := by decide +kernel
theorem d_Run_doTest_88 : decode prog_5_method_2_code 88 = .ok (.aload_n 1, 1) := by decide +kernel
theorem d_Run_doTest_89 : decode prog_5_method_2_code 89 = .ok (.aload_n 1, 1) := by decide +kernel
theorem d_Run_doTest_90 : decode prog_5_method_2_code 90 = .ok (.getfield 69, 3) := by decide +kernel
theorem d_Run_doTest_93 : decode prog_5_method_2_code 93 = .ok (.iconst 1, 1) := by decide +kernel
theorem d_Run_doTest_94 : decode prog_5_method_2_code 94 = .ok (.iadd, 1) := by decide +kernel
theorem d_Run_doTest_95 : decode prog_5_method_2_code 95 = .ok (.aload_n 0, 1) := by decide +kernel
theorem d_Run_doTest_96 : decode prog_5_method_2_code 96 = .ok (.getfield 9, 3) := by decide +kernel
theorem d_Run_doTest_99 : decode prog_5_method_2_code 99 = .ok (.getfield 72, 3) := by decide +kernel
theorem d_Run_doTest_102 : decode prog_5_method_2_code 102 = .ok (.aload_n 1, 1) := by decide +kernel
theorem d_Run_doTest_103 : decode prog_5_method_2_code 103 = .ok (.getfield 69, 3) := by decide +kernel
theorem d_Run_doTest_106 : decode prog_5_method_2_code 106 = .ok (.invokevirtual 87, 3) := by decide +kernel
theorem d_Run_doTest_109 : decode prog_5_method_2_code 109 = .ok (.checkcast 91, 3) := by decide +kernel
theorem d_Run_doTest_112 : decode prog_5_method_2_code 112 = .ok (.getfield 93, 3) := by decide +kernel
theorem d_Run_doTest_115 : decode prog_5_method_2_code 115 = .ok (.iconst 1, 1) := by decide +kernel
theorem d_Run_doTest_116 : decode prog_5_method_2_code 116 = .ok (.invokevirtual 65, 3) := by decide +kernel
theorem d_Run_doTest_119 : decode prog_5_method_2_code 119 = .ok (.pop, 1) := by decide +kernel
theorem d_Run_doTest_120 : decode prog_5_method_2_code 120 = .ok (.aload_n 1, 1) := by decide +kernel
theorem d_Run_doTest_121 : decode prog_5_method_2_code 121 = .ok (.getfield 94, 3) := by decide +kernel
theorem d_Run_doTest_124 : decode prog_5_method_2_code 124 = .ok (.ifCond .ne 11, 3) := by decide +kernel
theorem d_Run_doTest_127 : decode prog_5_method_2_code 127 = .ok (.aload_n 1, 1) := by decide +kernel
theorem d_Run_doTest_128 : decode prog_5_method_2_code 128 = .ok (.aload_n 0, 1) := by decide +kernel
theorem d_Run_doTest_129 : decode prog_5_method_2_code 129 = .ok (.getfield 43, 3) := by decide +kernel
theorem d_Run_doTest_132 : decode prog_5_method_2_code 132 = .ok (.putfield 97, 3) := by decide +kernel
theorem d_Run_doTest_135 : decode prog_5_method_2_code 135 = .ok (.aload_n 0, 1) := by decide +kernel
theorem d_Run_doTest_136 : decode prog_5_method_2_code 136 = .ok (.invokevirtual 100, 3) := by decide +kernel
theorem d_Run_doTest_139 : decode prog_5_method_2_code 139 = .ok (.return_, 1) := by decide +kernel
abbrev m_Run_doSteps : MethodName × ByteArray × Nat × Option FieldType := (⟨"TestText$Runner", "doSteps", "(LTestText$Test;III)Z"⟩, prog_5_method_4_code, 8, (Option.some FieldType.boolean))
theorem d_Run_doSteps_0 : decode prog_5_method_4_code 0 = .ok (.iload 4, 2) := by decide +kernel
theorem d_Run_doSteps_2 : decode prog_5_method_4_code 2 = .ok (.bipush 8, 2) := by decide +kernel
theorem d_Run_doSteps_4 : decode prog_5_method_4_code 4 = .ok (.if_icmp .le 5, 3) := by decide +kernel
theorem d_Run_doSteps_7 : decode prog_5_method_4_code 7 = .ok (.iconst 1, 1) := by decide +kernel
theorem d_Run_doSteps_8 : decode prog_5_method_4_code 8 = .ok (.ireturn, 1) := by decide +kernel
theorem d_Run_doSteps_9 : decode prog_5_method_4_code 9 = .ok (.iload_n 3, 1) := by decide +kernel
theorem d_Run_doSteps_10 : decode prog_5_method_4_code 10 = .ok (.aload_n 0, 1) := by decide +kernel
theorem d_Run_doSteps_11 : decode prog_5_method_4_code 11 = .ok (.getfield 9, 3) := by decide +kernel
theorem d_Run_doSteps_14 : decode prog_5_method_4_code 14 = .ok (.getfield 72, 3) := by decide +kernel
theorem d_Run_doSteps_17 : decode prog_5_method_4_code 17 = .ok (.invokevirtual 78, 3) := by decide +kernel
theorem d_Run_doSteps_20 : decode prog_5_method_4_code 20 = .ok (.invokestatic 109, 3) := by decide +kernel
theorem d_Run_doSteps_23 : decode prog_5_method_4_code 23 = .ok (.istore 5, 2) := by decide +kernel
theorem d_Run_doSteps_25 : decode prog_5_method_4_code 25 = .ok (.iload_n 2, 1) := by decide +kernel
theorem d_Run_doSteps_26 : decode prog_5_method_4_code 26 = .ok (.istore 6, 2) := by decide +kernel
theorem d_Run_doSteps_28 : decode prog_5_method_4_code 28 = .ok (.iload 6, 2) := by decide +kernel
theorem d_Run_doSteps_30 : decode prog_5_method_4_code 30 = .ok (.iload 5, 2) := by decide +kernel
theorem d_Run_doSteps_32 : decode prog_5_method_4_code 32 = .ok (.if_icmp .ge 109, 3) := by decide +kernel
theorem d_Run_doSteps_35 : decode prog_5_method_4_code 35 = .ok (.aload_n 0, 1) := by decide +kernel
theorem d_Run_doSteps_36 : decode prog_5_method_4_code 36 = .ok (.getfield 9, 3) := by decide +kernel
theorem d_Run_doSteps_39 : decode prog_5_method_4_code 39 = .ok (.getfield 72, 3) := by decide +kernel
theorem d_Run_doSteps_42 : decode prog_5_method_4_code 42 = .ok (.iload 6, 2) := by decide +kernel
theorem d_Run_doSteps_44 : decode prog_5_method_4_code 44 = .ok (.invokevirtual 87, 3) := by decide +kernel
theorem d_Run_doSteps_47 : decode prog_5_method_4_code 47 = .ok (.checkcast 91, 3) := by decide +kernel
theorem d_Run_doSteps_50 : decode prog_5_method_4_code 50 = .ok (.astore 7, 2) := by decide +kernel
theorem d_Run_doSteps_52 : decode prog_5_method_4_code 52 = .ok (.aload_n 0, 1) := by decide +kernel
theorem d_Run_doSteps_53 : decode prog_5_method_4_code 53 = .ok (.aload_n 1, 1) := by decide +kernel
theorem d_Run_doSteps_54 : decode prog_5_method_4_code 54 = .ok (.aload 7, 2) := by decide +kernel
theorem d_Run_doSteps_56 : decode prog_5_method_4_code 56 = .ok (.invokevirtual 115, 3) := by decide +kernel
theorem d_Run_doSteps_59 : decode prog_5_method_4_code 59 = .ok (.ifCond .ne 5, 3) := by decide +kernel
theorem d_Run_doSteps_62 : decode prog_5_method_4_code 62 = .ok (.iconst 0, 1) := by decide +kernel
theorem d_Run_doSteps_63 : decode prog_5_method_4_code 63 = .ok (.ireturn, 1) := by decide +kernel
theorem d_Run_doSteps_64 : decode prog_5_method_4_code 64 = .ok (.aload 7, 2) := by decide +kernel
theorem d_Run_doSteps_66 : decode prog_5_method_4_code 66 = .ok (.getfield 119, 3) := by decide +kernel
theorem d_Run_doSteps_69 : decode prog_5_method_4_code 69 = .ok (.bipush 6, 2) := by decide +kernel
theorem d_Run_doSteps_71 : decode prog_5_method_4_code 71 = .ok (.if_icmp .ne 23, 3) := by decide +kernel
theorem d_Run_doSteps_74 : decode prog_5_method_4_code 74 = .ok (.aload_n 0, 1) := by decide +kernel
theorem d_Run_doSteps_75 : decode prog_5_method_4_code 75 = .ok (.aload_n 1, 1) := by decide +kernel
theorem d_Run_doSteps_76 : decode prog_5_method_4_code 76 = .ok (.aload 7, 2) := by decide +kernel
theorem d_Run_doSteps_78 : decode prog_5_method_4_code 78 = .ok (.iload 6, 2) := by decide +kernel
theorem d_Run_doSteps_80 : decode prog_5_method_4_code 80 = .ok (.iconst 1, 1) := by decide +kernel
theorem d_Run_doSteps_81 : decode prog_5_method_4_code 81 = .ok (.iadd, 1) := by decide +kernel
theorem d_Run_doSteps_82 : decode prog_5_method_4_code 82 = .ok (.iload 4, 2) := by decide +kernel
theorem d_Run_doSteps_84 : decode prog_5_method_4_code 84 = .ok (.iconst 1, 1) := by decide +kernel
theorem d_Run_doSteps_85 : decode prog_5_method_4_code 85 = .ok (.iadd, 1) := by decide +kernel
theorem d_Run_doSteps_86 : decode prog_5_method_4_code 86 = .ok (.invokevirtual 122, 3) := by decide +kernel
theorem d_Run_doSteps_89 : decode prog_5_method_4_code 89 = .ok (.ifCond .ne 5, 3) := by decide +kernel
theorem d_Run_doSteps_92 : decode prog_5_method_4_code 92 = .ok (.iconst 0, 1) := by decide +kernel
theorem d_Run_doSteps_93 : decode prog_5_method_4_code 93 = .ok (.ireturn, 1) := by decide +kernel
theorem d_Run_doSteps_94 : decode prog_5_method_4_code 94 = .ok (.aload 7, 2) := by decide +kernel
theorem d_Run_doSteps_96 : decode prog_5_method_4_code 96 = .ok (.getfield 119, 3) := by decide +kernel
theorem d_Run_doSteps_99 : decode prog_5_method_4_code 99 = .ok (.bipush 7, 2) := by decide +kernel
theorem d_Run_doSteps_101 : decode prog_5_method_4_code 101 = .ok (.if_icmp .ne 23, 3) := by decide +kernel
theorem d_Run_doSteps_104 : decode prog_5_method_4_code 104 = .ok (.aload_n 0, 1) := by decide +kernel
theorem d_Run_doSteps_105 : decode prog_5_method_4_code 105 = .ok (.aload_n 1, 1) := by decide +kernel
theorem d_Run_doSteps_106 : decode prog_5_method_4_code 106 = .ok (.aload 7, 2) := by decide +kernel
theorem d_Run_doSteps_108 : decode prog_5_method_4_code 108 = .ok (.iload 6, 2) := by decide +kernel
theorem d_Run_doSteps_110 : decode prog_5_method_4_code 110 = .ok (.iconst 1, 1) := by decide +kernel
theorem d_Run_doSteps_111 : decode prog_5_method_4_code 111 = .ok (.iadd, 1) := by decide +kernel
theorem d_Run_doSteps_112 : decode prog_5_method_4_code 112 = .ok (.iload 4, 2) := by decide +kernel
theorem d_Run_doSteps_114 : decode prog_5_method_4_code 114 = .ok (.iconst 1, 1) := by decide +kernel
theorem d_Run_doSteps_115 : decode prog_5_method_4_code 115 = .ok (.iadd, 1) := by decide +kernel
theorem d_Run_doSteps_116 : decode prog_5_method_4_code 116 = .ok (.invokevirtual 126, 3) := by decide +kernel
theorem d_Run_doSteps_119 : decode prog_5_method_4_code 119 = .ok (.ifCond .ne 5, 3) := by decide +kernel
theorem d_Run_doSteps_122 : decode prog_5_method_4_code 122 = .ok (.iconst 0, 1) := by decide +kernel
theorem d_Run_doSteps_123 : decode prog_5_method_4_code 123 = .ok (.ireturn, 1) := by decide +kernel
theorem d_Run_doSteps_124 : decode prog_5_method_4_code 124 = .ok (.iload 6, 2) := by decide +kernel
theorem d_Run_doSteps_126 : decode prog_5_method_4_code 126 = .ok (.iconst 1, 1) := by decide +kernel
theorem d_Run_doSteps_127 : decode prog_5_method_4_code 127 = .ok (.iadd, 1) := by decide +kernel
theorem d_Run_doSteps_128 : decode prog_5_method_4_code 128 = .ok (.aload 7, 2) := by decide +kernel
theorem d_Run_doSteps_130 : decode prog_5_method_4_code 130 = .ok (.getfield 93, 3) := by decide +kernel
theorem d_Run_doSteps_133 : decode prog_5_method_4_code 133 = .ok (.invokestatic 129, 3) := by decide +kernel
theorem d_Run_doSteps_136 : decode prog_5_method_4_code 136 = .ok (.istore 6, 2) := by decide +kernel
theorem d_Run_doSteps_138 : decode prog_5_method_4_code 138 = .ok (.goto (-110), 3) := by decide +kernel
theorem d_Run_doSteps_141 : decode prog_5_method_4_code 141 = .ok (.iconst 1, 1) := by decide +kernel
theorem d_Run_doSteps_142 : decode prog_5_method_4_code 142 = .ok (.ireturn, 1) := by decide +kernel
abbrev m_Run_doStep : MethodName × ByteArray × Nat × Option FieldType := (⟨"TestText$Runner", "doStep", "(LTestText$Test;LTestText$Step;)Z"⟩, prog_5_method_8_code, 3, (Option.some FieldType.boolean))
theorem d_Run_doStep_0 : decode prog_5_method_8_code 0 = .ok (.aload_n 0, 1) := by decide +kernel
theorem d_Run_doStep_1 : decode prog_5_method_8_code 1 = .ok (.aload_n 1, 1) := by decide +kernel
theorem d_Run_doStep_2 : decode prog_5_method_8_code 2 = .ok (.invokevirtual 138, 3) := by decide +kernel
theorem d_Run_doStep_5 : decode prog_5_method_8_code 5 = .ok (.ifCond .ne 5, 3) := by decide +kernel
theorem d_Run_doStep_8 : decode prog_5_method_8_code 8 = .ok (.iconst 0, 1) := by decide +kernel
theorem d_Run_doStep_9 : decode prog_5_method_8_code 9 = .ok (.ireturn, 1) := by decide +kernel
theorem d_Run_doStep_10 : decode prog_5_method_8_code 10 = .ok (.aload_n 2, 1) := by decide +kernel
theorem d_Run_doStep_11 : decode prog_5_method_8_code 11 = .ok (.iconst 1, 1) := by decide +kernel
theorem d_Run_doStep_12 : decode prog_5_method_8_code 12 = .ok (.putfield 157, 3) := by decide +kernel
theorem d_Run_doStep_15 : decode prog_5_method_8_code 15 = .ok (.aload_n 2, 1) := by decide +kernel
theorem d_Run_doStep_16 : decode prog_5_method_8_code 16 = .ok (.getfield 119, 3) := by decide +kernel
theorem d_Run_doStep_19 : decode prog_5_method_8_code 19 = .ok (.tableswitch 140 1 5 #[33, 44, 63, 78, 93], 33) := by decide +kernel
theorem d_Run_doStep_52 : decode prog_5_method_8_code 52 = .ok (.aload_n 0, 1) := by decide +kernel
theorem d_Run_doStep_53 : decode prog_5_method_8_code 53 = .ok (.aload_n 2, 1) := by decide +kernel
theorem d_Run_doStep_54 : decode prog_5_method_8_code 54 = .ok (.aload_n 2, 1) := by decide +kernel
theorem d_Run_doStep_55 : decode prog_5_method_8_code 55 = .ok (.getfield 132, 3) := by decide +kernel
theorem d_Run_doStep_58 : decode prog_5_method_8_code 58 = .ok (.invokevirtual 142, 3) := by decide +kernel
theorem d_Run_doStep_61 : decode prog_5_method_8_code 61 = .ok (.iconst 1, 1) := by decide +kernel
theorem d_Run_doStep_62 : decode prog_5_method_8_code 62 = .ok (.ireturn, 1) := by decide +kernel
theorem d_Run_doStep_63 : decode prog_5_method_8_code 63 = .ok (.aload_n 0, 1) := by decide +kernel
theorem d_Run_doStep_64 : decode prog_5_method_8_code 64 = .ok (.aload_n 2, 1) := by decide +kernel
theorem d_Run_doStep_65 : decode prog_5_method_8_code 65 = .ok (.aload_n 0, 1) := by decide +kernel
theorem d_Run_doStep_66 : decode prog_5_method_8_code 66 = .ok (.aload_n 2, 1) := by decide +kernel
theorem d_Run_doStep_67 : decode prog_5_method_8_code 67 = .ok (.getfield 132, 3) := by decide +kernel
theorem d_Run_doStep_70 : decode prog_5_method_8_code 70 = .ok (.aload_n 2, 1) := by decide +kernel
theorem d_Run_doStep_71 : decode prog_5_method_8_code 71 = .ok (.getfield 160, 3) := by decide +kernel
theorem d_Run_doStep_74 : decode prog_5_method_8_code 74 = .ok (.invokevirtual 163, 3) := by decide +kernel
theorem d_Run_doStep_77 : decode prog_5_method_8_code 77 = .ok (.invokevirtual 142, 3) := by decide +kernel
theorem d_Run_doStep_80 : decode prog_5_method_8_code 80 = .ok (.iconst 1, 1) := by decide +kernel
theorem d_Run_doStep_81 : decode prog_5_method_8_code 81 = .ok (.ireturn, 1) := by decide +kernel
theorem d_Run_doStep_82 : decode prog_5_method_8_code 82 = .ok (.aload_n 0, 1) := by decide +kernel
theorem d_Run_doStep_83 : decode prog_5_method_8_code 83 = .ok (.aload_n 1, 1) := by decide +kernel
theorem d_Run_doStep_84 : decode prog_5_method_8_code 84 = .ok (.aload_n 2, 1) := by decide +kernel
theorem d_Run_doStep_85 : decode prog_5_method_8_code 85 = .ok (.aload_n 0, 1) := by decide +kernel
theorem d_Run_doStep_86 : decode prog_5_method_8_code 86 = .ok (.aload_n 2, 1) := by decide +kernel
theorem d_Run_doStep_87 : decode prog_5_method_8_code 87 = .ok (.getfield 166, 3) := by decide +kernel
theorem d_Run_doStep_90 : decode prog_5_method_8_code 90 = .ok (.invokevirtual 169, 3) := by decide +kernel
theorem d_Run_doStep_93 : decode prog_5_method_8_code 93 = .ok (.invokevirtual 173, 3) := by decide +kernel
theorem d_Run_doStep_96 : decode prog_5_method_8_code 96 = .ok (.ireturn, 1) := by decide +kernel
theorem d_Run_doStep_97 : decode prog_5_method_8_code 97 = .ok (.aload_n 0, 1) := by decide +kernel
theorem d_Run_doStep_98 : decode prog_5_method_8_code 98 = .ok (.aload_n 1, 1) := by decide +kernel
theorem d_Run_doStep_99 : decode prog_5_method_8_code 99 = .ok (.aload_n 2, 1) := by decide +kernel
theorem d_Run_doStep_100 : decode prog_5_method_8_code 100 = .ok (.aload_n 0, 1) := by decide +kernel
theorem d_Run_doStep_101 : decode prog_5_method_8_code 101 = .ok (.aload_n 2, 1) := by decide +kernel
theorem d_Run_doStep_102 : decode prog_5_method_8_code 102 = .ok (.getfield 166, 3) := by decide +kernel
theorem d_Run_doStep_105 : decode prog_5_method_8_code 105 = .ok (.invokevirtual 169, 3) := by decide +kernel
theorem d_Run_doStep_108 : decode prog_5_method_8_code 108 = .ok (.invokevirtual 177, 3) := by decide +kernel
theorem d_Run_doStep_111 : decode prog_5_method_8_code 111 = .ok (.ireturn, 1) := by decide +kernel
theorem d_Run_doStep_112 : decode prog_5_method_8_code 112 = .ok (.aload_n 0, 1) := by decide +kernel
theorem d_Run_doStep_113 : decode prog_5_method_8_code 113 = .ok (.aload_n 2, 1) := by decide +kernel
theorem d_Run_doStep_114 : decode prog_5_method_8_code 114 = .ok (.getfield 160, 3) := by decide +kernel
theorem d_Run_doStep_117 : decode prog_5_method_8_code 117 = .ok (.iconst 1, 1) := by decide +kernel
theorem d_Run_doStep_118 : decode prog_5_method_8_code 118 = .ok (.if_icmp .ne 17, 3) := by decide +kernel
theorem d_Run_doStep_121 : decode prog_5_method_8_code 121 = .ok (.aload_n 0, 1) := by decide +kernel
theorem d_Run_doStep_122 : decode prog_5_method_8_code 122 = .ok (.getfield 46, 3) := by decide +kernel
theorem d_Run_doStep_125 : decode prog_5_method_8_code 125 = .ok (.iconst 1, 1) := by decide +kernel
theorem d_Run_doStep_126 : decode prog_5_method_8_code 126 = .ok (.aload_n 2, 1) := by decide +kernel
theorem d_Run_doStep_127 : decode prog_5_method_8_code 127 = .ok (.getfield 132, 3) := by decide +kernel
theorem d_Run_doStep_130 : decode prog_5_method_8_code 130 = .ok (.ishl, 1) := by decide +kernel
theorem d_Run_doStep_131 : decode prog_5_method_8_code 131 = .ok (.ior, 1) := by decide +kernel
theorem d_Run_doStep_132 : decode prog_5_method_8_code 132 = .ok (.goto 16, 3) := by decide +kernel
theorem d_Run_doStep_135 : decode prog_5_method_8_code 135 = .ok (.aload_n 0, 1) := by decide +kernel
theorem d_Run_doStep_136 : decode prog_5_method_8_code 136 = .ok (.getfield 46, 3) := by decide +kernel
theorem d_Run_doStep_139 : decode prog_5_method_8_code 139 = .ok (.iconst 1, 1) := by decide +kernel
theorem d_Run_doStep_140 : decode prog_5_method_8_code 140 = .ok (.aload_n 2, 1) := by decide +kernel
theorem d_Run_doStep_141 : decode prog_5_method_8_code 141 = .ok (.getfield 132, 3) := by decide +kernel
theorem d_Run_doStep_144 : decode prog_5_method_8_code 144 = .ok (.ishl, 1) := by decide +kernel
theorem d_Run_doStep_145 : decode prog_5_method_8_code 145 = .ok (.iconst (-1), 1) := by decide +kernel
theorem d_Run_doStep_146 : decode prog_5_method_8_code 146 = .ok (.ixor, 1) := by decide +kernel
theorem d_Run_doStep_147 : decode prog_5_method_8_code 147 = .ok (.iand, 1) := by decide +kernel
theorem d_Run_doStep_148 : decode prog_5_method_8_code 148 = .ok (.putfield 46, 3) := by decide +kernel
theorem d_Run_doStep_151 : decode prog_5_method_8_code 151 = .ok (.aload_n 0, 1) := by decide +kernel
theorem d_Run_doStep_152 : decode prog_5_method_8_code 152 = .ok (.aload_n 2, 1) := by decide +kernel
theorem d_Run_doStep_153 : decode prog_5_method_8_code 153 = .ok (.iconst 0, 1) := by decide +kernel
theorem d_Run_doStep_154 : decode prog_5_method_8_code 154 = .ok (.invokevirtual 180, 3) := by decide +kernel
theorem d_Run_doStep_157 : decode prog_5_method_8_code 157 = .ok (.iconst 1, 1) := by decide +kernel
theorem d_Run_doStep_158 : decode prog_5_method_8_code 158 = .ok (.ireturn, 1) := by decide +kernel
theorem d_Run_doStep_159 : decode prog_5_method_8_code 159 = .ok (.aload_n 0, 1) := by decide +kernel
theorem d_Run_doStep_160 : decode prog_5_method_8_code 160 = .ok (.aload_n 2, 1) := by decide +kernel
theorem d_Run_doStep_161 : decode prog_5_method_8_code 161 = .ok (.iconst 0, 1) := by decide +kernel
theorem d_Run_doStep_162 : decode prog_5_method_8_code 162 = .ok (.invokevirtual 180, 3) := by decide +kernel
theorem d_Run_doStep_165 : decode prog_5_method_8_code 165 = .ok (.iconst 1, 1) := by decide +kernel
theorem d_Run_doStep_166 : decode prog_5_method_8_code 166 = .ok (.ireturn, 1) := by decide +kernel
abbrev m_Run_mayBegin : MethodName × ByteArray × Nat × Option FieldType := (⟨"TestText$Runner", "mayBegin", "(LTestText$Test;)Z"⟩, prog_5_method_7_code, 2, (Option.some FieldType.boolean))
theorem d_Run_mayBegin_0 : decode prog_5_method_7_code 0 = .ok (.aload_n 0, 1) := by decide +kernel
theorem d_Run_mayBegin_1 : decode prog_5_method_7_code 1 = .ok (.getfield 19, 3) := by decide +kernel
theorem d_Run_mayBegin_4 : decode prog_5_method_7_code 4 = .ok (.invokevirtual 146, 3) := by decide +kernel
theorem d_Run_mayBegin_7 : decode prog_5_method_7_code 7 = .ok (.ifCond .eq 24, 3) := by decide +kernel
theorem d_Run_mayBegin_10 : decode prog_5_method_7_code 10 = .ok (.aload_n 0, 1) := by decide +kernel
theorem d_Run_mayBegin_11 : decode prog_5_method_7_code 11 = .ok (.iconst 1, 1) := by decide +kernel
theorem d_Run_mayBegin_12 : decode prog_5_method_7_code 12 = .ok (.putfield 55, 3) := by decide +kernel
theorem d_Run_mayBegin_15 : decode prog_5_method_7_code 15 = .ok (.aload_n 0, 1) := by decide +kernel
theorem d_Run_mayBegin_16 : decode prog_5_method_7_code 16 = .ok (.aload_n 1, 1) := by decide +kernel
theorem d_Run_mayBegin_17 : decode prog_5_method_7_code 17 = .ok (.iconst 2, 1) := by decide +kernel
theorem d_Run_mayBegin_18 : decode prog_5_method_7_code 18 = .ok (.iconst 0, 1) := by decide +kernel
theorem d_Run_mayBegin_19 : decode prog_5_method_7_code 19 = .ok (.aload_n 0, 1) := by decide +kernel
theorem d_Run_mayBegin_20 : decode prog_5_method_7_code 20 = .ok (.getfield 19, 3) := by decide +kernel
theorem d_Run_mayBegin_23 : decode prog_5_method_7_code 23 = .ok (.getfield 150, 3) := by decide +kernel
theorem d_Run_mayBegin_26 : decode prog_5_method_7_code 26 = .ok (.invokevirtual 153, 3) := by decide +kernel
theorem d_Run_mayBegin_29 : decode prog_5_method_7_code 29 = .ok (.iconst 0, 1) := by decide +kernel
theorem d_Run_mayBegin_30 : decode prog_5_method_7_code 30 = .ok (.ireturn, 1) := by decide +kernel
theorem d_Run_mayBegin_31 : decode prog_5_method_7_code 31 = .ok (.iconst 1, 1) := by decide +kernel
theorem d_Run_mayBegin_32 : decode prog_5_method_7_code 32 = .ok (.ireturn, 1) := by decide +kernel
abbrev m_Run_leave : MethodName × ByteArray × Nat × Option FieldType := (⟨"TestText$Runner", "leave", "(LTestText$Test;III)V"⟩, prog_5_method_15_code, 5, (Option.none : Option FieldType))
theorem d_Run_leave_0 : decode prog_5_method_15_code 0 = .ok (.aload_n 1, 1) := by decide +kernel
theorem d_Run_leave_1 : decode prog_5_method_15_code 1 = .ok (.getfield 94, 3) := by decide +kernel
theorem d_Run_leave_4 : decode prog_5_method_15_code 4 = .ok (.ifCond .eq 4, 3) := by decide +kernel
theorem d_Run_leave_7 : decode prog_5_method_15_code 7 = .ok (.return_, 1) := by decide +kernel
theorem d_Run_leave_8 : decode prog_5_method_15_code 8 = .ok (.aload_n 1, 1) := by decide +kernel
theorem d_Run_leave_9 : decode prog_5_method_15_code 9 = .ok (.iload_n 2, 1) := by decide +kernel
theorem d_Run_leave_10 : decode prog_5_method_15_code 10 = .ok (.putfield 94, 3) := by decide +kernel
theorem d_Run_leave_13 : decode prog_5_method_15_code 13 = .ok (.aload_n 1, 1) := by decide +kernel
theorem d_Run_leave_14 : decode prog_5_method_15_code 14 = .ok (.iload_n 3, 1) := by decide +kernel
theorem d_Run_leave_15 : decode prog_5_method_15_code 15 = .ok (.putfield 211, 3) := by decide +kernel
theorem d_Run_leave_18 : decode prog_5_method_15_code 18 = .ok (.aload_n 1, 1) := by decide +kernel
theorem d_Run_leave_19 : decode prog_5_method_15_code 19 = .ok (.aload_n 0, 1) := by decide +kernel
theorem d_Run_leave_20 : decode prog_5_method_15_code 20 = .ok (.getfield 43, 3) := by decide +kernel
theorem d_Run_leave_23 : decode prog_5_method_15_code 23 = .ok (.putfield 97, 3) := by decide +kernel
theorem d_Run_leave_26 : decode prog_5_method_15_code 26 = .ok (.aload_n 0, 1) := by decide +kernel
theorem d_Run_leave_27 : decode prog_5_method_15_code 27 = .ok (.getfield 19, 3) := by decide +kernel
theorem d_Run_leave_30 : decode prog_5_method_15_code 30 = .ok (.getfield 214, 3) := by decide +kernel
theorem d_Run_leave_33 : decode prog_5_method_15_code 33 = .ok (.iconst (-1), 1) := by decide +kernel
theorem d_Run_leave_34 : decode prog_5_method_15_code 34 = .ok (.if_icmp .ne 12, 3) := by decide +kernel
theorem d_Run_leave_37 : decode prog_5_method_15_code 37 = .ok (.aload_n 0, 1) := by decide +kernel
theorem d_Run_leave_38 : decode prog_5_method_15_code 38 = .ok (.getfield 19, 3) := by decide +kernel
theorem d_Run_leave_41 : decode prog_5_method_15_code 41 = .ok (.iload 4, 2) := by decide +kernel
theorem d_Run_leave_43 : decode prog_5_method_15_code 43 = .ok (.putfield 214, 3) := by decide +kernel
theorem d_Run_leave_46 : decode prog_5_method_15_code 46 = .ok (.return_, 1) := by decide +kernel
abbrev m_Run_setValue : MethodName × ByteArray × Nat × Option FieldType := (⟨"TestText$Runner", "setValue", "(LTestText$Step;I)V"⟩, prog_5_method_10_code, 3, (Option.none : Option FieldType))
theorem d_Run_setValue_0 : decode prog_5_method_10_code 0 = .ok (.aload_n 1, 1) := by decide +kernel
theorem d_Run_setValue_1 : decode prog_5_method_10_code 1 = .ok (.getfield 166, 3) := by decide +kernel
theorem d_Run_setValue_4 : decode prog_5_method_10_code 4 = .ok (.ifCond .lt 35, 3) := by decide +kernel
theorem d_Run_setValue_7 : decode prog_5_method_10_code 7 = .ok (.aload_n 1, 1) := by decide +kernel
theorem d_Run_setValue_8 : decode prog_5_method_10_code 8 = .ok (.getfield 166, 3) := by decide +kernel
theorem d_Run_setValue_11 : decode prog_5_method_10_code 11 = .ok (.bipush 20, 2) := by decide +kernel
theorem d_Run_setValue_13 : decode prog_5_method_10_code 13 = .ok (.if_icmp .gt 26, 3) := by decide +kernel
theorem d_Run_setValue_16 : decode prog_5_method_10_code 16 = .ok (.aload_n 0, 1) := by decide +kernel
theorem d_Run_setValue_17 : decode prog_5_method_10_code 17 = .ok (.getfield 31, 3) := by decide +kernel
theorem d_Run_setValue_20 : decode prog_5_method_10_code 20 = .ok (.aload_n 1, 1) := by decide +kernel
theorem d_Run_setValue_21 : decode prog_5_method_10_code 21 = .ok (.getfield 166, 3) := by decide +kernel
theorem d_Run_setValue_24 : decode prog_5_method_10_code 24 = .ok (.aload_n 0, 1) := by decide +kernel
theorem d_Run_setValue_25 : decode prog_5_method_10_code 25 = .ok (.getfield 43, 3) := by decide +kernel
theorem d_Run_setValue_28 : decode prog_5_method_10_code 28 = .ok (.iastore, 1) := by decide +kernel
theorem d_Run_setValue_29 : decode prog_5_method_10_code 29 = .ok (.aload_n 0, 1) := by decide +kernel
theorem d_Run_setValue_30 : decode prog_5_method_10_code 30 = .ok (.getfield 35, 3) := by decide +kernel
theorem d_Run_setValue_33 : decode prog_5_method_10_code 33 = .ok (.aload_n 1, 1) := by decide +kernel
theorem d_Run_setValue_34 : decode prog_5_method_10_code 34 = .ok (.getfield 166, 3) := by decide +kernel
theorem d_Run_setValue_37 : decode prog_5_method_10_code 37 = .ok (.iload_n 2, 1) := by decide +kernel
theorem d_Run_setValue_38 : decode prog_5_method_10_code 38 = .ok (.iastore, 1) := by decide +kernel
theorem d_Run_setValue_39 : decode prog_5_method_10_code 39 = .ok (.aload_n 0, 1) := by decide +kernel
theorem d_Run_setValue_40 : decode prog_5_method_10_code 40 = .ok (.aload_n 1, 1) := by decide +kernel
theorem d_Run_setValue_41 : decode prog_5_method_10_code 41 = .ok (.iload_n 2, 1) := by decide +kernel
theorem d_Run_setValue_42 : decode prog_5_method_10_code 42 = .ok (.invokevirtual 180, 3) := by decide +kernel
theorem d_Run_setValue_45 : decode prog_5_method_10_code 45 = .ok (.return_, 1) := by decide +kernel
abbrev m_Run_pass : MethodName × ByteArray × Nat × Option FieldType := (⟨"TestText$Runner", "pass", "(LTestText$Step;I)V"⟩, prog_5_method_9_code, 3, (Option.none : Option FieldType))
theorem d_Run_pass_0 : decode prog_5_method_9_code 0 = .ok (.aload_n 0, 1) := by decide +kernel
theorem d_Run_pass_1 : decode prog_5_method_9_code 1 = .ok (.getfield 19, 3) := by decide +kernel
theorem d_Run_pass_4 : decode prog_5_method_9_code 4 = .ok (.aload_n 1, 1) := by decide +kernel
theorem d_Run_pass_5 : decode prog_5_method_9_code 5 = .ok (.getfield 183, 3) := by decide +kernel
theorem d_Run_pass_8 : decode prog_5_method_9_code 8 = .ok (.aload_n 0, 1) := by decide +kernel
theorem d_Run_pass_9 : decode prog_5_method_9_code 9 = .ok (.getfield 43, 3) := by decide +kernel
theorem d_Run_pass_12 : decode prog_5_method_9_code 12 = .ok (.iload_n 2, 1) := by decide +kernel
theorem d_Run_pass_13 : decode prog_5_method_9_code 13 = .ok (.invokevirtual 186, 3) := by decide +kernel
theorem d_Run_pass_16 : decode prog_5_method_9_code 16 = .ok (.aload_n 0, 1) := by decide +kernel
theorem d_Run_pass_17 : decode prog_5_method_9_code 17 = .ok (.dup, 1) := by decide +kernel
theorem d_Run_pass_18 : decode prog_5_method_9_code 18 = .ok (.getfield 43, 3) := by decide +kernel
theorem d_Run_pass_21 : decode prog_5_method_9_code 21 = .ok (.iconst 1, 1) := by decide +kernel
theorem d_Run_pass_22 : decode prog_5_method_9_code 22 = .ok (.iadd, 1) := by decide +kernel
theorem d_Run_pass_23 : decode prog_5_method_9_code 23 = .ok (.putfield 43, 3) := by decide +kernel
theorem d_Run_pass_26 : decode prog_5_method_9_code 26 = .ok (.return_, 1) := by decide +kernel
abbrev m_Run_draw : MethodName × ByteArray × Nat × Option FieldType := (⟨"TestText$Runner", "draw", "(II)I"⟩, prog_5_method_11_code, 4, (Option.some FieldType.int))
theorem d_Run_draw_0 : decode prog_5_method_11_code 0 = .ok (.aload_n 0, 1) := by decide +kernel
theorem d_Run_draw_1 : decode prog_5_method_11_code 1 = .ok (.aload_n 0, 1) := by decide +kernel
theorem d_Run_draw_2 : decode prog_5_method_11_code 2 = .ok (.getfield 23, 3) := by decide +kernel
theorem d_Run_draw_5 : decode prog_5_method_11_code 5 = .ok (.ldc2_w 190, 3) := by decide +kernel
theorem d_Run_draw_8 : decode prog_5_method_11_code 8 = .ok (.lmul, 1) := by decide +kernel
theorem d_Run_draw_9 : decode prog_5_method_11_code 9 = .ok (.ldc2_w 192, 3) := by decide +kernel
theorem d_Run_draw_12 : decode prog_5_method_11_code 12 = .ok (.ladd, 1) := by decide +kernel
theorem d_Run_draw_13 : decode prog_5_method_11_code 13 = .ok (.ldc2_w 194, 3) := by decide +kernel
theorem d_Run_draw_16 : decode prog_5_method_11_code 16 = .ok (.land, 1) := by decide +kernel
theorem d_Run_draw_17 : decode prog_5_method_11_code 17 = .ok (.putfield 23, 3) := by decide +kernel
theorem d_Run_draw_20 : decode prog_5_method_11_code 20 = .ok (.iconst 1, 1) := by decide +kernel
theorem d_Run_draw_21 : decode prog_5_method_11_code 21 = .ok (.iload_n 2, 1) := by decide +kernel
theorem d_Run_draw_22 : decode prog_5_method_11_code 22 = .ok (.iload_n 1, 1) := by decide +kernel
theorem d_Run_draw_23 : decode prog_5_method_11_code 23 = .ok (.isub, 1) := by decide +kernel
theorem d_Run_draw_24 : decode prog_5_method_11_code 24 = .ok (.iconst 1, 1) := by decide +kernel
theorem d_Run_draw_25 : decode prog_5_method_11_code 25 = .ok (.iadd, 1) := by decide +kernel
theorem d_Run_draw_26 : decode prog_5_method_11_code 26 = .ok (.invokestatic 129, 3) := by decide +kernel
theorem d_Run_draw_29 : decode prog_5_method_11_code 29 = .ok (.istore_n 3, 1) := by decide +kernel
theorem d_Run_draw_30 : decode prog_5_method_11_code 30 = .ok (.iload_n 1, 1) := by decide +kernel
theorem d_Run_draw_31 : decode prog_5_method_11_code 31 = .ok (.aload_n 0, 1) := by decide +kernel
theorem d_Run_draw_32 : decode prog_5_method_11_code 32 = .ok (.getfield 23, 3) := by decide +kernel
theorem d_Run_draw_35 : decode prog_5_method_11_code 35 = .ok (.bipush 16, 2) := by decide +kernel
theorem d_Run_draw_37 : decode prog_5_method_11_code 37 = .ok (.lushr, 1) := by decide +kernel
theorem d_Run_draw_38 : decode prog_5_method_11_code 38 = .ok (.l2i, 1) := by decide +kernel
theorem d_Run_draw_39 : decode prog_5_method_11_code 39 = .ok (.iload_n 3, 1) := by decide +kernel
theorem d_Run_draw_40 : decode prog_5_method_11_code 40 = .ok (.irem, 1) := by decide +kernel
theorem d_Run_draw_41 : decode prog_5_method_11_code 41 = .ok (.iadd, 1) := by decide +kernel
theorem d_Run_draw_42 : decode prog_5_method_11_code 42 = .ok (.ireturn, 1) := by decide +kernel
abbrev m_Run_valueNow : MethodName × ByteArray × Nat × Option FieldType := (⟨"TestText$Runner", "valueNow", "(I)I"⟩, prog_5_method_12_code, 3, (Option.some FieldType.int))
theorem d_Run_valueNow_0 : decode prog_5_method_12_code 0 = .ok (.iload_n 1, 1) := by decide +kernel
theorem d_Run_valueNow_1 : decode prog_5_method_12_code 1 = .ok (.ifCond .lt 9, 3) := by decide +kernel
theorem d_Run_valueNow_4 : decode prog_5_method_12_code 4 = .ok (.iload_n 1, 1) := by decide +kernel
theorem d_Run_valueNow_5 : decode prog_5_method_12_code 5 = .ok (.bipush 20, 2) := by decide +kernel
theorem d_Run_valueNow_7 : decode prog_5_method_12_code 7 = .ok (.if_icmp .le 6, 3) := by decide +kernel
theorem d_Run_valueNow_10 : decode prog_5_method_12_code 10 = .ok (.ldc 196, 2) := by decide +kernel
theorem d_Run_valueNow_12 : decode prog_5_method_12_code 12 = .ok (.ireturn, 1) := by decide +kernel
theorem d_Run_valueNow_13 : decode prog_5_method_12_code 13 = .ok (.aload_n 0, 1) := by decide +kernel
theorem d_Run_valueNow_14 : decode prog_5_method_12_code 14 = .ok (.getfield 15, 3) := by decide +kernel
theorem d_Run_valueNow_17 : decode prog_5_method_12_code 17 = .ok (.iload_n 1, 1) := by decide +kernel
theorem d_Run_valueNow_18 : decode prog_5_method_12_code 18 = .ok (.aload_n 0, 1) := by decide +kernel
theorem d_Run_valueNow_19 : decode prog_5_method_12_code 19 = .ok (.getfield 31, 3) := by decide +kernel
theorem d_Run_valueNow_22 : decode prog_5_method_12_code 22 = .ok (.iload_n 1, 1) := by decide +kernel
theorem d_Run_valueNow_23 : decode prog_5_method_12_code 23 = .ok (.iaload, 1) := by decide +kernel
theorem d_Run_valueNow_24 : decode prog_5_method_12_code 24 = .ok (.aload_n 0, 1) := by decide +kernel
theorem d_Run_valueNow_25 : decode prog_5_method_12_code 25 = .ok (.getfield 43, 3) := by decide +kernel
theorem d_Run_valueNow_28 : decode prog_5_method_12_code 28 = .ok (.invokevirtual 197, 3) := by decide +kernel
theorem d_Run_valueNow_31 : decode prog_5_method_12_code 31 = .ok (.istore_n 2, 1) := by decide +kernel
theorem d_Run_valueNow_32 : decode prog_5_method_12_code 32 = .ok (.iload_n 2, 1) := by decide +kernel
theorem d_Run_valueNow_33 : decode prog_5_method_12_code 33 = .ok (.ldc 196, 2) := by decide +kernel
theorem d_Run_valueNow_35 : decode prog_5_method_12_code 35 = .ok (.if_icmp .eq 5, 3) := by decide +kernel
theorem d_Run_valueNow_38 : decode prog_5_method_12_code 38 = .ok (.iload_n 2, 1) := by decide +kernel
theorem d_Run_valueNow_39 : decode prog_5_method_12_code 39 = .ok (.ireturn, 1) := by decide +kernel
theorem d_Run_valueNow_40 : decode prog_5_method_12_code 40 = .ok (.aload_n 0, 1) := by decide +kernel
theorem d_Run_valueNow_41 : decode prog_5_method_12_code 41 = .ok (.getfield 31, 3) := by decide +kernel
theorem d_Run_valueNow_44 : decode prog_5_method_12_code 44 = .ok (.iload_n 1, 1) := by decide +kernel
theorem d_Run_valueNow_45 : decode prog_5_method_12_code 45 = .ok (.iaload, 1) := by decide +kernel
theorem d_Run_valueNow_46 : decode prog_5_method_12_code 46 = .ok (.iconst (-1), 1) := by decide +kernel
theorem d_Run_valueNow_47 : decode prog_5_method_12_code 47 = .ok (.if_icmp .ne 8, 3) := by decide +kernel
theorem d_Run_valueNow_50 : decode prog_5_method_12_code 50 = .ok (.ldc 196, 2) := by decide +kernel
theorem d_Run_valueNow_52 : decode prog_5_method_12_code 52 = .ok (.goto 9, 3) := by decide +kernel
theorem d_Run_valueNow_55 : decode prog_5_method_12_code 55 = .ok (.aload_n 0, 1) := by decide +kernel
theorem d_Run_valueNow_56 : decode prog_5_method_12_code 56 = .ok (.getfield 35, 3) := by decide +kernel
theorem d_Run_valueNow_59 : decode prog_5_method_12_code 59 = .ok (.iload_n 1, 1) := by decide +kernel
theorem d_Run_valueNow_60 : decode prog_5_method_12_code 60 = .ok (.iaload, 1) := by decide +kernel
theorem d_Run_valueNow_61 : decode prog_5_method_12_code 61 = .ok (.ireturn, 1) := by decide +kernel
abbrev m_Run_doWait : MethodName × ByteArray × Nat × Option FieldType := (⟨"TestText$Runner", "doWait", "(LTestText$Test;LTestText$Step;I)Z"⟩, prog_5_method_14_code, 6, (Option.some FieldType.boolean))
theorem d_Run_doWait_0 : decode prog_5_method_14_code 0 = .ok (.aload_n 0, 1) := by decide +kernel
theorem d_Run_doWait_1 : decode prog_5_method_14_code 1 = .ok (.getfield 43, 3) := by decide +kernel
theorem d_Run_doWait_4 : decode prog_5_method_14_code 4 = .ok (.aload_n 2, 1) := by decide +kernel
theorem d_Run_doWait_5 : decode prog_5_method_14_code 5 = .ok (.getfield 160, 3) := by decide +kernel
theorem d_Run_doWait_8 : decode prog_5_method_14_code 8 = .ok (.iadd, 1) := by decide +kernel
theorem d_Run_doWait_9 : decode prog_5_method_14_code 9 = .ok (.istore 4, 2) := by decide +kernel
theorem d_Run_doWait_11 : decode prog_5_method_14_code 11 = .ok (.iload_n 3, 1) := by decide +kernel
theorem d_Run_doWait_12 : decode prog_5_method_14_code 12 = .ok (.ldc 196, 2) := by decide +kernel
theorem d_Run_doWait_14 : decode prog_5_method_14_code 14 = .ok (.if_icmp .eq 11, 3) := by decide +kernel
theorem d_Run_doWait_17 : decode prog_5_method_14_code 17 = .ok (.aload_n 2, 1) := by decide +kernel
theorem d_Run_doWait_18 : decode prog_5_method_14_code 18 = .ok (.iload_n 3, 1) := by decide +kernel
theorem d_Run_doWait_19 : decode prog_5_method_14_code 19 = .ok (.invokevirtual 203, 3) := by decide +kernel
theorem d_Run_doWait_22 : decode prog_5_method_14_code 22 = .ok (.ifCond .ne 74, 3) := by decide +kernel
theorem d_Run_doWait_25 : decode prog_5_method_14_code 25 = .ok (.aload_n 0, 1) := by decide +kernel
theorem d_Run_doWait_26 : decode prog_5_method_14_code 26 = .ok (.getfield 15, 3) := by decide +kernel
theorem d_Run_doWait_29 : decode prog_5_method_14_code 29 = .ok (.aload_n 2, 1) := by decide +kernel
theorem d_Run_doWait_30 : decode prog_5_method_14_code 30 = .ok (.aload_n 0, 1) := by decide +kernel
theorem d_Run_doWait_31 : decode prog_5_method_14_code 31 = .ok (.getfield 43, 3) := by decide +kernel
theorem d_Run_doWait_34 : decode prog_5_method_14_code 34 = .ok (.iload 4, 2) := by decide +kernel
theorem d_Run_doWait_36 : decode prog_5_method_14_code 36 = .ok (.invokevirtual 207, 3) := by decide +kernel
theorem d_Run_doWait_39 : decode prog_5_method_14_code 39 = .ok (.istore 5, 2) := by decide +kernel
theorem d_Run_doWait_41 : decode prog_5_method_14_code 41 = .ok (.iload 5, 2) := by decide +kernel
theorem d_Run_doWait_43 : decode prog_5_method_14_code 43 = .ok (.iconst (-1), 1) := by decide +kernel
theorem d_Run_doWait_44 : decode prog_5_method_14_code 44 = .ok (.if_icmp .ne 46, 3) := by decide +kernel
theorem d_Run_doWait_47 : decode prog_5_method_14_code 47 = .ok (.aload_n 0, 1) := by decide +kernel
theorem d_Run_doWait_48 : decode prog_5_method_14_code 48 = .ok (.iload 4, 2) := by decide +kernel
theorem d_Run_doWait_50 : decode prog_5_method_14_code 50 = .ok (.putfield 43, 3) := by decide +kernel
theorem d_Run_doWait_53 : decode prog_5_method_14_code 53 = .ok (.aload_n 0, 1) := by decide +kernel
theorem d_Run_doWait_54 : decode prog_5_method_14_code 54 = .ok (.getfield 19, 3) := by decide +kernel
theorem d_Run_doWait_57 : decode prog_5_method_14_code 57 = .ok (.aload_n 2, 1) := by decide +kernel
theorem d_Run_doWait_58 : decode prog_5_method_14_code 58 = .ok (.getfield 183, 3) := by decide +kernel
theorem d_Run_doWait_61 : decode prog_5_method_14_code 61 = .ok (.aload_n 0, 1) := by decide +kernel
theorem d_Run_doWait_62 : decode prog_5_method_14_code 62 = .ok (.getfield 43, 3) := by decide +kernel
theorem d_Run_doWait_65 : decode prog_5_method_14_code 65 = .ok (.iconst 0, 1) := by decide +kernel
theorem d_Run_doWait_66 : decode prog_5_method_14_code 66 = .ok (.invokevirtual 186, 3) := by decide +kernel
theorem d_Run_doWait_69 : decode prog_5_method_14_code 69 = .ok (.aload_n 0, 1) := by decide +kernel
theorem d_Run_doWait_70 : decode prog_5_method_14_code 70 = .ok (.aload_n 1, 1) := by decide +kernel
theorem d_Run_doWait_71 : decode prog_5_method_14_code 71 = .ok (.iconst 1, 1) := by decide +kernel
theorem d_Run_doWait_72 : decode prog_5_method_14_code 72 = .ok (.aload_n 2, 1) := by decide +kernel
theorem d_Run_doWait_73 : decode prog_5_method_14_code 73 = .ok (.getfield 183, 3) := by decide +kernel
theorem d_Run_doWait_76 : decode prog_5_method_14_code 76 = .ok (.aload_n 0, 1) := by decide +kernel
theorem d_Run_doWait_77 : decode prog_5_method_14_code 77 = .ok (.getfield 19, 3) := by decide +kernel
theorem d_Run_doWait_80 : decode prog_5_method_14_code 80 = .ok (.getfield 150, 3) := by decide +kernel
theorem d_Run_doWait_83 : decode prog_5_method_14_code 83 = .ok (.iconst 1, 1) := by decide +kernel
theorem d_Run_doWait_84 : decode prog_5_method_14_code 84 = .ok (.isub, 1) := by decide +kernel
theorem d_Run_doWait_85 : decode prog_5_method_14_code 85 = .ok (.invokevirtual 153, 3) := by decide +kernel
theorem d_Run_doWait_88 : decode prog_5_method_14_code 88 = .ok (.iconst 0, 1) := by decide +kernel
theorem d_Run_doWait_89 : decode prog_5_method_14_code 89 = .ok (.ireturn, 1) := by decide +kernel
theorem d_Run_doWait_90 : decode prog_5_method_14_code 90 = .ok (.aload_n 0, 1) := by decide +kernel
theorem d_Run_doWait_91 : decode prog_5_method_14_code 91 = .ok (.iload 5, 2) := by decide +kernel
theorem d_Run_doWait_93 : decode prog_5_method_14_code 93 = .ok (.putfield 43, 3) := by decide +kernel
theorem d_Run_doWait_96 : decode prog_5_method_14_code 96 = .ok (.aload_n 0, 1) := by decide +kernel
theorem d_Run_doWait_97 : decode prog_5_method_14_code 97 = .ok (.aload_n 2, 1) := by decide +kernel
theorem d_Run_doWait_98 : decode prog_5_method_14_code 98 = .ok (.iconst 0, 1) := by decide +kernel
theorem d_Run_doWait_99 : decode prog_5_method_14_code 99 = .ok (.invokevirtual 180, 3) := by decide +kernel
theorem d_Run_doWait_102 : decode prog_5_method_14_code 102 = .ok (.iconst 1, 1) := by decide +kernel
theorem d_Run_doWait_103 : decode prog_5_method_14_code 103 = .ok (.ireturn, 1) := by decide +kernel
abbrev m_Run_doCheck : MethodName × ByteArray × Nat × Option FieldType := (⟨"TestText$Runner", "doCheck", "(LTestText$Test;LTestText$Step;I)Z"⟩, prog_5_method_13_code, 4, (Option.some FieldType.boolean))
theorem d_Run_doCheck_0 : decode prog_5_method_13_code 0 = .ok (.iload_n 3, 1) := by decide +kernel
theorem d_Run_doCheck_1 : decode prog_5_method_13_code 1 = .ok (.ldc 196, 2) := by decide +kernel
theorem d_Run_doCheck_3 : decode prog_5_method_13_code 3 = .ok (.if_icmp .eq 11, 3) := by decide +kernel
theorem d_Run_doCheck_6 : decode prog_5_method_13_code 6 = .ok (.aload_n 2, 1) := by decide +kernel
theorem d_Run_doCheck_7 : decode prog_5_method_13_code 7 = .ok (.iload_n 3, 1) := by decide +kernel
theorem d_Run_doCheck_8 : decode prog_5_method_13_code 8 = .ok (.invokevirtual 203, 3) := by decide +kernel
theorem d_Run_doCheck_11 : decode prog_5_method_13_code 11 = .ok (.ifCond .ne 50, 3) := by decide +kernel
theorem d_Run_doCheck_14 : decode prog_5_method_13_code 14 = .ok (.aload_n 0, 1) := by decide +kernel
theorem d_Run_doCheck_15 : decode prog_5_method_13_code 15 = .ok (.getfield 19, 3) := by decide +kernel
theorem d_Run_doCheck_18 : decode prog_5_method_13_code 18 = .ok (.aload_n 2, 1) := by decide +kernel
theorem d_Run_doCheck_19 : decode prog_5_method_13_code 19 = .ok (.getfield 183, 3) := by decide +kernel
theorem d_Run_doCheck_22 : decode prog_5_method_13_code 22 = .ok (.aload_n 0, 1) := by decide +kernel
theorem d_Run_doCheck_23 : decode prog_5_method_13_code 23 = .ok (.getfield 43, 3) := by decide +kernel
theorem d_Run_doCheck_26 : decode prog_5_method_13_code 26 = .ok (.iconst 0, 1) := by decide +kernel
theorem d_Run_doCheck_27 : decode prog_5_method_13_code 27 = .ok (.invokevirtual 186, 3) := by decide +kernel
theorem d_Run_doCheck_30 : decode prog_5_method_13_code 30 = .ok (.aload_n 0, 1) := by decide +kernel
theorem d_Run_doCheck_31 : decode prog_5_method_13_code 31 = .ok (.aload_n 1, 1) := by decide +kernel
theorem d_Run_doCheck_32 : decode prog_5_method_13_code 32 = .ok (.iload_n 3, 1) := by decide +kernel
theorem d_Run_doCheck_33 : decode prog_5_method_13_code 33 = .ok (.ldc 196, 2) := by decide +kernel
theorem d_Run_doCheck_35 : decode prog_5_method_13_code 35 = .ok (.if_icmp .ne 7, 3) := by decide +kernel
theorem d_Run_doCheck_38 : decode prog_5_method_13_code 38 = .ok (.iconst 2, 1) := by decide +kernel
theorem d_Run_doCheck_39 : decode prog_5_method_13_code 39 = .ok (.goto 4, 3) := by decide +kernel
theorem d_Run_doCheck_42 : decode prog_5_method_13_code 42 = .ok (.iconst 1, 1) := by decide +kernel
theorem d_Run_doCheck_43 : decode prog_5_method_13_code 43 = .ok (.aload_n 2, 1) := by decide +kernel
theorem d_Run_doCheck_44 : decode prog_5_method_13_code 44 = .ok (.getfield 183, 3) := by decide +kernel
theorem d_Run_doCheck_47 : decode prog_5_method_13_code 47 = .ok (.aload_n 0, 1) := by decide +kernel
theorem d_Run_doCheck_48 : decode prog_5_method_13_code 48 = .ok (.getfield 19, 3) := by decide +kernel
theorem d_Run_doCheck_51 : decode prog_5_method_13_code 51 = .ok (.getfield 150, 3) := by decide +kernel
theorem d_Run_doCheck_54 : decode prog_5_method_13_code 54 = .ok (.iconst 1, 1) := by decide +kernel
theorem d_Run_doCheck_55 : decode prog_5_method_13_code 55 = .ok (.isub, 1) := by decide +kernel
theorem d_Run_doCheck_56 : decode prog_5_method_13_code 56 = .ok (.invokevirtual 153, 3) := by decide +kernel
theorem d_Run_doCheck_59 : decode prog_5_method_13_code 59 = .ok (.iconst 0, 1) := by decide +kernel
theorem d_Run_doCheck_60 : decode prog_5_method_13_code 60 = .ok (.ireturn, 1) := by decide +kernel
theorem d_Run_doCheck_61 : decode prog_5_method_13_code 61 = .ok (.aload_n 0, 1) := by decide +kernel
theorem d_Run_doCheck_62 : decode prog_5_method_13_code 62 = .ok (.aload_n 2, 1) := by decide +kernel
theorem d_Run_doCheck_63 : decode prog_5_method_13_code 63 = .ok (.iconst 0, 1) := by decide +kernel
theorem d_Run_doCheck_64 : decode prog_5_method_13_code 64 = .ok (.invokevirtual 180, 3) := by decide +kernel
theorem d_Run_doCheck_67 : decode prog_5_method_13_code 67 = .ok (.iconst 1, 1) := by decide +kernel
theorem d_Run_doCheck_68 : decode prog_5_method_13_code 68 = .ok (.ireturn, 1) := by decide +kernel
abbrev m_Run_doLoop : MethodName × ByteArray × Nat × Option FieldType := (⟨"TestText$Runner", "doLoop", "(LTestText$Test;LTestText$Step;II)Z"⟩, prog_5_method_5_code, 6, (Option.some FieldType.boolean))
theorem d_Run_doLoop_0 : decode prog_5_method_5_code 0 = .ok (.iconst 0, 1) := by decide +kernel
theorem d_Run_doLoop_1 : decode prog_5_method_5_code 1 = .ok (.istore 5, 2) := by decide +kernel
theorem d_Run_doLoop_3 : decode prog_5_method_5_code 3 = .ok (.iload 5, 2) := by decide +kernel
theorem d_Run_doLoop_5 : decode prog_5_method_5_code 5 = .ok (.aload_n 2, 1) := by decide +kernel
theorem d_Run_doLoop_6 : decode prog_5_method_5_code 6 = .ok (.getfield 132, 3) := by decide +kernel
theorem d_Run_doLoop_9 : decode prog_5_method_5_code 9 = .ok (.if_icmp .ge 26, 3) := by decide +kernel
theorem d_Run_doLoop_12 : decode prog_5_method_5_code 12 = .ok (.aload_n 0, 1) := by decide +kernel
theorem d_Run_doLoop_13 : decode prog_5_method_5_code 13 = .ok (.aload_n 1, 1) := by decide +kernel
theorem d_Run_doLoop_14 : decode prog_5_method_5_code 14 = .ok (.iload_n 3, 1) := by decide +kernel
theorem d_Run_doLoop_15 : decode prog_5_method_5_code 15 = .ok (.aload_n 2, 1) := by decide +kernel
theorem d_Run_doLoop_16 : decode prog_5_method_5_code 16 = .ok (.getfield 93, 3) := by decide +kernel
theorem d_Run_doLoop_19 : decode prog_5_method_5_code 19 = .ok (.iload 4, 2) := by decide +kernel
theorem d_Run_doLoop_21 : decode prog_5_method_5_code 21 = .ok (.invokevirtual 65, 3) := by decide +kernel
theorem d_Run_doLoop_24 : decode prog_5_method_5_code 24 = .ok (.ifCond .ne 5, 3) := by decide +kernel
theorem d_Run_doLoop_27 : decode prog_5_method_5_code 27 = .ok (.iconst 0, 1) := by decide +kernel
theorem d_Run_doLoop_28 : decode prog_5_method_5_code 28 = .ok (.ireturn, 1) := by decide +kernel
theorem d_Run_doLoop_29 : decode prog_5_method_5_code 29 = .ok (.iinc 5 1, 3) := by decide +kernel
theorem d_Run_doLoop_32 : decode prog_5_method_5_code 32 = .ok (.goto (-29), 3) := by decide +kernel
theorem d_Run_doLoop_35 : decode prog_5_method_5_code 35 = .ok (.iconst 1, 1) := by decide +kernel
theorem d_Run_doLoop_36 : decode prog_5_method_5_code 36 = .ok (.ireturn, 1) := by decide +kernel
abbrev m_Run_doCases : MethodName × ByteArray × Nat × Option FieldType := (⟨"TestText$Runner", "doCases", "(LTestText$Test;LTestText$Step;II)Z"⟩, prog_5_method_6_code, 6, (Option.some FieldType.boolean))
theorem d_Run_doCases_0 : decode prog_5_method_6_code 0 = .ok (.iconst 0, 1) := by decide +kernel
theorem d_Run_doCases_1 : decode prog_5_method_6_code 1 = .ok (.istore 5, 2) := by decide +kernel
theorem d_Run_doCases_3 : decode prog_5_method_6_code 3 = .ok (.iload 5, 2) := by decide +kernel
theorem d_Run_doCases_5 : decode prog_5_method_6_code 5 = .ok (.aload_n 2, 1) := by decide +kernel
theorem d_Run_doCases_6 : decode prog_5_method_6_code 6 = .ok (.getfield 135, 3) := by decide +kernel
theorem d_Run_doCases_9 : decode prog_5_method_6_code 9 = .ok (.arraylength, 1) := by decide +kernel
theorem d_Run_doCases_10 : decode prog_5_method_6_code 10 = .ok (.if_icmp .ge 48, 3) := by decide +kernel
theorem d_Run_doCases_13 : decode prog_5_method_6_code 13 = .ok (.aload_n 0, 1) := by decide +kernel
theorem d_Run_doCases_14 : decode prog_5_method_6_code 14 = .ok (.aload_n 1, 1) := by decide +kernel
theorem d_Run_doCases_15 : decode prog_5_method_6_code 15 = .ok (.invokevirtual 138, 3) := by decide +kernel
theorem d_Run_doCases_18 : decode prog_5_method_6_code 18 = .ok (.ifCond .ne 5, 3) := by decide +kernel
theorem d_Run_doCases_21 : decode prog_5_method_6_code 21 = .ok (.iconst 0, 1) := by decide +kernel
theorem d_Run_doCases_22 : decode prog_5_method_6_code 22 = .ok (.ireturn, 1) := by decide +kernel
theorem d_Run_doCases_23 : decode prog_5_method_6_code 23 = .ok (.aload_n 0, 1) := by decide +kernel
theorem d_Run_doCases_24 : decode prog_5_method_6_code 24 = .ok (.aload_n 2, 1) := by decide +kernel
theorem d_Run_doCases_25 : decode prog_5_method_6_code 25 = .ok (.aload_n 2, 1) := by decide +kernel
theorem d_Run_doCases_26 : decode prog_5_method_6_code 26 = .ok (.getfield 135, 3) := by decide +kernel
theorem d_Run_doCases_29 : decode prog_5_method_6_code 29 = .ok (.iload 5, 2) := by decide +kernel
theorem d_Run_doCases_31 : decode prog_5_method_6_code 31 = .ok (.iaload, 1) := by decide +kernel
theorem d_Run_doCases_32 : decode prog_5_method_6_code 32 = .ok (.invokevirtual 142, 3) := by decide +kernel
theorem d_Run_doCases_35 : decode prog_5_method_6_code 35 = .ok (.aload_n 0, 1) := by decide +kernel
theorem d_Run_doCases_36 : decode prog_5_method_6_code 36 = .ok (.aload_n 1, 1) := by decide +kernel
theorem d_Run_doCases_37 : decode prog_5_method_6_code 37 = .ok (.iload_n 3, 1) := by decide +kernel
theorem d_Run_doCases_38 : decode prog_5_method_6_code 38 = .ok (.aload_n 2, 1) := by decide +kernel
theorem d_Run_doCases_39 : decode prog_5_method_6_code 39 = .ok (.getfield 93, 3) := by decide +kernel
theorem d_Run_doCases_42 : decode prog_5_method_6_code 42 = .ok (.iload 4, 2) := by decide +kernel
theorem d_Run_doCases_44 : decode prog_5_method_6_code 44 = .ok (.invokevirtual 65, 3) := by decide +kernel
theorem d_Run_doCases_47 : decode prog_5_method_6_code 47 = .ok (.ifCond .ne 5, 3) := by decide +kernel
theorem d_Run_doCases_50 : decode prog_5_method_6_code 50 = .ok (.iconst 0, 1) := by decide +kernel
theorem d_Run_doCases_51 : decode prog_5_method_6_code 51 = .ok (.ireturn, 1) := by decide +kernel
theorem d_Run_doCases_52 : decode prog_5_method_6_code 52 = .ok (.iinc 5 1, 3) := by decide +kernel
theorem d_Run_doCases_55 : decode prog_5_method_6_code 55 = .ok (.goto (-52), 3) := by decide +kernel
theorem d_Run_doCases_58 : decode prog_5_method_6_code 58 = .ok (.iconst 1, 1) := by decide +kernel
theorem d_Run_doCases_59 : decode prog_5_method_6_code 59 = .ok (.ireturn, 1) := by decide +kernel
abbrev m_Run_undoFaults : MethodName × ByteArray × Nat × Option FieldType := (⟨"TestText$Runner", "undoFaults", "()V"⟩, prog_5_method_3_code, 2, (Option.none : Option FieldType))
theorem d_Run_undoFaults_0 : decode prog_5_method_3_code 0 = .ok (.iconst 1, 1) := by decide +kernel
theorem d_Run_undoFaults_1 : decode prog_5_method_3_code 1 = .ok (.istore_n 1, 1) := by decide +kernel
theorem d_Run_undoFaults_2 : decode prog_5_method_3_code 2 = .ok (.iload_n 1, 1) := by decide +kernel
theorem d_Run_undoFaults_3 : decode prog_5_method_3_code 3 = .ok (.bipush 8, 2) := by decide +kernel
theorem d_Run_undoFaults_5 : decode prog_5_method_3_code 5 = .ok (.if_icmp .gt 35, 3) := by decide +kernel
theorem d_Run_undoFaults_8 : decode prog_5_method_3_code 8 = .ok (.aload_n 0, 1) := by decide +kernel
theorem d_Run_undoFaults_9 : decode prog_5_method_3_code 9 = .ok (.getfield 46, 3) := by decide +kernel
theorem d_Run_undoFaults_12 : decode prog_5_method_3_code 12 = .ok (.aload_n 0, 1) := by decide +kernel
theorem d_Run_undoFaults_13 : decode prog_5_method_3_code 13 = .ok (.getfield 27, 3) := by decide +kernel
theorem d_Run_undoFaults_16 : decode prog_5_method_3_code 16 = .ok (.iconst (-1), 1) := by decide +kernel
theorem d_Run_undoFaults_17 : decode prog_5_method_3_code 17 = .ok (.ixor, 1) := by decide +kernel
theorem d_Run_undoFaults_18 : decode prog_5_method_3_code 18 = .ok (.iand, 1) := by decide +kernel
theorem d_Run_undoFaults_19 : decode prog_5_method_3_code 19 = .ok (.iconst 1, 1) := by decide +kernel
theorem d_Run_undoFaults_20 : decode prog_5_method_3_code 20 = .ok (.iload_n 1, 1) := by decide +kernel
theorem d_Run_undoFaults_21 : decode prog_5_method_3_code 21 = .ok (.ishl, 1) := by decide +kernel
theorem d_Run_undoFaults_22 : decode prog_5_method_3_code 22 = .ok (.iand, 1) := by decide +kernel
theorem d_Run_undoFaults_23 : decode prog_5_method_3_code 23 = .ok (.ifCond .eq 11, 3) := by decide +kernel
theorem d_Run_undoFaults_26 : decode prog_5_method_3_code 26 = .ok (.aload_n 0, 1) := by decide +kernel
theorem d_Run_undoFaults_27 : decode prog_5_method_3_code 27 = .ok (.getfield 19, 3) := by decide +kernel
theorem d_Run_undoFaults_30 : decode prog_5_method_3_code 30 = .ok (.iload_n 1, 1) := by decide +kernel
theorem d_Run_undoFaults_31 : decode prog_5_method_3_code 31 = .ok (.invokevirtual 103, 3) := by decide +kernel
theorem d_Run_undoFaults_34 : decode prog_5_method_3_code 34 = .ok (.iinc 1 1, 3) := by decide +kernel
theorem d_Run_undoFaults_37 : decode prog_5_method_3_code 37 = .ok (.goto (-35), 3) := by decide +kernel
theorem d_Run_undoFaults_40 : decode prog_5_method_3_code 40 = .ok (.return_, 1) := by decide +kernel
