abbrev m_Mo_setting : MethodName × ByteArray × Nat × Option FieldType := (⟨"TestTextModel", "setting", "(IJ)V"⟩, prog_11_method_27_code, 4, (Option.none : Option FieldType))
theorem d_Mo_setting_0 : decode prog_11_method_27_code 0 = .ok (.aload_n 0, 1) := by decide +kernel
theorem d_Mo_setting_1 : decode prog_11_method_27_code 1 = .ok (.iload_n 1, 1) := by decide +kernel
theorem d_Mo_setting_2 : decode prog_11_method_27_code 2 = .ok (.invokevirtual 259, 3) := by decide +kernel
theorem d_Mo_setting_5 : decode prog_11_method_27_code 5 = .ok (.ifCond .ne 4, 3) := by decide +kernel
theorem d_Mo_setting_8 : decode prog_11_method_27_code 8 = .ok (.return_, 1) := by decide +kernel
theorem d_Mo_setting_9 : decode prog_11_method_27_code 9 = .ok (.aload_n 0, 1) := by decide +kernel
theorem d_Mo_setting_10 : decode prog_11_method_27_code 10 = .ok (.iload_n 1, 1) := by decide +kernel
theorem d_Mo_setting_11 : decode prog_11_method_27_code 11 = .ok (.lload_n 2, 1) := by decide +kernel
theorem d_Mo_setting_12 : decode prog_11_method_27_code 12 = .ok (.invokevirtual 262, 3) := by decide +kernel
theorem d_Mo_setting_15 : decode prog_11_method_27_code 15 = .ok (.aload_n 0, 1) := by decide +kernel
theorem d_Mo_setting_16 : decode prog_11_method_27_code 16 = .ok (.getfield 118, 3) := by decide +kernel
theorem d_Mo_setting_19 : decode prog_11_method_27_code 19 = .ok (.aload_n 0, 1) := by decide +kernel
theorem d_Mo_setting_20 : decode prog_11_method_27_code 20 = .ok (.getfield 53, 3) := by decide +kernel
theorem d_Mo_setting_23 : decode prog_11_method_27_code 23 = .ok (.iload_n 1, 1) := by decide +kernel
theorem d_Mo_setting_24 : decode prog_11_method_27_code 24 = .ok (.iaload, 1) := by decide +kernel
theorem d_Mo_setting_25 : decode prog_11_method_27_code 25 = .ok (.lload_n 2, 1) := by decide +kernel
theorem d_Mo_setting_26 : decode prog_11_method_27_code 26 = .ok (.lastore, 1) := by decide +kernel
theorem d_Mo_setting_27 : decode prog_11_method_27_code 27 = .ok (.aload_n 0, 1) := by decide +kernel
theorem d_Mo_setting_28 : decode prog_11_method_27_code 28 = .ok (.getfield 121, 3) := by decide +kernel
theorem d_Mo_setting_31 : decode prog_11_method_27_code 31 = .ok (.aload_n 0, 1) := by decide +kernel
theorem d_Mo_setting_32 : decode prog_11_method_27_code 32 = .ok (.getfield 53, 3) := by decide +kernel
theorem d_Mo_setting_35 : decode prog_11_method_27_code 35 = .ok (.iload_n 1, 1) := by decide +kernel
theorem d_Mo_setting_36 : decode prog_11_method_27_code 36 = .ok (.iaload, 1) := by decide +kernel
theorem d_Mo_setting_37 : decode prog_11_method_27_code 37 = .ok (.aload_n 0, 1) := by decide +kernel
theorem d_Mo_setting_38 : decode prog_11_method_27_code 38 = .ok (.getfield 243, 3) := by decide +kernel
theorem d_Mo_setting_41 : decode prog_11_method_27_code 41 = .ok (.lastore, 1) := by decide +kernel
theorem d_Mo_setting_42 : decode prog_11_method_27_code 42 = .ok (.return_, 1) := by decide +kernel
abbrev m_Mo_begin : MethodName × ByteArray × Nat × Option FieldType := (⟨"TestTextModel", "begin", "(I)Z"⟩, prog_11_method_25_code, 3, (Option.some FieldType.boolean))
theorem d_Mo_begin_0 : decode prog_11_method_25_code 0 = .ok (.aload_n 0, 1) := by decide +kernel
theorem d_Mo_begin_1 : decode prog_11_method_25_code 1 = .ok (.getfield 232, 3) := by decide +kernel
theorem d_Mo_begin_4 : decode prog_11_method_25_code 4 = .ok (.iconst 1, 1) := by decide +kernel
theorem d_Mo_begin_5 : decode prog_11_method_25_code 5 = .ok (.isub, 1) := by decide +kernel
theorem d_Mo_begin_6 : decode prog_11_method_25_code 6 = .ok (.istore_n 2, 1) := by decide +kernel
theorem d_Mo_begin_7 : decode prog_11_method_25_code 7 = .ok (.aload_n 0, 1) := by decide +kernel
theorem d_Mo_begin_8 : decode prog_11_method_25_code 8 = .ok (.getfield 100, 3) := by decide +kernel
theorem d_Mo_begin_11 : decode prog_11_method_25_code 11 = .ok (.iload_n 2, 1) := by decide +kernel
theorem d_Mo_begin_12 : decode prog_11_method_25_code 12 = .ok (.iaload, 1) := by decide +kernel
theorem d_Mo_begin_13 : decode prog_11_method_25_code 13 = .ok (.sipush 2000, 3) := by decide +kernel
theorem d_Mo_begin_16 : decode prog_11_method_25_code 16 = .ok (.if_icmp .ne 10, 3) := by decide +kernel
theorem d_Mo_begin_19 : decode prog_11_method_25_code 19 = .ok (.aload_n 0, 1) := by decide +kernel
theorem d_Mo_begin_20 : decode prog_11_method_25_code 20 = .ok (.iconst 2, 1) := by decide +kernel
theorem d_Mo_begin_21 : decode prog_11_method_25_code 21 = .ok (.putfield 253, 3) := by decide +kernel
theorem d_Mo_begin_24 : decode prog_11_method_25_code 24 = .ok (.iconst 0, 1) := by decide +kernel
theorem d_Mo_begin_25 : decode prog_11_method_25_code 25 = .ok (.ireturn, 1) := by decide +kernel
theorem d_Mo_begin_26 : decode prog_11_method_25_code 26 = .ok (.aload_n 0, 1) := by decide +kernel
theorem d_Mo_begin_27 : decode prog_11_method_25_code 27 = .ok (.getfield 74, 3) := by decide +kernel
theorem d_Mo_begin_30 : decode prog_11_method_25_code 30 = .ok (.iload_n 1, 1) := by decide +kernel
theorem d_Mo_begin_31 : decode prog_11_method_25_code 31 = .ok (.iconst 1, 1) := by decide +kernel
theorem d_Mo_begin_32 : decode prog_11_method_25_code 32 = .ok (.bastore, 1) := by decide +kernel
theorem d_Mo_begin_33 : decode prog_11_method_25_code 33 = .ok (.aload_n 0, 1) := by decide +kernel
theorem d_Mo_begin_34 : decode prog_11_method_25_code 34 = .ok (.aload_n 0, 1) := by decide +kernel
theorem d_Mo_begin_35 : decode prog_11_method_25_code 35 = .ok (.getfield 50, 3) := by decide +kernel
theorem d_Mo_begin_38 : decode prog_11_method_25_code 38 = .ok (.iload_n 1, 1) := by decide +kernel
theorem d_Mo_begin_39 : decode prog_11_method_25_code 39 = .ok (.iaload, 1) := by decide +kernel
theorem d_Mo_begin_40 : decode prog_11_method_25_code 40 = .ok (.putfield 256, 3) := by decide +kernel
theorem d_Mo_begin_43 : decode prog_11_method_25_code 43 = .ok (.iconst 1, 1) := by decide +kernel
theorem d_Mo_begin_44 : decode prog_11_method_25_code 44 = .ok (.ireturn, 1) := by decide +kernel
abbrev m_Mo_row : MethodName × ByteArray × Nat × Option FieldType := (⟨"TestTextModel", "row", "(IJ)V"⟩, prog_11_method_26_code, 5, (Option.none : Option FieldType))
theorem d_Mo_row_0 : decode prog_11_method_26_code 0 = .ok (.sipush 2000, 3) := by decide +kernel
theorem d_Mo_row_3 : decode prog_11_method_26_code 3 = .ok (.aload_n 0, 1) := by decide +kernel
theorem d_Mo_row_4 : decode prog_11_method_26_code 4 = .ok (.getfield 232, 3) := by decide +kernel
theorem d_Mo_row_7 : decode prog_11_method_26_code 7 = .ok (.iconst 1, 1) := by decide +kernel
theorem d_Mo_row_8 : decode prog_11_method_26_code 8 = .ok (.isub, 1) := by decide +kernel
theorem d_Mo_row_9 : decode prog_11_method_26_code 9 = .ok (.imul, 1) := by decide +kernel
theorem d_Mo_row_10 : decode prog_11_method_26_code 10 = .ok (.aload_n 0, 1) := by decide +kernel
theorem d_Mo_row_11 : decode prog_11_method_26_code 11 = .ok (.getfield 100, 3) := by decide +kernel
theorem d_Mo_row_14 : decode prog_11_method_26_code 14 = .ok (.aload_n 0, 1) := by decide +kernel
theorem d_Mo_row_15 : decode prog_11_method_26_code 15 = .ok (.getfield 232, 3) := by decide +kernel
theorem d_Mo_row_18 : decode prog_11_method_26_code 18 = .ok (.iconst 1, 1) := by decide +kernel
theorem d_Mo_row_19 : decode prog_11_method_26_code 19 = .ok (.isub, 1) := by decide +kernel
theorem d_Mo_row_20 : decode prog_11_method_26_code 20 = .ok (.iaload, 1) := by decide +kernel
theorem d_Mo_row_21 : decode prog_11_method_26_code 21 = .ok (.iadd, 1) := by decide +kernel
theorem d_Mo_row_22 : decode prog_11_method_26_code 22 = .ok (.istore 4, 2) := by decide +kernel
theorem d_Mo_row_24 : decode prog_11_method_26_code 24 = .ok (.aload_n 0, 1) := by decide +kernel
theorem d_Mo_row_25 : decode prog_11_method_26_code 25 = .ok (.getfield 103, 3) := by decide +kernel
theorem d_Mo_row_28 : decode prog_11_method_26_code 28 = .ok (.iload 4, 2) := by decide +kernel
theorem d_Mo_row_30 : decode prog_11_method_26_code 30 = .ok (.aload_n 0, 1) := by decide +kernel
theorem d_Mo_row_31 : decode prog_11_method_26_code 31 = .ok (.getfield 50, 3) := by decide +kernel
theorem d_Mo_row_34 : decode prog_11_method_26_code 34 = .ok (.iload_n 1, 1) := by decide +kernel
theorem d_Mo_row_35 : decode prog_11_method_26_code 35 = .ok (.iaload, 1) := by decide +kernel
theorem d_Mo_row_36 : decode prog_11_method_26_code 36 = .ok (.iastore, 1) := by decide +kernel
theorem d_Mo_row_37 : decode prog_11_method_26_code 37 = .ok (.aload_n 0, 1) := by decide +kernel
theorem d_Mo_row_38 : decode prog_11_method_26_code 38 = .ok (.getfield 106, 3) := by decide +kernel
theorem d_Mo_row_41 : decode prog_11_method_26_code 41 = .ok (.iload 4, 2) := by decide +kernel
theorem d_Mo_row_43 : decode prog_11_method_26_code 43 = .ok (.aload_n 0, 1) := by decide +kernel
theorem d_Mo_row_44 : decode prog_11_method_26_code 44 = .ok (.getfield 243, 3) := by decide +kernel
theorem d_Mo_row_47 : decode prog_11_method_26_code 47 = .ok (.lastore, 1) := by decide +kernel
theorem d_Mo_row_48 : decode prog_11_method_26_code 48 = .ok (.aload_n 0, 1) := by decide +kernel
theorem d_Mo_row_49 : decode prog_11_method_26_code 49 = .ok (.getfield 109, 3) := by decide +kernel
theorem d_Mo_row_52 : decode prog_11_method_26_code 52 = .ok (.iload 4, 2) := by decide +kernel
theorem d_Mo_row_54 : decode prog_11_method_26_code 54 = .ok (.lload_n 2, 1) := by decide +kernel
theorem d_Mo_row_55 : decode prog_11_method_26_code 55 = .ok (.lastore, 1) := by decide +kernel
theorem d_Mo_row_56 : decode prog_11_method_26_code 56 = .ok (.aload_n 0, 1) := by decide +kernel
theorem d_Mo_row_57 : decode prog_11_method_26_code 57 = .ok (.getfield 100, 3) := by decide +kernel
theorem d_Mo_row_60 : decode prog_11_method_26_code 60 = .ok (.aload_n 0, 1) := by decide +kernel
theorem d_Mo_row_61 : decode prog_11_method_26_code 61 = .ok (.getfield 232, 3) := by decide +kernel
theorem d_Mo_row_64 : decode prog_11_method_26_code 64 = .ok (.iconst 1, 1) := by decide +kernel
theorem d_Mo_row_65 : decode prog_11_method_26_code 65 = .ok (.isub, 1) := by decide +kernel
theorem d_Mo_row_66 : decode prog_11_method_26_code 66 = .ok (.dup2, 1) := by decide +kernel
theorem d_Mo_row_67 : decode prog_11_method_26_code 67 = .ok (.iaload, 1) := by decide +kernel
theorem d_Mo_row_68 : decode prog_11_method_26_code 68 = .ok (.iconst 1, 1) := by decide +kernel
theorem d_Mo_row_69 : decode prog_11_method_26_code 69 = .ok (.iadd, 1) := by decide +kernel
theorem d_Mo_row_70 : decode prog_11_method_26_code 70 = .ok (.iastore, 1) := by decide +kernel
theorem d_Mo_row_71 : decode prog_11_method_26_code 71 = .ok (.return_, 1) := by decide +kernel
abbrev m_Mo_simple : MethodName × ByteArray × Nat × Option FieldType := (⟨"TestTextModel", "simple", "(II)V"⟩, prog_11_method_29_code, 5, (Option.none : Option FieldType))
theorem d_Mo_simple_0 : decode prog_11_method_29_code 0 = .ok (.aload_n 0, 1) := by decide +kernel
theorem d_Mo_simple_1 : decode prog_11_method_29_code 1 = .ok (.getfield 47, 3) := by decide +kernel
theorem d_Mo_simple_4 : decode prog_11_method_29_code 4 = .ok (.iload_n 1, 1) := by decide +kernel
theorem d_Mo_simple_5 : decode prog_11_method_29_code 5 = .ok (.iaload, 1) := by decide +kernel
theorem d_Mo_simple_6 : decode prog_11_method_29_code 6 = .ok (.ifCond .ne 17, 3) := by decide +kernel
theorem d_Mo_simple_9 : decode prog_11_method_29_code 9 = .ok (.aload_n 0, 1) := by decide +kernel
theorem d_Mo_simple_10 : decode prog_11_method_29_code 10 = .ok (.iload_n 1, 1) := by decide +kernel
theorem d_Mo_simple_11 : decode prog_11_method_29_code 11 = .ok (.aload_n 0, 1) := by decide +kernel
theorem d_Mo_simple_12 : decode prog_11_method_29_code 12 = .ok (.getfield 56, 3) := by decide +kernel
theorem d_Mo_simple_15 : decode prog_11_method_29_code 15 = .ok (.iload_n 1, 1) := by decide +kernel
theorem d_Mo_simple_16 : decode prog_11_method_29_code 16 = .ok (.laload, 1) := by decide +kernel
theorem d_Mo_simple_17 : decode prog_11_method_29_code 17 = .ok (.invokevirtual 269, 3) := by decide +kernel
theorem d_Mo_simple_20 : decode prog_11_method_29_code 20 = .ok (.goto 251, 3) := by decide +kernel
theorem d_Mo_simple_23 : decode prog_11_method_29_code 23 = .ok (.aload_n 0, 1) := by decide +kernel
theorem d_Mo_simple_24 : decode prog_11_method_29_code 24 = .ok (.getfield 47, 3) := by decide +kernel
theorem d_Mo_simple_27 : decode prog_11_method_29_code 27 = .ok (.iload_n 1, 1) := by decide +kernel
theorem d_Mo_simple_28 : decode prog_11_method_29_code 28 = .ok (.iaload, 1) := by decide +kernel
theorem d_Mo_simple_29 : decode prog_11_method_29_code 29 = .ok (.iconst 1, 1) := by decide +kernel
theorem d_Mo_simple_30 : decode prog_11_method_29_code 30 = .ok (.if_icmp .ne 62, 3) := by decide +kernel
theorem d_Mo_simple_33 : decode prog_11_method_29_code 33 = .ok (.aload_n 0, 1) := by decide +kernel
theorem d_Mo_simple_34 : decode prog_11_method_29_code 34 = .ok (.aload_n 0, 1) := by decide +kernel
theorem d_Mo_simple_35 : decode prog_11_method_29_code 35 = .ok (.getfield 272, 3) := by decide +kernel
theorem d_Mo_simple_38 : decode prog_11_method_29_code 38 = .ok (.ldc2_w 275, 3) := by decide +kernel
theorem d_Mo_simple_41 : decode prog_11_method_29_code 41 = .ok (.lmul, 1) := by decide +kernel
theorem d_Mo_simple_42 : decode prog_11_method_29_code 42 = .ok (.ldc2_w 277, 3) := by decide +kernel
theorem d_Mo_simple_45 : decode prog_11_method_29_code 45 = .ok (.ladd, 1) := by decide +kernel
theorem d_Mo_simple_46 : decode prog_11_method_29_code 46 = .ok (.ldc2_w 279, 3) := by decide +kernel
theorem d_Mo_simple_49 : decode prog_11_method_29_code 49 = .ok (.lrem, 1) := by decide +kernel
theorem d_Mo_simple_50 : decode prog_11_method_29_code 50 = .ok (.putfield 272, 3) := by decide +kernel
theorem d_Mo_simple_53 : decode prog_11_method_29_code 53 = .ok (.aload_n 0, 1) := by decide +kernel
theorem d_Mo_simple_54 : decode prog_11_method_29_code 54 = .ok (.iload_n 1, 1) := by decide +kernel
theorem d_Mo_simple_55 : decode prog_11_method_29_code 55 = .ok (.aload_n 0, 1) := by decide +kernel
theorem d_Mo_simple_56 : decode prog_11_method_29_code 56 = .ok (.getfield 56, 3) := by decide +kernel
theorem d_Mo_simple_59 : decode prog_11_method_29_code 59 = .ok (.iload_n 1, 1) := by decide +kernel
theorem d_Mo_simple_60 : decode prog_11_method_29_code 60 = .ok (.laload, 1) := by decide +kernel
theorem d_Mo_simple_61 : decode prog_11_method_29_code 61 = .ok (.aload_n 0, 1) := by decide +kernel
theorem d_Mo_simple_62 : decode prog_11_method_29_code 62 = .ok (.getfield 272, 3) := by decide +kernel
theorem d_Mo_simple_65 : decode prog_11_method_29_code 65 = .ok (.ldc2_w 281, 3) := by decide +kernel
theorem d_Mo_simple_68 : decode prog_11_method_29_code 68 = .ok (.ldiv, 1) := by decide +kernel
theorem d_Mo_simple_69 : decode prog_11_method_29_code 69 = .ok (.aload_n 0, 1) := by decide +kernel
theorem d_Mo_simple_70 : decode prog_11_method_29_code 70 = .ok (.getfield 59, 3) := by decide +kernel
theorem d_Mo_simple_73 : decode prog_11_method_29_code 73 = .ok (.iload_n 1, 1) := by decide +kernel
theorem d_Mo_simple_74 : decode prog_11_method_29_code 74 = .ok (.laload, 1) := by decide +kernel
theorem d_Mo_simple_75 : decode prog_11_method_29_code 75 = .ok (.aload_n 0, 1) := by decide +kernel
theorem d_Mo_simple_76 : decode prog_11_method_29_code 76 = .ok (.getfield 56, 3) := by decide +kernel
theorem d_Mo_simple_79 : decode prog_11_method_29_code 79 = .ok (.iload_n 1, 1) := by decide +kernel
theorem d_Mo_simple_80 : decode prog_11_method_29_code 80 = .ok (.laload, 1) := by decide +kernel
theorem d_Mo_simple_81 : decode prog_11_method_29_code 81 = .ok (.lsub, 1) := by decide +kernel
theorem d_Mo_simple_82 : decode prog_11_method_29_code 82 = .ok (.lconst 1, 1) := by decide +kernel
theorem d_Mo_simple_83 : decode prog_11_method_29_code 83 = .ok (.ladd, 1) := by decide +kernel
theorem d_Mo_simple_84 : decode prog_11_method_29_code 84 = .ok (.lrem, 1) := by decide +kernel
theorem d_Mo_simple_85 : decode prog_11_method_29_code 85 = .ok (.ladd, 1) := by decide +kernel
theorem d_Mo_simple_86 : decode prog_11_method_29_code 86 = .ok (.invokevirtual 269, 3) := by decide +kernel
theorem d_Mo_simple_89 : decode prog_11_method_29_code 89 = .ok (.goto 182, 3) := by decide +kernel
theorem d_Mo_simple_92 : decode prog_11_method_29_code 92 = .ok (.aload_n 0, 1) := by decide +kernel
theorem d_Mo_simple_93 : decode prog_11_method_29_code 93 = .ok (.iload_n 1, 1) := by decide +kernel
theorem d_Mo_simple_94 : decode prog_11_method_29_code 94 = .ok (.invokevirtual 259, 3) := by decide +kernel
theorem d_Mo_simple_97 : decode prog_11_method_29_code 97 = .ok (.ifCond .eq 174, 3) := by decide +kernel
theorem d_Mo_simple_100 : decode prog_11_method_29_code 100 = .ok (.aload_n 0, 1) := by decide +kernel
theorem d_Mo_simple_101 : decode prog_11_method_29_code 101 = .ok (.getfield 47, 3) := by decide +kernel
theorem d_Mo_simple_104 : decode prog_11_method_29_code 104 = .ok (.iload_n 1, 1) := by decide +kernel
theorem d_Mo_simple_105 : decode prog_11_method_29_code 105 = .ok (.iaload, 1) := by decide +kernel
theorem d_Mo_simple_106 : decode prog_11_method_29_code 106 = .ok (.iconst 3, 1) := by decide +kernel
theorem d_Mo_simple_107 : decode prog_11_method_29_code 107 = .ok (.if_icmp .ne 45, 3) := by decide +kernel
theorem d_Mo_simple_110 : decode prog_11_method_29_code 110 = .ok (.aload_n 0, 1) := by decide +kernel
theorem d_Mo_simple_111 : decode prog_11_method_29_code 111 = .ok (.getfield 243, 3) := by decide +kernel
theorem d_Mo_simple_114 : decode prog_11_method_29_code 114 = .ok (.aload_n 0, 1) := by decide +kernel
theorem d_Mo_simple_115 : decode prog_11_method_29_code 115 = .ok (.getfield 59, 3) := by decide +kernel
theorem d_Mo_simple_118 : decode prog_11_method_29_code 118 = .ok (.iload_n 1, 1) := by decide +kernel
theorem d_Mo_simple_119 : decode prog_11_method_29_code 119 = .ok (.laload, 1) := by decide +kernel
theorem d_Mo_simple_120 : decode prog_11_method_29_code 120 = .ok (.ladd, 1) := by decide +kernel
theorem d_Mo_simple_121 : decode prog_11_method_29_code 121 = .ok (.lstore_n 3, 1) := by decide +kernel
theorem d_Mo_simple_122 : decode prog_11_method_29_code 122 = .ok (.aload_n 0, 1) := by decide +kernel
theorem d_Mo_simple_123 : decode prog_11_method_29_code 123 = .ok (.getfield 243, 3) := by decide +kernel
theorem d_Mo_simple_126 : decode prog_11_method_29_code 126 = .ok (.lload_n 3, 1) := by decide +kernel
theorem d_Mo_simple_127 : decode prog_11_method_29_code 127 = .ok (.lcmp, 1) := by decide +kernel
theorem d_Mo_simple_128 : decode prog_11_method_29_code 128 = .ok (.ifCond .ge 24, 3) := by decide +kernel
theorem d_Mo_simple_131 : decode prog_11_method_29_code 131 = .ok (.aload_n 0, 1) := by decide +kernel
theorem d_Mo_simple_132 : decode prog_11_method_29_code 132 = .ok (.iload_n 1, 1) := by decide +kernel
theorem d_Mo_simple_133 : decode prog_11_method_29_code 133 = .ok (.invokevirtual 283, 3) := by decide +kernel
theorem d_Mo_simple_136 : decode prog_11_method_29_code 136 = .ok (.ifCond .ne 16, 3) := by decide +kernel
theorem d_Mo_simple_139 : decode prog_11_method_29_code 139 = .ok (.aload_n 0, 1) := by decide +kernel
theorem d_Mo_simple_140 : decode prog_11_method_29_code 140 = .ok (.dup, 1) := by decide +kernel
theorem d_Mo_simple_141 : decode prog_11_method_29_code 141 = .ok (.getfield 243, 3) := by decide +kernel
theorem d_Mo_simple_144 : decode prog_11_method_29_code 144 = .ok (.lconst 1, 1) := by decide +kernel
theorem d_Mo_simple_145 : decode prog_11_method_29_code 145 = .ok (.ladd, 1) := by decide +kernel
theorem d_Mo_simple_146 : decode prog_11_method_29_code 146 = .ok (.putfield 243, 3) := by decide +kernel
theorem d_Mo_simple_149 : decode prog_11_method_29_code 149 = .ok (.goto (-27), 3) := by decide +kernel
theorem d_Mo_simple_152 : decode prog_11_method_29_code 152 = .ok (.aload_n 0, 1) := by decide +kernel
theorem d_Mo_simple_153 : decode prog_11_method_29_code 153 = .ok (.iload_n 1, 1) := by decide +kernel
theorem d_Mo_simple_154 : decode prog_11_method_29_code 154 = .ok (.lconst 0, 1) := by decide +kernel
theorem d_Mo_simple_155 : decode prog_11_method_29_code 155 = .ok (.invokevirtual 262, 3) := by decide +kernel
theorem d_Mo_simple_158 : decode prog_11_method_29_code 158 = .ok (.aload_n 0, 1) := by decide +kernel
theorem d_Mo_simple_159 : decode prog_11_method_29_code 159 = .ok (.getfield 47, 3) := by decide +kernel
theorem d_Mo_simple_162 : decode prog_11_method_29_code 162 = .ok (.iload_n 1, 1) := by decide +kernel
theorem d_Mo_simple_163 : decode prog_11_method_29_code 163 = .ok (.iaload, 1) := by decide +kernel
theorem d_Mo_simple_164 : decode prog_11_method_29_code 164 = .ok (.iconst 4, 1) := by decide +kernel
theorem d_Mo_simple_165 : decode prog_11_method_29_code 165 = .ok (.if_icmp .ne 31, 3) := by decide +kernel
theorem d_Mo_simple_168 : decode prog_11_method_29_code 168 = .ok (.aload_n 0, 1) := by decide +kernel
theorem d_Mo_simple_169 : decode prog_11_method_29_code 169 = .ok (.getfield 115, 3) := by decide +kernel
theorem d_Mo_simple_172 : decode prog_11_method_29_code 172 = .ok (.aload_n 0, 1) := by decide +kernel
theorem d_Mo_simple_173 : decode prog_11_method_29_code 173 = .ok (.getfield 56, 3) := by decide +kernel
theorem d_Mo_simple_176 : decode prog_11_method_29_code 176 = .ok (.iload_n 1, 1) := by decide +kernel
theorem d_Mo_simple_177 : decode prog_11_method_29_code 177 = .ok (.laload, 1) := by decide +kernel
theorem d_Mo_simple_178 : decode prog_11_method_29_code 178 = .ok (.l2i, 1) := by decide +kernel
theorem d_Mo_simple_179 : decode prog_11_method_29_code 179 = .ok (.aload_n 0, 1) := by decide +kernel
theorem d_Mo_simple_180 : decode prog_11_method_29_code 180 = .ok (.getfield 59, 3) := by decide +kernel
theorem d_Mo_simple_183 : decode prog_11_method_29_code 183 = .ok (.iload_n 1, 1) := by decide +kernel
theorem d_Mo_simple_184 : decode prog_11_method_29_code 184 = .ok (.laload, 1) := by decide +kernel
theorem d_Mo_simple_185 : decode prog_11_method_29_code 185 = .ok (.lconst 1, 1) := by decide +kernel
theorem d_Mo_simple_186 : decode prog_11_method_29_code 186 = .ok (.lcmp, 1) := by decide +kernel
theorem d_Mo_simple_187 : decode prog_11_method_29_code 187 = .ok (.ifCond .ne 7, 3) := by decide +kernel
theorem d_Mo_simple_190 : decode prog_11_method_29_code 190 = .ok (.iconst 1, 1) := by decide +kernel
theorem d_Mo_simple_191 : decode prog_11_method_29_code 191 = .ok (.goto 4, 3) := by decide +kernel
theorem d_Mo_simple_194 : decode prog_11_method_29_code 194 = .ok (.iconst 0, 1) := by decide +kernel
theorem d_Mo_simple_195 : decode prog_11_method_29_code 195 = .ok (.bastore, 1) := by decide +kernel
theorem d_Mo_simple_196 : decode prog_11_method_29_code 196 = .ok (.aload_n 0, 1) := by decide +kernel
theorem d_Mo_simple_197 : decode prog_11_method_29_code 197 = .ok (.getfield 47, 3) := by decide +kernel
theorem d_Mo_simple_200 : decode prog_11_method_29_code 200 = .ok (.iload_n 1, 1) := by decide +kernel
theorem d_Mo_simple_201 : decode prog_11_method_29_code 201 = .ok (.iaload, 1) := by decide +kernel
theorem d_Mo_simple_202 : decode prog_11_method_29_code 202 = .ok (.iconst 2, 1) := by decide +kernel
theorem d_Mo_simple_203 : decode prog_11_method_29_code 203 = .ok (.if_icmp .ne 39, 3) := by decide +kernel
theorem d_Mo_simple_206 : decode prog_11_method_29_code 206 = .ok (.aload_n 0, 1) := by decide +kernel
theorem d_Mo_simple_207 : decode prog_11_method_29_code 207 = .ok (.aload_n 0, 1) := by decide +kernel
theorem d_Mo_simple_208 : decode prog_11_method_29_code 208 = .ok (.iload_n 1, 1) := by decide +kernel
theorem d_Mo_simple_209 : decode prog_11_method_29_code 209 = .ok (.invokevirtual 283, 3) := by decide +kernel
theorem d_Mo_simple_212 : decode prog_11_method_29_code 212 = .ok (.ifCond .ne 7, 3) := by decide +kernel
theorem d_Mo_simple_215 : decode prog_11_method_29_code 215 = .ok (.iconst 1, 1) := by decide +kernel
theorem d_Mo_simple_216 : decode prog_11_method_29_code 216 = .ok (.goto 4, 3) := by decide +kernel
theorem d_Mo_simple_219 : decode prog_11_method_29_code 219 = .ok (.iconst 0, 1) := by decide +kernel
theorem d_Mo_simple_220 : decode prog_11_method_29_code 220 = .ok (.aload_n 0, 1) := by decide +kernel
theorem d_Mo_simple_221 : decode prog_11_method_29_code 221 = .ok (.aload_n 0, 1) := by decide +kernel
theorem d_Mo_simple_222 : decode prog_11_method_29_code 222 = .ok (.getfield 53, 3) := by decide +kernel
theorem d_Mo_simple_225 : decode prog_11_method_29_code 225 = .ok (.iload_n 1, 1) := by decide +kernel
theorem d_Mo_simple_226 : decode prog_11_method_29_code 226 = .ok (.iaload, 1) := by decide +kernel
theorem d_Mo_simple_227 : decode prog_11_method_29_code 227 = .ok (.invokevirtual 250, 3) := by decide +kernel
theorem d_Mo_simple_230 : decode prog_11_method_29_code 230 = .ok (.ifCond .eq 7, 3) := by decide +kernel
theorem d_Mo_simple_233 : decode prog_11_method_29_code 233 = .ok (.iconst 1, 1) := by decide +kernel
theorem d_Mo_simple_234 : decode prog_11_method_29_code 234 = .ok (.goto 4, 3) := by decide +kernel
theorem d_Mo_simple_237 : decode prog_11_method_29_code 237 = .ok (.iconst 2, 1) := by decide +kernel
theorem d_Mo_simple_238 : decode prog_11_method_29_code 238 = .ok (.iload_n 2, 1) := by decide +kernel
theorem d_Mo_simple_239 : decode prog_11_method_29_code 239 = .ok (.invokevirtual 286, 3) := by decide +kernel
theorem d_Mo_simple_242 : decode prog_11_method_29_code 242 = .ok (.aload_n 0, 1) := by decide +kernel
theorem d_Mo_simple_243 : decode prog_11_method_29_code 243 = .ok (.getfield 47, 3) := by decide +kernel
theorem d_Mo_simple_246 : decode prog_11_method_29_code 246 = .ok (.iload_n 1, 1) := by decide +kernel
theorem d_Mo_simple_247 : decode prog_11_method_29_code 247 = .ok (.iaload, 1) := by decide +kernel
theorem d_Mo_simple_248 : decode prog_11_method_29_code 248 = .ok (.iconst 3, 1) := by decide +kernel
theorem d_Mo_simple_249 : decode prog_11_method_29_code 249 = .ok (.if_icmp .ne 22, 3) := by decide +kernel
theorem d_Mo_simple_252 : decode prog_11_method_29_code 252 = .ok (.aload_n 0, 1) := by decide +kernel
theorem d_Mo_simple_253 : decode prog_11_method_29_code 253 = .ok (.aload_n 0, 1) := by decide +kernel
theorem d_Mo_simple_254 : decode prog_11_method_29_code 254 = .ok (.iload_n 1, 1) := by decide +kernel
theorem d_Mo_simple_255 : decode prog_11_method_29_code 255 = .ok (.invokevirtual 283, 3) := by decide +kernel
theorem d_Mo_simple_258 : decode prog_11_method_29_code 258 = .ok (.ifCond .ne 7, 3) := by decide +kernel
theorem d_Mo_simple_261 : decode prog_11_method_29_code 261 = .ok (.iconst 1, 1) := by decide +kernel
theorem d_Mo_simple_262 : decode prog_11_method_29_code 262 = .ok (.goto 4, 3) := by decide +kernel
theorem d_Mo_simple_265 : decode prog_11_method_29_code 265 = .ok (.iconst 0, 1) := by decide +kernel
theorem d_Mo_simple_266 : decode prog_11_method_29_code 266 = .ok (.iconst 1, 1) := by decide +kernel
theorem d_Mo_simple_267 : decode prog_11_method_29_code 267 = .ok (.iload_n 2, 1) := by decide +kernel
theorem d_Mo_simple_268 : decode prog_11_method_29_code 268 = .ok (.invokevirtual 286, 3) := by decide +kernel
theorem d_Mo_simple_271 : decode prog_11_method_29_code 271 = .ok (.return_, 1) := by decide +kernel
abbrev m_Mo_holds : MethodName × ByteArray × Nat × Option FieldType := (⟨"TestTextModel", "holds", "(I)Z"⟩, prog_11_method_24_code, 8, (Option.some FieldType.boolean))
theorem d_Mo_holds_0 : decode prog_11_method_24_code 0 = .ok (.aload_n 0, 1) := by decide +kernel
theorem d_Mo_holds_1 : decode prog_11_method_24_code 1 = .ok (.getfield 53, 3) := by decide +kernel
theorem d_Mo_holds_4 : decode prog_11_method_24_code 4 = .ok (.iload_n 1, 1) := by decide +kernel
theorem d_Mo_holds_5 : decode prog_11_method_24_code 5 = .ok (.iaload, 1) := by decide +kernel
theorem d_Mo_holds_6 : decode prog_11_method_24_code 6 = .ok (.istore_n 2, 1) := by decide +kernel
theorem d_Mo_holds_7 : decode prog_11_method_24_code 7 = .ok (.aload_n 0, 1) := by decide +kernel
theorem d_Mo_holds_8 : decode prog_11_method_24_code 8 = .ok (.iload_n 2, 1) := by decide +kernel
theorem d_Mo_holds_9 : decode prog_11_method_24_code 9 = .ok (.invokevirtual 250, 3) := by decide +kernel
theorem d_Mo_holds_12 : decode prog_11_method_24_code 12 = .ok (.ifCond .ne 5, 3) := by decide +kernel
theorem d_Mo_holds_15 : decode prog_11_method_24_code 15 = .ok (.iconst 0, 1) := by decide +kernel
theorem d_Mo_holds_16 : decode prog_11_method_24_code 16 = .ok (.ireturn, 1) := by decide +kernel
theorem d_Mo_holds_17 : decode prog_11_method_24_code 17 = .ok (.aload_n 0, 1) := by decide +kernel
theorem d_Mo_holds_18 : decode prog_11_method_24_code 18 = .ok (.iload_n 2, 1) := by decide +kernel
theorem d_Mo_holds_19 : decode prog_11_method_24_code 19 = .ok (.invokevirtual 246, 3) := by decide +kernel
theorem d_Mo_holds_22 : decode prog_11_method_24_code 22 = .ok (.istore_n 3, 1) := by decide +kernel
theorem d_Mo_holds_23 : decode prog_11_method_24_code 23 = .ok (.iload_n 3, 1) := by decide +kernel
theorem d_Mo_holds_24 : decode prog_11_method_24_code 24 = .ok (.ifCond .lt 12, 3) := by decide +kernel
theorem d_Mo_holds_27 : decode prog_11_method_24_code 27 = .ok (.aload_n 0, 1) := by decide +kernel
theorem d_Mo_holds_28 : decode prog_11_method_24_code 28 = .ok (.getfield 87, 3) := by decide +kernel
theorem d_Mo_holds_31 : decode prog_11_method_24_code 31 = .ok (.iload_n 3, 1) := by decide +kernel
theorem d_Mo_holds_32 : decode prog_11_method_24_code 32 = .ok (.laload, 1) := by decide +kernel
theorem d_Mo_holds_33 : decode prog_11_method_24_code 33 = .ok (.goto 9, 3) := by decide +kernel
theorem d_Mo_holds_36 : decode prog_11_method_24_code 36 = .ok (.aload_n 0, 1) := by decide +kernel
theorem d_Mo_holds_37 : decode prog_11_method_24_code 37 = .ok (.getfield 118, 3) := by decide +kernel
theorem d_Mo_holds_40 : decode prog_11_method_24_code 40 = .ok (.iload_n 2, 1) := by decide +kernel
theorem d_Mo_holds_41 : decode prog_11_method_24_code 41 = .ok (.laload, 1) := by decide +kernel
theorem d_Mo_holds_42 : decode prog_11_method_24_code 42 = .ok (.lstore 4, 2) := by decide +kernel
theorem d_Mo_holds_44 : decode prog_11_method_24_code 44 = .ok (.aload_n 0, 1) := by decide +kernel
theorem d_Mo_holds_45 : decode prog_11_method_24_code 45 = .ok (.getfield 56, 3) := by decide +kernel
theorem d_Mo_holds_48 : decode prog_11_method_24_code 48 = .ok (.iload_n 1, 1) := by decide +kernel
theorem d_Mo_holds_49 : decode prog_11_method_24_code 49 = .ok (.laload, 1) := by decide +kernel
theorem d_Mo_holds_50 : decode prog_11_method_24_code 50 = .ok (.lstore 6, 2) := by decide +kernel
theorem d_Mo_holds_52 : decode prog_11_method_24_code 52 = .ok (.aload_n 0, 1) := by decide +kernel
theorem d_Mo_holds_53 : decode prog_11_method_24_code 53 = .ok (.getfield 62, 3) := by decide +kernel
theorem d_Mo_holds_56 : decode prog_11_method_24_code 56 = .ok (.iload_n 1, 1) := by decide +kernel
theorem d_Mo_holds_57 : decode prog_11_method_24_code 57 = .ok (.iaload, 1) := by decide +kernel
theorem d_Mo_holds_58 : decode prog_11_method_24_code 58 = .ok (.bipush 61, 2) := by decide +kernel
theorem d_Mo_holds_60 : decode prog_11_method_24_code 60 = .ok (.if_icmp .ne 19, 3) := by decide +kernel
theorem d_Mo_holds_63 : decode prog_11_method_24_code 63 = .ok (.lload 4, 2) := by decide +kernel
theorem d_Mo_holds_65 : decode prog_11_method_24_code 65 = .ok (.lload 6, 2) := by decide +kernel
theorem d_Mo_holds_67 : decode prog_11_method_24_code 67 = .ok (.lcmp, 1) := by decide +kernel
theorem d_Mo_holds_68 : decode prog_11_method_24_code 68 = .ok (.ifCond .ne 7, 3) := by decide +kernel
theorem d_Mo_holds_71 : decode prog_11_method_24_code 71 = .ok (.iconst 1, 1) := by decide +kernel
theorem d_Mo_holds_72 : decode prog_11_method_24_code 72 = .ok (.goto 74, 3) := by decide +kernel
theorem d_Mo_holds_75 : decode prog_11_method_24_code 75 = .ok (.iconst 0, 1) := by decide +kernel
theorem d_Mo_holds_76 : decode prog_11_method_24_code 76 = .ok (.goto 70, 3) := by decide +kernel
theorem d_Mo_holds_79 : decode prog_11_method_24_code 79 = .ok (.aload_n 0, 1) := by decide +kernel
theorem d_Mo_holds_80 : decode prog_11_method_24_code 80 = .ok (.getfield 62, 3) := by decide +kernel
theorem d_Mo_holds_83 : decode prog_11_method_24_code 83 = .ok (.iload_n 1, 1) := by decide +kernel
theorem d_Mo_holds_84 : decode prog_11_method_24_code 84 = .ok (.iaload, 1) := by decide +kernel
theorem d_Mo_holds_85 : decode prog_11_method_24_code 85 = .ok (.bipush 60, 2) := by decide +kernel
theorem d_Mo_holds_87 : decode prog_11_method_24_code 87 = .ok (.if_icmp .ne 19, 3) := by decide +kernel
theorem d_Mo_holds_90 : decode prog_11_method_24_code 90 = .ok (.lload 4, 2) := by decide +kernel
theorem d_Mo_holds_92 : decode prog_11_method_24_code 92 = .ok (.lload 6, 2) := by decide +kernel
theorem d_Mo_holds_94 : decode prog_11_method_24_code 94 = .ok (.lcmp, 1) := by decide +kernel
theorem d_Mo_holds_95 : decode prog_11_method_24_code 95 = .ok (.ifCond .ge 7, 3) := by decide +kernel
theorem d_Mo_holds_98 : decode prog_11_method_24_code 98 = .ok (.iconst 1, 1) := by decide +kernel
theorem d_Mo_holds_99 : decode prog_11_method_24_code 99 = .ok (.goto 47, 3) := by decide +kernel
theorem d_Mo_holds_102 : decode prog_11_method_24_code 102 = .ok (.iconst 0, 1) := by decide +kernel
theorem d_Mo_holds_103 : decode prog_11_method_24_code 103 = .ok (.goto 43, 3) := by decide +kernel
theorem d_Mo_holds_106 : decode prog_11_method_24_code 106 = .ok (.aload_n 0, 1) := by decide +kernel
theorem d_Mo_holds_107 : decode prog_11_method_24_code 107 = .ok (.getfield 62, 3) := by decide +kernel
theorem d_Mo_holds_110 : decode prog_11_method_24_code 110 = .ok (.iload_n 1, 1) := by decide +kernel
theorem d_Mo_holds_111 : decode prog_11_method_24_code 111 = .ok (.iaload, 1) := by decide +kernel
theorem d_Mo_holds_112 : decode prog_11_method_24_code 112 = .ok (.bipush 62, 2) := by decide +kernel
theorem d_Mo_holds_114 : decode prog_11_method_24_code 114 = .ok (.if_icmp .ne 19, 3) := by decide +kernel
theorem d_Mo_holds_117 : decode prog_11_method_24_code 117 = .ok (.lload 4, 2) := by decide +kernel
theorem d_Mo_holds_119 : decode prog_11_method_24_code 119 = .ok (.lload 6, 2) := by decide +kernel
theorem d_Mo_holds_121 : decode prog_11_method_24_code 121 = .ok (.lcmp, 1) := by decide +kernel
theorem d_Mo_holds_122 : decode prog_11_method_24_code 122 = .ok (.ifCond .le 7, 3) := by decide +kernel
theorem d_Mo_holds_125 : decode prog_11_method_24_code 125 = .ok (.iconst 1, 1) := by decide +kernel
theorem d_Mo_holds_126 : decode prog_11_method_24_code 126 = .ok (.goto 20, 3) := by decide +kernel
theorem d_Mo_holds_129 : decode prog_11_method_24_code 129 = .ok (.iconst 0, 1) := by decide +kernel
theorem d_Mo_holds_130 : decode prog_11_method_24_code 130 = .ok (.goto 16, 3) := by decide +kernel
theorem d_Mo_holds_133 : decode prog_11_method_24_code 133 = .ok (.lload 4, 2) := by decide +kernel
theorem d_Mo_holds_135 : decode prog_11_method_24_code 135 = .ok (.lload 6, 2) := by decide +kernel
theorem d_Mo_holds_137 : decode prog_11_method_24_code 137 = .ok (.lcmp, 1) := by decide +kernel
theorem d_Mo_holds_138 : decode prog_11_method_24_code 138 = .ok (.ifCond .eq 7, 3) := by decide +kernel
theorem d_Mo_holds_141 : decode prog_11_method_24_code 141 = .ok (.iconst 1, 1) := by decide +kernel
theorem d_Mo_holds_142 : decode prog_11_method_24_code 142 = .ok (.goto 4, 3) := by decide +kernel
theorem d_Mo_holds_145 : decode prog_11_method_24_code 145 = .ok (.iconst 0, 1) := by decide +kernel
theorem d_Mo_holds_146 : decode prog_11_method_24_code 146 = .ok (.ireturn, 1) := by decide +kernel
abbrev m_Mo_known : MethodName × ByteArray × Nat × Option FieldType := (⟨"TestTextModel", "known", "(I)Z"⟩, prog_11_method_23_code, 2, (Option.some FieldType.boolean))
theorem d_Mo_known_0 : decode prog_11_method_23_code 0 = .ok (.aload_n 0, 1) := by decide +kernel
theorem d_Mo_known_1 : decode prog_11_method_23_code 1 = .ok (.getfield 121, 3) := by decide +kernel
theorem d_Mo_known_4 : decode prog_11_method_23_code 4 = .ok (.iload_n 1, 1) := by decide +kernel
theorem d_Mo_known_5 : decode prog_11_method_23_code 5 = .ok (.laload, 1) := by decide +kernel
theorem d_Mo_known_6 : decode prog_11_method_23_code 6 = .ok (.lconst 0, 1) := by decide +kernel
theorem d_Mo_known_7 : decode prog_11_method_23_code 7 = .ok (.lcmp, 1) := by decide +kernel
theorem d_Mo_known_8 : decode prog_11_method_23_code 8 = .ok (.ifCond .ge 11, 3) := by decide +kernel
theorem d_Mo_known_11 : decode prog_11_method_23_code 11 = .ok (.aload_n 0, 1) := by decide +kernel
theorem d_Mo_known_12 : decode prog_11_method_23_code 12 = .ok (.iload_n 1, 1) := by decide +kernel
theorem d_Mo_known_13 : decode prog_11_method_23_code 13 = .ok (.invokevirtual 246, 3) := by decide +kernel
theorem d_Mo_known_16 : decode prog_11_method_23_code 16 = .ok (.ifCond .lt 7, 3) := by decide +kernel
theorem d_Mo_known_19 : decode prog_11_method_23_code 19 = .ok (.iconst 1, 1) := by decide +kernel
theorem d_Mo_known_20 : decode prog_11_method_23_code 20 = .ok (.goto 4, 3) := by decide +kernel
theorem d_Mo_known_23 : decode prog_11_method_23_code 23 = .ok (.iconst 0, 1) := by decide +kernel
theorem d_Mo_known_24 : decode prog_11_method_23_code 24 = .ok (.ireturn, 1) := by decide +kernel
abbrev m_Mo_answerOf : MethodName × ByteArray × Nat × Option FieldType := (⟨"TestTextModel", "answerOf", "(I)I"⟩, prog_11_method_22_code, 5, (Option.some FieldType.int))
theorem d_Mo_answerOf_0 : decode prog_11_method_22_code 0 = .ok (.iconst (-1), 1) := by decide +kernel
theorem d_Mo_answerOf_1 : decode prog_11_method_22_code 1 = .ok (.istore_n 2, 1) := by decide +kernel
theorem d_Mo_answerOf_2 : decode prog_11_method_22_code 2 = .ok (.iconst 0, 1) := by decide +kernel
theorem d_Mo_answerOf_3 : decode prog_11_method_22_code 3 = .ok (.istore_n 3, 1) := by decide +kernel
theorem d_Mo_answerOf_4 : decode prog_11_method_22_code 4 = .ok (.iload_n 3, 1) := by decide +kernel
theorem d_Mo_answerOf_5 : decode prog_11_method_22_code 5 = .ok (.aload_n 0, 1) := by decide +kernel
theorem d_Mo_answerOf_6 : decode prog_11_method_22_code 6 = .ok (.getfield 229, 3) := by decide +kernel
theorem d_Mo_answerOf_9 : decode prog_11_method_22_code 9 = .ok (.if_icmp .ge 83, 3) := by decide +kernel
theorem d_Mo_answerOf_12 : decode prog_11_method_22_code 12 = .ok (.aload_n 0, 1) := by decide +kernel
theorem d_Mo_answerOf_13 : decode prog_11_method_22_code 13 = .ok (.getfield 84, 3) := by decide +kernel
theorem d_Mo_answerOf_16 : decode prog_11_method_22_code 16 = .ok (.iload_n 3, 1) := by decide +kernel
theorem d_Mo_answerOf_17 : decode prog_11_method_22_code 17 = .ok (.iaload, 1) := by decide +kernel
theorem d_Mo_answerOf_18 : decode prog_11_method_22_code 18 = .ok (.iload_n 1, 1) := by decide +kernel
theorem d_Mo_answerOf_19 : decode prog_11_method_22_code 19 = .ok (.if_icmp .ne 37, 3) := by decide +kernel
theorem d_Mo_answerOf_22 : decode prog_11_method_22_code 22 = .ok (.aload_n 0, 1) := by decide +kernel
theorem d_Mo_answerOf_23 : decode prog_11_method_22_code 23 = .ok (.getfield 90, 3) := by decide +kernel
theorem d_Mo_answerOf_26 : decode prog_11_method_22_code 26 = .ok (.iload_n 3, 1) := by decide +kernel
theorem d_Mo_answerOf_27 : decode prog_11_method_22_code 27 = .ok (.laload, 1) := by decide +kernel
theorem d_Mo_answerOf_28 : decode prog_11_method_22_code 28 = .ok (.aload_n 0, 1) := by decide +kernel
theorem d_Mo_answerOf_29 : decode prog_11_method_22_code 29 = .ok (.getfield 243, 3) := by decide +kernel
theorem d_Mo_answerOf_32 : decode prog_11_method_22_code 32 = .ok (.lcmp, 1) := by decide +kernel
theorem d_Mo_answerOf_33 : decode prog_11_method_22_code 33 = .ok (.ifCond .gt 23, 3) := by decide +kernel
theorem d_Mo_answerOf_36 : decode prog_11_method_22_code 36 = .ok (.aload_n 0, 1) := by decide +kernel
theorem d_Mo_answerOf_37 : decode prog_11_method_22_code 37 = .ok (.getfield 90, 3) := by decide +kernel
theorem d_Mo_answerOf_40 : decode prog_11_method_22_code 40 = .ok (.iload_n 3, 1) := by decide +kernel
theorem d_Mo_answerOf_41 : decode prog_11_method_22_code 41 = .ok (.laload, 1) := by decide +kernel
theorem d_Mo_answerOf_42 : decode prog_11_method_22_code 42 = .ok (.aload_n 0, 1) := by decide +kernel
theorem d_Mo_answerOf_43 : decode prog_11_method_22_code 43 = .ok (.getfield 121, 3) := by decide +kernel
theorem d_Mo_answerOf_46 : decode prog_11_method_22_code 46 = .ok (.iload_n 1, 1) := by decide +kernel
theorem d_Mo_answerOf_47 : decode prog_11_method_22_code 47 = .ok (.laload, 1) := by decide +kernel
theorem d_Mo_answerOf_48 : decode prog_11_method_22_code 48 = .ok (.lcmp, 1) := by decide +kernel
theorem d_Mo_answerOf_49 : decode prog_11_method_22_code 49 = .ok (.ifCond .le 7, 3) := by decide +kernel
theorem d_Mo_answerOf_52 : decode prog_11_method_22_code 52 = .ok (.iconst 1, 1) := by decide +kernel
theorem d_Mo_answerOf_53 : decode prog_11_method_22_code 53 = .ok (.goto 4, 3) := by decide +kernel
theorem d_Mo_answerOf_56 : decode prog_11_method_22_code 56 = .ok (.iconst 0, 1) := by decide +kernel
theorem d_Mo_answerOf_57 : decode prog_11_method_22_code 57 = .ok (.istore 4, 2) := by decide +kernel
theorem d_Mo_answerOf_59 : decode prog_11_method_22_code 59 = .ok (.iload 4, 2) := by decide +kernel
theorem d_Mo_answerOf_61 : decode prog_11_method_22_code 61 = .ok (.ifCond .eq 25, 3) := by decide +kernel
theorem d_Mo_answerOf_64 : decode prog_11_method_22_code 64 = .ok (.iload_n 2, 1) := by decide +kernel
theorem d_Mo_answerOf_65 : decode prog_11_method_22_code 65 = .ok (.ifCond .lt 19, 3) := by decide +kernel
theorem d_Mo_answerOf_68 : decode prog_11_method_22_code 68 = .ok (.aload_n 0, 1) := by decide +kernel
theorem d_Mo_answerOf_69 : decode prog_11_method_22_code 69 = .ok (.getfield 90, 3) := by decide +kernel
theorem d_Mo_answerOf_72 : decode prog_11_method_22_code 72 = .ok (.iload_n 3, 1) := by decide +kernel
theorem d_Mo_answerOf_73 : decode prog_11_method_22_code 73 = .ok (.laload, 1) := by decide +kernel
theorem d_Mo_answerOf_74 : decode prog_11_method_22_code 74 = .ok (.aload_n 0, 1) := by decide +kernel
theorem d_Mo_answerOf_75 : decode prog_11_method_22_code 75 = .ok (.getfield 90, 3) := by decide +kernel
theorem d_Mo_answerOf_78 : decode prog_11_method_22_code 78 = .ok (.iload_n 2, 1) := by decide +kernel
theorem d_Mo_answerOf_79 : decode prog_11_method_22_code 79 = .ok (.laload, 1) := by decide +kernel
theorem d_Mo_answerOf_80 : decode prog_11_method_22_code 80 = .ok (.lcmp, 1) := by decide +kernel
theorem d_Mo_answerOf_81 : decode prog_11_method_22_code 81 = .ok (.ifCond .lt 5, 3) := by decide +kernel
theorem d_Mo_answerOf_84 : decode prog_11_method_22_code 84 = .ok (.iload_n 3, 1) := by decide +kernel
theorem d_Mo_answerOf_85 : decode prog_11_method_22_code 85 = .ok (.istore_n 2, 1) := by decide +kernel
theorem d_Mo_answerOf_86 : decode prog_11_method_22_code 86 = .ok (.iinc 3 1, 3) := by decide +kernel
theorem d_Mo_answerOf_89 : decode prog_11_method_22_code 89 = .ok (.goto (-85), 3) := by decide +kernel
theorem d_Mo_answerOf_92 : decode prog_11_method_22_code 92 = .ok (.iload_n 2, 1) := by decide +kernel
theorem d_Mo_answerOf_93 : decode prog_11_method_22_code 93 = .ok (.ireturn, 1) := by decide +kernel
abbrev m_Mo_leave : MethodName × ByteArray × Nat × Option FieldType := (⟨"TestTextModel", "leave", "(ZII)V"⟩, prog_11_method_28_code, 4, (Option.none : Option FieldType))
theorem d_Mo_leave_0 : decode prog_11_method_28_code 0 = .ok (.iload_n 1, 1) := by decide +kernel
theorem d_Mo_leave_1 : decode prog_11_method_28_code 1 = .ok (.ifCond .ne 4, 3) := by decide +kernel
theorem d_Mo_leave_4 : decode prog_11_method_28_code 4 = .ok (.return_, 1) := by decide +kernel
theorem d_Mo_leave_5 : decode prog_11_method_28_code 5 = .ok (.aload_n 0, 1) := by decide +kernel
theorem d_Mo_leave_6 : decode prog_11_method_28_code 6 = .ok (.iconst 1, 1) := by decide +kernel
theorem d_Mo_leave_7 : decode prog_11_method_28_code 7 = .ok (.putfield 253, 3) := by decide +kernel
theorem d_Mo_leave_10 : decode prog_11_method_28_code 10 = .ok (.aload_n 0, 1) := by decide +kernel
theorem d_Mo_leave_11 : decode prog_11_method_28_code 11 = .ok (.getfield 37, 3) := by decide +kernel
theorem d_Mo_leave_14 : decode prog_11_method_28_code 14 = .ok (.iload_n 3, 1) := by decide +kernel
theorem d_Mo_leave_15 : decode prog_11_method_28_code 15 = .ok (.iaload, 1) := by decide +kernel
theorem d_Mo_leave_16 : decode prog_11_method_28_code 16 = .ok (.ifCond .le 4, 3) := by decide +kernel
theorem d_Mo_leave_19 : decode prog_11_method_28_code 19 = .ok (.return_, 1) := by decide +kernel
theorem d_Mo_leave_20 : decode prog_11_method_28_code 20 = .ok (.aload_n 0, 1) := by decide +kernel
theorem d_Mo_leave_21 : decode prog_11_method_28_code 21 = .ok (.getfield 37, 3) := by decide +kernel
theorem d_Mo_leave_24 : decode prog_11_method_28_code 24 = .ok (.iload_n 3, 1) := by decide +kernel
theorem d_Mo_leave_25 : decode prog_11_method_28_code 25 = .ok (.iload_n 2, 1) := by decide +kernel
theorem d_Mo_leave_26 : decode prog_11_method_28_code 26 = .ok (.iastore, 1) := by decide +kernel
theorem d_Mo_leave_27 : decode prog_11_method_28_code 27 = .ok (.aload_n 0, 1) := by decide +kernel
theorem d_Mo_leave_28 : decode prog_11_method_28_code 28 = .ok (.getfield 40, 3) := by decide +kernel
theorem d_Mo_leave_31 : decode prog_11_method_28_code 31 = .ok (.iload_n 3, 1) := by decide +kernel
theorem d_Mo_leave_32 : decode prog_11_method_28_code 32 = .ok (.aload_n 0, 1) := by decide +kernel
theorem d_Mo_leave_33 : decode prog_11_method_28_code 33 = .ok (.getfield 256, 3) := by decide +kernel
theorem d_Mo_leave_36 : decode prog_11_method_28_code 36 = .ok (.iastore, 1) := by decide +kernel
theorem d_Mo_leave_37 : decode prog_11_method_28_code 37 = .ok (.aload_n 0, 1) := by decide +kernel
theorem d_Mo_leave_38 : decode prog_11_method_28_code 38 = .ok (.getfield 43, 3) := by decide +kernel
theorem d_Mo_leave_41 : decode prog_11_method_28_code 41 = .ok (.iload_n 3, 1) := by decide +kernel
theorem d_Mo_leave_42 : decode prog_11_method_28_code 42 = .ok (.aload_n 0, 1) := by decide +kernel
theorem d_Mo_leave_43 : decode prog_11_method_28_code 43 = .ok (.getfield 243, 3) := by decide +kernel
theorem d_Mo_leave_46 : decode prog_11_method_28_code 46 = .ok (.lastore, 1) := by decide +kernel
theorem d_Mo_leave_47 : decode prog_11_method_28_code 47 = .ok (.aload_n 0, 1) := by decide +kernel
theorem d_Mo_leave_48 : decode prog_11_method_28_code 48 = .ok (.getfield 266, 3) := by decide +kernel
theorem d_Mo_leave_51 : decode prog_11_method_28_code 51 = .ok (.ifCond .ge 20, 3) := by decide +kernel
theorem d_Mo_leave_54 : decode prog_11_method_28_code 54 = .ok (.aload_n 0, 1) := by decide +kernel
theorem d_Mo_leave_55 : decode prog_11_method_28_code 55 = .ok (.aload_n 0, 1) := by decide +kernel
theorem d_Mo_leave_56 : decode prog_11_method_28_code 56 = .ok (.getfield 100, 3) := by decide +kernel
theorem d_Mo_leave_59 : decode prog_11_method_28_code 59 = .ok (.aload_n 0, 1) := by decide +kernel
theorem d_Mo_leave_60 : decode prog_11_method_28_code 60 = .ok (.getfield 232, 3) := by decide +kernel
theorem d_Mo_leave_63 : decode prog_11_method_28_code 63 = .ok (.iconst 1, 1) := by decide +kernel
theorem d_Mo_leave_64 : decode prog_11_method_28_code 64 = .ok (.isub, 1) := by decide +kernel
theorem d_Mo_leave_65 : decode prog_11_method_28_code 65 = .ok (.iaload, 1) := by decide +kernel
theorem d_Mo_leave_66 : decode prog_11_method_28_code 66 = .ok (.iconst 1, 1) := by decide +kernel
theorem d_Mo_leave_67 : decode prog_11_method_28_code 67 = .ok (.isub, 1) := by decide +kernel
theorem d_Mo_leave_68 : decode prog_11_method_28_code 68 = .ok (.putfield 266, 3) := by decide +kernel
theorem d_Mo_leave_71 : decode prog_11_method_28_code 71 = .ok (.return_, 1) := by decide +kernel
abbrev m_Mo_verdict : MethodName × ByteArray × Nat × Option FieldType := (⟨"TestTextModel", "verdict", "(II)I"⟩, prog_11_method_34_code, 3, (Option.some FieldType.int))
theorem d_Mo_verdict_0 : decode prog_11_method_34_code 0 = .ok (.aload_n 0, 1) := by decide +kernel
theorem d_Mo_verdict_1 : decode prog_11_method_34_code 1 = .ok (.iload_n 1, 1) := by decide +kernel
theorem d_Mo_verdict_2 : decode prog_11_method_34_code 2 = .ok (.invokevirtual 305, 3) := by decide +kernel
theorem d_Mo_verdict_5 : decode prog_11_method_34_code 5 = .ok (.ifCond .eq 5, 3) := by decide +kernel
theorem d_Mo_verdict_8 : decode prog_11_method_34_code 8 = .ok (.iconst (-1), 1) := by decide +kernel
theorem d_Mo_verdict_9 : decode prog_11_method_34_code 9 = .ok (.ireturn, 1) := by decide +kernel
theorem d_Mo_verdict_10 : decode prog_11_method_34_code 10 = .ok (.iload_n 2, 1) := by decide +kernel
theorem d_Mo_verdict_11 : decode prog_11_method_34_code 11 = .ok (.ifCond .lt 8, 3) := by decide +kernel
theorem d_Mo_verdict_14 : decode prog_11_method_34_code 14 = .ok (.iload_n 2, 1) := by decide +kernel
theorem d_Mo_verdict_15 : decode prog_11_method_34_code 15 = .ok (.iconst 2, 1) := by decide +kernel
theorem d_Mo_verdict_16 : decode prog_11_method_34_code 16 = .ok (.if_icmp .le 6, 3) := by decide +kernel
theorem d_Mo_verdict_19 : decode prog_11_method_34_code 19 = .ok (.bipush (-2), 2) := by decide +kernel
theorem d_Mo_verdict_21 : decode prog_11_method_34_code 21 = .ok (.ireturn, 1) := by decide +kernel
theorem d_Mo_verdict_22 : decode prog_11_method_34_code 22 = .ok (.aload_n 0, 1) := by decide +kernel
theorem d_Mo_verdict_23 : decode prog_11_method_34_code 23 = .ok (.getfield 232, 3) := by decide +kernel
theorem d_Mo_verdict_26 : decode prog_11_method_34_code 26 = .ok (.ifCond .ne 6, 3) := by decide +kernel
theorem d_Mo_verdict_29 : decode prog_11_method_34_code 29 = .ok (.bipush (-3), 2) := by decide +kernel
theorem d_Mo_verdict_31 : decode prog_11_method_34_code 31 = .ok (.ireturn, 1) := by decide +kernel
theorem d_Mo_verdict_32 : decode prog_11_method_34_code 32 = .ok (.iload_n 2, 1) := by decide +kernel
theorem d_Mo_verdict_33 : decode prog_11_method_34_code 33 = .ok (.ifCond .ne 12, 3) := by decide +kernel
theorem d_Mo_verdict_36 : decode prog_11_method_34_code 36 = .ok (.aload_n 0, 1) := by decide +kernel
theorem d_Mo_verdict_37 : decode prog_11_method_34_code 37 = .ok (.getfield 37, 3) := by decide +kernel
theorem d_Mo_verdict_40 : decode prog_11_method_34_code 40 = .ok (.iload_n 1, 1) := by decide +kernel
theorem d_Mo_verdict_41 : decode prog_11_method_34_code 41 = .ok (.iaload, 1) := by decide +kernel
theorem d_Mo_verdict_42 : decode prog_11_method_34_code 42 = .ok (.goto 24, 3) := by decide +kernel
theorem d_Mo_verdict_45 : decode prog_11_method_34_code 45 = .ok (.iload_n 2, 1) := by decide +kernel
theorem d_Mo_verdict_46 : decode prog_11_method_34_code 46 = .ok (.iconst 1, 1) := by decide +kernel
theorem d_Mo_verdict_47 : decode prog_11_method_34_code 47 = .ok (.if_icmp .ne 12, 3) := by decide +kernel
theorem d_Mo_verdict_50 : decode prog_11_method_34_code 50 = .ok (.aload_n 0, 1) := by decide +kernel
theorem d_Mo_verdict_51 : decode prog_11_method_34_code 51 = .ok (.getfield 40, 3) := by decide +kernel
theorem d_Mo_verdict_54 : decode prog_11_method_34_code 54 = .ok (.iload_n 1, 1) := by decide +kernel
theorem d_Mo_verdict_55 : decode prog_11_method_34_code 55 = .ok (.iaload, 1) := by decide +kernel
theorem d_Mo_verdict_56 : decode prog_11_method_34_code 56 = .ok (.goto 10, 3) := by decide +kernel
theorem d_Mo_verdict_59 : decode prog_11_method_34_code 59 = .ok (.aload_n 0, 1) := by decide +kernel
theorem d_Mo_verdict_60 : decode prog_11_method_34_code 60 = .ok (.getfield 43, 3) := by decide +kernel
theorem d_Mo_verdict_63 : decode prog_11_method_34_code 63 = .ok (.iload_n 1, 1) := by decide +kernel
theorem d_Mo_verdict_64 : decode prog_11_method_34_code 64 = .ok (.laload, 1) := by decide +kernel
theorem d_Mo_verdict_65 : decode prog_11_method_34_code 65 = .ok (.l2i, 1) := by decide +kernel
theorem d_Mo_verdict_66 : decode prog_11_method_34_code 66 = .ok (.ireturn, 1) := by decide +kernel
abbrev m_Mo_noTest : MethodName × ByteArray × Nat × Option FieldType := (⟨"TestTextModel", "noTest", "(I)Z"⟩, prog_11_method_33_code, 2, (Option.some FieldType.boolean))
theorem d_Mo_noTest_0 : decode prog_11_method_33_code 0 = .ok (.aload_n 0, 1) := by decide +kernel
theorem d_Mo_noTest_1 : decode prog_11_method_33_code 1 = .ok (.iconst 0, 1) := by decide +kernel
theorem d_Mo_noTest_2 : decode prog_11_method_33_code 2 = .ok (.putfield 127, 3) := by decide +kernel
theorem d_Mo_noTest_5 : decode prog_11_method_33_code 5 = .ok (.iload_n 1, 1) := by decide +kernel
theorem d_Mo_noTest_6 : decode prog_11_method_33_code 6 = .ok (.iconst 1, 1) := by decide +kernel
theorem d_Mo_noTest_7 : decode prog_11_method_33_code 7 = .ok (.if_icmp .lt 11, 3) := by decide +kernel
theorem d_Mo_noTest_10 : decode prog_11_method_33_code 10 = .ok (.iload_n 1, 1) := by decide +kernel
theorem d_Mo_noTest_11 : decode prog_11_method_33_code 11 = .ok (.aload_n 0, 1) := by decide +kernel
theorem d_Mo_noTest_12 : decode prog_11_method_33_code 12 = .ok (.getfield 171, 3) := by decide +kernel
theorem d_Mo_noTest_15 : decode prog_11_method_33_code 15 = .ok (.if_icmp .le 7, 3) := by decide +kernel
theorem d_Mo_noTest_18 : decode prog_11_method_33_code 18 = .ok (.iconst 1, 1) := by decide +kernel
theorem d_Mo_noTest_19 : decode prog_11_method_33_code 19 = .ok (.goto 4, 3) := by decide +kernel
theorem d_Mo_noTest_22 : decode prog_11_method_33_code 22 = .ok (.iconst 0, 1) := by decide +kernel
theorem d_Mo_noTest_23 : decode prog_11_method_33_code 23 = .ok (.ireturn, 1) := by decide +kernel
abbrev m_Mo_ended : MethodName × ByteArray × Nat × Option FieldType := (⟨"TestTextModel", "ended", "(I)I"⟩, prog_11_method_35_code, 2, (Option.some FieldType.int))
theorem d_Mo_ended_0 : decode prog_11_method_35_code 0 = .ok (.aload_n 0, 1) := by decide +kernel
theorem d_Mo_ended_1 : decode prog_11_method_35_code 1 = .ok (.iload_n 1, 1) := by decide +kernel
theorem d_Mo_ended_2 : decode prog_11_method_35_code 2 = .ok (.invokevirtual 305, 3) := by decide +kernel
theorem d_Mo_ended_5 : decode prog_11_method_35_code 5 = .ok (.ifCond .eq 7, 3) := by decide +kernel
theorem d_Mo_ended_8 : decode prog_11_method_35_code 8 = .ok (.iconst (-1), 1) := by decide +kernel
theorem d_Mo_ended_9 : decode prog_11_method_35_code 9 = .ok (.goto 9, 3) := by decide +kernel
theorem d_Mo_ended_12 : decode prog_11_method_35_code 12 = .ok (.aload_n 0, 1) := by decide +kernel
theorem d_Mo_ended_13 : decode prog_11_method_35_code 13 = .ok (.getfield 34, 3) := by decide +kernel
theorem d_Mo_ended_16 : decode prog_11_method_35_code 16 = .ok (.iload_n 1, 1) := by decide +kernel
theorem d_Mo_ended_17 : decode prog_11_method_35_code 17 = .ok (.iaload, 1) := by decide +kernel
theorem d_Mo_ended_18 : decode prog_11_method_35_code 18 = .ok (.ireturn, 1) := by decide +kernel
abbrev m_Mo_plant : MethodName × ByteArray × Nat × Option FieldType := (⟨"TestTextModel", "plant", "(IZ)I"⟩, prog_11_method_36_code, 5, (Option.some FieldType.int))
theorem d_Mo_plant_0 : decode prog_11_method_36_code 0 = .ok (.aload_n 0, 1) := by decide +kernel
theorem d_Mo_plant_1 : decode prog_11_method_36_code 1 = .ok (.iconst 0, 1) := by decide +kernel
theorem d_Mo_plant_2 : decode prog_11_method_36_code 2 = .ok (.putfield 127, 3) := by decide +kernel
theorem d_Mo_plant_5 : decode prog_11_method_36_code 5 = .ok (.iload_n 1, 1) := by decide +kernel
theorem d_Mo_plant_6 : decode prog_11_method_36_code 6 = .ok (.iconst 1, 1) := by decide +kernel
theorem d_Mo_plant_7 : decode prog_11_method_36_code 7 = .ok (.if_icmp .lt 9, 3) := by decide +kernel
theorem d_Mo_plant_10 : decode prog_11_method_36_code 10 = .ok (.iload_n 1, 1) := by decide +kernel
theorem d_Mo_plant_11 : decode prog_11_method_36_code 11 = .ok (.bipush 8, 2) := by decide +kernel
theorem d_Mo_plant_13 : decode prog_11_method_36_code 13 = .ok (.if_icmp .le 5, 3) := by decide +kernel
theorem d_Mo_plant_16 : decode prog_11_method_36_code 16 = .ok (.iconst (-1), 1) := by decide +kernel
theorem d_Mo_plant_17 : decode prog_11_method_36_code 17 = .ok (.ireturn, 1) := by decide +kernel
theorem d_Mo_plant_18 : decode prog_11_method_36_code 18 = .ok (.aload_n 0, 1) := by decide +kernel
theorem d_Mo_plant_19 : decode prog_11_method_36_code 19 = .ok (.getfield 93, 3) := by decide +kernel
theorem d_Mo_plant_22 : decode prog_11_method_36_code 22 = .ok (.iload_n 1, 1) := by decide +kernel
theorem d_Mo_plant_23 : decode prog_11_method_36_code 23 = .ok (.iload_n 2, 1) := by decide +kernel
theorem d_Mo_plant_24 : decode prog_11_method_36_code 24 = .ok (.bastore, 1) := by decide +kernel
theorem d_Mo_plant_25 : decode prog_11_method_36_code 25 = .ok (.iconst 0, 1) := by decide +kernel
theorem d_Mo_plant_26 : decode prog_11_method_36_code 26 = .ok (.istore_n 3, 1) := by decide +kernel
theorem d_Mo_plant_27 : decode prog_11_method_36_code 27 = .ok (.iconst 1, 1) := by decide +kernel
theorem d_Mo_plant_28 : decode prog_11_method_36_code 28 = .ok (.istore 4, 2) := by decide +kernel
theorem d_Mo_plant_30 : decode prog_11_method_36_code 30 = .ok (.iload 4, 2) := by decide +kernel
theorem d_Mo_plant_32 : decode prog_11_method_36_code 32 = .ok (.bipush 9, 2) := by decide +kernel
theorem d_Mo_plant_34 : decode prog_11_method_36_code 34 = .ok (.if_icmp .ge 27, 3) := by decide +kernel
theorem d_Mo_plant_37 : decode prog_11_method_36_code 37 = .ok (.aload_n 0, 1) := by decide +kernel
theorem d_Mo_plant_38 : decode prog_11_method_36_code 38 = .ok (.getfield 93, 3) := by decide +kernel
theorem d_Mo_plant_41 : decode prog_11_method_36_code 41 = .ok (.iload 4, 2) := by decide +kernel
theorem d_Mo_plant_43 : decode prog_11_method_36_code 43 = .ok (.baload, 1) := by decide +kernel
theorem d_Mo_plant_44 : decode prog_11_method_36_code 44 = .ok (.ifCond .eq 9, 3) := by decide +kernel
theorem d_Mo_plant_47 : decode prog_11_method_36_code 47 = .ok (.iload_n 3, 1) := by decide +kernel
theorem d_Mo_plant_48 : decode prog_11_method_36_code 48 = .ok (.iconst 1, 1) := by decide +kernel
theorem d_Mo_plant_49 : decode prog_11_method_36_code 49 = .ok (.iadd, 1) := by decide +kernel
theorem d_Mo_plant_50 : decode prog_11_method_36_code 50 = .ok (.goto 4, 3) := by decide +kernel
theorem d_Mo_plant_53 : decode prog_11_method_36_code 53 = .ok (.iload_n 3, 1) := by decide +kernel
theorem d_Mo_plant_54 : decode prog_11_method_36_code 54 = .ok (.istore_n 3, 1) := by decide +kernel
theorem d_Mo_plant_55 : decode prog_11_method_36_code 55 = .ok (.iinc 4 1, 3) := by decide +kernel
theorem d_Mo_plant_58 : decode prog_11_method_36_code 58 = .ok (.goto (-28), 3) := by decide +kernel
theorem d_Mo_plant_61 : decode prog_11_method_36_code 61 = .ok (.iload_n 3, 1) := by decide +kernel
theorem d_Mo_plant_62 : decode prog_11_method_36_code 62 = .ok (.ireturn, 1) := by decide +kernel
abbrev m_Mo_undone : MethodName × ByteArray × Nat × Option FieldType := (⟨"TestTextModel", "undone", "(I)I"⟩, prog_11_method_37_code, 2, (Option.some FieldType.int))
theorem d_Mo_undone_0 : decode prog_11_method_37_code 0 = .ok (.aload_n 0, 1) := by decide +kernel
theorem d_Mo_undone_1 : decode prog_11_method_37_code 1 = .ok (.iconst 0, 1) := by decide +kernel
theorem d_Mo_undone_2 : decode prog_11_method_37_code 2 = .ok (.putfield 127, 3) := by decide +kernel
theorem d_Mo_undone_5 : decode prog_11_method_37_code 5 = .ok (.aload_n 0, 1) := by decide +kernel
theorem d_Mo_undone_6 : decode prog_11_method_37_code 6 = .ok (.getfield 232, 3) := by decide +kernel
theorem d_Mo_undone_9 : decode prog_11_method_37_code 9 = .ok (.ifCond .eq 15, 3) := by decide +kernel
theorem d_Mo_undone_12 : decode prog_11_method_37_code 12 = .ok (.iload_n 1, 1) := by decide +kernel
theorem d_Mo_undone_13 : decode prog_11_method_37_code 13 = .ok (.ifCond .lt 11, 3) := by decide +kernel
theorem d_Mo_undone_16 : decode prog_11_method_37_code 16 = .ok (.iload_n 1, 1) := by decide +kernel
theorem d_Mo_undone_17 : decode prog_11_method_37_code 17 = .ok (.aload_n 0, 1) := by decide +kernel
theorem d_Mo_undone_18 : decode prog_11_method_37_code 18 = .ok (.getfield 298, 3) := by decide +kernel
theorem d_Mo_undone_21 : decode prog_11_method_37_code 21 = .ok (.if_icmp .lt 7, 3) := by decide +kernel
theorem d_Mo_undone_24 : decode prog_11_method_37_code 24 = .ok (.iconst 0, 1) := by decide +kernel
theorem d_Mo_undone_25 : decode prog_11_method_37_code 25 = .ok (.goto 9, 3) := by decide +kernel
theorem d_Mo_undone_28 : decode prog_11_method_37_code 28 = .ok (.aload_n 0, 1) := by decide +kernel
theorem d_Mo_undone_29 : decode prog_11_method_37_code 29 = .ok (.getfield 112, 3) := by decide +kernel
theorem d_Mo_undone_32 : decode prog_11_method_37_code 32 = .ok (.iload_n 1, 1) := by decide +kernel
theorem d_Mo_undone_33 : decode prog_11_method_37_code 33 = .ok (.iaload, 1) := by decide +kernel
theorem d_Mo_undone_34 : decode prog_11_method_37_code 34 = .ok (.ireturn, 1) := by decide +kernel
abbrev m_Mo_differ : MethodName × ByteArray × Nat × Option FieldType := (⟨"TestTextModel", "differ", "(II)I"⟩, prog_11_method_38_code, 8, (Option.some FieldType.int))
theorem d_Mo_differ_0 : decode prog_11_method_38_code 0 = .ok (.aload_n 0, 1) := by decide +kernel
theorem d_Mo_differ_1 : decode prog_11_method_38_code 1 = .ok (.iconst 0, 1) := by decide +kernel
theorem d_Mo_differ_2 : decode prog_11_method_38_code 2 = .ok (.putfield 127, 3) := by decide +kernel
theorem d_Mo_differ_5 : decode prog_11_method_38_code 5 = .ok (.iload_n 1, 1) := by decide +kernel
theorem d_Mo_differ_6 : decode prog_11_method_38_code 6 = .ok (.iconst 1, 1) := by decide +kernel
theorem d_Mo_differ_7 : decode prog_11_method_38_code 7 = .ok (.if_icmp .lt 24, 3) := by decide +kernel
theorem d_Mo_differ_10 : decode prog_11_method_38_code 10 = .ok (.iload_n 1, 1) := by decide +kernel
theorem d_Mo_differ_11 : decode prog_11_method_38_code 11 = .ok (.aload_n 0, 1) := by decide +kernel
theorem d_Mo_differ_12 : decode prog_11_method_38_code 12 = .ok (.getfield 232, 3) := by decide +kernel
theorem d_Mo_differ_15 : decode prog_11_method_38_code 15 = .ok (.if_icmp .gt 16, 3) := by decide +kernel
theorem d_Mo_differ_18 : decode prog_11_method_38_code 18 = .ok (.iload_n 2, 1) := by decide +kernel
theorem d_Mo_differ_19 : decode prog_11_method_38_code 19 = .ok (.iconst 1, 1) := by decide +kernel
theorem d_Mo_differ_20 : decode prog_11_method_38_code 20 = .ok (.if_icmp .lt 11, 3) := by decide +kernel
theorem d_Mo_differ_23 : decode prog_11_method_38_code 23 = .ok (.iload_n 2, 1) := by decide +kernel
theorem d_Mo_differ_24 : decode prog_11_method_38_code 24 = .ok (.aload_n 0, 1) := by decide +kernel
theorem d_Mo_differ_25 : decode prog_11_method_38_code 25 = .ok (.getfield 232, 3) := by decide +kernel
theorem d_Mo_differ_28 : decode prog_11_method_38_code 28 = .ok (.if_icmp .le 6, 3) := by decide +kernel
theorem d_Mo_differ_31 : decode prog_11_method_38_code 31 = .ok (.bipush (-2), 2) := by decide +kernel
theorem d_Mo_differ_33 : decode prog_11_method_38_code 33 = .ok (.ireturn, 1) := by decide +kernel
theorem d_Mo_differ_34 : decode prog_11_method_38_code 34 = .ok (.sipush 2000, 3) := by decide +kernel
theorem d_Mo_differ_37 : decode prog_11_method_38_code 37 = .ok (.iload_n 1, 1) := by decide +kernel
theorem d_Mo_differ_38 : decode prog_11_method_38_code 38 = .ok (.iconst 1, 1) := by decide +kernel
theorem d_Mo_differ_39 : decode prog_11_method_38_code 39 = .ok (.isub, 1) := by decide +kernel
theorem d_Mo_differ_40 : decode prog_11_method_38_code 40 = .ok (.imul, 1) := by decide +kernel
theorem d_Mo_differ_41 : decode prog_11_method_38_code 41 = .ok (.istore_n 3, 1) := by decide +kernel
theorem d_Mo_differ_42 : decode prog_11_method_38_code 42 = .ok (.sipush 2000, 3) := by decide +kernel
theorem d_Mo_differ_45 : decode prog_11_method_38_code 45 = .ok (.iload_n 2, 1) := by decide +kernel
theorem d_Mo_differ_46 : decode prog_11_method_38_code 46 = .ok (.iconst 1, 1) := by decide +kernel
theorem d_Mo_differ_47 : decode prog_11_method_38_code 47 = .ok (.isub, 1) := by decide +kernel
theorem d_Mo_differ_48 : decode prog_11_method_38_code 48 = .ok (.imul, 1) := by decide +kernel
theorem d_Mo_differ_49 : decode prog_11_method_38_code 49 = .ok (.istore 4, 2) := by decide +kernel
theorem d_Mo_differ_51 : decode prog_11_method_38_code 51 = .ok (.aload_n 0, 1) := by decide +kernel
theorem d_Mo_differ_52 : decode prog_11_method_38_code 52 = .ok (.getfield 100, 3) := by decide +kernel
theorem d_Mo_differ_55 : decode prog_11_method_38_code 55 = .ok (.iload_n 1, 1) := by decide +kernel
theorem d_Mo_differ_56 : decode prog_11_method_38_code 56 = .ok (.iconst 1, 1) := by decide +kernel
theorem d_Mo_differ_57 : decode prog_11_method_38_code 57 = .ok (.isub, 1) := by decide +kernel
theorem d_Mo_differ_58 : decode prog_11_method_38_code 58 = .ok (.iaload, 1) := by decide +kernel
theorem d_Mo_differ_59 : decode prog_11_method_38_code 59 = .ok (.aload_n 0, 1) := by decide +kernel
theorem d_Mo_differ_60 : decode prog_11_method_38_code 60 = .ok (.getfield 100, 3) := by decide +kernel
theorem d_Mo_differ_63 : decode prog_11_method_38_code 63 = .ok (.iload_n 2, 1) := by decide +kernel
theorem d_Mo_differ_64 : decode prog_11_method_38_code 64 = .ok (.iconst 1, 1) := by decide +kernel
theorem d_Mo_differ_65 : decode prog_11_method_38_code 65 = .ok (.isub, 1) := by decide +kernel
theorem d_Mo_differ_66 : decode prog_11_method_38_code 66 = .ok (.iaload, 1) := by decide +kernel
theorem d_Mo_differ_67 : decode prog_11_method_38_code 67 = .ok (.if_icmp .ge 14, 3) := by decide +kernel
theorem d_Mo_differ_70 : decode prog_11_method_38_code 70 = .ok (.aload_n 0, 1) := by decide +kernel
theorem d_Mo_differ_71 : decode prog_11_method_38_code 71 = .ok (.getfield 100, 3) := by decide +kernel
theorem d_Mo_differ_74 : decode prog_11_method_38_code 74 = .ok (.iload_n 2, 1) := by decide +kernel
theorem d_Mo_differ_75 : decode prog_11_method_38_code 75 = .ok (.iconst 1, 1) := by decide +kernel
theorem d_Mo_differ_76 : decode prog_11_method_38_code 76 = .ok (.isub, 1) := by decide +kernel
theorem d_Mo_differ_77 : decode prog_11_method_38_code 77 = .ok (.iaload, 1) := by decide +kernel
theorem d_Mo_differ_78 : decode prog_11_method_38_code 78 = .ok (.goto 11, 3) := by decide +kernel
theorem d_Mo_differ_81 : decode prog_11_method_38_code 81 = .ok (.aload_n 0, 1) := by decide +kernel
theorem d_Mo_differ_82 : decode prog_11_method_38_code 82 = .ok (.getfield 100, 3) := by decide +kernel
theorem d_Mo_differ_85 : decode prog_11_method_38_code 85 = .ok (.iload_n 1, 1) := by decide +kernel
theorem d_Mo_differ_86 : decode prog_11_method_38_code 86 = .ok (.iconst 1, 1) := by decide +kernel
theorem d_Mo_differ_87 : decode prog_11_method_38_code 87 = .ok (.isub, 1) := by decide +kernel
theorem d_Mo_differ_88 : decode prog_11_method_38_code 88 = .ok (.iaload, 1) := by decide +kernel
theorem d_Mo_differ_89 : decode prog_11_method_38_code 89 = .ok (.istore 5, 2) := by decide +kernel
theorem d_Mo_differ_91 : decode prog_11_method_38_code 91 = .ok (.iconst 0, 1) := by decide +kernel
theorem d_Mo_differ_92 : decode prog_11_method_38_code 92 = .ok (.istore 6, 2) := by decide +kernel
theorem d_Mo_differ_94 : decode prog_11_method_38_code 94 = .ok (.iload 6, 2) := by decide +kernel
theorem d_Mo_differ_96 : decode prog_11_method_38_code 96 = .ok (.iload 5, 2) := by decide +kernel
theorem d_Mo_differ_98 : decode prog_11_method_38_code 98 = .ok (.if_icmp .ge 118, 3) := by decide +kernel
theorem d_Mo_differ_101 : decode prog_11_method_38_code 101 = .ok (.iload 6, 2) := by decide +kernel
theorem d_Mo_differ_103 : decode prog_11_method_38_code 103 = .ok (.aload_n 0, 1) := by decide +kernel
theorem d_Mo_differ_104 : decode prog_11_method_38_code 104 = .ok (.getfield 100, 3) := by decide +kernel
theorem d_Mo_differ_107 : decode prog_11_method_38_code 107 = .ok (.iload_n 1, 1) := by decide +kernel
theorem d_Mo_differ_108 : decode prog_11_method_38_code 108 = .ok (.iconst 1, 1) := by decide +kernel
theorem d_Mo_differ_109 : decode prog_11_method_38_code 109 = .ok (.isub, 1) := by decide +kernel
theorem d_Mo_differ_110 : decode prog_11_method_38_code 110 = .ok (.iaload, 1) := by decide +kernel
theorem d_Mo_differ_111 : decode prog_11_method_38_code 111 = .ok (.if_icmp .ge 20, 3) := by decide +kernel
theorem d_Mo_differ_114 : decode prog_11_method_38_code 114 = .ok (.iload 6, 2) := by decide +kernel
theorem d_Mo_differ_116 : decode prog_11_method_38_code 116 = .ok (.aload_n 0, 1) := by decide +kernel
theorem d_Mo_differ_117 : decode prog_11_method_38_code 117 = .ok (.getfield 100, 3) := by decide +kernel
theorem d_Mo_differ_120 : decode prog_11_method_38_code 120 = .ok (.iload_n 2, 1) := by decide +kernel
theorem d_Mo_differ_121 : decode prog_11_method_38_code 121 = .ok (.iconst 1, 1) := by decide +kernel
theorem d_Mo_differ_122 : decode prog_11_method_38_code 122 = .ok (.isub, 1) := by decide +kernel
theorem d_Mo_differ_123 : decode prog_11_method_38_code 123 = .ok (.iaload, 1) := by decide +kernel
theorem d_Mo_differ_124 : decode prog_11_method_38_code 124 = .ok (.if_icmp .ge 7, 3) := by decide +kernel
theorem d_Mo_differ_127 : decode prog_11_method_38_code 127 = .ok (.iconst 1, 1) := by decide +kernel
theorem d_Mo_differ_128 : decode prog_11_method_38_code 128 = .ok (.goto 4, 3) := by decide +kernel
theorem d_Mo_differ_131 : decode prog_11_method_38_code 131 = .ok (.iconst 0, 1) := by decide +kernel
theorem d_Mo_differ_132 : decode prog_11_method_38_code 132 = .ok (.istore 7, 2) := by decide +kernel
theorem d_Mo_differ_134 : decode prog_11_method_38_code 134 = .ok (.iload 7, 2) := by decide +kernel
theorem d_Mo_differ_136 : decode prog_11_method_38_code 136 = .ok (.ifCond .eq 71, 3) := by decide +kernel
theorem d_Mo_differ_139 : decode prog_11_method_38_code 139 = .ok (.aload_n 0, 1) := by decide +kernel
theorem d_Mo_differ_140 : decode prog_11_method_38_code 140 = .ok (.getfield 103, 3) := by decide +kernel
theorem d_Mo_differ_143 : decode prog_11_method_38_code 143 = .ok (.iload_n 3, 1) := by decide +kernel
theorem d_Mo_differ_144 : decode prog_11_method_38_code 144 = .ok (.iload 6, 2) := by decide +kernel
theorem d_Mo_differ_146 : decode prog_11_method_38_code 146 = .ok (.iadd, 1) := by decide +kernel
theorem d_Mo_differ_147 : decode prog_11_method_38_code 147 = .ok (.iaload, 1) := by decide +kernel
theorem d_Mo_differ_148 : decode prog_11_method_38_code 148 = .ok (.aload_n 0, 1) := by decide +kernel
theorem d_Mo_differ_149 : decode prog_11_method_38_code 149 = .ok (.getfield 103, 3) := by decide +kernel
theorem d_Mo_differ_152 : decode prog_11_method_38_code 152 = .ok (.iload 4, 2) := by decide +kernel
theorem d_Mo_differ_154 : decode prog_11_method_38_code 154 = .ok (.iload 6, 2) := by decide +kernel
theorem d_Mo_differ_156 : decode prog_11_method_38_code 156 = .ok (.iadd, 1) := by decide +kernel
theorem d_Mo_differ_157 : decode prog_11_method_38_code 157 = .ok (.iaload, 1) := by decide +kernel
theorem d_Mo_differ_158 : decode prog_11_method_38_code 158 = .ok (.if_icmp .ne 49, 3) := by decide +kernel
theorem d_Mo_differ_161 : decode prog_11_method_38_code 161 = .ok (.aload_n 0, 1) := by decide +kernel
theorem d_Mo_differ_162 : decode prog_11_method_38_code 162 = .ok (.getfield 106, 3) := by decide +kernel
theorem d_Mo_differ_165 : decode prog_11_method_38_code 165 = .ok (.iload_n 3, 1) := by decide +kernel
theorem d_Mo_differ_166 : decode prog_11_method_38_code 166 = .ok (.iload 6, 2) := by decide +kernel
theorem d_Mo_differ_168 : decode prog_11_method_38_code 168 = .ok (.iadd, 1) := by decide +kernel
theorem d_Mo_differ_169 : decode prog_11_method_38_code 169 = .ok (.laload, 1) := by decide +kernel
theorem d_Mo_differ_170 : decode prog_11_method_38_code 170 = .ok (.aload_n 0, 1) := by decide +kernel
theorem d_Mo_differ_171 : decode prog_11_method_38_code 171 = .ok (.getfield 106, 3) := by decide +kernel
theorem d_Mo_differ_174 : decode prog_11_method_38_code 174 = .ok (.iload 4, 2) := by decide +kernel
theorem d_Mo_differ_176 : decode prog_11_method_38_code 176 = .ok (.iload 6, 2) := by decide +kernel
theorem d_Mo_differ_178 : decode prog_11_method_38_code 178 = .ok (.iadd, 1) := by decide +kernel
theorem d_Mo_differ_179 : decode prog_11_method_38_code 179 = .ok (.laload, 1) := by decide +kernel
theorem d_Mo_differ_180 : decode prog_11_method_38_code 180 = .ok (.lcmp, 1) := by decide +kernel
theorem d_Mo_differ_181 : decode prog_11_method_38_code 181 = .ok (.ifCond .ne 26, 3) := by decide +kernel
theorem d_Mo_differ_184 : decode prog_11_method_38_code 184 = .ok (.aload_n 0, 1) := by decide +kernel
theorem d_Mo_differ_185 : decode prog_11_method_38_code 185 = .ok (.getfield 109, 3) := by decide +kernel
theorem d_Mo_differ_188 : decode prog_11_method_38_code 188 = .ok (.iload_n 3, 1) := by decide +kernel
theorem d_Mo_differ_189 : decode prog_11_method_38_code 189 = .ok (.iload 6, 2) := by decide +kernel
theorem d_Mo_differ_191 : decode prog_11_method_38_code 191 = .ok (.iadd, 1) := by decide +kernel
theorem d_Mo_differ_192 : decode prog_11_method_38_code 192 = .ok (.laload, 1) := by decide +kernel
theorem d_Mo_differ_193 : decode prog_11_method_38_code 193 = .ok (.aload_n 0, 1) := by decide +kernel
theorem d_Mo_differ_194 : decode prog_11_method_38_code 194 = .ok (.getfield 109, 3) := by decide +kernel
theorem d_Mo_differ_197 : decode prog_11_method_38_code 197 = .ok (.iload 4, 2) := by decide +kernel
theorem d_Mo_differ_199 : decode prog_11_method_38_code 199 = .ok (.iload 6, 2) := by decide +kernel
theorem d_Mo_differ_201 : decode prog_11_method_38_code 201 = .ok (.iadd, 1) := by decide +kernel
theorem d_Mo_differ_202 : decode prog_11_method_38_code 202 = .ok (.laload, 1) := by decide +kernel
theorem d_Mo_differ_203 : decode prog_11_method_38_code 203 = .ok (.lcmp, 1) := by decide +kernel
theorem d_Mo_differ_204 : decode prog_11_method_38_code 204 = .ok (.ifCond .eq 6, 3) := by decide +kernel
theorem d_Mo_differ_207 : decode prog_11_method_38_code 207 = .ok (.iload 6, 2) := by decide +kernel
theorem d_Mo_differ_209 : decode prog_11_method_38_code 209 = .ok (.ireturn, 1) := by decide +kernel
theorem d_Mo_differ_210 : decode prog_11_method_38_code 210 = .ok (.iinc 6 1, 3) := by decide +kernel
theorem d_Mo_differ_213 : decode prog_11_method_38_code 213 = .ok (.goto (-119), 3) := by decide +kernel
theorem d_Mo_differ_216 : decode prog_11_method_38_code 216 = .ok (.iconst (-1), 1) := by decide +kernel
theorem d_Mo_differ_217 : decode prog_11_method_38_code 217 = .ok (.ireturn, 1) := by decide +kernel
abbrev m_Mo_cover : MethodName × ByteArray × Nat × Option FieldType := (⟨"TestTextModel", "cover", "(II)I"⟩, prog_11_method_40_code, 5, (Option.some FieldType.int))
theorem d_Mo_cover_0 : decode prog_11_method_40_code 0 = .ok (.aload_n 0, 1) := by decide +kernel
theorem d_Mo_cover_1 : decode prog_11_method_40_code 1 = .ok (.iconst 0, 1) := by decide +kernel
theorem d_Mo_cover_2 : decode prog_11_method_40_code 2 = .ok (.putfield 127, 3) := by decide +kernel
theorem d_Mo_cover_5 : decode prog_11_method_40_code 5 = .ok (.iload_n 1, 1) := by decide +kernel
theorem d_Mo_cover_6 : decode prog_11_method_40_code 6 = .ok (.ifCond .lt 8, 3) := by decide +kernel
theorem d_Mo_cover_9 : decode prog_11_method_40_code 9 = .ok (.iload_n 1, 1) := by decide +kernel
theorem d_Mo_cover_10 : decode prog_11_method_40_code 10 = .ok (.iconst 2, 1) := by decide +kernel
theorem d_Mo_cover_11 : decode prog_11_method_40_code 11 = .ok (.if_icmp .le 6, 3) := by decide +kernel
theorem d_Mo_cover_14 : decode prog_11_method_40_code 14 = .ok (.bipush (-2), 2) := by decide +kernel
theorem d_Mo_cover_16 : decode prog_11_method_40_code 16 = .ok (.ireturn, 1) := by decide +kernel
theorem d_Mo_cover_17 : decode prog_11_method_40_code 17 = .ok (.iload_n 1, 1) := by decide +kernel
theorem d_Mo_cover_18 : decode prog_11_method_40_code 18 = .ok (.ifCond .ne 11, 3) := by decide +kernel
theorem d_Mo_cover_21 : decode prog_11_method_40_code 21 = .ok (.aload_n 0, 1) := by decide +kernel
theorem d_Mo_cover_22 : decode prog_11_method_40_code 22 = .ok (.iload_n 2, 1) := by decide +kernel
theorem d_Mo_cover_23 : decode prog_11_method_40_code 23 = .ok (.invokevirtual 305, 3) := by decide +kernel
theorem d_Mo_cover_26 : decode prog_11_method_40_code 26 = .ok (.ifCond .ne 21, 3) := by decide +kernel
theorem d_Mo_cover_29 : decode prog_11_method_40_code 29 = .ok (.iload_n 1, 1) := by decide +kernel
theorem d_Mo_cover_30 : decode prog_11_method_40_code 30 = .ok (.iconst 1, 1) := by decide +kernel
theorem d_Mo_cover_31 : decode prog_11_method_40_code 31 = .ok (.if_icmp .ne 18, 3) := by decide +kernel
theorem d_Mo_cover_34 : decode prog_11_method_40_code 34 = .ok (.iload_n 2, 1) := by decide +kernel
theorem d_Mo_cover_35 : decode prog_11_method_40_code 35 = .ok (.iconst 1, 1) := by decide +kernel
theorem d_Mo_cover_36 : decode prog_11_method_40_code 36 = .ok (.if_icmp .lt 11, 3) := by decide +kernel
theorem d_Mo_cover_39 : decode prog_11_method_40_code 39 = .ok (.iload_n 2, 1) := by decide +kernel
theorem d_Mo_cover_40 : decode prog_11_method_40_code 40 = .ok (.aload_n 0, 1) := by decide +kernel
theorem d_Mo_cover_41 : decode prog_11_method_40_code 41 = .ok (.getfield 157, 3) := by decide +kernel
theorem d_Mo_cover_44 : decode prog_11_method_40_code 44 = .ok (.if_icmp .le 5, 3) := by decide +kernel
theorem d_Mo_cover_47 : decode prog_11_method_40_code 47 = .ok (.iconst (-1), 1) := by decide +kernel
theorem d_Mo_cover_48 : decode prog_11_method_40_code 48 = .ok (.ireturn, 1) := by decide +kernel
theorem d_Mo_cover_49 : decode prog_11_method_40_code 49 = .ok (.iconst 0, 1) := by decide +kernel
theorem d_Mo_cover_50 : decode prog_11_method_40_code 50 = .ok (.istore_n 3, 1) := by decide +kernel
theorem d_Mo_cover_51 : decode prog_11_method_40_code 51 = .ok (.iload_n 1, 1) := by decide +kernel
theorem d_Mo_cover_52 : decode prog_11_method_40_code 52 = .ok (.ifCond .ne 48, 3) := by decide +kernel
theorem d_Mo_cover_55 : decode prog_11_method_40_code 55 = .ok (.aload_n 0, 1) := by decide +kernel
theorem d_Mo_cover_56 : decode prog_11_method_40_code 56 = .ok (.getfield 28, 3) := by decide +kernel
theorem d_Mo_cover_59 : decode prog_11_method_40_code 59 = .ok (.iload_n 2, 1) := by decide +kernel
theorem d_Mo_cover_60 : decode prog_11_method_40_code 60 = .ok (.iaload, 1) := by decide +kernel
theorem d_Mo_cover_61 : decode prog_11_method_40_code 61 = .ok (.istore 4, 2) := by decide +kernel
theorem d_Mo_cover_63 : decode prog_11_method_40_code 63 = .ok (.iload 4, 2) := by decide +kernel
theorem d_Mo_cover_65 : decode prog_11_method_40_code 65 = .ok (.aload_n 0, 1) := by decide +kernel
theorem d_Mo_cover_66 : decode prog_11_method_40_code 66 = .ok (.getfield 28, 3) := by decide +kernel
theorem d_Mo_cover_69 : decode prog_11_method_40_code 69 = .ok (.iload_n 2, 1) := by decide +kernel
theorem d_Mo_cover_70 : decode prog_11_method_40_code 70 = .ok (.iconst 1, 1) := by decide +kernel
theorem d_Mo_cover_71 : decode prog_11_method_40_code 71 = .ok (.iadd, 1) := by decide +kernel
theorem d_Mo_cover_72 : decode prog_11_method_40_code 72 = .ok (.iaload, 1) := by decide +kernel
theorem d_Mo_cover_73 : decode prog_11_method_40_code 73 = .ok (.if_icmp .ge 27, 3) := by decide +kernel
theorem d_Mo_cover_76 : decode prog_11_method_40_code 76 = .ok (.aload_n 0, 1) := by decide +kernel
theorem d_Mo_cover_77 : decode prog_11_method_40_code 77 = .ok (.getfield 74, 3) := by decide +kernel
theorem d_Mo_cover_80 : decode prog_11_method_40_code 80 = .ok (.iload 4, 2) := by decide +kernel
theorem d_Mo_cover_82 : decode prog_11_method_40_code 82 = .ok (.baload, 1) := by decide +kernel
theorem d_Mo_cover_83 : decode prog_11_method_40_code 83 = .ok (.ifCond .eq 9, 3) := by decide +kernel
theorem d_Mo_cover_86 : decode prog_11_method_40_code 86 = .ok (.iload_n 3, 1) := by decide +kernel
theorem d_Mo_cover_87 : decode prog_11_method_40_code 87 = .ok (.iconst 1, 1) := by decide +kernel
theorem d_Mo_cover_88 : decode prog_11_method_40_code 88 = .ok (.iadd, 1) := by decide +kernel
theorem d_Mo_cover_89 : decode prog_11_method_40_code 89 = .ok (.goto 4, 3) := by decide +kernel
theorem d_Mo_cover_92 : decode prog_11_method_40_code 92 = .ok (.iload_n 3, 1) := by decide +kernel
theorem d_Mo_cover_93 : decode prog_11_method_40_code 93 = .ok (.istore_n 3, 1) := by decide +kernel
theorem d_Mo_cover_94 : decode prog_11_method_40_code 94 = .ok (.iinc 4 1, 3) := by decide +kernel
theorem d_Mo_cover_97 : decode prog_11_method_40_code 97 = .ok (.goto (-34), 3) := by decide +kernel
theorem d_Mo_cover_100 : decode prog_11_method_40_code 100 = .ok (.iload_n 1, 1) := by decide +kernel
theorem d_Mo_cover_101 : decode prog_11_method_40_code 101 = .ok (.iconst 1, 1) := by decide +kernel
theorem d_Mo_cover_102 : decode prog_11_method_40_code 102 = .ok (.if_icmp .ne 34, 3) := by decide +kernel
theorem d_Mo_cover_105 : decode prog_11_method_40_code 105 = .ok (.iconst 1, 1) := by decide +kernel
theorem d_Mo_cover_106 : decode prog_11_method_40_code 106 = .ok (.istore 4, 2) := by decide +kernel
theorem d_Mo_cover_108 : decode prog_11_method_40_code 108 = .ok (.iload 4, 2) := by decide +kernel
theorem d_Mo_cover_110 : decode prog_11_method_40_code 110 = .ok (.aload_n 0, 1) := by decide +kernel
theorem d_Mo_cover_111 : decode prog_11_method_40_code 111 = .ok (.getfield 171, 3) := by decide +kernel
theorem d_Mo_cover_114 : decode prog_11_method_40_code 114 = .ok (.if_icmp .gt 22, 3) := by decide +kernel
theorem d_Mo_cover_117 : decode prog_11_method_40_code 117 = .ok (.iload_n 3, 1) := by decide +kernel
theorem d_Mo_cover_118 : decode prog_11_method_40_code 118 = .ok (.aload_n 0, 1) := by decide +kernel
theorem d_Mo_cover_119 : decode prog_11_method_40_code 119 = .ok (.iload 4, 2) := by decide +kernel
theorem d_Mo_cover_121 : decode prog_11_method_40_code 121 = .ok (.invokevirtual 308, 3) := by decide +kernel
theorem d_Mo_cover_124 : decode prog_11_method_40_code 124 = .ok (.iload_n 2, 1) := by decide +kernel
theorem d_Mo_cover_125 : decode prog_11_method_40_code 125 = .ok (.ishr, 1) := by decide +kernel
theorem d_Mo_cover_126 : decode prog_11_method_40_code 126 = .ok (.iconst 1, 1) := by decide +kernel
theorem d_Mo_cover_127 : decode prog_11_method_40_code 127 = .ok (.iand, 1) := by decide +kernel
theorem d_Mo_cover_128 : decode prog_11_method_40_code 128 = .ok (.iadd, 1) := by decide +kernel
theorem d_Mo_cover_129 : decode prog_11_method_40_code 129 = .ok (.istore_n 3, 1) := by decide +kernel
theorem d_Mo_cover_130 : decode prog_11_method_40_code 130 = .ok (.iinc 4 1, 3) := by decide +kernel
theorem d_Mo_cover_133 : decode prog_11_method_40_code 133 = .ok (.goto (-25), 3) := by decide +kernel
theorem d_Mo_cover_136 : decode prog_11_method_40_code 136 = .ok (.iload_n 1, 1) := by decide +kernel
theorem d_Mo_cover_137 : decode prog_11_method_40_code 137 = .ok (.iconst 2, 1) := by decide +kernel
theorem d_Mo_cover_138 : decode prog_11_method_40_code 138 = .ok (.if_icmp .ne 31, 3) := by decide +kernel
theorem d_Mo_cover_141 : decode prog_11_method_40_code 141 = .ok (.iconst 0, 1) := by decide +kernel
theorem d_Mo_cover_142 : decode prog_11_method_40_code 142 = .ok (.istore 4, 2) := by decide +kernel
theorem d_Mo_cover_144 : decode prog_11_method_40_code 144 = .ok (.iload 4, 2) := by decide +kernel
theorem d_Mo_cover_146 : decode prog_11_method_40_code 146 = .ok (.aload_n 0, 1) := by decide +kernel
theorem d_Mo_cover_147 : decode prog_11_method_40_code 147 = .ok (.getfield 232, 3) := by decide +kernel
theorem d_Mo_cover_150 : decode prog_11_method_40_code 150 = .ok (.if_icmp .ge 19, 3) := by decide +kernel
theorem d_Mo_cover_153 : decode prog_11_method_40_code 153 = .ok (.iload_n 3, 1) := by decide +kernel
theorem d_Mo_cover_154 : decode prog_11_method_40_code 154 = .ok (.aload_n 0, 1) := by decide +kernel
theorem d_Mo_cover_155 : decode prog_11_method_40_code 155 = .ok (.getfield 100, 3) := by decide +kernel
theorem d_Mo_cover_158 : decode prog_11_method_40_code 158 = .ok (.iload 4, 2) := by decide +kernel
theorem d_Mo_cover_160 : decode prog_11_method_40_code 160 = .ok (.iaload, 1) := by decide +kernel
theorem d_Mo_cover_161 : decode prog_11_method_40_code 161 = .ok (.iadd, 1) := by decide +kernel
theorem d_Mo_cover_162 : decode prog_11_method_40_code 162 = .ok (.istore_n 3, 1) := by decide +kernel
theorem d_Mo_cover_163 : decode prog_11_method_40_code 163 = .ok (.iinc 4 1, 3) := by decide +kernel
theorem d_Mo_cover_166 : decode prog_11_method_40_code 166 = .ok (.goto (-22), 3) := by decide +kernel
theorem d_Mo_cover_169 : decode prog_11_method_40_code 169 = .ok (.iload_n 3, 1) := by decide +kernel
theorem d_Mo_cover_170 : decode prog_11_method_40_code 170 = .ok (.ireturn, 1) := by decide +kernel
abbrev m_Mo_namedBy : MethodName × ByteArray × Nat × Option FieldType := (⟨"TestTextModel", "namedBy", "(I)I"⟩, prog_11_method_39_code, 4, (Option.some FieldType.int))
theorem d_Mo_namedBy_0 : decode prog_11_method_39_code 0 = .ok (.iconst 0, 1) := by decide +kernel
theorem d_Mo_namedBy_1 : decode prog_11_method_39_code 1 = .ok (.istore_n 2, 1) := by decide +kernel
theorem d_Mo_namedBy_2 : decode prog_11_method_39_code 2 = .ok (.aload_n 0, 1) := by decide +kernel
theorem d_Mo_namedBy_3 : decode prog_11_method_39_code 3 = .ok (.getfield 28, 3) := by decide +kernel
theorem d_Mo_namedBy_6 : decode prog_11_method_39_code 6 = .ok (.iload_n 1, 1) := by decide +kernel
theorem d_Mo_namedBy_7 : decode prog_11_method_39_code 7 = .ok (.iaload, 1) := by decide +kernel
theorem d_Mo_namedBy_8 : decode prog_11_method_39_code 8 = .ok (.istore_n 3, 1) := by decide +kernel
theorem d_Mo_namedBy_9 : decode prog_11_method_39_code 9 = .ok (.iload_n 3, 1) := by decide +kernel
theorem d_Mo_namedBy_10 : decode prog_11_method_39_code 10 = .ok (.aload_n 0, 1) := by decide +kernel
theorem d_Mo_namedBy_11 : decode prog_11_method_39_code 11 = .ok (.getfield 28, 3) := by decide +kernel
theorem d_Mo_namedBy_14 : decode prog_11_method_39_code 14 = .ok (.iload_n 1, 1) := by decide +kernel
theorem d_Mo_namedBy_15 : decode prog_11_method_39_code 15 = .ok (.iconst 1, 1) := by decide +kernel
theorem d_Mo_namedBy_16 : decode prog_11_method_39_code 16 = .ok (.iadd, 1) := by decide +kernel
theorem d_Mo_namedBy_17 : decode prog_11_method_39_code 17 = .ok (.iaload, 1) := by decide +kernel
theorem d_Mo_namedBy_18 : decode prog_11_method_39_code 18 = .ok (.if_icmp .ge 20, 3) := by decide +kernel
theorem d_Mo_namedBy_21 : decode prog_11_method_39_code 21 = .ok (.iload_n 2, 1) := by decide +kernel
theorem d_Mo_namedBy_22 : decode prog_11_method_39_code 22 = .ok (.iconst 1, 1) := by decide +kernel
theorem d_Mo_namedBy_23 : decode prog_11_method_39_code 23 = .ok (.aload_n 0, 1) := by decide +kernel
theorem d_Mo_namedBy_24 : decode prog_11_method_39_code 24 = .ok (.getfield 53, 3) := by decide +kernel
theorem d_Mo_namedBy_27 : decode prog_11_method_39_code 27 = .ok (.iload_n 3, 1) := by decide +kernel
theorem d_Mo_namedBy_28 : decode prog_11_method_39_code 28 = .ok (.iaload, 1) := by decide +kernel
theorem d_Mo_namedBy_29 : decode prog_11_method_39_code 29 = .ok (.ishl, 1) := by decide +kernel
theorem d_Mo_namedBy_30 : decode prog_11_method_39_code 30 = .ok (.ior, 1) := by decide +kernel
theorem d_Mo_namedBy_31 : decode prog_11_method_39_code 31 = .ok (.istore_n 2, 1) := by decide +kernel
theorem d_Mo_namedBy_32 : decode prog_11_method_39_code 32 = .ok (.iinc 3 1, 3) := by decide +kernel
theorem d_Mo_namedBy_35 : decode prog_11_method_39_code 35 = .ok (.goto (-26), 3) := by decide +kernel
theorem d_Mo_namedBy_38 : decode prog_11_method_39_code 38 = .ok (.iload_n 2, 1) := by decide +kernel
theorem d_Mo_namedBy_39 : decode prog_11_method_39_code 39 = .ok (.bipush (-2), 2) := by decide +kernel
theorem d_Mo_namedBy_41 : decode prog_11_method_39_code 41 = .ok (.iand, 1) := by decide +kernel
theorem d_Mo_namedBy_42 : decode prog_11_method_39_code 42 = .ok (.ireturn, 1) := by decide +kernel
abbrev m_Mo_least : MethodName × ByteArray × Nat × Option FieldType := (⟨"TestTextModel", "least", "(I)I"⟩, prog_11_method_42_code, 7, (Option.some FieldType.int))
theorem d_Mo_least_0 : decode prog_11_method_42_code 0 = .ok (.aload_n 0, 1) := by decide +kernel
theorem d_Mo_least_1 : decode prog_11_method_42_code 1 = .ok (.iconst 0, 1) := by decide +kernel
theorem d_Mo_least_2 : decode prog_11_method_42_code 2 = .ok (.putfield 127, 3) := by decide +kernel
theorem d_Mo_least_5 : decode prog_11_method_42_code 5 = .ok (.iconst 0, 1) := by decide +kernel
theorem d_Mo_least_6 : decode prog_11_method_42_code 6 = .ok (.istore_n 2, 1) := by decide +kernel
theorem d_Mo_least_7 : decode prog_11_method_42_code 7 = .ok (.iconst 1, 1) := by decide +kernel
theorem d_Mo_least_8 : decode prog_11_method_42_code 8 = .ok (.istore_n 3, 1) := by decide +kernel
theorem d_Mo_least_9 : decode prog_11_method_42_code 9 = .ok (.iload_n 3, 1) := by decide +kernel
theorem d_Mo_least_10 : decode prog_11_method_42_code 10 = .ok (.aload_n 0, 1) := by decide +kernel
theorem d_Mo_least_11 : decode prog_11_method_42_code 11 = .ok (.getfield 171, 3) := by decide +kernel
theorem d_Mo_least_14 : decode prog_11_method_42_code 14 = .ok (.if_icmp .gt 17, 3) := by decide +kernel
theorem d_Mo_least_17 : decode prog_11_method_42_code 17 = .ok (.iload_n 2, 1) := by decide +kernel
theorem d_Mo_least_18 : decode prog_11_method_42_code 18 = .ok (.aload_n 0, 1) := by decide +kernel
theorem d_Mo_least_19 : decode prog_11_method_42_code 19 = .ok (.iload_n 3, 1) := by decide +kernel
theorem d_Mo_least_20 : decode prog_11_method_42_code 20 = .ok (.invokevirtual 308, 3) := by decide +kernel
theorem d_Mo_least_23 : decode prog_11_method_42_code 23 = .ok (.ior, 1) := by decide +kernel
theorem d_Mo_least_24 : decode prog_11_method_42_code 24 = .ok (.istore_n 2, 1) := by decide +kernel
theorem d_Mo_least_25 : decode prog_11_method_42_code 25 = .ok (.iinc 3 1, 3) := by decide +kernel
theorem d_Mo_least_28 : decode prog_11_method_42_code 28 = .ok (.goto (-19), 3) := by decide +kernel
theorem d_Mo_least_31 : decode prog_11_method_42_code 31 = .ok (.iconst (-1), 1) := by decide +kernel
theorem d_Mo_least_32 : decode prog_11_method_42_code 32 = .ok (.istore_n 3, 1) := by decide +kernel
theorem d_Mo_least_33 : decode prog_11_method_42_code 33 = .ok (.iconst 0, 1) := by decide +kernel
theorem d_Mo_least_34 : decode prog_11_method_42_code 34 = .ok (.istore 4, 2) := by decide +kernel
theorem d_Mo_least_36 : decode prog_11_method_42_code 36 = .ok (.iload 4, 2) := by decide +kernel
theorem d_Mo_least_38 : decode prog_11_method_42_code 38 = .ok (.iconst 1, 1) := by decide +kernel
theorem d_Mo_least_39 : decode prog_11_method_42_code 39 = .ok (.aload_n 0, 1) := by decide +kernel
theorem d_Mo_least_40 : decode prog_11_method_42_code 40 = .ok (.getfield 171, 3) := by decide +kernel
theorem d_Mo_least_43 : decode prog_11_method_42_code 43 = .ok (.ishl, 1) := by decide +kernel
theorem d_Mo_least_44 : decode prog_11_method_42_code 44 = .ok (.if_icmp .ge 105, 3) := by decide +kernel
theorem d_Mo_least_47 : decode prog_11_method_42_code 47 = .ok (.iconst 0, 1) := by decide +kernel
theorem d_Mo_least_48 : decode prog_11_method_42_code 48 = .ok (.istore 5, 2) := by decide +kernel
theorem d_Mo_least_50 : decode prog_11_method_42_code 50 = .ok (.iconst 1, 1) := by decide +kernel
theorem d_Mo_least_51 : decode prog_11_method_42_code 51 = .ok (.istore 6, 2) := by decide +kernel
theorem d_Mo_least_53 : decode prog_11_method_42_code 53 = .ok (.iload 6, 2) := by decide +kernel
theorem d_Mo_least_55 : decode prog_11_method_42_code 55 = .ok (.aload_n 0, 1) := by decide +kernel
theorem d_Mo_least_56 : decode prog_11_method_42_code 56 = .ok (.getfield 171, 3) := by decide +kernel
theorem d_Mo_least_59 : decode prog_11_method_42_code 59 = .ok (.if_icmp .gt 41, 3) := by decide +kernel
theorem d_Mo_least_62 : decode prog_11_method_42_code 62 = .ok (.iload 4, 2) := by decide +kernel
theorem d_Mo_least_64 : decode prog_11_method_42_code 64 = .ok (.aload_n 0, 1) := by decide +kernel
theorem d_Mo_least_65 : decode prog_11_method_42_code 65 = .ok (.getfield 171, 3) := by decide +kernel
theorem d_Mo_least_68 : decode prog_11_method_42_code 68 = .ok (.iload 6, 2) := by decide +kernel
theorem d_Mo_least_70 : decode prog_11_method_42_code 70 = .ok (.isub, 1) := by decide +kernel
theorem d_Mo_least_71 : decode prog_11_method_42_code 71 = .ok (.ishr, 1) := by decide +kernel
theorem d_Mo_least_72 : decode prog_11_method_42_code 72 = .ok (.iconst 1, 1) := by decide +kernel
theorem d_Mo_least_73 : decode prog_11_method_42_code 73 = .ok (.iand, 1) := by decide +kernel
theorem d_Mo_least_74 : decode prog_11_method_42_code 74 = .ok (.iconst 1, 1) := by decide +kernel
theorem d_Mo_least_75 : decode prog_11_method_42_code 75 = .ok (.if_icmp .ne 15, 3) := by decide +kernel
theorem d_Mo_least_78 : decode prog_11_method_42_code 78 = .ok (.iload 5, 2) := by decide +kernel
theorem d_Mo_least_80 : decode prog_11_method_42_code 80 = .ok (.aload_n 0, 1) := by decide +kernel
theorem d_Mo_least_81 : decode prog_11_method_42_code 81 = .ok (.iload 6, 2) := by decide +kernel
theorem d_Mo_least_83 : decode prog_11_method_42_code 83 = .ok (.invokevirtual 308, 3) := by decide +kernel
theorem d_Mo_least_86 : decode prog_11_method_42_code 86 = .ok (.ior, 1) := by decide +kernel
theorem d_Mo_least_87 : decode prog_11_method_42_code 87 = .ok (.goto 5, 3) := by decide +kernel
theorem d_Mo_least_90 : decode prog_11_method_42_code 90 = .ok (.iload 5, 2) := by decide +kernel
theorem d_Mo_least_92 : decode prog_11_method_42_code 92 = .ok (.istore 5, 2) := by decide +kernel
theorem d_Mo_least_94 : decode prog_11_method_42_code 94 = .ok (.iinc 6 1, 3) := by decide +kernel
theorem d_Mo_least_97 : decode prog_11_method_42_code 97 = .ok (.goto (-44), 3) := by decide +kernel
theorem d_Mo_least_100 : decode prog_11_method_42_code 100 = .ok (.iload 5, 2) := by decide +kernel
theorem d_Mo_least_102 : decode prog_11_method_42_code 102 = .ok (.iload_n 2, 1) := by decide +kernel
theorem d_Mo_least_103 : decode prog_11_method_42_code 103 = .ok (.if_icmp .ne 40, 3) := by decide +kernel
theorem d_Mo_least_106 : decode prog_11_method_42_code 106 = .ok (.iload_n 3, 1) := by decide +kernel
theorem d_Mo_least_107 : decode prog_11_method_42_code 107 = .ok (.ifCond .lt 33, 3) := by decide +kernel
theorem d_Mo_least_110 : decode prog_11_method_42_code 110 = .ok (.iload 4, 2) := by decide +kernel
theorem d_Mo_least_112 : decode prog_11_method_42_code 112 = .ok (.invokestatic 311, 3) := by decide +kernel
theorem d_Mo_least_115 : decode prog_11_method_42_code 115 = .ok (.iload_n 3, 1) := by decide +kernel
theorem d_Mo_least_116 : decode prog_11_method_42_code 116 = .ok (.invokestatic 311, 3) := by decide +kernel
theorem d_Mo_least_119 : decode prog_11_method_42_code 119 = .ok (.if_icmp .lt 21, 3) := by decide +kernel
theorem d_Mo_least_122 : decode prog_11_method_42_code 122 = .ok (.iload 4, 2) := by decide +kernel
theorem d_Mo_least_124 : decode prog_11_method_42_code 124 = .ok (.invokestatic 311, 3) := by decide +kernel
theorem d_Mo_least_127 : decode prog_11_method_42_code 127 = .ok (.iload_n 3, 1) := by decide +kernel
theorem d_Mo_least_128 : decode prog_11_method_42_code 128 = .ok (.invokestatic 311, 3) := by decide +kernel
theorem d_Mo_least_131 : decode prog_11_method_42_code 131 = .ok (.if_icmp .ne 12, 3) := by decide +kernel
theorem d_Mo_least_134 : decode prog_11_method_42_code 134 = .ok (.iload 4, 2) := by decide +kernel
theorem d_Mo_least_136 : decode prog_11_method_42_code 136 = .ok (.iload_n 3, 1) := by decide +kernel
theorem d_Mo_least_137 : decode prog_11_method_42_code 137 = .ok (.if_icmp .le 6, 3) := by decide +kernel
theorem d_Mo_least_140 : decode prog_11_method_42_code 140 = .ok (.iload 4, 2) := by decide +kernel
theorem d_Mo_least_142 : decode prog_11_method_42_code 142 = .ok (.istore_n 3, 1) := by decide +kernel
theorem d_Mo_least_143 : decode prog_11_method_42_code 143 = .ok (.iinc 4 1, 3) := by decide +kernel
theorem d_Mo_least_146 : decode prog_11_method_42_code 146 = .ok (.goto (-110), 3) := by decide +kernel
theorem d_Mo_least_149 : decode prog_11_method_42_code 149 = .ok (.iconst 0, 1) := by decide +kernel
theorem d_Mo_least_150 : decode prog_11_method_42_code 150 = .ok (.istore 4, 2) := by decide +kernel
theorem d_Mo_least_152 : decode prog_11_method_42_code 152 = .ok (.iconst 1, 1) := by decide +kernel
theorem d_Mo_least_153 : decode prog_11_method_42_code 153 = .ok (.istore 5, 2) := by decide +kernel
theorem d_Mo_least_155 : decode prog_11_method_42_code 155 = .ok (.iload 5, 2) := by decide +kernel
theorem d_Mo_least_157 : decode prog_11_method_42_code 157 = .ok (.aload_n 0, 1) := by decide +kernel
theorem d_Mo_least_158 : decode prog_11_method_42_code 158 = .ok (.getfield 171, 3) := by decide +kernel
theorem d_Mo_least_161 : decode prog_11_method_42_code 161 = .ok (.if_icmp .gt 38, 3) := by decide +kernel
theorem d_Mo_least_164 : decode prog_11_method_42_code 164 = .ok (.iload_n 3, 1) := by decide +kernel
theorem d_Mo_least_165 : decode prog_11_method_42_code 165 = .ok (.aload_n 0, 1) := by decide +kernel
theorem d_Mo_least_166 : decode prog_11_method_42_code 166 = .ok (.getfield 171, 3) := by decide +kernel
theorem d_Mo_least_169 : decode prog_11_method_42_code 169 = .ok (.iload 5, 2) := by decide +kernel
theorem d_Mo_least_171 : decode prog_11_method_42_code 171 = .ok (.isub, 1) := by decide +kernel
theorem d_Mo_least_172 : decode prog_11_method_42_code 172 = .ok (.ishr, 1) := by decide +kernel
theorem d_Mo_least_173 : decode prog_11_method_42_code 173 = .ok (.iconst 1, 1) := by decide +kernel
theorem d_Mo_least_174 : decode prog_11_method_42_code 174 = .ok (.iand, 1) := by decide +kernel
theorem d_Mo_least_175 : decode prog_11_method_42_code 175 = .ok (.ifCond .ne 6, 3) := by decide +kernel
theorem d_Mo_least_178 : decode prog_11_method_42_code 178 = .ok (.goto 15, 3) := by decide +kernel
theorem d_Mo_least_181 : decode prog_11_method_42_code 181 = .ok (.iload 4, 2) := by decide +kernel
theorem d_Mo_least_183 : decode prog_11_method_42_code 183 = .ok (.iload_n 1, 1) := by decide +kernel
theorem d_Mo_least_184 : decode prog_11_method_42_code 184 = .ok (.if_icmp .ne 6, 3) := by decide +kernel
theorem d_Mo_least_187 : decode prog_11_method_42_code 187 = .ok (.iload 5, 2) := by decide +kernel
theorem d_Mo_least_189 : decode prog_11_method_42_code 189 = .ok (.ireturn, 1) := by decide +kernel
theorem d_Mo_least_190 : decode prog_11_method_42_code 190 = .ok (.iinc 4 1, 3) := by decide +kernel
theorem d_Mo_least_193 : decode prog_11_method_42_code 193 = .ok (.iinc 5 1, 3) := by decide +kernel
theorem d_Mo_least_196 : decode prog_11_method_42_code 196 = .ok (.goto (-41), 3) := by decide +kernel
theorem d_Mo_least_199 : decode prog_11_method_42_code 199 = .ok (.iconst 0, 1) := by decide +kernel
theorem d_Mo_least_200 : decode prog_11_method_42_code 200 = .ok (.ireturn, 1) := by decide +kernel
abbrev m_Mo_count : MethodName × ByteArray × Nat × Option FieldType := (⟨"TestTextModel", "count", "(I)I"⟩, prog_11_method_41_code, 3, (Option.some FieldType.int))
theorem d_Mo_count_0 : decode prog_11_method_41_code 0 = .ok (.iconst 0, 1) := by decide +kernel
theorem d_Mo_count_1 : decode prog_11_method_41_code 1 = .ok (.istore_n 1, 1) := by decide +kernel
theorem d_Mo_count_2 : decode prog_11_method_41_code 2 = .ok (.iconst 0, 1) := by decide +kernel
theorem d_Mo_count_3 : decode prog_11_method_41_code 3 = .ok (.istore_n 2, 1) := by decide +kernel
theorem d_Mo_count_4 : decode prog_11_method_41_code 4 = .ok (.iload_n 2, 1) := by decide +kernel
theorem d_Mo_count_5 : decode prog_11_method_41_code 5 = .ok (.bipush 30, 2) := by decide +kernel
theorem d_Mo_count_7 : decode prog_11_method_41_code 7 = .ok (.if_icmp .ge 17, 3) := by decide +kernel
theorem d_Mo_count_10 : decode prog_11_method_41_code 10 = .ok (.iload_n 1, 1) := by decide +kernel
theorem d_Mo_count_11 : decode prog_11_method_41_code 11 = .ok (.iload_n 0, 1) := by decide +kernel
theorem d_Mo_count_12 : decode prog_11_method_41_code 12 = .ok (.iload_n 2, 1) := by decide +kernel
theorem d_Mo_count_13 : decode prog_11_method_41_code 13 = .ok (.ishr, 1) := by decide +kernel
theorem d_Mo_count_14 : decode prog_11_method_41_code 14 = .ok (.iconst 1, 1) := by decide +kernel
theorem d_Mo_count_15 : decode prog_11_method_41_code 15 = .ok (.iand, 1) := by decide +kernel
theorem d_Mo_count_16 : decode prog_11_method_41_code 16 = .ok (.iadd, 1) := by decide +kernel
theorem d_Mo_count_17 : decode prog_11_method_41_code 17 = .ok (.istore_n 1, 1) := by decide +kernel
theorem d_Mo_count_18 : decode prog_11_method_41_code 18 = .ok (.iinc 2 1, 3) := by decide +kernel
theorem d_Mo_count_21 : decode prog_11_method_41_code 21 = .ok (.goto (-17), 3) := by decide +kernel
theorem d_Mo_count_24 : decode prog_11_method_41_code 24 = .ok (.iload_n 1, 1) := by decide +kernel
theorem d_Mo_count_25 : decode prog_11_method_41_code 25 = .ok (.ireturn, 1) := by decide +kernel
abbrev m_Mo_seed : MethodName × ByteArray × Nat × Option FieldType := (⟨"TestTextModel", "seed", "(J)I"⟩, prog_11_method_43_code, 3, (Option.some FieldType.int))
theorem d_Mo_seed_0 : decode prog_11_method_43_code 0 = .ok (.aload_n 0, 1) := by decide +kernel
theorem d_Mo_seed_1 : decode prog_11_method_43_code 1 = .ok (.iconst 0, 1) := by decide +kernel
theorem d_Mo_seed_2 : decode prog_11_method_43_code 2 = .ok (.putfield 127, 3) := by decide +kernel
theorem d_Mo_seed_5 : decode prog_11_method_43_code 5 = .ok (.aload_n 0, 1) := by decide +kernel
theorem d_Mo_seed_6 : decode prog_11_method_43_code 6 = .ok (.lload_n 1, 1) := by decide +kernel
theorem d_Mo_seed_7 : decode prog_11_method_43_code 7 = .ok (.ldc2_w 314, 3) := by decide +kernel
theorem d_Mo_seed_10 : decode prog_11_method_43_code 10 = .ok (.land, 1) := by decide +kernel
theorem d_Mo_seed_11 : decode prog_11_method_43_code 11 = .ok (.putfield 96, 3) := by decide +kernel
theorem d_Mo_seed_14 : decode prog_11_method_43_code 14 = .ok (.iconst 1, 1) := by decide +kernel
theorem d_Mo_seed_15 : decode prog_11_method_43_code 15 = .ok (.ireturn, 1) := by decide +kernel
abbrev m_Mo_shorter : MethodName × ByteArray × Nat × Option FieldType := (⟨"TestTextModel", "shorter", "()I"⟩, prog_11_method_44_code, 1, (Option.some FieldType.int))
theorem d_Mo_shorter_0 : decode prog_11_method_44_code 0 = .ok (.aload_n 0, 1) := by decide +kernel
theorem d_Mo_shorter_1 : decode prog_11_method_44_code 1 = .ok (.iconst 0, 1) := by decide +kernel
theorem d_Mo_shorter_2 : decode prog_11_method_44_code 2 = .ok (.putfield 127, 3) := by decide +kernel
theorem d_Mo_shorter_5 : decode prog_11_method_44_code 5 = .ok (.aload_n 0, 1) := by decide +kernel
theorem d_Mo_shorter_6 : decode prog_11_method_44_code 6 = .ok (.getfield 232, 3) := by decide +kernel
theorem d_Mo_shorter_9 : decode prog_11_method_44_code 9 = .ok (.ifCond .ne 8, 3) := by decide +kernel
theorem d_Mo_shorter_12 : decode prog_11_method_44_code 12 = .ok (.bipush (-3), 2) := by decide +kernel
theorem d_Mo_shorter_14 : decode prog_11_method_44_code 14 = .ok (.goto 28, 3) := by decide +kernel
theorem d_Mo_shorter_17 : decode prog_11_method_44_code 17 = .ok (.aload_n 0, 1) := by decide +kernel
theorem d_Mo_shorter_18 : decode prog_11_method_44_code 18 = .ok (.getfield 266, 3) := by decide +kernel
theorem d_Mo_shorter_21 : decode prog_11_method_44_code 21 = .ok (.ifCond .ge 17, 3) := by decide +kernel
theorem d_Mo_shorter_24 : decode prog_11_method_44_code 24 = .ok (.aload_n 0, 1) := by decide +kernel
theorem d_Mo_shorter_25 : decode prog_11_method_44_code 25 = .ok (.getfield 100, 3) := by decide +kernel
theorem d_Mo_shorter_28 : decode prog_11_method_44_code 28 = .ok (.aload_n 0, 1) := by decide +kernel
theorem d_Mo_shorter_29 : decode prog_11_method_44_code 29 = .ok (.getfield 232, 3) := by decide +kernel
theorem d_Mo_shorter_32 : decode prog_11_method_44_code 32 = .ok (.iconst 1, 1) := by decide +kernel
theorem d_Mo_shorter_33 : decode prog_11_method_44_code 33 = .ok (.isub, 1) := by decide +kernel
theorem d_Mo_shorter_34 : decode prog_11_method_44_code 34 = .ok (.iaload, 1) := by decide +kernel
theorem d_Mo_shorter_35 : decode prog_11_method_44_code 35 = .ok (.goto 7, 3) := by decide +kernel
theorem d_Mo_shorter_38 : decode prog_11_method_44_code 38 = .ok (.aload_n 0, 1) := by decide +kernel
theorem d_Mo_shorter_39 : decode prog_11_method_44_code 39 = .ok (.getfield 266, 3) := by decide +kernel
theorem d_Mo_shorter_42 : decode prog_11_method_44_code 42 = .ok (.ireturn, 1) := by decide +kernel
abbrev m_Mo_cases : MethodName × ByteArray × Nat × Option FieldType := (⟨"TestTextModel", "cases", "(II)I"⟩, prog_11_method_45_code, 4, (Option.some FieldType.int))
theorem d_Mo_cases_0 : decode prog_11_method_45_code 0 = .ok (.aload_n 0, 1) := by decide +kernel
theorem d_Mo_cases_1 : decode prog_11_method_45_code 1 = .ok (.iconst 0, 1) := by decide +kernel
theorem d_Mo_cases_2 : decode prog_11_method_45_code 2 = .ok (.putfield 127, 3) := by decide +kernel
theorem d_Mo_cases_5 : decode prog_11_method_45_code 5 = .ok (.aload_n 0, 1) := by decide +kernel
theorem d_Mo_cases_6 : decode prog_11_method_45_code 6 = .ok (.getfield 232, 3) := by decide +kernel
theorem d_Mo_cases_9 : decode prog_11_method_45_code 9 = .ok (.ifCond .eq 22, 3) := by decide +kernel
theorem d_Mo_cases_12 : decode prog_11_method_45_code 12 = .ok (.iload_n 1, 1) := by decide +kernel
theorem d_Mo_cases_13 : decode prog_11_method_45_code 13 = .ok (.ifCond .lt 18, 3) := by decide +kernel
theorem d_Mo_cases_16 : decode prog_11_method_45_code 16 = .ok (.iload_n 1, 1) := by decide +kernel
theorem d_Mo_cases_17 : decode prog_11_method_45_code 17 = .ok (.aload_n 0, 1) := by decide +kernel
theorem d_Mo_cases_18 : decode prog_11_method_45_code 18 = .ok (.getfield 100, 3) := by decide +kernel
theorem d_Mo_cases_21 : decode prog_11_method_45_code 21 = .ok (.aload_n 0, 1) := by decide +kernel
theorem d_Mo_cases_22 : decode prog_11_method_45_code 22 = .ok (.getfield 232, 3) := by decide +kernel
theorem d_Mo_cases_25 : decode prog_11_method_45_code 25 = .ok (.iconst 1, 1) := by decide +kernel
theorem d_Mo_cases_26 : decode prog_11_method_45_code 26 = .ok (.isub, 1) := by decide +kernel
theorem d_Mo_cases_27 : decode prog_11_method_45_code 27 = .ok (.iaload, 1) := by decide +kernel
theorem d_Mo_cases_28 : decode prog_11_method_45_code 28 = .ok (.if_icmp .lt 5, 3) := by decide +kernel
theorem d_Mo_cases_31 : decode prog_11_method_45_code 31 = .ok (.iconst (-1), 1) := by decide +kernel
theorem d_Mo_cases_32 : decode prog_11_method_45_code 32 = .ok (.ireturn, 1) := by decide +kernel
theorem d_Mo_cases_33 : decode prog_11_method_45_code 33 = .ok (.sipush 2000, 3) := by decide +kernel
theorem d_Mo_cases_36 : decode prog_11_method_45_code 36 = .ok (.aload_n 0, 1) := by decide +kernel
theorem d_Mo_cases_37 : decode prog_11_method_45_code 37 = .ok (.getfield 232, 3) := by decide +kernel
theorem d_Mo_cases_40 : decode prog_11_method_45_code 40 = .ok (.iconst 1, 1) := by decide +kernel
theorem d_Mo_cases_41 : decode prog_11_method_45_code 41 = .ok (.isub, 1) := by decide +kernel
theorem d_Mo_cases_42 : decode prog_11_method_45_code 42 = .ok (.imul, 1) := by decide +kernel
theorem d_Mo_cases_43 : decode prog_11_method_45_code 43 = .ok (.iload_n 1, 1) := by decide +kernel
theorem d_Mo_cases_44 : decode prog_11_method_45_code 44 = .ok (.iadd, 1) := by decide +kernel
theorem d_Mo_cases_45 : decode prog_11_method_45_code 45 = .ok (.istore_n 3, 1) := by decide +kernel
theorem d_Mo_cases_46 : decode prog_11_method_45_code 46 = .ok (.iload_n 2, 1) := by decide +kernel
theorem d_Mo_cases_47 : decode prog_11_method_45_code 47 = .ok (.ifCond .ne 12, 3) := by decide +kernel
theorem d_Mo_cases_50 : decode prog_11_method_45_code 50 = .ok (.aload_n 0, 1) := by decide +kernel
theorem d_Mo_cases_51 : decode prog_11_method_45_code 51 = .ok (.getfield 103, 3) := by decide +kernel
theorem d_Mo_cases_54 : decode prog_11_method_45_code 54 = .ok (.iload_n 3, 1) := by decide +kernel
theorem d_Mo_cases_55 : decode prog_11_method_45_code 55 = .ok (.iaload, 1) := by decide +kernel
theorem d_Mo_cases_56 : decode prog_11_method_45_code 56 = .ok (.goto 35, 3) := by decide +kernel
theorem d_Mo_cases_59 : decode prog_11_method_45_code 59 = .ok (.iload_n 2, 1) := by decide +kernel
theorem d_Mo_cases_60 : decode prog_11_method_45_code 60 = .ok (.iconst 1, 1) := by decide +kernel
theorem d_Mo_cases_61 : decode prog_11_method_45_code 61 = .ok (.if_icmp .ne 13, 3) := by decide +kernel
theorem d_Mo_cases_64 : decode prog_11_method_45_code 64 = .ok (.aload_n 0, 1) := by decide +kernel
theorem d_Mo_cases_65 : decode prog_11_method_45_code 65 = .ok (.getfield 106, 3) := by decide +kernel
theorem d_Mo_cases_68 : decode prog_11_method_45_code 68 = .ok (.iload_n 3, 1) := by decide +kernel
theorem d_Mo_cases_69 : decode prog_11_method_45_code 69 = .ok (.laload, 1) := by decide +kernel
theorem d_Mo_cases_70 : decode prog_11_method_45_code 70 = .ok (.l2i, 1) := by decide +kernel
theorem d_Mo_cases_71 : decode prog_11_method_45_code 71 = .ok (.goto 20, 3) := by decide +kernel
theorem d_Mo_cases_74 : decode prog_11_method_45_code 74 = .ok (.iload_n 2, 1) := by decide +kernel
theorem d_Mo_cases_75 : decode prog_11_method_45_code 75 = .ok (.iconst 2, 1) := by decide +kernel
theorem d_Mo_cases_76 : decode prog_11_method_45_code 76 = .ok (.if_icmp .ne 13, 3) := by decide +kernel
theorem d_Mo_cases_79 : decode prog_11_method_45_code 79 = .ok (.aload_n 0, 1) := by decide +kernel
theorem d_Mo_cases_80 : decode prog_11_method_45_code 80 = .ok (.getfield 109, 3) := by decide +kernel
theorem d_Mo_cases_83 : decode prog_11_method_45_code 83 = .ok (.iload_n 3, 1) := by decide +kernel
theorem d_Mo_cases_84 : decode prog_11_method_45_code 84 = .ok (.laload, 1) := by decide +kernel
theorem d_Mo_cases_85 : decode prog_11_method_45_code 85 = .ok (.l2i, 1) := by decide +kernel
theorem d_Mo_cases_86 : decode prog_11_method_45_code 86 = .ok (.goto 5, 3) := by decide +kernel
theorem d_Mo_cases_89 : decode prog_11_method_45_code 89 = .ok (.bipush (-2), 2) := by decide +kernel
theorem d_Mo_cases_91 : decode prog_11_method_45_code 91 = .ok (.ireturn, 1) := by decide +kernel
