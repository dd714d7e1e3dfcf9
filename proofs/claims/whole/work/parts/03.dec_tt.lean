abbrev m_TT_init : MethodName × ByteArray × Nat × Option FieldType := (⟨"TestText", "<init>", "()V"⟩, prog_1_method_1_code, 1, (Option.none : Option FieldType))
theorem d_TT_init_0 : decode prog_1_method_1_code 0 = .ok (.aload_n 0, 1) := by decide +kernel
theorem d_TT_init_1 : decode prog_1_method_1_code 1 = .ok (.invokespecial 3, 3) := by decide +kernel
theorem d_TT_init_4 : decode prog_1_method_1_code 4 = .ok (.aload_n 0, 1) := by decide +kernel
theorem d_TT_init_5 : decode prog_1_method_1_code 5 = .ok (.sipush 4000, 3) := by decide +kernel
theorem d_TT_init_8 : decode prog_1_method_1_code 8 = .ok (.newarray .byte, 2) := by decide +kernel
theorem d_TT_init_10 : decode prog_1_method_1_code 10 = .ok (.putfield 9, 3) := by decide +kernel
theorem d_TT_init_13 : decode prog_1_method_1_code 13 = .ok (.aload_n 0, 1) := by decide +kernel
theorem d_TT_init_14 : decode prog_1_method_1_code 14 = .ok (.iconst 0, 1) := by decide +kernel
theorem d_TT_init_15 : decode prog_1_method_1_code 15 = .ok (.putfield 13, 3) := by decide +kernel
theorem d_TT_init_18 : decode prog_1_method_1_code 18 = .ok (.aload_n 0, 1) := by decide +kernel
theorem d_TT_init_19 : decode prog_1_method_1_code 19 = .ok (.new 17, 3) := by decide +kernel
theorem d_TT_init_22 : decode prog_1_method_1_code 22 = .ok (.dup, 1) := by decide +kernel
theorem d_TT_init_23 : decode prog_1_method_1_code 23 = .ok (.invokespecial 19, 3) := by decide +kernel
theorem d_TT_init_26 : decode prog_1_method_1_code 26 = .ok (.putfield 20, 3) := by decide +kernel
theorem d_TT_init_29 : decode prog_1_method_1_code 29 = .ok (.aload_n 0, 1) := by decide +kernel
theorem d_TT_init_30 : decode prog_1_method_1_code 30 = .ok (.iconst 0, 1) := by decide +kernel
theorem d_TT_init_31 : decode prog_1_method_1_code 31 = .ok (.putfield 24, 3) := by decide +kernel
theorem d_TT_init_34 : decode prog_1_method_1_code 34 = .ok (.aload_n 0, 1) := by decide +kernel
theorem d_TT_init_35 : decode prog_1_method_1_code 35 = .ok (.new 27, 3) := by decide +kernel
theorem d_TT_init_38 : decode prog_1_method_1_code 38 = .ok (.dup, 1) := by decide +kernel
theorem d_TT_init_39 : decode prog_1_method_1_code 39 = .ok (.invokespecial 29, 3) := by decide +kernel
theorem d_TT_init_42 : decode prog_1_method_1_code 42 = .ok (.putfield 30, 3) := by decide +kernel
theorem d_TT_init_45 : decode prog_1_method_1_code 45 = .ok (.aload_n 0, 1) := by decide +kernel
theorem d_TT_init_46 : decode prog_1_method_1_code 46 = .ok (.iconst 0, 1) := by decide +kernel
theorem d_TT_init_47 : decode prog_1_method_1_code 47 = .ok (.putfield 34, 3) := by decide +kernel
theorem d_TT_init_50 : decode prog_1_method_1_code 50 = .ok (.aload_n 0, 1) := by decide +kernel
theorem d_TT_init_51 : decode prog_1_method_1_code 51 = .ok (.lconst 1, 1) := by decide +kernel
theorem d_TT_init_52 : decode prog_1_method_1_code 52 = .ok (.putfield 37, 3) := by decide +kernel
theorem d_TT_init_55 : decode prog_1_method_1_code 55 = .ok (.aload_n 0, 1) := by decide +kernel
theorem d_TT_init_56 : decode prog_1_method_1_code 56 = .ok (.bipush 8, 2) := by decide +kernel
theorem d_TT_init_58 : decode prog_1_method_1_code 58 = .ok (.anewarray 41, 3) := by decide +kernel
theorem d_TT_init_61 : decode prog_1_method_1_code 61 = .ok (.putfield 43, 3) := by decide +kernel
theorem d_TT_init_64 : decode prog_1_method_1_code 64 = .ok (.aload_n 0, 1) := by decide +kernel
theorem d_TT_init_65 : decode prog_1_method_1_code 65 = .ok (.iconst 0, 1) := by decide +kernel
theorem d_TT_init_66 : decode prog_1_method_1_code 66 = .ok (.putfield 47, 3) := by decide +kernel
theorem d_TT_init_69 : decode prog_1_method_1_code 69 = .ok (.return_, 1) := by decide +kernel
abbrev m_TT_sign : MethodName × ByteArray × Nat × Option FieldType := (⟨"TestText", "sign", "(I)V"⟩, prog_1_method_2_code, 2, (Option.none : Option FieldType))
theorem d_TT_sign_0 : decode prog_1_method_2_code 0 = .ok (.aload_n 0, 1) := by decide +kernel
theorem d_TT_sign_1 : decode prog_1_method_2_code 1 = .ok (.iload_n 1, 1) := by decide +kernel
theorem d_TT_sign_2 : decode prog_1_method_2_code 2 = .ok (.bipush 24, 2) := by decide +kernel
theorem d_TT_sign_4 : decode prog_1_method_2_code 4 = .ok (.iushr, 1) := by decide +kernel
theorem d_TT_sign_5 : decode prog_1_method_2_code 5 = .ok (.invokevirtual 50, 3) := by decide +kernel
theorem d_TT_sign_8 : decode prog_1_method_2_code 8 = .ok (.aload_n 0, 1) := by decide +kernel
theorem d_TT_sign_9 : decode prog_1_method_2_code 9 = .ok (.iload_n 1, 1) := by decide +kernel
theorem d_TT_sign_10 : decode prog_1_method_2_code 10 = .ok (.bipush 16, 2) := by decide +kernel
theorem d_TT_sign_12 : decode prog_1_method_2_code 12 = .ok (.iushr, 1) := by decide +kernel
theorem d_TT_sign_13 : decode prog_1_method_2_code 13 = .ok (.sipush 255, 3) := by decide +kernel
theorem d_TT_sign_16 : decode prog_1_method_2_code 16 = .ok (.iand, 1) := by decide +kernel
theorem d_TT_sign_17 : decode prog_1_method_2_code 17 = .ok (.invokevirtual 50, 3) := by decide +kernel
theorem d_TT_sign_20 : decode prog_1_method_2_code 20 = .ok (.aload_n 0, 1) := by decide +kernel
theorem d_TT_sign_21 : decode prog_1_method_2_code 21 = .ok (.iload_n 1, 1) := by decide +kernel
theorem d_TT_sign_22 : decode prog_1_method_2_code 22 = .ok (.bipush 8, 2) := by decide +kernel
theorem d_TT_sign_24 : decode prog_1_method_2_code 24 = .ok (.iushr, 1) := by decide +kernel
theorem d_TT_sign_25 : decode prog_1_method_2_code 25 = .ok (.sipush 255, 3) := by decide +kernel
theorem d_TT_sign_28 : decode prog_1_method_2_code 28 = .ok (.iand, 1) := by decide +kernel
theorem d_TT_sign_29 : decode prog_1_method_2_code 29 = .ok (.invokevirtual 50, 3) := by decide +kernel
theorem d_TT_sign_32 : decode prog_1_method_2_code 32 = .ok (.aload_n 0, 1) := by decide +kernel
theorem d_TT_sign_33 : decode prog_1_method_2_code 33 = .ok (.iload_n 1, 1) := by decide +kernel
theorem d_TT_sign_34 : decode prog_1_method_2_code 34 = .ok (.sipush 255, 3) := by decide +kernel
theorem d_TT_sign_37 : decode prog_1_method_2_code 37 = .ok (.iand, 1) := by decide +kernel
theorem d_TT_sign_38 : decode prog_1_method_2_code 38 = .ok (.invokevirtual 50, 3) := by decide +kernel
theorem d_TT_sign_41 : decode prog_1_method_2_code 41 = .ok (.return_, 1) := by decide +kernel
abbrev m_TT_addSign : MethodName × ByteArray × Nat × Option FieldType := (⟨"TestText", "addSign", "(I)V"⟩, prog_1_method_3_code, 2, (Option.none : Option FieldType))
theorem d_TT_addSign_0 : decode prog_1_method_3_code 0 = .ok (.iload_n 1, 1) := by decide +kernel
theorem d_TT_addSign_1 : decode prog_1_method_3_code 1 = .ok (.iconst 1, 1) := by decide +kernel
theorem d_TT_addSign_2 : decode prog_1_method_3_code 2 = .ok (.if_icmp .lt 40, 3) := by decide +kernel
theorem d_TT_addSign_5 : decode prog_1_method_3_code 5 = .ok (.iload_n 1, 1) := by decide +kernel
theorem d_TT_addSign_6 : decode prog_1_method_3_code 6 = .ok (.bipush 127, 2) := by decide +kernel
theorem d_TT_addSign_8 : decode prog_1_method_3_code 8 = .ok (.if_icmp .gt 34, 3) := by decide +kernel
theorem d_TT_addSign_11 : decode prog_1_method_3_code 11 = .ok (.aload_n 0, 1) := by decide +kernel
theorem d_TT_addSign_12 : decode prog_1_method_3_code 12 = .ok (.getfield 13, 3) := by decide +kernel
theorem d_TT_addSign_15 : decode prog_1_method_3_code 15 = .ok (.sipush 4000, 3) := by decide +kernel
theorem d_TT_addSign_18 : decode prog_1_method_3_code 18 = .ok (.if_icmp .ge 24, 3) := by decide +kernel
theorem d_TT_addSign_21 : decode prog_1_method_3_code 21 = .ok (.aload_n 0, 1) := by decide +kernel
theorem d_TT_addSign_22 : decode prog_1_method_3_code 22 = .ok (.getfield 9, 3) := by decide +kernel
theorem d_TT_addSign_25 : decode prog_1_method_3_code 25 = .ok (.aload_n 0, 1) := by decide +kernel
theorem d_TT_addSign_26 : decode prog_1_method_3_code 26 = .ok (.getfield 13, 3) := by decide +kernel
theorem d_TT_addSign_29 : decode prog_1_method_3_code 29 = .ok (.iload_n 1, 1) := by decide +kernel
theorem d_TT_addSign_30 : decode prog_1_method_3_code 30 = .ok (.i2b, 1) := by decide +kernel
theorem d_TT_addSign_31 : decode prog_1_method_3_code 31 = .ok (.bastore, 1) := by decide +kernel
theorem d_TT_addSign_32 : decode prog_1_method_3_code 32 = .ok (.aload_n 0, 1) := by decide +kernel
theorem d_TT_addSign_33 : decode prog_1_method_3_code 33 = .ok (.dup, 1) := by decide +kernel
theorem d_TT_addSign_34 : decode prog_1_method_3_code 34 = .ok (.getfield 13, 3) := by decide +kernel
theorem d_TT_addSign_37 : decode prog_1_method_3_code 37 = .ok (.iconst 1, 1) := by decide +kernel
theorem d_TT_addSign_38 : decode prog_1_method_3_code 38 = .ok (.iadd, 1) := by decide +kernel
theorem d_TT_addSign_39 : decode prog_1_method_3_code 39 = .ok (.putfield 13, 3) := by decide +kernel
theorem d_TT_addSign_42 : decode prog_1_method_3_code 42 = .ok (.return_, 1) := by decide +kernel
abbrev m_TT_wrong : MethodName × ByteArray × Nat × Option FieldType := (⟨"TestText", "wrong", "()I"⟩, prog_1_method_5_code, 1, (Option.some FieldType.int))
theorem d_TT_wrong_0 : decode prog_1_method_5_code 0 = .ok (.aload_n 0, 1) := by decide +kernel
theorem d_TT_wrong_1 : decode prog_1_method_5_code 1 = .ok (.getfield 24, 3) := by decide +kernel
theorem d_TT_wrong_4 : decode prog_1_method_5_code 4 = .ok (.ireturn, 1) := by decide +kernel
abbrev m_TT_answer : MethodName × ByteArray × Nat × Option FieldType := (⟨"TestText", "answer", "(IJJ)I"⟩, prog_1_method_6_code, 6, (Option.some FieldType.int))
theorem d_TT_answer_0 : decode prog_1_method_6_code 0 = .ok (.aload_n 0, 1) := by decide +kernel
theorem d_TT_answer_1 : decode prog_1_method_6_code 1 = .ok (.getfield 20, 3) := by decide +kernel
theorem d_TT_answer_4 : decode prog_1_method_6_code 4 = .ok (.iload_n 1, 1) := by decide +kernel
theorem d_TT_answer_5 : decode prog_1_method_6_code 5 = .ok (.invokevirtual 86, 3) := by decide +kernel
theorem d_TT_answer_8 : decode prog_1_method_6_code 8 = .ok (.ifCond .ne 5, 3) := by decide +kernel
theorem d_TT_answer_11 : decode prog_1_method_6_code 11 = .ok (.iconst (-1), 1) := by decide +kernel
theorem d_TT_answer_12 : decode prog_1_method_6_code 12 = .ok (.ireturn, 1) := by decide +kernel
theorem d_TT_answer_13 : decode prog_1_method_6_code 13 = .ok (.lload_n 2, 1) := by decide +kernel
theorem d_TT_answer_14 : decode prog_1_method_6_code 14 = .ok (.ldc2_w 90, 3) := by decide +kernel
theorem d_TT_answer_17 : decode prog_1_method_6_code 17 = .ok (.lcmp, 1) := by decide +kernel
theorem d_TT_answer_18 : decode prog_1_method_6_code 18 = .ok (.ifCond .lt 27, 3) := by decide +kernel
theorem d_TT_answer_21 : decode prog_1_method_6_code 21 = .ok (.lload_n 2, 1) := by decide +kernel
theorem d_TT_answer_22 : decode prog_1_method_6_code 22 = .ok (.ldc2_w 92, 3) := by decide +kernel
theorem d_TT_answer_25 : decode prog_1_method_6_code 25 = .ok (.lcmp, 1) := by decide +kernel
theorem d_TT_answer_26 : decode prog_1_method_6_code 26 = .ok (.ifCond .gt 19, 3) := by decide +kernel
theorem d_TT_answer_29 : decode prog_1_method_6_code 29 = .ok (.lload 4, 2) := by decide +kernel
theorem d_TT_answer_31 : decode prog_1_method_6_code 31 = .ok (.lconst 0, 1) := by decide +kernel
theorem d_TT_answer_32 : decode prog_1_method_6_code 32 = .ok (.lcmp, 1) := by decide +kernel
theorem d_TT_answer_33 : decode prog_1_method_6_code 33 = .ok (.ifCond .lt 12, 3) := by decide +kernel
theorem d_TT_answer_36 : decode prog_1_method_6_code 36 = .ok (.lload 4, 2) := by decide +kernel
theorem d_TT_answer_38 : decode prog_1_method_6_code 38 = .ok (.ldc2_w 94, 3) := by decide +kernel
theorem d_TT_answer_41 : decode prog_1_method_6_code 41 = .ok (.lcmp, 1) := by decide +kernel
theorem d_TT_answer_42 : decode prog_1_method_6_code 42 = .ok (.ifCond .le 6, 3) := by decide +kernel
theorem d_TT_answer_45 : decode prog_1_method_6_code 45 = .ok (.bipush (-2), 2) := by decide +kernel
theorem d_TT_answer_47 : decode prog_1_method_6_code 47 = .ok (.ireturn, 1) := by decide +kernel
theorem d_TT_answer_48 : decode prog_1_method_6_code 48 = .ok (.aload_n 0, 1) := by decide +kernel
theorem d_TT_answer_49 : decode prog_1_method_6_code 49 = .ok (.getfield 30, 3) := by decide +kernel
theorem d_TT_answer_52 : decode prog_1_method_6_code 52 = .ok (.getfield 96, 3) := by decide +kernel
theorem d_TT_answer_55 : decode prog_1_method_6_code 55 = .ok (.sipush 200, 3) := by decide +kernel
theorem d_TT_answer_58 : decode prog_1_method_6_code 58 = .ok (.if_icmp .lt 6, 3) := by decide +kernel
theorem d_TT_answer_61 : decode prog_1_method_6_code 61 = .ok (.bipush (-4), 2) := by decide +kernel
theorem d_TT_answer_63 : decode prog_1_method_6_code 63 = .ok (.ireturn, 1) := by decide +kernel
theorem d_TT_answer_64 : decode prog_1_method_6_code 64 = .ok (.aload_n 0, 1) := by decide +kernel
theorem d_TT_answer_65 : decode prog_1_method_6_code 65 = .ok (.getfield 30, 3) := by decide +kernel
theorem d_TT_answer_68 : decode prog_1_method_6_code 68 = .ok (.iload_n 1, 1) := by decide +kernel
theorem d_TT_answer_69 : decode prog_1_method_6_code 69 = .ok (.lload_n 2, 1) := by decide +kernel
theorem d_TT_answer_70 : decode prog_1_method_6_code 70 = .ok (.l2i, 1) := by decide +kernel
theorem d_TT_answer_71 : decode prog_1_method_6_code 71 = .ok (.lload 4, 2) := by decide +kernel
theorem d_TT_answer_73 : decode prog_1_method_6_code 73 = .ok (.l2i, 1) := by decide +kernel
theorem d_TT_answer_74 : decode prog_1_method_6_code 74 = .ok (.invokevirtual 99, 3) := by decide +kernel
theorem d_TT_answer_77 : decode prog_1_method_6_code 77 = .ok (.aload_n 0, 1) := by decide +kernel
theorem d_TT_answer_78 : decode prog_1_method_6_code 78 = .ok (.getfield 30, 3) := by decide +kernel
theorem d_TT_answer_81 : decode prog_1_method_6_code 81 = .ok (.getfield 96, 3) := by decide +kernel
theorem d_TT_answer_84 : decode prog_1_method_6_code 84 = .ok (.ireturn, 1) := by decide +kernel
abbrev m_TT_run : MethodName × ByteArray × Nat × Option FieldType := (⟨"TestText", "run", "()I"⟩, prog_1_method_7_code, 6, (Option.some FieldType.int))
theorem d_TT_run_0 : decode prog_1_method_7_code 0 = .ok (.aload_n 0, 1) := by decide +kernel
theorem d_TT_run_1 : decode prog_1_method_7_code 1 = .ok (.getfield 20, 3) := by decide +kernel
theorem d_TT_run_4 : decode prog_1_method_7_code 4 = .ok (.getfield 103, 3) := by decide +kernel
theorem d_TT_run_7 : decode prog_1_method_7_code 7 = .ok (.invokevirtual 106, 3) := by decide +kernel
theorem d_TT_run_10 : decode prog_1_method_7_code 10 = .ok (.ifCond .eq 6, 3) := by decide +kernel
theorem d_TT_run_13 : decode prog_1_method_7_code 13 = .ok (.bipush (-3), 2) := by decide +kernel
theorem d_TT_run_15 : decode prog_1_method_7_code 15 = .ok (.ireturn, 1) := by decide +kernel
theorem d_TT_run_16 : decode prog_1_method_7_code 16 = .ok (.aload_n 0, 1) := by decide +kernel
theorem d_TT_run_17 : decode prog_1_method_7_code 17 = .ok (.invokevirtual 110, 3) := by decide +kernel
theorem d_TT_run_20 : decode prog_1_method_7_code 20 = .ok (.astore_n 1, 1) := by decide +kernel
theorem d_TT_run_21 : decode prog_1_method_7_code 21 = .ok (.aload_n 1, 1) := by decide +kernel
theorem d_TT_run_22 : decode prog_1_method_7_code 22 = .ok (.ifnonnull 6, 3) := by decide +kernel
theorem d_TT_run_25 : decode prog_1_method_7_code 25 = .ok (.bipush (-4), 2) := by decide +kernel
theorem d_TT_run_27 : decode prog_1_method_7_code 27 = .ok (.ireturn, 1) := by decide +kernel
theorem d_TT_run_28 : decode prog_1_method_7_code 28 = .ok (.new 114, 3) := by decide +kernel
theorem d_TT_run_31 : decode prog_1_method_7_code 31 = .ok (.dup, 1) := by decide +kernel
theorem d_TT_run_32 : decode prog_1_method_7_code 32 = .ok (.aload_n 0, 1) := by decide +kernel
theorem d_TT_run_33 : decode prog_1_method_7_code 33 = .ok (.getfield 20, 3) := by decide +kernel
theorem d_TT_run_36 : decode prog_1_method_7_code 36 = .ok (.aload_n 0, 1) := by decide +kernel
theorem d_TT_run_37 : decode prog_1_method_7_code 37 = .ok (.getfield 30, 3) := by decide +kernel
theorem d_TT_run_40 : decode prog_1_method_7_code 40 = .ok (.aload_n 1, 1) := by decide +kernel
theorem d_TT_run_41 : decode prog_1_method_7_code 41 = .ok (.aload_n 0, 1) := by decide +kernel
theorem d_TT_run_42 : decode prog_1_method_7_code 42 = .ok (.getfield 37, 3) := by decide +kernel
theorem d_TT_run_45 : decode prog_1_method_7_code 45 = .ok (.aload_n 0, 1) := by decide +kernel
theorem d_TT_run_46 : decode prog_1_method_7_code 46 = .ok (.getfield 34, 3) := by decide +kernel
theorem d_TT_run_49 : decode prog_1_method_7_code 49 = .ok (.invokespecial 116, 3) := by decide +kernel
theorem d_TT_run_52 : decode prog_1_method_7_code 52 = .ok (.astore_n 2, 1) := by decide +kernel
theorem d_TT_run_53 : decode prog_1_method_7_code 53 = .ok (.iconst 0, 1) := by decide +kernel
theorem d_TT_run_54 : decode prog_1_method_7_code 54 = .ok (.istore_n 3, 1) := by decide +kernel
theorem d_TT_run_55 : decode prog_1_method_7_code 55 = .ok (.iconst 0, 1) := by decide +kernel
theorem d_TT_run_56 : decode prog_1_method_7_code 56 = .ok (.istore 4, 2) := by decide +kernel
theorem d_TT_run_58 : decode prog_1_method_7_code 58 = .ok (.iload 4, 2) := by decide +kernel
theorem d_TT_run_60 : decode prog_1_method_7_code 60 = .ok (.aload_n 0, 1) := by decide +kernel
theorem d_TT_run_61 : decode prog_1_method_7_code 61 = .ok (.getfield 20, 3) := by decide +kernel
theorem d_TT_run_64 : decode prog_1_method_7_code 64 = .ok (.getfield 103, 3) := by decide +kernel
theorem d_TT_run_67 : decode prog_1_method_7_code 67 = .ok (.invokevirtual 80, 3) := by decide +kernel
theorem d_TT_run_70 : decode prog_1_method_7_code 70 = .ok (.if_icmp .ge 42, 3) := by decide +kernel
theorem d_TT_run_73 : decode prog_1_method_7_code 73 = .ok (.aload_n 0, 1) := by decide +kernel
theorem d_TT_run_74 : decode prog_1_method_7_code 74 = .ok (.getfield 20, 3) := by decide +kernel
theorem d_TT_run_77 : decode prog_1_method_7_code 77 = .ok (.getfield 103, 3) := by decide +kernel
theorem d_TT_run_80 : decode prog_1_method_7_code 80 = .ok (.iload 4, 2) := by decide +kernel
theorem d_TT_run_82 : decode prog_1_method_7_code 82 = .ok (.invokevirtual 119, 3) := by decide +kernel
theorem d_TT_run_85 : decode prog_1_method_7_code 85 = .ok (.checkcast 123, 3) := by decide +kernel
theorem d_TT_run_88 : decode prog_1_method_7_code 88 = .ok (.astore 5, 2) := by decide +kernel
theorem d_TT_run_90 : decode prog_1_method_7_code 90 = .ok (.aload_n 2, 1) := by decide +kernel
theorem d_TT_run_91 : decode prog_1_method_7_code 91 = .ok (.aload 5, 2) := by decide +kernel
theorem d_TT_run_93 : decode prog_1_method_7_code 93 = .ok (.invokevirtual 125, 3) := by decide +kernel
theorem d_TT_run_96 : decode prog_1_method_7_code 96 = .ok (.iload_n 3, 1) := by decide +kernel
theorem d_TT_run_97 : decode prog_1_method_7_code 97 = .ok (.aload 5, 2) := by decide +kernel
theorem d_TT_run_99 : decode prog_1_method_7_code 99 = .ok (.getfield 129, 3) := by decide +kernel
theorem d_TT_run_102 : decode prog_1_method_7_code 102 = .ok (.invokestatic 132, 3) := by decide +kernel
theorem d_TT_run_105 : decode prog_1_method_7_code 105 = .ok (.istore_n 3, 1) := by decide +kernel
theorem d_TT_run_106 : decode prog_1_method_7_code 106 = .ok (.iinc 4 1, 3) := by decide +kernel
theorem d_TT_run_109 : decode prog_1_method_7_code 109 = .ok (.goto (-51), 3) := by decide +kernel
theorem d_TT_run_112 : decode prog_1_method_7_code 112 = .ok (.iload_n 3, 1) := by decide +kernel
theorem d_TT_run_113 : decode prog_1_method_7_code 113 = .ok (.ireturn, 1) := by decide +kernel
abbrev m_TT_beginTrace : MethodName × ByteArray × Nat × Option FieldType := (⟨"TestText", "beginTrace", "()LTestText$Trace;"⟩, prog_1_method_8_code, 2, (Option.some (FieldType.object "TestText$Trace")))
theorem d_TT_beginTrace_0 : decode prog_1_method_8_code 0 = .ok (.aload_n 0, 1) := by decide +kernel
theorem d_TT_beginTrace_1 : decode prog_1_method_8_code 1 = .ok (.getfield 47, 3) := by decide +kernel
theorem d_TT_beginTrace_4 : decode prog_1_method_8_code 4 = .ok (.bipush 8, 2) := by decide +kernel
theorem d_TT_beginTrace_6 : decode prog_1_method_8_code 6 = .ok (.if_icmp .lt 5, 3) := by decide +kernel
theorem d_TT_beginTrace_9 : decode prog_1_method_8_code 9 = .ok (.aconst_null, 1) := by decide +kernel
theorem d_TT_beginTrace_10 : decode prog_1_method_8_code 10 = .ok (.areturn, 1) := by decide +kernel
theorem d_TT_beginTrace_11 : decode prog_1_method_8_code 11 = .ok (.aload_n 0, 1) := by decide +kernel
theorem d_TT_beginTrace_12 : decode prog_1_method_8_code 12 = .ok (.getfield 43, 3) := by decide +kernel
theorem d_TT_beginTrace_15 : decode prog_1_method_8_code 15 = .ok (.aload_n 0, 1) := by decide +kernel
theorem d_TT_beginTrace_16 : decode prog_1_method_8_code 16 = .ok (.getfield 47, 3) := by decide +kernel
theorem d_TT_beginTrace_19 : decode prog_1_method_8_code 19 = .ok (.aaload, 1) := by decide +kernel
theorem d_TT_beginTrace_20 : decode prog_1_method_8_code 20 = .ok (.ifnonnull 19, 3) := by decide +kernel
theorem d_TT_beginTrace_23 : decode prog_1_method_8_code 23 = .ok (.aload_n 0, 1) := by decide +kernel
theorem d_TT_beginTrace_24 : decode prog_1_method_8_code 24 = .ok (.getfield 43, 3) := by decide +kernel
theorem d_TT_beginTrace_27 : decode prog_1_method_8_code 27 = .ok (.aload_n 0, 1) := by decide +kernel
theorem d_TT_beginTrace_28 : decode prog_1_method_8_code 28 = .ok (.getfield 47, 3) := by decide +kernel
theorem d_TT_beginTrace_31 : decode prog_1_method_8_code 31 = .ok (.new 41, 3) := by decide +kernel
theorem d_TT_beginTrace_34 : decode prog_1_method_8_code 34 = .ok (.dup, 1) := by decide +kernel
theorem d_TT_beginTrace_35 : decode prog_1_method_8_code 35 = .ok (.invokespecial 138, 3) := by decide +kernel
theorem d_TT_beginTrace_38 : decode prog_1_method_8_code 38 = .ok (.aastore, 1) := by decide +kernel
theorem d_TT_beginTrace_39 : decode prog_1_method_8_code 39 = .ok (.aload_n 0, 1) := by decide +kernel
theorem d_TT_beginTrace_40 : decode prog_1_method_8_code 40 = .ok (.getfield 43, 3) := by decide +kernel
theorem d_TT_beginTrace_43 : decode prog_1_method_8_code 43 = .ok (.aload_n 0, 1) := by decide +kernel
theorem d_TT_beginTrace_44 : decode prog_1_method_8_code 44 = .ok (.getfield 47, 3) := by decide +kernel
theorem d_TT_beginTrace_47 : decode prog_1_method_8_code 47 = .ok (.aaload, 1) := by decide +kernel
theorem d_TT_beginTrace_48 : decode prog_1_method_8_code 48 = .ok (.astore_n 1, 1) := by decide +kernel
theorem d_TT_beginTrace_49 : decode prog_1_method_8_code 49 = .ok (.aload_n 1, 1) := by decide +kernel
theorem d_TT_beginTrace_50 : decode prog_1_method_8_code 50 = .ok (.invokevirtual 139, 3) := by decide +kernel
theorem d_TT_beginTrace_53 : decode prog_1_method_8_code 53 = .ok (.aload_n 0, 1) := by decide +kernel
theorem d_TT_beginTrace_54 : decode prog_1_method_8_code 54 = .ok (.dup, 1) := by decide +kernel
theorem d_TT_beginTrace_55 : decode prog_1_method_8_code 55 = .ok (.getfield 47, 3) := by decide +kernel
theorem d_TT_beginTrace_58 : decode prog_1_method_8_code 58 = .ok (.iconst 1, 1) := by decide +kernel
theorem d_TT_beginTrace_59 : decode prog_1_method_8_code 59 = .ok (.iadd, 1) := by decide +kernel
theorem d_TT_beginTrace_60 : decode prog_1_method_8_code 60 = .ok (.putfield 47, 3) := by decide +kernel
theorem d_TT_beginTrace_63 : decode prog_1_method_8_code 63 = .ok (.aload_n 1, 1) := by decide +kernel
theorem d_TT_beginTrace_64 : decode prog_1_method_8_code 64 = .ok (.areturn, 1) := by decide +kernel
abbrev m_TT_verdict : MethodName × ByteArray × Nat × Option FieldType := (⟨"TestText", "verdict", "(II)I"⟩, prog_1_method_9_code, 4, (Option.some FieldType.int))
theorem d_TT_verdict_0 : decode prog_1_method_9_code 0 = .ok (.aload_n 0, 1) := by decide +kernel
theorem d_TT_verdict_1 : decode prog_1_method_9_code 1 = .ok (.getfield 20, 3) := by decide +kernel
theorem d_TT_verdict_4 : decode prog_1_method_9_code 4 = .ok (.iload_n 1, 1) := by decide +kernel
theorem d_TT_verdict_5 : decode prog_1_method_9_code 5 = .ok (.invokevirtual 140, 3) := by decide +kernel
theorem d_TT_verdict_8 : decode prog_1_method_9_code 8 = .ok (.astore_n 3, 1) := by decide +kernel
theorem d_TT_verdict_9 : decode prog_1_method_9_code 9 = .ok (.aload_n 3, 1) := by decide +kernel
theorem d_TT_verdict_10 : decode prog_1_method_9_code 10 = .ok (.ifnonnull 5, 3) := by decide +kernel
theorem d_TT_verdict_13 : decode prog_1_method_9_code 13 = .ok (.iconst (-1), 1) := by decide +kernel
theorem d_TT_verdict_14 : decode prog_1_method_9_code 14 = .ok (.ireturn, 1) := by decide +kernel
theorem d_TT_verdict_15 : decode prog_1_method_9_code 15 = .ok (.iload_n 2, 1) := by decide +kernel
theorem d_TT_verdict_16 : decode prog_1_method_9_code 16 = .ok (.ifCond .lt 8, 3) := by decide +kernel
theorem d_TT_verdict_19 : decode prog_1_method_9_code 19 = .ok (.iload_n 2, 1) := by decide +kernel
theorem d_TT_verdict_20 : decode prog_1_method_9_code 20 = .ok (.iconst 2, 1) := by decide +kernel
theorem d_TT_verdict_21 : decode prog_1_method_9_code 21 = .ok (.if_icmp .le 6, 3) := by decide +kernel
theorem d_TT_verdict_24 : decode prog_1_method_9_code 24 = .ok (.bipush (-2), 2) := by decide +kernel
theorem d_TT_verdict_26 : decode prog_1_method_9_code 26 = .ok (.ireturn, 1) := by decide +kernel
theorem d_TT_verdict_27 : decode prog_1_method_9_code 27 = .ok (.aload_n 0, 1) := by decide +kernel
theorem d_TT_verdict_28 : decode prog_1_method_9_code 28 = .ok (.getfield 47, 3) := by decide +kernel
theorem d_TT_verdict_31 : decode prog_1_method_9_code 31 = .ok (.ifCond .ne 6, 3) := by decide +kernel
theorem d_TT_verdict_34 : decode prog_1_method_9_code 34 = .ok (.bipush (-3), 2) := by decide +kernel
theorem d_TT_verdict_36 : decode prog_1_method_9_code 36 = .ok (.ireturn, 1) := by decide +kernel
theorem d_TT_verdict_37 : decode prog_1_method_9_code 37 = .ok (.iload_n 2, 1) := by decide +kernel
theorem d_TT_verdict_38 : decode prog_1_method_9_code 38 = .ok (.ifCond .ne 8, 3) := by decide +kernel
theorem d_TT_verdict_41 : decode prog_1_method_9_code 41 = .ok (.aload_n 3, 1) := by decide +kernel
theorem d_TT_verdict_42 : decode prog_1_method_9_code 42 = .ok (.getfield 129, 3) := by decide +kernel
theorem d_TT_verdict_45 : decode prog_1_method_9_code 45 = .ok (.ireturn, 1) := by decide +kernel
theorem d_TT_verdict_46 : decode prog_1_method_9_code 46 = .ok (.iload_n 2, 1) := by decide +kernel
theorem d_TT_verdict_47 : decode prog_1_method_9_code 47 = .ok (.iconst 1, 1) := by decide +kernel
theorem d_TT_verdict_48 : decode prog_1_method_9_code 48 = .ok (.if_icmp .ne 10, 3) := by decide +kernel
theorem d_TT_verdict_51 : decode prog_1_method_9_code 51 = .ok (.aload_n 3, 1) := by decide +kernel
theorem d_TT_verdict_52 : decode prog_1_method_9_code 52 = .ok (.getfield 144, 3) := by decide +kernel
theorem d_TT_verdict_55 : decode prog_1_method_9_code 55 = .ok (.goto 7, 3) := by decide +kernel
theorem d_TT_verdict_58 : decode prog_1_method_9_code 58 = .ok (.aload_n 3, 1) := by decide +kernel
theorem d_TT_verdict_59 : decode prog_1_method_9_code 59 = .ok (.getfield 147, 3) := by decide +kernel
theorem d_TT_verdict_62 : decode prog_1_method_9_code 62 = .ok (.ireturn, 1) := by decide +kernel
abbrev m_TT_ended : MethodName × ByteArray × Nat × Option FieldType := (⟨"TestText", "ended", "(I)I"⟩, prog_1_method_10_code, 3, (Option.some FieldType.int))
theorem d_TT_ended_0 : decode prog_1_method_10_code 0 = .ok (.aload_n 0, 1) := by decide +kernel
theorem d_TT_ended_1 : decode prog_1_method_10_code 1 = .ok (.getfield 20, 3) := by decide +kernel
theorem d_TT_ended_4 : decode prog_1_method_10_code 4 = .ok (.iload_n 1, 1) := by decide +kernel
theorem d_TT_ended_5 : decode prog_1_method_10_code 5 = .ok (.invokevirtual 140, 3) := by decide +kernel
theorem d_TT_ended_8 : decode prog_1_method_10_code 8 = .ok (.astore_n 2, 1) := by decide +kernel
theorem d_TT_ended_9 : decode prog_1_method_10_code 9 = .ok (.aload_n 2, 1) := by decide +kernel
theorem d_TT_ended_10 : decode prog_1_method_10_code 10 = .ok (.ifnonnull 7, 3) := by decide +kernel
theorem d_TT_ended_13 : decode prog_1_method_10_code 13 = .ok (.iconst (-1), 1) := by decide +kernel
theorem d_TT_ended_14 : decode prog_1_method_10_code 14 = .ok (.goto 7, 3) := by decide +kernel
theorem d_TT_ended_17 : decode prog_1_method_10_code 17 = .ok (.aload_n 2, 1) := by decide +kernel
theorem d_TT_ended_18 : decode prog_1_method_10_code 18 = .ok (.getfield 150, 3) := by decide +kernel
theorem d_TT_ended_21 : decode prog_1_method_10_code 21 = .ok (.ireturn, 1) := by decide +kernel
abbrev m_TT_plant : MethodName × ByteArray × Nat × Option FieldType := (⟨"TestText", "plant", "(IZ)I"⟩, prog_1_method_11_code, 3, (Option.some FieldType.int))
theorem d_TT_plant_0 : decode prog_1_method_11_code 0 = .ok (.iload_n 1, 1) := by decide +kernel
theorem d_TT_plant_1 : decode prog_1_method_11_code 1 = .ok (.iconst 1, 1) := by decide +kernel
theorem d_TT_plant_2 : decode prog_1_method_11_code 2 = .ok (.if_icmp .lt 9, 3) := by decide +kernel
theorem d_TT_plant_5 : decode prog_1_method_11_code 5 = .ok (.iload_n 1, 1) := by decide +kernel
theorem d_TT_plant_6 : decode prog_1_method_11_code 6 = .ok (.bipush 8, 2) := by decide +kernel
theorem d_TT_plant_8 : decode prog_1_method_11_code 8 = .ok (.if_icmp .le 5, 3) := by decide +kernel
theorem d_TT_plant_11 : decode prog_1_method_11_code 11 = .ok (.iconst (-1), 1) := by decide +kernel
theorem d_TT_plant_12 : decode prog_1_method_11_code 12 = .ok (.ireturn, 1) := by decide +kernel
theorem d_TT_plant_13 : decode prog_1_method_11_code 13 = .ok (.aload_n 0, 1) := by decide +kernel
theorem d_TT_plant_14 : decode prog_1_method_11_code 14 = .ok (.iload_n 2, 1) := by decide +kernel
theorem d_TT_plant_15 : decode prog_1_method_11_code 15 = .ok (.ifCond .eq 14, 3) := by decide +kernel
theorem d_TT_plant_18 : decode prog_1_method_11_code 18 = .ok (.aload_n 0, 1) := by decide +kernel
theorem d_TT_plant_19 : decode prog_1_method_11_code 19 = .ok (.getfield 34, 3) := by decide +kernel
theorem d_TT_plant_22 : decode prog_1_method_11_code 22 = .ok (.iconst 1, 1) := by decide +kernel
theorem d_TT_plant_23 : decode prog_1_method_11_code 23 = .ok (.iload_n 1, 1) := by decide +kernel
theorem d_TT_plant_24 : decode prog_1_method_11_code 24 = .ok (.ishl, 1) := by decide +kernel
theorem d_TT_plant_25 : decode prog_1_method_11_code 25 = .ok (.ior, 1) := by decide +kernel
theorem d_TT_plant_26 : decode prog_1_method_11_code 26 = .ok (.goto 13, 3) := by decide +kernel
theorem d_TT_plant_29 : decode prog_1_method_11_code 29 = .ok (.aload_n 0, 1) := by decide +kernel
theorem d_TT_plant_30 : decode prog_1_method_11_code 30 = .ok (.getfield 34, 3) := by decide +kernel
theorem d_TT_plant_33 : decode prog_1_method_11_code 33 = .ok (.iconst 1, 1) := by decide +kernel
theorem d_TT_plant_34 : decode prog_1_method_11_code 34 = .ok (.iload_n 1, 1) := by decide +kernel
theorem d_TT_plant_35 : decode prog_1_method_11_code 35 = .ok (.ishl, 1) := by decide +kernel
theorem d_TT_plant_36 : decode prog_1_method_11_code 36 = .ok (.iconst (-1), 1) := by decide +kernel
theorem d_TT_plant_37 : decode prog_1_method_11_code 37 = .ok (.ixor, 1) := by decide +kernel
theorem d_TT_plant_38 : decode prog_1_method_11_code 38 = .ok (.iand, 1) := by decide +kernel
theorem d_TT_plant_39 : decode prog_1_method_11_code 39 = .ok (.putfield 34, 3) := by decide +kernel
theorem d_TT_plant_42 : decode prog_1_method_11_code 42 = .ok (.aload_n 0, 1) := by decide +kernel
theorem d_TT_plant_43 : decode prog_1_method_11_code 43 = .ok (.getfield 34, 3) := by decide +kernel
theorem d_TT_plant_46 : decode prog_1_method_11_code 46 = .ok (.invokestatic 153, 3) := by decide +kernel
theorem d_TT_plant_49 : decode prog_1_method_11_code 49 = .ok (.ireturn, 1) := by decide +kernel
abbrev m_TT_undone : MethodName × ByteArray × Nat × Option FieldType := (⟨"TestText", "undone", "(I)I"⟩, prog_1_method_12_code, 3, (Option.some FieldType.int))
theorem d_TT_undone_0 : decode prog_1_method_12_code 0 = .ok (.aload_n 0, 1) := by decide +kernel
theorem d_TT_undone_1 : decode prog_1_method_12_code 1 = .ok (.aload_n 0, 1) := by decide +kernel
theorem d_TT_undone_2 : decode prog_1_method_12_code 2 = .ok (.getfield 47, 3) := by decide +kernel
theorem d_TT_undone_5 : decode prog_1_method_12_code 5 = .ok (.invokevirtual 158, 3) := by decide +kernel
theorem d_TT_undone_8 : decode prog_1_method_12_code 8 = .ok (.astore_n 2, 1) := by decide +kernel
theorem d_TT_undone_9 : decode prog_1_method_12_code 9 = .ok (.aload_n 2, 1) := by decide +kernel
theorem d_TT_undone_10 : decode prog_1_method_12_code 10 = .ok (.ifnonnull 7, 3) := by decide +kernel
theorem d_TT_undone_13 : decode prog_1_method_12_code 13 = .ok (.iconst 0, 1) := by decide +kernel
theorem d_TT_undone_14 : decode prog_1_method_12_code 14 = .ok (.goto 8, 3) := by decide +kernel
theorem d_TT_undone_17 : decode prog_1_method_12_code 17 = .ok (.aload_n 2, 1) := by decide +kernel
theorem d_TT_undone_18 : decode prog_1_method_12_code 18 = .ok (.iload_n 1, 1) := by decide +kernel
theorem d_TT_undone_19 : decode prog_1_method_12_code 19 = .ok (.invokevirtual 162, 3) := by decide +kernel
theorem d_TT_undone_22 : decode prog_1_method_12_code 22 = .ok (.ireturn, 1) := by decide +kernel
abbrev m_TT_traceOf : MethodName × ByteArray × Nat × Option FieldType := (⟨"TestText", "traceOf", "(I)LTestText$Trace;"⟩, prog_1_method_20_code, 2, (Option.some (FieldType.object "TestText$Trace")))
theorem d_TT_traceOf_0 : decode prog_1_method_20_code 0 = .ok (.iload_n 1, 1) := by decide +kernel
theorem d_TT_traceOf_1 : decode prog_1_method_20_code 1 = .ok (.iconst 1, 1) := by decide +kernel
theorem d_TT_traceOf_2 : decode prog_1_method_20_code 2 = .ok (.if_icmp .lt 17, 3) := by decide +kernel
theorem d_TT_traceOf_5 : decode prog_1_method_20_code 5 = .ok (.iload_n 1, 1) := by decide +kernel
theorem d_TT_traceOf_6 : decode prog_1_method_20_code 6 = .ok (.aload_n 0, 1) := by decide +kernel
theorem d_TT_traceOf_7 : decode prog_1_method_20_code 7 = .ok (.getfield 47, 3) := by decide +kernel
theorem d_TT_traceOf_10 : decode prog_1_method_20_code 10 = .ok (.if_icmp .gt 9, 3) := by decide +kernel
theorem d_TT_traceOf_13 : decode prog_1_method_20_code 13 = .ok (.iload_n 1, 1) := by decide +kernel
theorem d_TT_traceOf_14 : decode prog_1_method_20_code 14 = .ok (.bipush 8, 2) := by decide +kernel
theorem d_TT_traceOf_16 : decode prog_1_method_20_code 16 = .ok (.if_icmp .le 7, 3) := by decide +kernel
theorem d_TT_traceOf_19 : decode prog_1_method_20_code 19 = .ok (.aconst_null, 1) := by decide +kernel
theorem d_TT_traceOf_20 : decode prog_1_method_20_code 20 = .ok (.goto 11, 3) := by decide +kernel
theorem d_TT_traceOf_23 : decode prog_1_method_20_code 23 = .ok (.aload_n 0, 1) := by decide +kernel
theorem d_TT_traceOf_24 : decode prog_1_method_20_code 24 = .ok (.getfield 43, 3) := by decide +kernel
theorem d_TT_traceOf_27 : decode prog_1_method_20_code 27 = .ok (.iload_n 1, 1) := by decide +kernel
theorem d_TT_traceOf_28 : decode prog_1_method_20_code 28 = .ok (.iconst 1, 1) := by decide +kernel
theorem d_TT_traceOf_29 : decode prog_1_method_20_code 29 = .ok (.isub, 1) := by decide +kernel
theorem d_TT_traceOf_30 : decode prog_1_method_20_code 30 = .ok (.aaload, 1) := by decide +kernel
theorem d_TT_traceOf_31 : decode prog_1_method_20_code 31 = .ok (.areturn, 1) := by decide +kernel
abbrev m_TT_differ : MethodName × ByteArray × Nat × Option FieldType := (⟨"TestText", "differ", "(II)I"⟩, prog_1_method_13_code, 5, (Option.some FieldType.int))
theorem d_TT_differ_0 : decode prog_1_method_13_code 0 = .ok (.aload_n 0, 1) := by decide +kernel
theorem d_TT_differ_1 : decode prog_1_method_13_code 1 = .ok (.iload_n 1, 1) := by decide +kernel
theorem d_TT_differ_2 : decode prog_1_method_13_code 2 = .ok (.invokevirtual 158, 3) := by decide +kernel
theorem d_TT_differ_5 : decode prog_1_method_13_code 5 = .ok (.astore_n 3, 1) := by decide +kernel
theorem d_TT_differ_6 : decode prog_1_method_13_code 6 = .ok (.aload_n 0, 1) := by decide +kernel
theorem d_TT_differ_7 : decode prog_1_method_13_code 7 = .ok (.iload_n 2, 1) := by decide +kernel
theorem d_TT_differ_8 : decode prog_1_method_13_code 8 = .ok (.invokevirtual 158, 3) := by decide +kernel
theorem d_TT_differ_11 : decode prog_1_method_13_code 11 = .ok (.astore 4, 2) := by decide +kernel
theorem d_TT_differ_13 : decode prog_1_method_13_code 13 = .ok (.aload_n 3, 1) := by decide +kernel
theorem d_TT_differ_14 : decode prog_1_method_13_code 14 = .ok (.ifnull 8, 3) := by decide +kernel
theorem d_TT_differ_17 : decode prog_1_method_13_code 17 = .ok (.aload 4, 2) := by decide +kernel
theorem d_TT_differ_19 : decode prog_1_method_13_code 19 = .ok (.ifnonnull 6, 3) := by decide +kernel
theorem d_TT_differ_22 : decode prog_1_method_13_code 22 = .ok (.bipush (-2), 2) := by decide +kernel
theorem d_TT_differ_24 : decode prog_1_method_13_code 24 = .ok (.ireturn, 1) := by decide +kernel
theorem d_TT_differ_25 : decode prog_1_method_13_code 25 = .ok (.aload_n 3, 1) := by decide +kernel
theorem d_TT_differ_26 : decode prog_1_method_13_code 26 = .ok (.aload 4, 2) := by decide +kernel
theorem d_TT_differ_28 : decode prog_1_method_13_code 28 = .ok (.invokevirtual 165, 3) := by decide +kernel
theorem d_TT_differ_31 : decode prog_1_method_13_code 31 = .ok (.ireturn, 1) := by decide +kernel
abbrev m_TT_cover : MethodName × ByteArray × Nat × Option FieldType := (⟨"TestText", "cover", "(II)I"⟩, prog_1_method_14_code, 4, (Option.some FieldType.int))
theorem d_TT_cover_0 : decode prog_1_method_14_code 0 = .ok (.iload_n 1, 1) := by decide +kernel
theorem d_TT_cover_1 : decode prog_1_method_14_code 1 = .ok (.tableswitch 82 0 2 #[27, 53, 77], 27) := by decide +kernel
theorem d_TT_cover_28 : decode prog_1_method_14_code 28 = .ok (.aload_n 0, 1) := by decide +kernel
theorem d_TT_cover_29 : decode prog_1_method_14_code 29 = .ok (.getfield 20, 3) := by decide +kernel
theorem d_TT_cover_32 : decode prog_1_method_14_code 32 = .ok (.iload_n 2, 1) := by decide +kernel
theorem d_TT_cover_33 : decode prog_1_method_14_code 33 = .ok (.invokevirtual 140, 3) := by decide +kernel
theorem d_TT_cover_36 : decode prog_1_method_14_code 36 = .ok (.astore_n 3, 1) := by decide +kernel
theorem d_TT_cover_37 : decode prog_1_method_14_code 37 = .ok (.aload_n 3, 1) := by decide +kernel
theorem d_TT_cover_38 : decode prog_1_method_14_code 38 = .ok (.ifnonnull 7, 3) := by decide +kernel
theorem d_TT_cover_41 : decode prog_1_method_14_code 41 = .ok (.iconst (-1), 1) := by decide +kernel
theorem d_TT_cover_42 : decode prog_1_method_14_code 42 = .ok (.goto 11, 3) := by decide +kernel
theorem d_TT_cover_45 : decode prog_1_method_14_code 45 = .ok (.aload_n 0, 1) := by decide +kernel
theorem d_TT_cover_46 : decode prog_1_method_14_code 46 = .ok (.getfield 20, 3) := by decide +kernel
theorem d_TT_cover_49 : decode prog_1_method_14_code 49 = .ok (.aload_n 3, 1) := by decide +kernel
theorem d_TT_cover_50 : decode prog_1_method_14_code 50 = .ok (.invokevirtual 169, 3) := by decide +kernel
theorem d_TT_cover_53 : decode prog_1_method_14_code 53 = .ok (.ireturn, 1) := by decide +kernel
theorem d_TT_cover_54 : decode prog_1_method_14_code 54 = .ok (.aload_n 0, 1) := by decide +kernel
theorem d_TT_cover_55 : decode prog_1_method_14_code 55 = .ok (.getfield 20, 3) := by decide +kernel
theorem d_TT_cover_58 : decode prog_1_method_14_code 58 = .ok (.iload_n 2, 1) := by decide +kernel
theorem d_TT_cover_59 : decode prog_1_method_14_code 59 = .ok (.invokevirtual 86, 3) := by decide +kernel
theorem d_TT_cover_62 : decode prog_1_method_14_code 62 = .ok (.ifCond .eq 14, 3) := by decide +kernel
theorem d_TT_cover_65 : decode prog_1_method_14_code 65 = .ok (.aload_n 0, 1) := by decide +kernel
theorem d_TT_cover_66 : decode prog_1_method_14_code 66 = .ok (.getfield 20, 3) := by decide +kernel
theorem d_TT_cover_69 : decode prog_1_method_14_code 69 = .ok (.iload_n 2, 1) := by decide +kernel
theorem d_TT_cover_70 : decode prog_1_method_14_code 70 = .ok (.invokevirtual 173, 3) := by decide +kernel
theorem d_TT_cover_73 : decode prog_1_method_14_code 73 = .ok (.goto 4, 3) := by decide +kernel
theorem d_TT_cover_76 : decode prog_1_method_14_code 76 = .ok (.iconst (-1), 1) := by decide +kernel
theorem d_TT_cover_77 : decode prog_1_method_14_code 77 = .ok (.ireturn, 1) := by decide +kernel
theorem d_TT_cover_78 : decode prog_1_method_14_code 78 = .ok (.aload_n 0, 1) := by decide +kernel
theorem d_TT_cover_79 : decode prog_1_method_14_code 79 = .ok (.invokevirtual 176, 3) := by decide +kernel
theorem d_TT_cover_82 : decode prog_1_method_14_code 82 = .ok (.ireturn, 1) := by decide +kernel
theorem d_TT_cover_83 : decode prog_1_method_14_code 83 = .ok (.bipush (-2), 2) := by decide +kernel
theorem d_TT_cover_85 : decode prog_1_method_14_code 85 = .ok (.ireturn, 1) := by decide +kernel
abbrev m_TT_countStepsOfRuns : MethodName × ByteArray × Nat × Option FieldType := (⟨"TestText", "countStepsOfRuns", "()I"⟩, prog_1_method_15_code, 4, (Option.some FieldType.int))
theorem d_TT_countStepsOfRuns_0 : decode prog_1_method_15_code 0 = .ok (.iconst 0, 1) := by decide +kernel
theorem d_TT_countStepsOfRuns_1 : decode prog_1_method_15_code 1 = .ok (.istore_n 1, 1) := by decide +kernel
theorem d_TT_countStepsOfRuns_2 : decode prog_1_method_15_code 2 = .ok (.iconst 1, 1) := by decide +kernel
theorem d_TT_countStepsOfRuns_3 : decode prog_1_method_15_code 3 = .ok (.istore_n 2, 1) := by decide +kernel
theorem d_TT_countStepsOfRuns_4 : decode prog_1_method_15_code 4 = .ok (.iload_n 2, 1) := by decide +kernel
theorem d_TT_countStepsOfRuns_5 : decode prog_1_method_15_code 5 = .ok (.aload_n 0, 1) := by decide +kernel
theorem d_TT_countStepsOfRuns_6 : decode prog_1_method_15_code 6 = .ok (.getfield 47, 3) := by decide +kernel
theorem d_TT_countStepsOfRuns_9 : decode prog_1_method_15_code 9 = .ok (.if_icmp .gt 26, 3) := by decide +kernel
theorem d_TT_countStepsOfRuns_12 : decode prog_1_method_15_code 12 = .ok (.aload_n 0, 1) := by decide +kernel
theorem d_TT_countStepsOfRuns_13 : decode prog_1_method_15_code 13 = .ok (.iload_n 2, 1) := by decide +kernel
theorem d_TT_countStepsOfRuns_14 : decode prog_1_method_15_code 14 = .ok (.invokevirtual 158, 3) := by decide +kernel
theorem d_TT_countStepsOfRuns_17 : decode prog_1_method_15_code 17 = .ok (.astore_n 3, 1) := by decide +kernel
theorem d_TT_countStepsOfRuns_18 : decode prog_1_method_15_code 18 = .ok (.aload_n 3, 1) := by decide +kernel
theorem d_TT_countStepsOfRuns_19 : decode prog_1_method_15_code 19 = .ok (.ifnull 10, 3) := by decide +kernel
theorem d_TT_countStepsOfRuns_22 : decode prog_1_method_15_code 22 = .ok (.iload_n 1, 1) := by decide +kernel
theorem d_TT_countStepsOfRuns_23 : decode prog_1_method_15_code 23 = .ok (.aload_n 3, 1) := by decide +kernel
theorem d_TT_countStepsOfRuns_24 : decode prog_1_method_15_code 24 = .ok (.getfield 179, 3) := by decide +kernel
theorem d_TT_countStepsOfRuns_27 : decode prog_1_method_15_code 27 = .ok (.iadd, 1) := by decide +kernel
theorem d_TT_countStepsOfRuns_28 : decode prog_1_method_15_code 28 = .ok (.istore_n 1, 1) := by decide +kernel
theorem d_TT_countStepsOfRuns_29 : decode prog_1_method_15_code 29 = .ok (.iinc 2 1, 3) := by decide +kernel
theorem d_TT_countStepsOfRuns_32 : decode prog_1_method_15_code 32 = .ok (.goto (-28), 3) := by decide +kernel
theorem d_TT_countStepsOfRuns_35 : decode prog_1_method_15_code 35 = .ok (.iload_n 1, 1) := by decide +kernel
theorem d_TT_countStepsOfRuns_36 : decode prog_1_method_15_code 36 = .ok (.ireturn, 1) := by decide +kernel
abbrev m_TT_least : MethodName × ByteArray × Nat × Option FieldType := (⟨"TestText", "least", "(I)I"⟩, prog_1_method_16_code, 2, (Option.some FieldType.int))
theorem d_TT_least_0 : decode prog_1_method_16_code 0 = .ok (.aload_n 0, 1) := by decide +kernel
theorem d_TT_least_1 : decode prog_1_method_16_code 1 = .ok (.getfield 20, 3) := by decide +kernel
theorem d_TT_least_4 : decode prog_1_method_16_code 4 = .ok (.iload_n 1, 1) := by decide +kernel
theorem d_TT_least_5 : decode prog_1_method_16_code 5 = .ok (.invokevirtual 182, 3) := by decide +kernel
theorem d_TT_least_8 : decode prog_1_method_16_code 8 = .ok (.ireturn, 1) := by decide +kernel
abbrev m_TT_seed : MethodName × ByteArray × Nat × Option FieldType := (⟨"TestText", "seed", "(J)I"⟩, prog_1_method_17_code, 3, (Option.some FieldType.int))
theorem d_TT_seed_0 : decode prog_1_method_17_code 0 = .ok (.aload_n 0, 1) := by decide +kernel
theorem d_TT_seed_1 : decode prog_1_method_17_code 1 = .ok (.lload_n 1, 1) := by decide +kernel
theorem d_TT_seed_2 : decode prog_1_method_17_code 2 = .ok (.ldc2_w 185, 3) := by decide +kernel
theorem d_TT_seed_5 : decode prog_1_method_17_code 5 = .ok (.land, 1) := by decide +kernel
theorem d_TT_seed_6 : decode prog_1_method_17_code 6 = .ok (.putfield 37, 3) := by decide +kernel
theorem d_TT_seed_9 : decode prog_1_method_17_code 9 = .ok (.iconst 1, 1) := by decide +kernel
theorem d_TT_seed_10 : decode prog_1_method_17_code 10 = .ok (.ireturn, 1) := by decide +kernel
abbrev m_TT_shorter : MethodName × ByteArray × Nat × Option FieldType := (⟨"TestText", "shorter", "()I"⟩, prog_1_method_18_code, 2, (Option.some FieldType.int))
theorem d_TT_shorter_0 : decode prog_1_method_18_code 0 = .ok (.aload_n 0, 1) := by decide +kernel
theorem d_TT_shorter_1 : decode prog_1_method_18_code 1 = .ok (.aload_n 0, 1) := by decide +kernel
theorem d_TT_shorter_2 : decode prog_1_method_18_code 2 = .ok (.getfield 47, 3) := by decide +kernel
theorem d_TT_shorter_5 : decode prog_1_method_18_code 5 = .ok (.invokevirtual 158, 3) := by decide +kernel
theorem d_TT_shorter_8 : decode prog_1_method_18_code 8 = .ok (.astore_n 1, 1) := by decide +kernel
theorem d_TT_shorter_9 : decode prog_1_method_18_code 9 = .ok (.aload_n 1, 1) := by decide +kernel
theorem d_TT_shorter_10 : decode prog_1_method_18_code 10 = .ok (.ifnonnull 6, 3) := by decide +kernel
theorem d_TT_shorter_13 : decode prog_1_method_18_code 13 = .ok (.bipush (-3), 2) := by decide +kernel
theorem d_TT_shorter_15 : decode prog_1_method_18_code 15 = .ok (.ireturn, 1) := by decide +kernel
theorem d_TT_shorter_16 : decode prog_1_method_18_code 16 = .ok (.aload_n 1, 1) := by decide +kernel
theorem d_TT_shorter_17 : decode prog_1_method_18_code 17 = .ok (.getfield 187, 3) := by decide +kernel
theorem d_TT_shorter_20 : decode prog_1_method_18_code 20 = .ok (.iconst (-1), 1) := by decide +kernel
theorem d_TT_shorter_21 : decode prog_1_method_18_code 21 = .ok (.if_icmp .ne 10, 3) := by decide +kernel
theorem d_TT_shorter_24 : decode prog_1_method_18_code 24 = .ok (.aload_n 1, 1) := by decide +kernel
theorem d_TT_shorter_25 : decode prog_1_method_18_code 25 = .ok (.getfield 179, 3) := by decide +kernel
theorem d_TT_shorter_28 : decode prog_1_method_18_code 28 = .ok (.goto 7, 3) := by decide +kernel
theorem d_TT_shorter_31 : decode prog_1_method_18_code 31 = .ok (.aload_n 1, 1) := by decide +kernel
theorem d_TT_shorter_32 : decode prog_1_method_18_code 32 = .ok (.getfield 187, 3) := by decide +kernel
theorem d_TT_shorter_35 : decode prog_1_method_18_code 35 = .ok (.ireturn, 1) := by decide +kernel
abbrev m_TT_cases : MethodName × ByteArray × Nat × Option FieldType := (⟨"TestText", "cases", "(II)I"⟩, prog_1_method_19_code, 4, (Option.some FieldType.int))
theorem d_TT_cases_0 : decode prog_1_method_19_code 0 = .ok (.aload_n 0, 1) := by decide +kernel
theorem d_TT_cases_1 : decode prog_1_method_19_code 1 = .ok (.aload_n 0, 1) := by decide +kernel
theorem d_TT_cases_2 : decode prog_1_method_19_code 2 = .ok (.getfield 47, 3) := by decide +kernel
theorem d_TT_cases_5 : decode prog_1_method_19_code 5 = .ok (.invokevirtual 158, 3) := by decide +kernel
theorem d_TT_cases_8 : decode prog_1_method_19_code 8 = .ok (.astore_n 3, 1) := by decide +kernel
theorem d_TT_cases_9 : decode prog_1_method_19_code 9 = .ok (.aload_n 3, 1) := by decide +kernel
theorem d_TT_cases_10 : decode prog_1_method_19_code 10 = .ok (.ifnull 11, 3) := by decide +kernel
theorem d_TT_cases_13 : decode prog_1_method_19_code 13 = .ok (.aload_n 3, 1) := by decide +kernel
theorem d_TT_cases_14 : decode prog_1_method_19_code 14 = .ok (.iload_n 1, 1) := by decide +kernel
theorem d_TT_cases_15 : decode prog_1_method_19_code 15 = .ok (.invokevirtual 190, 3) := by decide +kernel
theorem d_TT_cases_18 : decode prog_1_method_19_code 18 = .ok (.ifCond .ne 5, 3) := by decide +kernel
theorem d_TT_cases_21 : decode prog_1_method_19_code 21 = .ok (.iconst (-1), 1) := by decide +kernel
theorem d_TT_cases_22 : decode prog_1_method_19_code 22 = .ok (.ireturn, 1) := by decide +kernel
theorem d_TT_cases_23 : decode prog_1_method_19_code 23 = .ok (.iload_n 2, 1) := by decide +kernel
theorem d_TT_cases_24 : decode prog_1_method_19_code 24 = .ok (.ifCond .lt 8, 3) := by decide +kernel
theorem d_TT_cases_27 : decode prog_1_method_19_code 27 = .ok (.iload_n 2, 1) := by decide +kernel
theorem d_TT_cases_28 : decode prog_1_method_19_code 28 = .ok (.iconst 2, 1) := by decide +kernel
theorem d_TT_cases_29 : decode prog_1_method_19_code 29 = .ok (.if_icmp .le 6, 3) := by decide +kernel
theorem d_TT_cases_32 : decode prog_1_method_19_code 32 = .ok (.bipush (-2), 2) := by decide +kernel
theorem d_TT_cases_34 : decode prog_1_method_19_code 34 = .ok (.ireturn, 1) := by decide +kernel
theorem d_TT_cases_35 : decode prog_1_method_19_code 35 = .ok (.iload_n 2, 1) := by decide +kernel
theorem d_TT_cases_36 : decode prog_1_method_19_code 36 = .ok (.ifCond .ne 10, 3) := by decide +kernel
theorem d_TT_cases_39 : decode prog_1_method_19_code 39 = .ok (.aload_n 3, 1) := by decide +kernel
theorem d_TT_cases_40 : decode prog_1_method_19_code 40 = .ok (.getfield 193, 3) := by decide +kernel
theorem d_TT_cases_43 : decode prog_1_method_19_code 43 = .ok (.iload_n 1, 1) := by decide +kernel
theorem d_TT_cases_44 : decode prog_1_method_19_code 44 = .ok (.iaload, 1) := by decide +kernel
theorem d_TT_cases_45 : decode prog_1_method_19_code 45 = .ok (.ireturn, 1) := by decide +kernel
theorem d_TT_cases_46 : decode prog_1_method_19_code 46 = .ok (.iload_n 2, 1) := by decide +kernel
theorem d_TT_cases_47 : decode prog_1_method_19_code 47 = .ok (.iconst 1, 1) := by decide +kernel
theorem d_TT_cases_48 : decode prog_1_method_19_code 48 = .ok (.if_icmp .ne 12, 3) := by decide +kernel
theorem d_TT_cases_51 : decode prog_1_method_19_code 51 = .ok (.aload_n 3, 1) := by decide +kernel
theorem d_TT_cases_52 : decode prog_1_method_19_code 52 = .ok (.getfield 197, 3) := by decide +kernel
theorem d_TT_cases_55 : decode prog_1_method_19_code 55 = .ok (.iload_n 1, 1) := by decide +kernel
theorem d_TT_cases_56 : decode prog_1_method_19_code 56 = .ok (.iaload, 1) := by decide +kernel
theorem d_TT_cases_57 : decode prog_1_method_19_code 57 = .ok (.goto 9, 3) := by decide +kernel
theorem d_TT_cases_60 : decode prog_1_method_19_code 60 = .ok (.aload_n 3, 1) := by decide +kernel
theorem d_TT_cases_61 : decode prog_1_method_19_code 61 = .ok (.getfield 200, 3) := by decide +kernel
theorem d_TT_cases_64 : decode prog_1_method_19_code 64 = .ok (.iload_n 1, 1) := by decide +kernel
theorem d_TT_cases_65 : decode prog_1_method_19_code 65 = .ok (.iaload, 1) := by decide +kernel
theorem d_TT_cases_66 : decode prog_1_method_19_code 66 = .ok (.ireturn, 1) := by decide +kernel
abbrev m_TT_read : MethodName × ByteArray × Nat × Option FieldType := (⟨"TestText", "read", "()I"⟩, prog_1_method_4_code, 1, (Option.some FieldType.int))
theorem d_TT_read_0 : decode prog_1_method_4_code 0 = .ok (.aload_n 0, 1) := by decide +kernel
theorem d_TT_read_1 : decode prog_1_method_4_code 1 = .ok (.new 17, 3) := by decide +kernel
theorem d_TT_read_4 : decode prog_1_method_4_code 4 = .ok (.dup, 1) := by decide +kernel
theorem d_TT_read_5 : decode prog_1_method_4_code 5 = .ok (.invokespecial 19, 3) := by decide +kernel
theorem d_TT_read_8 : decode prog_1_method_4_code 8 = .ok (.putfield 20, 3) := by decide +kernel
theorem d_TT_read_11 : decode prog_1_method_4_code 11 = .ok (.aload_n 0, 1) := by decide +kernel
theorem d_TT_read_12 : decode prog_1_method_4_code 12 = .ok (.getfield 30, 3) := by decide +kernel
theorem d_TT_read_15 : decode prog_1_method_4_code 15 = .ok (.invokevirtual 54, 3) := by decide +kernel
theorem d_TT_read_18 : decode prog_1_method_4_code 18 = .ok (.aload_n 0, 1) := by decide +kernel
theorem d_TT_read_19 : decode prog_1_method_4_code 19 = .ok (.iconst 0, 1) := by decide +kernel
theorem d_TT_read_20 : decode prog_1_method_4_code 20 = .ok (.putfield 34, 3) := by decide +kernel
theorem d_TT_read_23 : decode prog_1_method_4_code 23 = .ok (.aload_n 0, 1) := by decide +kernel
theorem d_TT_read_24 : decode prog_1_method_4_code 24 = .ok (.iconst 0, 1) := by decide +kernel
theorem d_TT_read_25 : decode prog_1_method_4_code 25 = .ok (.putfield 47, 3) := by decide +kernel
theorem d_TT_read_28 : decode prog_1_method_4_code 28 = .ok (.aload_n 0, 1) := by decide +kernel
theorem d_TT_read_29 : decode prog_1_method_4_code 29 = .ok (.new 57, 3) := by decide +kernel
theorem d_TT_read_32 : decode prog_1_method_4_code 32 = .ok (.dup, 1) := by decide +kernel
theorem d_TT_read_33 : decode prog_1_method_4_code 33 = .ok (.aload_n 0, 1) := by decide +kernel
theorem d_TT_read_34 : decode prog_1_method_4_code 34 = .ok (.getfield 20, 3) := by decide +kernel
theorem d_TT_read_37 : decode prog_1_method_4_code 37 = .ok (.aload_n 0, 1) := by decide +kernel
theorem d_TT_read_38 : decode prog_1_method_4_code 38 = .ok (.getfield 9, 3) := by decide +kernel
theorem d_TT_read_41 : decode prog_1_method_4_code 41 = .ok (.invokespecial 59, 3) := by decide +kernel
theorem d_TT_read_44 : decode prog_1_method_4_code 44 = .ok (.aload_n 0, 1) := by decide +kernel
theorem d_TT_read_45 : decode prog_1_method_4_code 45 = .ok (.getfield 13, 3) := by decide +kernel
theorem d_TT_read_48 : decode prog_1_method_4_code 48 = .ok (.invokevirtual 62, 3) := by decide +kernel
theorem d_TT_read_51 : decode prog_1_method_4_code 51 = .ok (.putfield 24, 3) := by decide +kernel
theorem d_TT_read_54 : decode prog_1_method_4_code 54 = .ok (.aload_n 0, 1) := by decide +kernel
theorem d_TT_read_55 : decode prog_1_method_4_code 55 = .ok (.iconst 0, 1) := by decide +kernel
theorem d_TT_read_56 : decode prog_1_method_4_code 56 = .ok (.putfield 13, 3) := by decide +kernel
theorem d_TT_read_59 : decode prog_1_method_4_code 59 = .ok (.aload_n 0, 1) := by decide +kernel
theorem d_TT_read_60 : decode prog_1_method_4_code 60 = .ok (.getfield 24, 3) := by decide +kernel
theorem d_TT_read_63 : decode prog_1_method_4_code 63 = .ok (.ifCond .le 24, 3) := by decide +kernel
theorem d_TT_read_66 : decode prog_1_method_4_code 66 = .ok (.aload_n 0, 1) := by decide +kernel
theorem d_TT_read_67 : decode prog_1_method_4_code 67 = .ok (.new 17, 3) := by decide +kernel
theorem d_TT_read_70 : decode prog_1_method_4_code 70 = .ok (.dup, 1) := by decide +kernel
theorem d_TT_read_71 : decode prog_1_method_4_code 71 = .ok (.invokespecial 19, 3) := by decide +kernel
theorem d_TT_read_74 : decode prog_1_method_4_code 74 = .ok (.putfield 20, 3) := by decide +kernel
theorem d_TT_read_77 : decode prog_1_method_4_code 77 = .ok (.new 66, 3) := by decide +kernel
theorem d_TT_read_80 : decode prog_1_method_4_code 80 = .ok (.dup, 1) := by decide +kernel
theorem d_TT_read_81 : decode prog_1_method_4_code 81 = .ok (.ldc 68, 2) := by decide +kernel
theorem d_TT_read_83 : decode prog_1_method_4_code 83 = .ok (.invokespecial 70, 3) := by decide +kernel
theorem d_TT_read_86 : decode prog_1_method_4_code 86 = .ok (.athrow, 1) := by decide +kernel
theorem d_TT_read_87 : decode prog_1_method_4_code 87 = .ok (.aload_n 0, 1) := by decide +kernel
theorem d_TT_read_88 : decode prog_1_method_4_code 88 = .ok (.getfield 20, 3) := by decide +kernel
theorem d_TT_read_91 : decode prog_1_method_4_code 91 = .ok (.invokevirtual 73, 3) := by decide +kernel
theorem d_TT_read_94 : decode prog_1_method_4_code 94 = .ok (.aload_n 0, 1) := by decide +kernel
theorem d_TT_read_95 : decode prog_1_method_4_code 95 = .ok (.getfield 20, 3) := by decide +kernel
theorem d_TT_read_98 : decode prog_1_method_4_code 98 = .ok (.getfield 76, 3) := by decide +kernel
theorem d_TT_read_101 : decode prog_1_method_4_code 101 = .ok (.invokevirtual 80, 3) := by decide +kernel
theorem d_TT_read_104 : decode prog_1_method_4_code 104 = .ok (.ireturn, 1) := by decide +kernel
abbrev m_Plan_init : MethodName × ByteArray × Nat × Option FieldType := (⟨"TestText$Plan", "<init>", "()V"⟩, prog_3_method_1_code, 1, (Option.none : Option FieldType))
theorem d_Plan_init_0 : decode prog_3_method_1_code 0 = .ok (.aload_n 0, 1) := by decide +kernel
theorem d_Plan_init_1 : decode prog_3_method_1_code 1 = .ok (.invokespecial 3, 3) := by decide +kernel
theorem d_Plan_init_4 : decode prog_3_method_1_code 4 = .ok (.aload_n 0, 1) := by decide +kernel
theorem d_Plan_init_5 : decode prog_3_method_1_code 5 = .ok (.bipush 20, 2) := by decide +kernel
theorem d_Plan_init_7 : decode prog_3_method_1_code 7 = .ok (.newarray .long, 2) := by decide +kernel
theorem d_Plan_init_9 : decode prog_3_method_1_code 9 = .ok (.putfield 9, 3) := by decide +kernel
theorem d_Plan_init_12 : decode prog_3_method_1_code 12 = .ok (.aload_n 0, 1) := by decide +kernel
theorem d_Plan_init_13 : decode prog_3_method_1_code 13 = .ok (.new 15, 3) := by decide +kernel
theorem d_Plan_init_16 : decode prog_3_method_1_code 16 = .ok (.dup, 1) := by decide +kernel
theorem d_Plan_init_17 : decode prog_3_method_1_code 17 = .ok (.invokespecial 17, 3) := by decide +kernel
theorem d_Plan_init_20 : decode prog_3_method_1_code 20 = .ok (.putfield 18, 3) := by decide +kernel
theorem d_Plan_init_23 : decode prog_3_method_1_code 23 = .ok (.aload_n 0, 1) := by decide +kernel
theorem d_Plan_init_24 : decode prog_3_method_1_code 24 = .ok (.new 15, 3) := by decide +kernel
theorem d_Plan_init_27 : decode prog_3_method_1_code 27 = .ok (.dup, 1) := by decide +kernel
theorem d_Plan_init_28 : decode prog_3_method_1_code 28 = .ok (.invokespecial 17, 3) := by decide +kernel
theorem d_Plan_init_31 : decode prog_3_method_1_code 31 = .ok (.putfield 22, 3) := by decide +kernel
theorem d_Plan_init_34 : decode prog_3_method_1_code 34 = .ok (.aload_n 0, 1) := by decide +kernel
theorem d_Plan_init_35 : decode prog_3_method_1_code 35 = .ok (.bipush 12, 2) := by decide +kernel
theorem d_Plan_init_37 : decode prog_3_method_1_code 37 = .ok (.newarray .int, 2) := by decide +kernel
theorem d_Plan_init_39 : decode prog_3_method_1_code 39 = .ok (.putfield 25, 3) := by decide +kernel
theorem d_Plan_init_42 : decode prog_3_method_1_code 42 = .ok (.return_, 1) := by decide +kernel
abbrev m_Plan_hasValue : MethodName × ByteArray × Nat × Option FieldType := (⟨"TestText$Plan", "hasValue", "(I)Z"⟩, prog_3_method_2_code, 2, (Option.some FieldType.boolean))
theorem d_Plan_hasValue_0 : decode prog_3_method_2_code 0 = .ok (.iload_n 1, 1) := by decide +kernel
theorem d_Plan_hasValue_1 : decode prog_3_method_2_code 1 = .ok (.iconst 1, 1) := by decide +kernel
theorem d_Plan_hasValue_2 : decode prog_3_method_2_code 2 = .ok (.if_icmp .lt 15, 3) := by decide +kernel
theorem d_Plan_hasValue_5 : decode prog_3_method_2_code 5 = .ok (.iload_n 1, 1) := by decide +kernel
theorem d_Plan_hasValue_6 : decode prog_3_method_2_code 6 = .ok (.aload_n 0, 1) := by decide +kernel
theorem d_Plan_hasValue_7 : decode prog_3_method_2_code 7 = .ok (.getfield 29, 3) := by decide +kernel
theorem d_Plan_hasValue_10 : decode prog_3_method_2_code 10 = .ok (.if_icmp .gt 7, 3) := by decide +kernel
theorem d_Plan_hasValue_13 : decode prog_3_method_2_code 13 = .ok (.iconst 1, 1) := by decide +kernel
theorem d_Plan_hasValue_14 : decode prog_3_method_2_code 14 = .ok (.goto 4, 3) := by decide +kernel
theorem d_Plan_hasValue_17 : decode prog_3_method_2_code 17 = .ok (.iconst 0, 1) := by decide +kernel
theorem d_Plan_hasValue_18 : decode prog_3_method_2_code 18 = .ok (.ireturn, 1) := by decide +kernel
abbrev m_Plan_testOf : MethodName × ByteArray × Nat × Option FieldType := (⟨"TestText$Plan", "testOf", "(I)LTestText$Test;"⟩, prog_3_method_3_code, 2, (Option.some (FieldType.object "TestText$Test")))
theorem d_Plan_testOf_0 : decode prog_3_method_3_code 0 = .ok (.iload_n 1, 1) := by decide +kernel
theorem d_Plan_testOf_1 : decode prog_3_method_3_code 1 = .ok (.iconst 1, 1) := by decide +kernel
theorem d_Plan_testOf_2 : decode prog_3_method_3_code 2 = .ok (.if_icmp .lt 14, 3) := by decide +kernel
theorem d_Plan_testOf_5 : decode prog_3_method_3_code 5 = .ok (.iload_n 1, 1) := by decide +kernel
theorem d_Plan_testOf_6 : decode prog_3_method_3_code 6 = .ok (.aload_n 0, 1) := by decide +kernel
theorem d_Plan_testOf_7 : decode prog_3_method_3_code 7 = .ok (.getfield 18, 3) := by decide +kernel
theorem d_Plan_testOf_10 : decode prog_3_method_3_code 10 = .ok (.invokevirtual 33, 3) := by decide +kernel
theorem d_Plan_testOf_13 : decode prog_3_method_3_code 13 = .ok (.if_icmp .le 7, 3) := by decide +kernel
theorem d_Plan_testOf_16 : decode prog_3_method_3_code 16 = .ok (.aconst_null, 1) := by decide +kernel
theorem d_Plan_testOf_17 : decode prog_3_method_3_code 17 = .ok (.goto 16, 3) := by decide +kernel
theorem d_Plan_testOf_20 : decode prog_3_method_3_code 20 = .ok (.aload_n 0, 1) := by decide +kernel
theorem d_Plan_testOf_21 : decode prog_3_method_3_code 21 = .ok (.getfield 18, 3) := by decide +kernel
theorem d_Plan_testOf_24 : decode prog_3_method_3_code 24 = .ok (.iload_n 1, 1) := by decide +kernel
theorem d_Plan_testOf_25 : decode prog_3_method_3_code 25 = .ok (.iconst 1, 1) := by decide +kernel
theorem d_Plan_testOf_26 : decode prog_3_method_3_code 26 = .ok (.isub, 1) := by decide +kernel
theorem d_Plan_testOf_27 : decode prog_3_method_3_code 27 = .ok (.invokevirtual 37, 3) := by decide +kernel
theorem d_Plan_testOf_30 : decode prog_3_method_3_code 30 = .ok (.checkcast 41, 3) := by decide +kernel
theorem d_Plan_testOf_33 : decode prog_3_method_3_code 33 = .ok (.areturn, 1) := by decide +kernel
abbrev m_Plan_countBegun : MethodName × ByteArray × Nat × Option FieldType := (⟨"TestText$Plan", "countBegun", "(LTestText$Test;)I"⟩, prog_3_method_6_code, 4, (Option.some FieldType.int))
theorem d_Plan_countBegun_0 : decode prog_3_method_6_code 0 = .ok (.iconst 0, 1) := by decide +kernel
theorem d_Plan_countBegun_1 : decode prog_3_method_6_code 1 = .ok (.istore_n 2, 1) := by decide +kernel
theorem d_Plan_countBegun_2 : decode prog_3_method_6_code 2 = .ok (.aload_n 1, 1) := by decide +kernel
theorem d_Plan_countBegun_3 : decode prog_3_method_6_code 3 = .ok (.getfield 51, 3) := by decide +kernel
theorem d_Plan_countBegun_6 : decode prog_3_method_6_code 6 = .ok (.istore_n 3, 1) := by decide +kernel
theorem d_Plan_countBegun_7 : decode prog_3_method_6_code 7 = .ok (.iload_n 3, 1) := by decide +kernel
theorem d_Plan_countBegun_8 : decode prog_3_method_6_code 8 = .ok (.aload_n 1, 1) := by decide +kernel
theorem d_Plan_countBegun_9 : decode prog_3_method_6_code 9 = .ok (.getfield 54, 3) := by decide +kernel
theorem d_Plan_countBegun_12 : decode prog_3_method_6_code 12 = .ok (.if_icmp .ge 40, 3) := by decide +kernel
theorem d_Plan_countBegun_15 : decode prog_3_method_6_code 15 = .ok (.iload_n 3, 1) := by decide +kernel
theorem d_Plan_countBegun_16 : decode prog_3_method_6_code 16 = .ok (.aload_n 0, 1) := by decide +kernel
theorem d_Plan_countBegun_17 : decode prog_3_method_6_code 17 = .ok (.getfield 22, 3) := by decide +kernel
theorem d_Plan_countBegun_20 : decode prog_3_method_6_code 20 = .ok (.invokevirtual 33, 3) := by decide +kernel
theorem d_Plan_countBegun_23 : decode prog_3_method_6_code 23 = .ok (.if_icmp .ge 29, 3) := by decide +kernel
theorem d_Plan_countBegun_26 : decode prog_3_method_6_code 26 = .ok (.aload_n 0, 1) := by decide +kernel
theorem d_Plan_countBegun_27 : decode prog_3_method_6_code 27 = .ok (.getfield 22, 3) := by decide +kernel
theorem d_Plan_countBegun_30 : decode prog_3_method_6_code 30 = .ok (.iload_n 3, 1) := by decide +kernel
theorem d_Plan_countBegun_31 : decode prog_3_method_6_code 31 = .ok (.invokevirtual 37, 3) := by decide +kernel
theorem d_Plan_countBegun_34 : decode prog_3_method_6_code 34 = .ok (.checkcast 57, 3) := by decide +kernel
theorem d_Plan_countBegun_37 : decode prog_3_method_6_code 37 = .ok (.getfield 59, 3) := by decide +kernel
theorem d_Plan_countBegun_40 : decode prog_3_method_6_code 40 = .ok (.ifCond .eq 6, 3) := by decide +kernel
theorem d_Plan_countBegun_43 : decode prog_3_method_6_code 43 = .ok (.iinc 2 1, 3) := by decide +kernel
theorem d_Plan_countBegun_46 : decode prog_3_method_6_code 46 = .ok (.iinc 3 1, 3) := by decide +kernel
theorem d_Plan_countBegun_49 : decode prog_3_method_6_code 49 = .ok (.goto (-42), 3) := by decide +kernel
theorem d_Plan_countBegun_52 : decode prog_3_method_6_code 52 = .ok (.iload_n 2, 1) := by decide +kernel
theorem d_Plan_countBegun_53 : decode prog_3_method_6_code 53 = .ok (.ireturn, 1) := by decide +kernel
abbrev m_Plan_countTestsNaming : MethodName × ByteArray × Nat × Option FieldType := (⟨"TestText$Plan", "countTestsNaming", "(I)I"⟩, prog_3_method_7_code, 4, (Option.some FieldType.int))
theorem d_Plan_countTestsNaming_0 : decode prog_3_method_7_code 0 = .ok (.iconst 0, 1) := by decide +kernel
theorem d_Plan_countTestsNaming_1 : decode prog_3_method_7_code 1 = .ok (.istore_n 2, 1) := by decide +kernel
theorem d_Plan_countTestsNaming_2 : decode prog_3_method_7_code 2 = .ok (.iconst 0, 1) := by decide +kernel
theorem d_Plan_countTestsNaming_3 : decode prog_3_method_7_code 3 = .ok (.istore_n 3, 1) := by decide +kernel
theorem d_Plan_countTestsNaming_4 : decode prog_3_method_7_code 4 = .ok (.iload_n 3, 1) := by decide +kernel
theorem d_Plan_countTestsNaming_5 : decode prog_3_method_7_code 5 = .ok (.aload_n 0, 1) := by decide +kernel
theorem d_Plan_countTestsNaming_6 : decode prog_3_method_7_code 6 = .ok (.getfield 18, 3) := by decide +kernel
theorem d_Plan_countTestsNaming_9 : decode prog_3_method_7_code 9 = .ok (.invokevirtual 33, 3) := by decide +kernel
theorem d_Plan_countTestsNaming_12 : decode prog_3_method_7_code 12 = .ok (.if_icmp .ge 33, 3) := by decide +kernel
theorem d_Plan_countTestsNaming_15 : decode prog_3_method_7_code 15 = .ok (.aload_n 0, 1) := by decide +kernel
theorem d_Plan_countTestsNaming_16 : decode prog_3_method_7_code 16 = .ok (.getfield 18, 3) := by decide +kernel
theorem d_Plan_countTestsNaming_19 : decode prog_3_method_7_code 19 = .ok (.iload_n 3, 1) := by decide +kernel
theorem d_Plan_countTestsNaming_20 : decode prog_3_method_7_code 20 = .ok (.invokevirtual 37, 3) := by decide +kernel
theorem d_Plan_countTestsNaming_23 : decode prog_3_method_7_code 23 = .ok (.checkcast 41, 3) := by decide +kernel
theorem d_Plan_countTestsNaming_26 : decode prog_3_method_7_code 26 = .ok (.getfield 63, 3) := by decide +kernel
theorem d_Plan_countTestsNaming_29 : decode prog_3_method_7_code 29 = .ok (.iconst 1, 1) := by decide +kernel
theorem d_Plan_countTestsNaming_30 : decode prog_3_method_7_code 30 = .ok (.iload_n 1, 1) := by decide +kernel
theorem d_Plan_countTestsNaming_31 : decode prog_3_method_7_code 31 = .ok (.ishl, 1) := by decide +kernel
theorem d_Plan_countTestsNaming_32 : decode prog_3_method_7_code 32 = .ok (.iand, 1) := by decide +kernel
theorem d_Plan_countTestsNaming_33 : decode prog_3_method_7_code 33 = .ok (.ifCond .eq 6, 3) := by decide +kernel
theorem d_Plan_countTestsNaming_36 : decode prog_3_method_7_code 36 = .ok (.iinc 2 1, 3) := by decide +kernel
theorem d_Plan_countTestsNaming_39 : decode prog_3_method_7_code 39 = .ok (.iinc 3 1, 3) := by decide +kernel
theorem d_Plan_countTestsNaming_42 : decode prog_3_method_7_code 42 = .ok (.goto (-38), 3) := by decide +kernel
theorem d_Plan_countTestsNaming_45 : decode prog_3_method_7_code 45 = .ok (.iload_n 2, 1) := by decide +kernel
theorem d_Plan_countTestsNaming_46 : decode prog_3_method_7_code 46 = .ok (.ireturn, 1) := by decide +kernel
abbrev m_Plan_leastAt : MethodName × ByteArray × Nat × Option FieldType := (⟨"TestText$Plan", "leastAt", "(I)I"⟩, prog_3_method_8_code, 2, (Option.some FieldType.int))
theorem d_Plan_leastAt_0 : decode prog_3_method_8_code 0 = .ok (.iload_n 1, 1) := by decide +kernel
theorem d_Plan_leastAt_1 : decode prog_3_method_8_code 1 = .ok (.ifCond .lt 11, 3) := by decide +kernel
theorem d_Plan_leastAt_4 : decode prog_3_method_8_code 4 = .ok (.iload_n 1, 1) := by decide +kernel
theorem d_Plan_leastAt_5 : decode prog_3_method_8_code 5 = .ok (.aload_n 0, 1) := by decide +kernel
theorem d_Plan_leastAt_6 : decode prog_3_method_8_code 6 = .ok (.getfield 66, 3) := by decide +kernel
theorem d_Plan_leastAt_9 : decode prog_3_method_8_code 9 = .ok (.if_icmp .lt 7, 3) := by decide +kernel
theorem d_Plan_leastAt_12 : decode prog_3_method_8_code 12 = .ok (.iconst 0, 1) := by decide +kernel
theorem d_Plan_leastAt_13 : decode prog_3_method_8_code 13 = .ok (.goto 9, 3) := by decide +kernel
theorem d_Plan_leastAt_16 : decode prog_3_method_8_code 16 = .ok (.aload_n 0, 1) := by decide +kernel
theorem d_Plan_leastAt_17 : decode prog_3_method_8_code 17 = .ok (.getfield 25, 3) := by decide +kernel
theorem d_Plan_leastAt_20 : decode prog_3_method_8_code 20 = .ok (.iload_n 1, 1) := by decide +kernel
theorem d_Plan_leastAt_21 : decode prog_3_method_8_code 21 = .ok (.iaload, 1) := by decide +kernel
theorem d_Plan_leastAt_22 : decode prog_3_method_8_code 22 = .ok (.ireturn, 1) := by decide +kernel
abbrev m_Plan_isTaken : MethodName × ByteArray × Nat × Option FieldType := (⟨"TestText$Plan", "isTaken", "(J)Z"⟩, prog_3_method_5_code, 4, (Option.some FieldType.boolean))
theorem d_Plan_isTaken_0 : decode prog_3_method_5_code 0 = .ok (.iconst 0, 1) := by decide +kernel
theorem d_Plan_isTaken_1 : decode prog_3_method_5_code 1 = .ok (.istore_n 3, 1) := by decide +kernel
theorem d_Plan_isTaken_2 : decode prog_3_method_5_code 2 = .ok (.iload_n 3, 1) := by decide +kernel
theorem d_Plan_isTaken_3 : decode prog_3_method_5_code 3 = .ok (.aload_n 0, 1) := by decide +kernel
theorem d_Plan_isTaken_4 : decode prog_3_method_5_code 4 = .ok (.getfield 18, 3) := by decide +kernel
theorem d_Plan_isTaken_7 : decode prog_3_method_5_code 7 = .ok (.invokevirtual 33, 3) := by decide +kernel
theorem d_Plan_isTaken_10 : decode prog_3_method_5_code 10 = .ok (.if_icmp .ge 30, 3) := by decide +kernel
theorem d_Plan_isTaken_13 : decode prog_3_method_5_code 13 = .ok (.aload_n 0, 1) := by decide +kernel
theorem d_Plan_isTaken_14 : decode prog_3_method_5_code 14 = .ok (.getfield 18, 3) := by decide +kernel
theorem d_Plan_isTaken_17 : decode prog_3_method_5_code 17 = .ok (.iload_n 3, 1) := by decide +kernel
theorem d_Plan_isTaken_18 : decode prog_3_method_5_code 18 = .ok (.invokevirtual 37, 3) := by decide +kernel
theorem d_Plan_isTaken_21 : decode prog_3_method_5_code 21 = .ok (.checkcast 41, 3) := by decide +kernel
theorem d_Plan_isTaken_24 : decode prog_3_method_5_code 24 = .ok (.getfield 43, 3) := by decide +kernel
theorem d_Plan_isTaken_27 : decode prog_3_method_5_code 27 = .ok (.lload_n 1, 1) := by decide +kernel
theorem d_Plan_isTaken_28 : decode prog_3_method_5_code 28 = .ok (.lcmp, 1) := by decide +kernel
theorem d_Plan_isTaken_29 : decode prog_3_method_5_code 29 = .ok (.ifCond .ne 5, 3) := by decide +kernel
theorem d_Plan_isTaken_32 : decode prog_3_method_5_code 32 = .ok (.iconst 1, 1) := by decide +kernel
theorem d_Plan_isTaken_33 : decode prog_3_method_5_code 33 = .ok (.ireturn, 1) := by decide +kernel
theorem d_Plan_isTaken_34 : decode prog_3_method_5_code 34 = .ok (.iinc 3 1, 3) := by decide +kernel
theorem d_Plan_isTaken_37 : decode prog_3_method_5_code 37 = .ok (.goto (-35), 3) := by decide +kernel
theorem d_Plan_isTaken_40 : decode prog_3_method_5_code 40 = .ok (.aload_n 0, 1) := by decide +kernel
theorem d_Plan_isTaken_41 : decode prog_3_method_5_code 41 = .ok (.lload_n 1, 1) := by decide +kernel
theorem d_Plan_isTaken_42 : decode prog_3_method_5_code 42 = .ok (.invokevirtual 47, 3) := by decide +kernel
theorem d_Plan_isTaken_45 : decode prog_3_method_5_code 45 = .ok (.ifCond .le 7, 3) := by decide +kernel
theorem d_Plan_isTaken_48 : decode prog_3_method_5_code 48 = .ok (.iconst 1, 1) := by decide +kernel
theorem d_Plan_isTaken_49 : decode prog_3_method_5_code 49 = .ok (.goto 4, 3) := by decide +kernel
theorem d_Plan_isTaken_52 : decode prog_3_method_5_code 52 = .ok (.iconst 0, 1) := by decide +kernel
theorem d_Plan_isTaken_53 : decode prog_3_method_5_code 53 = .ok (.ireturn, 1) := by decide +kernel
abbrev m_Plan_valueOf : MethodName × ByteArray × Nat × Option FieldType := (⟨"TestText$Plan", "valueOf", "(J)I"⟩, prog_3_method_4_code, 4, (Option.some FieldType.int))
theorem d_Plan_valueOf_0 : decode prog_3_method_4_code 0 = .ok (.iconst 0, 1) := by decide +kernel
theorem d_Plan_valueOf_1 : decode prog_3_method_4_code 1 = .ok (.istore_n 3, 1) := by decide +kernel
theorem d_Plan_valueOf_2 : decode prog_3_method_4_code 2 = .ok (.iload_n 3, 1) := by decide +kernel
theorem d_Plan_valueOf_3 : decode prog_3_method_4_code 3 = .ok (.aload_n 0, 1) := by decide +kernel
theorem d_Plan_valueOf_4 : decode prog_3_method_4_code 4 = .ok (.getfield 29, 3) := by decide +kernel
theorem d_Plan_valueOf_7 : decode prog_3_method_4_code 7 = .ok (.if_icmp .ge 24, 3) := by decide +kernel
theorem d_Plan_valueOf_10 : decode prog_3_method_4_code 10 = .ok (.aload_n 0, 1) := by decide +kernel
theorem d_Plan_valueOf_11 : decode prog_3_method_4_code 11 = .ok (.getfield 9, 3) := by decide +kernel
theorem d_Plan_valueOf_14 : decode prog_3_method_4_code 14 = .ok (.iload_n 3, 1) := by decide +kernel
theorem d_Plan_valueOf_15 : decode prog_3_method_4_code 15 = .ok (.laload, 1) := by decide +kernel
theorem d_Plan_valueOf_16 : decode prog_3_method_4_code 16 = .ok (.lload_n 1, 1) := by decide +kernel
theorem d_Plan_valueOf_17 : decode prog_3_method_4_code 17 = .ok (.lcmp, 1) := by decide +kernel
theorem d_Plan_valueOf_18 : decode prog_3_method_4_code 18 = .ok (.ifCond .ne 7, 3) := by decide +kernel
theorem d_Plan_valueOf_21 : decode prog_3_method_4_code 21 = .ok (.iload_n 3, 1) := by decide +kernel
theorem d_Plan_valueOf_22 : decode prog_3_method_4_code 22 = .ok (.iconst 1, 1) := by decide +kernel
theorem d_Plan_valueOf_23 : decode prog_3_method_4_code 23 = .ok (.iadd, 1) := by decide +kernel
theorem d_Plan_valueOf_24 : decode prog_3_method_4_code 24 = .ok (.ireturn, 1) := by decide +kernel
theorem d_Plan_valueOf_25 : decode prog_3_method_4_code 25 = .ok (.iinc 3 1, 3) := by decide +kernel
theorem d_Plan_valueOf_28 : decode prog_3_method_4_code 28 = .ok (.goto (-26), 3) := by decide +kernel
theorem d_Plan_valueOf_31 : decode prog_3_method_4_code 31 = .ok (.iconst 0, 1) := by decide +kernel
theorem d_Plan_valueOf_32 : decode prog_3_method_4_code 32 = .ok (.ireturn, 1) := by decide +kernel
abbrev m_Plan_findLeast : MethodName × ByteArray × Nat × Option FieldType := (⟨"TestText$Plan", "findLeast", "()V"⟩, prog_3_method_9_code, 5, (Option.none : Option FieldType))
theorem d_Plan_findLeast_0 : decode prog_3_method_9_code 0 = .ok (.iconst 1, 1) := by decide +kernel
theorem d_Plan_findLeast_1 : decode prog_3_method_9_code 1 = .ok (.aload_n 0, 1) := by decide +kernel
theorem d_Plan_findLeast_2 : decode prog_3_method_9_code 2 = .ok (.getfield 18, 3) := by decide +kernel
theorem d_Plan_findLeast_5 : decode prog_3_method_9_code 5 = .ok (.invokevirtual 33, 3) := by decide +kernel
theorem d_Plan_findLeast_8 : decode prog_3_method_9_code 8 = .ok (.ishl, 1) := by decide +kernel
theorem d_Plan_findLeast_9 : decode prog_3_method_9_code 9 = .ok (.iconst 1, 1) := by decide +kernel
theorem d_Plan_findLeast_10 : decode prog_3_method_9_code 10 = .ok (.isub, 1) := by decide +kernel
theorem d_Plan_findLeast_11 : decode prog_3_method_9_code 11 = .ok (.istore_n 1, 1) := by decide +kernel
theorem d_Plan_findLeast_12 : decode prog_3_method_9_code 12 = .ok (.aload_n 0, 1) := by decide +kernel
theorem d_Plan_findLeast_13 : decode prog_3_method_9_code 13 = .ok (.iload_n 1, 1) := by decide +kernel
theorem d_Plan_findLeast_14 : decode prog_3_method_9_code 14 = .ok (.invokevirtual 69, 3) := by decide +kernel
theorem d_Plan_findLeast_17 : decode prog_3_method_9_code 17 = .ok (.istore_n 2, 1) := by decide +kernel
theorem d_Plan_findLeast_18 : decode prog_3_method_9_code 18 = .ok (.iload_n 1, 1) := by decide +kernel
theorem d_Plan_findLeast_19 : decode prog_3_method_9_code 19 = .ok (.istore_n 3, 1) := by decide +kernel
theorem d_Plan_findLeast_20 : decode prog_3_method_9_code 20 = .ok (.iload_n 1, 1) := by decide +kernel
theorem d_Plan_findLeast_21 : decode prog_3_method_9_code 21 = .ok (.istore 4, 2) := by decide +kernel
theorem d_Plan_findLeast_23 : decode prog_3_method_9_code 23 = .ok (.iload 4, 2) := by decide +kernel
theorem d_Plan_findLeast_25 : decode prog_3_method_9_code 25 = .ok (.ifCond .lt 34, 3) := by decide +kernel
theorem d_Plan_findLeast_28 : decode prog_3_method_9_code 28 = .ok (.iload 4, 2) := by decide +kernel
theorem d_Plan_findLeast_30 : decode prog_3_method_9_code 30 = .ok (.invokestatic 73, 3) := by decide +kernel
theorem d_Plan_findLeast_33 : decode prog_3_method_9_code 33 = .ok (.iload_n 3, 1) := by decide +kernel
theorem d_Plan_findLeast_34 : decode prog_3_method_9_code 34 = .ok (.invokestatic 73, 3) := by decide +kernel
theorem d_Plan_findLeast_37 : decode prog_3_method_9_code 37 = .ok (.if_icmp .ge 16, 3) := by decide +kernel
theorem d_Plan_findLeast_40 : decode prog_3_method_9_code 40 = .ok (.aload_n 0, 1) := by decide +kernel
theorem d_Plan_findLeast_41 : decode prog_3_method_9_code 41 = .ok (.iload 4, 2) := by decide +kernel
theorem d_Plan_findLeast_43 : decode prog_3_method_9_code 43 = .ok (.invokevirtual 69, 3) := by decide +kernel
theorem d_Plan_findLeast_46 : decode prog_3_method_9_code 46 = .ok (.iload_n 2, 1) := by decide +kernel
theorem d_Plan_findLeast_47 : decode prog_3_method_9_code 47 = .ok (.if_icmp .ne 6, 3) := by decide +kernel
theorem d_Plan_findLeast_50 : decode prog_3_method_9_code 50 = .ok (.iload 4, 2) := by decide +kernel
theorem d_Plan_findLeast_52 : decode prog_3_method_9_code 52 = .ok (.istore_n 3, 1) := by decide +kernel
theorem d_Plan_findLeast_53 : decode prog_3_method_9_code 53 = .ok (.iinc 4 (-1), 3) := by decide +kernel
theorem d_Plan_findLeast_56 : decode prog_3_method_9_code 56 = .ok (.goto (-33), 3) := by decide +kernel
theorem d_Plan_findLeast_59 : decode prog_3_method_9_code 59 = .ok (.aload_n 0, 1) := by decide +kernel
theorem d_Plan_findLeast_60 : decode prog_3_method_9_code 60 = .ok (.iconst 0, 1) := by decide +kernel
theorem d_Plan_findLeast_61 : decode prog_3_method_9_code 61 = .ok (.putfield 66, 3) := by decide +kernel
theorem d_Plan_findLeast_64 : decode prog_3_method_9_code 64 = .ok (.iconst 0, 1) := by decide +kernel
theorem d_Plan_findLeast_65 : decode prog_3_method_9_code 65 = .ok (.istore 4, 2) := by decide +kernel
theorem d_Plan_findLeast_67 : decode prog_3_method_9_code 67 = .ok (.iload 4, 2) := by decide +kernel
theorem d_Plan_findLeast_69 : decode prog_3_method_9_code 69 = .ok (.aload_n 0, 1) := by decide +kernel
theorem d_Plan_findLeast_70 : decode prog_3_method_9_code 70 = .ok (.getfield 18, 3) := by decide +kernel
theorem d_Plan_findLeast_73 : decode prog_3_method_9_code 73 = .ok (.invokevirtual 33, 3) := by decide +kernel
theorem d_Plan_findLeast_76 : decode prog_3_method_9_code 76 = .ok (.if_icmp .ge 54, 3) := by decide +kernel
theorem d_Plan_findLeast_79 : decode prog_3_method_9_code 79 = .ok (.aload_n 0, 1) := by decide +kernel
theorem d_Plan_findLeast_80 : decode prog_3_method_9_code 80 = .ok (.getfield 66, 3) := by decide +kernel
theorem d_Plan_findLeast_83 : decode prog_3_method_9_code 83 = .ok (.aload_n 0, 1) := by decide +kernel
theorem d_Plan_findLeast_84 : decode prog_3_method_9_code 84 = .ok (.getfield 25, 3) := by decide +kernel
theorem d_Plan_findLeast_87 : decode prog_3_method_9_code 87 = .ok (.arraylength, 1) := by decide +kernel
theorem d_Plan_findLeast_88 : decode prog_3_method_9_code 88 = .ok (.if_icmp .ge 42, 3) := by decide +kernel
theorem d_Plan_findLeast_91 : decode prog_3_method_9_code 91 = .ok (.aload_n 0, 1) := by decide +kernel
theorem d_Plan_findLeast_92 : decode prog_3_method_9_code 92 = .ok (.iload_n 3, 1) := by decide +kernel
theorem d_Plan_findLeast_93 : decode prog_3_method_9_code 93 = .ok (.iload 4, 2) := by decide +kernel
theorem d_Plan_findLeast_95 : decode prog_3_method_9_code 95 = .ok (.invokevirtual 78, 3) := by decide +kernel
theorem d_Plan_findLeast_98 : decode prog_3_method_9_code 98 = .ok (.ifCond .eq 26, 3) := by decide +kernel
theorem d_Plan_findLeast_101 : decode prog_3_method_9_code 101 = .ok (.aload_n 0, 1) := by decide +kernel
theorem d_Plan_findLeast_102 : decode prog_3_method_9_code 102 = .ok (.getfield 25, 3) := by decide +kernel
theorem d_Plan_findLeast_105 : decode prog_3_method_9_code 105 = .ok (.aload_n 0, 1) := by decide +kernel
theorem d_Plan_findLeast_106 : decode prog_3_method_9_code 106 = .ok (.getfield 66, 3) := by decide +kernel
theorem d_Plan_findLeast_109 : decode prog_3_method_9_code 109 = .ok (.iload 4, 2) := by decide +kernel
theorem d_Plan_findLeast_111 : decode prog_3_method_9_code 111 = .ok (.iconst 1, 1) := by decide +kernel
theorem d_Plan_findLeast_112 : decode prog_3_method_9_code 112 = .ok (.iadd, 1) := by decide +kernel
theorem d_Plan_findLeast_113 : decode prog_3_method_9_code 113 = .ok (.iastore, 1) := by decide +kernel
theorem d_Plan_findLeast_114 : decode prog_3_method_9_code 114 = .ok (.aload_n 0, 1) := by decide +kernel
theorem d_Plan_findLeast_115 : decode prog_3_method_9_code 115 = .ok (.dup, 1) := by decide +kernel
theorem d_Plan_findLeast_116 : decode prog_3_method_9_code 116 = .ok (.getfield 66, 3) := by decide +kernel
theorem d_Plan_findLeast_119 : decode prog_3_method_9_code 119 = .ok (.iconst 1, 1) := by decide +kernel
theorem d_Plan_findLeast_120 : decode prog_3_method_9_code 120 = .ok (.iadd, 1) := by decide +kernel
theorem d_Plan_findLeast_121 : decode prog_3_method_9_code 121 = .ok (.putfield 66, 3) := by decide +kernel
theorem d_Plan_findLeast_124 : decode prog_3_method_9_code 124 = .ok (.iinc 4 1, 3) := by decide +kernel
theorem d_Plan_findLeast_127 : decode prog_3_method_9_code 127 = .ok (.goto (-60), 3) := by decide +kernel
theorem d_Plan_findLeast_130 : decode prog_3_method_9_code 130 = .ok (.return_, 1) := by decide +kernel
abbrev m_Plan_namedBy : MethodName × ByteArray × Nat × Option FieldType := (⟨"TestText$Plan", "namedBy", "(I)I"⟩, prog_3_method_11_code, 4, (Option.some FieldType.int))
theorem d_Plan_namedBy_0 : decode prog_3_method_11_code 0 = .ok (.iconst 0, 1) := by decide +kernel
theorem d_Plan_namedBy_1 : decode prog_3_method_11_code 1 = .ok (.istore_n 2, 1) := by decide +kernel
theorem d_Plan_namedBy_2 : decode prog_3_method_11_code 2 = .ok (.iconst 0, 1) := by decide +kernel
theorem d_Plan_namedBy_3 : decode prog_3_method_11_code 3 = .ok (.istore_n 3, 1) := by decide +kernel
theorem d_Plan_namedBy_4 : decode prog_3_method_11_code 4 = .ok (.iload_n 3, 1) := by decide +kernel
theorem d_Plan_namedBy_5 : decode prog_3_method_11_code 5 = .ok (.aload_n 0, 1) := by decide +kernel
theorem d_Plan_namedBy_6 : decode prog_3_method_11_code 6 = .ok (.getfield 18, 3) := by decide +kernel
theorem d_Plan_namedBy_9 : decode prog_3_method_11_code 9 = .ok (.invokevirtual 33, 3) := by decide +kernel
theorem d_Plan_namedBy_12 : decode prog_3_method_11_code 12 = .ok (.if_icmp .ge 35, 3) := by decide +kernel
theorem d_Plan_namedBy_15 : decode prog_3_method_11_code 15 = .ok (.aload_n 0, 1) := by decide +kernel
theorem d_Plan_namedBy_16 : decode prog_3_method_11_code 16 = .ok (.iload_n 1, 1) := by decide +kernel
theorem d_Plan_namedBy_17 : decode prog_3_method_11_code 17 = .ok (.iload_n 3, 1) := by decide +kernel
theorem d_Plan_namedBy_18 : decode prog_3_method_11_code 18 = .ok (.invokevirtual 78, 3) := by decide +kernel
theorem d_Plan_namedBy_21 : decode prog_3_method_11_code 21 = .ok (.ifCond .eq 20, 3) := by decide +kernel
theorem d_Plan_namedBy_24 : decode prog_3_method_11_code 24 = .ok (.iload_n 2, 1) := by decide +kernel
theorem d_Plan_namedBy_25 : decode prog_3_method_11_code 25 = .ok (.aload_n 0, 1) := by decide +kernel
theorem d_Plan_namedBy_26 : decode prog_3_method_11_code 26 = .ok (.getfield 18, 3) := by decide +kernel
theorem d_Plan_namedBy_29 : decode prog_3_method_11_code 29 = .ok (.iload_n 3, 1) := by decide +kernel
theorem d_Plan_namedBy_30 : decode prog_3_method_11_code 30 = .ok (.invokevirtual 37, 3) := by decide +kernel
theorem d_Plan_namedBy_33 : decode prog_3_method_11_code 33 = .ok (.checkcast 41, 3) := by decide +kernel
theorem d_Plan_namedBy_36 : decode prog_3_method_11_code 36 = .ok (.getfield 63, 3) := by decide +kernel
theorem d_Plan_namedBy_39 : decode prog_3_method_11_code 39 = .ok (.ior, 1) := by decide +kernel
theorem d_Plan_namedBy_40 : decode prog_3_method_11_code 40 = .ok (.istore_n 2, 1) := by decide +kernel
theorem d_Plan_namedBy_41 : decode prog_3_method_11_code 41 = .ok (.iinc 3 1, 3) := by decide +kernel
theorem d_Plan_namedBy_44 : decode prog_3_method_11_code 44 = .ok (.goto (-40), 3) := by decide +kernel
theorem d_Plan_namedBy_47 : decode prog_3_method_11_code 47 = .ok (.iload_n 2, 1) := by decide +kernel
theorem d_Plan_namedBy_48 : decode prog_3_method_11_code 48 = .ok (.ireturn, 1) := by decide +kernel
abbrev m_Plan_isIn : MethodName × ByteArray × Nat × Option FieldType := (⟨"TestText$Plan", "isIn", "(II)Z"⟩, prog_3_method_10_code, 3, (Option.some FieldType.boolean))
theorem d_Plan_isIn_0 : decode prog_3_method_10_code 0 = .ok (.iload_n 1, 1) := by decide +kernel
theorem d_Plan_isIn_1 : decode prog_3_method_10_code 1 = .ok (.iconst 1, 1) := by decide +kernel
theorem d_Plan_isIn_2 : decode prog_3_method_10_code 2 = .ok (.aload_n 0, 1) := by decide +kernel
theorem d_Plan_isIn_3 : decode prog_3_method_10_code 3 = .ok (.getfield 18, 3) := by decide +kernel
theorem d_Plan_isIn_6 : decode prog_3_method_10_code 6 = .ok (.invokevirtual 33, 3) := by decide +kernel
theorem d_Plan_isIn_9 : decode prog_3_method_10_code 9 = .ok (.iconst 1, 1) := by decide +kernel
theorem d_Plan_isIn_10 : decode prog_3_method_10_code 10 = .ok (.isub, 1) := by decide +kernel
theorem d_Plan_isIn_11 : decode prog_3_method_10_code 11 = .ok (.iload_n 2, 1) := by decide +kernel
theorem d_Plan_isIn_12 : decode prog_3_method_10_code 12 = .ok (.isub, 1) := by decide +kernel
theorem d_Plan_isIn_13 : decode prog_3_method_10_code 13 = .ok (.ishl, 1) := by decide +kernel
theorem d_Plan_isIn_14 : decode prog_3_method_10_code 14 = .ok (.iand, 1) := by decide +kernel
theorem d_Plan_isIn_15 : decode prog_3_method_10_code 15 = .ok (.ifCond .eq 7, 3) := by decide +kernel
theorem d_Plan_isIn_18 : decode prog_3_method_10_code 18 = .ok (.iconst 1, 1) := by decide +kernel
theorem d_Plan_isIn_19 : decode prog_3_method_10_code 19 = .ok (.goto 4, 3) := by decide +kernel
theorem d_Plan_isIn_22 : decode prog_3_method_10_code 22 = .ok (.iconst 0, 1) := by decide +kernel
theorem d_Plan_isIn_23 : decode prog_3_method_10_code 23 = .ok (.ireturn, 1) := by decide +kernel
abbrev m_Ans_init : MethodName × ByteArray × Nat × Option FieldType := (⟨"TestText$Answers", "<init>", "()V"⟩, prog_2_method_1_code, 1, (Option.none : Option FieldType))
theorem d_Ans_init_0 : decode prog_2_method_1_code 0 = .ok (.aload_n 0, 1) := by decide +kernel
theorem d_Ans_init_1 : decode prog_2_method_1_code 1 = .ok (.invokespecial 3, 3) := by decide +kernel
theorem d_Ans_init_4 : decode prog_2_method_1_code 4 = .ok (.aload_n 0, 1) := by decide +kernel
theorem d_Ans_init_5 : decode prog_2_method_1_code 5 = .ok (.sipush 200, 3) := by decide +kernel
theorem d_Ans_init_8 : decode prog_2_method_1_code 8 = .ok (.newarray .int, 2) := by decide +kernel
theorem d_Ans_init_10 : decode prog_2_method_1_code 10 = .ok (.putfield 9, 3) := by decide +kernel
theorem d_Ans_init_13 : decode prog_2_method_1_code 13 = .ok (.aload_n 0, 1) := by decide +kernel
theorem d_Ans_init_14 : decode prog_2_method_1_code 14 = .ok (.sipush 200, 3) := by decide +kernel
theorem d_Ans_init_17 : decode prog_2_method_1_code 17 = .ok (.newarray .int, 2) := by decide +kernel
theorem d_Ans_init_19 : decode prog_2_method_1_code 19 = .ok (.putfield 15, 3) := by decide +kernel
theorem d_Ans_init_22 : decode prog_2_method_1_code 22 = .ok (.return_, 1) := by decide +kernel
abbrev m_Ans_tell : MethodName × ByteArray × Nat × Option FieldType := (⟨"TestText$Answers", "tell", "(III)V"⟩, prog_2_method_5_code, 6, (Option.none : Option FieldType))
theorem d_Ans_tell_0 : decode prog_2_method_5_code 0 = .ok (.iload_n 1, 1) := by decide +kernel
theorem d_Ans_tell_1 : decode prog_2_method_5_code 1 = .ok (.iload_n 3, 1) := by decide +kernel
theorem d_Ans_tell_2 : decode prog_2_method_5_code 2 = .ok (.invokestatic 27, 3) := by decide +kernel
theorem d_Ans_tell_5 : decode prog_2_method_5_code 5 = .ok (.istore 4, 2) := by decide +kernel
theorem d_Ans_tell_7 : decode prog_2_method_5_code 7 = .ok (.aload_n 0, 1) := by decide +kernel
theorem d_Ans_tell_8 : decode prog_2_method_5_code 8 = .ok (.iload 4, 2) := by decide +kernel
theorem d_Ans_tell_10 : decode prog_2_method_5_code 10 = .ok (.invokevirtual 31, 3) := by decide +kernel
theorem d_Ans_tell_13 : decode prog_2_method_5_code 13 = .ok (.istore 5, 2) := by decide +kernel
theorem d_Ans_tell_15 : decode prog_2_method_5_code 15 = .ok (.aload_n 0, 1) := by decide +kernel
theorem d_Ans_tell_16 : decode prog_2_method_5_code 16 = .ok (.dup, 1) := by decide +kernel
theorem d_Ans_tell_17 : decode prog_2_method_5_code 17 = .ok (.getfield 22, 3) := by decide +kernel
theorem d_Ans_tell_20 : decode prog_2_method_5_code 20 = .ok (.iconst 1, 1) := by decide +kernel
theorem d_Ans_tell_21 : decode prog_2_method_5_code 21 = .ok (.iadd, 1) := by decide +kernel
theorem d_Ans_tell_22 : decode prog_2_method_5_code 22 = .ok (.putfield 22, 3) := by decide +kernel
theorem d_Ans_tell_25 : decode prog_2_method_5_code 25 = .ok (.iload 5, 2) := by decide +kernel
theorem d_Ans_tell_27 : decode prog_2_method_5_code 27 = .ok (.ifCond .le 30, 3) := by decide +kernel
theorem d_Ans_tell_30 : decode prog_2_method_5_code 30 = .ok (.aload_n 0, 1) := by decide +kernel
theorem d_Ans_tell_31 : decode prog_2_method_5_code 31 = .ok (.getfield 9, 3) := by decide +kernel
theorem d_Ans_tell_34 : decode prog_2_method_5_code 34 = .ok (.iload 5, 2) := by decide +kernel
theorem d_Ans_tell_36 : decode prog_2_method_5_code 36 = .ok (.iconst 1, 1) := by decide +kernel
theorem d_Ans_tell_37 : decode prog_2_method_5_code 37 = .ok (.isub, 1) := by decide +kernel
theorem d_Ans_tell_38 : decode prog_2_method_5_code 38 = .ok (.iaload, 1) := by decide +kernel
theorem d_Ans_tell_39 : decode prog_2_method_5_code 39 = .ok (.iload 4, 2) := by decide +kernel
theorem d_Ans_tell_41 : decode prog_2_method_5_code 41 = .ok (.if_icmp .ne 16, 3) := by decide +kernel
theorem d_Ans_tell_44 : decode prog_2_method_5_code 44 = .ok (.aload_n 0, 1) := by decide +kernel
theorem d_Ans_tell_45 : decode prog_2_method_5_code 45 = .ok (.getfield 15, 3) := by decide +kernel
theorem d_Ans_tell_48 : decode prog_2_method_5_code 48 = .ok (.iload 5, 2) := by decide +kernel
theorem d_Ans_tell_50 : decode prog_2_method_5_code 50 = .ok (.iconst 1, 1) := by decide +kernel
theorem d_Ans_tell_51 : decode prog_2_method_5_code 51 = .ok (.isub, 1) := by decide +kernel
theorem d_Ans_tell_52 : decode prog_2_method_5_code 52 = .ok (.iload_n 2, 1) := by decide +kernel
theorem d_Ans_tell_53 : decode prog_2_method_5_code 53 = .ok (.iastore, 1) := by decide +kernel
theorem d_Ans_tell_54 : decode prog_2_method_5_code 54 = .ok (.goto 88, 3) := by decide +kernel
theorem d_Ans_tell_57 : decode prog_2_method_5_code 57 = .ok (.aload_n 0, 1) := by decide +kernel
theorem d_Ans_tell_58 : decode prog_2_method_5_code 58 = .ok (.getfield 18, 3) := by decide +kernel
theorem d_Ans_tell_61 : decode prog_2_method_5_code 61 = .ok (.sipush 200, 3) := by decide +kernel
theorem d_Ans_tell_64 : decode prog_2_method_5_code 64 = .ok (.if_icmp .ge 78, 3) := by decide +kernel
theorem d_Ans_tell_67 : decode prog_2_method_5_code 67 = .ok (.aload_n 0, 1) := by decide +kernel
theorem d_Ans_tell_68 : decode prog_2_method_5_code 68 = .ok (.getfield 9, 3) := by decide +kernel
theorem d_Ans_tell_71 : decode prog_2_method_5_code 71 = .ok (.iload 5, 2) := by decide +kernel
theorem d_Ans_tell_73 : decode prog_2_method_5_code 73 = .ok (.aload_n 0, 1) := by decide +kernel
theorem d_Ans_tell_74 : decode prog_2_method_5_code 74 = .ok (.getfield 9, 3) := by decide +kernel
theorem d_Ans_tell_77 : decode prog_2_method_5_code 77 = .ok (.iload 5, 2) := by decide +kernel
theorem d_Ans_tell_79 : decode prog_2_method_5_code 79 = .ok (.iconst 1, 1) := by decide +kernel
theorem d_Ans_tell_80 : decode prog_2_method_5_code 80 = .ok (.iadd, 1) := by decide +kernel
theorem d_Ans_tell_81 : decode prog_2_method_5_code 81 = .ok (.aload_n 0, 1) := by decide +kernel
theorem d_Ans_tell_82 : decode prog_2_method_5_code 82 = .ok (.getfield 18, 3) := by decide +kernel
theorem d_Ans_tell_85 : decode prog_2_method_5_code 85 = .ok (.iload 5, 2) := by decide +kernel
theorem d_Ans_tell_87 : decode prog_2_method_5_code 87 = .ok (.isub, 1) := by decide +kernel
theorem d_Ans_tell_88 : decode prog_2_method_5_code 88 = .ok (.invokestatic 35, 3) := by decide +kernel
theorem d_Ans_tell_91 : decode prog_2_method_5_code 91 = .ok (.aload_n 0, 1) := by decide +kernel
theorem d_Ans_tell_92 : decode prog_2_method_5_code 92 = .ok (.getfield 15, 3) := by decide +kernel
theorem d_Ans_tell_95 : decode prog_2_method_5_code 95 = .ok (.iload 5, 2) := by decide +kernel
theorem d_Ans_tell_97 : decode prog_2_method_5_code 97 = .ok (.aload_n 0, 1) := by decide +kernel
theorem d_Ans_tell_98 : decode prog_2_method_5_code 98 = .ok (.getfield 15, 3) := by decide +kernel
theorem d_Ans_tell_101 : decode prog_2_method_5_code 101 = .ok (.iload 5, 2) := by decide +kernel
theorem d_Ans_tell_103 : decode prog_2_method_5_code 103 = .ok (.iconst 1, 1) := by decide +kernel
theorem d_Ans_tell_104 : decode prog_2_method_5_code 104 = .ok (.iadd, 1) := by decide +kernel
theorem d_Ans_tell_105 : decode prog_2_method_5_code 105 = .ok (.aload_n 0, 1) := by decide +kernel
theorem d_Ans_tell_106 : decode prog_2_method_5_code 106 = .ok (.getfield 18, 3) := by decide +kernel
theorem d_Ans_tell_109 : decode prog_2_method_5_code 109 = .ok (.iload 5, 2) := by decide +kernel
theorem d_Ans_tell_111 : decode prog_2_method_5_code 111 = .ok (.isub, 1) := by decide +kernel
theorem d_Ans_tell_112 : decode prog_2_method_5_code 112 = .ok (.invokestatic 35, 3) := by decide +kernel
theorem d_Ans_tell_115 : decode prog_2_method_5_code 115 = .ok (.aload_n 0, 1) := by decide +kernel
theorem d_Ans_tell_116 : decode prog_2_method_5_code 116 = .ok (.getfield 9, 3) := by decide +kernel
theorem d_Ans_tell_119 : decode prog_2_method_5_code 119 = .ok (.iload 5, 2) := by decide +kernel
theorem d_Ans_tell_121 : decode prog_2_method_5_code 121 = .ok (.iload 4, 2) := by decide +kernel
theorem d_Ans_tell_123 : decode prog_2_method_5_code 123 = .ok (.iastore, 1) := by decide +kernel
theorem d_Ans_tell_124 : decode prog_2_method_5_code 124 = .ok (.aload_n 0, 1) := by decide +kernel
theorem d_Ans_tell_125 : decode prog_2_method_5_code 125 = .ok (.getfield 15, 3) := by decide +kernel
theorem d_Ans_tell_128 : decode prog_2_method_5_code 128 = .ok (.iload 5, 2) := by decide +kernel
theorem d_Ans_tell_130 : decode prog_2_method_5_code 130 = .ok (.iload_n 2, 1) := by decide +kernel
theorem d_Ans_tell_131 : decode prog_2_method_5_code 131 = .ok (.iastore, 1) := by decide +kernel
theorem d_Ans_tell_132 : decode prog_2_method_5_code 132 = .ok (.aload_n 0, 1) := by decide +kernel
theorem d_Ans_tell_133 : decode prog_2_method_5_code 133 = .ok (.dup, 1) := by decide +kernel
theorem d_Ans_tell_134 : decode prog_2_method_5_code 134 = .ok (.getfield 18, 3) := by decide +kernel
theorem d_Ans_tell_137 : decode prog_2_method_5_code 137 = .ok (.iconst 1, 1) := by decide +kernel
theorem d_Ans_tell_138 : decode prog_2_method_5_code 138 = .ok (.iadd, 1) := by decide +kernel
theorem d_Ans_tell_139 : decode prog_2_method_5_code 139 = .ok (.putfield 18, 3) := by decide +kernel
theorem d_Ans_tell_142 : decode prog_2_method_5_code 142 = .ok (.return_, 1) := by decide +kernel
abbrev m_Ans_keyOf : MethodName × ByteArray × Nat × Option FieldType := (⟨"TestText$Answers", "keyOf", "(II)I"⟩, prog_2_method_3_code, 2, (Option.some FieldType.int))
theorem d_Ans_keyOf_0 : decode prog_2_method_3_code 0 = .ok (.iload_n 0, 1) := by decide +kernel
theorem d_Ans_keyOf_1 : decode prog_2_method_3_code 1 = .ok (.ldc 25, 2) := by decide +kernel
theorem d_Ans_keyOf_3 : decode prog_2_method_3_code 3 = .ok (.imul, 1) := by decide +kernel
theorem d_Ans_keyOf_4 : decode prog_2_method_3_code 4 = .ok (.iload_n 1, 1) := by decide +kernel
theorem d_Ans_keyOf_5 : decode prog_2_method_3_code 5 = .ok (.ldc 26, 2) := by decide +kernel
theorem d_Ans_keyOf_7 : decode prog_2_method_3_code 7 = .ok (.if_icmp .ge 7, 3) := by decide +kernel
theorem d_Ans_keyOf_10 : decode prog_2_method_3_code 10 = .ok (.iload_n 1, 1) := by decide +kernel
theorem d_Ans_keyOf_11 : decode prog_2_method_3_code 11 = .ok (.goto 5, 3) := by decide +kernel
theorem d_Ans_keyOf_14 : decode prog_2_method_3_code 14 = .ok (.ldc 26, 2) := by decide +kernel
theorem d_Ans_keyOf_16 : decode prog_2_method_3_code 16 = .ok (.iadd, 1) := by decide +kernel
theorem d_Ans_keyOf_17 : decode prog_2_method_3_code 17 = .ok (.ireturn, 1) := by decide +kernel
abbrev m_Ans_countUpTo : MethodName × ByteArray × Nat × Option FieldType := (⟨"TestText$Answers", "countUpTo", "(I)I"⟩, prog_2_method_4_code, 5, (Option.some FieldType.int))
theorem d_Ans_countUpTo_0 : decode prog_2_method_4_code 0 = .ok (.iconst 0, 1) := by decide +kernel
theorem d_Ans_countUpTo_1 : decode prog_2_method_4_code 1 = .ok (.istore_n 2, 1) := by decide +kernel
theorem d_Ans_countUpTo_2 : decode prog_2_method_4_code 2 = .ok (.aload_n 0, 1) := by decide +kernel
theorem d_Ans_countUpTo_3 : decode prog_2_method_4_code 3 = .ok (.getfield 18, 3) := by decide +kernel
theorem d_Ans_countUpTo_6 : decode prog_2_method_4_code 6 = .ok (.istore_n 3, 1) := by decide +kernel
theorem d_Ans_countUpTo_7 : decode prog_2_method_4_code 7 = .ok (.iload_n 2, 1) := by decide +kernel
theorem d_Ans_countUpTo_8 : decode prog_2_method_4_code 8 = .ok (.iload_n 3, 1) := by decide +kernel
theorem d_Ans_countUpTo_9 : decode prog_2_method_4_code 9 = .ok (.if_icmp .ge 35, 3) := by decide +kernel
theorem d_Ans_countUpTo_12 : decode prog_2_method_4_code 12 = .ok (.iload_n 2, 1) := by decide +kernel
theorem d_Ans_countUpTo_13 : decode prog_2_method_4_code 13 = .ok (.iload_n 3, 1) := by decide +kernel
theorem d_Ans_countUpTo_14 : decode prog_2_method_4_code 14 = .ok (.iadd, 1) := by decide +kernel
theorem d_Ans_countUpTo_15 : decode prog_2_method_4_code 15 = .ok (.iconst 2, 1) := by decide +kernel
theorem d_Ans_countUpTo_16 : decode prog_2_method_4_code 16 = .ok (.idiv, 1) := by decide +kernel
theorem d_Ans_countUpTo_17 : decode prog_2_method_4_code 17 = .ok (.istore 4, 2) := by decide +kernel
theorem d_Ans_countUpTo_19 : decode prog_2_method_4_code 19 = .ok (.aload_n 0, 1) := by decide +kernel
theorem d_Ans_countUpTo_20 : decode prog_2_method_4_code 20 = .ok (.getfield 9, 3) := by decide +kernel
theorem d_Ans_countUpTo_23 : decode prog_2_method_4_code 23 = .ok (.iload 4, 2) := by decide +kernel
theorem d_Ans_countUpTo_25 : decode prog_2_method_4_code 25 = .ok (.iaload, 1) := by decide +kernel
theorem d_Ans_countUpTo_26 : decode prog_2_method_4_code 26 = .ok (.iload_n 1, 1) := by decide +kernel
theorem d_Ans_countUpTo_27 : decode prog_2_method_4_code 27 = .ok (.if_icmp .gt 11, 3) := by decide +kernel
theorem d_Ans_countUpTo_30 : decode prog_2_method_4_code 30 = .ok (.iload 4, 2) := by decide +kernel
theorem d_Ans_countUpTo_32 : decode prog_2_method_4_code 32 = .ok (.iconst 1, 1) := by decide +kernel
theorem d_Ans_countUpTo_33 : decode prog_2_method_4_code 33 = .ok (.iadd, 1) := by decide +kernel
theorem d_Ans_countUpTo_34 : decode prog_2_method_4_code 34 = .ok (.istore_n 2, 1) := by decide +kernel
theorem d_Ans_countUpTo_35 : decode prog_2_method_4_code 35 = .ok (.goto 6, 3) := by decide +kernel
theorem d_Ans_countUpTo_38 : decode prog_2_method_4_code 38 = .ok (.iload 4, 2) := by decide +kernel
theorem d_Ans_countUpTo_40 : decode prog_2_method_4_code 40 = .ok (.istore_n 3, 1) := by decide +kernel
theorem d_Ans_countUpTo_41 : decode prog_2_method_4_code 41 = .ok (.goto (-34), 3) := by decide +kernel
theorem d_Ans_countUpTo_44 : decode prog_2_method_4_code 44 = .ok (.iload_n 2, 1) := by decide +kernel
theorem d_Ans_countUpTo_45 : decode prog_2_method_4_code 45 = .ok (.ireturn, 1) := by decide +kernel
abbrev m_Ans_lastWithin : MethodName × ByteArray × Nat × Option FieldType := (⟨"TestText$Answers", "lastWithin", "(III)I"⟩, prog_2_method_6_code, 5, (Option.some FieldType.int))
theorem d_Ans_lastWithin_0 : decode prog_2_method_6_code 0 = .ok (.aload_n 0, 1) := by decide +kernel
theorem d_Ans_lastWithin_1 : decode prog_2_method_6_code 1 = .ok (.iload_n 1, 1) := by decide +kernel
theorem d_Ans_lastWithin_2 : decode prog_2_method_6_code 2 = .ok (.iload_n 3, 1) := by decide +kernel
theorem d_Ans_lastWithin_3 : decode prog_2_method_6_code 3 = .ok (.invokestatic 27, 3) := by decide +kernel
theorem d_Ans_lastWithin_6 : decode prog_2_method_6_code 6 = .ok (.invokevirtual 31, 3) := by decide +kernel
theorem d_Ans_lastWithin_9 : decode prog_2_method_6_code 9 = .ok (.istore 4, 2) := by decide +kernel
theorem d_Ans_lastWithin_11 : decode prog_2_method_6_code 11 = .ok (.iload_n 2, 1) := by decide +kernel
theorem d_Ans_lastWithin_12 : decode prog_2_method_6_code 12 = .ok (.ldc 26, 2) := by decide +kernel
theorem d_Ans_lastWithin_14 : decode prog_2_method_6_code 14 = .ok (.if_icmp .ge 26, 3) := by decide +kernel
theorem d_Ans_lastWithin_17 : decode prog_2_method_6_code 17 = .ok (.iload 4, 2) := by decide +kernel
theorem d_Ans_lastWithin_19 : decode prog_2_method_6_code 19 = .ok (.iconst 1, 1) := by decide +kernel
theorem d_Ans_lastWithin_20 : decode prog_2_method_6_code 20 = .ok (.if_icmp .lt 20, 3) := by decide +kernel
theorem d_Ans_lastWithin_23 : decode prog_2_method_6_code 23 = .ok (.aload_n 0, 1) := by decide +kernel
theorem d_Ans_lastWithin_24 : decode prog_2_method_6_code 24 = .ok (.getfield 9, 3) := by decide +kernel
theorem d_Ans_lastWithin_27 : decode prog_2_method_6_code 27 = .ok (.iload 4, 2) := by decide +kernel
theorem d_Ans_lastWithin_29 : decode prog_2_method_6_code 29 = .ok (.iconst 1, 1) := by decide +kernel
theorem d_Ans_lastWithin_30 : decode prog_2_method_6_code 30 = .ok (.isub, 1) := by decide +kernel
theorem d_Ans_lastWithin_31 : decode prog_2_method_6_code 31 = .ok (.iaload, 1) := by decide +kernel
theorem d_Ans_lastWithin_32 : decode prog_2_method_6_code 32 = .ok (.iload_n 1, 1) := by decide +kernel
theorem d_Ans_lastWithin_33 : decode prog_2_method_6_code 33 = .ok (.iload_n 2, 1) := by decide +kernel
theorem d_Ans_lastWithin_34 : decode prog_2_method_6_code 34 = .ok (.invokestatic 27, 3) := by decide +kernel
theorem d_Ans_lastWithin_37 : decode prog_2_method_6_code 37 = .ok (.if_icmp .gt 6, 3) := by decide +kernel
theorem d_Ans_lastWithin_40 : decode prog_2_method_6_code 40 = .ok (.ldc 41, 2) := by decide +kernel
theorem d_Ans_lastWithin_42 : decode prog_2_method_6_code 42 = .ok (.ireturn, 1) := by decide +kernel
theorem d_Ans_lastWithin_43 : decode prog_2_method_6_code 43 = .ok (.aload_n 0, 1) := by decide +kernel
theorem d_Ans_lastWithin_44 : decode prog_2_method_6_code 44 = .ok (.getfield 15, 3) := by decide +kernel
theorem d_Ans_lastWithin_47 : decode prog_2_method_6_code 47 = .ok (.iload 4, 2) := by decide +kernel
theorem d_Ans_lastWithin_49 : decode prog_2_method_6_code 49 = .ok (.iconst 1, 1) := by decide +kernel
theorem d_Ans_lastWithin_50 : decode prog_2_method_6_code 50 = .ok (.isub, 1) := by decide +kernel
theorem d_Ans_lastWithin_51 : decode prog_2_method_6_code 51 = .ok (.iaload, 1) := by decide +kernel
theorem d_Ans_lastWithin_52 : decode prog_2_method_6_code 52 = .ok (.ireturn, 1) := by decide +kernel
abbrev m_Ans_firstHolding : MethodName × ByteArray × Nat × Option FieldType := (⟨"TestText$Answers", "firstHolding", "(LTestText$Step;II)I"⟩, prog_2_method_7_code, 6, (Option.some FieldType.int))
theorem d_Ans_firstHolding_0 : decode prog_2_method_7_code 0 = .ok (.aload_n 0, 1) := by decide +kernel
theorem d_Ans_firstHolding_1 : decode prog_2_method_7_code 1 = .ok (.aload_n 1, 1) := by decide +kernel
theorem d_Ans_firstHolding_2 : decode prog_2_method_7_code 2 = .ok (.getfield 42, 3) := by decide +kernel
theorem d_Ans_firstHolding_5 : decode prog_2_method_7_code 5 = .ok (.iload_n 3, 1) := by decide +kernel
theorem d_Ans_firstHolding_6 : decode prog_2_method_7_code 6 = .ok (.invokestatic 27, 3) := by decide +kernel
theorem d_Ans_firstHolding_9 : decode prog_2_method_7_code 9 = .ok (.invokevirtual 31, 3) := by decide +kernel
theorem d_Ans_firstHolding_12 : decode prog_2_method_7_code 12 = .ok (.istore 4, 2) := by decide +kernel
theorem d_Ans_firstHolding_14 : decode prog_2_method_7_code 14 = .ok (.aload_n 0, 1) := by decide +kernel
theorem d_Ans_firstHolding_15 : decode prog_2_method_7_code 15 = .ok (.aload_n 1, 1) := by decide +kernel
theorem d_Ans_firstHolding_16 : decode prog_2_method_7_code 16 = .ok (.getfield 42, 3) := by decide +kernel
theorem d_Ans_firstHolding_19 : decode prog_2_method_7_code 19 = .ok (.iload_n 2, 1) := by decide +kernel
theorem d_Ans_firstHolding_20 : decode prog_2_method_7_code 20 = .ok (.invokestatic 27, 3) := by decide +kernel
theorem d_Ans_firstHolding_23 : decode prog_2_method_7_code 23 = .ok (.invokevirtual 31, 3) := by decide +kernel
theorem d_Ans_firstHolding_26 : decode prog_2_method_7_code 26 = .ok (.istore 5, 2) := by decide +kernel
theorem d_Ans_firstHolding_28 : decode prog_2_method_7_code 28 = .ok (.iload 5, 2) := by decide +kernel
theorem d_Ans_firstHolding_30 : decode prog_2_method_7_code 30 = .ok (.iload 4, 2) := by decide +kernel
theorem d_Ans_firstHolding_32 : decode prog_2_method_7_code 32 = .ok (.if_icmp .ge 40, 3) := by decide +kernel
theorem d_Ans_firstHolding_35 : decode prog_2_method_7_code 35 = .ok (.aload_n 1, 1) := by decide +kernel
theorem d_Ans_firstHolding_36 : decode prog_2_method_7_code 36 = .ok (.aload_n 0, 1) := by decide +kernel
theorem d_Ans_firstHolding_37 : decode prog_2_method_7_code 37 = .ok (.getfield 15, 3) := by decide +kernel
theorem d_Ans_firstHolding_40 : decode prog_2_method_7_code 40 = .ok (.iload 5, 2) := by decide +kernel
theorem d_Ans_firstHolding_42 : decode prog_2_method_7_code 42 = .ok (.iaload, 1) := by decide +kernel
theorem d_Ans_firstHolding_43 : decode prog_2_method_7_code 43 = .ok (.invokevirtual 47, 3) := by decide +kernel
theorem d_Ans_firstHolding_46 : decode prog_2_method_7_code 46 = .ok (.ifCond .eq 20, 3) := by decide +kernel
theorem d_Ans_firstHolding_49 : decode prog_2_method_7_code 49 = .ok (.aload_n 0, 1) := by decide +kernel
theorem d_Ans_firstHolding_50 : decode prog_2_method_7_code 50 = .ok (.getfield 9, 3) := by decide +kernel
theorem d_Ans_firstHolding_53 : decode prog_2_method_7_code 53 = .ok (.iload 5, 2) := by decide +kernel
theorem d_Ans_firstHolding_55 : decode prog_2_method_7_code 55 = .ok (.iaload, 1) := by decide +kernel
theorem d_Ans_firstHolding_56 : decode prog_2_method_7_code 56 = .ok (.aload_n 1, 1) := by decide +kernel
theorem d_Ans_firstHolding_57 : decode prog_2_method_7_code 57 = .ok (.getfield 42, 3) := by decide +kernel
theorem d_Ans_firstHolding_60 : decode prog_2_method_7_code 60 = .ok (.iconst 0, 1) := by decide +kernel
theorem d_Ans_firstHolding_61 : decode prog_2_method_7_code 61 = .ok (.invokestatic 27, 3) := by decide +kernel
theorem d_Ans_firstHolding_64 : decode prog_2_method_7_code 64 = .ok (.isub, 1) := by decide +kernel
theorem d_Ans_firstHolding_65 : decode prog_2_method_7_code 65 = .ok (.ireturn, 1) := by decide +kernel
theorem d_Ans_firstHolding_66 : decode prog_2_method_7_code 66 = .ok (.iinc 5 1, 3) := by decide +kernel
theorem d_Ans_firstHolding_69 : decode prog_2_method_7_code 69 = .ok (.goto (-41), 3) := by decide +kernel
theorem d_Ans_firstHolding_72 : decode prog_2_method_7_code 72 = .ok (.iconst (-1), 1) := by decide +kernel
theorem d_Ans_firstHolding_73 : decode prog_2_method_7_code 73 = .ok (.ireturn, 1) := by decide +kernel
abbrev m_Ans_forget : MethodName × ByteArray × Nat × Option FieldType := (⟨"TestText$Answers", "forget", "()V"⟩, prog_2_method_2_code, 1, (Option.none : Option FieldType))
theorem d_Ans_forget_0 : decode prog_2_method_2_code 0 = .ok (.aload_n 0, 1) := by decide +kernel
theorem d_Ans_forget_1 : decode prog_2_method_2_code 1 = .ok (.iconst 0, 1) := by decide +kernel
theorem d_Ans_forget_2 : decode prog_2_method_2_code 2 = .ok (.putfield 18, 3) := by decide +kernel
theorem d_Ans_forget_5 : decode prog_2_method_2_code 5 = .ok (.aload_n 0, 1) := by decide +kernel
theorem d_Ans_forget_6 : decode prog_2_method_2_code 6 = .ok (.iconst 0, 1) := by decide +kernel
theorem d_Ans_forget_7 : decode prog_2_method_2_code 7 = .ok (.putfield 22, 3) := by decide +kernel
theorem d_Ans_forget_10 : decode prog_2_method_2_code 10 = .ok (.return_, 1) := by decide +kernel
abbrev m_Step_holds : MethodName × ByteArray × Nat × Option FieldType := (⟨"TestText$Step", "holds", "(I)Z"⟩, prog_6_method_2_code, 2, (Option.some FieldType.boolean))
theorem d_Step_holds_0 : decode prog_6_method_2_code 0 = .ok (.aload_n 0, 1) := by decide +kernel
theorem d_Step_holds_1 : decode prog_6_method_2_code 1 = .ok (.getfield 23, 3) := by decide +kernel
theorem d_Step_holds_4 : decode prog_6_method_2_code 4 = .ok (.tableswitch 70 60 62 #[42, 28, 56], 28) := by decide +kernel
theorem d_Step_holds_32 : decode prog_6_method_2_code 32 = .ok (.iload_n 1, 1) := by decide +kernel
theorem d_Step_holds_33 : decode prog_6_method_2_code 33 = .ok (.aload_n 0, 1) := by decide +kernel
theorem d_Step_holds_34 : decode prog_6_method_2_code 34 = .ok (.getfield 26, 3) := by decide +kernel
theorem d_Step_holds_37 : decode prog_6_method_2_code 37 = .ok (.if_icmp .ne 7, 3) := by decide +kernel
theorem d_Step_holds_40 : decode prog_6_method_2_code 40 = .ok (.iconst 1, 1) := by decide +kernel
theorem d_Step_holds_41 : decode prog_6_method_2_code 41 = .ok (.goto 4, 3) := by decide +kernel
theorem d_Step_holds_44 : decode prog_6_method_2_code 44 = .ok (.iconst 0, 1) := by decide +kernel
theorem d_Step_holds_45 : decode prog_6_method_2_code 45 = .ok (.ireturn, 1) := by decide +kernel
theorem d_Step_holds_46 : decode prog_6_method_2_code 46 = .ok (.iload_n 1, 1) := by decide +kernel
theorem d_Step_holds_47 : decode prog_6_method_2_code 47 = .ok (.aload_n 0, 1) := by decide +kernel
theorem d_Step_holds_48 : decode prog_6_method_2_code 48 = .ok (.getfield 26, 3) := by decide +kernel
theorem d_Step_holds_51 : decode prog_6_method_2_code 51 = .ok (.if_icmp .ge 7, 3) := by decide +kernel
theorem d_Step_holds_54 : decode prog_6_method_2_code 54 = .ok (.iconst 1, 1) := by decide +kernel
theorem d_Step_holds_55 : decode prog_6_method_2_code 55 = .ok (.goto 4, 3) := by decide +kernel
theorem d_Step_holds_58 : decode prog_6_method_2_code 58 = .ok (.iconst 0, 1) := by decide +kernel
theorem d_Step_holds_59 : decode prog_6_method_2_code 59 = .ok (.ireturn, 1) := by decide +kernel
theorem d_Step_holds_60 : decode prog_6_method_2_code 60 = .ok (.iload_n 1, 1) := by decide +kernel
theorem d_Step_holds_61 : decode prog_6_method_2_code 61 = .ok (.aload_n 0, 1) := by decide +kernel
theorem d_Step_holds_62 : decode prog_6_method_2_code 62 = .ok (.getfield 26, 3) := by decide +kernel
theorem d_Step_holds_65 : decode prog_6_method_2_code 65 = .ok (.if_icmp .le 7, 3) := by decide +kernel
theorem d_Step_holds_68 : decode prog_6_method_2_code 68 = .ok (.iconst 1, 1) := by decide +kernel
theorem d_Step_holds_69 : decode prog_6_method_2_code 69 = .ok (.goto 4, 3) := by decide +kernel
theorem d_Step_holds_72 : decode prog_6_method_2_code 72 = .ok (.iconst 0, 1) := by decide +kernel
theorem d_Step_holds_73 : decode prog_6_method_2_code 73 = .ok (.ireturn, 1) := by decide +kernel
theorem d_Step_holds_74 : decode prog_6_method_2_code 74 = .ok (.iload_n 1, 1) := by decide +kernel
theorem d_Step_holds_75 : decode prog_6_method_2_code 75 = .ok (.aload_n 0, 1) := by decide +kernel
theorem d_Step_holds_76 : decode prog_6_method_2_code 76 = .ok (.getfield 26, 3) := by decide +kernel
theorem d_Step_holds_79 : decode prog_6_method_2_code 79 = .ok (.if_icmp .eq 7, 3) := by decide +kernel
theorem d_Step_holds_82 : decode prog_6_method_2_code 82 = .ok (.iconst 1, 1) := by decide +kernel
theorem d_Step_holds_83 : decode prog_6_method_2_code 83 = .ok (.goto 4, 3) := by decide +kernel
theorem d_Step_holds_86 : decode prog_6_method_2_code 86 = .ok (.iconst 0, 1) := by decide +kernel
theorem d_Step_holds_87 : decode prog_6_method_2_code 87 = .ok (.ireturn, 1) := by decide +kernel
abbrev m_Step_init : MethodName × ByteArray × Nat × Option FieldType := (⟨"TestText$Step", "<init>", "(III)V"⟩, prog_6_method_1_code, 4, (Option.none : Option FieldType))
theorem d_Step_init_0 : decode prog_6_method_1_code 0 = .ok (.aload_n 0, 1) := by decide +kernel
theorem d_Step_init_1 : decode prog_6_method_1_code 1 = .ok (.invokespecial 1, 3) := by decide +kernel
theorem d_Step_init_4 : decode prog_6_method_1_code 4 = .ok (.aload_n 0, 1) := by decide +kernel
theorem d_Step_init_5 : decode prog_6_method_1_code 5 = .ok (.iload_n 1, 1) := by decide +kernel
theorem d_Step_init_6 : decode prog_6_method_1_code 6 = .ok (.putfield 7, 3) := by decide +kernel
theorem d_Step_init_9 : decode prog_6_method_1_code 9 = .ok (.aload_n 0, 1) := by decide +kernel
theorem d_Step_init_10 : decode prog_6_method_1_code 10 = .ok (.iload_n 2, 1) := by decide +kernel
theorem d_Step_init_11 : decode prog_6_method_1_code 11 = .ok (.putfield 13, 3) := by decide +kernel
theorem d_Step_init_14 : decode prog_6_method_1_code 14 = .ok (.aload_n 0, 1) := by decide +kernel
theorem d_Step_init_15 : decode prog_6_method_1_code 15 = .ok (.iconst 0, 1) := by decide +kernel
theorem d_Step_init_16 : decode prog_6_method_1_code 16 = .ok (.newarray .int, 2) := by decide +kernel
theorem d_Step_init_18 : decode prog_6_method_1_code 18 = .ok (.putfield 16, 3) := by decide +kernel
theorem d_Step_init_21 : decode prog_6_method_1_code 21 = .ok (.aload_n 0, 1) := by decide +kernel
theorem d_Step_init_22 : decode prog_6_method_1_code 22 = .ok (.iload_n 3, 1) := by decide +kernel
theorem d_Step_init_23 : decode prog_6_method_1_code 23 = .ok (.iconst 1, 1) := by decide +kernel
theorem d_Step_init_24 : decode prog_6_method_1_code 24 = .ok (.iadd, 1) := by decide +kernel
theorem d_Step_init_25 : decode prog_6_method_1_code 25 = .ok (.putfield 20, 3) := by decide +kernel
theorem d_Step_init_28 : decode prog_6_method_1_code 28 = .ok (.return_, 1) := by decide +kernel
abbrev m_Test_beginAnew : MethodName × ByteArray × Nat × Option FieldType := (⟨"TestText$Test", "beginAnew", "()V"⟩, prog_7_method_3_code, 1, (Option.none : Option FieldType))
theorem d_Test_beginAnew_0 : decode prog_7_method_3_code 0 = .ok (.aload_n 0, 1) := by decide +kernel
theorem d_Test_beginAnew_1 : decode prog_7_method_3_code 1 = .ok (.iconst 0, 1) := by decide +kernel
theorem d_Test_beginAnew_2 : decode prog_7_method_3_code 2 = .ok (.putfield 33, 3) := by decide +kernel
theorem d_Test_beginAnew_5 : decode prog_7_method_3_code 5 = .ok (.aload_n 0, 1) := by decide +kernel
theorem d_Test_beginAnew_6 : decode prog_7_method_3_code 6 = .ok (.iconst 0, 1) := by decide +kernel
theorem d_Test_beginAnew_7 : decode prog_7_method_3_code 7 = .ok (.putfield 36, 3) := by decide +kernel
theorem d_Test_beginAnew_10 : decode prog_7_method_3_code 10 = .ok (.aload_n 0, 1) := by decide +kernel
theorem d_Test_beginAnew_11 : decode prog_7_method_3_code 11 = .ok (.iconst 0, 1) := by decide +kernel
theorem d_Test_beginAnew_12 : decode prog_7_method_3_code 12 = .ok (.putfield 39, 3) := by decide +kernel
theorem d_Test_beginAnew_15 : decode prog_7_method_3_code 15 = .ok (.return_, 1) := by decide +kernel
abbrev m_Test_init : MethodName × ByteArray × Nat × Option FieldType := (⟨"TestText$Test", "<init>", "(JI)V"⟩, prog_7_method_1_code, 4, (Option.none : Option FieldType))
theorem d_Test_init_0 : decode prog_7_method_1_code 0 = .ok (.aload_n 0, 1) := by decide +kernel
theorem d_Test_init_1 : decode prog_7_method_1_code 1 = .ok (.invokespecial 3, 3) := by decide +kernel
theorem d_Test_init_4 : decode prog_7_method_1_code 4 = .ok (.aload_n 0, 1) := by decide +kernel
theorem d_Test_init_5 : decode prog_7_method_1_code 5 = .ok (.lload_n 1, 1) := by decide +kernel
theorem d_Test_init_6 : decode prog_7_method_1_code 6 = .ok (.putfield 9, 3) := by decide +kernel
theorem d_Test_init_9 : decode prog_7_method_1_code 9 = .ok (.aload_n 0, 1) := by decide +kernel
theorem d_Test_init_10 : decode prog_7_method_1_code 10 = .ok (.iload_n 3, 1) := by decide +kernel
theorem d_Test_init_11 : decode prog_7_method_1_code 11 = .ok (.putfield 15, 3) := by decide +kernel
theorem d_Test_init_14 : decode prog_7_method_1_code 14 = .ok (.aload_n 0, 1) := by decide +kernel
theorem d_Test_init_15 : decode prog_7_method_1_code 15 = .ok (.iload_n 3, 1) := by decide +kernel
theorem d_Test_init_16 : decode prog_7_method_1_code 16 = .ok (.putfield 19, 3) := by decide +kernel
theorem d_Test_init_19 : decode prog_7_method_1_code 19 = .ok (.aload_n 0, 1) := by decide +kernel
theorem d_Test_init_20 : decode prog_7_method_1_code 20 = .ok (.iconst (-1), 1) := by decide +kernel
theorem d_Test_init_21 : decode prog_7_method_1_code 21 = .ok (.putfield 22, 3) := by decide +kernel
theorem d_Test_init_24 : decode prog_7_method_1_code 24 = .ok (.return_, 1) := by decide +kernel
abbrev m_Test_take : MethodName × ByteArray × Nat × Option FieldType := (⟨"TestText$Test", "take", "(LTestText$Step;)V"⟩, prog_7_method_2_code, 2, (Option.none : Option FieldType))
theorem d_Test_take_0 : decode prog_7_method_2_code 0 = .ok (.aload_n 0, 1) := by decide +kernel
theorem d_Test_take_1 : decode prog_7_method_2_code 1 = .ok (.dup, 1) := by decide +kernel
theorem d_Test_take_2 : decode prog_7_method_2_code 2 = .ok (.getfield 19, 3) := by decide +kernel
theorem d_Test_take_5 : decode prog_7_method_2_code 5 = .ok (.iconst 1, 1) := by decide +kernel
theorem d_Test_take_6 : decode prog_7_method_2_code 6 = .ok (.iadd, 1) := by decide +kernel
theorem d_Test_take_7 : decode prog_7_method_2_code 7 = .ok (.putfield 19, 3) := by decide +kernel
theorem d_Test_take_10 : decode prog_7_method_2_code 10 = .ok (.aload_n 1, 1) := by decide +kernel
theorem d_Test_take_11 : decode prog_7_method_2_code 11 = .ok (.getfield 25, 3) := by decide +kernel
theorem d_Test_take_14 : decode prog_7_method_2_code 14 = .ok (.ifCond .le 18, 3) := by decide +kernel
theorem d_Test_take_17 : decode prog_7_method_2_code 17 = .ok (.aload_n 0, 1) := by decide +kernel
theorem d_Test_take_18 : decode prog_7_method_2_code 18 = .ok (.dup, 1) := by decide +kernel
theorem d_Test_take_19 : decode prog_7_method_2_code 19 = .ok (.getfield 30, 3) := by decide +kernel
theorem d_Test_take_22 : decode prog_7_method_2_code 22 = .ok (.iconst 1, 1) := by decide +kernel
theorem d_Test_take_23 : decode prog_7_method_2_code 23 = .ok (.aload_n 1, 1) := by decide +kernel
theorem d_Test_take_24 : decode prog_7_method_2_code 24 = .ok (.getfield 25, 3) := by decide +kernel
theorem d_Test_take_27 : decode prog_7_method_2_code 27 = .ok (.ishl, 1) := by decide +kernel
theorem d_Test_take_28 : decode prog_7_method_2_code 28 = .ok (.ior, 1) := by decide +kernel
theorem d_Test_take_29 : decode prog_7_method_2_code 29 = .ok (.putfield 30, 3) := by decide +kernel
theorem d_Test_take_32 : decode prog_7_method_2_code 32 = .ok (.return_, 1) := by decide +kernel
abbrev m_Tr_init : MethodName × ByteArray × Nat × Option FieldType := (⟨"TestText$Trace", "<init>", "()V"⟩, prog_8_method_1_code, 1, (Option.none : Option FieldType))
theorem d_Tr_init_0 : decode prog_8_method_1_code 0 = .ok (.aload_n 0, 1) := by decide +kernel
theorem d_Tr_init_1 : decode prog_8_method_1_code 1 = .ok (.invokespecial 3, 3) := by decide +kernel
theorem d_Tr_init_4 : decode prog_8_method_1_code 4 = .ok (.aload_n 0, 1) := by decide +kernel
theorem d_Tr_init_5 : decode prog_8_method_1_code 5 = .ok (.sipush 2000, 3) := by decide +kernel
theorem d_Tr_init_8 : decode prog_8_method_1_code 8 = .ok (.newarray .int, 2) := by decide +kernel
theorem d_Tr_init_10 : decode prog_8_method_1_code 10 = .ok (.putfield 9, 3) := by decide +kernel
theorem d_Tr_init_13 : decode prog_8_method_1_code 13 = .ok (.aload_n 0, 1) := by decide +kernel
theorem d_Tr_init_14 : decode prog_8_method_1_code 14 = .ok (.sipush 2000, 3) := by decide +kernel
theorem d_Tr_init_17 : decode prog_8_method_1_code 17 = .ok (.newarray .int, 2) := by decide +kernel
theorem d_Tr_init_19 : decode prog_8_method_1_code 19 = .ok (.putfield 15, 3) := by decide +kernel
theorem d_Tr_init_22 : decode prog_8_method_1_code 22 = .ok (.aload_n 0, 1) := by decide +kernel
theorem d_Tr_init_23 : decode prog_8_method_1_code 23 = .ok (.sipush 2000, 3) := by decide +kernel
theorem d_Tr_init_26 : decode prog_8_method_1_code 26 = .ok (.newarray .int, 2) := by decide +kernel
theorem d_Tr_init_28 : decode prog_8_method_1_code 28 = .ok (.putfield 18, 3) := by decide +kernel
theorem d_Tr_init_31 : decode prog_8_method_1_code 31 = .ok (.aload_n 0, 1) := by decide +kernel
theorem d_Tr_init_32 : decode prog_8_method_1_code 32 = .ok (.bipush 100, 2) := by decide +kernel
theorem d_Tr_init_34 : decode prog_8_method_1_code 34 = .ok (.newarray .int, 2) := by decide +kernel
theorem d_Tr_init_36 : decode prog_8_method_1_code 36 = .ok (.putfield 21, 3) := by decide +kernel
theorem d_Tr_init_39 : decode prog_8_method_1_code 39 = .ok (.aload_n 0, 1) := by decide +kernel
theorem d_Tr_init_40 : decode prog_8_method_1_code 40 = .ok (.iconst (-1), 1) := by decide +kernel
theorem d_Tr_init_41 : decode prog_8_method_1_code 41 = .ok (.putfield 24, 3) := by decide +kernel
theorem d_Tr_init_44 : decode prog_8_method_1_code 44 = .ok (.return_, 1) := by decide +kernel
abbrev m_Tr_forget : MethodName × ByteArray × Nat × Option FieldType := (⟨"TestText$Trace", "forget", "()V"⟩, prog_8_method_2_code, 1, (Option.none : Option FieldType))
theorem d_Tr_forget_0 : decode prog_8_method_2_code 0 = .ok (.aload_n 0, 1) := by decide +kernel
theorem d_Tr_forget_1 : decode prog_8_method_2_code 1 = .ok (.iconst 0, 1) := by decide +kernel
theorem d_Tr_forget_2 : decode prog_8_method_2_code 2 = .ok (.putfield 28, 3) := by decide +kernel
theorem d_Tr_forget_5 : decode prog_8_method_2_code 5 = .ok (.aload_n 0, 1) := by decide +kernel
theorem d_Tr_forget_6 : decode prog_8_method_2_code 6 = .ok (.iconst 0, 1) := by decide +kernel
theorem d_Tr_forget_7 : decode prog_8_method_2_code 7 = .ok (.putfield 31, 3) := by decide +kernel
theorem d_Tr_forget_10 : decode prog_8_method_2_code 10 = .ok (.aload_n 0, 1) := by decide +kernel
theorem d_Tr_forget_11 : decode prog_8_method_2_code 11 = .ok (.iconst (-1), 1) := by decide +kernel
theorem d_Tr_forget_12 : decode prog_8_method_2_code 12 = .ok (.putfield 24, 3) := by decide +kernel
theorem d_Tr_forget_15 : decode prog_8_method_2_code 15 = .ok (.return_, 1) := by decide +kernel
abbrev m_Tr_isFull : MethodName × ByteArray × Nat × Option FieldType := (⟨"TestText$Trace", "isFull", "()Z"⟩, prog_8_method_3_code, 1, (Option.some FieldType.boolean))
theorem d_Tr_isFull_0 : decode prog_8_method_3_code 0 = .ok (.aload_n 0, 1) := by decide +kernel
theorem d_Tr_isFull_1 : decode prog_8_method_3_code 1 = .ok (.getfield 28, 3) := by decide +kernel
theorem d_Tr_isFull_4 : decode prog_8_method_3_code 4 = .ok (.sipush 2000, 3) := by decide +kernel
theorem d_Tr_isFull_7 : decode prog_8_method_3_code 7 = .ok (.if_icmp .lt 7, 3) := by decide +kernel
theorem d_Tr_isFull_10 : decode prog_8_method_3_code 10 = .ok (.iconst 1, 1) := by decide +kernel
theorem d_Tr_isFull_11 : decode prog_8_method_3_code 11 = .ok (.goto 4, 3) := by decide +kernel
theorem d_Tr_isFull_14 : decode prog_8_method_3_code 14 = .ok (.iconst 0, 1) := by decide +kernel
theorem d_Tr_isFull_15 : decode prog_8_method_3_code 15 = .ok (.ireturn, 1) := by decide +kernel
abbrev m_Tr_add : MethodName × ByteArray × Nat × Option FieldType := (⟨"TestText$Trace", "add", "(III)V"⟩, prog_8_method_5_code, 4, (Option.none : Option FieldType))
theorem d_Tr_add_0 : decode prog_8_method_5_code 0 = .ok (.aload_n 0, 1) := by decide +kernel
theorem d_Tr_add_1 : decode prog_8_method_5_code 1 = .ok (.invokevirtual 34, 3) := by decide +kernel
theorem d_Tr_add_4 : decode prog_8_method_5_code 4 = .ok (.ifCond .ne 43, 3) := by decide +kernel
theorem d_Tr_add_7 : decode prog_8_method_5_code 7 = .ok (.aload_n 0, 1) := by decide +kernel
theorem d_Tr_add_8 : decode prog_8_method_5_code 8 = .ok (.getfield 9, 3) := by decide +kernel
theorem d_Tr_add_11 : decode prog_8_method_5_code 11 = .ok (.aload_n 0, 1) := by decide +kernel
theorem d_Tr_add_12 : decode prog_8_method_5_code 12 = .ok (.getfield 28, 3) := by decide +kernel
theorem d_Tr_add_15 : decode prog_8_method_5_code 15 = .ok (.iload_n 1, 1) := by decide +kernel
theorem d_Tr_add_16 : decode prog_8_method_5_code 16 = .ok (.iastore, 1) := by decide +kernel
theorem d_Tr_add_17 : decode prog_8_method_5_code 17 = .ok (.aload_n 0, 1) := by decide +kernel
theorem d_Tr_add_18 : decode prog_8_method_5_code 18 = .ok (.getfield 15, 3) := by decide +kernel
theorem d_Tr_add_21 : decode prog_8_method_5_code 21 = .ok (.aload_n 0, 1) := by decide +kernel
theorem d_Tr_add_22 : decode prog_8_method_5_code 22 = .ok (.getfield 28, 3) := by decide +kernel
theorem d_Tr_add_25 : decode prog_8_method_5_code 25 = .ok (.iload_n 2, 1) := by decide +kernel
theorem d_Tr_add_26 : decode prog_8_method_5_code 26 = .ok (.iastore, 1) := by decide +kernel
theorem d_Tr_add_27 : decode prog_8_method_5_code 27 = .ok (.aload_n 0, 1) := by decide +kernel
theorem d_Tr_add_28 : decode prog_8_method_5_code 28 = .ok (.getfield 18, 3) := by decide +kernel
theorem d_Tr_add_31 : decode prog_8_method_5_code 31 = .ok (.aload_n 0, 1) := by decide +kernel
theorem d_Tr_add_32 : decode prog_8_method_5_code 32 = .ok (.getfield 28, 3) := by decide +kernel
theorem d_Tr_add_35 : decode prog_8_method_5_code 35 = .ok (.iload_n 3, 1) := by decide +kernel
theorem d_Tr_add_36 : decode prog_8_method_5_code 36 = .ok (.iastore, 1) := by decide +kernel
theorem d_Tr_add_37 : decode prog_8_method_5_code 37 = .ok (.aload_n 0, 1) := by decide +kernel
theorem d_Tr_add_38 : decode prog_8_method_5_code 38 = .ok (.dup, 1) := by decide +kernel
theorem d_Tr_add_39 : decode prog_8_method_5_code 39 = .ok (.getfield 28, 3) := by decide +kernel
theorem d_Tr_add_42 : decode prog_8_method_5_code 42 = .ok (.iconst 1, 1) := by decide +kernel
theorem d_Tr_add_43 : decode prog_8_method_5_code 43 = .ok (.iadd, 1) := by decide +kernel
theorem d_Tr_add_44 : decode prog_8_method_5_code 44 = .ok (.putfield 28, 3) := by decide +kernel
theorem d_Tr_add_47 : decode prog_8_method_5_code 47 = .ok (.return_, 1) := by decide +kernel
abbrev m_Tr_addUndone : MethodName × ByteArray × Nat × Option FieldType := (⟨"TestText$Trace", "addUndone", "(I)V"⟩, prog_8_method_6_code, 2, (Option.none : Option FieldType))
theorem d_Tr_addUndone_0 : decode prog_8_method_6_code 0 = .ok (.aload_n 0, 1) := by decide +kernel
theorem d_Tr_addUndone_1 : decode prog_8_method_6_code 1 = .ok (.getfield 31, 3) := by decide +kernel
theorem d_Tr_addUndone_4 : decode prog_8_method_6_code 4 = .ok (.bipush 100, 2) := by decide +kernel
theorem d_Tr_addUndone_6 : decode prog_8_method_6_code 6 = .ok (.if_icmp .ge 23, 3) := by decide +kernel
theorem d_Tr_addUndone_9 : decode prog_8_method_6_code 9 = .ok (.aload_n 0, 1) := by decide +kernel
theorem d_Tr_addUndone_10 : decode prog_8_method_6_code 10 = .ok (.getfield 21, 3) := by decide +kernel
theorem d_Tr_addUndone_13 : decode prog_8_method_6_code 13 = .ok (.aload_n 0, 1) := by decide +kernel
theorem d_Tr_addUndone_14 : decode prog_8_method_6_code 14 = .ok (.getfield 31, 3) := by decide +kernel
theorem d_Tr_addUndone_17 : decode prog_8_method_6_code 17 = .ok (.iload_n 1, 1) := by decide +kernel
theorem d_Tr_addUndone_18 : decode prog_8_method_6_code 18 = .ok (.iastore, 1) := by decide +kernel
theorem d_Tr_addUndone_19 : decode prog_8_method_6_code 19 = .ok (.aload_n 0, 1) := by decide +kernel
theorem d_Tr_addUndone_20 : decode prog_8_method_6_code 20 = .ok (.dup, 1) := by decide +kernel
theorem d_Tr_addUndone_21 : decode prog_8_method_6_code 21 = .ok (.getfield 31, 3) := by decide +kernel
theorem d_Tr_addUndone_24 : decode prog_8_method_6_code 24 = .ok (.iconst 1, 1) := by decide +kernel
theorem d_Tr_addUndone_25 : decode prog_8_method_6_code 25 = .ok (.iadd, 1) := by decide +kernel
theorem d_Tr_addUndone_26 : decode prog_8_method_6_code 26 = .ok (.putfield 31, 3) := by decide +kernel
theorem d_Tr_addUndone_29 : decode prog_8_method_6_code 29 = .ok (.return_, 1) := by decide +kernel
abbrev m_Tr_undoneAt : MethodName × ByteArray × Nat × Option FieldType := (⟨"TestText$Trace", "undoneAt", "(I)I"⟩, prog_8_method_7_code, 2, (Option.some FieldType.int))
theorem d_Tr_undoneAt_0 : decode prog_8_method_7_code 0 = .ok (.iload_n 1, 1) := by decide +kernel
theorem d_Tr_undoneAt_1 : decode prog_8_method_7_code 1 = .ok (.ifCond .lt 11, 3) := by decide +kernel
theorem d_Tr_undoneAt_4 : decode prog_8_method_7_code 4 = .ok (.iload_n 1, 1) := by decide +kernel
theorem d_Tr_undoneAt_5 : decode prog_8_method_7_code 5 = .ok (.aload_n 0, 1) := by decide +kernel
theorem d_Tr_undoneAt_6 : decode prog_8_method_7_code 6 = .ok (.getfield 31, 3) := by decide +kernel
theorem d_Tr_undoneAt_9 : decode prog_8_method_7_code 9 = .ok (.if_icmp .lt 7, 3) := by decide +kernel
theorem d_Tr_undoneAt_12 : decode prog_8_method_7_code 12 = .ok (.iconst 0, 1) := by decide +kernel
theorem d_Tr_undoneAt_13 : decode prog_8_method_7_code 13 = .ok (.goto 9, 3) := by decide +kernel
theorem d_Tr_undoneAt_16 : decode prog_8_method_7_code 16 = .ok (.aload_n 0, 1) := by decide +kernel
theorem d_Tr_undoneAt_17 : decode prog_8_method_7_code 17 = .ok (.getfield 21, 3) := by decide +kernel
theorem d_Tr_undoneAt_20 : decode prog_8_method_7_code 20 = .ok (.iload_n 1, 1) := by decide +kernel
theorem d_Tr_undoneAt_21 : decode prog_8_method_7_code 21 = .ok (.iaload, 1) := by decide +kernel
theorem d_Tr_undoneAt_22 : decode prog_8_method_7_code 22 = .ok (.ireturn, 1) := by decide +kernel
abbrev m_Tr_firstDifference : MethodName × ByteArray × Nat × Option FieldType := (⟨"TestText$Trace", "firstDifference", "(LTestText$Trace;)I"⟩, prog_8_method_8_code, 4, (Option.some FieldType.int))
theorem d_Tr_firstDifference_0 : decode prog_8_method_8_code 0 = .ok (.aload_n 0, 1) := by decide +kernel
theorem d_Tr_firstDifference_1 : decode prog_8_method_8_code 1 = .ok (.getfield 28, 3) := by decide +kernel
theorem d_Tr_firstDifference_4 : decode prog_8_method_8_code 4 = .ok (.aload_n 1, 1) := by decide +kernel
theorem d_Tr_firstDifference_5 : decode prog_8_method_8_code 5 = .ok (.getfield 28, 3) := by decide +kernel
theorem d_Tr_firstDifference_8 : decode prog_8_method_8_code 8 = .ok (.invokestatic 38, 3) := by decide +kernel
theorem d_Tr_firstDifference_11 : decode prog_8_method_8_code 11 = .ok (.istore_n 2, 1) := by decide +kernel
theorem d_Tr_firstDifference_12 : decode prog_8_method_8_code 12 = .ok (.iconst 0, 1) := by decide +kernel
theorem d_Tr_firstDifference_13 : decode prog_8_method_8_code 13 = .ok (.istore_n 3, 1) := by decide +kernel
theorem d_Tr_firstDifference_14 : decode prog_8_method_8_code 14 = .ok (.iload_n 3, 1) := by decide +kernel
theorem d_Tr_firstDifference_15 : decode prog_8_method_8_code 15 = .ok (.iload_n 2, 1) := by decide +kernel
theorem d_Tr_firstDifference_16 : decode prog_8_method_8_code 16 = .ok (.if_icmp .ge 56, 3) := by decide +kernel
theorem d_Tr_firstDifference_19 : decode prog_8_method_8_code 19 = .ok (.aload_n 0, 1) := by decide +kernel
theorem d_Tr_firstDifference_20 : decode prog_8_method_8_code 20 = .ok (.getfield 9, 3) := by decide +kernel
theorem d_Tr_firstDifference_23 : decode prog_8_method_8_code 23 = .ok (.iload_n 3, 1) := by decide +kernel
theorem d_Tr_firstDifference_24 : decode prog_8_method_8_code 24 = .ok (.iaload, 1) := by decide +kernel
theorem d_Tr_firstDifference_25 : decode prog_8_method_8_code 25 = .ok (.aload_n 1, 1) := by decide +kernel
theorem d_Tr_firstDifference_26 : decode prog_8_method_8_code 26 = .ok (.getfield 9, 3) := by decide +kernel
theorem d_Tr_firstDifference_29 : decode prog_8_method_8_code 29 = .ok (.iload_n 3, 1) := by decide +kernel
theorem d_Tr_firstDifference_30 : decode prog_8_method_8_code 30 = .ok (.iaload, 1) := by decide +kernel
theorem d_Tr_firstDifference_31 : decode prog_8_method_8_code 31 = .ok (.if_icmp .ne 33, 3) := by decide +kernel
theorem d_Tr_firstDifference_34 : decode prog_8_method_8_code 34 = .ok (.aload_n 0, 1) := by decide +kernel
theorem d_Tr_firstDifference_35 : decode prog_8_method_8_code 35 = .ok (.getfield 15, 3) := by decide +kernel
theorem d_Tr_firstDifference_38 : decode prog_8_method_8_code 38 = .ok (.iload_n 3, 1) := by decide +kernel
theorem d_Tr_firstDifference_39 : decode prog_8_method_8_code 39 = .ok (.iaload, 1) := by decide +kernel
theorem d_Tr_firstDifference_40 : decode prog_8_method_8_code 40 = .ok (.aload_n 1, 1) := by decide +kernel
theorem d_Tr_firstDifference_41 : decode prog_8_method_8_code 41 = .ok (.getfield 15, 3) := by decide +kernel
theorem d_Tr_firstDifference_44 : decode prog_8_method_8_code 44 = .ok (.iload_n 3, 1) := by decide +kernel
theorem d_Tr_firstDifference_45 : decode prog_8_method_8_code 45 = .ok (.iaload, 1) := by decide +kernel
theorem d_Tr_firstDifference_46 : decode prog_8_method_8_code 46 = .ok (.if_icmp .ne 18, 3) := by decide +kernel
theorem d_Tr_firstDifference_49 : decode prog_8_method_8_code 49 = .ok (.aload_n 0, 1) := by decide +kernel
theorem d_Tr_firstDifference_50 : decode prog_8_method_8_code 50 = .ok (.getfield 18, 3) := by decide +kernel
theorem d_Tr_firstDifference_53 : decode prog_8_method_8_code 53 = .ok (.iload_n 3, 1) := by decide +kernel
theorem d_Tr_firstDifference_54 : decode prog_8_method_8_code 54 = .ok (.iaload, 1) := by decide +kernel
theorem d_Tr_firstDifference_55 : decode prog_8_method_8_code 55 = .ok (.aload_n 1, 1) := by decide +kernel
theorem d_Tr_firstDifference_56 : decode prog_8_method_8_code 56 = .ok (.getfield 18, 3) := by decide +kernel
theorem d_Tr_firstDifference_59 : decode prog_8_method_8_code 59 = .ok (.iload_n 3, 1) := by decide +kernel
theorem d_Tr_firstDifference_60 : decode prog_8_method_8_code 60 = .ok (.iaload, 1) := by decide +kernel
theorem d_Tr_firstDifference_61 : decode prog_8_method_8_code 61 = .ok (.if_icmp .eq 5, 3) := by decide +kernel
theorem d_Tr_firstDifference_64 : decode prog_8_method_8_code 64 = .ok (.iload_n 3, 1) := by decide +kernel
theorem d_Tr_firstDifference_65 : decode prog_8_method_8_code 65 = .ok (.ireturn, 1) := by decide +kernel
theorem d_Tr_firstDifference_66 : decode prog_8_method_8_code 66 = .ok (.iinc 3 1, 3) := by decide +kernel
theorem d_Tr_firstDifference_69 : decode prog_8_method_8_code 69 = .ok (.goto (-55), 3) := by decide +kernel
theorem d_Tr_firstDifference_72 : decode prog_8_method_8_code 72 = .ok (.aload_n 0, 1) := by decide +kernel
theorem d_Tr_firstDifference_73 : decode prog_8_method_8_code 73 = .ok (.getfield 28, 3) := by decide +kernel
theorem d_Tr_firstDifference_76 : decode prog_8_method_8_code 76 = .ok (.aload_n 1, 1) := by decide +kernel
theorem d_Tr_firstDifference_77 : decode prog_8_method_8_code 77 = .ok (.getfield 28, 3) := by decide +kernel
theorem d_Tr_firstDifference_80 : decode prog_8_method_8_code 80 = .ok (.if_icmp .ne 7, 3) := by decide +kernel
theorem d_Tr_firstDifference_83 : decode prog_8_method_8_code 83 = .ok (.iconst (-1), 1) := by decide +kernel
theorem d_Tr_firstDifference_84 : decode prog_8_method_8_code 84 = .ok (.goto 4, 3) := by decide +kernel
theorem d_Tr_firstDifference_87 : decode prog_8_method_8_code 87 = .ok (.iload_n 2, 1) := by decide +kernel
theorem d_Tr_firstDifference_88 : decode prog_8_method_8_code 88 = .ok (.ireturn, 1) := by decide +kernel
abbrev m_Tr_hasStep : MethodName × ByteArray × Nat × Option FieldType := (⟨"TestText$Trace", "hasStep", "(I)Z"⟩, prog_8_method_4_code, 2, (Option.some FieldType.boolean))
theorem d_Tr_hasStep_0 : decode prog_8_method_4_code 0 = .ok (.iload_n 1, 1) := by decide +kernel
theorem d_Tr_hasStep_1 : decode prog_8_method_4_code 1 = .ok (.ifCond .lt 15, 3) := by decide +kernel
theorem d_Tr_hasStep_4 : decode prog_8_method_4_code 4 = .ok (.iload_n 1, 1) := by decide +kernel
theorem d_Tr_hasStep_5 : decode prog_8_method_4_code 5 = .ok (.aload_n 0, 1) := by decide +kernel
theorem d_Tr_hasStep_6 : decode prog_8_method_4_code 6 = .ok (.getfield 28, 3) := by decide +kernel
theorem d_Tr_hasStep_9 : decode prog_8_method_4_code 9 = .ok (.if_icmp .ge 7, 3) := by decide +kernel
theorem d_Tr_hasStep_12 : decode prog_8_method_4_code 12 = .ok (.iconst 1, 1) := by decide +kernel
theorem d_Tr_hasStep_13 : decode prog_8_method_4_code 13 = .ok (.goto 4, 3) := by decide +kernel
theorem d_Tr_hasStep_16 : decode prog_8_method_4_code 16 = .ok (.iconst 0, 1) := by decide +kernel
theorem d_Tr_hasStep_17 : decode prog_8_method_4_code 17 = .ok (.ireturn, 1) := by decide +kernel
